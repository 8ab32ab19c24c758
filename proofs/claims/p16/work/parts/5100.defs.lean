section
noncomputable def zX9_isRank_15  (y0 : Int32) : Option (Int32) := dG (dbl y0) (some y0)
noncomputable def zX9_isRank_14   : Option (Int32) := zX9_isRank_15  0
noncomputable def zX9_isRank (p1 : Int32) : Option (Int32) := if p1 < 0 then zX9_isRank_14   else if 6 ≤ p1 then zX9_isRank_14   else zX9_isRank_15  1
noncomputable def zX9_isBit_14  (y0 : Int32) : Option (Int32) := dG (dbl y0) (some y0)
noncomputable def zX9_isBit_9   : Option (Int32) := zX9_isBit_14  1
noncomputable def zX9_isBit (p1 : Int32) : Option (Int32) := if p1 = 0 then zX9_isBit_9   else if p1 = 1 then zX9_isBit_9   else zX9_isBit_14  0
noncomputable def zX8_has_s2_2b (k2 : dK → Int32 → Int32 → Option (Int32 × dK)) (q : dK) (x1 : Int32) (x2 : Int32) : Option (Int32 × dK) := if (q.1 2 2) ≤ x2 then some (0, q) else dG (dg x2 6) (dL (q.1 3 (Int32.toNatClampNeg x2)) (fun v2 => if v2 = x1 then some (1, q) else k2 q x1 (x2 + 1)))
noncomputable def zX8_has_s2_2  (n : Nat) (q : dK) (x1 : Int32) (x2 : Int32) : Option (Int32 × dK) := dFix (α := dK × Int32 × Int32) (fun k a => zX8_has_s2_2b  (fun q x1 x2 => k (q, x1, x2)) a.1 a.2.1 a.2.2) n (q, x1, x2)
noncomputable def zX8_has_s2 (q : dK) (p1 : Int32) : Option (Int32 × dK) := zX8_has_s2_2  dF q p1 0
noncomputable def zX8_add_s2 (q : dK) (p1 : Int32) (p2 : Int32) : Option (Int32 × dK) := if (q.1 2 2) < 6 then dG (dg (q.1 2 2) 6) (dL (cui q 3 (Int32.toNatClampNeg (q.1 2 2)) p1) (fun q2 => dG (dg (q2.1 2 2) 6) (dL (cui q2 4 (Int32.toNatClampNeg (q2.1 2 2)) p2) (fun q4 => dL (cui q4 2 2 ((q4.1 2 2) + 1 : Int32)) (fun q5 => some (1, q5)))))) else some (0, q)
noncomputable def zX0_clear_s10 (q : dK)  : Option (dK) := dL (cui q 10 2 0) (fun q1 => some q1)
noncomputable def zX9_accept_s0 (q : dK) (p1 : Int32) : Option (Int32 × dK) := dL (cui q 0 18 0) (fun q1 => some (p1, q1))
noncomputable def zX9_refuse_s0_26  (q : dK) (x1 : Int32) : Option (Int32 × dK) := some (x1, q)
noncomputable def zX9_refuse_s0 (q : dK) (p1 : Int32) : Option (Int32 × dK) := dL (cui q 0 18 p1) (fun q1 => if 0 ≤ p1 then zX9_refuse_s0_26  q1 p1 else if p1 < (-6) then zX9_refuse_s0_26  q1 p1 else dG (dg (-p1) 7) (dL (q1.1 48 (Int32.toNatClampNeg (-p1))) (fun v3 => dG (dg (-p1) 7) (dL (cui q1 48 (Int32.toNatClampNeg (-p1)) (v3 + 1 : Int32)) (fun q5 => zX9_refuse_s0_26  q5 p1)))))
noncomputable def zX9_floor_s0_14  (q : dK)  : Option (Int32 × dK) := dB (zX9_refuse_s0 q (-1)) (fun r1 q3 => some (r1, q3))
noncomputable def zX9_floor_s0 (q : dK) (p1 : Int32) (p2 : Int32) : Option (Int32 × dK) := dV (zX9_isRank p1) (fun r1 => if r1 = 0 then zX9_floor_s0_14  q else dV (zX9_isBit p2) (fun r3 => if r3 = 0 then zX9_floor_s0_14  q else dB (zX8_has_s2 q p1) (fun r5 q7 => if r5 = 0 then dB (zX8_add_s2 q7 p1 p2) (fun r8 q10 => if r8 = 0 then dB (zX9_refuse_s0 q10 (-5)) (fun r17 q19 => some (r17, q19)) else dV (zX0_clear_s10 q10 ) (fun q13 => dB (zX9_accept_s0 q13 ((q13.1 2 2) - 1 : Int32)) (fun r14 q16 => some (r14, q16)))) else dB (zX9_refuse_s0 q7 (-3)) (fun r20 q22 => some (r20, q22)))))
noncomputable def zX8_isFloor_s2_17  (q : dK) (y0 : Int32) : Option (Int32 × dK) := dG (dbl y0) (some (y0, q))
noncomputable def zX8_isFloor_s2_16  (q : dK)  : Option (Int32 × dK) := zX8_isFloor_s2_17  q 0
noncomputable def zX8_isFloor_s2 (q : dK) (p1 : Int32) : Option (Int32 × dK) := if p1 < 0 then zX8_isFloor_s2_16  q else if (q.1 2 2) ≤ p1 then zX8_isFloor_s2_16  q else zX8_isFloor_s2_17  q 1
noncomputable def zX8_tell_s2_36  (q : dK) (y0 : Int32) : Option (Int32 × dK) := some (y0, q)
noncomputable def zX8_tell_s2_15  (q : dK)  : Option (Int32 × dK) := some ((-1), q)
noncomputable def zX8_tell_s2 (q : dK) (p1 : Int32) (p2 : Int32) : Option (Int32 × dK) := dB (zX8_isFloor_s2 q p1) (fun r1 q3 => if r1 = 0 then zX8_tell_s2_15  q3 else dV (zX9_isBit p2) (fun r4 => if r4 = 0 then zX8_tell_s2_15  q3 else if p2 = 0 then dG (dg p1 6) (dL (q3.1 3 (Int32.toNatClampNeg p1)) (fun v9 => zX8_tell_s2_36  q3 v9)) else dG (dg p1 6) (dL (q3.1 4 (Int32.toNatClampNeg p1)) (fun v7 => zX8_tell_s2_36  q3 v7))))
noncomputable def zX6_isLaw_s1_17  (q : dK) (y0 : Int32) : Option (Int32 × dK) := dG (dbl y0) (some (y0, q))
noncomputable def zX6_isLaw_s1_16  (q : dK)  : Option (Int32 × dK) := zX6_isLaw_s1_17  q 0
noncomputable def zX6_isLaw_s1 (q : dK) (p1 : Int32) : Option (Int32 × dK) := if p1 < 0 then zX6_isLaw_s1_16  q else if (q.1 1 8) ≤ p1 then zX6_isLaw_s1_16  q else zX6_isLaw_s1_17  q 1
noncomputable def zX6_lawAt_s1_18  (q : dK)  : Option (Int32 × dK) := some (0, q)
noncomputable def zX6_lawAt_s1 (q : dK) (p1 : Int32) : Option (Int32 × dK) := dB (zX6_isLaw_s1 q p1) (fun r1 q3 => if r1 = 0 then zX6_lawAt_s1_18  q3 else dG (dg p1 6) (dL (q3.1 7 (Int32.toNatClampNeg p1)) (fun v5 => some (v5, q3))))
noncomputable def zX1_seat_s20_n (q : dK) (p2 : Int32) : Option (dK) := dL (cui q 20 2 0) (fun q1 => dL (cui q1 21 8 p2) (fun q2 => some q2))
noncomputable def zX1_seat_s20_l (q : dK) (p1 : Int32) (p2 : Int32) : Option (dK) := dG (dlg q p1) (dL (cui q 20 2 p1) (fun q2 => dL (cui q2 21 8 p2) (fun q3 => some q3)))
noncomputable def zX9_seated_s0 (q : dK)  : Option (dK) := dB (zX6_lawAt_s1 q (q.1 1 9)) (fun r1 q3 => if r1 = 0 then dV (zX1_seat_s20_n q3 (q3.1 1 2)) (fun q7 => some q7) else dV (zX1_seat_s20_l q3 r1 (q3.1 1 2)) (fun q10 => some q10))
noncomputable def zX1_setCommon_s20 (q : dK) (p1 : Int32) (p2 : Int32) : Option (dK) := dL (cui q 21 4 p1) (fun q1 => dL (cui q1 21 7 p2) (fun q2 => some q2))
noncomputable def zX2_join_s18_181  (q : dK)  : Option (Int32 × dK) := dL (cui q 18 1 1) (fun q1 => some (0, q1))
noncomputable def zX2_join_s18_163  (q : dK) (x6 : Int64) : Option (Int32 × dK) := if 0 < (lg_cmp x6 1000000000) then zX2_join_s18_181  q else if 0 ≤ (lg_cmp x6 (-1000000000)) then some (Int64.toInt32 x6, q) else zX2_join_s18_181  q
noncomputable def zX2_join_s18_161  (q : dK) (y0 : Int64) : Option (Int32 × dK) := zX2_join_s18_163  q y0
noncomputable def zX2_join_s18_125  (q : dK) (y0 : Int64) : Option (Int32 × dK) := zX2_join_s18_163  q y0
noncomputable def zX2_join_s18_108  (q : dK) (y0 : Int64) : Option (Int32 × dK) := zX2_join_s18_163  q y0
noncomputable def zX2_join_s18_91  (q : dK) (y0 : Int64) : Option (Int32 × dK) := zX2_join_s18_163  q y0
noncomputable def zX2_join_s18 (q : dK) (p1 : Int32) (p2 : Int64) (p3 : Int64) : Option (Int32 × dK) := if p1 = 2 then zX2_join_s18_163  q (p2 + p3 : Int64) else if p1 = 3 then zX2_join_s18_163  q (p2 - p3 : Int64) else if p1 = 4 then zX2_join_s18_163  q (p2 * p3 : Int64) else if p1 = 5 then if (lg_cmp p3 0) = 0 then dL (cui q 18 1 1) (fun q7 => zX2_join_s18_163  q7 0) else if p1 = 5 then dG (dnl p3) (zX2_join_s18_161  q (p2 / p3 : Int64)) else dG (dnl p3) (zX2_join_s18_161  q (p2 - p2 / p3 * p3 : Int64)) else if p1 = 6 then if (lg_cmp p3 0) = 0 then dL (cui q 18 1 1) (fun q11 => zX2_join_s18_163  q11 0) else if p1 = 5 then dG (dnl p3) (zX2_join_s18_161  q (p2 / p3 : Int64)) else dG (dnl p3) (zX2_join_s18_161  q (p2 - p2 / p3 * p3 : Int64)) else if p1 = 7 then if 0 ≤ (lg_cmp p2 p3) then zX2_join_s18_91  q 0 else zX2_join_s18_91  q 1 else if p1 = 8 then if (lg_cmp p2 p3) ≤ 0 then zX2_join_s18_108  q 0 else zX2_join_s18_108  q 1 else if p1 = 9 then if (lg_cmp p2 p3) = 0 then zX2_join_s18_125  q 1 else zX2_join_s18_125  q 0 else if (lg_cmp p3 0) = 0 then dL (cui q 18 1 1) (fun q17 => zX2_join_s18_163  q17 0) else if p1 = 5 then dG (dnl p3) (zX2_join_s18_161  q (p2 / p3 : Int64)) else dG (dnl p3) (zX2_join_s18_161  q (p2 - p2 / p3 * p3 : Int64))
noncomputable def zX2_valueOf_s18_l_s21_345  (q : dK) (y0 : Int32) : Option (Int32 × dK) := some (y0, q)
noncomputable def zX2_valueOf_s18_l_s21_328  (q : dK)  : Option (Int32 × dK) := if (q.1 18 1) = 0 then zX2_valueOf_s18_l_s21_345  q (q.1 19 0) else zX2_valueOf_s18_l_s21_345  q 0
noncomputable def zX2_valueOf_s18_l_s21_322 (k32 : dK → Int32 → Int32 → Int32 → Int32 → Int32 → Option (Int32 × dK)) (q : dK) (x1 : Int32) (x5 : Int32) (x6 : Int32) (x7 : Int32) (x8 : Int32) : Option (Int32 × dK) := k32 q x1 x5 x6 x7 (x8 + 1)
noncomputable def zX2_valueOf_s18_l_s21_281 (k32 : dK → Int32 → Int32 → Int32 → Int32 → Int32 → Option (Int32 × dK)) (q : dK) (x1 : Int32) (x6 : Int32) (x7 : Int32) (x8 : Int32) (y0 : Int32) : Option (Int32 × dK) := zX2_valueOf_s18_l_s21_322 k32 q x1 y0 x6 x7 x8
noncomputable def zX2_valueOf_s18_l_s21_265 (k32 : dK → Int32 → Int32 → Int32 → Int32 → Int32 → Option (Int32 × dK)) (q : dK) (x1 : Int32) (x5 : Int32) (x7 : Int32) (x8 : Int32) (x12 : Int32) (y0 : Int32) : Option (Int32 × dK) := if x12 = 0 then zX2_valueOf_s18_l_s21_281 k32 q x1 y0 x7 x8 (x5 - 1 : Int32) else zX2_valueOf_s18_l_s21_281 k32 q x1 y0 x7 x8 x5
noncomputable def zX2_valueOf_s18_l_s21_251 (k32 : dK → Int32 → Int32 → Int32 → Int32 → Int32 → Option (Int32 × dK)) (q : dK) (x1 : Int32) (x5 : Int32) (x6 : Int32) (x7 : Int32) (x8 : Int32) (x10 : Int32) (y0 : Int32) : Option (Int32 × dK) := if y0 = 0 then zX2_valueOf_s18_l_s21_265 k32 q x1 x5 x7 x8 y0 x6 else zX2_valueOf_s18_l_s21_265 k32 q x1 x5 x7 x8 y0 x10
noncomputable def zX2_valueOf_s18_l_s21_243 (k32 : dK → Int32 → Int32 → Int32 → Int32 → Int32 → Option (Int32 × dK)) (q : dK) (x1 : Int32) (x5 : Int32) (x6 : Int32) (x7 : Int32) (x8 : Int32) (x10 : Int32) (y0 : Int32) (y1 : Int32) : Option (Int32 × dK) := if y1 = y0 then zX2_valueOf_s18_l_s21_251 k32 q x1 x5 x6 x7 x8 x10 1 else zX2_valueOf_s18_l_s21_251 k32 q x1 x5 x6 x7 x8 x10 0
noncomputable def zX2_valueOf_s18_l_s21_222 (k32 : dK → Int32 → Int32 → Int32 → Int32 → Int32 → Option (Int32 × dK)) (q : dK) (x1 : Int32) (x5 : Int32) (x6 : Int32) (x7 : Int32) (x8 : Int32) (x9 : Int32) (x10 : Int32) : Option (Int32 × dK) := dG (dg (x5 - 1 : Int32) 64) (dL (q.1 19 (Int32.toNatClampNeg (x5 - 1 : Int32))) (fun v2 => if x9 = 12 then zX2_valueOf_s18_l_s21_243 k32 q x1 x5 x6 x7 x8 x10 1 v2 else zX2_valueOf_s18_l_s21_243 k32 q x1 x5 x6 x7 x8 x10 0 v2))
noncomputable def zX2_valueOf_s18_l_s21_171 (k32 : dK → Int32 → Int32 → Int32 → Int32 → Int32 → Option (Int32 × dK)) (q : dK) (x1 : Int32) (x5 : Int32) (x6 : Int32) (x7 : Int32) (x8 : Int32) (y0 : Int32) (y1 : Int32) : Option (Int32 × dK) := dG (dg y1 64) (dL (cui q 19 (Int32.toNatClampNeg y1) y0) (fun q2 => zX2_valueOf_s18_l_s21_322 k32 q2 x1 (x5 + 1) x6 x7 x8))
noncomputable def zX2_valueOf_s18_l_s21_150 (k32 : dK → Int32 → Int32 → Int32 → Int32 → Int32 → Option (Int32 × dK)) (q : dK) (x1 : Int32) (x5 : Int32) (x6 : Int32) (x7 : Int32) (x8 : Int32) (x9 : Int32) (x10 : Int32) : Option (Int32 × dK) := if x9 = 0 then zX2_valueOf_s18_l_s21_171 k32 q x1 x5 x6 x7 x8 x10 x5 else dG (dg x10 9) (dL (q.1 21 (Int32.toNatClampNeg x10)) (fun v2 => zX2_valueOf_s18_l_s21_171 k32 q x1 x5 x6 x7 x8 v2 x5))
noncomputable def zX2_valueOf_s18_l_s21_139 (k32 : dK → Int32 → Int32 → Int32 → Int32 → Int32 → Option (Int32 × dK)) (q : dK) (x1 : Int32) (x5 : Int32) (x6 : Int32) (x7 : Int32) (x8 : Int32) (x9 : Int32) (x10 : Int32) : Option (Int32 × dK) := if x9 = 0 then zX2_valueOf_s18_l_s21_150 k32 q x1 x5 x6 x7 x8 x9 x10 else if x9 = 1 then zX2_valueOf_s18_l_s21_150 k32 q x1 x5 x6 x7 x8 x9 x10 else if x9 = 10 then dG (dg (x5 - 1 : Int32) 64) (dL (q.1 19 (Int32.toNatClampNeg (x5 - 1 : Int32))) (fun v11 => dG (dg (x5 - 1 : Int32) 64) (dL (cui q 19 (Int32.toNatClampNeg (x5 - 1 : Int32)) (1 - v11 : Int32)) (fun q13 => zX2_valueOf_s18_l_s21_322 k32 q13 x1 x5 x6 x7 x8)))) else if x9 = 11 then zX2_valueOf_s18_l_s21_222 k32 q x1 x5 x6 x7 x8 x9 x10 else if x9 = 12 then zX2_valueOf_s18_l_s21_222 k32 q x1 x5 x6 x7 x8 x9 x10 else dG (dg ((x5 + (-1)) - 1 : Int32) 64) (dL (q.1 19 (Int32.toNatClampNeg ((x5 + (-1)) - 1 : Int32))) (fun v2 => dG (dg (x5 + (-1)) 64) (dL (q.1 19 (Int32.toNatClampNeg (x5 + (-1)))) (fun v4 => dB (zX2_join_s18 q x9 (Int32.toInt64 v2) (Int32.toInt64 v4)) (fun r5 q7 => dG (dg ((x5 + (-1)) - 1 : Int32) 64) (dL (cui q7 19 (Int32.toNatClampNeg ((x5 + (-1)) - 1 : Int32)) r5) (fun q9 => zX2_valueOf_s18_l_s21_322 k32 q9 x1 (x5 + (-1)) x6 x7 x8)))))))
noncomputable def zX2_valueOf_s18_l_s21_131 (k32 : dK → Int32 → Int32 → Int32 → Int32 → Int32 → Option (Int32 × dK)) (q : dK) (x1 : Int32) (x5 : Int32) (x6 : Int32) (x7 : Int32) (x8 : Int32) : Option (Int32 × dK) := dL (cui q 18 1 1) (fun q1 => zX2_valueOf_s18_l_s21_322 k32 q1 x1 x5 x6 x7 x8)
noncomputable def zX2_valueOf_s18_l_s21_98 (k32 : dK → Int32 → Int32 → Int32 → Int32 → Int32 → Option (Int32 × dK)) (q : dK) (x1 : Int32) (x5 : Int32) (x6 : Int32) (x7 : Int32) (x8 : Int32) (x9 : Int32) (x10 : Int32) (y0 : Int32) : Option (Int32 × dK) := if x5 < y0 then zX2_valueOf_s18_l_s21_131 k32 q x1 x5 (x6 + 1) x7 x8 else if 64 ≤ x5 then zX2_valueOf_s18_l_s21_131 k32 q x1 x5 (x6 + 1) x7 x8 else if x9 = 1 then if x10 < 9 then zX2_valueOf_s18_l_s21_139 k32 q x1 x5 (x6 + 1) x7 x8 x9 x10 else zX2_valueOf_s18_l_s21_131 k32 q x1 x5 (x6 + 1) x7 x8 else zX2_valueOf_s18_l_s21_139 k32 q x1 x5 (x6 + 1) x7 x8 x9 x10
noncomputable def zX2_valueOf_s18_l_s21_32b (k32 : dK → Int32 → Int32 → Int32 → Int32 → Int32 → Option (Int32 × dK)) (q : dK) (x1 : Int32) (x5 : Int32) (x6 : Int32) (x7 : Int32) (x8 : Int32) : Option (Int32 × dK) := if x7 ≤ x8 then zX2_valueOf_s18_l_s21_328  q else if x7 ≤ x6 then zX2_valueOf_s18_l_s21_328  q else if (q.1 18 1) = 0 then dG (dlg q x1) (dG (dlg q x1) (dG (dg x6 (Int32.toNatClampNeg (dTx q x1).2.2.2.1)) (dL ((dTx q x1).2.2.2.2 5 (Int32.toNatClampNeg x6)) (fun v4 => dG (dlg q x1) (dG (dlg q x1) (dG (dg x6 (Int32.toNatClampNeg (dTx q x1).2.2.2.1)) (dL ((dTx q x1).2.2.2.2 5 (Int32.toNatClampNeg x6)) (fun v8 => if 1 < (v4 &&& 15 : Int32) then if 10 ≤ (v4 &&& 15 : Int32) then zX2_valueOf_s18_l_s21_98 k32 q x1 x5 x6 x7 x8 (v4 &&& 15 : Int32) (v8 >>> ((4 : Int32) &&& 31) : Int32) 1 else zX2_valueOf_s18_l_s21_98 k32 q x1 x5 x6 x7 x8 (v4 &&& 15 : Int32) (v8 >>> ((4 : Int32) &&& 31) : Int32) 2 else zX2_valueOf_s18_l_s21_98 k32 q x1 x5 x6 x7 x8 (v4 &&& 15 : Int32) (v8 >>> ((4 : Int32) &&& 31) : Int32) 0)))))))) else zX2_valueOf_s18_l_s21_328  q
noncomputable def zX2_valueOf_s18_l_s21_32  (n : Nat) (q : dK) (x1 : Int32) (x5 : Int32) (x6 : Int32) (x7 : Int32) (x8 : Int32) : Option (Int32 × dK) := dFix (α := dK × Int32 × Int32 × Int32 × Int32 × Int32) (fun k a => zX2_valueOf_s18_l_s21_32b  (fun q x1 x5 x6 x7 x8 => k (q, x1, x5, x6, x7, x8)) a.1 a.2.1 a.2.2.1 a.2.2.2.1 a.2.2.2.2.1 a.2.2.2.2.2) n (q, x1, x5, x6, x7, x8)
noncomputable def zX2_valueOf_s18_l_s21 (q : dK) (p1 : Int32) (p2 : Int32) (p3 : Int32) : Option (Int32 × dK) := dL (cui q 18 1 0) (fun q1 => dL (cui q1 19 0 1) (fun q2 => dG (dlg q2 p1) (dG (dlg q2 p1) (zX2_valueOf_s18_l_s21_32  dF q2 p1 0 p2 (mnI p3 (Int32.ofNat (Int32.toNatClampNeg (dTx q2 p1).2.2.2.1))) p2))))
noncomputable def zX1_anyHolds_s20_74 (k11 : dK → Int32 → Int32 → Option (Int32 × dK)) (q : dK) (x1 : Int32) (x2 : Int32) : Option (Int32 × dK) := k11 q x1 (x2 + 1)
noncomputable def zX1_anyHolds_s20_11b (k11 : dK → Int32 → Int32 → Option (Int32 × dK)) (q : dK) (x1 : Int32) (x2 : Int32) : Option (Int32 × dK) := dG (dlg q (q.1 20 2)) (dG (dlg q (q.1 20 2)) (if ((dTx q (q.1 20 2)).1) ≤ x2 then some (0, q) else dG (dlg q (q.1 20 2)) (dG (dlg q (q.1 20 2)) (dG (dlg q (q.1 20 2)) (dG (dg x2 (Int32.toNatClampNeg (dTx q (q.1 20 2)).2.2.1)) (dL ((dTx q (q.1 20 2)).2.2.2.2 0 (Int32.toNatClampNeg x2)) (fun v7 => if v7 = x1 then dG (dlg q (q.1 20 2)) (dG (dlg q (q.1 20 2)) (dG (dlg q (q.1 20 2)) (dG (dlg q (q.1 20 2)) (dG (dg x2 (Int32.toNatClampNeg (dTx q (q.1 20 2)).2.2.1)) (dL ((dTx q (q.1 20 2)).2.2.2.2 3 (Int32.toNatClampNeg x2)) (fun v13 => dG (dlg q (q.1 20 2)) (dG (dlg q (q.1 20 2)) (dG (dlg q (q.1 20 2)) (dG (dg x2 (Int32.toNatClampNeg (dTx q (q.1 20 2)).2.2.1)) (dL ((dTx q (q.1 20 2)).2.2.2.2 4 (Int32.toNatClampNeg x2)) (fun v18 => dB (zX2_valueOf_s18_l_s21 q (q.1 20 2) v13 v18) (fun r19 q21 => if r19 = 1 then some (1, q21) else zX1_anyHolds_s20_74 k11 q21 x1 x2)))))))))))) else zX1_anyHolds_s20_74 k11 q x1 x2)))))))
noncomputable def zX1_anyHolds_s20_11  (n : Nat) (q : dK) (x1 : Int32) (x2 : Int32) : Option (Int32 × dK) := dFix (α := dK × Int32 × Int32) (fun k a => zX1_anyHolds_s20_11b  (fun q x1 x2 => k (q, x1, x2)) a.1 a.2.1 a.2.2) n (q, x1, x2)
noncomputable def zX1_anyHolds_s20 (q : dK) (p1 : Int32) : Option (Int32 × dK) := if (q.1 20 2) = 0 then some (0, q) else zX1_anyHolds_s20_11  dF q p1 0
noncomputable def zX1_tips_s20_s2 (q : dK) (p2 : Int32) : Option (Int32 × dK) := dB (zX8_isFloor_s2 q p2) (fun r1 q3 => if r1 = 0 then some (0, q3) else dV (zX1_setCommon_s20 q3 (q3.1 2 2) (q3.1 2 4)) (fun q6 => dL (cui q6 21 0 (-1)) (fun q7 => dL (cui q7 21 1 (-1)) (fun q8 => dL (cui q8 21 2 (-1)) (fun q9 => dG (dg p2 6) (dL (q9.1 4 (Int32.toNatClampNeg p2)) (fun v11 => dL (cui q9 21 3 v11) (fun q12 => dG (dg p2 6) (dL (q12.1 3 (Int32.toNatClampNeg p2)) (fun v14 => dL (cui q12 21 5 v14) (fun q15 => dL (cui q15 21 6 p2) (fun q16 => dB (zX1_anyHolds_s20 q16 2) (fun r17 q19 => dG (dbl r17) (some (r17, q19)))))))))))))))
noncomputable def zX9_bit_9  (y0 : Int32) : Option (Int32) := some y0
noncomputable def zX9_bit (p1 : Int32) : Option (Int32) := if p1 = 0 then zX9_bit_9  0 else zX9_bit_9  1
noncomputable def zX9_at_s0_41  (q : dK) (y0 : Int32) : Option (Int32 × dK) := some (y0, q)
noncomputable def zX9_at_s0 (q : dK) (p1 : Int32) (p2 : Int32) : Option (Int32 × dK) := if p2 = 2 then dB (zX8_isFloor_s2 q p1) (fun r4 q6 => if r4 = 0 then zX9_at_s0_41  q6 (-1) else dV (zX9_seated_s0 q6 ) (fun q9 => dB (zX1_tips_s20_s2 q9 p1) (fun r10 q12 => dV (zX9_bit r10) (fun r13 => zX9_at_s0_41  q12 r13)))) else dB (zX8_tell_s2 q p1 p2) (fun r1 q3 => some (r1, q3))
noncomputable def zX1_setGrip_s20 (q : dK) (p1 : Int32) (p2 : Int32) (p3 : Int32) (p4 : Int32) : Option (dK) := dL (cui q 21 0 p1) (fun q1 => dL (cui q1 21 1 p2) (fun q2 => dL (cui q2 21 2 p3) (fun q3 => dL (cui q3 21 3 p4) (fun q4 => dL (cui q4 21 5 (-1)) (fun q5 => dL (cui q5 21 6 (-1)) (fun q6 => some q6))))))
noncomputable def zX1_setTurn_s20_s2 (q : dK) (p2 : Int32) : Option (dK) := dV (zX1_setCommon_s20 q (q.1 2 2) (q.1 2 4)) (fun q3 => dB (zX8_tell_s2 q3 0 0) (fun r4 q6 => dB (zX8_tell_s2 q6 p2 0) (fun r7 q9 => dB (zX8_tell_s2 q9 0 1) (fun r10 q12 => dV (zX1_setGrip_s20 q12 p2 r4 r7 r10) (fun q15 => some q15)))))
noncomputable def zX1_bars_s20_s2 (q : dK) (p2 : Int32) : Option (Int32 × dK) := dV (zX1_setTurn_s20_s2 q p2) (fun q3 => dB (zX1_anyHolds_s20 q3 1) (fun r4 q6 => dG (dbl r4) (some (r4, q6))))
noncomputable def zX1_pay_s20_132 (k24 : dK → Int32 → Option (Int32 × dK)) (q : dK) (x1 : Int32) : Option (Int32 × dK) := k24 q (x1 + (-1))
noncomputable def zX1_pay_s20_24b (k24 : dK → Int32 → Option (Int32 × dK)) (q : dK) (x1 : Int32) : Option (Int32 × dK) := if x1 < 0 then some (q.1 21 0, q) else dG (dlg q (q.1 20 2)) (dG (dlg q (q.1 20 2)) (dG (dlg q (q.1 20 2)) (dG (dg x1 (Int32.toNatClampNeg (dTx q (q.1 20 2)).2.2.1)) (dL ((dTx q (q.1 20 2)).2.2.2.2 0 (Int32.toNatClampNeg x1)) (fun v5 => if v5 = 0 then dG (dlg q (q.1 20 2)) (dG (dlg q (q.1 20 2)) (dG (dlg q (q.1 20 2)) (dG (dlg q (q.1 20 2)) (dG (dg x1 (Int32.toNatClampNeg (dTx q (q.1 20 2)).2.2.1)) (dL ((dTx q (q.1 20 2)).2.2.2.2 3 (Int32.toNatClampNeg x1)) (fun v11 => dG (dlg q (q.1 20 2)) (dG (dlg q (q.1 20 2)) (dG (dlg q (q.1 20 2)) (dG (dg x1 (Int32.toNatClampNeg (dTx q (q.1 20 2)).2.2.1)) (dL ((dTx q (q.1 20 2)).2.2.2.2 4 (Int32.toNatClampNeg x1)) (fun v16 => dB (zX2_valueOf_s18_l_s21 q (q.1 20 2) v11 v16) (fun r17 q19 => if r17 = 1 then dG (dlg q19 (q19.1 20 2)) (dG (dlg q19 (q19.1 20 2)) (dG (dlg q19 (q19.1 20 2)) (dG (dlg q19 (q19.1 20 2)) (dG (dg x1 (Int32.toNatClampNeg (dTx q19 (q19.1 20 2)).2.2.1)) (dL ((dTx q19 (q19.1 20 2)).2.2.2.2 2 (Int32.toNatClampNeg x1)) (fun v25 => dG (dlg q19 (q19.1 20 2)) (dG (dlg q19 (q19.1 20 2)) (dG (dlg q19 (q19.1 20 2)) (dG (dg x1 (Int32.toNatClampNeg (dTx q19 (q19.1 20 2)).2.2.1)) (dL ((dTx q19 (q19.1 20 2)).2.2.2.2 3 (Int32.toNatClampNeg x1)) (fun v30 => dB (zX2_valueOf_s18_l_s21 q19 (q19.1 20 2) v25 v30) (fun r31 q33 => if (q33.1 18 1) = 0 then some (mxI 0 (mnI 99 r31), q33) else zX1_pay_s20_132 k24 q33 x1)))))))))))) else zX1_pay_s20_132 k24 q19 x1)))))))))))) else zX1_pay_s20_132 k24 q x1)))))
noncomputable def zX1_pay_s20_24  (n : Nat) (q : dK) (x1 : Int32) : Option (Int32 × dK) := dFix (α := dK × Int32) (fun k a => zX1_pay_s20_24b  (fun q x1 => k (q, x1)) a.1 a.2) n (q, x1)
noncomputable def zX1_pay_s20 (q : dK)  : Option (Int32 × dK) := if (q.1 20 2) = 0 then some (q.1 21 0, q) else dG (dlg q (q.1 20 2)) (dG (dlg q (q.1 20 2)) (zX1_pay_s20_24  dF q (((dTx q (q.1 20 2)).1) - 1 : Int32)))
noncomputable def zX1_payOf_s20_s2 (q : dK) (p2 : Int32) : Option (Int32 × dK) := dV (zX1_setTurn_s20_s2 q p2) (fun q3 => dB (zX1_pay_s20 q3 ) (fun r4 q6 => some (r4, q6)))
noncomputable def zX9_asks_s0_68  (q : dK) (y0 : Int32) : Option (Int32 × dK) := some (y0, q)
noncomputable def zX9_asks_s0_19  (q : dK)  : Option (Int32 × dK) := some ((-1), q)
noncomputable def zX9_asks_s0 (q : dK) (p1 : Int32) (p2 : Int32) : Option (Int32 × dK) := if p1 < 1 then zX9_asks_s0_19  q else if p1 ≤ (q.1 2 2) then if p2 = 0 then dV (zX9_seated_s0 q ) (fun q11 => dB (zX1_payOf_s20_s2 q11 p1) (fun r12 q14 => some (r12, q14))) else if p2 = 1 then dV (zX9_seated_s0 q ) (fun q3 => dB (zX1_bars_s20_s2 q3 p1) (fun r4 q6 => dV (zX9_bit r4) (fun r7 => zX9_asks_s0_68  q6 r7))) else zX9_asks_s0_68  q (-1) else zX9_asks_s0_19  q
noncomputable def zX9_mostOfTerm (p1 : Int32) : Option (Int32) := if p1 = 0 then some 999 else if p1 = 1 then some 10 else if p1 = 2 then some 9 else if p1 = 3 then some 1 else some (-1)
noncomputable def zX6_term_s1 (q : dK) (p1 : Int32) : Option (Int32 × dK) := if p1 = 0 then some (q.1 2 4, q) else if p1 = 1 then some (q.1 1 1, q) else if p1 = 2 then some (q.1 1 2, q) else if p1 = 3 then some (q.1 1 3, q) else some ((-1), q)
noncomputable def zX6_setTerm_s1_67  (q : dK)  : Option (dK) := some q
noncomputable def zX6_setTerm_s1 (q : dK) (p1 : Int32) (p2 : Int32) : Option (dK) := if p1 = 0 then dL (cui q 2 4 p2) (fun q2 => zX6_setTerm_s1_67  q2) else if p1 = 1 then dL (cui q 1 1 p2) (fun q4 => zX6_setTerm_s1_67  q4) else if p1 = 2 then dL (cui q 1 2 p2) (fun q6 => zX6_setTerm_s1_67  q6) else if p1 = 3 then dL (cui q 1 3 p2) (fun q8 => zX6_setTerm_s1_67  q8) else zX6_setTerm_s1_67  q
noncomputable def zX9_terms_s0_12  (q : dK)  : Option (Int32 × dK) := dB (zX9_refuse_s0 q (-1)) (fun r1 q3 => some (r1, q3))
noncomputable def zX9_terms_s0 (q : dK) (p1 : Int32) (p2 : Int32) : Option (Int32 × dK) := if p2 < 0 then zX9_terms_s0_12  q else dV (zX9_mostOfTerm p1) (fun r1 => if p2 ≤ r1 then dB (zX6_term_s1 q p1) (fun r3 q5 => dV (zX6_setTerm_s1 q5 p1 p2) (fun q8 => dV (zX0_clear_s10 q8 ) (fun q11 => dB (zX9_accept_s0 q11 r3) (fun r12 q14 => some (r12, q14))))) else zX9_terms_s0_12  q)
noncomputable def zX9_feedFour_s0_43 (k3 : dK → Int32 → Int32 → Option (dK)) (q : dK) (x1 : Int32) (x2 : Int32) : Option (dK) := k3 q x1 (x2 + (-8))
noncomputable def zX9_feedFour_s0_3b (k3 : dK → Int32 → Int32 → Option (dK)) (q : dK) (x1 : Int32) (x2 : Int32) : Option (dK) := if x2 < 0 then some q else if 400 ≤ (q.1 0 12) then zX9_feedFour_s0_43 k3 q x1 x2 else dL (((x1 : Int32).toUInt32 >>> ((x2 : Int32).toUInt32 &&& Int32.toUInt32 31)).toInt32) (fun v1 => dG (dg (q.1 0 12) 400) (dL (cui q 46 (Int32.toNatClampNeg (q.1 0 12)) (v1 &&& 255 : Int32)) (fun q3 => dL (cui q3 0 12 ((q3.1 0 12) + 1 : Int32)) (fun q4 => zX9_feedFour_s0_43 k3 q4 x1 x2))))
noncomputable def zX9_feedFour_s0_3  (n : Nat) (q : dK) (x1 : Int32) (x2 : Int32) : Option (dK) := dFix (α := dK × Int32 × Int32) (fun k a => zX9_feedFour_s0_3b  (fun q x1 x2 => k (q, x1, x2)) a.1 a.2.1 a.2.2) n (q, x1, x2)
noncomputable def zX9_feedFour_s0 (q : dK) (p1 : Int32) : Option (dK) := zX9_feedFour_s0_3  dF q p1 24
noncomputable def zX9_feed_s0 (q : dK) (p1 : Int32) (p2 : Int32) (p3 : Int32) (p4 : Int32) (p5 : Int32) : Option (Int32 × dK) := if ((q.1 0 12) + 20 : Int32) ≤ 400 then dV (zX9_feedFour_s0 q p1) (fun q3 => dV (zX9_feedFour_s0 q3 p2) (fun q6 => dV (zX9_feedFour_s0 q6 p3) (fun q9 => dV (zX9_feedFour_s0 q9 p4) (fun q12 => dV (zX9_feedFour_s0 q12 p5) (fun q15 => some (q15.1 0 12, q15)))))) else some ((-1), q)
noncomputable def zX9_end_s0_12  (q : dK)  : Option (Int32 × dK) := some ((-1), q)
noncomputable def zX9_end_s0 (q : dK) (p1 : Int32) : Option (Int32 × dK) := if p1 < 0 then zX9_end_s0_12  q else if p1 ≤ (q.1 0 12) then dL (cui q 0 12 p1) (fun q1 => some (p1, q1)) else zX9_end_s0_12  q
noncomputable def zX9_isNewFloor_s0_33  (q : dK) (y0 : Int32) : Option (Int32 × dK) := dG (dbl y0) (some (y0, q))
noncomputable def zX9_isNewFloor_s0_32  (q : dK)  : Option (Int32 × dK) := zX9_isNewFloor_s0_33  q 0
noncomputable def zX9_isNewFloor_s0 (q : dK) (p1 : Int32) (p2 : Int32) : Option (Int32 × dK) := dV (zX9_isRank p1) (fun r1 => if r1 = 0 then zX9_isNewFloor_s0_32  q else dV (zX9_isBit p2) (fun r3 => if r3 = 0 then zX9_isNewFloor_s0_32  q else dB (zX8_has_s2 q p1) (fun r5 q7 => if r5 = 0 then zX9_isNewFloor_s0_33  q7 1 else zX9_isNewFloor_s0_32  q7)))
noncomputable def zX9_row_s0_95 (k20 : dK → Int32 → Int32 → Int32 → Option (Int32 × dK)) (q : dK) (x1 : Int32) (x2 : Int32) (x3 : Int32) : Option (Int32 × dK) := k20 q x1 x2 (x3 + 2)
noncomputable def zX9_row_s0_92 (k20 : dK → Int32 → Int32 → Int32 → Option (Int32 × dK)) (q : dK) (x1 : Int32) (x2 : Int32) (x3 : Int32) : Option (Int32 × dK) := zX9_row_s0_95 k20 q x1 (x2 + 1) x3
noncomputable def zX9_row_s0_20b (k20 : dK → Int32 → Int32 → Int32 → Option (Int32 × dK)) (q : dK) (x1 : Int32) (x2 : Int32) (x3 : Int32) : Option (Int32 × dK) := if (q.1 0 12) ≤ x3 then dL (cui q 0 12 0) (fun q1 => dL (cui q1 0 14 x2) (fun q2 => dV (zX0_clear_s10 q2 ) (fun q5 => dB (zX9_accept_s0 q5 x1) (fun r6 q8 => some (r6, q8))))) else if (q.1 0 12) ≤ (x3 + 1 : Int32) then zX9_row_s0_92 k20 q x1 x2 x3 else dG (dg x3 400) (dL (q.1 46 (Int32.toNatClampNeg x3)) (fun v10 => dG (dg (x3 + 1 : Int32) 400) (dL (q.1 46 (Int32.toNatClampNeg (x3 + 1 : Int32))) (fun v12 => dB (zX9_isNewFloor_s0 q v10 v12) (fun r13 q15 => if r13 = 0 then zX9_row_s0_92 k20 q15 x1 x2 x3 else dG (dg x3 400) (dL (q15.1 46 (Int32.toNatClampNeg x3)) (fun v17 => dG (dg (x3 + 1 : Int32) 400) (dL (q15.1 46 (Int32.toNatClampNeg (x3 + 1 : Int32))) (fun v19 => dB (zX8_add_s2 q15 v17 v19) (fun r20 q22 => if r20 = 0 then zX9_row_s0_92 k20 q22 x1 x2 x3 else zX9_row_s0_95 k20 q22 (x1 + 1) x2 x3))))))))))
noncomputable def zX9_row_s0_20  (n : Nat) (q : dK) (x1 : Int32) (x2 : Int32) (x3 : Int32) : Option (Int32 × dK) := dFix (α := dK × Int32 × Int32 × Int32) (fun k a => zX9_row_s0_20b  (fun q x1 x2 x3 => k (q, x1, x2, x3)) a.1 a.2.1 a.2.2.1 a.2.2.2) n (q, x1, x2, x3)
noncomputable def zX9_row_s0 (q : dK)  : Option (Int32 × dK) := if (q.1 0 12) = 0 then dB (zX9_refuse_s0 q (-6)) (fun r1 q3 => some (r1, q3)) else zX9_row_s0_20  dF q 0 0 0
noncomputable def zX9_bricks_s0 (q : dK)  : Option (Int32 × dK) := some (q.1 0 14, q)
noncomputable def zX7_clear_s25 (q : dK)  : Option (dK) := dL (cui q 25 6 0) (fun q1 => dL (cui q1 25 7 0) (fun q2 => some q2))
noncomputable def zX4_tokenOf_31  (y0 : Int32) : Option (Int32) := some y0
noncomputable def zX4_tokenOf_30   : Option (Int32) := zX4_tokenOf_31  3
noncomputable def zX4_tokenOf_14  (x0 : Int32) : Option (Int32) := if x0 < 48 then zX4_tokenOf_30   else if 57 < x0 then zX4_tokenOf_30   else zX4_tokenOf_31  2
noncomputable def zX4_tokenOf (p1 : Int32) : Option (Int32) := if p1 < 97 then zX4_tokenOf_14  p1 else if 122 < p1 then zX4_tokenOf_14  p1 else some 1
noncomputable def zX4_step_s24_216  (q : dK)  : Option (dK) := some q
noncomputable def zX4_step_s24_167b (k167 : dK → Int32 → Option (dK)) (q : dK) (x1 : Int32) : Option (dK) := if (q.1 24 6) ≤ x1 then zX4_step_s24_216  q else if (q.1 24 4) = 2 then dG (dnz (q.1 24 0)) (dG (dg x1 400) (dL (q.1 46 (Int32.toNatClampNeg x1)) (fun v3 => dL (cui q 24 7 (mnI 1001 ((((q.1 24 7) * 10 : Int32) + v3) - 48 : Int32))) (fun q4 => k167 q4 (x1 + 1))))) else zX4_step_s24_216  q
noncomputable def zX4_step_s24_167  (n : Nat) (q : dK) (x1 : Int32) : Option (dK) := dFix (α := dK × Int32) (fun k a => zX4_step_s24_167b  (fun q x1 => k (q, x1)) a.1 a.2) n (q, x1)
noncomputable def zX4_step_s24_162  (q : dK)  : Option (dK) := zX4_step_s24_167  dF q (q.1 24 5)
noncomputable def zX4_step_s24_111b (k111 : dK → Option (dK)) (q : dK)  : Option (dK) := if (q.1 24 1) ≤ (q.1 24 6) then zX4_step_s24_162  q else if (q.1 24 4) = 3 then zX4_step_s24_162  q else dG (dnz (q.1 24 0)) (dG (dg (q.1 24 6) 400) (dL (q.1 46 (Int32.toNatClampNeg (q.1 24 6))) (fun v3 => dV (zX4_tokenOf v3) (fun r4 => if r4 = (q.1 24 4) then dL (cui q 24 6 ((q.1 24 6) + 1 : Int32)) (fun q6 => k111 q6) else zX4_step_s24_162  q))))
noncomputable def zX4_step_s24_111  (n : Nat) (q : dK)  : Option (dK) := dFix (α := dK) (fun k a => zX4_step_s24_111b  (fun q => k (q)) a) n (q)
noncomputable def zX4_step_s24_55  (q : dK)  : Option (dK) := dL (cui q 24 6 (q.1 24 5)) (fun q1 => dL (cui q1 24 7 0) (fun q2 => dL (cui q2 24 4 0) (fun q3 => if (q3.1 24 5) < (q3.1 24 1) then dG (dnz (q3.1 24 0)) (dG (dg (q3.1 24 5) 400) (dL (q3.1 46 (Int32.toNatClampNeg (q3.1 24 5))) (fun v6 => dV (zX4_tokenOf v6) (fun r7 => dL (cui q3 24 4 r7) (fun q9 => dL (cui q9 24 6 ((q9.1 24 6) + 1 : Int32)) (fun q10 => zX4_step_s24_111  dF q10)))))) else some q3)))
noncomputable def zX4_step_s24_17b (k17 : dK → Option (dK)) (q : dK)  : Option (dK) := if (q.1 24 1) ≤ (q.1 24 5) then zX4_step_s24_55  q else dG (dnz (q.1 24 0)) (dG (dg (q.1 24 5) 400) (dL (q.1 46 (Int32.toNatClampNeg (q.1 24 5))) (fun v3 => if v3 = 32 then dL (cui q 24 5 ((q.1 24 5) + 1 : Int32)) (fun q4 => k17 q4) else zX4_step_s24_55  q)))
noncomputable def zX4_step_s24_17  (n : Nat) (q : dK)  : Option (dK) := dFix (α := dK) (fun k a => zX4_step_s24_17b  (fun q => k (q)) a) n (q)
noncomputable def zX4_step_s24 (q : dK)  : Option (dK) := if (q.1 24 10) = (-1) then dL (cui q 24 5 (q.1 24 6)) (fun q1 => zX4_step_s24_17  dF q1) else some q
noncomputable def zX4_isSame_s24_t0_20b (k20 : dK → Int32 → Int32 → Int32 → Option (Int32 × dK)) (q : dK) (x2 : Int32) (x3 : Int32) (x4 : Int32) : Option (Int32 × dK) := if x3 ≤ x4 then some (1, q) else dG (dg x4 21) (dL (chV 0 x4) (fun v2 => dG (dnz (q.1 24 0)) (dG (dg (((q.1 24 5) + x4) - x2) 400) (dL (q.1 46 (Int32.toNatClampNeg (((q.1 24 5) + x4) - x2))) (fun v5 => if v2 = v5 then k20 q x2 x3 (x4 + 1) else some (0, q))))))
noncomputable def zX4_isSame_s24_t0_20  (n : Nat) (q : dK) (x2 : Int32) (x3 : Int32) (x4 : Int32) : Option (Int32 × dK) := dFix (α := dK × Int32 × Int32 × Int32) (fun k a => zX4_isSame_s24_t0_20b  (fun q x2 x3 x4 => k (q, x2, x3, x4)) a.1 a.2.1 a.2.2.1 a.2.2.2) n (q, x2, x3, x4)
noncomputable def zX4_isSame_s24_t0 (q : dK) (p2 : Int32) (p3 : Int32) : Option (Int32 × dK) := if (p3 - p2) = ((q.1 24 6) - (q.1 24 5)) then zX4_isSame_s24_t0_20  dF q p2 p3 p2 else some (0, q)
noncomputable def zX4_wordIn_s24_t0_62  (q : dK)  : Option (Int32 × dK) := some ((-1), q)
noncomputable def zX4_wordIn_s24_t0_56 (k7 : dK → Int32 → Int32 → Int32 → Option (Int32 × dK)) (q : dK) (x2 : Int32) (x3 : Int32) (x4 : Int32) : Option (Int32 × dK) := k7 q x2 x3 (x4 + 1)
noncomputable def zX4_wordIn_s24_t0_7b (k7 : dK → Int32 → Int32 → Int32 → Option (Int32 × dK)) (q : dK) (x2 : Int32) (x3 : Int32) (x4 : Int32) : Option (Int32 × dK) := if 21 ≤ x4 then zX4_wordIn_s24_t0_62  q else if (q.1 24 4) = 1 then dG (dg x4 21) (dL (chV 0 x4) (fun v2 => if v2 = 32 then dB (zX4_isSame_s24_t0 q x3 x4) (fun r3 q5 => if r3 = 0 then zX4_wordIn_s24_t0_56 k7 q5 (x2 + 1) (x4 + 1 : Int32) x4 else some (x2, q5)) else zX4_wordIn_s24_t0_56 k7 q x2 x3 x4)) else zX4_wordIn_s24_t0_62  q
noncomputable def zX4_wordIn_s24_t0_7  (n : Nat) (q : dK) (x2 : Int32) (x3 : Int32) (x4 : Int32) : Option (Int32 × dK) := dFix (α := dK × Int32 × Int32 × Int32) (fun k a => zX4_wordIn_s24_t0_7b  (fun q x2 x3 x4 => k (q, x2, x3, x4)) a.1 a.2.1 a.2.2.1 a.2.2.2) n (q, x2, x3, x4)
noncomputable def zX4_wordIn_s24_t0 (q : dK)  : Option (Int32 × dK) := zX4_wordIn_s24_t0_7  dF q 0 0 0
noncomputable def zX7_beginClause_s25_81  (q : dK)  : Option (dK) := some q
noncomputable def zX7_beginClause_s25 (q : dK) (p1 : Int32) : Option (dK) := if 12 ≤ (q.1 25 6) then zX7_beginClause_s25_81  q else dG (dg (q.1 25 6) 12) (dL (cui q 26 (Int32.toNatClampNeg (q.1 25 6)) p1) (fun q2 => dG (dg (q2.1 25 6) 12) (dL (cui q2 27 (Int32.toNatClampNeg (q2.1 25 6)) 1) (fun q4 => dG (dg (q4.1 25 6) 12) (dL (cui q4 28 (Int32.toNatClampNeg (q4.1 25 6)) (q4.1 25 7)) (fun q6 => dG (dg (q6.1 25 6) 12) (dL (cui q6 29 (Int32.toNatClampNeg (q6.1 25 6)) (q6.1 25 7)) (fun q8 => dG (dg (q8.1 25 6) 12) (dL (cui q8 30 (Int32.toNatClampNeg (q8.1 25 6)) (q8.1 25 7)) (fun q10 => dL (cui q10 25 6 ((q10.1 25 6) + 1 : Int32)) (fun q11 => zX7_beginClause_s25_81  q11)))))))))))
noncomputable def zX4_fail_s24_16  (q : dK)  : Option (dK) := some q
noncomputable def zX4_fail_s24 (q : dK)  : Option (dK) := if (q.1 24 10) = (-1) then dL (cui q 24 10 (q.1 24 5)) (fun q1 => zX4_fail_s24_16  q1) else zX4_fail_s24_16  q
noncomputable def zX4_isSame_s24_t1_20b (k20 : dK → Int32 → Int32 → Int32 → Option (Int32 × dK)) (q : dK) (x2 : Int32) (x3 : Int32) (x4 : Int32) : Option (Int32 × dK) := if x3 ≤ x4 then some (1, q) else dG (dg x4 15) (dL (chV 1 x4) (fun v2 => dG (dnz (q.1 24 0)) (dG (dg (((q.1 24 5) + x4) - x2) 400) (dL (q.1 46 (Int32.toNatClampNeg (((q.1 24 5) + x4) - x2))) (fun v5 => if v2 = v5 then k20 q x2 x3 (x4 + 1) else some (0, q))))))
noncomputable def zX4_isSame_s24_t1_20  (n : Nat) (q : dK) (x2 : Int32) (x3 : Int32) (x4 : Int32) : Option (Int32 × dK) := dFix (α := dK × Int32 × Int32 × Int32) (fun k a => zX4_isSame_s24_t1_20b  (fun q x2 x3 x4 => k (q, x2, x3, x4)) a.1 a.2.1 a.2.2.1 a.2.2.2) n (q, x2, x3, x4)
noncomputable def zX4_isSame_s24_t1 (q : dK) (p2 : Int32) (p3 : Int32) : Option (Int32 × dK) := if (p3 - p2) = ((q.1 24 6) - (q.1 24 5)) then zX4_isSame_s24_t1_20  dF q p2 p3 p2 else some (0, q)
noncomputable def zX4_wordIn_s24_t1_62  (q : dK)  : Option (Int32 × dK) := some ((-1), q)
noncomputable def zX4_wordIn_s24_t1_56 (k7 : dK → Int32 → Int32 → Int32 → Option (Int32 × dK)) (q : dK) (x2 : Int32) (x3 : Int32) (x4 : Int32) : Option (Int32 × dK) := k7 q x2 x3 (x4 + 1)
noncomputable def zX4_wordIn_s24_t1_7b (k7 : dK → Int32 → Int32 → Int32 → Option (Int32 × dK)) (q : dK) (x2 : Int32) (x3 : Int32) (x4 : Int32) : Option (Int32 × dK) := if 15 ≤ x4 then zX4_wordIn_s24_t1_62  q else if (q.1 24 4) = 1 then dG (dg x4 15) (dL (chV 1 x4) (fun v2 => if v2 = 32 then dB (zX4_isSame_s24_t1 q x3 x4) (fun r3 q5 => if r3 = 0 then zX4_wordIn_s24_t1_56 k7 q5 (x2 + 1) (x4 + 1 : Int32) x4 else some (x2, q5)) else zX4_wordIn_s24_t1_56 k7 q x2 x3 x4)) else zX4_wordIn_s24_t1_62  q
noncomputable def zX4_wordIn_s24_t1_7  (n : Nat) (q : dK) (x2 : Int32) (x3 : Int32) (x4 : Int32) : Option (Int32 × dK) := dFix (α := dK × Int32 × Int32 × Int32) (fun k a => zX4_wordIn_s24_t1_7b  (fun q x2 x3 x4 => k (q, x2, x3, x4)) a.1 a.2.1 a.2.2.1 a.2.2.2) n (q, x2, x3, x4)
noncomputable def zX4_wordIn_s24_t1 (q : dK)  : Option (Int32 × dK) := zX4_wordIn_s24_t1_7  dF q 0 0 0
noncomputable def zX4_isSign_s24_37  (q : dK) (y0 : Int32) : Option (Int32 × dK) := dG (dbl y0) (some (y0, q))
noncomputable def zX4_isSign_s24_36  (q : dK)  : Option (Int32 × dK) := zX4_isSign_s24_37  q 0
noncomputable def zX4_isSign_s24 (q : dK) (p1 : Int32) : Option (Int32 × dK) := if (q.1 24 4) = 3 then if (q.1 24 1) ≤ (q.1 24 5) then zX4_isSign_s24_36  q else dG (dnz (q.1 24 0)) (dG (dg (q.1 24 5) 400) (dL (q.1 46 (Int32.toNatClampNeg (q.1 24 5))) (fun v3 => if v3 = p1 then zX4_isSign_s24_37  q 1 else zX4_isSign_s24_36  q))) else zX4_isSign_s24_36  q
noncomputable def zX4_isSame_s24_t2_20b (k20 : dK → Int32 → Int32 → Int32 → Option (Int32 × dK)) (q : dK) (x2 : Int32) (x3 : Int32) (x4 : Int32) : Option (Int32 × dK) := if x3 ≤ x4 then some (1, q) else dG (dg x4 35) (dL (chV 2 x4) (fun v2 => dG (dnz (q.1 24 0)) (dG (dg (((q.1 24 5) + x4) - x2) 400) (dL (q.1 46 (Int32.toNatClampNeg (((q.1 24 5) + x4) - x2))) (fun v5 => if v2 = v5 then k20 q x2 x3 (x4 + 1) else some (0, q))))))
noncomputable def zX4_isSame_s24_t2_20  (n : Nat) (q : dK) (x2 : Int32) (x3 : Int32) (x4 : Int32) : Option (Int32 × dK) := dFix (α := dK × Int32 × Int32 × Int32) (fun k a => zX4_isSame_s24_t2_20b  (fun q x2 x3 x4 => k (q, x2, x3, x4)) a.1 a.2.1 a.2.2.1 a.2.2.2) n (q, x2, x3, x4)
noncomputable def zX4_isSame_s24_t2 (q : dK) (p2 : Int32) (p3 : Int32) : Option (Int32 × dK) := if (p3 - p2) = ((q.1 24 6) - (q.1 24 5)) then zX4_isSame_s24_t2_20  dF q p2 p3 p2 else some (0, q)
noncomputable def zX4_wordIn_s24_t2_62  (q : dK)  : Option (Int32 × dK) := some ((-1), q)
noncomputable def zX4_wordIn_s24_t2_56 (k7 : dK → Int32 → Int32 → Int32 → Option (Int32 × dK)) (q : dK) (x2 : Int32) (x3 : Int32) (x4 : Int32) : Option (Int32 × dK) := k7 q x2 x3 (x4 + 1)
noncomputable def zX4_wordIn_s24_t2_7b (k7 : dK → Int32 → Int32 → Int32 → Option (Int32 × dK)) (q : dK) (x2 : Int32) (x3 : Int32) (x4 : Int32) : Option (Int32 × dK) := if 35 ≤ x4 then zX4_wordIn_s24_t2_62  q else if (q.1 24 4) = 1 then dG (dg x4 35) (dL (chV 2 x4) (fun v2 => if v2 = 32 then dB (zX4_isSame_s24_t2 q x3 x4) (fun r3 q5 => if r3 = 0 then zX4_wordIn_s24_t2_56 k7 q5 (x2 + 1) (x4 + 1 : Int32) x4 else some (x2, q5)) else zX4_wordIn_s24_t2_56 k7 q x2 x3 x4)) else zX4_wordIn_s24_t2_62  q
noncomputable def zX4_wordIn_s24_t2_7  (n : Nat) (q : dK) (x2 : Int32) (x3 : Int32) (x4 : Int32) : Option (Int32 × dK) := dFix (α := dK × Int32 × Int32 × Int32) (fun k a => zX4_wordIn_s24_t2_7b  (fun q x2 x3 x4 => k (q, x2, x3, x4)) a.1 a.2.1 a.2.2.1 a.2.2.2) n (q, x2, x3, x4)
noncomputable def zX4_wordIn_s24_t2 (q : dK)  : Option (Int32 × dK) := zX4_wordIn_s24_t2_7  dF q 0 0 0
noncomputable def zX4_openBracket_s24 (q : dK)  : Option (Int32 × dK) := if (q.1 24 9) < 8 then dL (cui q 24 9 ((q.1 24 9) + 1 : Int32)) (fun q1 => dV (zX4_step_s24 q1 ) (fun q4 => some (1, q4))) else dV (zX4_fail_s24 q ) (fun q7 => some (0, q7))
noncomputable def zX4_expectSign_s24_19  (q : dK)  : Option (dK) := some q
noncomputable def zX4_expectSign_s24 (q : dK) (p1 : Int32) : Option (dK) := dB (zX4_isSign_s24 q p1) (fun r1 q3 => if r1 = 0 then dV (zX4_fail_s24 q3 ) (fun q6 => zX4_expectSign_s24_19  q6) else dV (zX4_step_s24 q3 ) (fun q9 => zX4_expectSign_s24_19  q9))
noncomputable def zX4_isSame_s24_t3_20b (k20 : dK → Int32 → Int32 → Int32 → Option (Int32 × dK)) (q : dK) (x2 : Int32) (x3 : Int32) (x4 : Int32) : Option (Int32 × dK) := if x3 ≤ x4 then some (1, q) else dG (dg x4 47) (dL (chV 3 x4) (fun v2 => dG (dnz (q.1 24 0)) (dG (dg (((q.1 24 5) + x4) - x2) 400) (dL (q.1 46 (Int32.toNatClampNeg (((q.1 24 5) + x4) - x2))) (fun v5 => if v2 = v5 then k20 q x2 x3 (x4 + 1) else some (0, q))))))
noncomputable def zX4_isSame_s24_t3_20  (n : Nat) (q : dK) (x2 : Int32) (x3 : Int32) (x4 : Int32) : Option (Int32 × dK) := dFix (α := dK × Int32 × Int32 × Int32) (fun k a => zX4_isSame_s24_t3_20b  (fun q x2 x3 x4 => k (q, x2, x3, x4)) a.1 a.2.1 a.2.2.1 a.2.2.2) n (q, x2, x3, x4)
noncomputable def zX4_isSame_s24_t3 (q : dK) (p2 : Int32) (p3 : Int32) : Option (Int32 × dK) := if (p3 - p2) = ((q.1 24 6) - (q.1 24 5)) then zX4_isSame_s24_t3_20  dF q p2 p3 p2 else some (0, q)
noncomputable def zX4_wordIn_s24_t3_62  (q : dK)  : Option (Int32 × dK) := some ((-1), q)
noncomputable def zX4_wordIn_s24_t3_56 (k7 : dK → Int32 → Int32 → Int32 → Option (Int32 × dK)) (q : dK) (x2 : Int32) (x3 : Int32) (x4 : Int32) : Option (Int32 × dK) := k7 q x2 x3 (x4 + 1)
noncomputable def zX4_wordIn_s24_t3_7b (k7 : dK → Int32 → Int32 → Int32 → Option (Int32 × dK)) (q : dK) (x2 : Int32) (x3 : Int32) (x4 : Int32) : Option (Int32 × dK) := if 47 ≤ x4 then zX4_wordIn_s24_t3_62  q else if (q.1 24 4) = 1 then dG (dg x4 47) (dL (chV 3 x4) (fun v2 => if v2 = 32 then dB (zX4_isSame_s24_t3 q x3 x4) (fun r3 q5 => if r3 = 0 then zX4_wordIn_s24_t3_56 k7 q5 (x2 + 1) (x4 + 1 : Int32) x4 else some (x2, q5)) else zX4_wordIn_s24_t3_56 k7 q x2 x3 x4)) else zX4_wordIn_s24_t3_62  q
noncomputable def zX4_wordIn_s24_t3_7  (n : Nat) (q : dK) (x2 : Int32) (x3 : Int32) (x4 : Int32) : Option (Int32 × dK) := dFix (α := dK × Int32 × Int32 × Int32) (fun k a => zX4_wordIn_s24_t3_7b  (fun q x2 x3 x4 => k (q, x2, x3, x4)) a.1 a.2.1 a.2.2.1 a.2.2.2) n (q, x2, x3, x4)
noncomputable def zX4_wordIn_s24_t3 (q : dK)  : Option (Int32 × dK) := zX4_wordIn_s24_t3_7  dF q 0 0 0
noncomputable def zX7_emit_s25_36  (q : dK)  : Option (dK) := some q
noncomputable def zX7_emit_s25 (q : dK) (p1 : Int32) (p2 : Int32) : Option (dK) := if 400 ≤ (q.1 25 7) then zX7_emit_s25_36  q else dG (dg (q.1 25 7) 400) (dL (cui q 31 (Int32.toNatClampNeg (q.1 25 7)) ((p2 <<< ((4 : Int32) &&& 31) : Int32) ||| p1)) (fun q2 => dL (cui q2 25 7 ((q2.1 25 7) + 1 : Int32)) (fun q3 => zX7_emit_s25_36  q3)))
noncomputable def zX4_readPlace_s24_17  (q : dK)  : Option (dK) := dV (zX4_fail_s24 q ) (fun q3 => some q3)
noncomputable def zX4_readPlace_s24 (q : dK) (p1 : Int32) : Option (dK) := if (q.1 24 4) = 2 then if (q.1 24 7) < 6 then dG (dnz (q.1 24 3)) (dV (zX7_emit_s25 q 1 (p1 + (q.1 24 7))) (fun q4 => dV (zX4_step_s24 q4 ) (fun q7 => some q7))) else zX4_readPlace_s24_17  q else zX4_readPlace_s24_17  q
noncomputable def zX4_readPart_s24_177 (kS : dK → Option (dK))  (q : dK)  : Option (dK) := some q
noncomputable def zX4_readPart_s24_168 (kS : dK → Option (dK))  (q : dK) (x1 : Int32) : Option (dK) := dG (dnz (q.1 24 3)) (dV (zX7_emit_s25 q 1 x1) (fun q4 => zX4_readPart_s24_177 kS  q4))
noncomputable def zX4_readPart_s24_162 (kS : dK → Option (dK))  (q : dK) (y0 : Int32) : Option (dK) := dV (zX4_readPlace_s24 q y0) (fun q3 => zX4_readPart_s24_177 kS  q3)
noncomputable def zX4_readPart_s24_98 (kS : dK → Option (dK))  (q : dK)  : Option (dK) := dV (zX4_fail_s24 q ) (fun q3 => some q3)
noncomputable def zX4_readPart_s24_89 (kS : dK → Option (dK))  (q : dK) (x1 : Int32) (x2 : Int32) : Option (dK) := if (q.1 24 8) < 50 then dL (cui q 24 8 ((q.1 24 8) + 1 : Int32)) (fun q1 => dV (zX4_step_s24 q1 ) (fun q4 => if x2 = 0 then if (q4.1 24 2) = 0 then zX4_readPart_s24_168 kS  q4 x1 else if x1 < 5 then zX4_readPart_s24_168 kS  q4 x1 else if x1 = 5 then zX4_readPart_s24_162 kS  q4 5 else zX4_readPart_s24_162 kS  q4 11 else dG (dnz (q4.1 24 3)) (dV (zX7_emit_s25 q4 0 (q1.1 24 7)) (fun q8 => zX4_readPart_s24_177 kS  q8)))) else zX4_readPart_s24_98 kS  q
noncomputable def zX4_readPart_s24_79 (kS : dK → Option (dK))  (q : dK) (x1 : Int32) (y0 : Int32) : Option (dK) := if x1 = (-1) then if y0 = 0 then zX4_readPart_s24_98 kS  q else zX4_readPart_s24_89 kS  q x1 y0 else zX4_readPart_s24_89 kS  q x1 y0
noncomputable def zX4_readPart_s24_78 (kS : dK → Option (dK))  (q : dK) (x1 : Int32) : Option (dK) := zX4_readPart_s24_79 kS  q x1 0
noncomputable def zX4_readPart_s24_52 (kS : dK → Option (dK))  (q : dK)  : Option (dK) := dB (zX4_wordIn_s24_t3 q ) (fun r1 q3 => if (q3.1 24 4) = 2 then if 1000 < (q3.1 24 7) then zX4_readPart_s24_78 kS  q3 r1 else zX4_readPart_s24_79 kS  q3 r1 1 else zX4_readPart_s24_78 kS  q3 r1)
noncomputable def zX4_readPart_s24_36 (kS : dK → Option (dK))  (q : dK)  : Option (dK) := some q
noncomputable def zX4_readPart_s24 (kS : dK → Option (dK)) (q : dK)  : Option (dK) := dB (zX4_isSign_s24 q 91) (fun r1 q3 => if r1 = 0 then if (q3.1 24 2) = 0 then zX4_readPart_s24_52 kS  q3 else dB (zX4_wordIn_s24_t2 q3 ) (fun r4 q6 => if (q6.1 24 4) = 2 then if 1000 < (q6.1 24 7) then zX4_readPart_s24_78 kS  q6 r4 else zX4_readPart_s24_79 kS  q6 r4 1 else zX4_readPart_s24_78 kS  q6 r4) else dB (zX4_openBracket_s24 q3 ) (fun r7 q9 => if r7 = 0 then zX4_readPart_s24_36 kS  q9 else dV (kS q9 ) (fun q12 => dL (cui q12 24 9 ((q12.1 24 9) - 1 : Int32)) (fun q13 => dV (zX4_expectSign_s24 q13 93) (fun q16 => zX4_readPart_s24_36 kS  q16)))))
noncomputable def zX4_signIn_s24_t4_2b (k2 : dK → Int32 → Int32 → Option (Int32 × dK)) (q : dK) (x2 : Int32) (x3 : Int32) : Option (Int32 × dK) := if 3 ≤ x3 then some ((-1), q) else dG (dg x3 3) (dL (chV 4 x3) (fun v2 => dB (zX4_isSign_s24 q v2) (fun r3 q5 => if r3 = 0 then k2 q5 x2 (x3 + 1) else some (x2 + x3, q5))))
noncomputable def zX4_signIn_s24_t4_2  (n : Nat) (q : dK) (x2 : Int32) (x3 : Int32) : Option (Int32 × dK) := dFix (α := dK × Int32 × Int32) (fun k a => zX4_signIn_s24_t4_2b  (fun q x2 x3 => k (q, x2, x3)) a.1 a.2.1 a.2.2) n (q, x2, x3)
noncomputable def zX4_signIn_s24_t4 (q : dK) (p2 : Int32) : Option (Int32 × dK) := zX4_signIn_s24_t4_2  dF q p2 0
noncomputable def zX4_readTerm_s24_59 (kS : dK → Option (dK))  (q : dK)  : Option (dK) := some q
noncomputable def zX4_readTerm_s24_6b (kS : dK → Option (dK)) (k6 : dK → Int32 → Option (dK)) (q : dK) (x1 : Int32) : Option (dK) := if (q.1 24 1) ≤ x1 then zX4_readTerm_s24_59 kS  q else if (q.1 24 10) = (-1) then dB (zX4_signIn_s24_t4 q 4) (fun r1 q3 => if r1 = (-1) then some q3 else dV (zX4_step_s24 q3 ) (fun q6 => dV (zX4_readPart_s24 kS q6 ) (fun q9 => dG (dnz (q9.1 24 3)) (dV (zX7_emit_s25 q9 r1 0) (fun q13 => k6 q13 (x1 + 1)))))) else zX4_readTerm_s24_59 kS  q
noncomputable def zX4_readTerm_s24_6 (kS : dK → Option (dK))  (n : Nat) (q : dK) (x1 : Int32) : Option (dK) := dFix (α := dK × Int32) (fun k a => zX4_readTerm_s24_6b kS  (fun q x1 => k (q, x1)) a.1 a.2) n (q, x1)
noncomputable def zX4_readTerm_s24 (kS : dK → Option (dK)) (q : dK)  : Option (dK) := dV (zX4_readPart_s24 kS q ) (fun q3 => zX4_readTerm_s24_6 kS  dF q3 0)
noncomputable def zX4_signIn_s24_t5_2b (k2 : dK → Int32 → Int32 → Option (Int32 × dK)) (q : dK) (x2 : Int32) (x3 : Int32) : Option (Int32 × dK) := if 2 ≤ x3 then some ((-1), q) else dG (dg x3 2) (dL (chV 5 x3) (fun v2 => dB (zX4_isSign_s24 q v2) (fun r3 q5 => if r3 = 0 then k2 q5 x2 (x3 + 1) else some (x2 + x3, q5))))
noncomputable def zX4_signIn_s24_t5_2  (n : Nat) (q : dK) (x2 : Int32) (x3 : Int32) : Option (Int32 × dK) := dFix (α := dK × Int32 × Int32) (fun k a => zX4_signIn_s24_t5_2b  (fun q x2 x3 => k (q, x2, x3)) a.1 a.2.1 a.2.2) n (q, x2, x3)
noncomputable def zX4_signIn_s24_t5 (q : dK) (p2 : Int32) : Option (Int32 × dK) := zX4_signIn_s24_t5_2  dF q p2 0
noncomputable def zX4_readSum_s24_59 (kS : dK → Option (dK))  (q : dK)  : Option (dK) := some q
noncomputable def zX4_readSum_s24_6b (kS : dK → Option (dK)) (k6 : dK → Int32 → Option (dK)) (q : dK) (x1 : Int32) : Option (dK) := if (q.1 24 1) ≤ x1 then zX4_readSum_s24_59 kS  q else if (q.1 24 10) = (-1) then dB (zX4_signIn_s24_t5 q 2) (fun r1 q3 => if r1 = (-1) then some q3 else dV (zX4_step_s24 q3 ) (fun q6 => dV (zX4_readTerm_s24 kS q6 ) (fun q9 => dG (dnz (q9.1 24 3)) (dV (zX7_emit_s25 q9 r1 0) (fun q13 => k6 q13 (x1 + 1)))))) else zX4_readSum_s24_59 kS  q
noncomputable def zX4_readSum_s24_6 (kS : dK → Option (dK))  (n : Nat) (q : dK) (x1 : Int32) : Option (dK) := dFix (α := dK × Int32) (fun k a => zX4_readSum_s24_6b kS  (fun q x1 => k (q, x1)) a.1 a.2) n (q, x1)
noncomputable def zX4_readSum_s24_o (kS : dK → Option (dK)) (q : dK)  : Option (dK) := dV (zX4_readTerm_s24 kS q ) (fun q3 => zX4_readSum_s24_6 kS  dF q3 0)
noncomputable def zX4_readSum_s24 : Nat → dK → Option (dK)
  | 0, _ => none
  | n + 1, q => zX4_readSum_s24_o (zX4_readSum_s24 n) q
noncomputable def zX7_endSum_s25_37  (q : dK)  : Option (dK) := some q
noncomputable def zX7_endSum_s25 (q : dK)  : Option (dK) := if (q.1 25 6) ≤ 0 then zX7_endSum_s25_37  q else dG (dg ((q.1 25 6) - 1 : Int32) 12) (dL (cui q 29 (Int32.toNatClampNeg ((q.1 25 6) - 1 : Int32)) (q.1 25 7)) (fun q2 => dG (dg ((q2.1 25 6) - 1 : Int32) 12) (dL (cui q2 30 (Int32.toNatClampNeg ((q2.1 25 6) - 1 : Int32)) (q2.1 25 7)) (fun q4 => zX7_endSum_s25_37  q4))))
noncomputable def zX4_isSame_s24_t6_20b (k20 : dK → Int32 → Int32 → Int32 → Option (Int32 × dK)) (q : dK) (x2 : Int32) (x3 : Int32) (x4 : Int32) : Option (Int32 × dK) := if x3 ≤ x4 then some (1, q) else dG (dg x4 5) (dL (chV 6 x4) (fun v2 => dG (dnz (q.1 24 0)) (dG (dg (((q.1 24 5) + x4) - x2) 400) (dL (q.1 46 (Int32.toNatClampNeg (((q.1 24 5) + x4) - x2))) (fun v5 => if v2 = v5 then k20 q x2 x3 (x4 + 1) else some (0, q))))))
noncomputable def zX4_isSame_s24_t6_20  (n : Nat) (q : dK) (x2 : Int32) (x3 : Int32) (x4 : Int32) : Option (Int32 × dK) := dFix (α := dK × Int32 × Int32 × Int32) (fun k a => zX4_isSame_s24_t6_20b  (fun q x2 x3 x4 => k (q, x2, x3, x4)) a.1 a.2.1 a.2.2.1 a.2.2.2) n (q, x2, x3, x4)
noncomputable def zX4_isSame_s24_t6 (q : dK) (p2 : Int32) (p3 : Int32) : Option (Int32 × dK) := if (p3 - p2) = ((q.1 24 6) - (q.1 24 5)) then zX4_isSame_s24_t6_20  dF q p2 p3 p2 else some (0, q)
noncomputable def zX4_isWord_s24_t6_26  (q : dK) (y0 : Int32) : Option (Int32 × dK) := dG (dbl y0) (some (y0, q))
noncomputable def zX4_isWord_s24_t6_25  (q : dK)  : Option (Int32 × dK) := zX4_isWord_s24_t6_26  q 0
noncomputable def zX4_isWord_s24_t6 (q : dK)  : Option (Int32 × dK) := if (q.1 24 4) = 1 then dB (zX4_isSame_s24_t6 q 0 5) (fun r1 q3 => if r1 = 0 then zX4_isWord_s24_t6_25  q3 else zX4_isWord_s24_t6_26  q3 1) else zX4_isWord_s24_t6_25  q
noncomputable def zX7_setTimes_s25_19  (q : dK)  : Option (dK) := some q
noncomputable def zX7_setTimes_s25 (q : dK) (p1 : Int32) : Option (dK) := if (q.1 25 6) ≤ 0 then zX7_setTimes_s25_19  q else dG (dg ((q.1 25 6) - 1 : Int32) 12) (dL (cui q 27 (Int32.toNatClampNeg ((q.1 25 6) - 1 : Int32)) p1) (fun q2 => zX7_setTimes_s25_19  q2))
noncomputable def zX4_readTimes_s24_25  (q : dK)  : Option (dK) := dV (zX4_fail_s24 q ) (fun q3 => some q3)
noncomputable def zX4_readTimes_s24 (q : dK)  : Option (dK) := if (q.1 24 4) = 2 then if (q.1 24 7) < 1 then zX4_readTimes_s24_25  q else if (q.1 24 7) ≤ 20 then dG (dnz (q.1 24 3)) (dV (zX7_setTimes_s25 q (q.1 24 7)) (fun q4 => dV (zX4_step_s24 q4 ) (fun q7 => some q7))) else zX4_readTimes_s24_25  q else zX4_readTimes_s24_25  q
noncomputable def zX4_isSame_s24_t7_20b (k20 : dK → Int32 → Int32 → Int32 → Option (Int32 × dK)) (q : dK) (x2 : Int32) (x3 : Int32) (x4 : Int32) : Option (Int32 × dK) := if x3 ≤ x4 then some (1, q) else dG (dg x4 2) (dL (chV 7 x4) (fun v2 => dG (dnz (q.1 24 0)) (dG (dg (((q.1 24 5) + x4) - x2) 400) (dL (q.1 46 (Int32.toNatClampNeg (((q.1 24 5) + x4) - x2))) (fun v5 => if v2 = v5 then k20 q x2 x3 (x4 + 1) else some (0, q))))))
noncomputable def zX4_isSame_s24_t7_20  (n : Nat) (q : dK) (x2 : Int32) (x3 : Int32) (x4 : Int32) : Option (Int32 × dK) := dFix (α := dK × Int32 × Int32 × Int32) (fun k a => zX4_isSame_s24_t7_20b  (fun q x2 x3 x4 => k (q, x2, x3, x4)) a.1 a.2.1 a.2.2.1 a.2.2.2) n (q, x2, x3, x4)
noncomputable def zX4_isSame_s24_t7 (q : dK) (p2 : Int32) (p3 : Int32) : Option (Int32 × dK) := if (p3 - p2) = ((q.1 24 6) - (q.1 24 5)) then zX4_isSame_s24_t7_20  dF q p2 p3 p2 else some (0, q)
noncomputable def zX4_isWord_s24_t7_26  (q : dK) (y0 : Int32) : Option (Int32 × dK) := dG (dbl y0) (some (y0, q))
noncomputable def zX4_isWord_s24_t7_25  (q : dK)  : Option (Int32 × dK) := zX4_isWord_s24_t7_26  q 0
noncomputable def zX4_isWord_s24_t7 (q : dK)  : Option (Int32 × dK) := if (q.1 24 4) = 1 then dB (zX4_isSame_s24_t7 q 0 2) (fun r1 q3 => if r1 = 0 then zX4_isWord_s24_t7_25  q3 else zX4_isWord_s24_t7_26  q3 1) else zX4_isWord_s24_t7_25  q
noncomputable def zX4_isSame_s24_t8_20b (k20 : dK → Int32 → Int32 → Int32 → Option (Int32 × dK)) (q : dK) (x2 : Int32) (x3 : Int32) (x4 : Int32) : Option (Int32 × dK) := if x3 ≤ x4 then some (1, q) else dG (dg x4 3) (dL (chV 8 x4) (fun v2 => dG (dnz (q.1 24 0)) (dG (dg (((q.1 24 5) + x4) - x2) 400) (dL (q.1 46 (Int32.toNatClampNeg (((q.1 24 5) + x4) - x2))) (fun v5 => if v2 = v5 then k20 q x2 x3 (x4 + 1) else some (0, q))))))
noncomputable def zX4_isSame_s24_t8_20  (n : Nat) (q : dK) (x2 : Int32) (x3 : Int32) (x4 : Int32) : Option (Int32 × dK) := dFix (α := dK × Int32 × Int32 × Int32) (fun k a => zX4_isSame_s24_t8_20b  (fun q x2 x3 x4 => k (q, x2, x3, x4)) a.1 a.2.1 a.2.2.1 a.2.2.2) n (q, x2, x3, x4)
noncomputable def zX4_isSame_s24_t8 (q : dK) (p2 : Int32) (p3 : Int32) : Option (Int32 × dK) := if (p3 - p2) = ((q.1 24 6) - (q.1 24 5)) then zX4_isSame_s24_t8_20  dF q p2 p3 p2 else some (0, q)
noncomputable def zX4_isWord_s24_t8_26  (q : dK) (y0 : Int32) : Option (Int32 × dK) := dG (dbl y0) (some (y0, q))
noncomputable def zX4_isWord_s24_t8_25  (q : dK)  : Option (Int32 × dK) := zX4_isWord_s24_t8_26  q 0
noncomputable def zX4_isWord_s24_t8 (q : dK)  : Option (Int32 × dK) := if (q.1 24 4) = 1 then dB (zX4_isSame_s24_t8 q 0 3) (fun r1 q3 => if r1 = 0 then zX4_isWord_s24_t8_25  q3 else zX4_isWord_s24_t8_26  q3 1) else zX4_isWord_s24_t8_25  q
noncomputable def zX4_signIn_s24_t9_2b (k2 : dK → Int32 → Int32 → Option (Int32 × dK)) (q : dK) (x2 : Int32) (x3 : Int32) : Option (Int32 × dK) := if 3 ≤ x3 then some ((-1), q) else dG (dg x3 3) (dL (chV 9 x3) (fun v2 => dB (zX4_isSign_s24 q v2) (fun r3 q5 => if r3 = 0 then k2 q5 x2 (x3 + 1) else some (x2 + x3, q5))))
noncomputable def zX4_signIn_s24_t9_2  (n : Nat) (q : dK) (x2 : Int32) (x3 : Int32) : Option (Int32 × dK) := dFix (α := dK × Int32 × Int32) (fun k a => zX4_signIn_s24_t9_2b  (fun q x2 x3 => k (q, x2, x3)) a.1 a.2.1 a.2.2) n (q, x2, x3)
noncomputable def zX4_signIn_s24_t9 (q : dK) (p2 : Int32) : Option (Int32 × dK) := zX4_signIn_s24_t9_2  dF q p2 0
noncomputable def zX4_readPlain_s24_142 (kT : dK → Option (dK))  (q : dK)  : Option (dK) := some q
noncomputable def zX4_readPlain_s24_128 (kT : dK → Option (dK))  (q : dK) (x1 : Int32) : Option (dK) := if x1 = 0 then zX4_readPlain_s24_142 kT  q else dG (dnz (q.1 24 3)) (dV (zX7_emit_s25 q 10 0) (fun q4 => zX4_readPlain_s24_142 kT  q4))
noncomputable def zX4_readPlain_s24_106 (kT : dK → Option (dK))  (q : dK)  : Option (dK) := dV (zX4_fail_s24 q ) (fun q3 => some q3)
noncomputable def zX4_readPlain_s24_41 (kT : dK → Option (dK))  (q : dK) (x1 : Int32) : Option (dK) := dB (zX4_isSign_s24 q 40) (fun r1 q3 => if r1 = 0 then dV (zX4_readSum_s24 10 q3 ) (fun q6 => dB (zX4_signIn_s24_t9 q6 7) (fun r7 q9 => if (q9.1 24 10) = (-1) then if r7 = (-1) then zX4_readPlain_s24_106 kT  q9 else dV (zX4_step_s24 q9 ) (fun q12 => dV (zX4_readSum_s24 10 q12 ) (fun q15 => dG (dnz (q15.1 24 3)) (dV (zX7_emit_s25 q15 r7 0) (fun q19 => zX4_readPlain_s24_128 kT  q19 x1)))) else zX4_readPlain_s24_106 kT  q9)) else dB (zX4_openBracket_s24 q3 ) (fun r20 q22 => if r20 = 0 then zX4_readPlain_s24_128 kT  q22 x1 else dV (kT q22 ) (fun q25 => dL (cui q25 24 9 ((q25.1 24 9) - 1 : Int32)) (fun q26 => dV (zX4_expectSign_s24 q26 41) (fun q29 => zX4_readPlain_s24_128 kT  q29 x1)))))
noncomputable def zX4_readPlain_s24_30 (kT : dK → Option (dK)) (k4 : dK → Int32 → Int32 → Option (dK)) (q : dK) (x2 : Int32) (y0 : Int32) : Option (dK) := dV (zX4_step_s24 q ) (fun q3 => k4 q3 y0 (x2 + 1))
noncomputable def zX4_readPlain_s24_4b (kT : dK → Option (dK)) (k4 : dK → Int32 → Int32 → Option (dK)) (q : dK) (x1 : Int32) (x2 : Int32) : Option (dK) := if (q.1 24 1) ≤ x2 then zX4_readPlain_s24_41 kT  q x1 else dB (zX4_isWord_s24_t8 q ) (fun r1 q3 => if r1 = 0 then zX4_readPlain_s24_41 kT  q3 x1 else if x1 = 0 then zX4_readPlain_s24_30 kT k4 q3 x2 1 else zX4_readPlain_s24_30 kT k4 q3 x2 0)
noncomputable def zX4_readPlain_s24_4 (kT : dK → Option (dK))  (n : Nat) (q : dK) (x1 : Int32) (x2 : Int32) : Option (dK) := dFix (α := dK × Int32 × Int32) (fun k a => zX4_readPlain_s24_4b kT  (fun q x1 x2 => k (q, x1, x2)) a.1 a.2.1 a.2.2) n (q, x1, x2)
noncomputable def zX4_readPlain_s24 (kT : dK → Option (dK)) (q : dK)  : Option (dK) := zX4_readPlain_s24_4 kT  dF q 0 0
noncomputable def zX4_isSame_s24_t10_20b (k20 : dK → Int32 → Int32 → Int32 → Option (Int32 × dK)) (q : dK) (x2 : Int32) (x3 : Int32) (x4 : Int32) : Option (Int32 × dK) := if x3 ≤ x4 then some (1, q) else dG (dg x4 3) (dL (chV 10 x4) (fun v2 => dG (dnz (q.1 24 0)) (dG (dg (((q.1 24 5) + x4) - x2) 400) (dL (q.1 46 (Int32.toNatClampNeg (((q.1 24 5) + x4) - x2))) (fun v5 => if v2 = v5 then k20 q x2 x3 (x4 + 1) else some (0, q))))))
noncomputable def zX4_isSame_s24_t10_20  (n : Nat) (q : dK) (x2 : Int32) (x3 : Int32) (x4 : Int32) : Option (Int32 × dK) := dFix (α := dK × Int32 × Int32 × Int32) (fun k a => zX4_isSame_s24_t10_20b  (fun q x2 x3 x4 => k (q, x2, x3, x4)) a.1 a.2.1 a.2.2.1 a.2.2.2) n (q, x2, x3, x4)
noncomputable def zX4_isSame_s24_t10 (q : dK) (p2 : Int32) (p3 : Int32) : Option (Int32 × dK) := if (p3 - p2) = ((q.1 24 6) - (q.1 24 5)) then zX4_isSame_s24_t10_20  dF q p2 p3 p2 else some (0, q)
noncomputable def zX4_isWord_s24_t10_26  (q : dK) (y0 : Int32) : Option (Int32 × dK) := dG (dbl y0) (some (y0, q))
noncomputable def zX4_isWord_s24_t10_25  (q : dK)  : Option (Int32 × dK) := zX4_isWord_s24_t10_26  q 0
noncomputable def zX4_isWord_s24_t10 (q : dK)  : Option (Int32 × dK) := if (q.1 24 4) = 1 then dB (zX4_isSame_s24_t10 q 0 3) (fun r1 q3 => if r1 = 0 then zX4_isWord_s24_t10_25  q3 else zX4_isWord_s24_t10_26  q3 1) else zX4_isWord_s24_t10_25  q
noncomputable def zX7_leapHere_s25_26  (q : dK)  : Option (dK) := some q
noncomputable def zX7_leapHere_s25 (q : dK) (p1 : Int32) (p2 : Int32) : Option (dK) := if p2 < 0 then zX7_leapHere_s25_26  q else if (q.1 25 7) ≤ p2 then zX7_leapHere_s25_26  q else dG (dg p2 400) (dL (cui q 31 (Int32.toNatClampNeg p2) (((q.1 25 7) <<< ((4 : Int32) &&& 31) : Int32) ||| p1)) (fun q2 => zX7_leapHere_s25_26  q2))
noncomputable def zX4_readBoth_s24_73 (kT : dK → Option (dK))  (q : dK)  : Option (dK) := some q
noncomputable def zX4_readBoth_s24_6b (kT : dK → Option (dK)) (k6 : dK → Int32 → Option (dK)) (q : dK) (x1 : Int32) : Option (dK) := if (q.1 24 1) ≤ x1 then zX4_readBoth_s24_73 kT  q else if (q.1 24 10) = (-1) then dB (zX4_isWord_s24_t10 q ) (fun r1 q3 => if r1 = 0 then zX4_readBoth_s24_73 kT  q3 else dG (dnz (q3.1 24 3)) (dG (dnz (q3.1 24 3)) (dV (zX7_emit_s25 q3 11 0) (fun q8 => dV (zX4_step_s24 q8 ) (fun q11 => dV (zX4_readPlain_s24 kT q11 ) (fun q14 => dG (dnz (q14.1 24 3)) (dV (zX7_leapHere_s25 q14 11 (q3.1 25 7)) (fun q18 => k6 q18 (x1 + 1))))))))) else zX4_readBoth_s24_73 kT  q
noncomputable def zX4_readBoth_s24_6 (kT : dK → Option (dK))  (n : Nat) (q : dK) (x1 : Int32) : Option (dK) := dFix (α := dK × Int32) (fun k a => zX4_readBoth_s24_6b kT  (fun q x1 => k (q, x1)) a.1 a.2) n (q, x1)
noncomputable def zX4_readBoth_s24 (kT : dK → Option (dK)) (q : dK)  : Option (dK) := dV (zX4_readPlain_s24 kT q ) (fun q3 => zX4_readBoth_s24_6 kT  dF q3 0)
noncomputable def zX4_isSame_s24_t11_20b (k20 : dK → Int32 → Int32 → Int32 → Option (Int32 × dK)) (q : dK) (x2 : Int32) (x3 : Int32) (x4 : Int32) : Option (Int32 × dK) := if x3 ≤ x4 then some (1, q) else dG (dg x4 2) (dL (chV 11 x4) (fun v2 => dG (dnz (q.1 24 0)) (dG (dg (((q.1 24 5) + x4) - x2) 400) (dL (q.1 46 (Int32.toNatClampNeg (((q.1 24 5) + x4) - x2))) (fun v5 => if v2 = v5 then k20 q x2 x3 (x4 + 1) else some (0, q))))))
noncomputable def zX4_isSame_s24_t11_20  (n : Nat) (q : dK) (x2 : Int32) (x3 : Int32) (x4 : Int32) : Option (Int32 × dK) := dFix (α := dK × Int32 × Int32 × Int32) (fun k a => zX4_isSame_s24_t11_20b  (fun q x2 x3 x4 => k (q, x2, x3, x4)) a.1 a.2.1 a.2.2.1 a.2.2.2) n (q, x2, x3, x4)
noncomputable def zX4_isSame_s24_t11 (q : dK) (p2 : Int32) (p3 : Int32) : Option (Int32 × dK) := if (p3 - p2) = ((q.1 24 6) - (q.1 24 5)) then zX4_isSame_s24_t11_20  dF q p2 p3 p2 else some (0, q)
noncomputable def zX4_isWord_s24_t11_26  (q : dK) (y0 : Int32) : Option (Int32 × dK) := dG (dbl y0) (some (y0, q))
noncomputable def zX4_isWord_s24_t11_25  (q : dK)  : Option (Int32 × dK) := zX4_isWord_s24_t11_26  q 0
noncomputable def zX4_isWord_s24_t11 (q : dK)  : Option (Int32 × dK) := if (q.1 24 4) = 1 then dB (zX4_isSame_s24_t11 q 0 2) (fun r1 q3 => if r1 = 0 then zX4_isWord_s24_t11_25  q3 else zX4_isWord_s24_t11_26  q3 1) else zX4_isWord_s24_t11_25  q
noncomputable def zX4_readTest_s24_73 (kT : dK → Option (dK))  (q : dK)  : Option (dK) := some q
noncomputable def zX4_readTest_s24_6b (kT : dK → Option (dK)) (k6 : dK → Int32 → Option (dK)) (q : dK) (x1 : Int32) : Option (dK) := if (q.1 24 1) ≤ x1 then zX4_readTest_s24_73 kT  q else if (q.1 24 10) = (-1) then dB (zX4_isWord_s24_t11 q ) (fun r1 q3 => if r1 = 0 then zX4_readTest_s24_73 kT  q3 else dG (dnz (q3.1 24 3)) (dG (dnz (q3.1 24 3)) (dV (zX7_emit_s25 q3 12 0) (fun q8 => dV (zX4_step_s24 q8 ) (fun q11 => dV (zX4_readBoth_s24 kT q11 ) (fun q14 => dG (dnz (q14.1 24 3)) (dV (zX7_leapHere_s25 q14 12 (q3.1 25 7)) (fun q18 => k6 q18 (x1 + 1))))))))) else zX4_readTest_s24_73 kT  q
noncomputable def zX4_readTest_s24_6 (kT : dK → Option (dK))  (n : Nat) (q : dK) (x1 : Int32) : Option (dK) := dFix (α := dK × Int32) (fun k a => zX4_readTest_s24_6b kT  (fun q x1 => k (q, x1)) a.1 a.2) n (q, x1)
noncomputable def zX4_readTest_s24_o (kT : dK → Option (dK)) (q : dK)  : Option (dK) := dV (zX4_readBoth_s24 kT q ) (fun q3 => zX4_readTest_s24_6 kT  dF q3 0)
noncomputable def zX4_readTest_s24 : Nat → dK → Option (dK)
  | 0, _ => none
  | n + 1, q => zX4_readTest_s24_o (zX4_readTest_s24 n) q
noncomputable def zX7_endTest_s25_22  (q : dK)  : Option (dK) := some q
noncomputable def zX7_endTest_s25 (q : dK)  : Option (dK) := if (q.1 25 6) ≤ 0 then zX7_endTest_s25_22  q else dG (dg ((q.1 25 6) - 1 : Int32) 12) (dL (cui q 30 (Int32.toNatClampNeg ((q.1 25 6) - 1 : Int32)) (q.1 25 7)) (fun q2 => zX7_endTest_s25_22  q2))
noncomputable def zX4_readClause_s24_135  (q : dK)  : Option (dK) := some q
noncomputable def zX4_readClause_s24_103  (q : dK)  : Option (dK) := if (q.1 24 10) = (-1) then dB (zX4_isWord_s24_t7 q ) (fun r1 q3 => if r1 = 0 then zX4_readClause_s24_135  q3 else dV (zX4_step_s24 q3 ) (fun q6 => dV (zX4_readTest_s24 10 q6 ) (fun q9 => dG (dnz (q9.1 24 3)) (dV (zX7_endTest_s25 q9 ) (fun q13 => zX4_readClause_s24_135  q13))))) else zX4_readClause_s24_135  q
noncomputable def zX4_readClause_s24_71  (q : dK)  : Option (dK) := if (q.1 24 2) = 0 then zX4_readClause_s24_103  q else if (q.1 24 10) = (-1) then dB (zX4_isWord_s24_t6 q ) (fun r1 q3 => if r1 = 0 then zX4_readClause_s24_103  q3 else dV (zX4_step_s24 q3 ) (fun q6 => dV (zX4_readTimes_s24 q6 ) (fun q9 => zX4_readClause_s24_103  q9))) else zX4_readClause_s24_103  q
noncomputable def zX4_readClause_s24_60  (q : dK)  : Option (dK) := dV (zX4_readSum_s24 10 q ) (fun q3 => dG (dnz (q3.1 24 3)) (dV (zX7_endSum_s25 q3 ) (fun q7 => zX4_readClause_s24_71  q7)))
noncomputable def zX4_readClause_s24_15  (q : dK)  : Option (dK) := dB (zX4_wordIn_s24_t1 q ) (fun r1 q3 => if r1 = (-1) then dV (zX4_fail_s24 q3 ) (fun q13 => some q13) else dG (dnz (q3.1 24 3)) (dV (zX7_beginClause_s25 q3 r1) (fun q7 => dV (zX4_step_s24 q7 ) (fun q10 => if (q10.1 24 2) = 0 then if r1 = 0 then zX4_readClause_s24_60  q10 else zX4_readClause_s24_71  q10 else if r1 = 3 then zX4_readClause_s24_71  q10 else zX4_readClause_s24_60  q10))))
noncomputable def zX4_readClause_s24 (q : dK)  : Option (dK) := if (q.1 24 2) = 0 then zX4_readClause_s24_15  q else dB (zX4_wordIn_s24_t0 q ) (fun r1 q3 => if r1 = (-1) then dV (zX4_fail_s24 q3 ) (fun q13 => some q13) else dG (dnz (q3.1 24 3)) (dV (zX7_beginClause_s25 q3 r1) (fun q7 => dV (zX4_step_s24 q7 ) (fun q10 => if (q10.1 24 2) = 0 then if r1 = 0 then zX4_readClause_s24_60  q10 else zX4_readClause_s24_71  q10 else if r1 = 3 then zX4_readClause_s24_71  q10 else zX4_readClause_s24_60  q10))))
noncomputable def zX4_read_s24_s46_s25_122  (q : dK)  : Option (Int32 × dK) := some (q.1 24 10, q)
noncomputable def zX4_read_s24_s46_s25_110 (k60 : dK → Int32 → Option (Int32 × dK)) (q : dK) (x5 : Int32) : Option (Int32 × dK) := dV (zX4_expectSign_s24 q 59) (fun q3 => k60 q3 (x5 + 1))
noncomputable def zX4_read_s24_s46_s25_93 (k60 : dK → Int32 → Option (Int32 × dK)) (q : dK) (x5 : Int32) : Option (Int32 × dK) := if (q.1 24 10) = (-1) then if (q.1 24 4) = 0 then some ((-1), q) else zX4_read_s24_s46_s25_110 k60 q x5 else zX4_read_s24_s46_s25_110 k60 q x5
noncomputable def zX4_read_s24_s46_s25_60b (k60 : dK → Int32 → Option (Int32 × dK)) (q : dK) (x5 : Int32) : Option (Int32 × dK) := if 12 < x5 then zX4_read_s24_s46_s25_122  q else if (q.1 24 10) = (-1) then if x5 = 12 then dV (zX4_fail_s24 q ) (fun q6 => zX4_read_s24_s46_s25_93 k60 q6 x5) else dV (zX4_readClause_s24 q ) (fun q3 => zX4_read_s24_s46_s25_93 k60 q3 x5) else zX4_read_s24_s46_s25_122  q
noncomputable def zX4_read_s24_s46_s25_60  (n : Nat) (q : dK) (x5 : Int32) : Option (Int32 × dK) := dFix (α := dK × Int32) (fun k a => zX4_read_s24_s46_s25_60b  (fun q x5 => k (q, x5)) a.1 a.2) n (q, x5)
noncomputable def zX4_read_s24_s46_s25 (q : dK) (p2 : Int32) (p3 : Int32) : Option (Int32 × dK) := dL (cui q 24 0 1) (fun q1 => dL (cui q1 24 1 (mnI p2 400)) (fun q2 => dG (dbl p3) (dL (cui q2 24 2 p3) (fun q4 => dL (cui q4 24 3 1) (fun q5 => dG (dnz (q5.1 24 3)) (dV (zX7_clear_s25 q5 ) (fun q9 => dL (cui q9 24 6 0) (fun q10 => dL (cui q10 24 8 0) (fun q11 => dL (cui q11 24 9 0) (fun q12 => dL (cui q12 24 10 (-1)) (fun q13 => dV (zX4_step_s24 q13 ) (fun q16 => zX4_read_s24_s46_s25_60  dF q16 0))))))))))))
noncomputable def zX7_copyOfIt_s25_34b (ns : Nat) (k34 : dK → Int32 → Int32 → Option (Int32 × dK)) (q : dK) (x1 : Int32) (x2 : Int32) : Option (Int32 × dK) := if (q.1 25 6) ≤ x2 then dG (dlg q x1) (dG (dlg q x1) (dG (decide (¬ (q.1 25 7) < 0 ∧ 0 + Int32.toNatClampNeg (q.1 25 7) ≤ 400 ∧ 0 + Int32.toNatClampNeg (q.1 25 7) ≤ Int32.toNatClampNeg (dTx q x1).2.2.2.1)) (dL (clc q x1 31 5 (Int32.toNatClampNeg (q.1 25 7))) (fun q4 => some (x1, q4))))) else dG (dlg q x1) (dG (dg x2 12) (dL (q.1 26 (Int32.toNatClampNeg x2)) (fun v7 => dG (dlg q x1) (dG (dg x2 (Int32.toNatClampNeg (dTx q x1).2.2.1)) (dL (cla q x1 0 (Int32.toNatClampNeg x2) v7) (fun q10 => dG (dlg q10 x1) (dG (dg x2 12) (dL (q10.1 27 (Int32.toNatClampNeg x2)) (fun v13 => dG (dlg q10 x1) (dG (dg x2 (Int32.toNatClampNeg (dTx q10 x1).2.2.1)) (dL (cla q10 x1 1 (Int32.toNatClampNeg x2) v13) (fun q16 => dG (dlg q16 x1) (dG (dg x2 12) (dL (q16.1 28 (Int32.toNatClampNeg x2)) (fun v19 => dG (dlg q16 x1) (dG (dg x2 (Int32.toNatClampNeg (dTx q16 x1).2.2.1)) (dL (cla q16 x1 2 (Int32.toNatClampNeg x2) v19) (fun q22 => dG (dlg q22 x1) (dG (dg x2 12) (dL (q22.1 29 (Int32.toNatClampNeg x2)) (fun v25 => dG (dlg q22 x1) (dG (dg x2 (Int32.toNatClampNeg (dTx q22 x1).2.2.1)) (dL (cla q22 x1 3 (Int32.toNatClampNeg x2) v25) (fun q28 => dG (dlg q28 x1) (dG (dg x2 12) (dL (q28.1 30 (Int32.toNatClampNeg x2)) (fun v31 => dG (dlg q28 x1) (dG (dg x2 (Int32.toNatClampNeg (dTx q28 x1).2.2.1)) (dL (cla q28 x1 4 (Int32.toNatClampNeg x2) v31) (fun q34 => k34 q34 x1 (x2 + 1)))))))))))))))))))))))))))))))
noncomputable def zX7_copyOfIt_s25_34 (ns : Nat)  (n : Nat) (q : dK) (x1 : Int32) (x2 : Int32) : Option (Int32 × dK) := dFix (α := dK × Int32 × Int32) (fun k a => zX7_copyOfIt_s25_34b ns  (fun q x1 x2 => k (q, x1, x2)) a.1 a.2.1 a.2.2) n (q, x1, x2)
noncomputable def zX7_copyOfIt_s25 (ns : Nat) (q : dK)  : Option (Int32 × dK) := dG (decide (¬ (q.1 25 6) < 0 ∧ ¬ (q.1 25 7) < 0 ∧ Int32.toNatClampNeg (q.1 25 6) * 4 ≤ 536870912 ∧ Int32.toNatClampNeg (q.1 25 7) * 4 ≤ 536870912 ∧ 5 * Int32.toNatClampNeg (q.1 25 6) + Int32.toNatClampNeg (q.1 25 7) ≤ ns - 8 ∧ 8 ≤ ns)) (dG (dlokB q) (dL (cln q (q.1 25 6) (q.1 25 7)) (fun q2 => dG (dlg q2 (Int32.ofNat (q.2.2.length + 1))) (dL (clf6 q2 (Int32.ofNat (q.2.2.length + 1)) (q2.1 25 6)) (fun q4 => dG (dlg q4 (Int32.ofNat (q.2.2.length + 1))) (dL (clf7 q4 (Int32.ofNat (q.2.2.length + 1)) (q4.1 25 7)) (fun q6 => zX7_copyOfIt_s25_34 ns  dF q6 (Int32.ofNat (q.2.2.length + 1)) 0)))))))
noncomputable def zX9_law_s0 (ns : Nat) (q : dK)  : Option (Int32 × dK) := dL (cui q 0 12 0) (fun q1 => if (q1.1 1 8) < 6 then dB (zX4_read_s24_s46_s25 q1 (q.1 0 12) 0) (fun r2 q4 => dL (cui q4 0 13 r2) (fun q5 => if (q5.1 0 13) = (-1) then dB (zX7_copyOfIt_s25 ns q5 ) (fun r6 q8 => dG (decide (q5.2.2.length = q.2.2.length)) (dG (dg (q5.1 1 8) 6) (dG (dlg q8 r6) (dL (cui q8 7 (Int32.toNatClampNeg (q5.1 1 8)) r6) (fun q12 => dL (cui q12 1 8 ((q12.1 1 8) + 1 : Int32)) (fun q13 => dB (zX9_accept_s0 q13 ((q13.1 1 8) - 1 : Int32)) (fun r14 q16 => some (r14, q16)))))))) else dB (zX9_refuse_s0 q5 (-6)) (fun r17 q19 => some (r17, q19)))) else dB (zX9_refuse_s0 q1 (-5)) (fun r20 q22 => some (r20, q22)))
noncomputable def zX8_pack_s2_8b (k8 : dK → Int64 → Int32 → Option (Int64 × dK)) (q : dK) (x1 : Int64) (x3 : Int32) : Option (Int64 × dK) := if 6 ≤ x3 then dL ((x1 <<< (Int32.toInt64 (14 : Int32) &&& 63)) ||| (Int32.toInt64 (q.1 2 3)) : Int64) (fun v1 => dL ((v1 <<< (Int32.toInt64 (10 : Int32) &&& 63)) ||| (Int32.toInt64 (q.1 2 4)) : Int64) (fun v2 => some (v2, q))) else dG (dg x3 6) (dL (q.1 3 (Int32.toNatClampNeg x3)) (fun v4 => dL ((x1 <<< (Int32.toInt64 (4 : Int32) &&& 63)) ||| (Int32.toInt64 (v4 <<< ((1 : Int32) &&& 31) : Int32)) : Int64) (fun v5 => dG (dg x3 6) (dL (q.1 4 (Int32.toNatClampNeg x3)) (fun v7 => k8 q (v5 ||| (Int32.toInt64 v7) : Int64) (x3 + 1))))))
noncomputable def zX8_pack_s2_8  (n : Nat) (q : dK) (x1 : Int64) (x3 : Int32) : Option (Int64 × dK) := dFix (α := dK × Int64 × Int32) (fun k a => zX8_pack_s2_8b  (fun q x1 x3 => k (q, x1, x3)) a.1 a.2.1 a.2.2) n (q, x1, x3)
noncomputable def zX8_pack_s2 (q : dK)  : Option (Int64 × dK) := zX8_pack_s2_8  dF q (Int32.toInt64 (q.1 2 2)) 0
noncomputable def zX0_mark_s10 (q : dK)  : Option (dK) := dL (ccl q 11 13 0 0 16) (fun q1 => dL (cci q1 12 14 0 0 16) (fun q2 => dL (cui q2 10 5 (q2.1 10 2)) (fun q3 => some q3)))
noncomputable def zX8_anyBetween_s2_32 (k2 : dK → Int32 → Int32 → Int32 → Option (Int32 × dK)) (q : dK) (x1 : Int32) (x2 : Int32) (x3 : Int32) : Option (Int32 × dK) := k2 q x1 x2 (x3 + 1)
noncomputable def zX8_anyBetween_s2_2b (k2 : dK → Int32 → Int32 → Int32 → Option (Int32 × dK)) (q : dK) (x1 : Int32) (x2 : Int32) (x3 : Int32) : Option (Int32 × dK) := if (q.1 2 2) ≤ x3 then some (0, q) else dG (dg x3 6) (dL (q.1 3 (Int32.toNatClampNeg x3)) (fun v2 => if v2 ≤ x1 then zX8_anyBetween_s2_32 k2 q x1 x2 x3 else dG (dg x3 6) (dL (q.1 3 (Int32.toNatClampNeg x3)) (fun v4 => if x2 ≤ v4 then zX8_anyBetween_s2_32 k2 q x1 x2 x3 else some (1, q)))))
noncomputable def zX8_anyBetween_s2_2  (n : Nat) (q : dK) (x1 : Int32) (x2 : Int32) (x3 : Int32) : Option (Int32 × dK) := dFix (α := dK × Int32 × Int32 × Int32) (fun k a => zX8_anyBetween_s2_2b  (fun q x1 x2 x3 => k (q, x1, x2, x3)) a.1 a.2.1 a.2.2.1 a.2.2.2) n (q, x1, x2, x3)
noncomputable def zX8_anyBetween_s2 (q : dK) (p1 : Int32) (p2 : Int32) : Option (Int32 × dK) := zX8_anyBetween_s2_2  dF q p1 p2 0
noncomputable def zX8_gapCount_s2_97  (q : dK) (y0 : Int32) : Option (Int32 × dK) := some (y0, q)
noncomputable def zX8_gapCount_s2_4b (k4 : dK → Int32 → Int32 → Option (Int32 × dK)) (q : dK) (x1 : Int32) (x2 : Int32) : Option (Int32 × dK) := if (q.1 2 2) ≤ (x2 + 1 : Int32) then if (q.1 2 2) = 0 then zX8_gapCount_s2_97  q 0 else dG (dg ((q.1 2 2) - 1 : Int32) 6) (dL (q.1 3 (Int32.toNatClampNeg ((q.1 2 2) - 1 : Int32))) (fun v2 => dB (zX8_anyBetween_s2 q v2 6) (fun r3 q5 => dV (zX9_bit r3) (fun r6 => zX8_gapCount_s2_97  q5 (x1 + r6))))) else dG (dg x2 6) (dL (q.1 3 (Int32.toNatClampNeg x2)) (fun v9 => dG (dg (x2 + 1 : Int32) 6) (dL (q.1 3 (Int32.toNatClampNeg (x2 + 1 : Int32))) (fun v11 => dG (dg x2 6) (dL (q.1 3 (Int32.toNatClampNeg x2)) (fun v13 => dG (dg (x2 + 1 : Int32) 6) (dL (q.1 3 (Int32.toNatClampNeg (x2 + 1 : Int32))) (fun v15 => dB (zX8_anyBetween_s2 q (mnI v9 v11) (mxI v13 v15)) (fun r16 q18 => dV (zX9_bit r16) (fun r19 => k4 q18 (x1 + r19) (x2 + 1)))))))))))
noncomputable def zX8_gapCount_s2_4  (n : Nat) (q : dK) (x1 : Int32) (x2 : Int32) : Option (Int32 × dK) := dFix (α := dK × Int32 × Int32) (fun k a => zX8_gapCount_s2_4b  (fun q x1 x2 => k (q, x1, x2)) a.1 a.2.1 a.2.2) n (q, x1, x2)
noncomputable def zX8_gapCount_s2 (q : dK)  : Option (Int32 × dK) := zX8_gapCount_s2_4  dF q 0 0
noncomputable def zX5_setWords_s22_s2_52b (k52 : dK → Int32 → Option (dK)) (q : dK) (x2 : Int32) : Option (dK) := if 6 ≤ x2 then some q else dB (zX8_tell_s2 q x2 0) (fun r1 q3 => dG (dg (5 + x2 : Int32) 17) (dL (cui q3 23 (Int32.toNatClampNeg (5 + x2 : Int32)) r1) (fun q5 => dB (zX8_tell_s2 q5 x2 1) (fun r6 q8 => dG (dg (11 + x2 : Int32) 17) (dL (cui q8 23 (Int32.toNatClampNeg (11 + x2 : Int32)) r6) (fun q10 => k52 q10 (x2 + 1)))))))
noncomputable def zX5_setWords_s22_s2_52  (n : Nat) (q : dK) (x2 : Int32) : Option (dK) := dFix (α := dK × Int32) (fun k a => zX5_setWords_s22_s2_52b  (fun q x2 => k (q, x2)) a.1 a.2) n (q, x2)
noncomputable def zX5_setWords_s22_s2 (q : dK)  : Option (dK) := dL (cui q 23 0 (q.1 2 4)) (fun q1 => dL (cui q1 23 1 (q1.1 22 2)) (fun q2 => dL (cui q2 23 2 (q2.1 22 3)) (fun q3 => dL (cui q3 23 3 (q3.1 2 3)) (fun q4 => dB (zX8_gapCount_s2 q4 ) (fun r5 q7 => dL (cui q7 23 4 r5) (fun q8 => zX5_setWords_s22_s2_52  dF q8 0))))))
noncomputable def zX2_valueOf_s18_s25_s23_345  (q : dK) (y0 : Int32) : Option (Int32 × dK) := some (y0, q)
noncomputable def zX2_valueOf_s18_s25_s23_328  (q : dK)  : Option (Int32 × dK) := if (q.1 18 1) = 0 then zX2_valueOf_s18_s25_s23_345  q (q.1 19 0) else zX2_valueOf_s18_s25_s23_345  q 0
noncomputable def zX2_valueOf_s18_s25_s23_322 (k32 : dK → Int32 → Int32 → Int32 → Int32 → Option (Int32 × dK)) (q : dK) (x5 : Int32) (x6 : Int32) (x7 : Int32) (x8 : Int32) : Option (Int32 × dK) := k32 q x5 x6 x7 (x8 + 1)
noncomputable def zX2_valueOf_s18_s25_s23_281 (k32 : dK → Int32 → Int32 → Int32 → Int32 → Option (Int32 × dK)) (q : dK) (x6 : Int32) (x7 : Int32) (x8 : Int32) (y0 : Int32) : Option (Int32 × dK) := zX2_valueOf_s18_s25_s23_322 k32 q y0 x6 x7 x8
noncomputable def zX2_valueOf_s18_s25_s23_265 (k32 : dK → Int32 → Int32 → Int32 → Int32 → Option (Int32 × dK)) (q : dK) (x5 : Int32) (x7 : Int32) (x8 : Int32) (x12 : Int32) (y0 : Int32) : Option (Int32 × dK) := if x12 = 0 then zX2_valueOf_s18_s25_s23_281 k32 q y0 x7 x8 (x5 - 1 : Int32) else zX2_valueOf_s18_s25_s23_281 k32 q y0 x7 x8 x5
noncomputable def zX2_valueOf_s18_s25_s23_251 (k32 : dK → Int32 → Int32 → Int32 → Int32 → Option (Int32 × dK)) (q : dK) (x5 : Int32) (x6 : Int32) (x7 : Int32) (x8 : Int32) (x10 : Int32) (y0 : Int32) : Option (Int32 × dK) := if y0 = 0 then zX2_valueOf_s18_s25_s23_265 k32 q x5 x7 x8 y0 x6 else zX2_valueOf_s18_s25_s23_265 k32 q x5 x7 x8 y0 x10
noncomputable def zX2_valueOf_s18_s25_s23_243 (k32 : dK → Int32 → Int32 → Int32 → Int32 → Option (Int32 × dK)) (q : dK) (x5 : Int32) (x6 : Int32) (x7 : Int32) (x8 : Int32) (x10 : Int32) (y0 : Int32) (y1 : Int32) : Option (Int32 × dK) := if y1 = y0 then zX2_valueOf_s18_s25_s23_251 k32 q x5 x6 x7 x8 x10 1 else zX2_valueOf_s18_s25_s23_251 k32 q x5 x6 x7 x8 x10 0
noncomputable def zX2_valueOf_s18_s25_s23_222 (k32 : dK → Int32 → Int32 → Int32 → Int32 → Option (Int32 × dK)) (q : dK) (x5 : Int32) (x6 : Int32) (x7 : Int32) (x8 : Int32) (x9 : Int32) (x10 : Int32) : Option (Int32 × dK) := dG (dg (x5 - 1 : Int32) 64) (dL (q.1 19 (Int32.toNatClampNeg (x5 - 1 : Int32))) (fun v2 => if x9 = 12 then zX2_valueOf_s18_s25_s23_243 k32 q x5 x6 x7 x8 x10 1 v2 else zX2_valueOf_s18_s25_s23_243 k32 q x5 x6 x7 x8 x10 0 v2))
noncomputable def zX2_valueOf_s18_s25_s23_171 (k32 : dK → Int32 → Int32 → Int32 → Int32 → Option (Int32 × dK)) (q : dK) (x5 : Int32) (x6 : Int32) (x7 : Int32) (x8 : Int32) (y0 : Int32) (y1 : Int32) : Option (Int32 × dK) := dG (dg y1 64) (dL (cui q 19 (Int32.toNatClampNeg y1) y0) (fun q2 => zX2_valueOf_s18_s25_s23_322 k32 q2 (x5 + 1) x6 x7 x8))
noncomputable def zX2_valueOf_s18_s25_s23_150 (k32 : dK → Int32 → Int32 → Int32 → Int32 → Option (Int32 × dK)) (q : dK) (x5 : Int32) (x6 : Int32) (x7 : Int32) (x8 : Int32) (x9 : Int32) (x10 : Int32) : Option (Int32 × dK) := if x9 = 0 then zX2_valueOf_s18_s25_s23_171 k32 q x5 x6 x7 x8 x10 x5 else dG (dg x10 17) (dL (q.1 23 (Int32.toNatClampNeg x10)) (fun v2 => zX2_valueOf_s18_s25_s23_171 k32 q x5 x6 x7 x8 v2 x5))
noncomputable def zX2_valueOf_s18_s25_s23_139 (k32 : dK → Int32 → Int32 → Int32 → Int32 → Option (Int32 × dK)) (q : dK) (x5 : Int32) (x6 : Int32) (x7 : Int32) (x8 : Int32) (x9 : Int32) (x10 : Int32) : Option (Int32 × dK) := if x9 = 0 then zX2_valueOf_s18_s25_s23_150 k32 q x5 x6 x7 x8 x9 x10 else if x9 = 1 then zX2_valueOf_s18_s25_s23_150 k32 q x5 x6 x7 x8 x9 x10 else if x9 = 10 then dG (dg (x5 - 1 : Int32) 64) (dL (q.1 19 (Int32.toNatClampNeg (x5 - 1 : Int32))) (fun v11 => dG (dg (x5 - 1 : Int32) 64) (dL (cui q 19 (Int32.toNatClampNeg (x5 - 1 : Int32)) (1 - v11 : Int32)) (fun q13 => zX2_valueOf_s18_s25_s23_322 k32 q13 x5 x6 x7 x8)))) else if x9 = 11 then zX2_valueOf_s18_s25_s23_222 k32 q x5 x6 x7 x8 x9 x10 else if x9 = 12 then zX2_valueOf_s18_s25_s23_222 k32 q x5 x6 x7 x8 x9 x10 else dG (dg ((x5 + (-1)) - 1 : Int32) 64) (dL (q.1 19 (Int32.toNatClampNeg ((x5 + (-1)) - 1 : Int32))) (fun v2 => dG (dg (x5 + (-1)) 64) (dL (q.1 19 (Int32.toNatClampNeg (x5 + (-1)))) (fun v4 => dB (zX2_join_s18 q x9 (Int32.toInt64 v2) (Int32.toInt64 v4)) (fun r5 q7 => dG (dg ((x5 + (-1)) - 1 : Int32) 64) (dL (cui q7 19 (Int32.toNatClampNeg ((x5 + (-1)) - 1 : Int32)) r5) (fun q9 => zX2_valueOf_s18_s25_s23_322 k32 q9 (x5 + (-1)) x6 x7 x8)))))))
noncomputable def zX2_valueOf_s18_s25_s23_131 (k32 : dK → Int32 → Int32 → Int32 → Int32 → Option (Int32 × dK)) (q : dK) (x5 : Int32) (x6 : Int32) (x7 : Int32) (x8 : Int32) : Option (Int32 × dK) := dL (cui q 18 1 1) (fun q1 => zX2_valueOf_s18_s25_s23_322 k32 q1 x5 x6 x7 x8)
noncomputable def zX2_valueOf_s18_s25_s23_98 (k32 : dK → Int32 → Int32 → Int32 → Int32 → Option (Int32 × dK)) (q : dK) (x5 : Int32) (x6 : Int32) (x7 : Int32) (x8 : Int32) (x9 : Int32) (x10 : Int32) (y0 : Int32) : Option (Int32 × dK) := if x5 < y0 then zX2_valueOf_s18_s25_s23_131 k32 q x5 (x6 + 1) x7 x8 else if 64 ≤ x5 then zX2_valueOf_s18_s25_s23_131 k32 q x5 (x6 + 1) x7 x8 else if x9 = 1 then if x10 < 17 then zX2_valueOf_s18_s25_s23_139 k32 q x5 (x6 + 1) x7 x8 x9 x10 else zX2_valueOf_s18_s25_s23_131 k32 q x5 (x6 + 1) x7 x8 else zX2_valueOf_s18_s25_s23_139 k32 q x5 (x6 + 1) x7 x8 x9 x10
noncomputable def zX2_valueOf_s18_s25_s23_32b (k32 : dK → Int32 → Int32 → Int32 → Int32 → Option (Int32 × dK)) (q : dK) (x5 : Int32) (x6 : Int32) (x7 : Int32) (x8 : Int32) : Option (Int32 × dK) := if x7 ≤ x8 then zX2_valueOf_s18_s25_s23_328  q else if x7 ≤ x6 then zX2_valueOf_s18_s25_s23_328  q else if (q.1 18 1) = 0 then dG (dg x6 400) (dL (q.1 31 (Int32.toNatClampNeg x6)) (fun v2 => dG (dg x6 400) (dL (q.1 31 (Int32.toNatClampNeg x6)) (fun v4 => if 1 < (v2 &&& 15 : Int32) then if 10 ≤ (v2 &&& 15 : Int32) then zX2_valueOf_s18_s25_s23_98 k32 q x5 x6 x7 x8 (v2 &&& 15 : Int32) (v4 >>> ((4 : Int32) &&& 31) : Int32) 1 else zX2_valueOf_s18_s25_s23_98 k32 q x5 x6 x7 x8 (v2 &&& 15 : Int32) (v4 >>> ((4 : Int32) &&& 31) : Int32) 2 else zX2_valueOf_s18_s25_s23_98 k32 q x5 x6 x7 x8 (v2 &&& 15 : Int32) (v4 >>> ((4 : Int32) &&& 31) : Int32) 0)))) else zX2_valueOf_s18_s25_s23_328  q
noncomputable def zX2_valueOf_s18_s25_s23_32  (n : Nat) (q : dK) (x5 : Int32) (x6 : Int32) (x7 : Int32) (x8 : Int32) : Option (Int32 × dK) := dFix (α := dK × Int32 × Int32 × Int32 × Int32) (fun k a => zX2_valueOf_s18_s25_s23_32b  (fun q x5 x6 x7 x8 => k (q, x5, x6, x7, x8)) a.1 a.2.1 a.2.2.1 a.2.2.2.1 a.2.2.2.2) n (q, x5, x6, x7, x8)
noncomputable def zX2_valueOf_s18_s25_s23 (q : dK) (p2 : Int32) (p3 : Int32) : Option (Int32 × dK) := dL (cui q 18 1 0) (fun q1 => dL (cui q1 19 0 1) (fun q2 => zX2_valueOf_s18_s25_s23_32  dF q2 0 p2 (mnI p3 400) p2))
noncomputable def zX8_exchange_s2 (q : dK) (p1 : Int32) (p2 : Int32) : Option (dK) := dG (dg p1 6) (dL (q.1 3 (Int32.toNatClampNeg p1)) (fun v2 => dG (dg p1 6) (dL (q.1 4 (Int32.toNatClampNeg p1)) (fun v4 => dG (dg p2 6) (dL (q.1 3 (Int32.toNatClampNeg p2)) (fun v6 => dG (dg p1 6) (dL (cui q 3 (Int32.toNatClampNeg p1) v6) (fun q8 => dG (dg p2 6) (dL (q8.1 4 (Int32.toNatClampNeg p2)) (fun v10 => dG (dg p1 6) (dL (cui q8 4 (Int32.toNatClampNeg p1) v10) (fun q12 => dG (dg p2 6) (dL (cui q12 3 (Int32.toNatClampNeg p2) v2) (fun q14 => dG (dg p2 6) (dL (cui q14 4 (Int32.toNatClampNeg p2) v4) (fun q16 => some q16))))))))))))))))
noncomputable def zX8_turnTop_s2_s20_75b (k75 : dK → Int32 → Int32 → Int32 → Option (Int32 × dK)) (q : dK) (x1 : Int32) (x3 : Int32) (x4 : Int32) : Option (Int32 × dK) := if x1 ≤ x4 then dL (cui q 2 3 (mnI 9999 ((q.1 2 3) + x3))) (fun q1 => some (x3, q1)) else dG (dg x4 6) (dL (q.1 4 (Int32.toNatClampNeg x4)) (fun v3 => dG (dg x4 6) (dL (cui q 4 (Int32.toNatClampNeg x4) (1 - v3 : Int32)) (fun q5 => k75 q5 x1 x3 (x4 + 1)))))
noncomputable def zX8_turnTop_s2_s20_75  (n : Nat) (q : dK) (x1 : Int32) (x3 : Int32) (x4 : Int32) : Option (Int32 × dK) := dFix (α := dK × Int32 × Int32 × Int32) (fun k a => zX8_turnTop_s2_s20_75b  (fun q x1 x3 x4 => k (q, x1, x3, x4)) a.1 a.2.1 a.2.2.1 a.2.2.2) n (q, x1, x3, x4)
noncomputable def zX8_turnTop_s2_s20_48b (k48 : dK → Int32 → Int32 → Int32 → Int32 → Option (Int32 × dK)) (q : dK) (x1 : Int32) (x3 : Int32) (x4 : Int32) (x5 : Int32) : Option (Int32 × dK) := if x5 ≤ x4 then zX8_turnTop_s2_s20_75  dF q x1 x3 0 else dV (zX8_exchange_s2 q x4 x5) (fun q3 => k48 q3 x1 x3 (x4 + 1) (x5 + (-1)))
noncomputable def zX8_turnTop_s2_s20_48  (n : Nat) (q : dK) (x1 : Int32) (x3 : Int32) (x4 : Int32) (x5 : Int32) : Option (Int32 × dK) := dFix (α := dK × Int32 × Int32 × Int32 × Int32) (fun k a => zX8_turnTop_s2_s20_48b  (fun q x1 x3 x4 x5 => k (q, x1, x3, x4, x5)) a.1 a.2.1 a.2.2.1 a.2.2.2.1 a.2.2.2.2) n (q, x1, x3, x4, x5)
noncomputable def zX8_turnTop_s2_s20_30  (q : dK)  : Option (Int32 × dK) := some ((-3), q)
noncomputable def zX8_turnTop_s2_s20_11  (q : dK)  : Option (Int32 × dK) := some ((-1), q)
noncomputable def zX8_turnTop_s2_s20 (q : dK) (p1 : Int32) : Option (Int32 × dK) := if p1 < 1 then zX8_turnTop_s2_s20_11  q else if p1 ≤ 6 then if (q.1 2 2) < p1 then zX8_turnTop_s2_s20_30  q else dB (zX1_bars_s20_s2 q p1) (fun r1 q3 => if r1 = 0 then dB (zX1_payOf_s20_s2 q3 p1) (fun r4 q6 => zX8_turnTop_s2_s20_48  dF q6 p1 r4 0 (p1 - 1 : Int32)) else zX8_turnTop_s2_s20_30  q3) else zX8_turnTop_s2_s20_11  q
noncomputable def zX8_rightAt_s2_10  (q : dK)  : Option (Int32 × dK) := some ((-1), q)
noncomputable def zX8_rightAt_s2 (q : dK) (p1 : Int32) : Option (Int32 × dK) := if p1 < 0 then zX8_rightAt_s2_10  q else if p1 < 6 then dB (zX8_isFloor_s2 q p1) (fun r1 q3 => if r1 = 0 then some ((-3), q3) else dG (dg p1 6) (dL (q3.1 4 (Int32.toNatClampNeg p1)) (fun v5 => dG (dg p1 6) (dL (cui q3 4 (Int32.toNatClampNeg p1) (1 - v5 : Int32)) (fun q7 => dG (dg p1 6) (dL (q7.1 4 (Int32.toNatClampNeg p1)) (fun v9 => some (v9, q7)))))))) else zX8_rightAt_s2_10  q
noncomputable def zX8_swapAt_s2_9  (q : dK)  : Option (Int32 × dK) := some ((-1), q)
noncomputable def zX8_swapAt_s2 (q : dK) (p1 : Int32) : Option (Int32 × dK) := if p1 < 0 then zX8_swapAt_s2_9  q else if p1 < 5 then dB (zX8_isFloor_s2 q (p1 + 1 : Int32)) (fun r1 q3 => if r1 = 0 then some ((-3), q3) else dV (zX8_exchange_s2 q3 p1 (p1 + 1 : Int32)) (fun q6 => dG (dg p1 6) (dL (q6.1 3 (Int32.toNatClampNeg p1)) (fun v8 => some (v8, q6))))) else zX8_swapAt_s2_9  q
noncomputable def zJ6_bitCount_0f7a4 (p1 : Int32) : Option (Int32) := dL (((p1 : Int32).toUInt32 >>> ((1 : Int32).toUInt32 &&& Int32.toUInt32 31)).toInt32) (fun v1 => dL (((p1 - (v1 &&& 1431655765 : Int32) : Int32).toUInt32 >>> ((2 : Int32).toUInt32 &&& Int32.toUInt32 31)).toInt32) (fun v2 => dL (((p1 - (v1 &&& 1431655765 : Int32)) &&& 858993459 : Int32) + (v2 &&& 858993459 : Int32)) (fun v3 => dL (((v3 : Int32).toUInt32 >>> ((4 : Int32).toUInt32 &&& Int32.toUInt32 31)).toInt32) (fun v4 => dL (((((v3 + v4) &&& 252645135 : Int32) : Int32).toUInt32 >>> ((8 : Int32).toUInt32 &&& Int32.toUInt32 31)).toInt32) (fun v5 => dL (((((v3 + v4) &&& 252645135 : Int32) + v5 : Int32).toUInt32 >>> ((16 : Int32).toUInt32 &&& Int32.toUInt32 31)).toInt32) (fun v6 => dL (((((v3 + v4) &&& 252645135 : Int32) + v5) + v6) &&& 63 : Int32) (fun v7 => some v7)))))))
noncomputable def zX8_passYear_s2_s20_47b (k47 : dK → Int32 → Int32 → Option (Int32 × dK)) (q : dK) (x2 : Int32) (x3 : Int32) : Option (Int32 × dK) := if (q.1 2 2) ≤ x3 then dL (cui q 2 4 ((q.1 2 4) + 1 : Int32)) (fun q1 => dV (zJ6_bitCount_0f7a4 x2) (fun r2 => some (r2, q1))) else dG (dg x3 6) (dL (q.1 4 (Int32.toNatClampNeg x3)) (fun v5 => dG (dg x3 6) (dL (cui q 4 (Int32.toNatClampNeg x3) (v5 ^^^ ((x2 >>> ((x3 : Int32) &&& 31)) &&& 1 : Int32))) (fun q7 => k47 q7 x2 (x3 + 1)))))
noncomputable def zX8_passYear_s2_s20_47  (n : Nat) (q : dK) (x2 : Int32) (x3 : Int32) : Option (Int32 × dK) := dFix (α := dK × Int32 × Int32) (fun k a => zX8_passYear_s2_s20_47b  (fun q x2 x3 => k (q, x2, x3)) a.1 a.2.1 a.2.2) n (q, x2, x3)
noncomputable def zX8_passYear_s2_s20_17b (k17 : dK → Int32 → Int32 → Option (Int32 × dK)) (q : dK) (x2 : Int32) (x3 : Int32) : Option (Int32 × dK) := if (q.1 2 2) ≤ x3 then zX8_passYear_s2_s20_47  dF q x2 0 else dB (zX1_tips_s20_s2 q x3) (fun r1 q3 => dV (zX9_bit r1) (fun r4 => k17 q3 (x2 ||| (r4 <<< ((x3 : Int32) &&& 31))) (x3 + 1)))
noncomputable def zX8_passYear_s2_s20_17  (n : Nat) (q : dK) (x2 : Int32) (x3 : Int32) : Option (Int32 × dK) := dFix (α := dK × Int32 × Int32) (fun k a => zX8_passYear_s2_s20_17b  (fun q x2 x3 => k (q, x2, x3)) a.1 a.2.1 a.2.2) n (q, x2, x3)
noncomputable def zX8_passYear_s2_s20 (q : dK)  : Option (Int32 × dK) := if (q.1 2 4) < 999 then zX8_passYear_s2_s20_17  dF q 0 0 else some ((-3), q)
noncomputable def zX8_act_s2_s20 (q : dK) (p1 : Int32) (p2 : Int32) : Option (Int32 × dK) := if p1 = 0 then dB (zX8_turnTop_s2_s20 q p2) (fun r2 q4 => some (r2, q4)) else if p1 = 1 then dB (zX8_rightAt_s2 q p2) (fun r6 q8 => some (r6, q8)) else if p1 = 2 then dB (zX8_swapAt_s2 q p2) (fun r10 q12 => some (r10, q12)) else if p1 = 3 then dB (zX8_passYear_s2_s20 q ) (fun r14 q16 => some (r14, q16)) else some ((-3), q)
noncomputable def zX0_keep_s10_45  (q : dK) (x1 : Int32) (x2 : Int64) : Option (dK) := dG (dg (q.1 10 2) 16) (dL (cul q 11 (Int32.toNatClampNeg (q.1 10 2)) x2) (fun q2 => dG (dg (q2.1 10 2) 16) (dL (cui q2 12 (Int32.toNatClampNeg (q2.1 10 2)) x1) (fun q4 => dL (cui q4 10 2 ((q4.1 10 2) + 1 : Int32)) (fun q5 => some q5)))))
noncomputable def zX0_keep_s10 (q : dK) (p1 : Int32) (p2 : Int64) : Option (dK) := if (q.1 10 2) < 16 then zX0_keep_s10_45  q p1 p2 else dL (ccl q 11 11 1 0 15) (fun q1 => dL (cci q1 12 12 1 0 15) (fun q2 => dL (cui q2 10 2 15) (fun q3 => zX0_keep_s10_45  q3 p1 p2)))
noncomputable def zX8_unpack_s2_31b (k31 : dK → Int64 → Int32 → Option (dK)) (q : dK) (x3 : Int64) (x5 : Int32) : Option (dK) := if x5 < 0 then dL (cui q 2 2 (mnI 6 (Int64.toInt32 x3))) (fun q1 => some q1) else dG (dg x5 6) (dL (cui q 4 (Int32.toNatClampNeg x5) (Int64.toInt32 (x3 &&& 1 : Int64))) (fun q3 => dG (dg x5 6) (dL (cui q3 3 (Int32.toNatClampNeg x5) (Int64.toInt32 ((x3 >>> (Int32.toInt64 (1 : Int32) &&& 63)) &&& 7 : Int64))) (fun q5 => k31 q5 (x3 >>> (Int32.toInt64 (4 : Int32) &&& 63)) (x5 + (-1))))))
noncomputable def zX8_unpack_s2_31  (n : Nat) (q : dK) (x3 : Int64) (x5 : Int32) : Option (dK) := dFix (α := dK × Int64 × Int32) (fun k a => zX8_unpack_s2_31b  (fun q x3 x5 => k (q, x3, x5)) a.1 a.2.1 a.2.2) n (q, x3, x5)
noncomputable def zX8_unpack_s2 (q : dK) (p1 : Int64) : Option (dK) := dL (cui q 2 4 (Int64.toInt32 (p1 &&& 1023 : Int64))) (fun q1 => dL ((p1 >>> (Int32.toInt64 (10 : Int32) &&& 63)) &&& 16383 : Int64) (fun v2 => dL (cui q1 2 3 (Int64.toInt32 v2)) (fun q3 => zX8_unpack_s2_31  dF q3 (p1 >>> (Int32.toInt64 (24 : Int32) &&& 63)) 5)))
noncomputable def zX0_backToMark_s10 (q : dK)  : Option (dK) := dL (ccl q 13 11 0 0 16) (fun q1 => dL (cci q1 14 12 0 0 16) (fun q2 => dL (cui q2 10 2 (q2.1 10 5)) (fun q3 => some q3)))
noncomputable def zX5_run_s22_s25_s2_s20_s10_208 (k24 : dK → Int64 → Int32 → Option (Int32 × dK)) (k36 : dK → Int64 → Int32 → Int32 → Option (Int32 × dK)) (q : dK) (x5 : Int64) (x7 : Int32) (x8 : Int32) : Option (Int32 × dK) := k36 q x5 x7 (x8 + 1)
noncomputable def zX5_run_s22_s25_s2_s20_s10_205 (k24 : dK → Int64 → Int32 → Option (Int32 × dK)) (k36 : dK → Int64 → Int32 → Int32 → Option (Int32 × dK)) (q : dK) (x5 : Int64) (x7 : Int32) (x8 : Int32) (y0 : Int32) : Option (Int32 × dK) := dL (cui q 22 3 y0) (fun q1 => zX5_run_s22_s25_s2_s20_s10_208 k24 k36 q1 x5 x7 x8)
noncomputable def zX5_run_s22_s25_s2_s20_s10_150 (k24 : dK → Int64 → Int32 → Option (Int32 × dK)) (k36 : dK → Int64 → Int32 → Int32 → Option (Int32 × dK)) (q : dK) (x5 : Int64) (x7 : Int32) (x8 : Int32) (x9 : Int64) (x11 : Int32) (y0 : Int32) : Option (Int32 × dK) := if 0 ≤ y0 then dV (zX0_keep_s10 q x11 x9) (fun q3 => dL (cui q3 22 2 ((q3.1 22 2) + 1 : Int32)) (fun q4 => if x11 = 0 then zX5_run_s22_s25_s2_s20_s10_205 k24 k36 q4 x5 x7 x8 y0 else zX5_run_s22_s25_s2_s20_s10_205 k24 k36 q4 x5 x7 x8 (q4.1 22 3))) else dV (zX8_unpack_s2 q x5) (fun q7 => dV (zX0_backToMark_s10 q7 ) (fun q10 => some (x7, q10)))
noncomputable def zX5_run_s22_s25_s2_s20_s10_36b (k24 : dK → Int64 → Int32 → Option (Int32 × dK)) (k36 : dK → Int64 → Int32 → Int32 → Option (Int32 × dK)) (q : dK) (x5 : Int64) (x7 : Int32) (x8 : Int32) : Option (Int32 × dK) := dG (dg x7 12) (dL (q.1 27 (Int32.toNatClampNeg x7)) (fun v2 => if v2 ≤ x8 then k24 q x5 (x7 + 1) else dV (zX5_setWords_s22_s2 q ) (fun q5 => dG (dg x7 12) (dL (q5.1 29 (Int32.toNatClampNeg x7)) (fun v7 => dG (dg x7 12) (dL (q5.1 30 (Int32.toNatClampNeg x7)) (fun v9 => dB (zX2_valueOf_s18_s25_s23 q5 v7 v9) (fun r10 q12 => if r10 = 1 then dB (zX8_pack_s2 q12 ) (fun r13 q15 => dG (dg x7 12) (dL (q15.1 26 (Int32.toNatClampNeg x7)) (fun v17 => dG (dg x7 12) (dL (q15.1 28 (Int32.toNatClampNeg x7)) (fun v19 => dG (dg x7 12) (dL (q15.1 29 (Int32.toNatClampNeg x7)) (fun v21 => dB (zX2_valueOf_s18_s25_s23 q15 v19 v21) (fun r22 q24 => if (q24.1 18 1) = 0 then dB (zX8_act_s2_s20 q24 v17 r22) (fun r25 q27 => zX5_run_s22_s25_s2_s20_s10_150 k24 k36 q27 x5 x7 x8 r13 v17 r25) else zX5_run_s22_s25_s2_s20_s10_150 k24 k36 q24 x5 x7 x8 r13 v17 (-3))))))))) else zX5_run_s22_s25_s2_s20_s10_208 k24 k36 q12 x5 x7 x8))))))))
noncomputable def zX5_run_s22_s25_s2_s20_s10_36 (k24 : dK → Int64 → Int32 → Option (Int32 × dK)) (n : Nat) (q : dK) (x5 : Int64) (x7 : Int32) (x8 : Int32) : Option (Int32 × dK) := dFix (α := dK × Int64 × Int32 × Int32) (fun k a => zX5_run_s22_s25_s2_s20_s10_36b k24 (fun q x5 x7 x8 => k (q, x5, x7, x8)) a.1 a.2.1 a.2.2.1 a.2.2.2) n (q, x5, x7, x8)
noncomputable def zX5_run_s22_s25_s2_s20_s10_24b (k24 : dK → Int64 → Int32 → Option (Int32 × dK)) (q : dK) (x5 : Int64) (x7 : Int32) : Option (Int32 × dK) := if (q.1 25 6) ≤ x7 then some ((-1), q) else zX5_run_s22_s25_s2_s20_s10_36 k24 dF q x5 x7 0
noncomputable def zX5_run_s22_s25_s2_s20_s10_24  (n : Nat) (q : dK) (x5 : Int64) (x7 : Int32) : Option (Int32 × dK) := dFix (α := dK × Int64 × Int32) (fun k a => zX5_run_s22_s25_s2_s20_s10_24b  (fun q x5 x7 => k (q, x5, x7)) a.1 a.2.1 a.2.2) n (q, x5, x7)
noncomputable def zX5_run_s22_s25_s2_s20_s10 (q : dK)  : Option (Int32 × dK) := dB (zX8_pack_s2 q ) (fun r1 q3 => dV (zX0_mark_s10 q3 ) (fun q6 => dL (cui q6 22 2 0) (fun q7 => dL (cui q7 22 3 (-1)) (fun q8 => zX5_run_s22_s25_s2_s20_s10_24  dF q8 r1 0))))
noncomputable def zX9_orders_s0_109  (q : dK) (y0 : Int32) : Option (Int32 × dK) := some (y0, q)
noncomputable def zX9_orders_s0 (q : dK)  : Option (Int32 × dK) := dL (cui q 0 12 0) (fun q1 => dL (cui q1 0 15 (-1)) (fun q2 => dB (zX4_read_s24_s46_s25 q2 (q.1 0 12) 1) (fun r3 q5 => dL (cui q5 0 13 r3) (fun q6 => if (q6.1 0 13) = (-1) then dV (zX9_seated_s0 q6 ) (fun q9 => dB (zX5_run_s22_s25_s2_s20_s10 q9 ) (fun r10 q12 => dL (cui q12 0 15 r10) (fun q13 => if (q13.1 0 15) = (-1) then dB (zX9_accept_s0 q13 (q13.1 22 2)) (fun r17 q19 => zX9_orders_s0_109  q19 r17) else dB (zX9_refuse_s0 q13 (-3)) (fun r14 q16 => zX9_orders_s0_109  q16 r14)))) else dB (zX9_refuse_s0 q6 (-6)) (fun r20 q22 => some (r20, q22))))))
noncomputable def zX9_fault_s0 (q : dK)  : Option (Int32 × dK) := some (q.1 0 13, q)
noncomputable def zX9_stopped_s0 (q : dK)  : Option (Int32 × dK) := some (q.1 0 15, q)
noncomputable def zX9_force_s0_23  (q : dK) (x1 : Int32) : Option (Int32 × dK) := dL (cui q 1 9 x1) (fun q1 => dB (zX9_accept_s0 q1 (q.1 1 9)) (fun r2 q4 => some (r2, q4)))
noncomputable def zX9_force_s0 (q : dK) (p1 : Int32) : Option (Int32 × dK) := if p1 = (-1) then zX9_force_s0_23  q p1 else dB (zX6_isLaw_s1 q p1) (fun r1 q3 => if r1 = 0 then dB (zX9_refuse_s0 q3 (-2)) (fun r4 q6 => some (r4, q6)) else zX9_force_s0_23  q3 p1)
noncomputable def zX9_move_s0 (q : dK) (p1 : Int32) (p2 : Int32) : Option (Int32 × dK) := dB (zX8_pack_s2 q ) (fun r1 q3 => dV (zX9_seated_s0 q3 ) (fun q6 => dB (zX8_act_s2_s20 q6 p1 p2) (fun r7 q9 => if 0 ≤ r7 then dV (zX0_keep_s10 q9 p1 r1) (fun q12 => dB (zX9_accept_s0 q12 r7) (fun r13 q15 => some (r13, q15))) else dB (zX9_refuse_s0 q9 r7) (fun r16 q18 => some (r16, q18)))))
noncomputable def zX9_turn_s0 (q : dK) (p1 : Int32) : Option (Int32 × dK) := dB (zX9_move_s0 q 0 p1) (fun r1 q3 => some (r1, q3))
noncomputable def zX9_right_s0 (q : dK) (p1 : Int32) : Option (Int32 × dK) := dB (zX9_move_s0 q 1 p1) (fun r1 q3 => some (r1, q3))
noncomputable def zX9_swap_s0 (q : dK) (p1 : Int32) : Option (Int32 × dK) := dB (zX9_move_s0 q 2 p1) (fun r1 q3 => some (r1, q3))
noncomputable def zX9_pass_s0 (q : dK)  : Option (Int32 × dK) := dB (zX9_move_s0 q 3 0) (fun r1 q3 => some (r1, q3))
noncomputable def zX9_undo_s0 (q : dK)  : Option (Int32 × dK) := if 0 < (q.1 10 2) then dL (cui q 10 2 ((q.1 10 2) - 1 : Int32)) (fun q1 => dG (dg (q1.1 10 2) 16) (dL (q1.2.1 11 (Int32.toNatClampNeg (q1.1 10 2))) (fun v3 => dV (zX8_unpack_s2 q1 v3) (fun q6 => dG (dg (q6.1 10 2) 16) (dL (q6.1 12 (Int32.toNatClampNeg (q6.1 10 2))) (fun v8 => dB (zX9_accept_s0 q6 v8) (fun r9 q11 => some (r9, q11)))))))) else dB (zX9_refuse_s0 q (-3)) (fun r12 q14 => some (r12, q14))
noncomputable def zX3_setDigits_s32_55 (k2 : dK → Int32 → Int32 → Option (dK)) (k25 : dK → Int32 → Int32 → Int32 → Int32 → Option (dK)) (q : dK) (x1 : Int32) (x2 : Int32) (x3 : Int32) (x4 : Int32) (y0 : Int32) (y1 : Int32) (y2 : Int32) : Option (dK) := dV (zX9_bit y0) (fun r1 => dG (dg y2 6) (dL (cui q 34 (Int32.toNatClampNeg y2) (y1 + r1)) (fun q4 => k25 q4 x1 x2 x3 (x4 + 1))))
noncomputable def zX3_setDigits_s32_25b (k2 : dK → Int32 → Int32 → Option (dK)) (k25 : dK → Int32 → Int32 → Int32 → Int32 → Option (dK)) (q : dK) (x1 : Int32) (x2 : Int32) (x3 : Int32) (x4 : Int32) : Option (dK) := if x2 ≤ x4 then dG (dg x2 6) (dL (cui q 34 (Int32.toNatClampNeg x2) x3) (fun q2 => k2 q2 x1 (x2 + 1))) else dG (dg x4 6) (dL (q.1 34 (Int32.toNatClampNeg x4)) (fun v4 => dG (dg x4 6) (dL (q.1 34 (Int32.toNatClampNeg x4)) (fun v6 => if v6 < x3 then zX3_setDigits_s32_55 k2 k25 q x1 x2 x3 x4 0 v4 x4 else zX3_setDigits_s32_55 k2 k25 q x1 x2 x3 x4 1 v4 x4))))
noncomputable def zX3_setDigits_s32_25 (k2 : dK → Int32 → Int32 → Option (dK)) (n : Nat) (q : dK) (x1 : Int32) (x2 : Int32) (x3 : Int32) (x4 : Int32) : Option (dK) := dFix (α := dK × Int32 × Int32 × Int32 × Int32) (fun k a => zX3_setDigits_s32_25b k2 (fun q x1 x2 x3 x4 => k (q, x1, x2, x3, x4)) a.1 a.2.1 a.2.2.1 a.2.2.2.1 a.2.2.2.2) n (q, x1, x2, x3, x4)
noncomputable def zX3_setDigits_s32_2b (k2 : dK → Int32 → Int32 → Option (dK)) (q : dK) (x1 : Int32) (x2 : Int32) : Option (dK) := if 6 ≤ x2 then some q else dG (dg x2 7) (dL (([1, 1, 2, 6, 24, 120, 720] : List Int32).getD (Int32.toNatClampNeg x2) 0) (fun v2 => dG (dnz v2) (dG (dnz (x2 + 1 : Int32)) (dL (x2 - ((x1 / v2) - (x1 / v2) / (x2 + 1 : Int32) * (x2 + 1 : Int32))) (fun v5 => zX3_setDigits_s32_25 k2 dF q x1 x2 v5 0)))))
noncomputable def zX3_setDigits_s32_2  (n : Nat) (q : dK) (x1 : Int32) (x2 : Int32) : Option (dK) := dFix (α := dK × Int32 × Int32) (fun k a => zX3_setDigits_s32_2b  (fun q x1 x2 => k (q, x1, x2)) a.1 a.2.1 a.2.2) n (q, x1, x2)
noncomputable def zX3_setDigits_s32 (q : dK) (p1 : Int32) : Option (dK) := zX3_setDigits_s32_2  dF q p1 0
noncomputable def zX3_numberOfOrder_s32_43 (k4 : dK → Int32 → Int32 → Option (Int32 × dK)) (k15 : dK → Int32 → Int32 → Int32 → Int32 → Option (Int32 × dK)) (q : dK) (x1 : Int32) (x2 : Int32) (x4 : Int32) (y0 : Int32) (y1 : Int32) : Option (Int32 × dK) := dV (zX9_bit y0) (fun r1 => k15 q x1 x2 (y1 + r1) (x4 + 1))
noncomputable def zX3_numberOfOrder_s32_15b (k4 : dK → Int32 → Int32 → Option (Int32 × dK)) (k15 : dK → Int32 → Int32 → Int32 → Int32 → Option (Int32 × dK)) (q : dK) (x1 : Int32) (x2 : Int32) (x3 : Int32) (x4 : Int32) : Option (Int32 × dK) := if x2 ≤ x4 then dG (dg x2 7) (dL (([1, 1, 2, 6, 24, 120, 720] : List Int32).getD (Int32.toNatClampNeg x2) 0) (fun v2 => k4 q (x1 + (x3 * v2)) (x2 + 1))) else dG (dg x4 6) (dL (q.1 34 (Int32.toNatClampNeg x4)) (fun v4 => dG (dg x2 6) (dL (q.1 34 (Int32.toNatClampNeg x2)) (fun v6 => if v4 ≤ v6 then zX3_numberOfOrder_s32_43 k4 k15 q x1 x2 x4 0 x3 else zX3_numberOfOrder_s32_43 k4 k15 q x1 x2 x4 1 x3))))
noncomputable def zX3_numberOfOrder_s32_15 (k4 : dK → Int32 → Int32 → Option (Int32 × dK)) (n : Nat) (q : dK) (x1 : Int32) (x2 : Int32) (x3 : Int32) (x4 : Int32) : Option (Int32 × dK) := dFix (α := dK × Int32 × Int32 × Int32 × Int32) (fun k a => zX3_numberOfOrder_s32_15b k4 (fun q x1 x2 x3 x4 => k (q, x1, x2, x3, x4)) a.1 a.2.1 a.2.2.1 a.2.2.2.1 a.2.2.2.2) n (q, x1, x2, x3, x4)
noncomputable def zX3_numberOfOrder_s32_4b (k4 : dK → Int32 → Int32 → Option (Int32 × dK)) (q : dK) (x1 : Int32) (x2 : Int32) : Option (Int32 × dK) := if 6 ≤ x2 then some (x1, q) else zX3_numberOfOrder_s32_15 k4 dF q x1 x2 0 0
noncomputable def zX3_numberOfOrder_s32_4  (n : Nat) (q : dK) (x1 : Int32) (x2 : Int32) : Option (Int32 × dK) := dFix (α := dK × Int32 × Int32) (fun k a => zX3_numberOfOrder_s32_4b  (fun q x1 x2 => k (q, x1, x2)) a.1 a.2.1 a.2.2) n (q, x1, x2)
noncomputable def zX3_numberOfOrder_s32 (q : dK)  : Option (Int32 × dK) := zX3_numberOfOrder_s32_4  dF q 0 0
noncomputable def zX3_listOrder_s32_60b (k40 : dK → Int32 → Int32 → Option (dK)) (k60 : dK → Int32 → Int32 → Int32 → Int32 → Option (dK)) (q : dK) (x1 : Int32) (x2 : Int32) (x3 : Int32) (x4 : Int32) : Option (dK) := if x4 ≤ x3 then dB (zX3_numberOfOrder_s32 q ) (fun r1 q3 => dG (dg (((x1 * 6 : Int32) + x2) - 1 : Int32) (Int32.toNatClampNeg (q3.1 32 101))) (dL (cui q3 40 (Int32.toNatClampNeg (((x1 * 6 : Int32) + x2) - 1 : Int32)) r1) (fun q5 => k40 q5 x1 (x2 + 1)))) else dG (dg x3 6) (dL (q.1 34 (Int32.toNatClampNeg x3)) (fun v7 => dG (dg x4 6) (dL (q.1 34 (Int32.toNatClampNeg x4)) (fun v9 => dG (dg x3 6) (dL (cui q 34 (Int32.toNatClampNeg x3) v9) (fun q11 => dG (dg x4 6) (dL (cui q11 34 (Int32.toNatClampNeg x4) v7) (fun q13 => k60 q13 x1 x2 (x3 + 1) (x4 + (-1))))))))))
noncomputable def zX3_listOrder_s32_60 (k40 : dK → Int32 → Int32 → Option (dK)) (n : Nat) (q : dK) (x1 : Int32) (x2 : Int32) (x3 : Int32) (x4 : Int32) : Option (dK) := dFix (α := dK × Int32 × Int32 × Int32 × Int32) (fun k a => zX3_listOrder_s32_60b k40 (fun q x1 x2 x3 x4 => k (q, x1, x2, x3, x4)) a.1 a.2.1 a.2.2.1 a.2.2.2.1 a.2.2.2.2) n (q, x1, x2, x3, x4)
noncomputable def zX3_listOrder_s32_40b (k40 : dK → Int32 → Int32 → Option (dK)) (q : dK) (x1 : Int32) (x2 : Int32) : Option (dK) := if (q.1 32 13) < x2 then some q else dV (zX3_setDigits_s32 q x1) (fun q3 => zX3_listOrder_s32_60 k40 dF q3 x1 x2 0 (x2 - 1 : Int32))
noncomputable def zX3_listOrder_s32_40  (n : Nat) (q : dK) (x1 : Int32) (x2 : Int32) : Option (dK) := dFix (α := dK × Int32 × Int32) (fun k a => zX3_listOrder_s32_40b  (fun q x1 x2 => k (q, x1, x2)) a.1 a.2.1 a.2.2) n (q, x1, x2)
noncomputable def zX3_listOrder_s32_7b (k7 : dK → Int32 → Int32 → Option (dK)) (q : dK) (x1 : Int32) (x2 : Int32) : Option (dK) := if 6 ≤ x2 then zX3_listOrder_s32_40  dF q x1 1 else dG (dg x1 (Int32.toNatClampNeg (q.1 32 100))) (dL (q.1 39 (Int32.toNatClampNeg x1)) (fun v2 => dG (dg x2 6) (dL (q.1 34 (Int32.toNatClampNeg x2)) (fun v4 => dG (dg x1 (Int32.toNatClampNeg (q.1 32 100))) (dL (cui q 39 (Int32.toNatClampNeg x1) (v2 ||| (v4 <<< (((3 * x2 : Int32) : Int32) &&& 31)))) (fun q6 => k7 q6 x1 (x2 + 1)))))))
noncomputable def zX3_listOrder_s32_7  (n : Nat) (q : dK) (x1 : Int32) (x2 : Int32) : Option (dK) := dFix (α := dK × Int32 × Int32) (fun k a => zX3_listOrder_s32_7b  (fun q x1 x2 => k (q, x1, x2)) a.1 a.2.1 a.2.2) n (q, x1, x2)
noncomputable def zX3_listOrder_s32 (q : dK) (p1 : Int32) : Option (dK) := dV (zX3_setDigits_s32 q p1) (fun q3 => zX3_listOrder_s32_7  dF q3 p1 0)
noncomputable def zX3_headsTurned_4b (k4 : Int32 → Int32 → Int32 → Int32 → Option (Int32)) (x0 : Int32) (x1 : Int32) (x2 : Int32) (x3 : Int32) : Option (Int32) := if x1 ≤ x3 then dL (((x0 >>> ((x1 : Int32) &&& 31)) <<< ((x1 : Int32) &&& 31)) ||| x2) (fun v1 => some v1) else dL ((1 - ((x0 >>> ((x3 : Int32) &&& 31)) &&& 1 : Int32) : Int32) <<< (((x1 - 1 : Int32) - x3 : Int32) &&& 31)) (fun v2 => k4 x0 x1 (x2 ||| v2) (x3 + 1))
noncomputable def zX3_headsTurned_4  (n : Nat) (x0 : Int32) (x1 : Int32) (x2 : Int32) (x3 : Int32) : Option (Int32) := dFix (α := Int32 × Int32 × Int32 × Int32) (fun k a => zX3_headsTurned_4b  (fun x0 x1 x2 x3 => k (x0, x1, x2, x3)) a.1 a.2.1 a.2.2.1 a.2.2.2) n (x0, x1, x2, x3)
noncomputable def zX3_headsTurned (p1 : Int32) (p2 : Int32) : Option (Int32) := zX3_headsTurned_4  dF p1 p2 0 0
noncomputable def zX3_makeRoom_s32_125b (nc : Nat) (ns : Nat) (k113 : dK → Int32 → Option (dK)) (k125 : dK → Int32 → Int32 → Option (dK)) (q : dK) (x1 : Int32) (x2 : Int32) : Option (dK) := if (q.1 32 13) < x2 then k113 q (x1 + 1) else dV (zX3_headsTurned x1 x2) (fun r1 => dG (dg (((x1 * 6 : Int32) + x2) - 1 : Int32) (Int32.toNatClampNeg (q.1 32 102))) (dL (cui q 41 (Int32.toNatClampNeg (((x1 * 6 : Int32) + x2) - 1 : Int32)) r1) (fun q4 => k125 q4 x1 (x2 + 1))))
noncomputable def zX3_makeRoom_s32_125 (nc : Nat) (ns : Nat) (k113 : dK → Int32 → Option (dK)) (n : Nat) (q : dK) (x1 : Int32) (x2 : Int32) : Option (dK) := dFix (α := dK × Int32 × Int32) (fun k a => zX3_makeRoom_s32_125b nc ns k113 (fun q x1 x2 => k (q, x1, x2)) a.1 a.2.1 a.2.2) n (q, x1, x2)
noncomputable def zX3_makeRoom_s32_113b (nc : Nat) (ns : Nat) (k113 : dK → Int32 → Option (dK)) (q : dK) (x1 : Int32) : Option (dK) := if (1 <<< ((q.1 32 13 : Int32) &&& 31) : Int32) ≤ x1 then some q else zX3_makeRoom_s32_125 nc ns k113 dF q x1 1
noncomputable def zX3_makeRoom_s32_113 (nc : Nat) (ns : Nat)  (n : Nat) (q : dK) (x1 : Int32) : Option (dK) := dFix (α := dK × Int32) (fun k a => zX3_makeRoom_s32_113b nc ns  (fun q x1 => k (q, x1)) a.1 a.2) n (q, x1)
noncomputable def zX3_makeRoom_s32_91b (nc : Nat) (ns : Nat) (k91 : dK → Int32 → Option (dK)) (q : dK) (x1 : Int32) : Option (dK) := if (Int32.ofNat (Int32.toNatClampNeg (q.1 32 100))) ≤ x1 then zX3_makeRoom_s32_113 nc ns  dF q 0 else dV (zX3_listOrder_s32 q x1) (fun q3 => k91 q3 (x1 + 1))
noncomputable def zX3_makeRoom_s32_91 (nc : Nat) (ns : Nat)  (n : Nat) (q : dK) (x1 : Int32) : Option (dK) := dFix (α := dK × Int32) (fun k a => zX3_makeRoom_s32_91b nc ns  (fun q x1 => k (q, x1)) a.1 a.2) n (q, x1)
noncomputable def zX3_makeRoom_s32 (nc : Nat) (ns : Nat) (q : dK)  : Option (dK) := dG (decide (¬ (q.1 32 14) < 0 ∧ 1 ≤ nc ∧ 0 + Int32.toNatClampNeg (q.1 32 14) ≤ ns ∧ Int32.toNatClampNeg (q.1 32 14) * 4 ≤ 536870912)) (dL (cnw q 42 103 (q.1 32 14)) (fun q2 => dG (decide (¬ (q2.1 32 14) < 0 ∧ 2 ≤ nc ∧ 0 + Int32.toNatClampNeg (q.1 32 14) + Int32.toNatClampNeg (q2.1 32 14) ≤ ns ∧ Int32.toNatClampNeg (q2.1 32 14) * 4 ≤ 536870912)) (dL (cnw q2 43 104 (q2.1 32 14)) (fun q4 => dG (decide (¬ (q4.1 32 14) < 0 ∧ 3 ≤ nc ∧ 0 + Int32.toNatClampNeg (q.1 32 14) + Int32.toNatClampNeg (q2.1 32 14) + Int32.toNatClampNeg (q4.1 32 14) ≤ ns ∧ Int32.toNatClampNeg (q4.1 32 14) * 4 ≤ 536870912)) (dL (cnw q4 44 105 (q4.1 32 14)) (fun q6 => dG (decide (¬ (q6.1 32 14) < 0 ∧ 4 ≤ nc ∧ 0 + Int32.toNatClampNeg (q.1 32 14) + Int32.toNatClampNeg (q2.1 32 14) + Int32.toNatClampNeg (q4.1 32 14) + Int32.toNatClampNeg (q6.1 32 14) ≤ ns ∧ Int32.toNatClampNeg (q6.1 32 14) * 4 ≤ 536870912)) (dL (cnw q6 45 106 (q6.1 32 14)) (fun q8 => dG (dg (q8.1 32 13) 7) (dL (([1, 1, 2, 6, 24, 120, 720] : List Int32).getD (Int32.toNatClampNeg (q8.1 32 13)) 0) (fun v10 => dG (decide (¬ v10 < 0 ∧ 5 ≤ nc ∧ 0 + Int32.toNatClampNeg (q.1 32 14) + Int32.toNatClampNeg (q2.1 32 14) + Int32.toNatClampNeg (q4.1 32 14) + Int32.toNatClampNeg (q6.1 32 14) + Int32.toNatClampNeg v10 ≤ ns ∧ Int32.toNatClampNeg v10 * 4 ≤ 536870912)) (dL (cnw q8 39 100 v10) (fun q12 => dG (dg (q12.1 32 13) 7) (dL (([1, 1, 2, 6, 24, 120, 720] : List Int32).getD (Int32.toNatClampNeg (q12.1 32 13)) 0) (fun v14 => dG (decide (¬ (v14 * 6 : Int32) < 0 ∧ 6 ≤ nc ∧ 0 + Int32.toNatClampNeg (q.1 32 14) + Int32.toNatClampNeg (q2.1 32 14) + Int32.toNatClampNeg (q4.1 32 14) + Int32.toNatClampNeg (q6.1 32 14) + Int32.toNatClampNeg v10 + Int32.toNatClampNeg (v14 * 6 : Int32) ≤ ns ∧ Int32.toNatClampNeg (v14 * 6 : Int32) * 4 ≤ 536870912)) (dL (cnw q12 40 101 (v14 * 6 : Int32)) (fun q16 => dG (decide (¬ (6 <<< ((q16.1 32 13 : Int32) &&& 31) : Int32) < 0 ∧ 7 ≤ nc ∧ 0 + Int32.toNatClampNeg (q.1 32 14) + Int32.toNatClampNeg (q2.1 32 14) + Int32.toNatClampNeg (q4.1 32 14) + Int32.toNatClampNeg (q6.1 32 14) + Int32.toNatClampNeg v10 + Int32.toNatClampNeg (v14 * 6 : Int32) + Int32.toNatClampNeg (6 <<< ((q16.1 32 13 : Int32) &&& 31) : Int32) ≤ ns ∧ Int32.toNatClampNeg (6 <<< ((q16.1 32 13 : Int32) &&& 31) : Int32) * 4 ≤ 536870912)) (dL (cnw q16 41 102 (6 <<< ((q16.1 32 13 : Int32) &&& 31) : Int32)) (fun q18 => dL (cui q18 32 17 (-1)) (fun q19 => zX3_makeRoom_s32_91 nc ns  dF q19 0)))))))))))))))))))
noncomputable def zX3_caseNumber (p1 : Int32) (p2 : Int32) (p3 : Int32) (p4 : Int32) : Option (Int32) := dL ((((((p1 - 1 : Int32) * 6 : Int32) + p2) * 7 : Int32) + p3) * 2 : Int32) (fun v1 => some (v1 + p4))
noncomputable def zX3_askCases_s32_s20_c1_173 (k36 : dK → Int32 → Int32 → Option (dK)) (k48 : dK → Int32 → Int32 → Int32 → Option (dK)) (k100 : dK → Int32 → Int32 → Int32 → Int32 → Int32 → Option (dK)) (k130 : dK → Int32 → Int32 → Int32 → Int32 → Int32 → Int32 → Int32 → Option (dK)) (q : dK) (x3 : Int32) (x5 : Int32) (x6 : Int32) (x8 : Int32) (x9 : Int32) (x10 : Int32) (x11 : Int32) (y0 : Int32) : Option (dK) := dV (zX3_caseNumber x5 x6 x9 x11) (fun r1 => dG (dg r1 504) (dL (cui q 35 (Int32.toNatClampNeg r1) y0) (fun q4 => k130 q4 x3 x5 x6 x8 x9 x10 (x11 + 1))))
noncomputable def zX3_askCases_s32_s20_c1_130b (k36 : dK → Int32 → Int32 → Option (dK)) (k48 : dK → Int32 → Int32 → Int32 → Option (dK)) (k100 : dK → Int32 → Int32 → Int32 → Int32 → Int32 → Option (dK)) (k130 : dK → Int32 → Int32 → Int32 → Int32 → Int32 → Int32 → Int32 → Option (dK)) (q : dK) (x3 : Int32) (x5 : Int32) (x6 : Int32) (x8 : Int32) (x9 : Int32) (x10 : Int32) (x11 : Int32) : Option (dK) := if 2 ≤ x11 then k100 q x3 x5 x6 x8 (x9 + 1) else dG (dg x6 6) (dL (q.1 33 (Int32.toNatClampNeg x6)) (fun v2 => dV (zX1_setGrip_s20 q x5 v2 x10 x11) (fun q5 => if x3 = 1 then dB (zX1_anyHolds_s20 q5 1) (fun r9 q11 => dV (zX9_bit r9) (fun r12 => zX3_askCases_s32_s20_c1_173 k36 k48 k100 k130 q11 x3 x5 x6 x8 x9 x10 x11 r12)) else dB (zX1_pay_s20 q5 ) (fun r6 q8 => zX3_askCases_s32_s20_c1_173 k36 k48 k100 k130 q8 x3 x5 x6 x8 x9 x10 x11 r6))))
noncomputable def zX3_askCases_s32_s20_c1_130 (k36 : dK → Int32 → Int32 → Option (dK)) (k48 : dK → Int32 → Int32 → Int32 → Option (dK)) (k100 : dK → Int32 → Int32 → Int32 → Int32 → Int32 → Option (dK)) (n : Nat) (q : dK) (x3 : Int32) (x5 : Int32) (x6 : Int32) (x8 : Int32) (x9 : Int32) (x10 : Int32) (x11 : Int32) : Option (dK) := dFix (α := dK × Int32 × Int32 × Int32 × Int32 × Int32 × Int32 × Int32) (fun k a => zX3_askCases_s32_s20_c1_130b k36 k48 k100 (fun q x3 x5 x6 x8 x9 x10 x11 => k (q, x3, x5, x6, x8, x9, x10, x11)) a.1 a.2.1 a.2.2.1 a.2.2.2.1 a.2.2.2.2.1 a.2.2.2.2.2.1 a.2.2.2.2.2.2.1 a.2.2.2.2.2.2.2) n (q, x3, x5, x6, x8, x9, x10, x11)
noncomputable def zX3_askCases_s32_s20_c1_125 (k36 : dK → Int32 → Int32 → Option (dK)) (k48 : dK → Int32 → Int32 → Int32 → Option (dK)) (k100 : dK → Int32 → Int32 → Int32 → Int32 → Int32 → Option (dK)) (q : dK) (x3 : Int32) (x5 : Int32) (x6 : Int32) (x8 : Int32) (x9 : Int32) (y0 : Int32) : Option (dK) := zX3_askCases_s32_s20_c1_130 k36 k48 k100 dF q x3 x5 x6 x8 x9 y0 0
noncomputable def zX3_askCases_s32_s20_c1_100b (k36 : dK → Int32 → Int32 → Option (dK)) (k48 : dK → Int32 → Int32 → Int32 → Option (dK)) (k100 : dK → Int32 → Int32 → Int32 → Int32 → Int32 → Option (dK)) (q : dK) (x3 : Int32) (x5 : Int32) (x6 : Int32) (x8 : Int32) (x9 : Int32) : Option (dK) := if x8 < x9 then k48 q x3 x5 (x6 + 1) else if x9 = 6 then zX3_askCases_s32_s20_c1_125 k36 k48 k100 q x3 x5 x6 x8 x9 (-1) else dG (dg x9 6) (dL (q.1 33 (Int32.toNatClampNeg x9)) (fun v2 => zX3_askCases_s32_s20_c1_125 k36 k48 k100 q x3 x5 x6 x8 x9 v2))
noncomputable def zX3_askCases_s32_s20_c1_100 (k36 : dK → Int32 → Int32 → Option (dK)) (k48 : dK → Int32 → Int32 → Int32 → Option (dK)) (n : Nat) (q : dK) (x3 : Int32) (x5 : Int32) (x6 : Int32) (x8 : Int32) (x9 : Int32) : Option (dK) := dFix (α := dK × Int32 × Int32 × Int32 × Int32 × Int32) (fun k a => zX3_askCases_s32_s20_c1_100b k36 k48 (fun q x3 x5 x6 x8 x9 => k (q, x3, x5, x6, x8, x9)) a.1 a.2.1 a.2.2.1 a.2.2.2.1 a.2.2.2.2.1 a.2.2.2.2.2) n (q, x3, x5, x6, x8, x9)
noncomputable def zX3_askCases_s32_s20_c1_94 (k36 : dK → Int32 → Int32 → Option (dK)) (k48 : dK → Int32 → Int32 → Int32 → Option (dK)) (q : dK) (x3 : Int32) (x5 : Int32) (x6 : Int32) (x7 : Int32) (y0 : Int32) : Option (dK) := zX3_askCases_s32_s20_c1_100 k36 k48 dF q x3 x5 x6 y0 x7
noncomputable def zX3_askCases_s32_s20_c1_72 (k36 : dK → Int32 → Int32 → Option (dK)) (k48 : dK → Int32 → Int32 → Int32 → Option (dK)) (q : dK) (x3 : Int32) (x5 : Int32) (x6 : Int32) (y0 : Int32) : Option (dK) := if (q.1 32 13) ≤ x5 then zX3_askCases_s32_s20_c1_94 k36 k48 q x3 x5 x6 y0 6 else zX3_askCases_s32_s20_c1_94 k36 k48 q x3 x5 x6 y0 ((q.1 32 13) - 1 : Int32)
noncomputable def zX3_askCases_s32_s20_c1_48b (k36 : dK → Int32 → Int32 → Option (dK)) (k48 : dK → Int32 → Int32 → Int32 → Option (dK)) (q : dK) (x3 : Int32) (x5 : Int32) (x6 : Int32) : Option (dK) := if (q.1 32 13) ≤ x6 then k36 q x3 (x5 + 1) else if (q.1 32 13) ≤ x5 then zX3_askCases_s32_s20_c1_72 k36 k48 q x3 x5 x6 6 else zX3_askCases_s32_s20_c1_72 k36 k48 q x3 x5 x6 0
noncomputable def zX3_askCases_s32_s20_c1_48 (k36 : dK → Int32 → Int32 → Option (dK)) (n : Nat) (q : dK) (x3 : Int32) (x5 : Int32) (x6 : Int32) : Option (dK) := dFix (α := dK × Int32 × Int32 × Int32) (fun k a => zX3_askCases_s32_s20_c1_48b k36 (fun q x3 x5 x6 => k (q, x3, x5, x6)) a.1 a.2.1 a.2.2.1 a.2.2.2) n (q, x3, x5, x6)
noncomputable def zX3_askCases_s32_s20_c1_36b (k36 : dK → Int32 → Int32 → Option (dK)) (q : dK) (x3 : Int32) (x5 : Int32) : Option (dK) := if (q.1 32 13) < x5 then some q else zX3_askCases_s32_s20_c1_48 k36 dF q x3 x5 0
noncomputable def zX3_askCases_s32_s20_c1_36  (n : Nat) (q : dK) (x3 : Int32) (x5 : Int32) : Option (dK) := dFix (α := dK × Int32 × Int32) (fun k a => zX3_askCases_s32_s20_c1_36b  (fun q x3 x5 => k (q, x3, x5)) a.1 a.2.1 a.2.2) n (q, x3, x5)
noncomputable def zX3_askCases_s32_s20_c1_16  (q : dK) (x2 : Int32) (x3 : Int32) : Option (dK) := dL (cfi q 35 504 0) (fun q1 => dV (zX1_setCommon_s20 q1 (q1.1 32 13) x2) (fun q4 => zX3_askCases_s32_s20_c1_36  dF q4 x3 1))
noncomputable def zX3_askCases_s32_s20_c1 (q : dK) (p2 : Int32) : Option (dK) := zX3_askCases_s32_s20_c1_16  q p2 1
noncomputable def zX3_indexOfRank_s32_2b (k2 : dK → Int32 → Int32 → Option (Int32 × dK)) (q : dK) (x1 : Int32) (x2 : Int32) : Option (Int32 × dK) := if (q.1 32 13) ≤ x2 then some ((-1), q) else dG (dg x2 6) (dL (q.1 33 (Int32.toNatClampNeg x2)) (fun v2 => if v2 = x1 then some (x2, q) else k2 q x1 (x2 + 1)))
noncomputable def zX3_indexOfRank_s32_2  (n : Nat) (q : dK) (x1 : Int32) (x2 : Int32) : Option (Int32 × dK) := dFix (α := dK × Int32 × Int32) (fun k a => zX3_indexOfRank_s32_2b  (fun q x1 x2 => k (q, x1, x2)) a.1 a.2.1 a.2.2) n (q, x1, x2)
noncomputable def zX3_indexOfRank_s32 (q : dK) (p1 : Int32) : Option (Int32 × dK) := zX3_indexOfRank_s32_2  dF q p1 0
noncomputable def zX3_lay_s32_s2_s20_163 (nc : Nat) (ns : Nat) (k99 : dK → Int32 → Int32 → Option (dK)) (q : dK) (x6 : Int32) (y0 : Int32) (y1 : Int32) : Option (dK) := k99 q (y1 ||| y0) (x6 + 1)
noncomputable def zX3_lay_s32_s2_s20_137 (nc : Nat) (ns : Nat) (k99 : dK → Int32 → Int32 → Option (dK)) (q : dK) (x5 : Int32) (x6 : Int32) (y0 : Int32) (y1 : Int32) : Option (dK) := dG (dg y1 6) (dL (cui q 34 (Int32.toNatClampNeg y1) y0) (fun q2 => if (q2.1 32 13) ≤ x6 then zX3_lay_s32_s2_s20_163 nc ns k99 q2 x6 0 x5 else dG (dg x6 6) (dL (q2.1 4 (Int32.toNatClampNeg x6)) (fun v4 => zX3_lay_s32_s2_s20_163 nc ns k99 q2 x6 (v4 <<< ((x6 : Int32) &&& 31)) x5))))
noncomputable def zX3_lay_s32_s2_s20_99b (nc : Nat) (ns : Nat) (k99 : dK → Int32 → Int32 → Option (dK)) (q : dK) (x5 : Int32) (x6 : Int32) : Option (dK) := if 6 ≤ x6 then dB (zX3_numberOfOrder_s32 q ) (fun r1 q3 => dL (cui q3 32 15 (mnI ((q.1 32 14) - 1 : Int32) ((r1 <<< ((q3.1 32 13 : Int32) &&& 31)) ||| x5))) (fun q4 => dV (zX3_askCases_s32_s20_c1 q4 (q4.1 2 4)) (fun q7 => some q7))) else if (q.1 32 13) ≤ x6 then zX3_lay_s32_s2_s20_137 nc ns k99 q x5 x6 x6 x6 else dG (dg x6 6) (dL (q.1 3 (Int32.toNatClampNeg x6)) (fun v9 => dB (zX3_indexOfRank_s32 q v9) (fun r10 q12 => zX3_lay_s32_s2_s20_137 nc ns k99 q12 x5 x6 r10 x6)))
noncomputable def zX3_lay_s32_s2_s20_99 (nc : Nat) (ns : Nat)  (n : Nat) (q : dK) (x5 : Int32) (x6 : Int32) : Option (dK) := dFix (α := dK × Int32 × Int32) (fun k a => zX3_lay_s32_s2_s20_99b nc ns  (fun q x5 x6 => k (q, x5, x6)) a.1 a.2.1 a.2.2) n (q, x5, x6)
noncomputable def zX3_lay_s32_s2_s20_87 (nc : Nat) (ns : Nat) (k52 : dK → Int32 → Int32 → Option (dK)) (q : dK) (x4 : Int32) (x5 : Int32) : Option (dK) := k52 q x4 (x5 + 1)
noncomputable def zX3_lay_s32_s2_s20_52b (nc : Nat) (ns : Nat) (k52 : dK → Int32 → Int32 → Option (dK)) (q : dK) (x4 : Int32) (x5 : Int32) : Option (dK) := if 6 ≤ x5 then zX3_lay_s32_s2_s20_99 nc ns  dF q 0 0 else dB (zX8_has_s2 q x5) (fun r1 q3 => if r1 = 0 then zX3_lay_s32_s2_s20_87 nc ns k52 q3 x4 x5 else if 6 ≤ x4 then zX3_lay_s32_s2_s20_87 nc ns k52 q3 x4 x5 else dG (dg x4 6) (dL (cui q3 33 (Int32.toNatClampNeg x4) x5) (fun q5 => zX3_lay_s32_s2_s20_87 nc ns k52 q5 (x4 + 1) x5)))
noncomputable def zX3_lay_s32_s2_s20_52 (nc : Nat) (ns : Nat)  (n : Nat) (q : dK) (x4 : Int32) (x5 : Int32) : Option (dK) := dFix (α := dK × Int32 × Int32) (fun k a => zX3_lay_s32_s2_s20_52b nc ns  (fun q x4 x5 => k (q, x4, x5)) a.1 a.2.1 a.2.2) n (q, x4, x5)
noncomputable def zX3_lay_s32_s2_s20_46 (nc : Nat) (ns : Nat)  (q : dK)  : Option (dK) := zX3_lay_s32_s2_s20_52 nc ns  dF q 0 0
noncomputable def zX3_lay_s32_s2_s20 (nc : Nat) (ns : Nat) (q : dK) (p3 : Int32) : Option (dK) := dL (cui q 32 13 (q.1 2 2)) (fun q1 => dL (cui q1 32 16 p3) (fun q2 => dG (dg (q2.1 32 13) 7) (dL (([1, 1, 2, 6, 24, 120, 720] : List Int32).getD (Int32.toNatClampNeg (q2.1 32 13)) 0) (fun v4 => dL (cui q2 32 14 (v4 <<< ((q2.1 32 13 : Int32) &&& 31))) (fun q5 => if (q5.1 32 14) ≤ (Int32.ofNat (Int32.toNatClampNeg (q5.1 32 103))) then zX3_lay_s32_s2_s20_46 nc ns  q5 else dV (zX3_makeRoom_s32 nc ns q5 ) (fun q8 => zX3_lay_s32_s2_s20_46 nc ns  q8))))))
noncomputable def zX9_spread_s0_s20 (nc : Nat) (ns : Nat) (q : dK)  : Option (dK) := dV (zX3_lay_s32_s2_s20 nc ns q (q.1 1 3)) (fun q3 => some q3)
noncomputable def zX3_sameBars_s32_2b (k2 : dK → Int32 → Option (Int32 × dK)) (q : dK) (x1 : Int32) : Option (Int32 × dK) := if 504 ≤ x1 then some (1, q) else dG (dg x1 504) (dL (q.1 35 (Int32.toNatClampNeg x1)) (fun v2 => dG (dg x1 504) (dL (q.1 37 (Int32.toNatClampNeg x1)) (fun v4 => if v2 = v4 then k2 q (x1 + 1) else some (0, q)))))
noncomputable def zX3_sameBars_s32_2  (n : Nat) (q : dK) (x1 : Int32) : Option (Int32 × dK) := dFix (α := dK × Int32) (fun k a => zX3_sameBars_s32_2b  (fun q x1 => k (q, x1)) a.1 a.2) n (q, x1)
noncomputable def zX3_sameBars_s32 (q : dK)  : Option (Int32 × dK) := zX3_sameBars_s32_2  dF q 0
noncomputable def zX3_isOrdered_s32_34  (q : dK) (y0 : Int32) : Option (Int32 × dK) := dG (dbl y0) (some (y0, q))
noncomputable def zX3_isOrdered_s32 (q : dK) (p1 : Int32) : Option (Int32 × dK) := if (q.1 32 16) = 1 then if p1 = 0 then zX3_isOrdered_s32_34  q 1 else zX3_isOrdered_s32_34  q 0 else if (p1 >>> ((q.1 32 13 : Int32) &&& 31)) = 0 then zX3_isOrdered_s32_34  q 1 else zX3_isOrdered_s32_34  q 0
noncomputable def zX3_turned_s32_84  (q : dK) (y0 : Int32) : Option (Int32 × dK) := some (y0, q)
noncomputable def zX3_turned_s32_13  (q : dK) (x1 : Int32) : Option (Int32 × dK) := some (x1, q)
noncomputable def zX3_turned_s32 (q : dK) (p1 : Int32) (p2 : Int32) : Option (Int32 × dK) := if p2 < 1 then zX3_turned_s32_13  q p1 else if p2 ≤ (q.1 32 13) then dL (p1 &&& ((1 <<< ((q.1 32 13 : Int32) &&& 31) : Int32) - 1 : Int32)) (fun v1 => dL ((((p1 >>> ((q.1 32 13 : Int32) &&& 31)) * 6 : Int32) + p2) - 1 : Int32) (fun v2 => dG (dg v2 (Int32.toNatClampNeg (q.1 32 101))) (dL (q.1 40 (Int32.toNatClampNeg v2)) (fun v4 => dG (dg (((v1 * 6 : Int32) + p2) - 1 : Int32) (Int32.toNatClampNeg (q.1 32 102))) (dL (q.1 41 (Int32.toNatClampNeg (((v1 * 6 : Int32) + p2) - 1 : Int32))) (fun v6 => if (q.1 32 14) ≤ ((v4 <<< ((q.1 32 13 : Int32) &&& 31)) ||| v6) then zX3_turned_s32_84  q p1 else zX3_turned_s32_84  q ((v4 <<< ((q.1 32 13 : Int32) &&& 31)) ||| v6))))))) else zX3_turned_s32_13  q p1
noncomputable def zX3_caseOf_s32_33  (q : dK) (x1 : Int32) (x2 : Int32) (x3 : Int32) (y0 : Int32) : Option (Int32 × dK) := dV (zX3_caseNumber x2 (x3 &&& 7 : Int32) y0 (x1 &&& 1 : Int32)) (fun r1 => some (r1, q))
noncomputable def zX3_caseOf_s32 (q : dK) (p1 : Int32) (p2 : Int32) : Option (Int32 × dK) := dG (dg (p1 >>> ((q.1 32 13 : Int32) &&& 31)) (Int32.toNatClampNeg (q.1 32 100))) (dL (q.1 39 (Int32.toNatClampNeg (p1 >>> ((q.1 32 13 : Int32) &&& 31)))) (fun v2 => if (q.1 32 13) ≤ p2 then zX3_caseOf_s32_33  q p1 p2 v2 6 else zX3_caseOf_s32_33  q p1 p2 v2 ((v2 >>> (((3 * p2 : Int32) : Int32) &&& 31)) &&& 7 : Int32)))
noncomputable def zX3_measure_s32_197  (q : dK)  : Option (dK) := dL (cui q 32 17 (q.1 32 13)) (fun q1 => dL (cui q1 32 18 (q1.1 32 16)) (fun q2 => dL (cci q2 35 37 0 0 504) (fun q3 => some q3)))
noncomputable def zX3_measure_s32_185 (k83 : dK → Int32 → Int32 → Option (dK)) (k106 : dK → Int32 → Int32 → Int32 → Int32 → Option (dK)) (q : dK) (x1 : Int32) (x2 : Int32) (x3 : Int32) (x4 : Int32) : Option (dK) := k106 q x1 x2 x3 (x4 + 1)
noncomputable def zX3_measure_s32_106b (k83 : dK → Int32 → Int32 → Option (dK)) (k106 : dK → Int32 → Int32 → Int32 → Int32 → Option (dK)) (q : dK) (x1 : Int32) (x2 : Int32) (x3 : Int32) (x4 : Int32) : Option (dK) := if (q.1 32 13) < x4 then k83 q x1 (x2 + 1) else dB (zX3_turned_s32 q x3 x4) (fun r1 q3 => dG (dg r1 (Int32.toNatClampNeg (q3.1 32 103))) (dL (q3.1 42 (Int32.toNatClampNeg r1)) (fun v5 => if v5 = (-1) then dB (zX3_caseOf_s32 q3 r1 x4) (fun r6 q8 => dG (dg r6 504) (dL (q8.1 35 (Int32.toNatClampNeg r6)) (fun v10 => if v10 = 0 then if (q8.1 32 14) ≤ x1 then zX3_measure_s32_185 k83 k106 q8 x1 x2 x3 x4 else dG (dg x3 (Int32.toNatClampNeg (q8.1 32 103))) (dL (q8.1 42 (Int32.toNatClampNeg x3)) (fun v12 => dG (dg r1 (Int32.toNatClampNeg (q8.1 32 103))) (dL (cui q8 42 (Int32.toNatClampNeg r1) (v12 + 1 : Int32)) (fun q14 => dG (dg x1 (Int32.toNatClampNeg (q14.1 32 105))) (dL (cui q14 44 (Int32.toNatClampNeg x1) r1) (fun q16 => zX3_measure_s32_185 k83 k106 q16 (x1 + 1) x2 x3 x4)))))) else zX3_measure_s32_185 k83 k106 q8 x1 x2 x3 x4))) else zX3_measure_s32_185 k83 k106 q3 x1 x2 x3 x4)))
noncomputable def zX3_measure_s32_106 (k83 : dK → Int32 → Int32 → Option (dK)) (n : Nat) (q : dK) (x1 : Int32) (x2 : Int32) (x3 : Int32) (x4 : Int32) : Option (dK) := dFix (α := dK × Int32 × Int32 × Int32 × Int32) (fun k a => zX3_measure_s32_106b k83 (fun q x1 x2 x3 x4 => k (q, x1, x2, x3, x4)) a.1 a.2.1 a.2.2.1 a.2.2.2.1 a.2.2.2.2) n (q, x1, x2, x3, x4)
noncomputable def zX3_measure_s32_83b (k83 : dK → Int32 → Int32 → Option (dK)) (q : dK) (x1 : Int32) (x2 : Int32) : Option (dK) := if (q.1 32 14) ≤ x2 then zX3_measure_s32_197  q else if x1 ≤ x2 then zX3_measure_s32_197  q else dG (dg x2 (Int32.toNatClampNeg (q.1 32 105))) (dL (q.1 44 (Int32.toNatClampNeg x2)) (fun v2 => zX3_measure_s32_106 k83 dF q x1 x2 v2 1))
noncomputable def zX3_measure_s32_83  (n : Nat) (q : dK) (x1 : Int32) (x2 : Int32) : Option (dK) := dFix (α := dK × Int32 × Int32) (fun k a => zX3_measure_s32_83b  (fun q x1 x2 => k (q, x1, x2)) a.1 a.2.1 a.2.2) n (q, x1, x2)
noncomputable def zX3_measure_s32_81  (q : dK) (x1 : Int32) : Option (dK) := zX3_measure_s32_83  dF q x1 0
noncomputable def zX3_measure_s32_42b (k42 : dK → Int32 → Int32 → Option (dK)) (q : dK) (x1 : Int32) (x2 : Int32) : Option (dK) := if (q.1 32 14) ≤ x2 then zX3_measure_s32_81  q x1 else dB (zX3_isOrdered_s32 q x2) (fun r1 q3 => if r1 = 0 then zX3_measure_s32_81  q3 x1 else dG (dg x2 (Int32.toNatClampNeg (q3.1 32 103))) (dL (cui q3 42 (Int32.toNatClampNeg x2) 0) (fun q5 => dG (dg x1 (Int32.toNatClampNeg (q5.1 32 105))) (dL (cui q5 44 (Int32.toNatClampNeg x1) x2) (fun q7 => k42 q7 (x1 + 1) (x2 + 1))))))
noncomputable def zX3_measure_s32_42  (n : Nat) (q : dK) (x1 : Int32) (x2 : Int32) : Option (dK) := dFix (α := dK × Int32 × Int32) (fun k a => zX3_measure_s32_42b  (fun q x1 x2 => k (q, x1, x2)) a.1 a.2.1 a.2.2) n (q, x1, x2)
noncomputable def zX3_measure_s32_30  (q : dK)  : Option (dK) := dL (cfi q 42 (Int32.toNatClampNeg (q.1 32 103)) (-1)) (fun q1 => zX3_measure_s32_42  dF q1 0 0)
noncomputable def zX3_measure_s32 (q : dK)  : Option (dK) := if (q.1 32 17) = (q.1 32 13) then if (q.1 32 18) = (q.1 32 16) then dB (zX3_sameBars_s32 q ) (fun r1 q3 => if r1 = 0 then zX3_measure_s32_30  q3 else some q3) else zX3_measure_s32_30  q else zX3_measure_s32_30  q
noncomputable def zX3_isCloser_s32_50  (q : dK) (y0 : Int32) : Option (Int32 × dK) := dG (dbl y0) (some (y0, q))
noncomputable def zX3_isCloser_s32_49  (q : dK)  : Option (Int32 × dK) := zX3_isCloser_s32_50  q 0
noncomputable def zX3_isCloser_s32 (q : dK) (p1 : Int32) (p2 : Int32) : Option (Int32 × dK) := dB (zX3_turned_s32 q p1 p2) (fun r1 q3 => dG (dg r1 (Int32.toNatClampNeg (q3.1 32 103))) (dL (q3.1 42 (Int32.toNatClampNeg r1)) (fun v5 => dG (dg p1 (Int32.toNatClampNeg (q3.1 32 103))) (dL (q3.1 42 (Int32.toNatClampNeg p1)) (fun v7 => if v5 = (v7 - 1 : Int32) then dG (dg p1 (Int32.toNatClampNeg (q3.1 32 103))) (dL (q3.1 42 (Int32.toNatClampNeg p1)) (fun v9 => if v9 ≤ 0 then zX3_isCloser_s32_49  q3 else dB (zX3_caseOf_s32 q3 p1 p2) (fun r10 q12 => dG (dg r10 504) (dL (q12.1 35 (Int32.toNatClampNeg r10)) (fun v14 => if v14 = 0 then zX3_isCloser_s32_50  q12 1 else zX3_isCloser_s32_49  q12))))) else zX3_isCloser_s32_49  q3)))))
noncomputable def zX3_firstCloser_s32_2b (k2 : dK → Int32 → Int32 → Option (Int32 × dK)) (q : dK) (x1 : Int32) (x2 : Int32) : Option (Int32 × dK) := if (q.1 32 13) < x2 then some ((-1), q) else dB (zX3_isCloser_s32 q x1 x2) (fun r1 q3 => if r1 = 0 then k2 q3 x1 (x2 + 1) else some (x2, q3))
noncomputable def zX3_firstCloser_s32_2  (n : Nat) (q : dK) (x1 : Int32) (x2 : Int32) : Option (Int32 × dK) := dFix (α := dK × Int32 × Int32) (fun k a => zX3_firstCloser_s32_2b  (fun q x1 x2 => k (q, x1, x2)) a.1 a.2.1 a.2.2) n (q, x1, x2)
noncomputable def zX3_firstCloser_s32 (q : dK) (p1 : Int32) : Option (Int32 × dK) := zX3_firstCloser_s32_2  dF q p1 1
noncomputable def zX3_turnOfFirstRow_s32_30b (k30 : dK → Int32 → Int32 → Int32 → Option (Int32 × dK)) (q : dK) (x1 : Int32) (x2 : Int32) (x3 : Int32) : Option (Int32 × dK) := if x1 ≤ x3 then dB (zX3_firstCloser_s32 q x2) (fun r1 q3 => some (r1, q3)) else dB (zX3_firstCloser_s32 q x2) (fun r4 q6 => dB (zX3_turned_s32 q6 x2 r4) (fun r7 q9 => k30 q9 x1 r7 (x3 + 1)))
noncomputable def zX3_turnOfFirstRow_s32_30  (n : Nat) (q : dK) (x1 : Int32) (x2 : Int32) (x3 : Int32) : Option (Int32 × dK) := dFix (α := dK × Int32 × Int32 × Int32) (fun k a => zX3_turnOfFirstRow_s32_30b  (fun q x1 x2 x3 => k (q, x1, x2, x3)) a.1 a.2.1 a.2.2.1 a.2.2.2) n (q, x1, x2, x3)
noncomputable def zX3_turnOfFirstRow_s32_21  (q : dK)  : Option (Int32 × dK) := some ((-1), q)
noncomputable def zX3_turnOfFirstRow_s32 (q : dK) (p1 : Int32) : Option (Int32 × dK) := dV (zX3_measure_s32 q ) (fun q3 => if p1 < 0 then zX3_turnOfFirstRow_s32_21  q3 else dG (dg (q3.1 32 15) (Int32.toNatClampNeg (q3.1 32 103))) (dL (q3.1 42 (Int32.toNatClampNeg (q3.1 32 15))) (fun v5 => if p1 < v5 then zX3_turnOfFirstRow_s32_30  dF q3 p1 (q3.1 32 15) 0 else zX3_turnOfFirstRow_s32_21  q3)))
noncomputable def zX3_turnsToOrder_s32 (q : dK)  : Option (Int32 × dK) := dV (zX3_measure_s32 q ) (fun q3 => dG (dg (q3.1 32 15) (Int32.toNatClampNeg (q3.1 32 103))) (dL (q3.1 42 (Int32.toNatClampNeg (q3.1 32 15))) (fun v5 => some (v5, q3))))
noncomputable def zX9_fewest_s0 (nc : Nat) (ns : Nat) (q : dK) (p1 : Int32) : Option (Int32 × dK) := dV (zX9_seated_s0 q ) (fun q3 => dV (zX9_spread_s0_s20 nc ns q3 ) (fun q6 => if p1 = (-1) then dB (zX3_turnsToOrder_s32 q6 ) (fun r10 q12 => some (r10, q12)) else dB (zX3_turnOfFirstRow_s32 q6 p1) (fun r7 q9 => some (r7, q9))))
noncomputable def zX3_rowsToOrder_s32_200  (q : dK) (x2 : Int32) : Option (Int32 × dK) := some (x2, q)
noncomputable def zX3_rowsToOrder_s32_188 (k53 : dK → Int32 → Int32 → Int32 → Option (Int32 × dK)) (k102 : dK → Int32 → Int32 → Int32 → Int32 → Int32 → Option (Int32 × dK)) (q : dK) (x1 : Int32) (x2 : Int32) (x3 : Int32) (x4 : Int32) (x5 : Int32) : Option (Int32 × dK) := k102 q x1 x2 x3 x4 (x5 + 1)
noncomputable def zX3_rowsToOrder_s32_161 (k53 : dK → Int32 → Int32 → Int32 → Option (Int32 × dK)) (k102 : dK → Int32 → Int32 → Int32 → Int32 → Int32 → Option (Int32 × dK)) (q : dK) (x1 : Int32) (x2 : Int32) (x3 : Int32) (x4 : Int32) (x5 : Int32) (x6 : Int32) : Option (Int32 × dK) := dG (dg x6 (Int32.toNatClampNeg (q.1 32 104))) (dL (q.1 43 (Int32.toNatClampNeg x6)) (fun v2 => dG (dg x4 (Int32.toNatClampNeg (q.1 32 104))) (dL (q.1 43 (Int32.toNatClampNeg x4)) (fun v4 => dG (dg x6 (Int32.toNatClampNeg (q.1 32 104))) (dL (cui q 43 (Int32.toNatClampNeg x6) (mnI 1000000000 (v2 + v4))) (fun q6 => zX3_rowsToOrder_s32_188 k53 k102 q6 x1 x2 x3 x4 x5))))))
noncomputable def zX3_rowsToOrder_s32_102b (k53 : dK → Int32 → Int32 → Int32 → Option (Int32 × dK)) (k102 : dK → Int32 → Int32 → Int32 → Int32 → Int32 → Option (Int32 × dK)) (q : dK) (x1 : Int32) (x2 : Int32) (x3 : Int32) (x4 : Int32) (x5 : Int32) : Option (Int32 × dK) := if (q.1 32 13) < x5 then k53 q x1 x2 (x3 + 1) else dB (zX3_isCloser_s32 q x4 x5) (fun r1 q3 => if r1 = 0 then zX3_rowsToOrder_s32_188 k53 k102 q3 x1 x2 x3 x4 x5 else dB (zX3_turned_s32 q3 x4 x5) (fun r4 q6 => dG (dg r4 (Int32.toNatClampNeg (q6.1 32 104))) (dL (q6.1 43 (Int32.toNatClampNeg r4)) (fun v8 => if v8 = 0 then if (q6.1 32 14) ≤ x1 then zX3_rowsToOrder_s32_161 k53 k102 q6 x1 x2 x3 x4 x5 r4 else dG (dg x1 (Int32.toNatClampNeg (q6.1 32 105))) (dL (cui q6 44 (Int32.toNatClampNeg x1) r4) (fun q10 => zX3_rowsToOrder_s32_161 k53 k102 q10 (x1 + 1) x2 x3 x4 x5 r4)) else zX3_rowsToOrder_s32_161 k53 k102 q6 x1 x2 x3 x4 x5 r4))))
noncomputable def zX3_rowsToOrder_s32_102 (k53 : dK → Int32 → Int32 → Int32 → Option (Int32 × dK)) (n : Nat) (q : dK) (x1 : Int32) (x2 : Int32) (x3 : Int32) (x4 : Int32) (x5 : Int32) : Option (Int32 × dK) := dFix (α := dK × Int32 × Int32 × Int32 × Int32 × Int32) (fun k a => zX3_rowsToOrder_s32_102b k53 (fun q x1 x2 x3 x4 x5 => k (q, x1, x2, x3, x4, x5)) a.1 a.2.1 a.2.2.1 a.2.2.2.1 a.2.2.2.2.1 a.2.2.2.2.2) n (q, x1, x2, x3, x4, x5)
noncomputable def zX3_rowsToOrder_s32_99 (k53 : dK → Int32 → Int32 → Int32 → Option (Int32 × dK)) (q : dK) (x1 : Int32) (x2 : Int32) (x3 : Int32) (x4 : Int32) : Option (Int32 × dK) := zX3_rowsToOrder_s32_102 k53 dF q x1 x2 x3 x4 1
noncomputable def zX3_rowsToOrder_s32_53b (k53 : dK → Int32 → Int32 → Int32 → Option (Int32 × dK)) (q : dK) (x1 : Int32) (x2 : Int32) (x3 : Int32) : Option (Int32 × dK) := if (q.1 32 14) ≤ x3 then zX3_rowsToOrder_s32_200  q x2 else if x1 ≤ x3 then zX3_rowsToOrder_s32_200  q x2 else dG (dg x3 (Int32.toNatClampNeg (q.1 32 105))) (dL (q.1 44 (Int32.toNatClampNeg x3)) (fun v2 => dG (dg v2 (Int32.toNatClampNeg (q.1 32 103))) (dL (q.1 42 (Int32.toNatClampNeg v2)) (fun v4 => if v4 = 0 then dG (dg v2 (Int32.toNatClampNeg (q.1 32 104))) (dL (q.1 43 (Int32.toNatClampNeg v2)) (fun v6 => zX3_rowsToOrder_s32_99 k53 q x1 (mnI 1000000000 (x2 + v6)) x3 v2)) else zX3_rowsToOrder_s32_99 k53 q x1 x2 x3 v2))))
noncomputable def zX3_rowsToOrder_s32_53  (n : Nat) (q : dK) (x1 : Int32) (x2 : Int32) (x3 : Int32) : Option (Int32 × dK) := dFix (α := dK × Int32 × Int32 × Int32) (fun k a => zX3_rowsToOrder_s32_53b  (fun q x1 x2 x3 => k (q, x1, x2, x3)) a.1 a.2.1 a.2.2.1 a.2.2.2) n (q, x1, x2, x3)
noncomputable def zX3_rowsToOrder_s32 (q : dK)  : Option (Int32 × dK) := dV (zX3_measure_s32 q ) (fun q3 => dG (dg (q3.1 32 15) (Int32.toNatClampNeg (q3.1 32 103))) (dL (q3.1 42 (Int32.toNatClampNeg (q3.1 32 15))) (fun v5 => if v5 = (-1) then some (0, q3) else dL (cfi q3 43 (Int32.toNatClampNeg (q3.1 32 104)) 0) (fun q6 => dG (dg (q6.1 32 15) (Int32.toNatClampNeg (q6.1 32 104))) (dL (cui q6 43 (Int32.toNatClampNeg (q6.1 32 15)) 1) (fun q8 => dG (dg 0 (Int32.toNatClampNeg (q8.1 32 105))) (dL (cui q8 44 0 (q8.1 32 15)) (fun q10 => zX3_rowsToOrder_s32_53  dF q10 1 0 0))))))))
noncomputable def zX9_many_s0 (nc : Nat) (ns : Nat) (q : dK)  : Option (Int32 × dK) := dV (zX9_seated_s0 q ) (fun q3 => dV (zX9_spread_s0_s20 nc ns q3 ) (fun q6 => dB (zX3_rowsToOrder_s32 q6 ) (fun r7 q9 => some (r7, q9))))
noncomputable def zX3_askCases_s32_s20_c0_173 (k36 : dK → Int32 → Int32 → Option (dK)) (k48 : dK → Int32 → Int32 → Int32 → Option (dK)) (k100 : dK → Int32 → Int32 → Int32 → Int32 → Int32 → Option (dK)) (k130 : dK → Int32 → Int32 → Int32 → Int32 → Int32 → Int32 → Int32 → Option (dK)) (q : dK) (x3 : Int32) (x5 : Int32) (x6 : Int32) (x8 : Int32) (x9 : Int32) (x10 : Int32) (x11 : Int32) (y0 : Int32) : Option (dK) := dV (zX3_caseNumber x5 x6 x9 x11) (fun r1 => dG (dg r1 504) (dL (cui q 36 (Int32.toNatClampNeg r1) y0) (fun q4 => k130 q4 x3 x5 x6 x8 x9 x10 (x11 + 1))))
noncomputable def zX3_askCases_s32_s20_c0_130b (k36 : dK → Int32 → Int32 → Option (dK)) (k48 : dK → Int32 → Int32 → Int32 → Option (dK)) (k100 : dK → Int32 → Int32 → Int32 → Int32 → Int32 → Option (dK)) (k130 : dK → Int32 → Int32 → Int32 → Int32 → Int32 → Int32 → Int32 → Option (dK)) (q : dK) (x3 : Int32) (x5 : Int32) (x6 : Int32) (x8 : Int32) (x9 : Int32) (x10 : Int32) (x11 : Int32) : Option (dK) := if 2 ≤ x11 then k100 q x3 x5 x6 x8 (x9 + 1) else dG (dg x6 6) (dL (q.1 33 (Int32.toNatClampNeg x6)) (fun v2 => dV (zX1_setGrip_s20 q x5 v2 x10 x11) (fun q5 => if x3 = 1 then dB (zX1_anyHolds_s20 q5 1) (fun r9 q11 => dV (zX9_bit r9) (fun r12 => zX3_askCases_s32_s20_c0_173 k36 k48 k100 k130 q11 x3 x5 x6 x8 x9 x10 x11 r12)) else dB (zX1_pay_s20 q5 ) (fun r6 q8 => zX3_askCases_s32_s20_c0_173 k36 k48 k100 k130 q8 x3 x5 x6 x8 x9 x10 x11 r6))))
noncomputable def zX3_askCases_s32_s20_c0_130 (k36 : dK → Int32 → Int32 → Option (dK)) (k48 : dK → Int32 → Int32 → Int32 → Option (dK)) (k100 : dK → Int32 → Int32 → Int32 → Int32 → Int32 → Option (dK)) (n : Nat) (q : dK) (x3 : Int32) (x5 : Int32) (x6 : Int32) (x8 : Int32) (x9 : Int32) (x10 : Int32) (x11 : Int32) : Option (dK) := dFix (α := dK × Int32 × Int32 × Int32 × Int32 × Int32 × Int32 × Int32) (fun k a => zX3_askCases_s32_s20_c0_130b k36 k48 k100 (fun q x3 x5 x6 x8 x9 x10 x11 => k (q, x3, x5, x6, x8, x9, x10, x11)) a.1 a.2.1 a.2.2.1 a.2.2.2.1 a.2.2.2.2.1 a.2.2.2.2.2.1 a.2.2.2.2.2.2.1 a.2.2.2.2.2.2.2) n (q, x3, x5, x6, x8, x9, x10, x11)
noncomputable def zX3_askCases_s32_s20_c0_125 (k36 : dK → Int32 → Int32 → Option (dK)) (k48 : dK → Int32 → Int32 → Int32 → Option (dK)) (k100 : dK → Int32 → Int32 → Int32 → Int32 → Int32 → Option (dK)) (q : dK) (x3 : Int32) (x5 : Int32) (x6 : Int32) (x8 : Int32) (x9 : Int32) (y0 : Int32) : Option (dK) := zX3_askCases_s32_s20_c0_130 k36 k48 k100 dF q x3 x5 x6 x8 x9 y0 0
noncomputable def zX3_askCases_s32_s20_c0_100b (k36 : dK → Int32 → Int32 → Option (dK)) (k48 : dK → Int32 → Int32 → Int32 → Option (dK)) (k100 : dK → Int32 → Int32 → Int32 → Int32 → Int32 → Option (dK)) (q : dK) (x3 : Int32) (x5 : Int32) (x6 : Int32) (x8 : Int32) (x9 : Int32) : Option (dK) := if x8 < x9 then k48 q x3 x5 (x6 + 1) else if x9 = 6 then zX3_askCases_s32_s20_c0_125 k36 k48 k100 q x3 x5 x6 x8 x9 (-1) else dG (dg x9 6) (dL (q.1 33 (Int32.toNatClampNeg x9)) (fun v2 => zX3_askCases_s32_s20_c0_125 k36 k48 k100 q x3 x5 x6 x8 x9 v2))
noncomputable def zX3_askCases_s32_s20_c0_100 (k36 : dK → Int32 → Int32 → Option (dK)) (k48 : dK → Int32 → Int32 → Int32 → Option (dK)) (n : Nat) (q : dK) (x3 : Int32) (x5 : Int32) (x6 : Int32) (x8 : Int32) (x9 : Int32) : Option (dK) := dFix (α := dK × Int32 × Int32 × Int32 × Int32 × Int32) (fun k a => zX3_askCases_s32_s20_c0_100b k36 k48 (fun q x3 x5 x6 x8 x9 => k (q, x3, x5, x6, x8, x9)) a.1 a.2.1 a.2.2.1 a.2.2.2.1 a.2.2.2.2.1 a.2.2.2.2.2) n (q, x3, x5, x6, x8, x9)
noncomputable def zX3_askCases_s32_s20_c0_94 (k36 : dK → Int32 → Int32 → Option (dK)) (k48 : dK → Int32 → Int32 → Int32 → Option (dK)) (q : dK) (x3 : Int32) (x5 : Int32) (x6 : Int32) (x7 : Int32) (y0 : Int32) : Option (dK) := zX3_askCases_s32_s20_c0_100 k36 k48 dF q x3 x5 x6 y0 x7
noncomputable def zX3_askCases_s32_s20_c0_72 (k36 : dK → Int32 → Int32 → Option (dK)) (k48 : dK → Int32 → Int32 → Int32 → Option (dK)) (q : dK) (x3 : Int32) (x5 : Int32) (x6 : Int32) (y0 : Int32) : Option (dK) := if (q.1 32 13) ≤ x5 then zX3_askCases_s32_s20_c0_94 k36 k48 q x3 x5 x6 y0 6 else zX3_askCases_s32_s20_c0_94 k36 k48 q x3 x5 x6 y0 ((q.1 32 13) - 1 : Int32)
noncomputable def zX3_askCases_s32_s20_c0_48b (k36 : dK → Int32 → Int32 → Option (dK)) (k48 : dK → Int32 → Int32 → Int32 → Option (dK)) (q : dK) (x3 : Int32) (x5 : Int32) (x6 : Int32) : Option (dK) := if (q.1 32 13) ≤ x6 then k36 q x3 (x5 + 1) else if (q.1 32 13) ≤ x5 then zX3_askCases_s32_s20_c0_72 k36 k48 q x3 x5 x6 6 else zX3_askCases_s32_s20_c0_72 k36 k48 q x3 x5 x6 0
noncomputable def zX3_askCases_s32_s20_c0_48 (k36 : dK → Int32 → Int32 → Option (dK)) (n : Nat) (q : dK) (x3 : Int32) (x5 : Int32) (x6 : Int32) : Option (dK) := dFix (α := dK × Int32 × Int32 × Int32) (fun k a => zX3_askCases_s32_s20_c0_48b k36 (fun q x3 x5 x6 => k (q, x3, x5, x6)) a.1 a.2.1 a.2.2.1 a.2.2.2) n (q, x3, x5, x6)
noncomputable def zX3_askCases_s32_s20_c0_36b (k36 : dK → Int32 → Int32 → Option (dK)) (q : dK) (x3 : Int32) (x5 : Int32) : Option (dK) := if (q.1 32 13) < x5 then some q else zX3_askCases_s32_s20_c0_48 k36 dF q x3 x5 0
noncomputable def zX3_askCases_s32_s20_c0_36  (n : Nat) (q : dK) (x3 : Int32) (x5 : Int32) : Option (dK) := dFix (α := dK × Int32 × Int32) (fun k a => zX3_askCases_s32_s20_c0_36b  (fun q x3 x5 => k (q, x3, x5)) a.1 a.2.1 a.2.2) n (q, x3, x5)
noncomputable def zX3_askCases_s32_s20_c0_16  (q : dK) (x2 : Int32) (x3 : Int32) : Option (dK) := dL (cfi q 36 504 0) (fun q1 => dV (zX1_setCommon_s20 q1 (q1.1 32 13) x2) (fun q4 => zX3_askCases_s32_s20_c0_36  dF q4 x3 1))
noncomputable def zX3_askCases_s32_s20_c0 (q : dK) (p2 : Int32) : Option (dK) := zX3_askCases_s32_s20_c0_16  q p2 0
noncomputable def zX3_putInBucket_s32_51  (q : dK) (x1 : Int32) (x2 : Int32) : Option (dK) := dG (dg x2 100) (dL (cui q 38 (Int32.toNatClampNeg x2) x1) (fun q2 => some q2))
noncomputable def zX3_putInBucket_s32 (q : dK) (p1 : Int32) : Option (dK) := dG (dg p1 (Int32.toNatClampNeg (q.1 32 104))) (dL (q.1 43 (Int32.toNatClampNeg p1)) (fun v2 => dG (dg (v2 - v2 / 100 * 100 : Int32) 100) (dL (q.1 38 (Int32.toNatClampNeg (v2 - v2 / 100 * 100 : Int32))) (fun v4 => dG (dg p1 (Int32.toNatClampNeg (q.1 32 105))) (dL (cui q 44 (Int32.toNatClampNeg p1) v4) (fun q6 => dG (dg p1 (Int32.toNatClampNeg (q6.1 32 106))) (dL (cui q6 45 (Int32.toNatClampNeg p1) (-1)) (fun q8 => dG (dg p1 (Int32.toNatClampNeg (q8.1 32 105))) (dL (q8.1 44 (Int32.toNatClampNeg p1)) (fun v10 => if v10 = (-1) then zX3_putInBucket_s32_51  q8 p1 (v2 - v2 / 100 * 100 : Int32) else dG (dg p1 (Int32.toNatClampNeg (q8.1 32 105))) (dL (q8.1 44 (Int32.toNatClampNeg p1)) (fun v12 => dG (dg v12 (Int32.toNatClampNeg (q8.1 32 106))) (dL (cui q8 45 (Int32.toNatClampNeg v12) p1) (fun q14 => zX3_putInBucket_s32_51  q14 p1 (v2 - v2 / 100 * 100 : Int32)))))))))))))))
noncomputable def zX3_takeFromBucket_s32_77  (q : dK)  : Option (dK) := some q
noncomputable def zX3_takeFromBucket_s32_50  (q : dK) (x1 : Int32) : Option (dK) := dG (dg x1 (Int32.toNatClampNeg (q.1 32 105))) (dL (q.1 44 (Int32.toNatClampNeg x1)) (fun v2 => if v2 = (-1) then zX3_takeFromBucket_s32_77  q else dG (dg x1 (Int32.toNatClampNeg (q.1 32 105))) (dL (q.1 44 (Int32.toNatClampNeg x1)) (fun v4 => dG (dg x1 (Int32.toNatClampNeg (q.1 32 106))) (dL (q.1 45 (Int32.toNatClampNeg x1)) (fun v6 => dG (dg v4 (Int32.toNatClampNeg (q.1 32 106))) (dL (cui q 45 (Int32.toNatClampNeg v4) v6) (fun q8 => zX3_takeFromBucket_s32_77  q8))))))))
noncomputable def zX3_takeFromBucket_s32 (q : dK) (p1 : Int32) : Option (dK) := dG (dg p1 (Int32.toNatClampNeg (q.1 32 106))) (dL (q.1 45 (Int32.toNatClampNeg p1)) (fun v2 => if v2 = (-1) then dG (dg p1 (Int32.toNatClampNeg (q.1 32 104))) (dL (q.1 43 (Int32.toNatClampNeg p1)) (fun v10 => dG (dg p1 (Int32.toNatClampNeg (q.1 32 105))) (dL (q.1 44 (Int32.toNatClampNeg p1)) (fun v12 => dG (dg (v10 - v10 / 100 * 100 : Int32) 100) (dL (cui q 38 (Int32.toNatClampNeg (v10 - v10 / 100 * 100 : Int32)) v12) (fun q14 => zX3_takeFromBucket_s32_50  q14 p1)))))) else dG (dg p1 (Int32.toNatClampNeg (q.1 32 106))) (dL (q.1 45 (Int32.toNatClampNeg p1)) (fun v4 => dG (dg p1 (Int32.toNatClampNeg (q.1 32 105))) (dL (q.1 44 (Int32.toNatClampNeg p1)) (fun v6 => dG (dg v4 (Int32.toNatClampNeg (q.1 32 105))) (dL (cui q 44 (Int32.toNatClampNeg v4) v6) (fun q8 => zX3_takeFromBucket_s32_50  q8 p1))))))))
noncomputable def zX3_offerTurns_s32_105 (k4 : dK → Int32 → Int32 → Int32 → Option (Int32 × dK)) (q : dK) (x1 : Int32) (x2 : Int32) (x3 : Int32) : Option (Int32 × dK) := k4 q x1 x2 (x3 + 1)
noncomputable def zX3_offerTurns_s32_90 (k4 : dK → Int32 → Int32 → Int32 → Option (Int32 × dK)) (q : dK) (x1 : Int32) (x2 : Int32) (x3 : Int32) (x4 : Int32) (x6 : Int32) : Option (Int32 × dK) := dG (dg x4 (Int32.toNatClampNeg (q.1 32 104))) (dL (cui q 43 (Int32.toNatClampNeg x4) x6) (fun q2 => dV (zX3_putInBucket_s32 q2 x4) (fun q5 => zX3_offerTurns_s32_105 k4 q5 x1 x2 x3)))
noncomputable def zX3_offerTurns_s32_4b (k4 : dK → Int32 → Int32 → Int32 → Option (Int32 × dK)) (q : dK) (x1 : Int32) (x2 : Int32) (x3 : Int32) : Option (Int32 × dK) := if (q.1 32 13) < x3 then some (x2, q) else dB (zX3_turned_s32 q x1 x3) (fun r1 q3 => dB (zX3_caseOf_s32 q3 x1 x3) (fun r4 q6 => dG (dg x1 (Int32.toNatClampNeg (q6.1 32 104))) (dL (q6.1 43 (Int32.toNatClampNeg x1)) (fun v8 => dG (dg r4 504) (dL (q6.1 36 (Int32.toNatClampNeg r4)) (fun v10 => dG (dg r4 504) (dL (q6.1 35 (Int32.toNatClampNeg r4)) (fun v12 => if v12 = 0 then dG (dg r1 (Int32.toNatClampNeg (q6.1 32 104))) (dL (q6.1 43 (Int32.toNatClampNeg r1)) (fun v14 => if v14 ≤ (v8 + v10) then zX3_offerTurns_s32_105 k4 q6 x1 x2 x3 else dG (dg r1 (Int32.toNatClampNeg (q6.1 32 104))) (dL (q6.1 43 (Int32.toNatClampNeg r1)) (fun v16 => if v16 = 2000000000 then zX3_offerTurns_s32_90 k4 q6 x1 (x2 + 1) x3 r1 (v8 + v10) else dV (zX3_takeFromBucket_s32 q6 r1) (fun q19 => zX3_offerTurns_s32_90 k4 q19 x1 x2 x3 r1 (v8 + v10)))))) else zX3_offerTurns_s32_105 k4 q6 x1 x2 x3))))))))
noncomputable def zX3_offerTurns_s32_4  (n : Nat) (q : dK) (x1 : Int32) (x2 : Int32) (x3 : Int32) : Option (Int32 × dK) := dFix (α := dK × Int32 × Int32 × Int32) (fun k a => zX3_offerTurns_s32_4b  (fun q x1 x2 x3 => k (q, x1, x2, x3)) a.1 a.2.1 a.2.2.1 a.2.2.2) n (q, x1, x2, x3)
noncomputable def zX3_offerTurns_s32 (q : dK) (p1 : Int32) : Option (Int32 × dK) := zX3_offerTurns_s32_4  dF q p1 0 1
noncomputable def zX3_leastPaid_s32_s20_143  (q : dK)  : Option (Int32 × dK) := some ((-1), q)
noncomputable def zX3_leastPaid_s32_s20_137 (k47 : dK → Int32 → Int32 → Option (Int32 × dK)) (q : dK) (x3 : Int32) (x4 : Int32) : Option (Int32 × dK) := k47 q x3 (x4 + 1)
noncomputable def zX3_leastPaid_s32_s20_73b (k47 : dK → Int32 → Int32 → Option (Int32 × dK)) (k73 : dK → Int32 → Int32 → Int32 → Int32 → Option (Int32 × dK)) (q : dK) (x3 : Int32) (x4 : Int32) (x5 : Int32) (x6 : Int32) : Option (Int32 × dK) := if (q.1 32 14) ≤ x6 then zX3_leastPaid_s32_s20_137 k47 q x3 x4 else dG (dg x5 100) (dL (q.1 38 (Int32.toNatClampNeg x5)) (fun v2 => if v2 = (-1) then zX3_leastPaid_s32_s20_137 k47 q x3 x4 else dG (dg x5 100) (dL (q.1 38 (Int32.toNatClampNeg x5)) (fun v4 => dV (zX3_takeFromBucket_s32 q v4) (fun q7 => dB (zX3_isOrdered_s32 q7 v4) (fun r8 q10 => if r8 = 0 then dB (zX3_offerTurns_s32 q10 v4) (fun r11 q13 => k73 q13 (x3 + (r11 - 1 : Int32)) x4 x5 (x6 + 1)) else some (x4, q10)))))))
noncomputable def zX3_leastPaid_s32_s20_73 (k47 : dK → Int32 → Int32 → Option (Int32 × dK)) (n : Nat) (q : dK) (x3 : Int32) (x4 : Int32) (x5 : Int32) (x6 : Int32) : Option (Int32 × dK) := dFix (α := dK × Int32 × Int32 × Int32 × Int32) (fun k a => zX3_leastPaid_s32_s20_73b k47 (fun q x3 x4 x5 x6 => k (q, x3, x4, x5, x6)) a.1 a.2.1 a.2.2.1 a.2.2.2.1 a.2.2.2.2) n (q, x3, x4, x5, x6)
noncomputable def zX3_leastPaid_s32_s20_47b (k47 : dK → Int32 → Int32 → Option (Int32 × dK)) (q : dK) (x3 : Int32) (x4 : Int32) : Option (Int32 × dK) := if (99 * (q.1 32 14) : Int32) < x4 then zX3_leastPaid_s32_s20_143  q else if x3 ≤ 0 then zX3_leastPaid_s32_s20_143  q else zX3_leastPaid_s32_s20_73 k47 dF q x3 x4 (x4 - x4 / 100 * 100 : Int32) 0
noncomputable def zX3_leastPaid_s32_s20_47  (n : Nat) (q : dK) (x3 : Int32) (x4 : Int32) : Option (Int32 × dK) := dFix (α := dK × Int32 × Int32) (fun k a => zX3_leastPaid_s32_s20_47b  (fun q x3 x4 => k (q, x3, x4)) a.1 a.2.1 a.2.2) n (q, x3, x4)
noncomputable def zX3_leastPaid_s32_s20 (q : dK) (p2 : Int32) : Option (Int32 × dK) := dV (zX3_askCases_s32_s20_c0 q p2) (fun q3 => dL (cfi q3 43 (Int32.toNatClampNeg (q3.1 32 104)) 2000000000) (fun q4 => dL (cfi q4 38 100 (-1)) (fun q5 => dG (dg (q5.1 32 15) (Int32.toNatClampNeg (q5.1 32 104))) (dL (cui q5 43 (Int32.toNatClampNeg (q5.1 32 15)) 0) (fun q7 => dV (zX3_putInBucket_s32 q7 (q7.1 32 15)) (fun q10 => zX3_leastPaid_s32_s20_47  dF q10 1 0))))))
noncomputable def zX9_cheapest_s0 (nc : Nat) (ns : Nat) (q : dK)  : Option (Int32 × dK) := dV (zX9_seated_s0 q ) (fun q3 => dV (zX9_spread_s0_s20 nc ns q3 ) (fun q6 => dB (zX3_leastPaid_s32_s20 q6 (q6.1 2 4)) (fun r7 q9 => some (r7, q9))))
noncomputable def zX3_worstTowers_s32_102  (q : dK) (y0 : Int32) : Option (Int32 × dK) := some (y0, q)
noncomputable def zX3_worstTowers_s32_73 (k14 : dK → Int32 → Int32 → Int32 → Int32 → Int32 → Option (Int32 × dK)) (q : dK) (x1 : Int32) (x2 : Int32) (x3 : Int32) (x5 : Int32) (y0 : Int32) (y1 : Int32) : Option (Int32 × dK) := dV (zX9_bit y0) (fun r1 => k14 q x1 x2 x3 (y1 + r1) (x5 + 1))
noncomputable def zX3_worstTowers_s32_55 (k14 : dK → Int32 → Int32 → Int32 → Int32 → Int32 → Option (Int32 × dK)) (q : dK) (x1 : Int32) (x2 : Int32) (x4 : Int32) (x5 : Int32) (x6 : Int32) (y0 : Int32) (y1 : Int32) : Option (Int32 × dK) := dV (zX9_bit y0) (fun r1 => if x6 = (-1) then zX3_worstTowers_s32_73 k14 q x1 x2 (y1 + r1) x5 0 x4 else zX3_worstTowers_s32_73 k14 q x1 x2 (y1 + r1) x5 1 x4)
noncomputable def zX3_worstTowers_s32_43 (k14 : dK → Int32 → Int32 → Int32 → Int32 → Int32 → Option (Int32 × dK)) (q : dK) (x1 : Int32) (x2 : Int32) (x3 : Int32) (x4 : Int32) (x5 : Int32) (x6 : Int32) : Option (Int32 × dK) := if x6 = x2 then zX3_worstTowers_s32_55 k14 q x1 x2 x4 x5 x6 1 x3 else zX3_worstTowers_s32_55 k14 q x1 x2 x4 x5 x6 0 x3
noncomputable def zX3_worstTowers_s32_14b (k14 : dK → Int32 → Int32 → Int32 → Int32 → Int32 → Option (Int32 × dK)) (q : dK) (x1 : Int32) (x2 : Int32) (x3 : Int32) (x4 : Int32) (x5 : Int32) : Option (Int32 × dK) := if (q.1 32 14) ≤ x5 then if x1 = 0 then some (x2, q) else if x1 = 1 then zX3_worstTowers_s32_102  q x3 else zX3_worstTowers_s32_102  q x4 else dG (dg x5 (Int32.toNatClampNeg (q.1 32 103))) (dL (q.1 42 (Int32.toNatClampNeg x5)) (fun v2 => if v2 ≤ x2 then zX3_worstTowers_s32_43 k14 q x1 x2 x3 x4 x5 v2 else zX3_worstTowers_s32_43 k14 q x1 v2 0 x4 x5 v2))
noncomputable def zX3_worstTowers_s32_14  (n : Nat) (q : dK) (x1 : Int32) (x2 : Int32) (x3 : Int32) (x4 : Int32) (x5 : Int32) : Option (Int32 × dK) := dFix (α := dK × Int32 × Int32 × Int32 × Int32 × Int32) (fun k a => zX3_worstTowers_s32_14b  (fun q x1 x2 x3 x4 x5 => k (q, x1, x2, x3, x4, x5)) a.1 a.2.1 a.2.2.1 a.2.2.2.1 a.2.2.2.2.1 a.2.2.2.2.2) n (q, x1, x2, x3, x4, x5)
noncomputable def zX3_worstTowers_s32 (q : dK) (p1 : Int32) : Option (Int32 × dK) := dV (zX3_measure_s32 q ) (fun q3 => zX3_worstTowers_s32_14  dF q3 p1 0 0 0 0)
noncomputable def zX9_worst_s0_9 (nc : Nat) (ns : Nat)  (q : dK)  : Option (Int32 × dK) := some ((-1), q)
noncomputable def zX9_worst_s0 (nc : Nat) (ns : Nat) (q : dK) (p1 : Int32) : Option (Int32 × dK) := if p1 < 0 then zX9_worst_s0_9 nc ns  q else if p1 ≤ 2 then dV (zX9_seated_s0 q ) (fun q3 => dV (zX9_spread_s0_s20 nc ns q3 ) (fun q6 => dB (zX3_worstTowers_s32 q6 p1) (fun r7 q9 => some (r7, q9)))) else zX9_worst_s0_9 nc ns  q
noncomputable def zX3_fits_s32_49  (q : dK) (y0 : Int32) : Option (Int32 × dK) := dG (dbl y0) (some (y0, q))
noncomputable def zX3_fits_s32_48  (q : dK)  : Option (Int32 × dK) := zX3_fits_s32_49  q 0
noncomputable def zX3_fits_s32_24  (q : dK) (y0 : Int32) : Option (Int32 × dK) := dG (dbl y0) (some (y0, q))
noncomputable def zX3_fits_s32 (q : dK) (p1 : Int32) (p2 : Int32) (p3 : Int32) : Option (Int32 × dK) := if p2 = 1 then if (p1 >>> ((q.1 32 13 : Int32) &&& 31)) = p3 then zX3_fits_s32_24  q 1 else zX3_fits_s32_24  q 0 else if p2 = 2 then dG (dg (p1 >>> ((q.1 32 13 : Int32) &&& 31)) (Int32.toNatClampNeg (q.1 32 100))) (dL (q.1 39 (Int32.toNatClampNeg (p1 >>> ((q.1 32 13 : Int32) &&& 31)))) (fun v2 => if (v2 &&& 7 : Int32) = p3 then zX3_fits_s32_49  q 1 else zX3_fits_s32_48  q)) else zX3_fits_s32_48  q
noncomputable def zX3_nearest_s32_187  (q : dK)  : Option (Int32 × dK) := some ((-1), q)
noncomputable def zX3_nearest_s32_175 (k35 : dK → Int32 → Int32 → Int32 → Option (Int32 × dK)) (k81 : dK → Int32 → Int32 → Int32 → Int32 → Int32 → Option (Int32 × dK)) (q : dK) (x1 : Int32) (x2 : Int32) (x3 : Int32) (x4 : Int32) (x5 : Int32) : Option (Int32 × dK) := k81 q x1 x2 x3 x4 (x5 + 1)
noncomputable def zX3_nearest_s32_81b (k35 : dK → Int32 → Int32 → Int32 → Option (Int32 × dK)) (k81 : dK → Int32 → Int32 → Int32 → Int32 → Int32 → Option (Int32 × dK)) (q : dK) (x1 : Int32) (x2 : Int32) (x3 : Int32) (x4 : Int32) (x5 : Int32) : Option (Int32 × dK) := if (q.1 32 13) < x5 then k35 q x1 x2 (x3 + 1) else dB (zX3_turned_s32 q x4 x5) (fun r1 q3 => dG (dg r1 (Int32.toNatClampNeg (q3.1 32 104))) (dL (q3.1 43 (Int32.toNatClampNeg r1)) (fun v5 => if v5 = (-1) then dB (zX3_caseOf_s32 q3 x4 x5) (fun r6 q8 => dG (dg r6 504) (dL (q8.1 35 (Int32.toNatClampNeg r6)) (fun v10 => if v10 = 0 then if (q8.1 32 14) ≤ (q8.1 32 19) then zX3_nearest_s32_175 k35 k81 q8 x1 x2 x3 x4 x5 else dG (dg x4 (Int32.toNatClampNeg (q8.1 32 104))) (dL (q8.1 43 (Int32.toNatClampNeg x4)) (fun v12 => dG (dg r1 (Int32.toNatClampNeg (q8.1 32 104))) (dL (cui q8 43 (Int32.toNatClampNeg r1) (v12 + 1 : Int32)) (fun q14 => dG (dg (q14.1 32 19) (Int32.toNatClampNeg (q14.1 32 105))) (dL (cui q14 44 (Int32.toNatClampNeg (q14.1 32 19)) r1) (fun q16 => dL (cui q16 32 19 ((q16.1 32 19) + 1 : Int32)) (fun q17 => zX3_nearest_s32_175 k35 k81 q17 x1 x2 x3 x4 x5))))))) else zX3_nearest_s32_175 k35 k81 q8 x1 x2 x3 x4 x5))) else zX3_nearest_s32_175 k35 k81 q3 x1 x2 x3 x4 x5)))
noncomputable def zX3_nearest_s32_81 (k35 : dK → Int32 → Int32 → Int32 → Option (Int32 × dK)) (n : Nat) (q : dK) (x1 : Int32) (x2 : Int32) (x3 : Int32) (x4 : Int32) (x5 : Int32) : Option (Int32 × dK) := dFix (α := dK × Int32 × Int32 × Int32 × Int32 × Int32) (fun k a => zX3_nearest_s32_81b k35 (fun q x1 x2 x3 x4 x5 => k (q, x1, x2, x3, x4, x5)) a.1 a.2.1 a.2.2.1 a.2.2.2.1 a.2.2.2.2.1 a.2.2.2.2.2) n (q, x1, x2, x3, x4, x5)
noncomputable def zX3_nearest_s32_35b (k35 : dK → Int32 → Int32 → Int32 → Option (Int32 × dK)) (q : dK) (x1 : Int32) (x2 : Int32) (x3 : Int32) : Option (Int32 × dK) := if (q.1 32 14) ≤ x3 then zX3_nearest_s32_187  q else if (q.1 32 19) ≤ x3 then zX3_nearest_s32_187  q else dG (dg x3 (Int32.toNatClampNeg (q.1 32 105))) (dL (q.1 44 (Int32.toNatClampNeg x3)) (fun v2 => dB (zX3_fits_s32 q v2 x1 x2) (fun r3 q5 => if r3 = 0 then zX3_nearest_s32_81 k35 dF q5 x1 x2 x3 v2 1 else dG (dg v2 (Int32.toNatClampNeg (q5.1 32 104))) (dL (q5.1 43 (Int32.toNatClampNeg v2)) (fun v7 => some (v7, q5))))))
noncomputable def zX3_nearest_s32_35  (n : Nat) (q : dK) (x1 : Int32) (x2 : Int32) (x3 : Int32) : Option (Int32 × dK) := dFix (α := dK × Int32 × Int32 × Int32) (fun k a => zX3_nearest_s32_35b  (fun q x1 x2 x3 => k (q, x1, x2, x3)) a.1 a.2.1 a.2.2.1 a.2.2.2) n (q, x1, x2, x3)
noncomputable def zX3_nearest_s32 (q : dK) (p1 : Int32) (p2 : Int32) : Option (Int32 × dK) := dL (cfi q 43 (Int32.toNatClampNeg (q.1 32 104)) (-1)) (fun q1 => dG (dg (q1.1 32 15) (Int32.toNatClampNeg (q1.1 32 104))) (dL (cui q1 43 (Int32.toNatClampNeg (q1.1 32 15)) 0) (fun q3 => dG (dg 0 (Int32.toNatClampNeg (q3.1 32 105))) (dL (cui q3 44 0 (q3.1 32 15)) (fun q5 => dL (cui q5 32 19 1) (fun q6 => zX3_nearest_s32_35  dF q6 p1 p2 0))))))
noncomputable def zX3_towersReached_s32 (q : dK)  : Option (Int32 × dK) := dB (zX3_nearest_s32 q 0 0) (fun r1 q3 => some (q3.1 32 19, q3))
noncomputable def zX9_reach_s0 (nc : Nat) (ns : Nat) (q : dK)  : Option (Int32 × dK) := dV (zX9_seated_s0 q ) (fun q3 => dV (zX9_spread_s0_s20 nc ns q3 ) (fun q6 => dB (zX3_towersReached_s32 q6 ) (fun r7 q9 => some (r7, q9))))
noncomputable def zX9_gaps_s0 (q : dK)  : Option (Int32 × dK) := dB (zX8_gapCount_s2 q ) (fun r1 q3 => some (r1, q3))
noncomputable def zX3_turnsToNumber_s32_105  (q : dK)  : Option (Int32 × dK) := some ((-1), q)
noncomputable def zX3_turnsToNumber_s32_83 (k13 : dK → Int32 → Int32 → Int32 → Option (Int32 × dK)) (q : dK) (x2 : Int32) (x3 : Int32) (x4 : Int32) : Option (Int32 × dK) := k13 q x2 x3 (x4 + (-1))
noncomputable def zX3_turnsToNumber_s32_81 (k13 : dK → Int32 → Int32 → Int32 → Option (Int32 × dK)) (q : dK) (x2 : Int32) (x4 : Int32) (y0 : Int32) (y1 : Int32) : Option (Int32 × dK) := zX3_turnsToNumber_s32_83 k13 q x2 (y1 ||| y0) x4
noncomputable def zX3_turnsToNumber_s32_13b (k13 : dK → Int32 → Int32 → Int32 → Option (Int32 × dK)) (q : dK) (x2 : Int32) (x3 : Int32) (x4 : Int32) : Option (Int32 × dK) := if x4 < 0 then if x2 = 0 then if x3 = ((1 <<< ((q.1 32 13 : Int32) &&& 31) : Int32) - 1 : Int32) then dB (zX3_numberOfOrder_s32 q ) (fun r1 q3 => dB (zX3_nearest_s32 q3 1 r1) (fun r4 q6 => some (r4, q6))) else zX3_turnsToNumber_s32_105  q else zX3_turnsToNumber_s32_105  q else dG (dg x4 6) (dL (cui q 34 (Int32.toNatClampNeg x4) x4) (fun q8 => if (q8.1 32 13) ≤ x4 then zX3_turnsToNumber_s32_83 k13 q8 x2 x3 x4 else dB (zX3_indexOfRank_s32 q8 (x2 - x2 / 10 * 10 : Int32)) (fun r9 q11 => dG (dg x4 6) (dL (cui q11 34 (Int32.toNatClampNeg x4) r9) (fun q13 => dG (dg x4 6) (dL (q13.1 34 (Int32.toNatClampNeg x4)) (fun v15 => if v15 = (-1) then zX3_turnsToNumber_s32_81 k13 q13 (x2 / 10 : Int32) x4 0 x3 else dG (dg x4 6) (dL (q13.1 34 (Int32.toNatClampNeg x4)) (fun v17 => zX3_turnsToNumber_s32_81 k13 q13 (x2 / 10 : Int32) x4 (1 <<< ((v17 : Int32) &&& 31) : Int32) x3)))))))))
noncomputable def zX3_turnsToNumber_s32_13  (n : Nat) (q : dK) (x2 : Int32) (x3 : Int32) (x4 : Int32) : Option (Int32 × dK) := dFix (α := dK × Int32 × Int32 × Int32) (fun k a => zX3_turnsToNumber_s32_13b  (fun q x2 x3 x4 => k (q, x2, x3, x4)) a.1 a.2.1 a.2.2.1 a.2.2.2) n (q, x2, x3, x4)
noncomputable def zX3_turnsToNumber_s32 (q : dK) (p1 : Int32) : Option (Int32 × dK) := if 0 ≤ p1 then zX3_turnsToNumber_s32_13  dF q p1 0 5 else some ((-1), q)
noncomputable def zX9_comes_s0 (nc : Nat) (ns : Nat) (q : dK) (p1 : Int32) : Option (Int32 × dK) := dV (zX9_seated_s0 q ) (fun q3 => dV (zX9_spread_s0_s20 nc ns q3 ) (fun q6 => dB (zX3_turnsToNumber_s32 q6 p1) (fun r7 q9 => some (r7, q9))))
noncomputable def zX3_turnsToTop_s32 (q : dK) (p1 : Int32) : Option (Int32 × dK) := dB (zX3_indexOfRank_s32 q p1) (fun r1 q3 => dB (zX3_nearest_s32 q3 2 r1) (fun r4 q6 => some (r4, q6)))
noncomputable def zX9_view_s0 (nc : Nat) (ns : Nat) (q : dK) (p1 : Int32) : Option (Int32 × dK) := dB (zX8_has_s2 q p1) (fun r1 q3 => if r1 = 0 then some ((-1), q3) else dV (zX9_seated_s0 q3 ) (fun q6 => dV (zX9_spread_s0_s20 nc ns q6 ) (fun q9 => dB (zX3_turnsToTop_s32 q9 p1) (fun r10 q12 => some (r10, q12)))))
noncomputable def zX8_rises_s2_61 (k5 : dK → Int32 → Int32 → Int32 → Int32 → Option (Int32 × dK)) (q : dK) (x1 : Int32) (x2 : Int32) (x3 : Int32) (x4 : Int32) : Option (Int32 × dK) := k5 q x1 x2 x3 (x4 + 1)
noncomputable def zX8_rises_s2_53 (k5 : dK → Int32 → Int32 → Int32 → Int32 → Option (Int32 × dK)) (q : dK) (x1 : Int32) (x2 : Int32) (x4 : Int32) : Option (Int32 × dK) := dG (dg x4 6) (dL (q.1 3 (Int32.toNatClampNeg x4)) (fun v2 => zX8_rises_s2_61 k5 q x1 x2 v2 x4))
noncomputable def zX8_rises_s2_51  (q : dK)  : Option (Int32 × dK) := some (0, q)
noncomputable def zX8_rises_s2_5b (k5 : dK → Int32 → Int32 → Int32 → Int32 → Option (Int32 × dK)) (q : dK) (x1 : Int32) (x2 : Int32) (x3 : Int32) (x4 : Int32) : Option (Int32 × dK) := if (q.1 2 2) ≤ x4 then some (1, q) else if ((x1 >>> ((x4 : Int32) &&& 31)) &&& 1 : Int32) = 1 then dG (dg x4 6) (dL (q.1 3 (Int32.toNatClampNeg x4)) (fun v2 => if v2 < x3 then zX8_rises_s2_51  q else if x2 = 1 then dG (dg x4 6) (dL (q.1 4 (Int32.toNatClampNeg x4)) (fun v4 => if v4 = 1 then zX8_rises_s2_51  q else zX8_rises_s2_53 k5 q x1 x2 x4)) else zX8_rises_s2_53 k5 q x1 x2 x4)) else zX8_rises_s2_61 k5 q x1 x2 x3 x4
noncomputable def zX8_rises_s2_5  (n : Nat) (q : dK) (x1 : Int32) (x2 : Int32) (x3 : Int32) (x4 : Int32) : Option (Int32 × dK) := dFix (α := dK × Int32 × Int32 × Int32 × Int32) (fun k a => zX8_rises_s2_5b  (fun q x1 x2 x3 x4 => k (q, x1, x2, x3, x4)) a.1 a.2.1 a.2.2.1 a.2.2.2.1 a.2.2.2.2) n (q, x1, x2, x3, x4)
noncomputable def zX8_rises_s2 (q : dK) (p1 : Int32) (p2 : Int32) : Option (Int32 × dK) := zX8_rises_s2_5  dF q p1 p2 (-1) 0
noncomputable def zX9_stays_s0_81  (q : dK) (y0 : Int32) : Option (Int32 × dK) := some (y0, q)
noncomputable def zX9_stays_s0_63 (k13 : dK → Int32 → Int32 → Int32 → Option (Int32 × dK)) (q : dK) (x1 : Int32) (x2 : Int32) (x3 : Int32) : Option (Int32 × dK) := k13 q x1 x2 (x3 + 1)
noncomputable def zX9_stays_s0_13b (k13 : dK → Int32 → Int32 → Int32 → Option (Int32 × dK)) (q : dK) (x1 : Int32) (x2 : Int32) (x3 : Int32) : Option (Int32 × dK) := if (1 <<< ((q.1 2 2 : Int32) &&& 31) : Int32) ≤ x3 then if x1 = 0 then dV (zJ6_bitCount_0f7a4 x2) (fun r1 => zX9_stays_s0_81  q r1) else zX9_stays_s0_81  q x2 else dV (zJ6_bitCount_0f7a4 x3) (fun r3 => dV (zJ6_bitCount_0f7a4 x2) (fun r5 => if r3 ≤ r5 then zX9_stays_s0_63 k13 q x1 x2 x3 else dB (zX8_rises_s2 q x3 (q.1 1 3)) (fun r7 q9 => if r7 = 0 then zX9_stays_s0_63 k13 q9 x1 x2 x3 else zX9_stays_s0_63 k13 q9 x1 x3 x3)))
noncomputable def zX9_stays_s0_13  (n : Nat) (q : dK) (x1 : Int32) (x2 : Int32) (x3 : Int32) : Option (Int32 × dK) := dFix (α := dK × Int32 × Int32 × Int32) (fun k a => zX9_stays_s0_13b  (fun q x1 x2 x3 => k (q, x1, x2, x3)) a.1 a.2.1 a.2.2.1 a.2.2.2) n (q, x1, x2, x3)
noncomputable def zX9_stays_s0 (q : dK) (p1 : Int32) : Option (Int32 × dK) := dV (zX9_isBit p1) (fun r1 => if r1 = 0 then some ((-1), q) else zX9_stays_s0_13  dF q p1 0 1)
noncomputable def zX9_seen_s0_17  (q : dK)  : Option (Int32 × dK) := dB (zX9_refuse_s0 q (-1)) (fun r1 q3 => some (r1, q3))
noncomputable def zX9_seen_s0 (q : dK) (p1 : Int32) (p2 : Int32) : Option (Int32 × dK) := if p1 < 0 then zX9_seen_s0_17  q else if 6 ≤ p1 then zX9_seen_s0_17  q else dV (zX9_isRank p2) (fun r1 => if r1 = 0 then zX9_seen_s0_17  q else if (q.1 1 6) < 6 then dG (dg (q.1 1 6) 6) (dL (cui q 5 (Int32.toNatClampNeg (q.1 1 6)) p1) (fun q4 => dG (dg (q4.1 1 6) 6) (dL (cui q4 6 (Int32.toNatClampNeg (q4.1 1 6)) p2) (fun q6 => dL (cui q6 1 6 ((q6.1 1 6) + 1 : Int32)) (fun q7 => dB (zX9_accept_s0 q7 (q7.1 1 6)) (fun r8 q10 => some (r8, q10))))))) else dB (zX9_refuse_s0 q (-5)) (fun r11 q13 => some (r11, q13)))
noncomputable def zX9_forget_s0 (q : dK)  : Option (Int32 × dK) := dL (cui q 1 6 0) (fun q1 => some (q.1 1 6, q1))
noncomputable def zX8_rankBehindTurn_s2_33  (q : dK) (y0 : Int32) : Option (Int32 × dK) := some (y0, q)
noncomputable def zX8_rankBehindTurn_s2_14  (q : dK) (y0 : Int32) : Option (Int32 × dK) := dB (zX8_isFloor_s2 q y0) (fun r1 q3 => if r1 = 0 then zX8_rankBehindTurn_s2_33  q3 (-1) else dG (dg y0 6) (dL (q3.1 3 (Int32.toNatClampNeg y0)) (fun v5 => zX8_rankBehindTurn_s2_33  q3 v5)))
noncomputable def zX8_rankBehindTurn_s2 (q : dK) (p1 : Int32) (p2 : Int32) : Option (Int32 × dK) := if p1 ≤ p2 then zX8_rankBehindTurn_s2_14  q p2 else zX8_rankBehindTurn_s2_14  q ((p1 - 1 : Int32) - p2)
noncomputable def zX6_agrees_s1_2b (k2 : dK → Int32 → Int32 → Option (Int32 × dK)) (q : dK) (x1 : Int32) (x2 : Int32) : Option (Int32 × dK) := if (q.1 1 6) ≤ x2 then some (1, q) else dG (dg x2 6) (dL (q.1 5 (Int32.toNatClampNeg x2)) (fun v2 => dB (zX8_rankBehindTurn_s2 q x1 v2) (fun r3 q5 => dG (dg x2 6) (dL (q5.1 6 (Int32.toNatClampNeg x2)) (fun v7 => if r3 = v7 then k2 q5 x1 (x2 + 1) else some (0, q5))))))
noncomputable def zX6_agrees_s1_2  (n : Nat) (q : dK) (x1 : Int32) (x2 : Int32) : Option (Int32 × dK) := dFix (α := dK × Int32 × Int32) (fun k a => zX6_agrees_s1_2b  (fun q x1 x2 => k (q, x1, x2)) a.1 a.2.1 a.2.2) n (q, x1, x2)
noncomputable def zX6_agrees_s1 (q : dK) (p1 : Int32) : Option (Int32 × dK) := zX6_agrees_s1_2  dF q p1 0
noncomputable def zX9_was_s0_55 (k9 : dK → Int32 → Int32 → Option (Int32 × dK)) (q : dK) (x2 : Int32) (x3 : Int32) : Option (Int32 × dK) := k9 q x2 (x3 + 1)
noncomputable def zX9_was_s0_9b (k9 : dK → Int32 → Int32 → Option (Int32 × dK)) (q : dK) (x2 : Int32) (x3 : Int32) : Option (Int32 × dK) := if (q.1 2 2) < x3 then some (x2, q) else dB (zX1_bars_s20_s2 q x3) (fun r1 q3 => if r1 = 0 then dB (zX6_agrees_s1 q3 x3) (fun r4 q6 => if r4 = 0 then zX9_was_s0_55 k9 q6 x2 x3 else zX9_was_s0_55 k9 q6 (x2 ||| (1 <<< ((x3 : Int32) &&& 31) : Int32)) x3) else zX9_was_s0_55 k9 q3 x2 x3)
noncomputable def zX9_was_s0_9  (n : Nat) (q : dK) (x2 : Int32) (x3 : Int32) : Option (Int32 × dK) := dFix (α := dK × Int32 × Int32) (fun k a => zX9_was_s0_9b  (fun q x2 x3 => k (q, x2, x3)) a.1 a.2.1 a.2.2) n (q, x2, x3)
noncomputable def zX9_was_s0 (q : dK)  : Option (Int32 × dK) := dV (zX9_seated_s0 q ) (fun q3 => zX9_was_s0_9  dF q3 0 1)
noncomputable def zX8_mostAlike_s2_56 (k5 : dK → Int32 → Int32 → Int32 → Int32 → Option (Int32 × dK)) (k18 : dK → Int32 → Int32 → Int32 → Int32 → Int32 → Int32 → Option (Int32 × dK)) (q : dK) (x1 : Int32) (x2 : Int32) (x3 : Int32) (x4 : Int32) (x6 : Int32) (y0 : Int32) (y1 : Int32) : Option (Int32 × dK) := dV (zX9_bit y0) (fun r1 => k18 q x1 x2 x3 x4 (y1 + r1) (x6 + 1))
noncomputable def zX8_mostAlike_s2_55 (k5 : dK → Int32 → Int32 → Int32 → Int32 → Option (Int32 × dK)) (k18 : dK → Int32 → Int32 → Int32 → Int32 → Int32 → Int32 → Option (Int32 × dK)) (q : dK) (x1 : Int32) (x2 : Int32) (x3 : Int32) (x4 : Int32) (x6 : Int32) (y0 : Int32) : Option (Int32 × dK) := zX8_mostAlike_s2_56 k5 k18 q x1 x2 x3 x4 x6 0 y0
noncomputable def zX8_mostAlike_s2_18b (k5 : dK → Int32 → Int32 → Int32 → Int32 → Option (Int32 × dK)) (k18 : dK → Int32 → Int32 → Int32 → Int32 → Int32 → Int32 → Option (Int32 × dK)) (q : dK) (x1 : Int32) (x2 : Int32) (x3 : Int32) (x4 : Int32) (x5 : Int32) (x6 : Int32) : Option (Int32 × dK) := if (q.1 2 2) < x6 then k5 q x1 x2 (mxI x3 x5) (x4 + 1) else if ((x1 >>> ((x6 : Int32) &&& 31)) &&& 1 : Int32) = 1 then dB (zX8_rankBehindTurn_s2 q x6 x2) (fun r1 q3 => if r1 = x4 then zX8_mostAlike_s2_56 k5 k18 q3 x1 x2 x3 x4 x6 1 x5 else zX8_mostAlike_s2_55 k5 k18 q3 x1 x2 x3 x4 x6 x5) else zX8_mostAlike_s2_55 k5 k18 q x1 x2 x3 x4 x6 x5
noncomputable def zX8_mostAlike_s2_18 (k5 : dK → Int32 → Int32 → Int32 → Int32 → Option (Int32 × dK)) (n : Nat) (q : dK) (x1 : Int32) (x2 : Int32) (x3 : Int32) (x4 : Int32) (x5 : Int32) (x6 : Int32) : Option (Int32 × dK) := dFix (α := dK × Int32 × Int32 × Int32 × Int32 × Int32 × Int32) (fun k a => zX8_mostAlike_s2_18b k5 (fun q x1 x2 x3 x4 x5 x6 => k (q, x1, x2, x3, x4, x5, x6)) a.1 a.2.1 a.2.2.1 a.2.2.2.1 a.2.2.2.2.1 a.2.2.2.2.2.1 a.2.2.2.2.2.2) n (q, x1, x2, x3, x4, x5, x6)
noncomputable def zX8_mostAlike_s2_5b (k5 : dK → Int32 → Int32 → Int32 → Int32 → Option (Int32 × dK)) (q : dK) (x1 : Int32) (x2 : Int32) (x3 : Int32) (x4 : Int32) : Option (Int32 × dK) := if 6 ≤ x4 then some (x3, q) else zX8_mostAlike_s2_18 k5 dF q x1 x2 x3 x4 0 1
noncomputable def zX8_mostAlike_s2_5  (n : Nat) (q : dK) (x1 : Int32) (x2 : Int32) (x3 : Int32) (x4 : Int32) : Option (Int32 × dK) := dFix (α := dK × Int32 × Int32 × Int32 × Int32) (fun k a => zX8_mostAlike_s2_5b  (fun q x1 x2 x3 x4 => k (q, x1, x2, x3, x4)) a.1 a.2.1 a.2.2.1 a.2.2.2.1 a.2.2.2.2) n (q, x1, x2, x3, x4)
noncomputable def zX8_mostAlike_s2 (q : dK) (p1 : Int32) (p2 : Int32) : Option (Int32 × dK) := zX8_mostAlike_s2_5  dF q p1 p2 0 0
noncomputable def zX9_look_s0_97  (q : dK) (y0 : Int32) : Option (Int32 × dK) := some (y0, q)
noncomputable def zX9_look_s0_81 (k37 : dK → Int32 → Int32 → Int32 → Int32 → Int32 → Option (Int32 × dK)) (q : dK) (x1 : Int32) (x2 : Int32) (x3 : Int32) (x4 : Int32) (x5 : Int32) : Option (Int32 × dK) := k37 q x1 x2 x3 x4 (x5 + 1)
noncomputable def zX9_look_s0_37b (k37 : dK → Int32 → Int32 → Int32 → Int32 → Int32 → Option (Int32 × dK)) (q : dK) (x1 : Int32) (x2 : Int32) (x3 : Int32) (x4 : Int32) (x5 : Int32) : Option (Int32 × dK) := if (q.1 2 2) ≤ x5 then if x1 = 0 then zX9_look_s0_97  q x3 else zX9_look_s0_97  q x4 else dB (zX8_mostAlike_s2 q x2 x5) (fun r1 q3 => if x4 ≤ r1 then zX9_look_s0_81 k37 q3 x1 x2 x3 x4 x5 else zX9_look_s0_81 k37 q3 x1 x2 x5 r1 x5)
noncomputable def zX9_look_s0_37  (n : Nat) (q : dK) (x1 : Int32) (x2 : Int32) (x3 : Int32) (x4 : Int32) (x5 : Int32) : Option (Int32 × dK) := dFix (α := dK × Int32 × Int32 × Int32 × Int32 × Int32) (fun k a => zX9_look_s0_37b  (fun q x1 x2 x3 x4 x5 => k (q, x1, x2, x3, x4, x5)) a.1 a.2.1 a.2.2.1 a.2.2.2.1 a.2.2.2.2.1 a.2.2.2.2.2) n (q, x1, x2, x3, x4, x5)
noncomputable def zX9_look_s0_16  (q : dK)  : Option (Int32 × dK) := some ((-1), q)
noncomputable def zX9_look_s0 (q : dK) (p1 : Int32) : Option (Int32 × dK) := dB (zX9_was_s0 q ) (fun r1 q3 => if r1 = 0 then zX9_look_s0_16  q3 else dV (zX9_isBit p1) (fun r4 => if r4 = 0 then zX9_look_s0_16  q3 else dB (zX8_mostAlike_s2 q3 r1 0) (fun r6 q8 => zX9_look_s0_37  dF q8 p1 r1 0 r6 1)))
noncomputable def zX9_few_s0_146b (k146 : dK → Int32 → Int64 → Int32 → Option (Int64 × dK)) (q : dK) (x1 : Int32) (x3 : Int64) (x5 : Int32) : Option (Int64 × dK) := if x1 ≤ x5 then some (x3, q) else dG (dg x5 20) (dL (q.2.1 47 (Int32.toNatClampNeg x5)) (fun v2 => k146 q x1 (x3 + v2 : Int64) (x5 + 1)))
noncomputable def zX9_few_s0_146  (n : Nat) (q : dK) (x1 : Int32) (x3 : Int64) (x5 : Int32) : Option (Int64 × dK) := dFix (α := dK × Int32 × Int64 × Int32) (fun k a => zX9_few_s0_146b  (fun q x1 x3 x5 => k (q, x1, x3, x5)) a.1 a.2.1 a.2.2.1 a.2.2.2) n (q, x1, x3, x5)
noncomputable def zX9_few_s0_115 (k44 : dK → Int32 → Int32 → Int32 → Option (Int64 × dK)) (k54 : dK → Int32 → Int32 → Int32 → Int32 → Option (Int64 × dK)) (q : dK) (x1 : Int32) (x2 : Int32) (x3 : Int32) (x4 : Int32) (x5 : Int64) (y0 : Int64) : Option (Int64 × dK) := dG (dg x4 20) (dL (cul q 47 (Int32.toNatClampNeg x4) (x5 + y0 : Int64)) (fun q2 => k54 q2 x1 x2 x3 (x4 + (-1))))
noncomputable def zX9_few_s0_54b (k44 : dK → Int32 → Int32 → Int32 → Option (Int64 × dK)) (k54 : dK → Int32 → Int32 → Int32 → Int32 → Option (Int64 × dK)) (q : dK) (x1 : Int32) (x2 : Int32) (x3 : Int32) (x4 : Int32) : Option (Int64 × dK) := if x4 < 0 then k44 q x1 x2 (x3 + 1) else dG (dg x4 20) (dL (q.2.1 47 (Int32.toNatClampNeg x4)) (fun v2 => dL ((v2 * (Int32.toInt64 (10 - (q.1 1 1) : Int32)) : Int64) / 10 : Int64) (fun v3 => if x4 = 0 then zX9_few_s0_115 k44 k54 q x1 x2 x3 x4 v3 0 else dG (dg (x4 - 1 : Int32) 20) (dL (q.2.1 47 (Int32.toNatClampNeg (x4 - 1 : Int32))) (fun v5 => zX9_few_s0_115 k44 k54 q x1 x2 x3 x4 v3 ((v5 * (Int32.toInt64 (q.1 1 1)) : Int64) / 10 : Int64))))))
noncomputable def zX9_few_s0_54 (k44 : dK → Int32 → Int32 → Int32 → Option (Int64 × dK)) (n : Nat) (q : dK) (x1 : Int32) (x2 : Int32) (x3 : Int32) (x4 : Int32) : Option (Int64 × dK) := dFix (α := dK × Int32 × Int32 × Int32 × Int32) (fun k a => zX9_few_s0_54b k44 (fun q x1 x2 x3 x4 => k (q, x1, x2, x3, x4)) a.1 a.2.1 a.2.2.1 a.2.2.2.1 a.2.2.2.2) n (q, x1, x2, x3, x4)
noncomputable def zX9_few_s0_44b (k44 : dK → Int32 → Int32 → Int32 → Option (Int64 × dK)) (q : dK) (x1 : Int32) (x2 : Int32) (x3 : Int32) : Option (Int64 × dK) := if x2 ≤ x3 then zX9_few_s0_146  dF q x1 0 0 else zX9_few_s0_54 k44 dF q x1 x2 x3 (x1 - 1 : Int32)
noncomputable def zX9_few_s0_44  (n : Nat) (q : dK) (x1 : Int32) (x2 : Int32) (x3 : Int32) : Option (Int64 × dK) := dFix (α := dK × Int32 × Int32 × Int32) (fun k a => zX9_few_s0_44b  (fun q x1 x2 x3 => k (q, x1, x2, x3)) a.1 a.2.1 a.2.2.1 a.2.2.2) n (q, x1, x2, x3)
noncomputable def zX9_few_s0_21  (q : dK)  : Option (Int64 × dK) := some ((-1), q)
noncomputable def zX9_few_s0 (q : dK) (p1 : Int32) (p2 : Int32) : Option (Int64 × dK) := if p1 < 1 then zX9_few_s0_21  q else if 20 < p1 then zX9_few_s0_21  q else if p2 < 0 then zX9_few_s0_21  q else if p2 ≤ 99 then dL (cfl q 47 20 0) (fun q1 => dL (cul q1 47 0 1000000000000) (fun q2 => zX9_few_s0_44  dF q2 p1 p2 0)) else zX9_few_s0_21  q
noncomputable def zX9_compare_s0_18 (nc : Nat) (ns : Nat)  (q : dK) (x1 : Int32) : Option (Int32 × dK) := dB (zX6_lawAt_s1 q x1) (fun r1 q3 => if r1 = 0 then dV (zX1_seat_s20_n q3 (q3.1 1 2)) (fun q7 => dV (zX9_spread_s0_s20 nc ns q7 ) (fun q10 => dB (zX3_turnsToOrder_s32 q10 ) (fun r11 q13 => some (r11, q13)))) else dV (zX1_seat_s20_l q3 r1 (q3.1 1 2)) (fun q16 => dV (zX9_spread_s0_s20 nc ns q16 ) (fun q19 => dB (zX3_turnsToOrder_s32 q19 ) (fun r20 q22 => some (r20, q22)))))
noncomputable def zX9_compare_s0 (nc : Nat) (ns : Nat) (q : dK) (p1 : Int32) : Option (Int32 × dK) := if p1 = (-1) then zX9_compare_s0_18 nc ns  q p1 else dB (zX6_isLaw_s1 q p1) (fun r1 q3 => if r1 = 0 then some ((-1), q3) else zX9_compare_s0_18 nc ns  q3 p1)
noncomputable def zX8_unpack_s15_31b (k31 : dK → Int64 → Int32 → Option (dK)) (q : dK) (x3 : Int64) (x5 : Int32) : Option (dK) := if x5 < 0 then dL (cui q 15 2 (mnI 6 (Int64.toInt32 x3))) (fun q1 => some q1) else dG (dg x5 6) (dL (cui q 17 (Int32.toNatClampNeg x5) (Int64.toInt32 (x3 &&& 1 : Int64))) (fun q3 => dG (dg x5 6) (dL (cui q3 16 (Int32.toNatClampNeg x5) (Int64.toInt32 ((x3 >>> (Int32.toInt64 (1 : Int32) &&& 63)) &&& 7 : Int64))) (fun q5 => k31 q5 (x3 >>> (Int32.toInt64 (4 : Int32) &&& 63)) (x5 + (-1))))))
noncomputable def zX8_unpack_s15_31  (n : Nat) (q : dK) (x3 : Int64) (x5 : Int32) : Option (dK) := dFix (α := dK × Int64 × Int32) (fun k a => zX8_unpack_s15_31b  (fun q x3 x5 => k (q, x3, x5)) a.1 a.2.1 a.2.2) n (q, x3, x5)
noncomputable def zX8_unpack_s15 (q : dK) (p1 : Int64) : Option (dK) := dL (cui q 15 4 (Int64.toInt32 (p1 &&& 1023 : Int64))) (fun q1 => dL ((p1 >>> (Int32.toInt64 (10 : Int32) &&& 63)) &&& 16383 : Int64) (fun v2 => dL (cui q1 15 3 (Int64.toInt32 v2)) (fun q3 => zX8_unpack_s15_31  dF q3 (p1 >>> (Int32.toInt64 (24 : Int32) &&& 63)) 5)))
noncomputable def zX9_nextDraw (p1 : Int32) : Option (Int32) := dL ((((Int32.toInt64 p1) * 1103 : Int64) + 12345 : Int64) - (((Int32.toInt64 p1) * 1103 : Int64) + 12345 : Int64) / 1000003 * 1000003 : Int64) (fun v1 => some (Int64.toInt32 v1))
noncomputable def zX8_isFloor_s15_17  (q : dK) (y0 : Int32) : Option (Int32 × dK) := dG (dbl y0) (some (y0, q))
noncomputable def zX8_isFloor_s15_16  (q : dK)  : Option (Int32 × dK) := zX8_isFloor_s15_17  q 0
noncomputable def zX8_isFloor_s15 (q : dK) (p1 : Int32) : Option (Int32 × dK) := if p1 < 0 then zX8_isFloor_s15_16  q else if (q.1 15 2) ≤ p1 then zX8_isFloor_s15_16  q else zX8_isFloor_s15_17  q 1
noncomputable def zX8_tell_s15_36  (q : dK) (y0 : Int32) : Option (Int32 × dK) := some (y0, q)
noncomputable def zX8_tell_s15_15  (q : dK)  : Option (Int32 × dK) := some ((-1), q)
noncomputable def zX8_tell_s15 (q : dK) (p1 : Int32) (p2 : Int32) : Option (Int32 × dK) := dB (zX8_isFloor_s15 q p1) (fun r1 q3 => if r1 = 0 then zX8_tell_s15_15  q3 else dV (zX9_isBit p2) (fun r4 => if r4 = 0 then zX8_tell_s15_15  q3 else if p2 = 0 then dG (dg p1 6) (dL (q3.1 16 (Int32.toNatClampNeg p1)) (fun v9 => zX8_tell_s15_36  q3 v9)) else dG (dg p1 6) (dL (q3.1 17 (Int32.toNatClampNeg p1)) (fun v7 => zX8_tell_s15_36  q3 v7))))
noncomputable def zX1_setTurn_s20_s15 (q : dK) (p2 : Int32) : Option (dK) := dV (zX1_setCommon_s20 q (q.1 15 2) (q.1 15 4)) (fun q3 => dB (zX8_tell_s15 q3 0 0) (fun r4 q6 => dB (zX8_tell_s15 q6 p2 0) (fun r7 q9 => dB (zX8_tell_s15 q9 0 1) (fun r10 q12 => dV (zX1_setGrip_s20 q12 p2 r4 r7 r10) (fun q15 => some q15)))))
noncomputable def zX1_bars_s20_s15 (q : dK) (p2 : Int32) : Option (Int32 × dK) := dV (zX1_setTurn_s20_s15 q p2) (fun q3 => dB (zX1_anyHolds_s20 q3 1) (fun r4 q6 => dG (dbl r4) (some (r4, q6))))
noncomputable def zX1_payOf_s20_s15 (q : dK) (p2 : Int32) : Option (Int32 × dK) := dV (zX1_setTurn_s20_s15 q p2) (fun q3 => dB (zX1_pay_s20 q3 ) (fun r4 q6 => some (r4, q6)))
noncomputable def zX8_exchange_s15 (q : dK) (p1 : Int32) (p2 : Int32) : Option (dK) := dG (dg p1 6) (dL (q.1 16 (Int32.toNatClampNeg p1)) (fun v2 => dG (dg p1 6) (dL (q.1 17 (Int32.toNatClampNeg p1)) (fun v4 => dG (dg p2 6) (dL (q.1 16 (Int32.toNatClampNeg p2)) (fun v6 => dG (dg p1 6) (dL (cui q 16 (Int32.toNatClampNeg p1) v6) (fun q8 => dG (dg p2 6) (dL (q8.1 17 (Int32.toNatClampNeg p2)) (fun v10 => dG (dg p1 6) (dL (cui q8 17 (Int32.toNatClampNeg p1) v10) (fun q12 => dG (dg p2 6) (dL (cui q12 16 (Int32.toNatClampNeg p2) v2) (fun q14 => dG (dg p2 6) (dL (cui q14 17 (Int32.toNatClampNeg p2) v4) (fun q16 => some q16))))))))))))))))
noncomputable def zX8_turnTop_s15_s20_75b (k75 : dK → Int32 → Int32 → Int32 → Option (Int32 × dK)) (q : dK) (x1 : Int32) (x3 : Int32) (x4 : Int32) : Option (Int32 × dK) := if x1 ≤ x4 then dL (cui q 15 3 (mnI 9999 ((q.1 15 3) + x3))) (fun q1 => some (x3, q1)) else dG (dg x4 6) (dL (q.1 17 (Int32.toNatClampNeg x4)) (fun v3 => dG (dg x4 6) (dL (cui q 17 (Int32.toNatClampNeg x4) (1 - v3 : Int32)) (fun q5 => k75 q5 x1 x3 (x4 + 1)))))
noncomputable def zX8_turnTop_s15_s20_75  (n : Nat) (q : dK) (x1 : Int32) (x3 : Int32) (x4 : Int32) : Option (Int32 × dK) := dFix (α := dK × Int32 × Int32 × Int32) (fun k a => zX8_turnTop_s15_s20_75b  (fun q x1 x3 x4 => k (q, x1, x3, x4)) a.1 a.2.1 a.2.2.1 a.2.2.2) n (q, x1, x3, x4)
noncomputable def zX8_turnTop_s15_s20_48b (k48 : dK → Int32 → Int32 → Int32 → Int32 → Option (Int32 × dK)) (q : dK) (x1 : Int32) (x3 : Int32) (x4 : Int32) (x5 : Int32) : Option (Int32 × dK) := if x5 ≤ x4 then zX8_turnTop_s15_s20_75  dF q x1 x3 0 else dV (zX8_exchange_s15 q x4 x5) (fun q3 => k48 q3 x1 x3 (x4 + 1) (x5 + (-1)))
noncomputable def zX8_turnTop_s15_s20_48  (n : Nat) (q : dK) (x1 : Int32) (x3 : Int32) (x4 : Int32) (x5 : Int32) : Option (Int32 × dK) := dFix (α := dK × Int32 × Int32 × Int32 × Int32) (fun k a => zX8_turnTop_s15_s20_48b  (fun q x1 x3 x4 x5 => k (q, x1, x3, x4, x5)) a.1 a.2.1 a.2.2.1 a.2.2.2.1 a.2.2.2.2) n (q, x1, x3, x4, x5)
noncomputable def zX8_turnTop_s15_s20_30  (q : dK)  : Option (Int32 × dK) := some ((-3), q)
noncomputable def zX8_turnTop_s15_s20_11  (q : dK)  : Option (Int32 × dK) := some ((-1), q)
noncomputable def zX8_turnTop_s15_s20 (q : dK) (p1 : Int32) : Option (Int32 × dK) := if p1 < 1 then zX8_turnTop_s15_s20_11  q else if p1 ≤ 6 then if (q.1 15 2) < p1 then zX8_turnTop_s15_s20_30  q else dB (zX1_bars_s20_s15 q p1) (fun r1 q3 => if r1 = 0 then dB (zX1_payOf_s20_s15 q3 p1) (fun r4 q6 => zX8_turnTop_s15_s20_48  dF q6 p1 r4 0 (p1 - 1 : Int32)) else zX8_turnTop_s15_s20_30  q3) else zX8_turnTop_s15_s20_11  q
noncomputable def zX8_rightAt_s15_10  (q : dK)  : Option (Int32 × dK) := some ((-1), q)
noncomputable def zX8_rightAt_s15 (q : dK) (p1 : Int32) : Option (Int32 × dK) := if p1 < 0 then zX8_rightAt_s15_10  q else if p1 < 6 then dB (zX8_isFloor_s15 q p1) (fun r1 q3 => if r1 = 0 then some ((-3), q3) else dG (dg p1 6) (dL (q3.1 17 (Int32.toNatClampNeg p1)) (fun v5 => dG (dg p1 6) (dL (cui q3 17 (Int32.toNatClampNeg p1) (1 - v5 : Int32)) (fun q7 => dG (dg p1 6) (dL (q7.1 17 (Int32.toNatClampNeg p1)) (fun v9 => some (v9, q7)))))))) else zX8_rightAt_s15_10  q
noncomputable def zX8_swapAt_s15_9  (q : dK)  : Option (Int32 × dK) := some ((-1), q)
noncomputable def zX8_swapAt_s15 (q : dK) (p1 : Int32) : Option (Int32 × dK) := if p1 < 0 then zX8_swapAt_s15_9  q else if p1 < 5 then dB (zX8_isFloor_s15 q (p1 + 1 : Int32)) (fun r1 q3 => if r1 = 0 then some ((-3), q3) else dV (zX8_exchange_s15 q3 p1 (p1 + 1 : Int32)) (fun q6 => dG (dg p1 6) (dL (q6.1 16 (Int32.toNatClampNeg p1)) (fun v8 => some (v8, q6))))) else zX8_swapAt_s15_9  q
noncomputable def zX1_tips_s20_s15 (q : dK) (p2 : Int32) : Option (Int32 × dK) := dB (zX8_isFloor_s15 q p2) (fun r1 q3 => if r1 = 0 then some (0, q3) else dV (zX1_setCommon_s20 q3 (q3.1 15 2) (q3.1 15 4)) (fun q6 => dL (cui q6 21 0 (-1)) (fun q7 => dL (cui q7 21 1 (-1)) (fun q8 => dL (cui q8 21 2 (-1)) (fun q9 => dG (dg p2 6) (dL (q9.1 17 (Int32.toNatClampNeg p2)) (fun v11 => dL (cui q9 21 3 v11) (fun q12 => dG (dg p2 6) (dL (q12.1 16 (Int32.toNatClampNeg p2)) (fun v14 => dL (cui q12 21 5 v14) (fun q15 => dL (cui q15 21 6 p2) (fun q16 => dB (zX1_anyHolds_s20 q16 2) (fun r17 q19 => dG (dbl r17) (some (r17, q19)))))))))))))))
noncomputable def zX8_passYear_s15_s20_47b (k47 : dK → Int32 → Int32 → Option (Int32 × dK)) (q : dK) (x2 : Int32) (x3 : Int32) : Option (Int32 × dK) := if (q.1 15 2) ≤ x3 then dL (cui q 15 4 ((q.1 15 4) + 1 : Int32)) (fun q1 => dV (zJ6_bitCount_0f7a4 x2) (fun r2 => some (r2, q1))) else dG (dg x3 6) (dL (q.1 17 (Int32.toNatClampNeg x3)) (fun v5 => dG (dg x3 6) (dL (cui q 17 (Int32.toNatClampNeg x3) (v5 ^^^ ((x2 >>> ((x3 : Int32) &&& 31)) &&& 1 : Int32))) (fun q7 => k47 q7 x2 (x3 + 1)))))
noncomputable def zX8_passYear_s15_s20_47  (n : Nat) (q : dK) (x2 : Int32) (x3 : Int32) : Option (Int32 × dK) := dFix (α := dK × Int32 × Int32) (fun k a => zX8_passYear_s15_s20_47b  (fun q x2 x3 => k (q, x2, x3)) a.1 a.2.1 a.2.2) n (q, x2, x3)
noncomputable def zX8_passYear_s15_s20_17b (k17 : dK → Int32 → Int32 → Option (Int32 × dK)) (q : dK) (x2 : Int32) (x3 : Int32) : Option (Int32 × dK) := if (q.1 15 2) ≤ x3 then zX8_passYear_s15_s20_47  dF q x2 0 else dB (zX1_tips_s20_s15 q x3) (fun r1 q3 => dV (zX9_bit r1) (fun r4 => k17 q3 (x2 ||| (r4 <<< ((x3 : Int32) &&& 31))) (x3 + 1)))
noncomputable def zX8_passYear_s15_s20_17  (n : Nat) (q : dK) (x2 : Int32) (x3 : Int32) : Option (Int32 × dK) := dFix (α := dK × Int32 × Int32) (fun k a => zX8_passYear_s15_s20_17b  (fun q x2 x3 => k (q, x2, x3)) a.1 a.2.1 a.2.2) n (q, x2, x3)
noncomputable def zX8_passYear_s15_s20 (q : dK)  : Option (Int32 × dK) := if (q.1 15 4) < 999 then zX8_passYear_s15_s20_17  dF q 0 0 else some ((-3), q)
noncomputable def zX8_act_s15_s20 (q : dK) (p1 : Int32) (p2 : Int32) : Option (Int32 × dK) := if p1 = 0 then dB (zX8_turnTop_s15_s20 q p2) (fun r2 q4 => some (r2, q4)) else if p1 = 1 then dB (zX8_rightAt_s15 q p2) (fun r6 q8 => some (r6, q8)) else if p1 = 2 then dB (zX8_swapAt_s15 q p2) (fun r10 q12 => some (r10, q12)) else if p1 = 3 then dB (zX8_passYear_s15_s20 q ) (fun r14 q16 => some (r14, q16)) else some ((-3), q)
noncomputable def zX9_years_s0_172  (q : dK)  : Option (Int32 × dK) := dB (zX9_accept_s0 q ((q.1 15 3) - (q.1 2 3))) (fun r1 q3 => some (r1, q3))
noncomputable def zX9_years_s0_152 (k75 : dK → Int32 → Int32 → Int32 → Option (Int32 × dK)) (q : dK) (x2 : Int32) (x3 : Int32) (x4 : Int32) : Option (Int32 × dK) := dB (zX8_act_s15_s20 q 3 0) (fun r1 q3 => k75 q3 x2 x3 (x4 + 1))
noncomputable def zX9_years_s0_75b (k75 : dK → Int32 → Int32 → Int32 → Option (Int32 × dK)) (q : dK) (x2 : Int32) (x3 : Int32) (x4 : Int32) : Option (Int32 × dK) := if x2 ≤ x4 then zX9_years_s0_172  q else if 999 ≤ (q.1 15 4) then zX9_years_s0_172  q else dV (zX9_nextDraw x3) (fun r1 => dV (zX9_nextDraw r1) (fun r3 => if (r3 - r3 / 3 * 3 : Int32) = 2 then dB (zX8_act_s15_s20 q 1 (r1 - r1 / 6 * 6 : Int32)) (fun r8 q10 => zX9_years_s0_152 k75 q10 x2 r3 x4) else dB (zX8_act_s15_s20 q 0 ((r1 - r1 / 6 * 6 : Int32) + 1 : Int32)) (fun r5 q7 => zX9_years_s0_152 k75 q7 x2 r3 x4)))
noncomputable def zX9_years_s0_75  (n : Nat) (q : dK) (x2 : Int32) (x3 : Int32) (x4 : Int32) : Option (Int32 × dK) := dFix (α := dK × Int32 × Int32 × Int32) (fun k a => zX9_years_s0_75b  (fun q x2 x3 x4 => k (q, x2, x3, x4)) a.1 a.2.1 a.2.2.1 a.2.2.2) n (q, x2, x3, x4)
noncomputable def zX9_years_s0_22  (q : dK)  : Option (Int32 × dK) := dB (zX9_refuse_s0 q (-1)) (fun r1 q3 => some (r1, q3))
noncomputable def zX9_years_s0 (q : dK) (p1 : Int32) (p2 : Int32) : Option (Int32 × dK) := if p1 < 0 then zX9_years_s0_22  q else if 1000000 < p1 then zX9_years_s0_22  q else if p2 < 1 then zX9_years_s0_22  q else if p2 ≤ 60 then if (q.1 2 2) = 0 then dB (zX9_refuse_s0 q (-3)) (fun r10 q12 => some (r10, q12)) else dB (zX8_pack_s2 q ) (fun r1 q3 => dV (zX8_unpack_s15 q3 r1) (fun q6 => dV (zX9_seated_s0 q6 ) (fun q9 => zX9_years_s0_75  dF q9 p2 p1 0))) else zX9_years_s0_22  q
noncomputable def zX9_drawn_s0 (q : dK) (p1 : Int32) (p2 : Int32) : Option (Int32 × dK) := dB (zX8_tell_s15 q p1 p2) (fun r1 q3 => some (r1, q3))
noncomputable def zX9_isImage_14  (y0 : Int32) : Option (Int32) := dG (dbl y0) (some y0)
noncomputable def zX9_isImage_13   : Option (Int32) := zX9_isImage_14  0
noncomputable def zX9_isImage (p1 : Int32) : Option (Int32) := if p1 < 0 then zX9_isImage_13   else if 2 ≤ p1 then zX9_isImage_13   else zX9_isImage_14  1
noncomputable def zX8_unpack_s50_31b (k31 : dK → Int64 → Int32 → Option (dK)) (q : dK) (x3 : Int64) (x5 : Int32) : Option (dK) := if x5 < 0 then dL (cui q 50 2 (mnI 6 (Int64.toInt32 x3))) (fun q1 => some q1) else dG (dg x5 6) (dL (cui q 52 (Int32.toNatClampNeg x5) (Int64.toInt32 (x3 &&& 1 : Int64))) (fun q3 => dG (dg x5 6) (dL (cui q3 51 (Int32.toNatClampNeg x5) (Int64.toInt32 ((x3 >>> (Int32.toInt64 (1 : Int32) &&& 63)) &&& 7 : Int64))) (fun q5 => k31 q5 (x3 >>> (Int32.toInt64 (4 : Int32) &&& 63)) (x5 + (-1))))))
noncomputable def zX8_unpack_s50_31  (n : Nat) (q : dK) (x3 : Int64) (x5 : Int32) : Option (dK) := dFix (α := dK × Int64 × Int32) (fun k a => zX8_unpack_s50_31b  (fun q x3 x5 => k (q, x3, x5)) a.1 a.2.1 a.2.2) n (q, x3, x5)
noncomputable def zX8_unpack_s50 (q : dK) (p1 : Int64) : Option (dK) := dL (cui q 50 4 (Int64.toInt32 (p1 &&& 1023 : Int64))) (fun q1 => dL ((p1 >>> (Int32.toInt64 (10 : Int32) &&& 63)) &&& 16383 : Int64) (fun v2 => dL (cui q1 50 3 (Int64.toInt32 v2)) (fun q3 => zX8_unpack_s50_31  dF q3 (p1 >>> (Int32.toInt64 (24 : Int32) &&& 63)) 5)))
noncomputable def zX6_copyFrom_s49_s1_94b (k94 : dK → Int32 → Option (dK)) (q : dK) (x2 : Int32) : Option (dK) := if 6 ≤ x2 then dL (cui q 49 9 (q.1 1 9)) (fun q1 => some q1) else dG (dg x2 6) (dL (q.1 7 (Int32.toNatClampNeg x2)) (fun v3 => dG (dg x2 6) (if v3 = 0 then dL (cui q 55 (Int32.toNatClampNeg x2) 0) (fun q6 => k94 q6 (x2 + 1)) else dG (dlg q v3) (dL (cui q 55 (Int32.toNatClampNeg x2) v3) (fun q8 => k94 q8 (x2 + 1))))))
noncomputable def zX6_copyFrom_s49_s1_94  (n : Nat) (q : dK) (x2 : Int32) : Option (dK) := dFix (α := dK × Int32) (fun k a => zX6_copyFrom_s49_s1_94b  (fun q x2 => k (q, x2)) a.1 a.2) n (q, x2)
noncomputable def zX6_copyFrom_s49_s1_48b (k48 : dK → Int32 → Option (dK)) (q : dK) (x2 : Int32) : Option (dK) := if 6 ≤ x2 then dL (cui q 49 8 (q.1 1 8)) (fun q1 => zX6_copyFrom_s49_s1_94  dF q1 0) else dG (dg x2 6) (dL (q.1 5 (Int32.toNatClampNeg x2)) (fun v3 => dG (dg x2 6) (dL (cui q 53 (Int32.toNatClampNeg x2) v3) (fun q5 => dG (dg x2 6) (dL (q5.1 6 (Int32.toNatClampNeg x2)) (fun v7 => dG (dg x2 6) (dL (cui q5 54 (Int32.toNatClampNeg x2) v7) (fun q9 => k48 q9 (x2 + 1)))))))))
noncomputable def zX6_copyFrom_s49_s1_48  (n : Nat) (q : dK) (x2 : Int32) : Option (dK) := dFix (α := dK × Int32) (fun k a => zX6_copyFrom_s49_s1_48b  (fun q x2 => k (q, x2)) a.1 a.2) n (q, x2)
noncomputable def zX6_copyFrom_s49_s1 (q : dK)  : Option (dK) := dB (zX8_pack_s2 q ) (fun r1 q3 => dV (zX8_unpack_s50 q3 r1) (fun q6 => dL (cui q6 49 1 (q6.1 1 1)) (fun q7 => dL (cui q7 49 2 (q7.1 1 2)) (fun q8 => dL (cui q8 49 3 (q8.1 1 3)) (fun q9 => dL (cui q9 49 6 (q9.1 1 6)) (fun q10 => zX6_copyFrom_s49_s1_48  dF q10 0))))))
noncomputable def zX8_unpack_s57_31b (k31 : dK → Int64 → Int32 → Option (dK)) (q : dK) (x3 : Int64) (x5 : Int32) : Option (dK) := if x5 < 0 then dL (cui q 57 2 (mnI 6 (Int64.toInt32 x3))) (fun q1 => some q1) else dG (dg x5 6) (dL (cui q 59 (Int32.toNatClampNeg x5) (Int64.toInt32 (x3 &&& 1 : Int64))) (fun q3 => dG (dg x5 6) (dL (cui q3 58 (Int32.toNatClampNeg x5) (Int64.toInt32 ((x3 >>> (Int32.toInt64 (1 : Int32) &&& 63)) &&& 7 : Int64))) (fun q5 => k31 q5 (x3 >>> (Int32.toInt64 (4 : Int32) &&& 63)) (x5 + (-1))))))
noncomputable def zX8_unpack_s57_31  (n : Nat) (q : dK) (x3 : Int64) (x5 : Int32) : Option (dK) := dFix (α := dK × Int64 × Int32) (fun k a => zX8_unpack_s57_31b  (fun q x3 x5 => k (q, x3, x5)) a.1 a.2.1 a.2.2) n (q, x3, x5)
noncomputable def zX8_unpack_s57 (q : dK) (p1 : Int64) : Option (dK) := dL (cui q 57 4 (Int64.toInt32 (p1 &&& 1023 : Int64))) (fun q1 => dL ((p1 >>> (Int32.toInt64 (10 : Int32) &&& 63)) &&& 16383 : Int64) (fun v2 => dL (cui q1 57 3 (Int64.toInt32 v2)) (fun q3 => zX8_unpack_s57_31  dF q3 (p1 >>> (Int32.toInt64 (24 : Int32) &&& 63)) 5)))
noncomputable def zX6_copyFrom_s56_s1_94b (k94 : dK → Int32 → Option (dK)) (q : dK) (x2 : Int32) : Option (dK) := if 6 ≤ x2 then dL (cui q 56 9 (q.1 1 9)) (fun q1 => some q1) else dG (dg x2 6) (dL (q.1 7 (Int32.toNatClampNeg x2)) (fun v3 => dG (dg x2 6) (if v3 = 0 then dL (cui q 62 (Int32.toNatClampNeg x2) 0) (fun q6 => k94 q6 (x2 + 1)) else dG (dlg q v3) (dL (cui q 62 (Int32.toNatClampNeg x2) v3) (fun q8 => k94 q8 (x2 + 1))))))
noncomputable def zX6_copyFrom_s56_s1_94  (n : Nat) (q : dK) (x2 : Int32) : Option (dK) := dFix (α := dK × Int32) (fun k a => zX6_copyFrom_s56_s1_94b  (fun q x2 => k (q, x2)) a.1 a.2) n (q, x2)
noncomputable def zX6_copyFrom_s56_s1_48b (k48 : dK → Int32 → Option (dK)) (q : dK) (x2 : Int32) : Option (dK) := if 6 ≤ x2 then dL (cui q 56 8 (q.1 1 8)) (fun q1 => zX6_copyFrom_s56_s1_94  dF q1 0) else dG (dg x2 6) (dL (q.1 5 (Int32.toNatClampNeg x2)) (fun v3 => dG (dg x2 6) (dL (cui q 60 (Int32.toNatClampNeg x2) v3) (fun q5 => dG (dg x2 6) (dL (q5.1 6 (Int32.toNatClampNeg x2)) (fun v7 => dG (dg x2 6) (dL (cui q5 61 (Int32.toNatClampNeg x2) v7) (fun q9 => k48 q9 (x2 + 1)))))))))
noncomputable def zX6_copyFrom_s56_s1_48  (n : Nat) (q : dK) (x2 : Int32) : Option (dK) := dFix (α := dK × Int32) (fun k a => zX6_copyFrom_s56_s1_48b  (fun q x2 => k (q, x2)) a.1 a.2) n (q, x2)
noncomputable def zX6_copyFrom_s56_s1 (q : dK)  : Option (dK) := dB (zX8_pack_s2 q ) (fun r1 q3 => dV (zX8_unpack_s57 q3 r1) (fun q6 => dL (cui q6 56 1 (q6.1 1 1)) (fun q7 => dL (cui q7 56 2 (q7.1 1 2)) (fun q8 => dL (cui q8 56 3 (q8.1 1 3)) (fun q9 => dL (cui q9 56 6 (q9.1 1 6)) (fun q10 => zX6_copyFrom_s56_s1_48  dF q10 0))))))
noncomputable def zX9_image_s0 (q : dK) (p1 : Int32) : Option (Int32 × dK) := dV (zX9_isImage p1) (fun r1 => if r1 = 0 then dB (zX9_refuse_s0 q (-1)) (fun r22 q24 => some (r22, q24)) else dG (dg p1 2) (if p1 = 0 then dV (zX6_copyFrom_s49_s1 q ) (fun q7 => dG (dg p1 2) (dL (cui q7 9 (Int32.toNatClampNeg p1) (vp_nar .boolean 1)) (fun q9 => dB (zX9_accept_s0 q9 0) (fun r10 q12 => some (r10, q12))))) else dG (decide (p1 = 1)) (dV (zX6_copyFrom_s56_s1 q ) (fun q16 => dG (dg p1 2) (dL (cui q16 9 (Int32.toNatClampNeg p1) (vp_nar .boolean 1)) (fun q18 => dB (zX9_accept_s0 q18 0) (fun r19 q21 => some (r19, q21))))))))
noncomputable def zX8_pack_s50_8b (k8 : dK → Int64 → Int32 → Option (Int64 × dK)) (q : dK) (x1 : Int64) (x3 : Int32) : Option (Int64 × dK) := if 6 ≤ x3 then dL ((x1 <<< (Int32.toInt64 (14 : Int32) &&& 63)) ||| (Int32.toInt64 (q.1 50 3)) : Int64) (fun v1 => dL ((v1 <<< (Int32.toInt64 (10 : Int32) &&& 63)) ||| (Int32.toInt64 (q.1 50 4)) : Int64) (fun v2 => some (v2, q))) else dG (dg x3 6) (dL (q.1 51 (Int32.toNatClampNeg x3)) (fun v4 => dL ((x1 <<< (Int32.toInt64 (4 : Int32) &&& 63)) ||| (Int32.toInt64 (v4 <<< ((1 : Int32) &&& 31) : Int32)) : Int64) (fun v5 => dG (dg x3 6) (dL (q.1 52 (Int32.toNatClampNeg x3)) (fun v7 => k8 q (v5 ||| (Int32.toInt64 v7) : Int64) (x3 + 1))))))
noncomputable def zX8_pack_s50_8  (n : Nat) (q : dK) (x1 : Int64) (x3 : Int32) : Option (Int64 × dK) := dFix (α := dK × Int64 × Int32) (fun k a => zX8_pack_s50_8b  (fun q x1 x3 => k (q, x1, x3)) a.1 a.2.1 a.2.2) n (q, x1, x3)
noncomputable def zX8_pack_s50 (q : dK)  : Option (Int64 × dK) := zX8_pack_s50_8  dF q (Int32.toInt64 (q.1 50 2)) 0
noncomputable def zX6_copyFrom_s1_s49_94b (k94 : dK → Int32 → Option (dK)) (q : dK) (x2 : Int32) : Option (dK) := if 6 ≤ x2 then dL (cui q 1 9 (q.1 49 9)) (fun q1 => some q1) else dG (dg x2 6) (dL (q.1 55 (Int32.toNatClampNeg x2)) (fun v3 => dG (dg x2 6) (if v3 = 0 then dL (cui q 7 (Int32.toNatClampNeg x2) 0) (fun q6 => k94 q6 (x2 + 1)) else dG (dlg q v3) (dL (cui q 7 (Int32.toNatClampNeg x2) v3) (fun q8 => k94 q8 (x2 + 1))))))
noncomputable def zX6_copyFrom_s1_s49_94  (n : Nat) (q : dK) (x2 : Int32) : Option (dK) := dFix (α := dK × Int32) (fun k a => zX6_copyFrom_s1_s49_94b  (fun q x2 => k (q, x2)) a.1 a.2) n (q, x2)
noncomputable def zX6_copyFrom_s1_s49_48b (k48 : dK → Int32 → Option (dK)) (q : dK) (x2 : Int32) : Option (dK) := if 6 ≤ x2 then dL (cui q 1 8 (q.1 49 8)) (fun q1 => zX6_copyFrom_s1_s49_94  dF q1 0) else dG (dg x2 6) (dL (q.1 53 (Int32.toNatClampNeg x2)) (fun v3 => dG (dg x2 6) (dL (cui q 5 (Int32.toNatClampNeg x2) v3) (fun q5 => dG (dg x2 6) (dL (q5.1 54 (Int32.toNatClampNeg x2)) (fun v7 => dG (dg x2 6) (dL (cui q5 6 (Int32.toNatClampNeg x2) v7) (fun q9 => k48 q9 (x2 + 1)))))))))
noncomputable def zX6_copyFrom_s1_s49_48  (n : Nat) (q : dK) (x2 : Int32) : Option (dK) := dFix (α := dK × Int32) (fun k a => zX6_copyFrom_s1_s49_48b  (fun q x2 => k (q, x2)) a.1 a.2) n (q, x2)
noncomputable def zX6_copyFrom_s1_s49 (q : dK)  : Option (dK) := dB (zX8_pack_s50 q ) (fun r1 q3 => dV (zX8_unpack_s2 q3 r1) (fun q6 => dL (cui q6 1 1 (q6.1 49 1)) (fun q7 => dL (cui q7 1 2 (q7.1 49 2)) (fun q8 => dL (cui q8 1 3 (q8.1 49 3)) (fun q9 => dL (cui q9 1 6 (q9.1 49 6)) (fun q10 => zX6_copyFrom_s1_s49_48  dF q10 0))))))
noncomputable def zX8_pack_s57_8b (k8 : dK → Int64 → Int32 → Option (Int64 × dK)) (q : dK) (x1 : Int64) (x3 : Int32) : Option (Int64 × dK) := if 6 ≤ x3 then dL ((x1 <<< (Int32.toInt64 (14 : Int32) &&& 63)) ||| (Int32.toInt64 (q.1 57 3)) : Int64) (fun v1 => dL ((v1 <<< (Int32.toInt64 (10 : Int32) &&& 63)) ||| (Int32.toInt64 (q.1 57 4)) : Int64) (fun v2 => some (v2, q))) else dG (dg x3 6) (dL (q.1 58 (Int32.toNatClampNeg x3)) (fun v4 => dL ((x1 <<< (Int32.toInt64 (4 : Int32) &&& 63)) ||| (Int32.toInt64 (v4 <<< ((1 : Int32) &&& 31) : Int32)) : Int64) (fun v5 => dG (dg x3 6) (dL (q.1 59 (Int32.toNatClampNeg x3)) (fun v7 => k8 q (v5 ||| (Int32.toInt64 v7) : Int64) (x3 + 1))))))
noncomputable def zX8_pack_s57_8  (n : Nat) (q : dK) (x1 : Int64) (x3 : Int32) : Option (Int64 × dK) := dFix (α := dK × Int64 × Int32) (fun k a => zX8_pack_s57_8b  (fun q x1 x3 => k (q, x1, x3)) a.1 a.2.1 a.2.2) n (q, x1, x3)
noncomputable def zX8_pack_s57 (q : dK)  : Option (Int64 × dK) := zX8_pack_s57_8  dF q (Int32.toInt64 (q.1 57 2)) 0
noncomputable def zX6_copyFrom_s1_s56_94b (k94 : dK → Int32 → Option (dK)) (q : dK) (x2 : Int32) : Option (dK) := if 6 ≤ x2 then dL (cui q 1 9 (q.1 56 9)) (fun q1 => some q1) else dG (dg x2 6) (dL (q.1 62 (Int32.toNatClampNeg x2)) (fun v3 => dG (dg x2 6) (if v3 = 0 then dL (cui q 7 (Int32.toNatClampNeg x2) 0) (fun q6 => k94 q6 (x2 + 1)) else dG (dlg q v3) (dL (cui q 7 (Int32.toNatClampNeg x2) v3) (fun q8 => k94 q8 (x2 + 1))))))
noncomputable def zX6_copyFrom_s1_s56_94  (n : Nat) (q : dK) (x2 : Int32) : Option (dK) := dFix (α := dK × Int32) (fun k a => zX6_copyFrom_s1_s56_94b  (fun q x2 => k (q, x2)) a.1 a.2) n (q, x2)
noncomputable def zX6_copyFrom_s1_s56_48b (k48 : dK → Int32 → Option (dK)) (q : dK) (x2 : Int32) : Option (dK) := if 6 ≤ x2 then dL (cui q 1 8 (q.1 56 8)) (fun q1 => zX6_copyFrom_s1_s56_94  dF q1 0) else dG (dg x2 6) (dL (q.1 60 (Int32.toNatClampNeg x2)) (fun v3 => dG (dg x2 6) (dL (cui q 5 (Int32.toNatClampNeg x2) v3) (fun q5 => dG (dg x2 6) (dL (q5.1 61 (Int32.toNatClampNeg x2)) (fun v7 => dG (dg x2 6) (dL (cui q5 6 (Int32.toNatClampNeg x2) v7) (fun q9 => k48 q9 (x2 + 1)))))))))
noncomputable def zX6_copyFrom_s1_s56_48  (n : Nat) (q : dK) (x2 : Int32) : Option (dK) := dFix (α := dK × Int32) (fun k a => zX6_copyFrom_s1_s56_48b  (fun q x2 => k (q, x2)) a.1 a.2) n (q, x2)
noncomputable def zX6_copyFrom_s1_s56 (q : dK)  : Option (dK) := dB (zX8_pack_s57 q ) (fun r1 q3 => dV (zX8_unpack_s2 q3 r1) (fun q6 => dL (cui q6 1 1 (q6.1 56 1)) (fun q7 => dL (cui q7 1 2 (q7.1 56 2)) (fun q8 => dL (cui q8 1 3 (q8.1 56 3)) (fun q9 => dL (cui q9 1 6 (q9.1 56 6)) (fun q10 => zX6_copyFrom_s1_s56_48  dF q10 0))))))
noncomputable def zX9_back_s0 (q : dK) (p1 : Int32) : Option (Int32 × dK) := dV (zX9_isImage p1) (fun r1 => if r1 = 0 then dB (zX9_refuse_s0 q (-1)) (fun r29 q31 => some (r29, q31)) else dG (dg p1 2) (dL (q.1 9 (Int32.toNatClampNeg p1)) (fun v4 => if v4 = 0 then dB (zX9_refuse_s0 q (-2)) (fun r26 q28 => some (r26, q28)) else dG (dg p1 2) (if p1 = 0 then dV (zX6_copyFrom_s1_s49 q ) (fun q9 => dV (zX0_clear_s10 q9 ) (fun q12 => dB (zX9_accept_s0 q12 0) (fun r13 q15 => some (r13, q15)))) else dG (decide (p1 = 1)) (dV (zX6_copyFrom_s1_s56 q ) (fun q19 => dV (zX0_clear_s10 q19 ) (fun q22 => dB (zX9_accept_s0 q22 0) (fun r23 q25 => some (r23, q25)))))))))
noncomputable def zX8_onHeads_s2_4b (k4 : dK → Int32 → Int32 → Option (Int32 × dK)) (q : dK) (x1 : Int32) (x2 : Int32) : Option (Int32 × dK) := if (q.1 2 2) ≤ x2 then some (x1, q) else dG (dg x2 6) (dL (q.1 4 (Int32.toNatClampNeg x2)) (fun v2 => k4 q (x1 + v2) (x2 + 1)))
noncomputable def zX8_onHeads_s2_4  (n : Nat) (q : dK) (x1 : Int32) (x2 : Int32) : Option (Int32 × dK) := dFix (α := dK × Int32 × Int32) (fun k a => zX8_onHeads_s2_4b  (fun q x1 x2 => k (q, x1, x2)) a.1 a.2.1 a.2.2) n (q, x1, x2)
noncomputable def zX8_onHeads_s2 (q : dK)  : Option (Int32 × dK) := zX8_onHeads_s2_4  dF q 0 0
noncomputable def zX9_count_s0 (q : dK) (p1 : Int32) : Option (Int32 × dK) := if p1 = 0 then some (q.1 2 2, q) else if p1 = 1 then dB (zX8_onHeads_s2 q ) (fun r3 q5 => some (r3, q5)) else if p1 = 2 then some (q.1 2 3, q) else if p1 = 3 then some (q.1 1 6, q) else if p1 = 4 then some (q.1 1 8, q) else if p1 = 5 then some (q.1 10 2, q) else if p1 = 6 then some (q.1 0 12, q) else if p1 = 7 then some (q.1 48 1, q) else if p1 = 8 then some (q.1 48 2, q) else if p1 = 9 then some (q.1 48 3, q) else if p1 = 10 then some (q.1 48 5, q) else if p1 = 11 then some (q.1 48 6, q) else if p1 = 12 then some (q.1 1 9, q) else if p1 = 13 then dB (zX6_term_s1 q (p1 - 13 : Int32)) (fun r18 q20 => some (r18, q20)) else if p1 = 14 then dB (zX6_term_s1 q (p1 - 13 : Int32)) (fun r22 q24 => some (r22, q24)) else if p1 = 15 then dB (zX6_term_s1 q (p1 - 13 : Int32)) (fun r26 q28 => some (r26, q28)) else if p1 = 16 then dB (zX6_term_s1 q (p1 - 13 : Int32)) (fun r30 q32 => some (r30, q32)) else if p1 = 17 then dB (zX8_rises_s2 q ((1 <<< ((q.1 2 2 : Int32) &&& 31) : Int32) - 1 : Int32) (q.1 1 3)) (fun r34 q36 => dV (zX9_bit r34) (fun r37 => some (r37, q36))) else some ((-1), q)
noncomputable def zX9_status_s0 (q : dK)  : Option (Int32 × dK) := some (q.1 0 18, q)
end
section
theorem da9_dX0_clear_0 : (decode cX0_clear 0 = .ok (.aload_n 0, 1)) ∧ (decode cX0_clear 1 = .ok (.iconst 0, 1)) ∧ (decode cX0_clear 2 = .ok (.putfield 19, 3)) ∧ (decode cX0_clear 5 = .ok (.return_, 1)) := by decide +kernel
theorem dX0_clear_0 : decode cX0_clear 0 = .ok (.aload_n 0, 1) := da9_dX0_clear_0.1
theorem dX0_clear_1 : decode cX0_clear 1 = .ok (.iconst 0, 1) := da9_dX0_clear_0.2.1
theorem dX0_clear_2 : decode cX0_clear 2 = .ok (.putfield 19, 3) := da9_dX0_clear_0.2.2.1
theorem dX0_clear_5 : decode cX0_clear 5 = .ok (.return_, 1) := da9_dX0_clear_0.2.2.2
theorem da9_dX1_seat_0 : (decode cX1_seat 0 = .ok (.aload_n 0, 1)) ∧ (decode cX1_seat 1 = .ok (.aload_n 1, 1)) ∧ (decode cX1_seat 2 = .ok (.putfield 15, 3)) ∧ (decode cX1_seat 5 = .ok (.aload_n 0, 1)) ∧ (decode cX1_seat 6 = .ok (.getfield 11, 3)) ∧ (decode cX1_seat 9 = .ok (.bipush 8, 2)) ∧ (decode cX1_seat 11 = .ok (.iload_n 2, 1)) ∧ (decode cX1_seat 12 = .ok (.iastore, 1)) ∧ (decode cX1_seat 13 = .ok (.return_, 1)) := by decide +kernel
theorem dX1_seat_0 : decode cX1_seat 0 = .ok (.aload_n 0, 1) := da9_dX1_seat_0.1
theorem dX1_seat_1 : decode cX1_seat 1 = .ok (.aload_n 1, 1) := da9_dX1_seat_0.2.1
theorem dX1_seat_2 : decode cX1_seat 2 = .ok (.putfield 15, 3) := da9_dX1_seat_0.2.2.1
theorem dX1_seat_5 : decode cX1_seat 5 = .ok (.aload_n 0, 1) := da9_dX1_seat_0.2.2.2.1
theorem dX1_seat_6 : decode cX1_seat 6 = .ok (.getfield 11, 3) := da9_dX1_seat_0.2.2.2.2.1
theorem dX1_seat_9 : decode cX1_seat 9 = .ok (.bipush 8, 2) := da9_dX1_seat_0.2.2.2.2.2.1
theorem dX1_seat_11 : decode cX1_seat 11 = .ok (.iload_n 2, 1) := da9_dX1_seat_0.2.2.2.2.2.2.1
theorem dX1_seat_12 : decode cX1_seat 12 = .ok (.iastore, 1) := da9_dX1_seat_0.2.2.2.2.2.2.2.1
theorem dX1_seat_13 : decode cX1_seat 13 = .ok (.return_, 1) := da9_dX1_seat_0.2.2.2.2.2.2.2.2
theorem da9_dX1_setCommon_0 : (decode cX1_setCommon 0 = .ok (.aload_n 0, 1)) ∧ (decode cX1_setCommon 1 = .ok (.getfield 11, 3)) ∧ (decode cX1_setCommon 4 = .ok (.iconst 4, 1)) ∧ (decode cX1_setCommon 5 = .ok (.iload_n 1, 1)) ∧ (decode cX1_setCommon 6 = .ok (.iastore, 1)) ∧ (decode cX1_setCommon 7 = .ok (.aload_n 0, 1)) ∧ (decode cX1_setCommon 8 = .ok (.getfield 11, 3)) ∧ (decode cX1_setCommon 11 = .ok (.bipush 7, 2)) ∧ (decode cX1_setCommon 13 = .ok (.iload_n 2, 1)) ∧ (decode cX1_setCommon 14 = .ok (.iastore, 1)) ∧ (decode cX1_setCommon 15 = .ok (.return_, 1)) := by decide +kernel
theorem dX1_setCommon_0 : decode cX1_setCommon 0 = .ok (.aload_n 0, 1) := da9_dX1_setCommon_0.1
theorem dX1_setCommon_1 : decode cX1_setCommon 1 = .ok (.getfield 11, 3) := da9_dX1_setCommon_0.2.1
theorem dX1_setCommon_4 : decode cX1_setCommon 4 = .ok (.iconst 4, 1) := da9_dX1_setCommon_0.2.2.1
theorem dX1_setCommon_5 : decode cX1_setCommon 5 = .ok (.iload_n 1, 1) := da9_dX1_setCommon_0.2.2.2.1
theorem dX1_setCommon_6 : decode cX1_setCommon 6 = .ok (.iastore, 1) := da9_dX1_setCommon_0.2.2.2.2.1
theorem dX1_setCommon_7 : decode cX1_setCommon 7 = .ok (.aload_n 0, 1) := da9_dX1_setCommon_0.2.2.2.2.2.1
theorem dX1_setCommon_8 : decode cX1_setCommon 8 = .ok (.getfield 11, 3) := da9_dX1_setCommon_0.2.2.2.2.2.2.1
theorem dX1_setCommon_11 : decode cX1_setCommon 11 = .ok (.bipush 7, 2) := da9_dX1_setCommon_0.2.2.2.2.2.2.2.1
theorem dX1_setCommon_13 : decode cX1_setCommon 13 = .ok (.iload_n 2, 1) := da9_dX1_setCommon_0.2.2.2.2.2.2.2.2.1
theorem dX1_setCommon_14 : decode cX1_setCommon 14 = .ok (.iastore, 1) := da9_dX1_setCommon_0.2.2.2.2.2.2.2.2.2.1
theorem dX1_setCommon_15 : decode cX1_setCommon 15 = .ok (.return_, 1) := da9_dX1_setCommon_0.2.2.2.2.2.2.2.2.2.2
theorem da9_dX6_isLaw_0 : (decode cX6_isLaw 0 = .ok (.iload_n 1, 1)) ∧ (decode cX6_isLaw 1 = .ok (.ifCond .lt 15, 3)) ∧ (decode cX6_isLaw 4 = .ok (.iload_n 1, 1)) ∧ (decode cX6_isLaw 5 = .ok (.aload_n 0, 1)) ∧ (decode cX6_isLaw 6 = .ok (.getfield 44, 3)) ∧ (decode cX6_isLaw 9 = .ok (.if_icmp .ge 7, 3)) ∧ (decode cX6_isLaw 12 = .ok (.iconst 1, 1)) ∧ (decode cX6_isLaw 13 = .ok (.goto 4, 3)) ∧ (decode cX6_isLaw 16 = .ok (.iconst 0, 1)) ∧ (decode cX6_isLaw 17 = .ok (.ireturn, 1)) := by decide +kernel
theorem dX6_isLaw_0 : decode cX6_isLaw 0 = .ok (.iload_n 1, 1) := da9_dX6_isLaw_0.1
theorem dX6_isLaw_1 : decode cX6_isLaw 1 = .ok (.ifCond .lt 15, 3) := da9_dX6_isLaw_0.2.1
theorem dX6_isLaw_4 : decode cX6_isLaw 4 = .ok (.iload_n 1, 1) := da9_dX6_isLaw_0.2.2.1
theorem dX6_isLaw_5 : decode cX6_isLaw 5 = .ok (.aload_n 0, 1) := da9_dX6_isLaw_0.2.2.2.1
theorem dX6_isLaw_6 : decode cX6_isLaw 6 = .ok (.getfield 44, 3) := da9_dX6_isLaw_0.2.2.2.2.1
theorem dX6_isLaw_9 : decode cX6_isLaw 9 = .ok (.if_icmp .ge 7, 3) := da9_dX6_isLaw_0.2.2.2.2.2.1
theorem dX6_isLaw_12 : decode cX6_isLaw 12 = .ok (.iconst 1, 1) := da9_dX6_isLaw_0.2.2.2.2.2.2.1
theorem dX6_isLaw_13 : decode cX6_isLaw 13 = .ok (.goto 4, 3) := da9_dX6_isLaw_0.2.2.2.2.2.2.2.1
theorem dX6_isLaw_16 : decode cX6_isLaw 16 = .ok (.iconst 0, 1) := da9_dX6_isLaw_0.2.2.2.2.2.2.2.2.1
theorem dX6_isLaw_17 : decode cX6_isLaw 17 = .ok (.ireturn, 1) := da9_dX6_isLaw_0.2.2.2.2.2.2.2.2.2
set_option maxRecDepth 20000 in
theorem ggX6_lawAt_X6_isLaw : GoodIn wsX6_lawAt wsX6_isLaw := wd_c vW9_ok mvW9_55
set_option maxRecDepth 20000 in
theorem gX6_lawAt_X6_isLaw : GoodIn wsX6_lawAt (wsV RX6 61 RX6 yX6_isLaw wsX6_isLaw) := goodIn_app (wd_l vW9_ok _ pvW9_75) ggX6_lawAt_X6_isLaw
theorem da9_dX6_lawAt_0 : (decode cX6_lawAt 0 = .ok (.aload_n 0, 1)) ∧ (decode cX6_lawAt 1 = .ok (.iload_n 1, 1)) ∧ (decode cX6_lawAt 2 = .ok (.invokevirtual 61, 3)) ∧ (decode cX6_lawAt 5 = .ok (.ifCond .eq 12, 3)) ∧ (decode cX6_lawAt 8 = .ok (.aload_n 0, 1)) ∧ (decode cX6_lawAt 9 = .ok (.getfield 40, 3)) ∧ (decode cX6_lawAt 12 = .ok (.iload_n 1, 1)) ∧ (decode cX6_lawAt 13 = .ok (.aaload, 1)) ∧ (decode cX6_lawAt 14 = .ok (.goto 4, 3)) ∧ (decode cX6_lawAt 17 = .ok (.aconst_null, 1)) ∧ (decode cX6_lawAt 18 = .ok (.areturn, 1)) := by decide +kernel
theorem dX6_lawAt_0 : decode cX6_lawAt 0 = .ok (.aload_n 0, 1) := da9_dX6_lawAt_0.1
theorem dX6_lawAt_1 : decode cX6_lawAt 1 = .ok (.iload_n 1, 1) := da9_dX6_lawAt_0.2.1
theorem dX6_lawAt_2 : decode cX6_lawAt 2 = .ok (.invokevirtual 61, 3) := da9_dX6_lawAt_0.2.2.1
theorem dX6_lawAt_5 : decode cX6_lawAt 5 = .ok (.ifCond .eq 12, 3) := da9_dX6_lawAt_0.2.2.2.1
theorem dX6_lawAt_8 : decode cX6_lawAt 8 = .ok (.aload_n 0, 1) := da9_dX6_lawAt_0.2.2.2.2.1
theorem dX6_lawAt_9 : decode cX6_lawAt 9 = .ok (.getfield 40, 3) := da9_dX6_lawAt_0.2.2.2.2.2.1
theorem dX6_lawAt_12 : decode cX6_lawAt 12 = .ok (.iload_n 1, 1) := da9_dX6_lawAt_0.2.2.2.2.2.2.1
theorem dX6_lawAt_13 : decode cX6_lawAt 13 = .ok (.aaload, 1) := da9_dX6_lawAt_0.2.2.2.2.2.2.2.1
theorem dX6_lawAt_14 : decode cX6_lawAt 14 = .ok (.goto 4, 3) := da9_dX6_lawAt_0.2.2.2.2.2.2.2.2.1
theorem dX6_lawAt_17 : decode cX6_lawAt 17 = .ok (.aconst_null, 1) := da9_dX6_lawAt_0.2.2.2.2.2.2.2.2.2.1
theorem dX6_lawAt_18 : decode cX6_lawAt 18 = .ok (.areturn, 1) := da9_dX6_lawAt_0.2.2.2.2.2.2.2.2.2.2
theorem da9_dX8_isFloor_0 : (decode cX8_isFloor 0 = .ok (.iload_n 1, 1)) ∧ (decode cX8_isFloor 1 = .ok (.ifCond .lt 15, 3)) ∧ (decode cX8_isFloor 4 = .ok (.iload_n 1, 1)) ∧ (decode cX8_isFloor 5 = .ok (.aload_n 0, 1)) ∧ (decode cX8_isFloor 6 = .ok (.getfield 18, 3)) ∧ (decode cX8_isFloor 9 = .ok (.if_icmp .ge 7, 3)) ∧ (decode cX8_isFloor 12 = .ok (.iconst 1, 1)) ∧ (decode cX8_isFloor 13 = .ok (.goto 4, 3)) ∧ (decode cX8_isFloor 16 = .ok (.iconst 0, 1)) ∧ (decode cX8_isFloor 17 = .ok (.ireturn, 1)) := by decide +kernel
theorem dX8_isFloor_0 : decode cX8_isFloor 0 = .ok (.iload_n 1, 1) := da9_dX8_isFloor_0.1
theorem dX8_isFloor_1 : decode cX8_isFloor 1 = .ok (.ifCond .lt 15, 3) := da9_dX8_isFloor_0.2.1
theorem dX8_isFloor_4 : decode cX8_isFloor 4 = .ok (.iload_n 1, 1) := da9_dX8_isFloor_0.2.2.1
theorem dX8_isFloor_5 : decode cX8_isFloor 5 = .ok (.aload_n 0, 1) := da9_dX8_isFloor_0.2.2.2.1
theorem dX8_isFloor_6 : decode cX8_isFloor 6 = .ok (.getfield 18, 3) := da9_dX8_isFloor_0.2.2.2.2.1
theorem dX8_isFloor_9 : decode cX8_isFloor 9 = .ok (.if_icmp .ge 7, 3) := da9_dX8_isFloor_0.2.2.2.2.2.1
theorem dX8_isFloor_12 : decode cX8_isFloor 12 = .ok (.iconst 1, 1) := da9_dX8_isFloor_0.2.2.2.2.2.2.1
theorem dX8_isFloor_13 : decode cX8_isFloor 13 = .ok (.goto 4, 3) := da9_dX8_isFloor_0.2.2.2.2.2.2.2.1
theorem dX8_isFloor_16 : decode cX8_isFloor 16 = .ok (.iconst 0, 1) := da9_dX8_isFloor_0.2.2.2.2.2.2.2.2.1
theorem dX8_isFloor_17 : decode cX8_isFloor 17 = .ok (.ireturn, 1) := da9_dX8_isFloor_0.2.2.2.2.2.2.2.2.2
theorem da9_dX8_has_0 : (decode cX8_has 0 = .ok (.iconst 0, 1)) ∧ (decode cX8_has 1 = .ok (.istore_n 2, 1)) ∧ (decode cX8_has 2 = .ok (.iload_n 2, 1)) ∧ (decode cX8_has 3 = .ok (.aload_n 0, 1)) ∧ (decode cX8_has 4 = .ok (.getfield 18, 3)) ∧ (decode cX8_has 7 = .ok (.if_icmp .ge 21, 3)) ∧ (decode cX8_has 10 = .ok (.aload_n 0, 1)) ∧ (decode cX8_has 11 = .ok (.getfield 9, 3)) ∧ (decode cX8_has 14 = .ok (.iload_n 2, 1)) ∧ (decode cX8_has 15 = .ok (.iaload, 1)) ∧ (decode cX8_has 16 = .ok (.iload_n 1, 1)) ∧ (decode cX8_has 17 = .ok (.if_icmp .ne 5, 3)) ∧ (decode cX8_has 20 = .ok (.iconst 1, 1)) ∧ (decode cX8_has 21 = .ok (.ireturn, 1)) ∧ (decode cX8_has 22 = .ok (.iinc 2 1, 3)) ∧ (decode cX8_has 25 = .ok (.goto (-23), 3)) := by decide +kernel
theorem dX8_has_0 : decode cX8_has 0 = .ok (.iconst 0, 1) := da9_dX8_has_0.1
theorem dX8_has_1 : decode cX8_has 1 = .ok (.istore_n 2, 1) := da9_dX8_has_0.2.1
theorem dX8_has_2 : decode cX8_has 2 = .ok (.iload_n 2, 1) := da9_dX8_has_0.2.2.1
theorem dX8_has_3 : decode cX8_has 3 = .ok (.aload_n 0, 1) := da9_dX8_has_0.2.2.2.1
theorem dX8_has_4 : decode cX8_has 4 = .ok (.getfield 18, 3) := da9_dX8_has_0.2.2.2.2.1
theorem dX8_has_7 : decode cX8_has 7 = .ok (.if_icmp .ge 21, 3) := da9_dX8_has_0.2.2.2.2.2.1
theorem dX8_has_10 : decode cX8_has 10 = .ok (.aload_n 0, 1) := da9_dX8_has_0.2.2.2.2.2.2.1
theorem dX8_has_11 : decode cX8_has 11 = .ok (.getfield 9, 3) := da9_dX8_has_0.2.2.2.2.2.2.2.1
theorem dX8_has_14 : decode cX8_has 14 = .ok (.iload_n 2, 1) := da9_dX8_has_0.2.2.2.2.2.2.2.2.1
theorem dX8_has_15 : decode cX8_has 15 = .ok (.iaload, 1) := da9_dX8_has_0.2.2.2.2.2.2.2.2.2.1
theorem dX8_has_16 : decode cX8_has 16 = .ok (.iload_n 1, 1) := da9_dX8_has_0.2.2.2.2.2.2.2.2.2.2.1
theorem dX8_has_17 : decode cX8_has 17 = .ok (.if_icmp .ne 5, 3) := da9_dX8_has_0.2.2.2.2.2.2.2.2.2.2.2.1
theorem dX8_has_20 : decode cX8_has 20 = .ok (.iconst 1, 1) := da9_dX8_has_0.2.2.2.2.2.2.2.2.2.2.2.2.1
theorem dX8_has_21 : decode cX8_has 21 = .ok (.ireturn, 1) := da9_dX8_has_0.2.2.2.2.2.2.2.2.2.2.2.2.2.1
theorem dX8_has_22 : decode cX8_has 22 = .ok (.iinc 2 1, 3) := da9_dX8_has_0.2.2.2.2.2.2.2.2.2.2.2.2.2.2.1
theorem dX8_has_25 : decode cX8_has 25 = .ok (.goto (-23), 3) := da9_dX8_has_0.2.2.2.2.2.2.2.2.2.2.2.2.2.2.2
theorem da9_dX8_has_28 : (decode cX8_has 28 = .ok (.iconst 0, 1)) ∧ (decode cX8_has 29 = .ok (.ireturn, 1)) := by decide +kernel
theorem dX8_has_28 : decode cX8_has 28 = .ok (.iconst 0, 1) := da9_dX8_has_28.1
theorem dX8_has_29 : decode cX8_has 29 = .ok (.ireturn, 1) := da9_dX8_has_28.2
theorem da9_dX8_add_0 : (decode cX8_add 0 = .ok (.aload_n 0, 1)) ∧ (decode cX8_add 1 = .ok (.getfield 18, 3)) ∧ (decode cX8_add 4 = .ok (.bipush 6, 2)) ∧ (decode cX8_add 6 = .ok (.if_icmp .lt 5, 3)) ∧ (decode cX8_add 9 = .ok (.iconst 0, 1)) ∧ (decode cX8_add 10 = .ok (.ireturn, 1)) ∧ (decode cX8_add 11 = .ok (.aload_n 0, 1)) ∧ (decode cX8_add 12 = .ok (.getfield 9, 3)) ∧ (decode cX8_add 15 = .ok (.aload_n 0, 1)) ∧ (decode cX8_add 16 = .ok (.getfield 18, 3)) ∧ (decode cX8_add 19 = .ok (.iload_n 1, 1)) ∧ (decode cX8_add 20 = .ok (.iastore, 1)) ∧ (decode cX8_add 21 = .ok (.aload_n 0, 1)) ∧ (decode cX8_add 22 = .ok (.getfield 15, 3)) ∧ (decode cX8_add 25 = .ok (.aload_n 0, 1)) ∧ (decode cX8_add 26 = .ok (.getfield 18, 3)) := by decide +kernel
theorem dX8_add_0 : decode cX8_add 0 = .ok (.aload_n 0, 1) := da9_dX8_add_0.1
theorem dX8_add_1 : decode cX8_add 1 = .ok (.getfield 18, 3) := da9_dX8_add_0.2.1
theorem dX8_add_4 : decode cX8_add 4 = .ok (.bipush 6, 2) := da9_dX8_add_0.2.2.1
theorem dX8_add_6 : decode cX8_add 6 = .ok (.if_icmp .lt 5, 3) := da9_dX8_add_0.2.2.2.1
theorem dX8_add_9 : decode cX8_add 9 = .ok (.iconst 0, 1) := da9_dX8_add_0.2.2.2.2.1
theorem dX8_add_10 : decode cX8_add 10 = .ok (.ireturn, 1) := da9_dX8_add_0.2.2.2.2.2.1
theorem dX8_add_11 : decode cX8_add 11 = .ok (.aload_n 0, 1) := da9_dX8_add_0.2.2.2.2.2.2.1
theorem dX8_add_12 : decode cX8_add 12 = .ok (.getfield 9, 3) := da9_dX8_add_0.2.2.2.2.2.2.2.1
theorem dX8_add_15 : decode cX8_add 15 = .ok (.aload_n 0, 1) := da9_dX8_add_0.2.2.2.2.2.2.2.2.1
theorem dX8_add_16 : decode cX8_add 16 = .ok (.getfield 18, 3) := da9_dX8_add_0.2.2.2.2.2.2.2.2.2.1
theorem dX8_add_19 : decode cX8_add 19 = .ok (.iload_n 1, 1) := da9_dX8_add_0.2.2.2.2.2.2.2.2.2.2.1
theorem dX8_add_20 : decode cX8_add 20 = .ok (.iastore, 1) := da9_dX8_add_0.2.2.2.2.2.2.2.2.2.2.2.1
theorem dX8_add_21 : decode cX8_add 21 = .ok (.aload_n 0, 1) := da9_dX8_add_0.2.2.2.2.2.2.2.2.2.2.2.2.1
theorem dX8_add_22 : decode cX8_add 22 = .ok (.getfield 15, 3) := da9_dX8_add_0.2.2.2.2.2.2.2.2.2.2.2.2.2.1
theorem dX8_add_25 : decode cX8_add 25 = .ok (.aload_n 0, 1) := da9_dX8_add_0.2.2.2.2.2.2.2.2.2.2.2.2.2.2.1
theorem dX8_add_26 : decode cX8_add 26 = .ok (.getfield 18, 3) := da9_dX8_add_0.2.2.2.2.2.2.2.2.2.2.2.2.2.2.2
theorem da9_dX8_add_29 : (decode cX8_add 29 = .ok (.iload_n 2, 1)) ∧ (decode cX8_add 30 = .ok (.iastore, 1)) ∧ (decode cX8_add 31 = .ok (.aload_n 0, 1)) ∧ (decode cX8_add 32 = .ok (.dup, 1)) ∧ (decode cX8_add 33 = .ok (.getfield 18, 3)) ∧ (decode cX8_add 36 = .ok (.iconst 1, 1)) ∧ (decode cX8_add 37 = .ok (.iadd, 1)) ∧ (decode cX8_add 38 = .ok (.putfield 18, 3)) ∧ (decode cX8_add 41 = .ok (.iconst 1, 1)) ∧ (decode cX8_add 42 = .ok (.ireturn, 1)) := by decide +kernel
theorem dX8_add_29 : decode cX8_add 29 = .ok (.iload_n 2, 1) := da9_dX8_add_29.1
theorem dX8_add_30 : decode cX8_add 30 = .ok (.iastore, 1) := da9_dX8_add_29.2.1
theorem dX8_add_31 : decode cX8_add 31 = .ok (.aload_n 0, 1) := da9_dX8_add_29.2.2.1
theorem dX8_add_32 : decode cX8_add 32 = .ok (.dup, 1) := da9_dX8_add_29.2.2.2.1
theorem dX8_add_33 : decode cX8_add 33 = .ok (.getfield 18, 3) := da9_dX8_add_29.2.2.2.2.1
theorem dX8_add_36 : decode cX8_add 36 = .ok (.iconst 1, 1) := da9_dX8_add_29.2.2.2.2.2.1
theorem dX8_add_37 : decode cX8_add 37 = .ok (.iadd, 1) := da9_dX8_add_29.2.2.2.2.2.2.1
theorem dX8_add_38 : decode cX8_add 38 = .ok (.putfield 18, 3) := da9_dX8_add_29.2.2.2.2.2.2.2.1
theorem dX8_add_41 : decode cX8_add 41 = .ok (.iconst 1, 1) := da9_dX8_add_29.2.2.2.2.2.2.2.2.1
theorem dX8_add_42 : decode cX8_add 42 = .ok (.ireturn, 1) := da9_dX8_add_29.2.2.2.2.2.2.2.2.2
set_option maxRecDepth 20000 in
theorem ggX8_tell_X8_isFloor : GoodIn wsX8_tell wsX8_isFloor := wd_c vW9_ok mvW9_40
set_option maxRecDepth 20000 in
theorem gX8_tell_X8_isFloor : GoodIn wsX8_tell (wsV RX8 28 RX8 yX8_isFloor wsX8_isFloor) := goodIn_app (wd_l vW9_ok _ pvW9_77) ggX8_tell_X8_isFloor
set_option maxRecDepth 20000 in
theorem ggX8_tell_X9_isBit : GoodIn wsX8_tell wsX9_isBit := wd_c vW9_ok mvW9_8
set_option maxRecDepth 20000 in
theorem gX8_tell_X9_isBit_n32 : GoodIn wsX8_tell (wsX9_isBit) := ggX8_tell_X9_isBit
theorem da9_dX8_tell_0 : (decode cX8_tell 0 = .ok (.aload_n 0, 1)) ∧ (decode cX8_tell 1 = .ok (.iload_n 1, 1)) ∧ (decode cX8_tell 2 = .ok (.invokevirtual 28, 3)) ∧ (decode cX8_tell 5 = .ok (.ifCond .eq 10, 3)) ∧ (decode cX8_tell 8 = .ok (.iload_n 2, 1)) ∧ (decode cX8_tell 9 = .ok (.invokestatic 32, 3)) ∧ (decode cX8_tell 12 = .ok (.ifCond .ne 5, 3)) ∧ (decode cX8_tell 15 = .ok (.iconst (-1), 1)) ∧ (decode cX8_tell 16 = .ok (.ireturn, 1)) ∧ (decode cX8_tell 17 = .ok (.iload_n 2, 1)) ∧ (decode cX8_tell 18 = .ok (.ifCond .ne 12, 3)) ∧ (decode cX8_tell 21 = .ok (.aload_n 0, 1)) ∧ (decode cX8_tell 22 = .ok (.getfield 9, 3)) ∧ (decode cX8_tell 25 = .ok (.iload_n 1, 1)) ∧ (decode cX8_tell 26 = .ok (.iaload, 1)) ∧ (decode cX8_tell 27 = .ok (.goto 9, 3)) := by decide +kernel
theorem dX8_tell_0 : decode cX8_tell 0 = .ok (.aload_n 0, 1) := da9_dX8_tell_0.1
theorem dX8_tell_1 : decode cX8_tell 1 = .ok (.iload_n 1, 1) := da9_dX8_tell_0.2.1
theorem dX8_tell_2 : decode cX8_tell 2 = .ok (.invokevirtual 28, 3) := da9_dX8_tell_0.2.2.1
theorem dX8_tell_5 : decode cX8_tell 5 = .ok (.ifCond .eq 10, 3) := da9_dX8_tell_0.2.2.2.1
theorem dX8_tell_8 : decode cX8_tell 8 = .ok (.iload_n 2, 1) := da9_dX8_tell_0.2.2.2.2.1
theorem dX8_tell_9 : decode cX8_tell 9 = .ok (.invokestatic 32, 3) := da9_dX8_tell_0.2.2.2.2.2.1
theorem dX8_tell_12 : decode cX8_tell 12 = .ok (.ifCond .ne 5, 3) := da9_dX8_tell_0.2.2.2.2.2.2.1
theorem dX8_tell_15 : decode cX8_tell 15 = .ok (.iconst (-1), 1) := da9_dX8_tell_0.2.2.2.2.2.2.2.1
theorem dX8_tell_16 : decode cX8_tell 16 = .ok (.ireturn, 1) := da9_dX8_tell_0.2.2.2.2.2.2.2.2.1
theorem dX8_tell_17 : decode cX8_tell 17 = .ok (.iload_n 2, 1) := da9_dX8_tell_0.2.2.2.2.2.2.2.2.2.1
theorem dX8_tell_18 : decode cX8_tell 18 = .ok (.ifCond .ne 12, 3) := da9_dX8_tell_0.2.2.2.2.2.2.2.2.2.2.1
theorem dX8_tell_21 : decode cX8_tell 21 = .ok (.aload_n 0, 1) := da9_dX8_tell_0.2.2.2.2.2.2.2.2.2.2.2.1
theorem dX8_tell_22 : decode cX8_tell 22 = .ok (.getfield 9, 3) := da9_dX8_tell_0.2.2.2.2.2.2.2.2.2.2.2.2.1
theorem dX8_tell_25 : decode cX8_tell 25 = .ok (.iload_n 1, 1) := da9_dX8_tell_0.2.2.2.2.2.2.2.2.2.2.2.2.2.1
theorem dX8_tell_26 : decode cX8_tell 26 = .ok (.iaload, 1) := da9_dX8_tell_0.2.2.2.2.2.2.2.2.2.2.2.2.2.2.1
theorem dX8_tell_27 : decode cX8_tell 27 = .ok (.goto 9, 3) := da9_dX8_tell_0.2.2.2.2.2.2.2.2.2.2.2.2.2.2.2
theorem da9_dX8_tell_30 : (decode cX8_tell 30 = .ok (.aload_n 0, 1)) ∧ (decode cX8_tell 31 = .ok (.getfield 15, 3)) ∧ (decode cX8_tell 34 = .ok (.iload_n 1, 1)) ∧ (decode cX8_tell 35 = .ok (.iaload, 1)) ∧ (decode cX8_tell 36 = .ok (.ireturn, 1)) := by decide +kernel
theorem dX8_tell_30 : decode cX8_tell 30 = .ok (.aload_n 0, 1) := da9_dX8_tell_30.1
theorem dX8_tell_31 : decode cX8_tell 31 = .ok (.getfield 15, 3) := da9_dX8_tell_30.2.1
theorem dX8_tell_34 : decode cX8_tell 34 = .ok (.iload_n 1, 1) := da9_dX8_tell_30.2.2.1
theorem dX8_tell_35 : decode cX8_tell 35 = .ok (.iaload, 1) := da9_dX8_tell_30.2.2.2.1
theorem dX8_tell_36 : decode cX8_tell 36 = .ok (.ireturn, 1) := da9_dX8_tell_30.2.2.2.2
set_option maxRecDepth 20000 in
theorem ggX9_floor_X9_isRank : GoodIn wsX9_floor wsX9_isRank := wd_c vW9_ok mvW9_5
set_option maxRecDepth 20000 in
theorem gX9_floor_X9_isRank : GoodIn wsX9_floor (va_wsS RX9 111 yX9_isRank wsX9_isRank) := goodIn_app (wd_l vW9_ok _ pvW9_89) ggX9_floor_X9_isRank
set_option maxRecDepth 20000 in
theorem ggX9_floor_X9_isBit : GoodIn wsX9_floor wsX9_isBit := wd_c vW9_ok mvW9_8
set_option maxRecDepth 20000 in
theorem gX9_floor_X9_isBit : GoodIn wsX9_floor (va_wsS RX9 115 yX9_isBit wsX9_isBit) := goodIn_app (wd_l vW9_ok _ pvW9_90) ggX9_floor_X9_isBit
set_option maxRecDepth 20000 in
theorem ggX9_floor_X9_refuse : GoodIn wsX9_floor wsX9_refuse := wd_c vW9_ok mvW9_12
set_option maxRecDepth 20000 in
theorem gX9_floor_X9_refuse : GoodIn wsX9_floor (wsV RX9 118 RX9 yX9_refuse wsX9_refuse) := goodIn_app (wd_l vW9_ok _ pvW9_91) ggX9_floor_X9_refuse
set_option maxRecDepth 20000 in
theorem ggX9_floor_X8_has : GoodIn wsX9_floor wsX8_has := wd_c vW9_ok mvW9_19
set_option maxRecDepth 20000 in
theorem gX9_floor_X8_has : GoodIn wsX9_floor (wsV RX9 125 RX8 yX8_has wsX8_has) := goodIn_app (wd_l vW9_ok _ pvW9_92) ggX9_floor_X8_has
set_option maxRecDepth 20000 in
theorem ggX9_floor_X8_add : GoodIn wsX9_floor wsX8_add := wd_c vW9_ok mvW9_25
set_option maxRecDepth 20000 in
theorem gX9_floor_X8_add : GoodIn wsX9_floor (wsV RX9 128 RX8 yX8_add wsX8_add) := goodIn_app (wd_l vW9_ok _ pvW9_93) ggX9_floor_X8_add
set_option maxRecDepth 20000 in
theorem ggX9_floor_X0_clear : GoodIn wsX9_floor wsX0_clear := wd_c vW9_ok mvW9_31
set_option maxRecDepth 20000 in
theorem gX9_floor_X0_clear : GoodIn wsX9_floor (wsV RX9 132 RX0 yX0_clear wsX0_clear) := goodIn_app (wd_l vW9_ok _ pvW9_94) ggX9_floor_X0_clear
set_option maxRecDepth 20000 in
theorem ggX9_floor_X9_accept : GoodIn wsX9_floor wsX9_accept := wd_c vW9_ok mvW9_36
set_option maxRecDepth 20000 in
theorem gX9_floor_X9_accept : GoodIn wsX9_floor (wsV RX9 138 RX9 yX9_accept wsX9_accept) := goodIn_app (wd_l vW9_ok _ pvW9_95) ggX9_floor_X9_accept
theorem da9_dX9_floor_0 : (decode cX9_floor 0 = .ok (.iload_n 1, 1)) ∧ (decode cX9_floor 1 = .ok (.invokestatic 111, 3)) ∧ (decode cX9_floor 4 = .ok (.ifCond .eq 10, 3)) ∧ (decode cX9_floor 7 = .ok (.iload_n 2, 1)) ∧ (decode cX9_floor 8 = .ok (.invokestatic 115, 3)) ∧ (decode cX9_floor 11 = .ok (.ifCond .ne 9, 3)) ∧ (decode cX9_floor 14 = .ok (.aload_n 0, 1)) ∧ (decode cX9_floor 15 = .ok (.iconst (-1), 1)) ∧ (decode cX9_floor 16 = .ok (.invokevirtual 118, 3)) ∧ (decode cX9_floor 19 = .ok (.ireturn, 1)) ∧ (decode cX9_floor 20 = .ok (.aload_n 0, 1)) ∧ (decode cX9_floor 21 = .ok (.getfield 10, 3)) ∧ (decode cX9_floor 24 = .ok (.getfield 122, 3)) ∧ (decode cX9_floor 27 = .ok (.iload_n 1, 1)) ∧ (decode cX9_floor 28 = .ok (.invokevirtual 125, 3)) ∧ (decode cX9_floor 31 = .ok (.ifCond .eq 10, 3)) := by decide +kernel
theorem dX9_floor_0 : decode cX9_floor 0 = .ok (.iload_n 1, 1) := da9_dX9_floor_0.1
theorem dX9_floor_1 : decode cX9_floor 1 = .ok (.invokestatic 111, 3) := da9_dX9_floor_0.2.1
theorem dX9_floor_4 : decode cX9_floor 4 = .ok (.ifCond .eq 10, 3) := da9_dX9_floor_0.2.2.1
theorem dX9_floor_7 : decode cX9_floor 7 = .ok (.iload_n 2, 1) := da9_dX9_floor_0.2.2.2.1
theorem dX9_floor_8 : decode cX9_floor 8 = .ok (.invokestatic 115, 3) := da9_dX9_floor_0.2.2.2.2.1
theorem dX9_floor_11 : decode cX9_floor 11 = .ok (.ifCond .ne 9, 3) := da9_dX9_floor_0.2.2.2.2.2.1
theorem dX9_floor_14 : decode cX9_floor 14 = .ok (.aload_n 0, 1) := da9_dX9_floor_0.2.2.2.2.2.2.1
theorem dX9_floor_15 : decode cX9_floor 15 = .ok (.iconst (-1), 1) := da9_dX9_floor_0.2.2.2.2.2.2.2.1
theorem dX9_floor_16 : decode cX9_floor 16 = .ok (.invokevirtual 118, 3) := da9_dX9_floor_0.2.2.2.2.2.2.2.2.1
theorem dX9_floor_19 : decode cX9_floor 19 = .ok (.ireturn, 1) := da9_dX9_floor_0.2.2.2.2.2.2.2.2.2.1
theorem dX9_floor_20 : decode cX9_floor 20 = .ok (.aload_n 0, 1) := da9_dX9_floor_0.2.2.2.2.2.2.2.2.2.2.1
theorem dX9_floor_21 : decode cX9_floor 21 = .ok (.getfield 10, 3) := da9_dX9_floor_0.2.2.2.2.2.2.2.2.2.2.2.1
theorem dX9_floor_24 : decode cX9_floor 24 = .ok (.getfield 122, 3) := da9_dX9_floor_0.2.2.2.2.2.2.2.2.2.2.2.2.1
theorem dX9_floor_27 : decode cX9_floor 27 = .ok (.iload_n 1, 1) := da9_dX9_floor_0.2.2.2.2.2.2.2.2.2.2.2.2.2.1
theorem dX9_floor_28 : decode cX9_floor 28 = .ok (.invokevirtual 125, 3) := da9_dX9_floor_0.2.2.2.2.2.2.2.2.2.2.2.2.2.2.1
theorem dX9_floor_31 : decode cX9_floor 31 = .ok (.ifCond .eq 10, 3) := da9_dX9_floor_0.2.2.2.2.2.2.2.2.2.2.2.2.2.2.2
theorem da9_dX9_floor_34 : (decode cX9_floor 34 = .ok (.aload_n 0, 1)) ∧ (decode cX9_floor 35 = .ok (.bipush (-3), 2)) ∧ (decode cX9_floor 37 = .ok (.invokevirtual 118, 3)) ∧ (decode cX9_floor 40 = .ok (.ireturn, 1)) ∧ (decode cX9_floor 41 = .ok (.aload_n 0, 1)) ∧ (decode cX9_floor 42 = .ok (.getfield 10, 3)) ∧ (decode cX9_floor 45 = .ok (.getfield 122, 3)) ∧ (decode cX9_floor 48 = .ok (.iload_n 1, 1)) ∧ (decode cX9_floor 49 = .ok (.iload_n 2, 1)) ∧ (decode cX9_floor 50 = .ok (.invokevirtual 128, 3)) ∧ (decode cX9_floor 53 = .ok (.ifCond .ne 10, 3)) ∧ (decode cX9_floor 56 = .ok (.aload_n 0, 1)) ∧ (decode cX9_floor 57 = .ok (.bipush (-5), 2)) ∧ (decode cX9_floor 59 = .ok (.invokevirtual 118, 3)) ∧ (decode cX9_floor 62 = .ok (.ireturn, 1)) ∧ (decode cX9_floor 63 = .ok (.aload_n 0, 1)) := by decide +kernel
theorem dX9_floor_34 : decode cX9_floor 34 = .ok (.aload_n 0, 1) := da9_dX9_floor_34.1
theorem dX9_floor_35 : decode cX9_floor 35 = .ok (.bipush (-3), 2) := da9_dX9_floor_34.2.1
theorem dX9_floor_37 : decode cX9_floor 37 = .ok (.invokevirtual 118, 3) := da9_dX9_floor_34.2.2.1
theorem dX9_floor_40 : decode cX9_floor 40 = .ok (.ireturn, 1) := da9_dX9_floor_34.2.2.2.1
theorem dX9_floor_41 : decode cX9_floor 41 = .ok (.aload_n 0, 1) := da9_dX9_floor_34.2.2.2.2.1
theorem dX9_floor_42 : decode cX9_floor 42 = .ok (.getfield 10, 3) := da9_dX9_floor_34.2.2.2.2.2.1
theorem dX9_floor_45 : decode cX9_floor 45 = .ok (.getfield 122, 3) := da9_dX9_floor_34.2.2.2.2.2.2.1
theorem dX9_floor_48 : decode cX9_floor 48 = .ok (.iload_n 1, 1) := da9_dX9_floor_34.2.2.2.2.2.2.2.1
theorem dX9_floor_49 : decode cX9_floor 49 = .ok (.iload_n 2, 1) := da9_dX9_floor_34.2.2.2.2.2.2.2.2.1
theorem dX9_floor_50 : decode cX9_floor 50 = .ok (.invokevirtual 128, 3) := da9_dX9_floor_34.2.2.2.2.2.2.2.2.2.1
theorem dX9_floor_53 : decode cX9_floor 53 = .ok (.ifCond .ne 10, 3) := da9_dX9_floor_34.2.2.2.2.2.2.2.2.2.2.1
theorem dX9_floor_56 : decode cX9_floor 56 = .ok (.aload_n 0, 1) := da9_dX9_floor_34.2.2.2.2.2.2.2.2.2.2.2.1
theorem dX9_floor_57 : decode cX9_floor 57 = .ok (.bipush (-5), 2) := da9_dX9_floor_34.2.2.2.2.2.2.2.2.2.2.2.2.1
theorem dX9_floor_59 : decode cX9_floor 59 = .ok (.invokevirtual 118, 3) := da9_dX9_floor_34.2.2.2.2.2.2.2.2.2.2.2.2.2.1
theorem dX9_floor_62 : decode cX9_floor 62 = .ok (.ireturn, 1) := da9_dX9_floor_34.2.2.2.2.2.2.2.2.2.2.2.2.2.2.1
theorem dX9_floor_63 : decode cX9_floor 63 = .ok (.aload_n 0, 1) := da9_dX9_floor_34.2.2.2.2.2.2.2.2.2.2.2.2.2.2.2
theorem da9_dX9_floor_64 : (decode cX9_floor 64 = .ok (.getfield 27, 3)) ∧ (decode cX9_floor 67 = .ok (.invokevirtual 132, 3)) ∧ (decode cX9_floor 70 = .ok (.aload_n 0, 1)) ∧ (decode cX9_floor 71 = .ok (.aload_n 0, 1)) ∧ (decode cX9_floor 72 = .ok (.getfield 10, 3)) ∧ (decode cX9_floor 75 = .ok (.getfield 122, 3)) ∧ (decode cX9_floor 78 = .ok (.getfield 135, 3)) ∧ (decode cX9_floor 81 = .ok (.iconst 1, 1)) ∧ (decode cX9_floor 82 = .ok (.isub, 1)) ∧ (decode cX9_floor 83 = .ok (.invokevirtual 138, 3)) ∧ (decode cX9_floor 86 = .ok (.ireturn, 1)) := by decide +kernel
theorem dX9_floor_64 : decode cX9_floor 64 = .ok (.getfield 27, 3) := da9_dX9_floor_64.1
theorem dX9_floor_67 : decode cX9_floor 67 = .ok (.invokevirtual 132, 3) := da9_dX9_floor_64.2.1
theorem dX9_floor_70 : decode cX9_floor 70 = .ok (.aload_n 0, 1) := da9_dX9_floor_64.2.2.1
theorem dX9_floor_71 : decode cX9_floor 71 = .ok (.aload_n 0, 1) := da9_dX9_floor_64.2.2.2.1
theorem dX9_floor_72 : decode cX9_floor 72 = .ok (.getfield 10, 3) := da9_dX9_floor_64.2.2.2.2.1
theorem dX9_floor_75 : decode cX9_floor 75 = .ok (.getfield 122, 3) := da9_dX9_floor_64.2.2.2.2.2.1
theorem dX9_floor_78 : decode cX9_floor 78 = .ok (.getfield 135, 3) := da9_dX9_floor_64.2.2.2.2.2.2.1
theorem dX9_floor_81 : decode cX9_floor 81 = .ok (.iconst 1, 1) := da9_dX9_floor_64.2.2.2.2.2.2.2.1
theorem dX9_floor_82 : decode cX9_floor 82 = .ok (.isub, 1) := da9_dX9_floor_64.2.2.2.2.2.2.2.2.1
theorem dX9_floor_83 : decode cX9_floor 83 = .ok (.invokevirtual 138, 3) := da9_dX9_floor_64.2.2.2.2.2.2.2.2.2.1
theorem dX9_floor_86 : decode cX9_floor 86 = .ok (.ireturn, 1) := da9_dX9_floor_64.2.2.2.2.2.2.2.2.2.2
theorem da9_dX9_refuse_0 : (decode cX9_refuse 0 = .ok (.aload_n 0, 1)) ∧ (decode cX9_refuse 1 = .ok (.iload_n 1, 1)) ∧ (decode cX9_refuse 2 = .ok (.putfield 108, 3)) ∧ (decode cX9_refuse 5 = .ok (.iload_n 1, 1)) ∧ (decode cX9_refuse 6 = .ok (.ifCond .ge 20, 3)) ∧ (decode cX9_refuse 9 = .ok (.iload_n 1, 1)) ∧ (decode cX9_refuse 10 = .ok (.bipush (-6), 2)) ∧ (decode cX9_refuse 12 = .ok (.if_icmp .lt 14, 3)) ∧ (decode cX9_refuse 15 = .ok (.aload_n 0, 1)) ∧ (decode cX9_refuse 16 = .ok (.getfield 105, 3)) ∧ (decode cX9_refuse 19 = .ok (.iload_n 1, 1)) ∧ (decode cX9_refuse 20 = .ok (.ineg, 1)) ∧ (decode cX9_refuse 21 = .ok (.dup2, 1)) ∧ (decode cX9_refuse 22 = .ok (.iaload, 1)) ∧ (decode cX9_refuse 23 = .ok (.iconst 1, 1)) ∧ (decode cX9_refuse 24 = .ok (.iadd, 1)) := by decide +kernel
theorem dX9_refuse_0 : decode cX9_refuse 0 = .ok (.aload_n 0, 1) := da9_dX9_refuse_0.1
theorem dX9_refuse_1 : decode cX9_refuse 1 = .ok (.iload_n 1, 1) := da9_dX9_refuse_0.2.1
theorem dX9_refuse_2 : decode cX9_refuse 2 = .ok (.putfield 108, 3) := da9_dX9_refuse_0.2.2.1
theorem dX9_refuse_5 : decode cX9_refuse 5 = .ok (.iload_n 1, 1) := da9_dX9_refuse_0.2.2.2.1
theorem dX9_refuse_6 : decode cX9_refuse 6 = .ok (.ifCond .ge 20, 3) := da9_dX9_refuse_0.2.2.2.2.1
theorem dX9_refuse_9 : decode cX9_refuse 9 = .ok (.iload_n 1, 1) := da9_dX9_refuse_0.2.2.2.2.2.1
theorem dX9_refuse_10 : decode cX9_refuse 10 = .ok (.bipush (-6), 2) := da9_dX9_refuse_0.2.2.2.2.2.2.1
theorem dX9_refuse_12 : decode cX9_refuse 12 = .ok (.if_icmp .lt 14, 3) := da9_dX9_refuse_0.2.2.2.2.2.2.2.1
theorem dX9_refuse_15 : decode cX9_refuse 15 = .ok (.aload_n 0, 1) := da9_dX9_refuse_0.2.2.2.2.2.2.2.2.1
theorem dX9_refuse_16 : decode cX9_refuse 16 = .ok (.getfield 105, 3) := da9_dX9_refuse_0.2.2.2.2.2.2.2.2.2.1
theorem dX9_refuse_19 : decode cX9_refuse 19 = .ok (.iload_n 1, 1) := da9_dX9_refuse_0.2.2.2.2.2.2.2.2.2.2.1
theorem dX9_refuse_20 : decode cX9_refuse 20 = .ok (.ineg, 1) := da9_dX9_refuse_0.2.2.2.2.2.2.2.2.2.2.2.1
theorem dX9_refuse_21 : decode cX9_refuse 21 = .ok (.dup2, 1) := da9_dX9_refuse_0.2.2.2.2.2.2.2.2.2.2.2.2.1
theorem dX9_refuse_22 : decode cX9_refuse 22 = .ok (.iaload, 1) := da9_dX9_refuse_0.2.2.2.2.2.2.2.2.2.2.2.2.2.1
theorem dX9_refuse_23 : decode cX9_refuse 23 = .ok (.iconst 1, 1) := da9_dX9_refuse_0.2.2.2.2.2.2.2.2.2.2.2.2.2.2.1
theorem dX9_refuse_24 : decode cX9_refuse 24 = .ok (.iadd, 1) := da9_dX9_refuse_0.2.2.2.2.2.2.2.2.2.2.2.2.2.2.2
theorem da9_dX9_refuse_25 : (decode cX9_refuse 25 = .ok (.iastore, 1)) ∧ (decode cX9_refuse 26 = .ok (.iload_n 1, 1)) ∧ (decode cX9_refuse 27 = .ok (.ireturn, 1)) := by decide +kernel
theorem dX9_refuse_25 : decode cX9_refuse 25 = .ok (.iastore, 1) := da9_dX9_refuse_25.1
theorem dX9_refuse_26 : decode cX9_refuse 26 = .ok (.iload_n 1, 1) := da9_dX9_refuse_25.2.1
theorem dX9_refuse_27 : decode cX9_refuse 27 = .ok (.ireturn, 1) := da9_dX9_refuse_25.2.2
theorem da9_dX9_accept_0 : (decode cX9_accept 0 = .ok (.aload_n 0, 1)) ∧ (decode cX9_accept 1 = .ok (.iconst 0, 1)) ∧ (decode cX9_accept 2 = .ok (.putfield 108, 3)) ∧ (decode cX9_accept 5 = .ok (.iload_n 1, 1)) ∧ (decode cX9_accept 6 = .ok (.ireturn, 1)) := by decide +kernel
theorem dX9_accept_0 : decode cX9_accept 0 = .ok (.aload_n 0, 1) := da9_dX9_accept_0.1
theorem dX9_accept_1 : decode cX9_accept 1 = .ok (.iconst 0, 1) := da9_dX9_accept_0.2.1
theorem dX9_accept_2 : decode cX9_accept 2 = .ok (.putfield 108, 3) := da9_dX9_accept_0.2.2.1
theorem dX9_accept_5 : decode cX9_accept 5 = .ok (.iload_n 1, 1) := da9_dX9_accept_0.2.2.2.1
theorem dX9_accept_6 : decode cX9_accept 6 = .ok (.ireturn, 1) := da9_dX9_accept_0.2.2.2.2
set_option maxRecDepth 20000 in
theorem ggX9_seated_X6_lawAt : GoodIn wsX9_seated wsX6_lawAt := wd_c vW9_ok mvW9_50
set_option maxRecDepth 20000 in
theorem gX9_seated_X6_lawAt : GoodIn wsX9_seated (wsV RX9 306 RX6 yX6_lawAt wsX6_lawAt) := goodIn_app (wd_l vW9_ok _ pvW9_130) ggX9_seated_X6_lawAt
set_option maxRecDepth 20000 in
theorem ggX9_seated_X1_seat : GoodIn wsX9_seated wsX1_seat := wd_c vW9_ok mvW9_61
set_option maxRecDepth 20000 in
theorem gX9_seated_X1_seat : GoodIn wsX9_seated (wsV RX9 313 RX1 yX1_seat wsX1_seat) := goodIn_app (wd_l vW9_ok _ pvW9_131) ggX9_seated_X1_seat
theorem da9_dX9_seated_0 : (decode cX9_seated 0 = .ok (.aload_n 0, 1)) ∧ (decode cX9_seated 1 = .ok (.getfield 50, 3)) ∧ (decode cX9_seated 4 = .ok (.aload_n 0, 1)) ∧ (decode cX9_seated 5 = .ok (.getfield 10, 3)) ∧ (decode cX9_seated 8 = .ok (.aload_n 0, 1)) ∧ (decode cX9_seated 9 = .ok (.getfield 10, 3)) ∧ (decode cX9_seated 12 = .ok (.getfield 208, 3)) ∧ (decode cX9_seated 15 = .ok (.invokevirtual 306, 3)) ∧ (decode cX9_seated 18 = .ok (.aload_n 0, 1)) ∧ (decode cX9_seated 19 = .ok (.getfield 10, 3)) ∧ (decode cX9_seated 22 = .ok (.getfield 310, 3)) ∧ (decode cX9_seated 25 = .ok (.invokevirtual 313, 3)) ∧ (decode cX9_seated 28 = .ok (.aload_n 0, 1)) ∧ (decode cX9_seated 29 = .ok (.getfield 50, 3)) ∧ (decode cX9_seated 32 = .ok (.areturn, 1)) := by decide +kernel
theorem dX9_seated_0 : decode cX9_seated 0 = .ok (.aload_n 0, 1) := da9_dX9_seated_0.1
theorem dX9_seated_1 : decode cX9_seated 1 = .ok (.getfield 50, 3) := da9_dX9_seated_0.2.1
theorem dX9_seated_4 : decode cX9_seated 4 = .ok (.aload_n 0, 1) := da9_dX9_seated_0.2.2.1
theorem dX9_seated_5 : decode cX9_seated 5 = .ok (.getfield 10, 3) := da9_dX9_seated_0.2.2.2.1
theorem dX9_seated_8 : decode cX9_seated 8 = .ok (.aload_n 0, 1) := da9_dX9_seated_0.2.2.2.2.1
theorem dX9_seated_9 : decode cX9_seated 9 = .ok (.getfield 10, 3) := da9_dX9_seated_0.2.2.2.2.2.1
theorem dX9_seated_12 : decode cX9_seated 12 = .ok (.getfield 208, 3) := da9_dX9_seated_0.2.2.2.2.2.2.1
theorem dX9_seated_15 : decode cX9_seated 15 = .ok (.invokevirtual 306, 3) := da9_dX9_seated_0.2.2.2.2.2.2.2.1
theorem dX9_seated_18 : decode cX9_seated 18 = .ok (.aload_n 0, 1) := da9_dX9_seated_0.2.2.2.2.2.2.2.2.1
theorem dX9_seated_19 : decode cX9_seated 19 = .ok (.getfield 10, 3) := da9_dX9_seated_0.2.2.2.2.2.2.2.2.2.1
theorem dX9_seated_22 : decode cX9_seated 22 = .ok (.getfield 310, 3) := da9_dX9_seated_0.2.2.2.2.2.2.2.2.2.2.1
theorem dX9_seated_25 : decode cX9_seated 25 = .ok (.invokevirtual 313, 3) := da9_dX9_seated_0.2.2.2.2.2.2.2.2.2.2.2.1
theorem dX9_seated_28 : decode cX9_seated 28 = .ok (.aload_n 0, 1) := da9_dX9_seated_0.2.2.2.2.2.2.2.2.2.2.2.2.1
theorem dX9_seated_29 : decode cX9_seated 29 = .ok (.getfield 50, 3) := da9_dX9_seated_0.2.2.2.2.2.2.2.2.2.2.2.2.2.1
theorem dX9_seated_32 : decode cX9_seated 32 = .ok (.areturn, 1) := da9_dX9_seated_0.2.2.2.2.2.2.2.2.2.2.2.2.2.2
theorem da9_dX9_isRank_0 : (decode cX9_isRank 0 = .ok (.iload_n 0, 1)) ∧ (decode cX9_isRank 1 = .ok (.ifCond .lt 13, 3)) ∧ (decode cX9_isRank 4 = .ok (.iload_n 0, 1)) ∧ (decode cX9_isRank 5 = .ok (.bipush 6, 2)) ∧ (decode cX9_isRank 7 = .ok (.if_icmp .ge 7, 3)) ∧ (decode cX9_isRank 10 = .ok (.iconst 1, 1)) ∧ (decode cX9_isRank 11 = .ok (.goto 4, 3)) ∧ (decode cX9_isRank 14 = .ok (.iconst 0, 1)) ∧ (decode cX9_isRank 15 = .ok (.ireturn, 1)) := by decide +kernel
theorem dX9_isRank_0 : decode cX9_isRank 0 = .ok (.iload_n 0, 1) := da9_dX9_isRank_0.1
theorem dX9_isRank_1 : decode cX9_isRank 1 = .ok (.ifCond .lt 13, 3) := da9_dX9_isRank_0.2.1
theorem dX9_isRank_4 : decode cX9_isRank 4 = .ok (.iload_n 0, 1) := da9_dX9_isRank_0.2.2.1
theorem dX9_isRank_5 : decode cX9_isRank 5 = .ok (.bipush 6, 2) := da9_dX9_isRank_0.2.2.2.1
theorem dX9_isRank_7 : decode cX9_isRank 7 = .ok (.if_icmp .ge 7, 3) := da9_dX9_isRank_0.2.2.2.2.1
theorem dX9_isRank_10 : decode cX9_isRank 10 = .ok (.iconst 1, 1) := da9_dX9_isRank_0.2.2.2.2.2.1
theorem dX9_isRank_11 : decode cX9_isRank 11 = .ok (.goto 4, 3) := da9_dX9_isRank_0.2.2.2.2.2.2.1
theorem dX9_isRank_14 : decode cX9_isRank 14 = .ok (.iconst 0, 1) := da9_dX9_isRank_0.2.2.2.2.2.2.2.1
theorem dX9_isRank_15 : decode cX9_isRank 15 = .ok (.ireturn, 1) := da9_dX9_isRank_0.2.2.2.2.2.2.2.2
theorem da9_dX9_isBit_0 : (decode cX9_isBit 0 = .ok (.iload_n 0, 1)) ∧ (decode cX9_isBit 1 = .ok (.ifCond .eq 8, 3)) ∧ (decode cX9_isBit 4 = .ok (.iload_n 0, 1)) ∧ (decode cX9_isBit 5 = .ok (.iconst 1, 1)) ∧ (decode cX9_isBit 6 = .ok (.if_icmp .ne 7, 3)) ∧ (decode cX9_isBit 9 = .ok (.iconst 1, 1)) ∧ (decode cX9_isBit 10 = .ok (.goto 4, 3)) ∧ (decode cX9_isBit 13 = .ok (.iconst 0, 1)) ∧ (decode cX9_isBit 14 = .ok (.ireturn, 1)) := by decide +kernel
theorem dX9_isBit_0 : decode cX9_isBit 0 = .ok (.iload_n 0, 1) := da9_dX9_isBit_0.1
theorem dX9_isBit_1 : decode cX9_isBit 1 = .ok (.ifCond .eq 8, 3) := da9_dX9_isBit_0.2.1
theorem dX9_isBit_4 : decode cX9_isBit 4 = .ok (.iload_n 0, 1) := da9_dX9_isBit_0.2.2.1
theorem dX9_isBit_5 : decode cX9_isBit 5 = .ok (.iconst 1, 1) := da9_dX9_isBit_0.2.2.2.1
theorem dX9_isBit_6 : decode cX9_isBit 6 = .ok (.if_icmp .ne 7, 3) := da9_dX9_isBit_0.2.2.2.2.1
theorem dX9_isBit_9 : decode cX9_isBit 9 = .ok (.iconst 1, 1) := da9_dX9_isBit_0.2.2.2.2.2.1
theorem dX9_isBit_10 : decode cX9_isBit 10 = .ok (.goto 4, 3) := da9_dX9_isBit_0.2.2.2.2.2.2.1
theorem dX9_isBit_13 : decode cX9_isBit 13 = .ok (.iconst 0, 1) := da9_dX9_isBit_0.2.2.2.2.2.2.2.1
theorem dX9_isBit_14 : decode cX9_isBit 14 = .ok (.ireturn, 1) := da9_dX9_isBit_0.2.2.2.2.2.2.2.2
end
section
theorem u9_wsX8_has_X8 : ∀ w ∈ u_ws RX8 TX8 5, w ∈ wsX8_has := fun w h => List.mem_cons_of_mem _ (vW9_wsX80 w h)
theorem f9_wsX8_has_344 : (Cond.fieldLink RX8 18 "TurnedFloors$Tower" "floors" "I") ∈ wsX8_has := List.mem_cons_of_mem _ mvW9_20
theorem f9_wsX8_has_345 : (Cond.fieldLink RX8 9 "TurnedFloors$Tower" "rank" "[I") ∈ wsX8_has := List.mem_cons_of_mem _ mvW9_21
theorem u9_wsX8_add_X8 : ∀ w ∈ u_ws RX8 TX8 5, w ∈ wsX8_add := fun w h => List.mem_cons_of_mem _ (vW9_wsX80 w h)
theorem f9_wsX8_add_347 : (Cond.fieldLink RX8 18 "TurnedFloors$Tower" "floors" "I") ∈ wsX8_add := List.mem_cons_of_mem _ mvW9_20
theorem f9_wsX8_add_348 : (Cond.fieldLink RX8 9 "TurnedFloors$Tower" "rank" "[I") ∈ wsX8_add := List.mem_cons_of_mem _ mvW9_21
theorem f9_wsX8_add_349 : (Cond.fieldLink RX8 15 "TurnedFloors$Tower" "head" "[I") ∈ wsX8_add := List.mem_cons_of_mem _ mvW9_26
theorem u9_wsX0_clear_X0 : ∀ w ∈ u_ws RX0 TX0 6, w ∈ wsX0_clear := fun w h => List.mem_cons_of_mem _ (vW9_wsX00 w h)
theorem f9_wsX0_clear_351 : (Cond.fieldLink RX0 19 "TurnedFloors$History" "kept" "I") ∈ wsX0_clear := List.mem_cons_of_mem _ mvW9_32
theorem u9_wsX9_accept_X9 : ∀ w ∈ u_ws RX9 TX9 19, w ∈ wsX9_accept := fun w h => List.mem_cons_of_mem _ (vW9_wsX90 w h)
theorem f9_wsX9_accept_353 : (Cond.fieldLink RX9 108 "TurnedFloors" "latestStatus" "I") ∈ wsX9_accept := List.mem_cons_of_mem _ mvW9_13
theorem u9_wsX9_refuse_X9 : ∀ w ∈ u_ws RX9 TX9 19, w ∈ wsX9_refuse := fun w h => List.mem_cons_of_mem _ (vW9_wsX90 w h)
theorem f9_wsX9_refuse_355 : (Cond.fieldLink RX9 108 "TurnedFloors" "latestStatus" "I") ∈ wsX9_refuse := List.mem_cons_of_mem _ mvW9_13
theorem f9_wsX9_refuse_356 : (Cond.fieldLink RX9 105 "TurnedFloors" "refusals" "[I") ∈ wsX9_refuse := List.mem_cons_of_mem _ mvW9_14
theorem u9_wsX9_floor_X9 : ∀ w ∈ u_ws RX9 TX9 19, w ∈ wsX9_floor := fun w h => List.mem_cons_of_mem _ (vW9_wsX90 w h)
theorem u9_wsX9_floor_X6 : ∀ w ∈ u_ws RX6 TX6 10, w ∈ wsX9_floor := fun w h => List.mem_cons_of_mem _ (vW9_wsX60 w h)
theorem u9_wsX9_floor_X8 : ∀ w ∈ u_ws RX8 TX8 5, w ∈ wsX9_floor := fun w h => List.mem_cons_of_mem _ (vW9_wsX80 w h)
theorem f9_wsX9_floor_360 : (Cond.fieldLink RX9 10 "TurnedFloors" "state" "LTurnedFloors$State;") ∈ wsX9_floor := List.mem_cons_of_mem _ mvW9_0
theorem f9_wsX9_floor_361 : (Cond.fieldLink RX9 27 "TurnedFloors" "history" "LTurnedFloors$History;") ∈ wsX9_floor := List.mem_cons_of_mem _ mvW9_1
theorem u9_wsX8_isFloor_X8 : ∀ w ∈ u_ws RX8 TX8 5, w ∈ wsX8_isFloor := fun w h => List.mem_cons_of_mem _ (vW9_wsX80 w h)
theorem f9_wsX8_isFloor_363 : (Cond.fieldLink RX8 18 "TurnedFloors$Tower" "floors" "I") ∈ wsX8_isFloor := List.mem_cons_of_mem _ mvW9_20
theorem u9_wsX8_tell_X8 : ∀ w ∈ u_ws RX8 TX8 5, w ∈ wsX8_tell := fun w h => List.mem_cons_of_mem _ (vW9_wsX80 w h)
theorem f9_wsX8_tell_365 : (Cond.initialized RX9) ∈ wsX8_tell := List.mem_cons_of_mem _ mvW9_4
theorem f9_wsX8_tell_366 : (Cond.fieldLink RX8 15 "TurnedFloors$Tower" "head" "[I") ∈ wsX8_tell := List.mem_cons_of_mem _ mvW9_26
theorem f9_wsX8_tell_367 : (Cond.fieldLink RX8 9 "TurnedFloors$Tower" "rank" "[I") ∈ wsX8_tell := List.mem_cons_of_mem _ mvW9_21
theorem u9_wsX6_isLaw_X6 : ∀ w ∈ u_ws RX6 TX6 10, w ∈ wsX6_isLaw := fun w h => List.mem_cons_of_mem _ (vW9_wsX60 w h)
theorem f9_wsX6_isLaw_369 : (Cond.fieldLink RX6 44 "TurnedFloors$State" "lawCount" "I") ∈ wsX6_isLaw := List.mem_cons_of_mem _ mvW9_56
theorem u9_wsX6_lawAt_X6 : ∀ w ∈ u_ws RX6 TX6 10, w ∈ wsX6_lawAt := fun w h => List.mem_cons_of_mem _ (vW9_wsX60 w h)
theorem f9_wsX6_lawAt_371 : (Cond.fieldLink RX6 40 "TurnedFloors$State" "laws" "[LTurnedFloors$Text;") ∈ wsX6_lawAt := List.mem_cons_of_mem _ mvW9_51
theorem u9_wsX1_seat_X1 : ∀ w ∈ u_ws RX1 TX1 3, w ∈ wsX1_seat := fun w h => List.mem_cons_of_mem _ (vW9_wsX10 w h)
theorem f9_wsX1_seat_373 : (Cond.fieldLink RX1 15 "TurnedFloors$Judge" "law" "LTurnedFloors$Text;") ∈ wsX1_seat := List.mem_cons_of_mem _ mvW9_62
theorem f9_wsX1_seat_374 : (Cond.fieldLink RX1 11 "TurnedFloors$Judge" "words" "[I") ∈ wsX1_seat := List.mem_cons_of_mem _ mvW9_63
theorem u9_wsX9_seated_X9 : ∀ w ∈ u_ws RX9 TX9 19, w ∈ wsX9_seated := fun w h => List.mem_cons_of_mem _ (vW9_wsX90 w h)
theorem u9_wsX9_seated_X6 : ∀ w ∈ u_ws RX6 TX6 10, w ∈ wsX9_seated := fun w h => List.mem_cons_of_mem _ (vW9_wsX60 w h)
theorem f9_wsX9_seated_377 : (Cond.fieldLink RX9 50 "TurnedFloors" "judge" "LTurnedFloors$Judge;") ∈ wsX9_seated := List.mem_cons_of_mem _ mvW9_45
theorem f9_wsX9_seated_378 : (Cond.fieldLink RX9 10 "TurnedFloors" "state" "LTurnedFloors$State;") ∈ wsX9_seated := List.mem_cons_of_mem _ mvW9_0
theorem u9_wsX1_setCommon_X1 : ∀ w ∈ u_ws RX1 TX1 3, w ∈ wsX1_setCommon := fun w h => List.mem_cons_of_mem _ (vW9_wsX10 w h)
theorem f9_wsX1_setCommon_380 : (Cond.fieldLink RX1 11 "TurnedFloors$Judge" "words" "[I") ∈ wsX1_setCommon := List.mem_cons_of_mem _ mvW9_63
set_option maxHeartbeats 4000000 in
set_option maxRecDepth 100000 in
theorem WX9_isRank_15 {p : Program} {l : Launch} {e : Env} {s : State} {m : MethodId} {args : Array Value} {below : List Frame} {meth : Method} {c : Code} {D : va_G} {ty : Nat → ClassId} {eo : Nat → Nat} {A : Nat → Prop} {o1 : Int32} (C : dc_C p s m args meth c cX9_isRank (some .boolean) 1 RX9 wsX9_isRank D ty eo A)   (y0 : Int32) (H : Heap) (locs : List Loc) (ls : Array Slot) (h : zX9_isRank_15  y0 = some o1) (hP : va_P D vwCl (([] : va_W)) H) (hD : va_D A (([] : va_W))) (hS : va_S A s.heap H locs) (hl : lv_has ls 1 []) : W p l e ({ frames := 0, cells := 0, slots := 0, locals := 0 } : Room) s m args below meth c H locs 0 0 (MQ below (va_Qi (fun (r : Int32) (u : va_W) => o1 = r ∧ ([] : va_W) = u) (kz_B D ty A) A) args s 0 0 A) (F0 m 15 ls [.int y0]) := by
  have C0 := C
  obtain ⟨hx, hb, hr, hts, hown, hlocks, hml, hK, hN, hE, hA⟩ := C
  unfold zX9_isRank_15 at h
  obtain ⟨g1, h⟩ := dG_some h
  cases h
  exact kz_zret hx hb hr hlocks (dbl_nar g1) hP hK hD hS dX9_isRank_15 ⟨rfl, rfl⟩
set_option maxHeartbeats 4000000 in
set_option maxRecDepth 100000 in
theorem WX9_isRank_14 {p : Program} {l : Launch} {e : Env} {s : State} {m : MethodId} {args : Array Value} {below : List Frame} {meth : Method} {c : Code} {D : va_G} {ty : Nat → ClassId} {eo : Nat → Nat} {A : Nat → Prop} {o1 : Int32} (C : dc_C p s m args meth c cX9_isRank (some .boolean) 1 RX9 wsX9_isRank D ty eo A)    (H : Heap) (locs : List Loc) (ls : Array Slot) (h : zX9_isRank_14   = some o1) (hP : va_P D vwCl (([] : va_W)) H) (hD : va_D A (([] : va_W))) (hS : va_S A s.heap H locs) (hl : lv_has ls 1 []) : W p l e ({ frames := 0, cells := 0, slots := 0, locals := 0 } : Room) s m args below meth c H locs 0 0 (MQ below (va_Qi (fun (r : Int32) (u : va_W) => o1 = r ∧ ([] : va_W) = u) (kz_B D ty A) A) args s 0 0 A) (F0 m 14 ls []) := by
  have C0 := C
  obtain ⟨hx, hb, hr, hts, hown, hlocks, hml, hK, hN, hE, hA⟩ := C
  unfold zX9_isRank_14 at h
  refine lv_iconst (v := 0) hx hb dX9_isRank_14 (by decide) ?_
  exact WX9_isRank_15 C0  _ _ _ _ h hP hD hS (lv_sub hl [] rfl)
set_option maxHeartbeats 4000000 in
set_option maxRecDepth 100000 in
theorem qX9_isRank (l : Launch) (D : va_G) (ty : Nat → ClassId) (eo : Nat → Nat) (sz : Nat) (p1 : Int32) (o1 : Int32) (h : zX9_isRank p1 = some o1) : Met l yX9_isRank wsX9_isRank ({ frames := 0, cells := 0, slots := 0, locals := 0 } : Room) (va_Pc [.int p1] (kz_pre D ty eo (([] : va_W)) sz)) (va_Qi (fun (r : Int32) (u : va_W) => o1 = r ∧ ([] : va_W) = u) (kz_B D ty (va_A (([] : va_W)) sz)) (va_A (([] : va_W)) sz)) 0 0 (va_A (([] : va_W)) sz) := by
  refine Met.ofW (cc := cX9_isRank) (maxL := 1) (ret := (some .boolean)) (by decide) rfl ?_
  intro p e s m args below meth c s₁ B hml hv
  obtain ⟨rfl, hsz, hP, hK, hD0, hN, hE⟩ := hv
  have hx := B.exec
  have hb := B.bytes
  have hr := B.returns
  have hts := atoms_spec (ws := wsX9_isRank) B.pre
  have hown : s.vm.findClass RX9 = some m.cls := findClass_of_methodNamed B.named
  have hlocks := B.notSynchronized
  subst hsz
  have hD := hD0.self (sz := s.heap.size)
  generalize hAe : va_A (([] : va_W)) s.heap.size = A at hD hE ⊢
  have hA : ∀ q : Nat, s.heap.size ≤ q → A q := fun q h => by rw [← hAe]; exact Or.inr h
  clear hAe
  have hS : va_S A s.heap s.heap [] := va_S.rf
  have hl := lv_entry ([.int p1]) (n := 1) (Nat.le_of_ble_eq_true rfl)
  rw [lg_entry_eq]
  generalize (lg_sl ([.int p1]) ++ List.replicate (1 - (lg_sl ([.int p1])).length) Slot.unset).toArray = ls at hl ⊢
  have hl : lv_has ls 1 [(0, .int p1)] := hl
  have C : dc_C p s m _ meth c cX9_isRank (some .boolean) 1 RX9 wsX9_isRank D ty eo A := ⟨hx, hb, hr, hts, hown, hlocks, hml, hK, hN, hE, hA⟩
  unfold zX9_isRank at h
  refine lv_iload_n hx hb dX9_isRank_0 rfl (lv_at hl 0 rfl) ?_
  refine lv_if_lt (tgt := 14) hx hb dX9_isRank_1 (by decide) (fun c9 => ?_) (fun c9 => ?_)
  · rw [if_pos c9] at h
    exact WX9_isRank_14 C  _ _ _ h hP hD hS (lv_sub hl [] rfl)
  · rw [if_neg c9] at h
    refine lv_iload_n hx hb dX9_isRank_4 rfl (lv_at hl 0 rfl) ?_
    refine lv_bipush (v := 6) hx hb dX9_isRank_5 (by decide) ?_
    refine lv_icmp_ge (tgt := 14) hx hb dX9_isRank_7 (by decide) (fun c9 => ?_) (fun c9 => ?_)
    · rw [if_pos c9] at h
      exact WX9_isRank_14 C  _ _ _ h hP hD hS (lv_sub hl [] rfl)
    · rw [if_neg c9] at h
      refine lv_iconst (v := 1) hx hb dX9_isRank_10 (by decide) ?_
      refine lv_goto (tgt := 15) hx hb dX9_isRank_11 (by decide) ?_
      exact WX9_isRank_15 C  _ _ _ _ h hP hD hS (lv_sub hl [] rfl)

set_option maxHeartbeats 4000000 in
set_option maxRecDepth 100000 in
theorem WX9_isBit_14 {p : Program} {l : Launch} {e : Env} {s : State} {m : MethodId} {args : Array Value} {below : List Frame} {meth : Method} {c : Code} {D : va_G} {ty : Nat → ClassId} {eo : Nat → Nat} {A : Nat → Prop} {o1 : Int32} (C : dc_C p s m args meth c cX9_isBit (some .boolean) 1 RX9 wsX9_isBit D ty eo A)   (y0 : Int32) (H : Heap) (locs : List Loc) (ls : Array Slot) (h : zX9_isBit_14  y0 = some o1) (hP : va_P D vwCl (([] : va_W)) H) (hD : va_D A (([] : va_W))) (hS : va_S A s.heap H locs) (hl : lv_has ls 1 []) : W p l e ({ frames := 0, cells := 0, slots := 0, locals := 0 } : Room) s m args below meth c H locs 0 0 (MQ below (va_Qi (fun (r : Int32) (u : va_W) => o1 = r ∧ ([] : va_W) = u) (kz_B D ty A) A) args s 0 0 A) (F0 m 14 ls [.int y0]) := by
  have C0 := C
  obtain ⟨hx, hb, hr, hts, hown, hlocks, hml, hK, hN, hE, hA⟩ := C
  unfold zX9_isBit_14 at h
  obtain ⟨g1, h⟩ := dG_some h
  cases h
  exact kz_zret hx hb hr hlocks (dbl_nar g1) hP hK hD hS dX9_isBit_14 ⟨rfl, rfl⟩
set_option maxHeartbeats 4000000 in
set_option maxRecDepth 100000 in
theorem WX9_isBit_9 {p : Program} {l : Launch} {e : Env} {s : State} {m : MethodId} {args : Array Value} {below : List Frame} {meth : Method} {c : Code} {D : va_G} {ty : Nat → ClassId} {eo : Nat → Nat} {A : Nat → Prop} {o1 : Int32} (C : dc_C p s m args meth c cX9_isBit (some .boolean) 1 RX9 wsX9_isBit D ty eo A)    (H : Heap) (locs : List Loc) (ls : Array Slot) (h : zX9_isBit_9   = some o1) (hP : va_P D vwCl (([] : va_W)) H) (hD : va_D A (([] : va_W))) (hS : va_S A s.heap H locs) (hl : lv_has ls 1 []) : W p l e ({ frames := 0, cells := 0, slots := 0, locals := 0 } : Room) s m args below meth c H locs 0 0 (MQ below (va_Qi (fun (r : Int32) (u : va_W) => o1 = r ∧ ([] : va_W) = u) (kz_B D ty A) A) args s 0 0 A) (F0 m 9 ls []) := by
  have C0 := C
  obtain ⟨hx, hb, hr, hts, hown, hlocks, hml, hK, hN, hE, hA⟩ := C
  unfold zX9_isBit_9 at h
  refine lv_iconst (v := 1) hx hb dX9_isBit_9 (by decide) ?_
  refine lv_goto (tgt := 14) hx hb dX9_isBit_10 (by decide) ?_
  exact WX9_isBit_14 C0  _ _ _ _ h hP hD hS (lv_sub hl [] rfl)
set_option maxHeartbeats 4000000 in
set_option maxRecDepth 100000 in
theorem qX9_isBit (l : Launch) (D : va_G) (ty : Nat → ClassId) (eo : Nat → Nat) (sz : Nat) (p1 : Int32) (o1 : Int32) (h : zX9_isBit p1 = some o1) : Met l yX9_isBit wsX9_isBit ({ frames := 0, cells := 0, slots := 0, locals := 0 } : Room) (va_Pc [.int p1] (kz_pre D ty eo (([] : va_W)) sz)) (va_Qi (fun (r : Int32) (u : va_W) => o1 = r ∧ ([] : va_W) = u) (kz_B D ty (va_A (([] : va_W)) sz)) (va_A (([] : va_W)) sz)) 0 0 (va_A (([] : va_W)) sz) := by
  refine Met.ofW (cc := cX9_isBit) (maxL := 1) (ret := (some .boolean)) (by decide) rfl ?_
  intro p e s m args below meth c s₁ B hml hv
  obtain ⟨rfl, hsz, hP, hK, hD0, hN, hE⟩ := hv
  have hx := B.exec
  have hb := B.bytes
  have hr := B.returns
  have hts := atoms_spec (ws := wsX9_isBit) B.pre
  have hown : s.vm.findClass RX9 = some m.cls := findClass_of_methodNamed B.named
  have hlocks := B.notSynchronized
  subst hsz
  have hD := hD0.self (sz := s.heap.size)
  generalize hAe : va_A (([] : va_W)) s.heap.size = A at hD hE ⊢
  have hA : ∀ q : Nat, s.heap.size ≤ q → A q := fun q h => by rw [← hAe]; exact Or.inr h
  clear hAe
  have hS : va_S A s.heap s.heap [] := va_S.rf
  have hl := lv_entry ([.int p1]) (n := 1) (Nat.le_of_ble_eq_true rfl)
  rw [lg_entry_eq]
  generalize (lg_sl ([.int p1]) ++ List.replicate (1 - (lg_sl ([.int p1])).length) Slot.unset).toArray = ls at hl ⊢
  have hl : lv_has ls 1 [(0, .int p1)] := hl
  have C : dc_C p s m _ meth c cX9_isBit (some .boolean) 1 RX9 wsX9_isBit D ty eo A := ⟨hx, hb, hr, hts, hown, hlocks, hml, hK, hN, hE, hA⟩
  unfold zX9_isBit at h
  refine lv_iload_n hx hb dX9_isBit_0 rfl (lv_at hl 0 rfl) ?_
  refine lv_if_eq (tgt := 9) hx hb dX9_isBit_1 (by decide) (fun c9 => ?_) (fun c9 => ?_)
  · rw [if_pos c9] at h
    exact WX9_isBit_9 C  _ _ _ h hP hD hS (lv_sub hl [] rfl)
  · rw [if_neg c9] at h
    refine lv_iload_n hx hb dX9_isBit_4 rfl (lv_at hl 0 rfl) ?_
    refine lv_iconst (v := 1) hx hb dX9_isBit_5 (by decide) ?_
    refine lv_icmp_ne (tgt := 13) hx hb dX9_isBit_6 (by decide) (fun c9 => ?_) (fun c9 => ?_)
    · rw [if_neg c9] at h
      refine lv_iconst (v := 0) hx hb dX9_isBit_13 (by decide) ?_
      exact WX9_isBit_14 C  _ _ _ _ h hP hD hS (lv_sub hl [] rfl)
    · rw [if_pos c9] at h
      exact WX9_isBit_9 C  _ _ _ h hP hD hS (lv_sub hl [] rfl)

set_option maxHeartbeats 4000000 in
set_option maxRecDepth 100000 in
theorem WX8_has_s2_2b {p : Program} {l : Launch} {e : Env} {s : State} {m : MethodId} {args : Array Value} {below : List Frame} {meth : Method} {c : Code} {D : va_G} {ty : Nat → ClassId} {eo : Nat → Nat} {A : Nat → Prop} {ad : Nat → Nat} {o1 : Int32} {o2 : dK} (C : dc_C p s m args meth c cX8_has (some .boolean) 3 RX8 wsX8_has D ty eo A) {k2 : dK → Int32 → Int32 → Option (Int32 × dK)} (hk2 : ∀ (q : dK) (x1 : Int32) (x2 : Int32) (H : Heap) (locs : List Loc) (ls : Array Slot), k2 q x1 x2 = some (o1, o2) → va_P D vwCl (wF ty ad q) H → va_D A (wF ty ad q) → va_S A s.heap H locs → lv_has ls 3 [(0, .ref (ad 2)), (1, .int x1), (2, .int x2)] → W p l e ({ frames := 0, cells := 0, slots := 0, locals := 0 } : Room) s m args below meth c H locs 0 0 (MQ below (va_Qi (fun (r : Int32) (u : va_W) => o1 = r ∧ wF ty ad o2 = u) (kz_B D ty A) A) args s 0 0 A) (F0 m 2 ls [])) (q : dK) (x1 : Int32) (x2 : Int32) (H : Heap) (locs : List Loc) (ls : Array Slot) (h : zX8_has_s2_2b k2 q x1 x2 = some (o1, o2)) (hP : va_P D vwCl (wF ty ad q) H) (hD : va_D A (wF ty ad q)) (hS : va_S A s.heap H locs) (hl : lv_has ls 3 [(0, .ref (ad 2)), (1, .int x1), (2, .int x2)]) : W p l e ({ frames := 0, cells := 0, slots := 0, locals := 0 } : Room) s m args below meth c H locs 0 0 (MQ below (va_Qi (fun (r : Int32) (u : va_W) => o1 = r ∧ wF ty ad o2 = u) (kz_B D ty A) A) args s 0 0 A) (F0 m 2 ls []) := by
  have C0 := C
  obtain ⟨hx, hb, hr, hts, hown, hlocks, hml, hK, hN, hE, hA⟩ := C
  unfold zX8_has_s2_2b at h
  refine lv_iload_n hx hb dX8_has_2 rfl (lv_at hl 2 rfl) ?_
  refine lv_aload_n hx hb dX8_has_3 rfl (lv_at hl 0 rfl) ?_
  refine va_get (D := D) (ci := 8) (v := .int (q.1 2 2)) (C := RX8) (T := TX8) (N := 5) hx hb hts u9_wsX8_has_X8 hown hK hP 2 rfl rfl 2 (by decide) (hts (.fieldLink RX8 18 "TurnedFloors$Tower" "floors" "I") f9_wsX8_has_344) (fun _ h9 => h9) rfl dX8_has_4 ?_
  refine lv_icmp_ge (tgt := 28) hx hb dX8_has_7 (by decide) (fun c9 => ?_) (fun c9 => ?_)
  · rw [if_pos c9] at h
    refine lv_iconst (v := 0) hx hb dX8_has_28 (by decide) ?_
    cases h
    exact kz_zret hx hb hr hlocks rfl hP hK hD hS dX8_has_29 ⟨rfl, rfl⟩
  · rw [if_neg c9] at h
    refine lv_aload_n hx hb dX8_has_10 rfl (lv_at hl 0 rfl) ?_
    refine va_get (D := D) (ci := 8) (v := .ref (ad 3)) (C := RX8) (T := TX8) (N := 5) hx hb hts u9_wsX8_has_X8 hown hK hP 2 rfl rfl 0 (by decide) (hts (.fieldLink RX8 9 "TurnedFloors$Tower" "rank" "[I") f9_wsX8_has_345) (fun _ h9 => h9) rfl dX8_has_11 ?_
    refine lv_iload_n hx hb dX8_has_14 rfl (lv_at hl 2 rfl) ?_
    obtain ⟨g1, h⟩ := dG_some h
    refine va_iald hx hb hK hP 3 0 rfl rfl (dg_in g1) dX8_has_15 ?_
    obtain ⟨v2, ev2, h⟩ := dL_some h
    refine kz_topi v2 ev2 ?_
    refine lv_iload_n hx hb dX8_has_16 rfl (lv_at hl 1 rfl) ?_
    refine lv_icmp_ne (tgt := 22) hx hb dX8_has_17 (by decide) (fun c9 => ?_) (fun c9 => ?_)
    · rw [if_neg c9] at h
      refine lv_iinc (v := x2 + 1) (lv' := [(2, .int (x2 + 1)), (0, .ref (ad 2)), (1, .int x1)]) hx hb dX8_has_22 hl (k := 2) rfl rfl (by decide) rfl (fun ls hl => ?_)
      refine lv_goto (tgt := 2) hx hb dX8_has_25 (by decide) ?_
      exact hk2 _ _ _ _ _ _ h hP hD hS (lv_sub hl [1, 2, 0] rfl)
    · rw [if_pos c9] at h
      refine lv_iconst (v := 1) hx hb dX8_has_20 (by decide) ?_
      cases h
      exact kz_zret hx hb hr hlocks rfl hP hK hD hS dX8_has_21 ⟨rfl, rfl⟩
set_option maxHeartbeats 4000000 in
set_option maxRecDepth 100000 in
theorem WX8_has_s2_2 {p : Program} {l : Launch} {e : Env} {s : State} {m : MethodId} {args : Array Value} {below : List Frame} {meth : Method} {c : Code} {D : va_G} {ty : Nat → ClassId} {eo : Nat → Nat} {A : Nat → Prop} {ad : Nat → Nat} {o1 : Int32} {o2 : dK} (C : dc_C p s m args meth c cX8_has (some .boolean) 3 RX8 wsX8_has D ty eo A)   (n : Nat) (q : dK) (x1 : Int32) (x2 : Int32) (H : Heap) (locs : List Loc) (ls : Array Slot) (h : zX8_has_s2_2  n q x1 x2 = some (o1, o2)) (hP : va_P D vwCl (wF ty ad q) H) (hD : va_D A (wF ty ad q)) (hS : va_S A s.heap H locs) (hl : lv_has ls 3 [(0, .ref (ad 2)), (1, .int x1), (2, .int x2)]) : W p l e ({ frames := 0, cells := 0, slots := 0, locals := 0 } : Room) s m args below meth c H locs 0 0 (MQ below (va_Qi (fun (r : Int32) (u : va_W) => o1 = r ∧ wF ty ad o2 = u) (kz_B D ty A) A) args s 0 0 A) (F0 m 2 ls []) := by
  exact dFix_W (F := fun k (a : dK × Int32 × Int32) => zX8_has_s2_2b  (fun q x1 x2 => k (q, x1, x2)) a.1 a.2.1 a.2.2) (o := (o1, o2)) (P := fun (a : dK × Int32 × Int32) H locs ls => va_P D vwCl (wF ty ad a.1) H ∧ va_D A (wF ty ad a.1) ∧ va_S A s.heap H locs ∧ lv_has ls 3 [(0, .ref (ad 2)), (1, .int a.2.1), (2, .int a.2.2)]) (G := fun H locs ls => W p l e ({ frames := 0, cells := 0, slots := 0, locals := 0 } : Room) s m args below meth c H locs 0 0 (MQ below (va_Qi (fun (r : Int32) (u : va_W) => o1 = r ∧ wF ty ad o2 = u) (kz_B D ty A) A) args s 0 0 A) (F0 m 2 ls []))
    (fun k hk a H locs ls h hp => WX8_has_s2_2b C  (fun q x1 x2 H locs ls h h1 h2 h3 h4 => hk (q, x1, x2) H locs ls h ⟨h1, h2, h3, h4⟩) a.1 a.2.1 a.2.2 H locs ls h hp.1 hp.2.1 hp.2.2.1 hp.2.2.2) n (q, x1, x2) H locs ls h ⟨hP, hD, hS, hl⟩
set_option maxHeartbeats 4000000 in
set_option maxRecDepth 100000 in
theorem qX8_has_s2 (l : Launch) (D : va_G) (ty : Nat → ClassId) (eo : Nat → Nat) (sz : Nat) (ad : Nat → Nat) (q : dK) (p1 : Int32) (o1 : Int32) (o2 : dK) (h : zX8_has_s2 q p1 = some (o1, o2)) : Met l yX8_has wsX8_has ({ frames := 0, cells := 0, slots := 0, locals := 0 } : Room) (va_Pc [.ref (ad 2), .int p1] (kz_pre D ty eo (wF ty ad q) sz)) (va_Qi (fun (r : Int32) (u : va_W) => o1 = r ∧ wF ty ad o2 = u) (kz_B D ty (va_A (wF ty ad q) sz)) (va_A (wF ty ad q) sz)) 0 0 (va_A (wF ty ad q) sz) := by
  refine Met.ofW (cc := cX8_has) (maxL := 3) (ret := (some .boolean)) (by decide) rfl ?_
  intro p e s m args below meth c s₁ B hml hv
  obtain ⟨rfl, hsz, hP, hK, hD0, hN, hE⟩ := hv
  have hx := B.exec
  have hb := B.bytes
  have hr := B.returns
  have hts := atoms_spec (ws := wsX8_has) B.pre
  have hown : s.vm.findClass RX8 = some m.cls := findClass_of_methodNamed B.named
  have hlocks := B.notSynchronized
  subst hsz
  have hD := hD0.self (sz := s.heap.size)
  generalize hAe : va_A (wF ty ad q) s.heap.size = A at hD hE ⊢
  have hA : ∀ q : Nat, s.heap.size ≤ q → A q := fun q h => by rw [← hAe]; exact Or.inr h
  clear hAe
  have hS : va_S A s.heap s.heap [] := va_S.rf
  have hl := lv_entry ([.ref (ad 2), .int p1]) (n := 3) (Nat.le_of_ble_eq_true rfl)
  rw [lg_entry_eq]
  generalize (lg_sl ([.ref (ad 2), .int p1]) ++ List.replicate (3 - (lg_sl ([.ref (ad 2), .int p1])).length) Slot.unset).toArray = ls at hl ⊢
  have hl : lv_has ls 3 [(0, .ref (ad 2)), (1, .int p1)] := hl
  have C : dc_C p s m _ meth c cX8_has (some .boolean) 3 RX8 wsX8_has D ty eo A := ⟨hx, hb, hr, hts, hown, hlocks, hml, hK, hN, hE, hA⟩
  unfold zX8_has_s2 at h
  refine lv_iconst (v := 0) hx hb dX8_has_0 (by decide) ?_
  refine lv_istore_n (lv' := [(2, .int 0), (0, .ref (ad 2)), (1, .int p1)]) hx hb dX8_has_1 rfl hl (by decide) rfl (fun ls hl => ?_)
  exact WX8_has_s2_2 C  _ _ _ _ _ _ _ h hP hD hS (lv_sub hl [1, 2, 0] rfl)

set_option maxHeartbeats 4000000 in
set_option maxRecDepth 100000 in
theorem qX8_add_s2 (l : Launch) (D : va_G) (ty : Nat → ClassId) (eo : Nat → Nat) (sz : Nat) (ad : Nat → Nat) (q : dK) (p1 : Int32) (p2 : Int32) (o1 : Int32) (o2 : dK) (h : zX8_add_s2 q p1 p2 = some (o1, o2)) : Met l yX8_add wsX8_add ({ frames := 0, cells := 0, slots := 0, locals := 0 } : Room) (va_Pc [.ref (ad 2), .int p1, .int p2] (kz_pre D ty eo (wF ty ad q) sz)) (va_Qi (fun (r : Int32) (u : va_W) => o1 = r ∧ wF ty ad o2 = u) (kz_B D ty (va_A (wF ty ad q) sz)) (va_A (wF ty ad q) sz)) 0 0 (va_A (wF ty ad q) sz) := by
  refine Met.ofW (cc := cX8_add) (maxL := 3) (ret := (some .boolean)) (by decide) rfl ?_
  intro p e s m args below meth c s₁ B hml hv
  obtain ⟨rfl, hsz, hP, hK, hD0, hN, hE⟩ := hv
  have hx := B.exec
  have hb := B.bytes
  have hr := B.returns
  have hts := atoms_spec (ws := wsX8_add) B.pre
  have hown : s.vm.findClass RX8 = some m.cls := findClass_of_methodNamed B.named
  have hlocks := B.notSynchronized
  subst hsz
  have hD := hD0.self (sz := s.heap.size)
  generalize hAe : va_A (wF ty ad q) s.heap.size = A at hD hE ⊢
  have hA : ∀ q : Nat, s.heap.size ≤ q → A q := fun q h => by rw [← hAe]; exact Or.inr h
  clear hAe
  have hS : va_S A s.heap s.heap [] := va_S.rf
  have hl := lv_entry ([.ref (ad 2), .int p1, .int p2]) (n := 3) (Nat.le_of_ble_eq_true rfl)
  rw [lg_entry_eq]
  generalize (lg_sl ([.ref (ad 2), .int p1, .int p2]) ++ List.replicate (3 - (lg_sl ([.ref (ad 2), .int p1, .int p2])).length) Slot.unset).toArray = ls at hl ⊢
  have hl : lv_has ls 3 [(0, .ref (ad 2)), (1, .int p1), (2, .int p2)] := hl
  have C : dc_C p s m _ meth c cX8_add (some .boolean) 3 RX8 wsX8_add D ty eo A := ⟨hx, hb, hr, hts, hown, hlocks, hml, hK, hN, hE, hA⟩
  unfold zX8_add_s2 at h
  refine lv_aload_n hx hb dX8_add_0 rfl (lv_at hl 0 rfl) ?_
  refine va_get (D := D) (ci := 8) (v := .int (q.1 2 2)) (C := RX8) (T := TX8) (N := 5) hx hb hts u9_wsX8_add_X8 hown hK hP 2 rfl rfl 2 (by decide) (hts (.fieldLink RX8 18 "TurnedFloors$Tower" "floors" "I") f9_wsX8_add_347) (fun _ h9 => h9) rfl dX8_add_1 ?_
  refine lv_bipush (v := 6) hx hb dX8_add_4 (by decide) ?_
  refine lv_icmp_lt (tgt := 11) hx hb dX8_add_6 (by decide) (fun c9 => ?_) (fun c9 => ?_)
  · rw [if_pos c9] at h
    refine lv_aload_n hx hb dX8_add_11 rfl (lv_at hl 0 rfl) ?_
    refine va_get (D := D) (ci := 8) (v := .ref (ad 3)) (C := RX8) (T := TX8) (N := 5) hx hb hts u9_wsX8_add_X8 hown hK hP 2 rfl rfl 0 (by decide) (hts (.fieldLink RX8 9 "TurnedFloors$Tower" "rank" "[I") f9_wsX8_add_348) (fun _ h9 => h9) rfl dX8_add_12 ?_
    refine lv_aload_n hx hb dX8_add_15 rfl (lv_at hl 0 rfl) ?_
    refine va_get (D := D) (ci := 8) (v := .int (q.1 2 2)) (C := RX8) (T := TX8) (N := 5) hx hb hts u9_wsX8_add_X8 hown hK hP 2 rfl rfl 2 (by decide) (hts (.fieldLink RX8 18 "TurnedFloors$Tower" "floors" "I") f9_wsX8_add_347) (fun _ h9 => h9) rfl dX8_add_16 ?_
    refine lv_iload_n hx hb dX8_add_19 rfl (lv_at hl 1 rfl) ?_
    obtain ⟨g1, h⟩ := dG_some h
    refine va_iast hx hb hK hP hD hS 3 0 rfl rfl (dg_in g1) dX8_add_20 (fun H locs hp hd hs => ?_)
    obtain ⟨q2, eq2, h⟩ := dL_some h
    refine kz_re (w2 := wF ty ad q2) hp hd hs (by rw [← eq2]; exact wF_a3 ty ad q (Int32.toNatClampNeg (q.1 2 2)) p1) ?_
    clear hp hd hs hP hD hS
    intro hP hD hS
    refine lv_aload_n hx hb dX8_add_21 rfl (lv_at hl 0 rfl) ?_
    refine va_get (D := D) (ci := 8) (v := .ref (ad 4)) (C := RX8) (T := TX8) (N := 5) hx hb hts u9_wsX8_add_X8 hown hK hP 2 rfl rfl 1 (by decide) (hts (.fieldLink RX8 15 "TurnedFloors$Tower" "head" "[I") f9_wsX8_add_349) (fun _ h9 => h9) rfl dX8_add_22 ?_
    refine lv_aload_n hx hb dX8_add_25 rfl (lv_at hl 0 rfl) ?_
    refine va_get (D := D) (ci := 8) (v := .int (q2.1 2 2)) (C := RX8) (T := TX8) (N := 5) hx hb hts u9_wsX8_add_X8 hown hK hP 2 rfl rfl 2 (by decide) (hts (.fieldLink RX8 18 "TurnedFloors$Tower" "floors" "I") f9_wsX8_add_347) (fun _ h9 => h9) rfl dX8_add_26 ?_
    refine lv_iload_n hx hb dX8_add_29 rfl (lv_at hl 2 rfl) ?_
    obtain ⟨g3, h⟩ := dG_some h
    refine va_iast hx hb hK hP hD hS 4 0 rfl rfl (dg_in g3) dX8_add_30 (fun H locs hp hd hs => ?_)
    obtain ⟨q4, eq4, h⟩ := dL_some h
    refine kz_re (w2 := wF ty ad q4) hp hd hs (by rw [← eq4]; exact wF_a4 ty ad q2 (Int32.toNatClampNeg (q2.1 2 2)) p2) ?_
    clear hp hd hs hP hD hS
    intro hP hD hS
    refine lv_aload_n hx hb dX8_add_31 rfl (lv_at hl 0 rfl) ?_
    refine lv_dup hx hb dX8_add_32 rfl ?_
    refine va_get (D := D) (ci := 8) (v := .int (q4.1 2 2)) (C := RX8) (T := TX8) (N := 5) hx hb hts u9_wsX8_add_X8 hown hK hP 2 rfl rfl 2 (by decide) (hts (.fieldLink RX8 18 "TurnedFloors$Tower" "floors" "I") f9_wsX8_add_347) (fun _ h9 => h9) rfl dX8_add_33 ?_
    refine lv_iconst (v := 1) hx hb dX8_add_36 (by decide) ?_
    refine lv_iadd hx hb dX8_add_37 ?_
    refine va_put (D := D) (ci := 8) (v := .int ((q4.1 2 2) + 1 : Int32)) (ty := .int) (C := RX8) (T := TX8) (N := 5) hx hb hts u9_wsX8_add_X8 tyX8 tyX8_ok nmX8 hown hK hP hD hS 2 rfl rfl 2 (by decide) (hts (.fieldLink RX8 18 "TurnedFloors$Tower" "floors" "I") f9_wsX8_add_347) (fun _ h9 => h9) rfl (by decide +kernel) rfl rfl (Nat.le_of_ble_eq_true rfl) dX8_add_38 (fun H locs hp hd hs => ?_)
    obtain ⟨q5, eq5, h⟩ := dL_some h
    refine kz_re (w2 := wF ty ad q5) hp hd hs (by rw [← eq5]; exact wF_f2_2 ty ad q4 ((q4.1 2 2) + 1 : Int32)) ?_
    clear hp hd hs hP hD hS
    intro hP hD hS
    refine lv_iconst (v := 1) hx hb dX8_add_41 (by decide) ?_
    cases h
    exact kz_zret hx hb hr hlocks rfl hP hK hD hS dX8_add_42 ⟨rfl, rfl⟩
  · rw [if_neg c9] at h
    refine lv_iconst (v := 0) hx hb dX8_add_9 (by decide) ?_
    cases h
    exact kz_zret hx hb hr hlocks rfl hP hK hD hS dX8_add_10 ⟨rfl, rfl⟩

set_option maxHeartbeats 4000000 in
set_option maxRecDepth 100000 in
theorem qX0_clear_s10 (l : Launch) (D : va_G) (ty : Nat → ClassId) (eo : Nat → Nat) (sz : Nat) (ad : Nat → Nat) (q : dK)  (o2 : dK) (h : zX0_clear_s10 q = some o2) : Met l yX0_clear wsX0_clear ({ frames := 0, cells := 0, slots := 0, locals := 0 } : Room) (va_Pc [.ref (ad 10)] (kz_pre D ty eo (wF ty ad q) sz)) (va_Qv (fun (u : va_W) => wF ty ad o2 = u) (kz_B D ty (va_A (wF ty ad q) sz)) (va_A (wF ty ad q) sz)) 0 0 (va_A (wF ty ad q) sz) := by
  refine Met.ofW (cc := cX0_clear) (maxL := 1) (ret := none) (by decide) rfl ?_
  intro p e s m args below meth c s₁ B hml hv
  obtain ⟨rfl, hsz, hP, hK, hD0, hN, hE⟩ := hv
  have hx := B.exec
  have hb := B.bytes
  have hr := B.returns
  have hts := atoms_spec (ws := wsX0_clear) B.pre
  have hown : s.vm.findClass RX0 = some m.cls := findClass_of_methodNamed B.named
  have hlocks := B.notSynchronized
  subst hsz
  have hD := hD0.self (sz := s.heap.size)
  generalize hAe : va_A (wF ty ad q) s.heap.size = A at hD hE ⊢
  have hA : ∀ q : Nat, s.heap.size ≤ q → A q := fun q h => by rw [← hAe]; exact Or.inr h
  clear hAe
  have hS : va_S A s.heap s.heap [] := va_S.rf
  have hl := lv_entry ([.ref (ad 10)]) (n := 1) (Nat.le_of_ble_eq_true rfl)
  rw [lg_entry_eq]
  generalize (lg_sl ([.ref (ad 10)]) ++ List.replicate (1 - (lg_sl ([.ref (ad 10)])).length) Slot.unset).toArray = ls at hl ⊢
  have hl : lv_has ls 1 [(0, .ref (ad 10))] := hl
  have C : dc_C p s m _ meth c cX0_clear none 1 RX0 wsX0_clear D ty eo A := ⟨hx, hb, hr, hts, hown, hlocks, hml, hK, hN, hE, hA⟩
  unfold zX0_clear_s10 at h
  refine lv_aload_n hx hb dX0_clear_0 rfl (lv_at hl 0 rfl) ?_
  refine lv_iconst (v := 0) hx hb dX0_clear_1 (by decide) ?_
  refine va_put (D := D) (ci := 0) (v := .int 0) (ty := .int) (C := RX0) (T := TX0) (N := 6) hx hb hts u9_wsX0_clear_X0 tyX0 tyX0_ok nmX0 hown hK hP hD hS 10 rfl rfl 2 (by decide) (hts (.fieldLink RX0 19 "TurnedFloors$History" "kept" "I") f9_wsX0_clear_351) (fun _ h9 => h9) rfl (by decide +kernel) rfl rfl (Nat.le_of_ble_eq_true rfl) dX0_clear_2 (fun H locs hp hd hs => ?_)
  obtain ⟨q1, eq1, h⟩ := dL_some h
  refine kz_re (w2 := wF ty ad q1) hp hd hs (by rw [← eq1]; exact wF_f10_2 ty ad q 0) ?_
  clear hp hd hs hP hD hS
  intro hP hD hS
  cases h
  exact kz_vret hx hb hr hlocks hP hK hD hS dX0_clear_5 rfl

set_option maxHeartbeats 4000000 in
set_option maxRecDepth 100000 in
theorem qX9_accept_s0 (l : Launch) (D : va_G) (ty : Nat → ClassId) (eo : Nat → Nat) (sz : Nat) (ad : Nat → Nat) (q : dK) (p1 : Int32) (o1 : Int32) (o2 : dK) (h : zX9_accept_s0 q p1 = some (o1, o2)) : Met l yX9_accept wsX9_accept ({ frames := 0, cells := 0, slots := 0, locals := 0 } : Room) (va_Pc [.ref (ad 0), .int p1] (kz_pre D ty eo (wF ty ad q) sz)) (va_Qi (fun (r : Int32) (u : va_W) => o1 = r ∧ wF ty ad o2 = u) (kz_B D ty (va_A (wF ty ad q) sz)) (va_A (wF ty ad q) sz)) 0 0 (va_A (wF ty ad q) sz) := by
  refine Met.ofW (cc := cX9_accept) (maxL := 2) (ret := (some .int)) (by decide) rfl ?_
  intro p e s m args below meth c s₁ B hml hv
  obtain ⟨rfl, hsz, hP, hK, hD0, hN, hE⟩ := hv
  have hx := B.exec
  have hb := B.bytes
  have hr := B.returns
  have hts := atoms_spec (ws := wsX9_accept) B.pre
  have hown : s.vm.findClass RX9 = some m.cls := findClass_of_methodNamed B.named
  have hlocks := B.notSynchronized
  subst hsz
  have hD := hD0.self (sz := s.heap.size)
  generalize hAe : va_A (wF ty ad q) s.heap.size = A at hD hE ⊢
  have hA : ∀ q : Nat, s.heap.size ≤ q → A q := fun q h => by rw [← hAe]; exact Or.inr h
  clear hAe
  have hS : va_S A s.heap s.heap [] := va_S.rf
  have hl := lv_entry ([.ref (ad 0), .int p1]) (n := 2) (Nat.le_of_ble_eq_true rfl)
  rw [lg_entry_eq]
  generalize (lg_sl ([.ref (ad 0), .int p1]) ++ List.replicate (2 - (lg_sl ([.ref (ad 0), .int p1])).length) Slot.unset).toArray = ls at hl ⊢
  have hl : lv_has ls 2 [(0, .ref (ad 0)), (1, .int p1)] := hl
  have C : dc_C p s m _ meth c cX9_accept (some .int) 2 RX9 wsX9_accept D ty eo A := ⟨hx, hb, hr, hts, hown, hlocks, hml, hK, hN, hE, hA⟩
  unfold zX9_accept_s0 at h
  refine lv_aload_n hx hb dX9_accept_0 rfl (lv_at hl 0 rfl) ?_
  refine lv_iconst (v := 0) hx hb dX9_accept_1 (by decide) ?_
  refine va_put (D := D) (ci := 9) (v := .int 0) (ty := .int) (C := RX9) (T := TX9) (N := 19) hx hb hts u9_wsX9_accept_X9 tyX9 tyX9_ok nmX9 hown hK hP hD hS 0 rfl rfl 18 (by decide) (hts (.fieldLink RX9 108 "TurnedFloors" "latestStatus" "I") f9_wsX9_accept_353) (fun _ h9 => h9) rfl (by decide +kernel) rfl rfl (Nat.le_of_ble_eq_true rfl) dX9_accept_2 (fun H locs hp hd hs => ?_)
  obtain ⟨q1, eq1, h⟩ := dL_some h
  refine kz_re (w2 := wF ty ad q1) hp hd hs (by rw [← eq1]; exact wF_f0_18 ty ad q 0) ?_
  clear hp hd hs hP hD hS
  intro hP hD hS
  refine lv_iload_n hx hb dX9_accept_5 rfl (lv_at hl 1 rfl) ?_
  cases h
  exact kz_iret hx hb hr hlocks hP hK hD hS dX9_accept_6 ⟨rfl, rfl⟩

set_option maxHeartbeats 4000000 in
set_option maxRecDepth 100000 in
theorem WX9_refuse_s0_26 {p : Program} {l : Launch} {e : Env} {s : State} {m : MethodId} {args : Array Value} {below : List Frame} {meth : Method} {c : Code} {D : va_G} {ty : Nat → ClassId} {eo : Nat → Nat} {A : Nat → Prop} {ad : Nat → Nat} {o1 : Int32} {o2 : dK} (C : dc_C p s m args meth c cX9_refuse (some .int) 2 RX9 wsX9_refuse D ty eo A)   (q : dK) (x1 : Int32) (H : Heap) (locs : List Loc) (ls : Array Slot) (h : zX9_refuse_s0_26  q x1 = some (o1, o2)) (hP : va_P D vwCl (wF ty ad q) H) (hD : va_D A (wF ty ad q)) (hS : va_S A s.heap H locs) (hl : lv_has ls 2 [(1, .int x1)]) : W p l e ({ frames := 0, cells := 0, slots := 0, locals := 0 } : Room) s m args below meth c H locs 0 0 (MQ below (va_Qi (fun (r : Int32) (u : va_W) => o1 = r ∧ wF ty ad o2 = u) (kz_B D ty A) A) args s 0 0 A) (F0 m 26 ls []) := by
  have C0 := C
  obtain ⟨hx, hb, hr, hts, hown, hlocks, hml, hK, hN, hE, hA⟩ := C
  unfold zX9_refuse_s0_26 at h
  refine lv_iload_n hx hb dX9_refuse_26 rfl (lv_at hl 0 rfl) ?_
  cases h
  exact kz_iret hx hb hr hlocks hP hK hD hS dX9_refuse_27 ⟨rfl, rfl⟩
set_option maxHeartbeats 4000000 in
set_option maxRecDepth 100000 in
theorem qX9_refuse_s0 (l : Launch) (D : va_G) (ty : Nat → ClassId) (eo : Nat → Nat) (sz : Nat) (ad : Nat → Nat) (q : dK) (p1 : Int32) (o1 : Int32) (o2 : dK) (h : zX9_refuse_s0 q p1 = some (o1, o2)) : Met l yX9_refuse wsX9_refuse ({ frames := 0, cells := 0, slots := 0, locals := 0 } : Room) (va_Pc [.ref (ad 0), .int p1] (kz_pre D ty eo (wF ty ad q) sz)) (va_Qi (fun (r : Int32) (u : va_W) => o1 = r ∧ wF ty ad o2 = u) (kz_B D ty (va_A (wF ty ad q) sz)) (va_A (wF ty ad q) sz)) 0 0 (va_A (wF ty ad q) sz) := by
  refine Met.ofW (cc := cX9_refuse) (maxL := 2) (ret := (some .int)) (by decide) rfl ?_
  intro p e s m args below meth c s₁ B hml hv
  obtain ⟨rfl, hsz, hP, hK, hD0, hN, hE⟩ := hv
  have hx := B.exec
  have hb := B.bytes
  have hr := B.returns
  have hts := atoms_spec (ws := wsX9_refuse) B.pre
  have hown : s.vm.findClass RX9 = some m.cls := findClass_of_methodNamed B.named
  have hlocks := B.notSynchronized
  subst hsz
  have hD := hD0.self (sz := s.heap.size)
  generalize hAe : va_A (wF ty ad q) s.heap.size = A at hD hE ⊢
  have hA : ∀ q : Nat, s.heap.size ≤ q → A q := fun q h => by rw [← hAe]; exact Or.inr h
  clear hAe
  have hS : va_S A s.heap s.heap [] := va_S.rf
  have hl := lv_entry ([.ref (ad 0), .int p1]) (n := 2) (Nat.le_of_ble_eq_true rfl)
  rw [lg_entry_eq]
  generalize (lg_sl ([.ref (ad 0), .int p1]) ++ List.replicate (2 - (lg_sl ([.ref (ad 0), .int p1])).length) Slot.unset).toArray = ls at hl ⊢
  have hl : lv_has ls 2 [(0, .ref (ad 0)), (1, .int p1)] := hl
  have C : dc_C p s m _ meth c cX9_refuse (some .int) 2 RX9 wsX9_refuse D ty eo A := ⟨hx, hb, hr, hts, hown, hlocks, hml, hK, hN, hE, hA⟩
  unfold zX9_refuse_s0 at h
  refine lv_aload_n hx hb dX9_refuse_0 rfl (lv_at hl 0 rfl) ?_
  refine lv_iload_n hx hb dX9_refuse_1 rfl (lv_at hl 1 rfl) ?_
  refine va_put (D := D) (ci := 9) (v := .int p1) (ty := .int) (C := RX9) (T := TX9) (N := 19) hx hb hts u9_wsX9_refuse_X9 tyX9 tyX9_ok nmX9 hown hK hP hD hS 0 rfl rfl 18 (by decide) (hts (.fieldLink RX9 108 "TurnedFloors" "latestStatus" "I") f9_wsX9_refuse_355) (fun _ h9 => h9) rfl (by decide +kernel) rfl rfl (Nat.le_of_ble_eq_true rfl) dX9_refuse_2 (fun H locs hp hd hs => ?_)
  obtain ⟨q1, eq1, h⟩ := dL_some h
  refine kz_re (w2 := wF ty ad q1) hp hd hs (by rw [← eq1]; exact wF_f0_18 ty ad q p1) ?_
  clear hp hd hs hP hD hS
  intro hP hD hS
  refine lv_iload_n hx hb dX9_refuse_5 rfl (lv_at hl 1 rfl) ?_
  refine lv_if_ge (tgt := 26) hx hb dX9_refuse_6 (by decide) (fun c9 => ?_) (fun c9 => ?_)
  · rw [if_pos c9] at h
    exact WX9_refuse_s0_26 C  _ _ _ _ _ h hP hD hS (lv_sub hl [1] rfl)
  · rw [if_neg c9] at h
    refine lv_iload_n hx hb dX9_refuse_9 rfl (lv_at hl 1 rfl) ?_
    refine lv_bipush (v := (-6)) hx hb dX9_refuse_10 (by decide) ?_
    refine lv_icmp_lt (tgt := 26) hx hb dX9_refuse_12 (by decide) (fun c9 => ?_) (fun c9 => ?_)
    · rw [if_pos c9] at h
      exact WX9_refuse_s0_26 C  _ _ _ _ _ h hP hD hS (lv_sub hl [1] rfl)
    · rw [if_neg c9] at h
      refine lv_aload_n hx hb dX9_refuse_15 rfl (lv_at hl 0 rfl) ?_
      refine va_get (D := D) (ci := 9) (v := .ref (ad 48)) (C := RX9) (T := TX9) (N := 19) hx hb hts u9_wsX9_refuse_X9 hown hK hP 0 rfl rfl 17 (by decide) (hts (.fieldLink RX9 105 "TurnedFloors" "refusals" "[I") f9_wsX9_refuse_356) (fun _ h9 => h9) rfl dX9_refuse_16 ?_
      refine lv_iload_n hx hb dX9_refuse_19 rfl (lv_at hl 1 rfl) ?_
      refine lv_ineg hx hb dX9_refuse_20 ?_
      refine lv_dup2_11 hx hb dX9_refuse_21 rfl rfl ?_
      obtain ⟨g2, h⟩ := dG_some h
      refine va_iald hx hb hK hP 48 0 rfl rfl (dg_in g2) dX9_refuse_22 ?_
      obtain ⟨v3, ev3, h⟩ := dL_some h
      refine kz_topi v3 ev3 ?_
      refine lv_iconst (v := 1) hx hb dX9_refuse_23 (by decide) ?_
      refine lv_iadd hx hb dX9_refuse_24 ?_
      obtain ⟨g4, h⟩ := dG_some h
      refine va_iast hx hb hK hP hD hS 48 0 rfl rfl (dg_in g4) dX9_refuse_25 (fun H locs hp hd hs => ?_)
      obtain ⟨q5, eq5, h⟩ := dL_some h
      refine kz_re (w2 := wF ty ad q5) hp hd hs (by rw [← eq5]; exact wF_a48 ty ad q1 (Int32.toNatClampNeg (-p1)) (v3 + 1 : Int32)) ?_
      clear hp hd hs hP hD hS
      intro hP hD hS
      exact WX9_refuse_s0_26 C  _ _ _ _ _ h hP hD hS (lv_sub hl [1] rfl)

set_option maxHeartbeats 4000000 in
set_option maxRecDepth 100000 in
theorem WX9_floor_s0_14 {p : Program} {l : Launch} {e : Env} {s : State} {m : MethodId} {args : Array Value} {below : List Frame} {meth : Method} {c : Code} {D : va_G} {ty : Nat → ClassId} {eo : Nat → Nat} {A : Nat → Prop} {ad : Nat → Nat} {o1 : Int32} {o2 : dK} (C : dc_C p s m args meth c cX9_floor (some .int) 3 RX9 wsX9_floor D ty eo A)   (q : dK)  (H : Heap) (locs : List Loc) (ls : Array Slot) (h : zX9_floor_s0_14  q = some (o1, o2)) (hP : va_P D vwCl (wF ty ad q) H) (hD : va_D A (wF ty ad q)) (hS : va_S A s.heap H locs) (hl : lv_has ls 3 [(0, .ref (ad 0))]) : W p l e ({ frames := 1, cells := 0, slots := 0, locals := 22 } : Room) s m args below meth c H locs 0 0 (MQ below (va_Qi (fun (r : Int32) (u : va_W) => o1 = r ∧ wF ty ad o2 = u) (kz_B D ty A) A) args s 0 0 A) (F0 m 14 ls []) := by
  have C0 := C
  obtain ⟨hx, hb, hr, hts, hown, hlocks, hml, hK, hN, hE, hA⟩ := C
  unfold zX9_floor_s0_14 at h
  refine lv_aload_n hx hb dX9_floor_14 rfl (lv_at hl 0 rfl) ?_
  refine lv_iconst (v := (-1)) hx hb dX9_floor_15 (by decide) ?_
  obtain ⟨r1, q3, h2, h⟩ := dB_some h
  refine dw_ki (va_runV (As := [.int (-1)]) (rest := []) ⟨hx, hb, hml, hown, hts⟩ (qX9_refuse_s0 l D ty eo _ ad q (-1) r1 q3 h2) (cwV 1 hts gX9_floor_X9_refuse rfl rfl rfl hd_X9_refuse_v ⟨Nat.le_of_ble_eq_true rfl, Nat.le_of_ble_eq_true rfl⟩) (pvF_9_0 hK hN hE hP hD hS hA) rfl rfl hl.1 rfl (lv_room (Nat.le_of_ble_eq_true rfl)) dX9_floor_16 ⟨Nat.le_of_ble_eq_true rfl, Nat.le_of_ble_eq_true rfl⟩) hD hS hA (fun r9 u9 H locs hw hp hd hs => ?_)
  clear hP hD hS
  obtain ⟨rfl, rfl⟩ := hw
  have hP := hp; have hD := hd; have hS := hs; clear hp hd hs
  cases h
  exact kz_iret hx hb hr hlocks hP hK hD hS dX9_floor_19 ⟨rfl, rfl⟩
set_option maxHeartbeats 4000000 in
set_option maxRecDepth 100000 in
theorem qX9_floor_s0 (l : Launch) (D : va_G) (ty : Nat → ClassId) (eo : Nat → Nat) (sz : Nat) (ad : Nat → Nat) (q : dK) (p1 : Int32) (p2 : Int32) (o1 : Int32) (o2 : dK) (h : zX9_floor_s0 q p1 p2 = some (o1, o2)) : Met l yX9_floor wsX9_floor ({ frames := 1, cells := 0, slots := 0, locals := 22 } : Room) (va_Pc [.ref (ad 0), .int p1, .int p2] (kz_pre D ty eo (wF ty ad q) sz)) (va_Qi (fun (r : Int32) (u : va_W) => o1 = r ∧ wF ty ad o2 = u) (kz_B D ty (va_A (wF ty ad q) sz)) (va_A (wF ty ad q) sz)) 0 0 (va_A (wF ty ad q) sz) := by
  refine Met.ofW (cc := cX9_floor) (maxL := 3) (ret := (some .int)) (by decide) rfl ?_
  intro p e s m args below meth c s₁ B hml hv
  obtain ⟨rfl, hsz, hP, hK, hD0, hN, hE⟩ := hv
  have hx := B.exec
  have hb := B.bytes
  have hr := B.returns
  have hts := atoms_spec (ws := wsX9_floor) B.pre
  have hown : s.vm.findClass RX9 = some m.cls := findClass_of_methodNamed B.named
  have hlocks := B.notSynchronized
  subst hsz
  have hD := hD0.self (sz := s.heap.size)
  generalize hAe : va_A (wF ty ad q) s.heap.size = A at hD hE ⊢
  have hA : ∀ q : Nat, s.heap.size ≤ q → A q := fun q h => by rw [← hAe]; exact Or.inr h
  clear hAe
  have hS : va_S A s.heap s.heap [] := va_S.rf
  have hl := lv_entry ([.ref (ad 0), .int p1, .int p2]) (n := 3) (Nat.le_of_ble_eq_true rfl)
  rw [lg_entry_eq]
  generalize (lg_sl ([.ref (ad 0), .int p1, .int p2]) ++ List.replicate (3 - (lg_sl ([.ref (ad 0), .int p1, .int p2])).length) Slot.unset).toArray = ls at hl ⊢
  have hl : lv_has ls 3 [(0, .ref (ad 0)), (1, .int p1), (2, .int p2)] := hl
  have C : dc_C p s m _ meth c cX9_floor (some .int) 3 RX9 wsX9_floor D ty eo A := ⟨hx, hb, hr, hts, hown, hlocks, hml, hK, hN, hE, hA⟩
  unfold zX9_floor_s0 at h
  refine lv_iload_n hx hb dX9_floor_0 rfl (lv_at hl 1 rfl) ?_
  obtain ⟨r1, h2, h⟩ := dV_some h
  refine dw_ks (va_runS (As := [.int p1]) (rest := []) ⟨hx, hb, hml, hown, hts⟩ (qX9_isRank l D ty eo _ p1 _ h2) (va_cwS 1 hts gX9_floor_X9_isRank rfl rfl rfl hd_X9_isRank ⟨Nat.le_of_ble_eq_true rfl, Nat.le_of_ble_eq_true rfl⟩) (pvS_0 hK hN hE hP hD hS hA) rfl rfl hl.1 rfl (lv_room (Nat.le_of_ble_eq_true rfl)) dX9_floor_1 ⟨Nat.le_of_ble_eq_true rfl, Nat.le_of_ble_eq_true rfl⟩) hP hD hS hA (fun _ _ h9 => h9.2.symm) (fun r9 u9 H locs hw hp hd hs => ?_)
  obtain ⟨rfl, -⟩ := hw
  clear hP hD hS
  have hP := hp; have hD := hd; have hS := hs; clear hp hd hs
  refine lv_if_eq (tgt := 14) hx hb dX9_floor_4 (by decide) (fun c9 => ?_) (fun c9 => ?_)
  · rw [if_pos c9] at h
    exact WX9_floor_s0_14 C  _ _ _ _ h hP hD hS (lv_sub hl [0] rfl)
  · rw [if_neg c9] at h
    refine lv_iload_n hx hb dX9_floor_7 rfl (lv_at hl 2 rfl) ?_
    obtain ⟨r3, h4, h⟩ := dV_some h
    refine dw_ks (va_runS (As := [.int p2]) (rest := []) ⟨hx, hb, hml, hown, hts⟩ (qX9_isBit l D ty eo _ p2 _ h4) (va_cwS 1 hts gX9_floor_X9_isBit rfl rfl rfl hd_X9_isBit ⟨Nat.le_of_ble_eq_true rfl, Nat.le_of_ble_eq_true rfl⟩) (pvS_0 hK hN hE hP hD hS hA) rfl rfl hl.1 rfl (lv_room (Nat.le_of_ble_eq_true rfl)) dX9_floor_8 ⟨Nat.le_of_ble_eq_true rfl, Nat.le_of_ble_eq_true rfl⟩) hP hD hS hA (fun _ _ h9 => h9.2.symm) (fun r9 u9 H locs hw hp hd hs => ?_)
    obtain ⟨rfl, -⟩ := hw
    clear hP hD hS
    have hP := hp; have hD := hd; have hS := hs; clear hp hd hs
    refine lv_if_ne (tgt := 20) hx hb dX9_floor_11 (by decide) (fun c9 => ?_) (fun c9 => ?_)
    · rw [if_neg c9] at h
      refine lv_aload_n hx hb dX9_floor_20 rfl (lv_at hl 0 rfl) ?_
      refine va_get (D := D) (ci := 9) (v := .ref (ad 1)) (C := RX9) (T := TX9) (N := 19) hx hb hts u9_wsX9_floor_X9 hown hK hP 0 rfl rfl 0 (by decide) (hts (.fieldLink RX9 10 "TurnedFloors" "state" "LTurnedFloors$State;") f9_wsX9_floor_360) (fun _ h9 => h9) rfl dX9_floor_21 ?_
      refine va_getN (D := D) (ci := 6) (v := .ref (ad 2)) (C := RX6) (T := TX6) (N := 10) hx hb hts u9_wsX9_floor_X6 hown hK hP 1 rfl rfl 0 (by decide) (hN.use (.fieldLinkNest "TurnedFloors" 122 "TurnedFloors$State" "tower" "LTurnedFloors$Tower;" "TurnedFloors") nn9_0) (fun _ h9 => h9) rfl dX9_floor_24 ?_
      refine lv_iload_n hx hb dX9_floor_27 rfl (lv_at hl 1 rfl) ?_
      obtain ⟨r5, q7, h6, h⟩ := dB_some h
      refine dw_ki (va_runV (As := [.int p1]) (rest := []) ⟨hx, hb, hml, hown, hts⟩ (qX8_has_s2 l D ty eo _ ad q p1 r5 q7 h6) (cwV 1 hts gX9_floor_X8_has rfl rfl rfl hd_X8_has_v ⟨Nat.le_of_ble_eq_true rfl, Nat.le_of_ble_eq_true rfl⟩) (pvF_8_2 hK hN hE hP hD hS hA) rfl rfl hl.1 rfl (lv_room (Nat.le_of_ble_eq_true rfl)) dX9_floor_28 ⟨Nat.le_of_ble_eq_true rfl, Nat.le_of_ble_eq_true rfl⟩) hD hS hA (fun r9 u9 H locs hw hp hd hs => ?_)
      clear hP hD hS
      obtain ⟨rfl, rfl⟩ := hw
      have hP := hp; have hD := hd; have hS := hs; clear hp hd hs
      refine lv_if_eq (tgt := 41) hx hb dX9_floor_31 (by decide) (fun c9 => ?_) (fun c9 => ?_)
      · rw [if_pos c9] at h
        refine lv_aload_n hx hb dX9_floor_41 rfl (lv_at hl 0 rfl) ?_
        refine va_get (D := D) (ci := 9) (v := .ref (ad 1)) (C := RX9) (T := TX9) (N := 19) hx hb hts u9_wsX9_floor_X9 hown hK hP 0 rfl rfl 0 (by decide) (hts (.fieldLink RX9 10 "TurnedFloors" "state" "LTurnedFloors$State;") f9_wsX9_floor_360) (fun _ h9 => h9) rfl dX9_floor_42 ?_
        refine va_getN (D := D) (ci := 6) (v := .ref (ad 2)) (C := RX6) (T := TX6) (N := 10) hx hb hts u9_wsX9_floor_X6 hown hK hP 1 rfl rfl 0 (by decide) (hN.use (.fieldLinkNest "TurnedFloors" 122 "TurnedFloors$State" "tower" "LTurnedFloors$Tower;" "TurnedFloors") nn9_0) (fun _ h9 => h9) rfl dX9_floor_45 ?_
        refine lv_iload_n hx hb dX9_floor_48 rfl (lv_at hl 1 rfl) ?_
        refine lv_iload_n hx hb dX9_floor_49 rfl (lv_at hl 2 rfl) ?_
        obtain ⟨r8, q10, h9, h⟩ := dB_some h
        refine dw_ki (va_runV (As := [.int p1, .int p2]) (rest := []) ⟨hx, hb, hml, hown, hts⟩ (qX8_add_s2 l D ty eo _ ad q7 p1 p2 r8 q10 h9) (cwV 2 hts gX9_floor_X8_add rfl rfl rfl hd_X8_add_v ⟨Nat.le_of_ble_eq_true rfl, Nat.le_of_ble_eq_true rfl⟩) (pvF_8_2 hK hN hE hP hD hS hA) rfl rfl hl.1 rfl (lv_room (Nat.le_of_ble_eq_true rfl)) dX9_floor_50 ⟨Nat.le_of_ble_eq_true rfl, Nat.le_of_ble_eq_true rfl⟩) hD hS hA (fun r9 u9 H locs hw hp hd hs => ?_)
        clear hP hD hS
        obtain ⟨rfl, rfl⟩ := hw
        have hP := hp; have hD := hd; have hS := hs; clear hp hd hs
        refine lv_if_ne (tgt := 63) hx hb dX9_floor_53 (by decide) (fun c9 => ?_) (fun c9 => ?_)
        · rw [if_neg c9] at h
          refine lv_aload_n hx hb dX9_floor_63 rfl (lv_at hl 0 rfl) ?_
          refine va_get (D := D) (ci := 9) (v := .ref (ad 10)) (C := RX9) (T := TX9) (N := 19) hx hb hts u9_wsX9_floor_X9 hown hK hP 0 rfl rfl 3 (by decide) (hts (.fieldLink RX9 27 "TurnedFloors" "history" "LTurnedFloors$History;") f9_wsX9_floor_361) (fun _ h9 => h9) rfl dX9_floor_64 ?_
          obtain ⟨q13, h12, h⟩ := dV_some h
          refine dw_kv (va_runV (As := []) (rest := []) ⟨hx, hb, hml, hown, hts⟩ (qX0_clear_s10 l D ty eo _ ad q10  q13 h12) (cwV 0 hts gX9_floor_X0_clear rfl rfl rfl hd_X0_clear_v ⟨Nat.le_of_ble_eq_true rfl, Nat.le_of_ble_eq_true rfl⟩) (pvF_0_10 hK hN hE hP hD hS hA) rfl rfl hl.1 rfl (lv_room (Nat.le_of_ble_eq_true rfl)) dX9_floor_67 ⟨Nat.le_of_ble_eq_true rfl, Nat.le_of_ble_eq_true rfl⟩) hD hS hA (fun u9 H locs hw hp hd hs => ?_)
          clear hP hD hS
          obtain rfl := hw
          have hP := hp; have hD := hd; have hS := hs; clear hp hd hs
          refine lv_aload_n hx hb dX9_floor_70 rfl (lv_at hl 0 rfl) ?_
          refine lv_aload_n hx hb dX9_floor_71 rfl (lv_at hl 0 rfl) ?_
          refine va_get (D := D) (ci := 9) (v := .ref (ad 1)) (C := RX9) (T := TX9) (N := 19) hx hb hts u9_wsX9_floor_X9 hown hK hP 0 rfl rfl 0 (by decide) (hts (.fieldLink RX9 10 "TurnedFloors" "state" "LTurnedFloors$State;") f9_wsX9_floor_360) (fun _ h9 => h9) rfl dX9_floor_72 ?_
          refine va_getN (D := D) (ci := 6) (v := .ref (ad 2)) (C := RX6) (T := TX6) (N := 10) hx hb hts u9_wsX9_floor_X6 hown hK hP 1 rfl rfl 0 (by decide) (hN.use (.fieldLinkNest "TurnedFloors" 122 "TurnedFloors$State" "tower" "LTurnedFloors$Tower;" "TurnedFloors") nn9_0) (fun _ h9 => h9) rfl dX9_floor_75 ?_
          refine va_getN (D := D) (ci := 8) (v := .int (q13.1 2 2)) (C := RX8) (T := TX8) (N := 5) hx hb hts u9_wsX9_floor_X8 hown hK hP 2 rfl rfl 2 (by decide) (hN.use (.fieldLinkNest "TurnedFloors" 135 "TurnedFloors$Tower" "floors" "I" "TurnedFloors") nn9_1) (fun _ h9 => h9) rfl dX9_floor_78 ?_
          refine lv_iconst (v := 1) hx hb dX9_floor_81 (by decide) ?_
          refine lv_isub hx hb dX9_floor_82 ?_
          obtain ⟨r14, q16, h15, h⟩ := dB_some h
          refine dw_ki (va_runV (As := [.int ((q13.1 2 2) - 1 : Int32)]) (rest := []) ⟨hx, hb, hml, hown, hts⟩ (qX9_accept_s0 l D ty eo _ ad q13 ((q13.1 2 2) - 1 : Int32) r14 q16 h15) (cwV 1 hts gX9_floor_X9_accept rfl rfl rfl hd_X9_accept_v ⟨Nat.le_of_ble_eq_true rfl, Nat.le_of_ble_eq_true rfl⟩) (pvF_9_0 hK hN hE hP hD hS hA) rfl rfl hl.1 rfl (lv_room (Nat.le_of_ble_eq_true rfl)) dX9_floor_83 ⟨Nat.le_of_ble_eq_true rfl, Nat.le_of_ble_eq_true rfl⟩) hD hS hA (fun r9 u9 H locs hw hp hd hs => ?_)
          clear hP hD hS
          obtain ⟨rfl, rfl⟩ := hw
          have hP := hp; have hD := hd; have hS := hs; clear hp hd hs
          cases h
          exact kz_iret hx hb hr hlocks hP hK hD hS dX9_floor_86 ⟨rfl, rfl⟩
        · rw [if_pos c9] at h
          refine lv_aload_n hx hb dX9_floor_56 rfl (lv_at hl 0 rfl) ?_
          refine lv_bipush (v := (-5)) hx hb dX9_floor_57 (by decide) ?_
          obtain ⟨r17, q19, h18, h⟩ := dB_some h
          refine dw_ki (va_runV (As := [.int (-5)]) (rest := []) ⟨hx, hb, hml, hown, hts⟩ (qX9_refuse_s0 l D ty eo _ ad q10 (-5) r17 q19 h18) (cwV 1 hts gX9_floor_X9_refuse rfl rfl rfl hd_X9_refuse_v ⟨Nat.le_of_ble_eq_true rfl, Nat.le_of_ble_eq_true rfl⟩) (pvF_9_0 hK hN hE hP hD hS hA) rfl rfl hl.1 rfl (lv_room (Nat.le_of_ble_eq_true rfl)) dX9_floor_59 ⟨Nat.le_of_ble_eq_true rfl, Nat.le_of_ble_eq_true rfl⟩) hD hS hA (fun r9 u9 H locs hw hp hd hs => ?_)
          clear hP hD hS
          obtain ⟨rfl, rfl⟩ := hw
          have hP := hp; have hD := hd; have hS := hs; clear hp hd hs
          cases h
          exact kz_iret hx hb hr hlocks hP hK hD hS dX9_floor_62 ⟨rfl, rfl⟩
      · rw [if_neg c9] at h
        refine lv_aload_n hx hb dX9_floor_34 rfl (lv_at hl 0 rfl) ?_
        refine lv_bipush (v := (-3)) hx hb dX9_floor_35 (by decide) ?_
        obtain ⟨r20, q22, h21, h⟩ := dB_some h
        refine dw_ki (va_runV (As := [.int (-3)]) (rest := []) ⟨hx, hb, hml, hown, hts⟩ (qX9_refuse_s0 l D ty eo _ ad q7 (-3) r20 q22 h21) (cwV 1 hts gX9_floor_X9_refuse rfl rfl rfl hd_X9_refuse_v ⟨Nat.le_of_ble_eq_true rfl, Nat.le_of_ble_eq_true rfl⟩) (pvF_9_0 hK hN hE hP hD hS hA) rfl rfl hl.1 rfl (lv_room (Nat.le_of_ble_eq_true rfl)) dX9_floor_37 ⟨Nat.le_of_ble_eq_true rfl, Nat.le_of_ble_eq_true rfl⟩) hD hS hA (fun r9 u9 H locs hw hp hd hs => ?_)
        clear hP hD hS
        obtain ⟨rfl, rfl⟩ := hw
        have hP := hp; have hD := hd; have hS := hs; clear hp hd hs
        cases h
        exact kz_iret hx hb hr hlocks hP hK hD hS dX9_floor_40 ⟨rfl, rfl⟩
    · rw [if_pos c9] at h
      exact WX9_floor_s0_14 C  _ _ _ _ h hP hD hS (lv_sub hl [0] rfl)

set_option maxHeartbeats 4000000 in
set_option maxRecDepth 100000 in
theorem WX8_isFloor_s2_17 {p : Program} {l : Launch} {e : Env} {s : State} {m : MethodId} {args : Array Value} {below : List Frame} {meth : Method} {c : Code} {D : va_G} {ty : Nat → ClassId} {eo : Nat → Nat} {A : Nat → Prop} {ad : Nat → Nat} {o1 : Int32} {o2 : dK} (C : dc_C p s m args meth c cX8_isFloor (some .boolean) 2 RX8 wsX8_isFloor D ty eo A)   (q : dK) (y0 : Int32) (H : Heap) (locs : List Loc) (ls : Array Slot) (h : zX8_isFloor_s2_17  q y0 = some (o1, o2)) (hP : va_P D vwCl (wF ty ad q) H) (hD : va_D A (wF ty ad q)) (hS : va_S A s.heap H locs) (hl : lv_has ls 2 []) : W p l e ({ frames := 0, cells := 0, slots := 0, locals := 0 } : Room) s m args below meth c H locs 0 0 (MQ below (va_Qi (fun (r : Int32) (u : va_W) => o1 = r ∧ wF ty ad o2 = u) (kz_B D ty A) A) args s 0 0 A) (F0 m 17 ls [.int y0]) := by
  have C0 := C
  obtain ⟨hx, hb, hr, hts, hown, hlocks, hml, hK, hN, hE, hA⟩ := C
  unfold zX8_isFloor_s2_17 at h
  obtain ⟨g1, h⟩ := dG_some h
  cases h
  exact kz_zret hx hb hr hlocks (dbl_nar g1) hP hK hD hS dX8_isFloor_17 ⟨rfl, rfl⟩
set_option maxHeartbeats 4000000 in
set_option maxRecDepth 100000 in
theorem WX8_isFloor_s2_16 {p : Program} {l : Launch} {e : Env} {s : State} {m : MethodId} {args : Array Value} {below : List Frame} {meth : Method} {c : Code} {D : va_G} {ty : Nat → ClassId} {eo : Nat → Nat} {A : Nat → Prop} {ad : Nat → Nat} {o1 : Int32} {o2 : dK} (C : dc_C p s m args meth c cX8_isFloor (some .boolean) 2 RX8 wsX8_isFloor D ty eo A)   (q : dK)  (H : Heap) (locs : List Loc) (ls : Array Slot) (h : zX8_isFloor_s2_16  q = some (o1, o2)) (hP : va_P D vwCl (wF ty ad q) H) (hD : va_D A (wF ty ad q)) (hS : va_S A s.heap H locs) (hl : lv_has ls 2 []) : W p l e ({ frames := 0, cells := 0, slots := 0, locals := 0 } : Room) s m args below meth c H locs 0 0 (MQ below (va_Qi (fun (r : Int32) (u : va_W) => o1 = r ∧ wF ty ad o2 = u) (kz_B D ty A) A) args s 0 0 A) (F0 m 16 ls []) := by
  have C0 := C
  obtain ⟨hx, hb, hr, hts, hown, hlocks, hml, hK, hN, hE, hA⟩ := C
  unfold zX8_isFloor_s2_16 at h
  refine lv_iconst (v := 0) hx hb dX8_isFloor_16 (by decide) ?_
  exact WX8_isFloor_s2_17 C0  _ _ _ _ _ h hP hD hS (lv_sub hl [] rfl)
set_option maxHeartbeats 4000000 in
set_option maxRecDepth 100000 in
theorem qX8_isFloor_s2 (l : Launch) (D : va_G) (ty : Nat → ClassId) (eo : Nat → Nat) (sz : Nat) (ad : Nat → Nat) (q : dK) (p1 : Int32) (o1 : Int32) (o2 : dK) (h : zX8_isFloor_s2 q p1 = some (o1, o2)) : Met l yX8_isFloor wsX8_isFloor ({ frames := 0, cells := 0, slots := 0, locals := 0 } : Room) (va_Pc [.ref (ad 2), .int p1] (kz_pre D ty eo (wF ty ad q) sz)) (va_Qi (fun (r : Int32) (u : va_W) => o1 = r ∧ wF ty ad o2 = u) (kz_B D ty (va_A (wF ty ad q) sz)) (va_A (wF ty ad q) sz)) 0 0 (va_A (wF ty ad q) sz) := by
  refine Met.ofW (cc := cX8_isFloor) (maxL := 2) (ret := (some .boolean)) (by decide) rfl ?_
  intro p e s m args below meth c s₁ B hml hv
  obtain ⟨rfl, hsz, hP, hK, hD0, hN, hE⟩ := hv
  have hx := B.exec
  have hb := B.bytes
  have hr := B.returns
  have hts := atoms_spec (ws := wsX8_isFloor) B.pre
  have hown : s.vm.findClass RX8 = some m.cls := findClass_of_methodNamed B.named
  have hlocks := B.notSynchronized
  subst hsz
  have hD := hD0.self (sz := s.heap.size)
  generalize hAe : va_A (wF ty ad q) s.heap.size = A at hD hE ⊢
  have hA : ∀ q : Nat, s.heap.size ≤ q → A q := fun q h => by rw [← hAe]; exact Or.inr h
  clear hAe
  have hS : va_S A s.heap s.heap [] := va_S.rf
  have hl := lv_entry ([.ref (ad 2), .int p1]) (n := 2) (Nat.le_of_ble_eq_true rfl)
  rw [lg_entry_eq]
  generalize (lg_sl ([.ref (ad 2), .int p1]) ++ List.replicate (2 - (lg_sl ([.ref (ad 2), .int p1])).length) Slot.unset).toArray = ls at hl ⊢
  have hl : lv_has ls 2 [(0, .ref (ad 2)), (1, .int p1)] := hl
  have C : dc_C p s m _ meth c cX8_isFloor (some .boolean) 2 RX8 wsX8_isFloor D ty eo A := ⟨hx, hb, hr, hts, hown, hlocks, hml, hK, hN, hE, hA⟩
  unfold zX8_isFloor_s2 at h
  refine lv_iload_n hx hb dX8_isFloor_0 rfl (lv_at hl 1 rfl) ?_
  refine lv_if_lt (tgt := 16) hx hb dX8_isFloor_1 (by decide) (fun c9 => ?_) (fun c9 => ?_)
  · rw [if_pos c9] at h
    exact WX8_isFloor_s2_16 C  _ _ _ _ h hP hD hS (lv_sub hl [] rfl)
  · rw [if_neg c9] at h
    refine lv_iload_n hx hb dX8_isFloor_4 rfl (lv_at hl 1 rfl) ?_
    refine lv_aload_n hx hb dX8_isFloor_5 rfl (lv_at hl 0 rfl) ?_
    refine va_get (D := D) (ci := 8) (v := .int (q.1 2 2)) (C := RX8) (T := TX8) (N := 5) hx hb hts u9_wsX8_isFloor_X8 hown hK hP 2 rfl rfl 2 (by decide) (hts (.fieldLink RX8 18 "TurnedFloors$Tower" "floors" "I") f9_wsX8_isFloor_363) (fun _ h9 => h9) rfl dX8_isFloor_6 ?_
    refine lv_icmp_ge (tgt := 16) hx hb dX8_isFloor_9 (by decide) (fun c9 => ?_) (fun c9 => ?_)
    · rw [if_pos c9] at h
      exact WX8_isFloor_s2_16 C  _ _ _ _ h hP hD hS (lv_sub hl [] rfl)
    · rw [if_neg c9] at h
      refine lv_iconst (v := 1) hx hb dX8_isFloor_12 (by decide) ?_
      refine lv_goto (tgt := 17) hx hb dX8_isFloor_13 (by decide) ?_
      exact WX8_isFloor_s2_17 C  _ _ _ _ _ h hP hD hS (lv_sub hl [] rfl)

set_option maxHeartbeats 4000000 in
set_option maxRecDepth 100000 in
theorem WX8_tell_s2_36 {p : Program} {l : Launch} {e : Env} {s : State} {m : MethodId} {args : Array Value} {below : List Frame} {meth : Method} {c : Code} {D : va_G} {ty : Nat → ClassId} {eo : Nat → Nat} {A : Nat → Prop} {ad : Nat → Nat} {o1 : Int32} {o2 : dK} (C : dc_C p s m args meth c cX8_tell (some .int) 3 RX8 wsX8_tell D ty eo A)   (q : dK) (y0 : Int32) (H : Heap) (locs : List Loc) (ls : Array Slot) (h : zX8_tell_s2_36  q y0 = some (o1, o2)) (hP : va_P D vwCl (wF ty ad q) H) (hD : va_D A (wF ty ad q)) (hS : va_S A s.heap H locs) (hl : lv_has ls 3 []) : W p l e ({ frames := 1, cells := 0, slots := 0, locals := 21 } : Room) s m args below meth c H locs 0 0 (MQ below (va_Qi (fun (r : Int32) (u : va_W) => o1 = r ∧ wF ty ad o2 = u) (kz_B D ty A) A) args s 0 0 A) (F0 m 36 ls [.int y0]) := by
  have C0 := C
  obtain ⟨hx, hb, hr, hts, hown, hlocks, hml, hK, hN, hE, hA⟩ := C
  unfold zX8_tell_s2_36 at h
  cases h
  exact kz_iret hx hb hr hlocks hP hK hD hS dX8_tell_36 ⟨rfl, rfl⟩
set_option maxHeartbeats 4000000 in
set_option maxRecDepth 100000 in
theorem WX8_tell_s2_15 {p : Program} {l : Launch} {e : Env} {s : State} {m : MethodId} {args : Array Value} {below : List Frame} {meth : Method} {c : Code} {D : va_G} {ty : Nat → ClassId} {eo : Nat → Nat} {A : Nat → Prop} {ad : Nat → Nat} {o1 : Int32} {o2 : dK} (C : dc_C p s m args meth c cX8_tell (some .int) 3 RX8 wsX8_tell D ty eo A)   (q : dK)  (H : Heap) (locs : List Loc) (ls : Array Slot) (h : zX8_tell_s2_15  q = some (o1, o2)) (hP : va_P D vwCl (wF ty ad q) H) (hD : va_D A (wF ty ad q)) (hS : va_S A s.heap H locs) (hl : lv_has ls 3 []) : W p l e ({ frames := 1, cells := 0, slots := 0, locals := 21 } : Room) s m args below meth c H locs 0 0 (MQ below (va_Qi (fun (r : Int32) (u : va_W) => o1 = r ∧ wF ty ad o2 = u) (kz_B D ty A) A) args s 0 0 A) (F0 m 15 ls []) := by
  have C0 := C
  obtain ⟨hx, hb, hr, hts, hown, hlocks, hml, hK, hN, hE, hA⟩ := C
  unfold zX8_tell_s2_15 at h
  refine lv_iconst (v := (-1)) hx hb dX8_tell_15 (by decide) ?_
  cases h
  exact kz_iret hx hb hr hlocks hP hK hD hS dX8_tell_16 ⟨rfl, rfl⟩
set_option maxHeartbeats 4000000 in
set_option maxRecDepth 100000 in
theorem qX8_tell_s2 (l : Launch) (D : va_G) (ty : Nat → ClassId) (eo : Nat → Nat) (sz : Nat) (ad : Nat → Nat) (q : dK) (p1 : Int32) (p2 : Int32) (o1 : Int32) (o2 : dK) (h : zX8_tell_s2 q p1 p2 = some (o1, o2)) : Met l yX8_tell wsX8_tell ({ frames := 1, cells := 0, slots := 0, locals := 21 } : Room) (va_Pc [.ref (ad 2), .int p1, .int p2] (kz_pre D ty eo (wF ty ad q) sz)) (va_Qi (fun (r : Int32) (u : va_W) => o1 = r ∧ wF ty ad o2 = u) (kz_B D ty (va_A (wF ty ad q) sz)) (va_A (wF ty ad q) sz)) 0 0 (va_A (wF ty ad q) sz) := by
  refine Met.ofW (cc := cX8_tell) (maxL := 3) (ret := (some .int)) (by decide) rfl ?_
  intro p e s m args below meth c s₁ B hml hv
  obtain ⟨rfl, hsz, hP, hK, hD0, hN, hE⟩ := hv
  have hx := B.exec
  have hb := B.bytes
  have hr := B.returns
  have hts := atoms_spec (ws := wsX8_tell) B.pre
  have hown : s.vm.findClass RX8 = some m.cls := findClass_of_methodNamed B.named
  have hlocks := B.notSynchronized
  subst hsz
  have hD := hD0.self (sz := s.heap.size)
  generalize hAe : va_A (wF ty ad q) s.heap.size = A at hD hE ⊢
  have hA : ∀ q : Nat, s.heap.size ≤ q → A q := fun q h => by rw [← hAe]; exact Or.inr h
  clear hAe
  have hS : va_S A s.heap s.heap [] := va_S.rf
  have hl := lv_entry ([.ref (ad 2), .int p1, .int p2]) (n := 3) (Nat.le_of_ble_eq_true rfl)
  rw [lg_entry_eq]
  generalize (lg_sl ([.ref (ad 2), .int p1, .int p2]) ++ List.replicate (3 - (lg_sl ([.ref (ad 2), .int p1, .int p2])).length) Slot.unset).toArray = ls at hl ⊢
  have hl : lv_has ls 3 [(0, .ref (ad 2)), (1, .int p1), (2, .int p2)] := hl
  have C : dc_C p s m _ meth c cX8_tell (some .int) 3 RX8 wsX8_tell D ty eo A := ⟨hx, hb, hr, hts, hown, hlocks, hml, hK, hN, hE, hA⟩
  unfold zX8_tell_s2 at h
  refine lv_aload_n hx hb dX8_tell_0 rfl (lv_at hl 0 rfl) ?_
  refine lv_iload_n hx hb dX8_tell_1 rfl (lv_at hl 1 rfl) ?_
  obtain ⟨r1, q3, h2, h⟩ := dB_some h
  refine dw_ki (va_runV (As := [.int p1]) (rest := []) ⟨hx, hb, hml, hown, hts⟩ (qX8_isFloor_s2 l D ty eo _ ad q p1 r1 q3 h2) (cwV 1 hts gX8_tell_X8_isFloor rfl rfl rfl hd_X8_isFloor_v ⟨Nat.le_of_ble_eq_true rfl, Nat.le_of_ble_eq_true rfl⟩) (pvF_8_2 hK hN hE hP hD hS hA) rfl rfl hl.1 rfl (lv_room (Nat.le_of_ble_eq_true rfl)) dX8_tell_2 ⟨Nat.le_of_ble_eq_true rfl, Nat.le_of_ble_eq_true rfl⟩) hD hS hA (fun r9 u9 H locs hw hp hd hs => ?_)
  clear hP hD hS
  obtain ⟨rfl, rfl⟩ := hw
  have hP := hp; have hD := hd; have hS := hs; clear hp hd hs
  refine lv_if_eq (tgt := 15) hx hb dX8_tell_5 (by decide) (fun c9 => ?_) (fun c9 => ?_)
  · rw [if_pos c9] at h
    exact WX8_tell_s2_15 C  _ _ _ _ h hP hD hS (lv_sub hl [] rfl)
  · rw [if_neg c9] at h
    refine lv_iload_n hx hb dX8_tell_8 rfl (lv_at hl 2 rfl) ?_
    obtain ⟨r4, h5, h⟩ := dV_some h
    refine dw_ks (va_runSN (As := [.int p2]) (rest := []) ⟨hx, hb, hml, hown, hts⟩ (qX9_isBit l D ty eo _ p2 _ h5) ⟨va_cnB 1 hts gX8_tell_X9_isBit_n32 rfl rfl rfl (hN.1 _ (by decide +kernel : (.methodLinkNest "TurnedFloors$Tower" 32 yX9_isBit "TurnedFloors" : Cond) ∈ kzN1)) (hts (.initialized RX9) f9_wsX8_tell_365) (by decide +kernel) ⟨Nat.le_of_ble_eq_true rfl, Nat.le_of_ble_eq_true rfl⟩, hts (.static yX9_isBit) (by decide +kernel), trivial⟩ (pvS_0 hK hN hE hP hD hS hA) rfl rfl hl.1 rfl (lv_room (Nat.le_of_ble_eq_true rfl)) dX8_tell_9 ⟨Nat.le_of_ble_eq_true rfl, Nat.le_of_ble_eq_true rfl⟩) hP hD hS hA (fun _ _ h9 => h9.2.symm) (fun r9 u9 H locs hw hp hd hs => ?_)
    obtain ⟨rfl, -⟩ := hw
    clear hP hD hS
    have hP := hp; have hD := hd; have hS := hs; clear hp hd hs
    refine lv_if_ne (tgt := 17) hx hb dX8_tell_12 (by decide) (fun c9 => ?_) (fun c9 => ?_)
    · rw [if_neg c9] at h
      refine lv_iload_n hx hb dX8_tell_17 rfl (lv_at hl 2 rfl) ?_
      refine lv_if_ne (tgt := 30) hx hb dX8_tell_18 (by decide) (fun c9 => ?_) (fun c9 => ?_)
      · rw [if_neg c9] at h
        refine lv_aload_n hx hb dX8_tell_30 rfl (lv_at hl 0 rfl) ?_
        refine va_get (D := D) (ci := 8) (v := .ref (ad 4)) (C := RX8) (T := TX8) (N := 5) hx hb hts u9_wsX8_tell_X8 hown hK hP 2 rfl rfl 1 (by decide) (hts (.fieldLink RX8 15 "TurnedFloors$Tower" "head" "[I") f9_wsX8_tell_366) (fun _ h9 => h9) rfl dX8_tell_31 ?_
        refine lv_iload_n hx hb dX8_tell_34 rfl (lv_at hl 1 rfl) ?_
        obtain ⟨g6, h⟩ := dG_some h
        refine va_iald hx hb hK hP 4 0 rfl rfl (dg_in g6) dX8_tell_35 ?_
        obtain ⟨v7, ev7, h⟩ := dL_some h
        refine kz_topi v7 ev7 ?_
        exact WX8_tell_s2_36 C  _ _ _ _ _ h hP hD hS (lv_sub hl [] rfl)
      · rw [if_pos c9] at h
        refine lv_aload_n hx hb dX8_tell_21 rfl (lv_at hl 0 rfl) ?_
        refine va_get (D := D) (ci := 8) (v := .ref (ad 3)) (C := RX8) (T := TX8) (N := 5) hx hb hts u9_wsX8_tell_X8 hown hK hP 2 rfl rfl 0 (by decide) (hts (.fieldLink RX8 9 "TurnedFloors$Tower" "rank" "[I") f9_wsX8_tell_367) (fun _ h9 => h9) rfl dX8_tell_22 ?_
        refine lv_iload_n hx hb dX8_tell_25 rfl (lv_at hl 1 rfl) ?_
        obtain ⟨g8, h⟩ := dG_some h
        refine va_iald hx hb hK hP 3 0 rfl rfl (dg_in g8) dX8_tell_26 ?_
        obtain ⟨v9, ev9, h⟩ := dL_some h
        refine kz_topi v9 ev9 ?_
        refine lv_goto (tgt := 36) hx hb dX8_tell_27 (by decide) ?_
        exact WX8_tell_s2_36 C  _ _ _ _ _ h hP hD hS (lv_sub hl [] rfl)
    · rw [if_pos c9] at h
      exact WX8_tell_s2_15 C  _ _ _ _ h hP hD hS (lv_sub hl [] rfl)

set_option maxHeartbeats 4000000 in
set_option maxRecDepth 100000 in
theorem WX6_isLaw_s1_17 {p : Program} {l : Launch} {e : Env} {s : State} {m : MethodId} {args : Array Value} {below : List Frame} {meth : Method} {c : Code} {D : va_G} {ty : Nat → ClassId} {eo : Nat → Nat} {A : Nat → Prop} {ad : Nat → Nat} {o1 : Int32} {o2 : dK} (C : dc_C p s m args meth c cX6_isLaw (some .boolean) 2 RX6 wsX6_isLaw D ty eo A)   (q : dK) (y0 : Int32) (H : Heap) (locs : List Loc) (ls : Array Slot) (h : zX6_isLaw_s1_17  q y0 = some (o1, o2)) (hP : va_P D vwCl (wF ty ad q) H) (hD : va_D A (wF ty ad q)) (hS : va_S A s.heap H locs) (hl : lv_has ls 2 []) : W p l e ({ frames := 0, cells := 0, slots := 0, locals := 0 } : Room) s m args below meth c H locs 0 0 (MQ below (va_Qi (fun (r : Int32) (u : va_W) => o1 = r ∧ wF ty ad o2 = u) (kz_B D ty A) A) args s 0 0 A) (F0 m 17 ls [.int y0]) := by
  have C0 := C
  obtain ⟨hx, hb, hr, hts, hown, hlocks, hml, hK, hN, hE, hA⟩ := C
  unfold zX6_isLaw_s1_17 at h
  obtain ⟨g1, h⟩ := dG_some h
  cases h
  exact kz_zret hx hb hr hlocks (dbl_nar g1) hP hK hD hS dX6_isLaw_17 ⟨rfl, rfl⟩
set_option maxHeartbeats 4000000 in
set_option maxRecDepth 100000 in
theorem WX6_isLaw_s1_16 {p : Program} {l : Launch} {e : Env} {s : State} {m : MethodId} {args : Array Value} {below : List Frame} {meth : Method} {c : Code} {D : va_G} {ty : Nat → ClassId} {eo : Nat → Nat} {A : Nat → Prop} {ad : Nat → Nat} {o1 : Int32} {o2 : dK} (C : dc_C p s m args meth c cX6_isLaw (some .boolean) 2 RX6 wsX6_isLaw D ty eo A)   (q : dK)  (H : Heap) (locs : List Loc) (ls : Array Slot) (h : zX6_isLaw_s1_16  q = some (o1, o2)) (hP : va_P D vwCl (wF ty ad q) H) (hD : va_D A (wF ty ad q)) (hS : va_S A s.heap H locs) (hl : lv_has ls 2 []) : W p l e ({ frames := 0, cells := 0, slots := 0, locals := 0 } : Room) s m args below meth c H locs 0 0 (MQ below (va_Qi (fun (r : Int32) (u : va_W) => o1 = r ∧ wF ty ad o2 = u) (kz_B D ty A) A) args s 0 0 A) (F0 m 16 ls []) := by
  have C0 := C
  obtain ⟨hx, hb, hr, hts, hown, hlocks, hml, hK, hN, hE, hA⟩ := C
  unfold zX6_isLaw_s1_16 at h
  refine lv_iconst (v := 0) hx hb dX6_isLaw_16 (by decide) ?_
  exact WX6_isLaw_s1_17 C0  _ _ _ _ _ h hP hD hS (lv_sub hl [] rfl)
set_option maxHeartbeats 4000000 in
set_option maxRecDepth 100000 in
theorem qX6_isLaw_s1 (l : Launch) (D : va_G) (ty : Nat → ClassId) (eo : Nat → Nat) (sz : Nat) (ad : Nat → Nat) (q : dK) (p1 : Int32) (o1 : Int32) (o2 : dK) (h : zX6_isLaw_s1 q p1 = some (o1, o2)) : Met l yX6_isLaw wsX6_isLaw ({ frames := 0, cells := 0, slots := 0, locals := 0 } : Room) (va_Pc [.ref (ad 1), .int p1] (kz_pre D ty eo (wF ty ad q) sz)) (va_Qi (fun (r : Int32) (u : va_W) => o1 = r ∧ wF ty ad o2 = u) (kz_B D ty (va_A (wF ty ad q) sz)) (va_A (wF ty ad q) sz)) 0 0 (va_A (wF ty ad q) sz) := by
  refine Met.ofW (cc := cX6_isLaw) (maxL := 2) (ret := (some .boolean)) (by decide) rfl ?_
  intro p e s m args below meth c s₁ B hml hv
  obtain ⟨rfl, hsz, hP, hK, hD0, hN, hE⟩ := hv
  have hx := B.exec
  have hb := B.bytes
  have hr := B.returns
  have hts := atoms_spec (ws := wsX6_isLaw) B.pre
  have hown : s.vm.findClass RX6 = some m.cls := findClass_of_methodNamed B.named
  have hlocks := B.notSynchronized
  subst hsz
  have hD := hD0.self (sz := s.heap.size)
  generalize hAe : va_A (wF ty ad q) s.heap.size = A at hD hE ⊢
  have hA : ∀ q : Nat, s.heap.size ≤ q → A q := fun q h => by rw [← hAe]; exact Or.inr h
  clear hAe
  have hS : va_S A s.heap s.heap [] := va_S.rf
  have hl := lv_entry ([.ref (ad 1), .int p1]) (n := 2) (Nat.le_of_ble_eq_true rfl)
  rw [lg_entry_eq]
  generalize (lg_sl ([.ref (ad 1), .int p1]) ++ List.replicate (2 - (lg_sl ([.ref (ad 1), .int p1])).length) Slot.unset).toArray = ls at hl ⊢
  have hl : lv_has ls 2 [(0, .ref (ad 1)), (1, .int p1)] := hl
  have C : dc_C p s m _ meth c cX6_isLaw (some .boolean) 2 RX6 wsX6_isLaw D ty eo A := ⟨hx, hb, hr, hts, hown, hlocks, hml, hK, hN, hE, hA⟩
  unfold zX6_isLaw_s1 at h
  refine lv_iload_n hx hb dX6_isLaw_0 rfl (lv_at hl 1 rfl) ?_
  refine lv_if_lt (tgt := 16) hx hb dX6_isLaw_1 (by decide) (fun c9 => ?_) (fun c9 => ?_)
  · rw [if_pos c9] at h
    exact WX6_isLaw_s1_16 C  _ _ _ _ h hP hD hS (lv_sub hl [] rfl)
  · rw [if_neg c9] at h
    refine lv_iload_n hx hb dX6_isLaw_4 rfl (lv_at hl 1 rfl) ?_
    refine lv_aload_n hx hb dX6_isLaw_5 rfl (lv_at hl 0 rfl) ?_
    refine va_get (D := D) (ci := 6) (v := .int (q.1 1 8)) (C := RX6) (T := TX6) (N := 10) hx hb hts u9_wsX6_isLaw_X6 hown hK hP 1 rfl rfl 8 (by decide) (hts (.fieldLink RX6 44 "TurnedFloors$State" "lawCount" "I") f9_wsX6_isLaw_369) (fun _ h9 => h9) rfl dX6_isLaw_6 ?_
    refine lv_icmp_ge (tgt := 16) hx hb dX6_isLaw_9 (by decide) (fun c9 => ?_) (fun c9 => ?_)
    · rw [if_pos c9] at h
      exact WX6_isLaw_s1_16 C  _ _ _ _ h hP hD hS (lv_sub hl [] rfl)
    · rw [if_neg c9] at h
      refine lv_iconst (v := 1) hx hb dX6_isLaw_12 (by decide) ?_
      refine lv_goto (tgt := 17) hx hb dX6_isLaw_13 (by decide) ?_
      exact WX6_isLaw_s1_17 C  _ _ _ _ _ h hP hD hS (lv_sub hl [] rfl)

set_option maxHeartbeats 4000000 in
set_option maxRecDepth 100000 in
theorem WX6_lawAt_s1_18 {p : Program} {l : Launch} {e : Env} {s : State} {m : MethodId} {args : Array Value} {below : List Frame} {meth : Method} {c : Code} {D : va_G} {ty : Nat → ClassId} {eo : Nat → Nat} {A : Nat → Prop} {ad : Nat → Nat} {o1 : Int32} {o2 : dK} (C : dc_C p s m args meth c cX6_lawAt (some (.object "TurnedFloors$Text")) 2 RX6 wsX6_lawAt D ty eo A)   (q : dK)  (H : Heap) (locs : List Loc) (ls : Array Slot) (h : zX6_lawAt_s1_18  q = some (o1, o2)) (hP : va_P D vwCl (wF ty ad q) H) (hD : va_D A (wF ty ad q)) (hS : va_S A s.heap H locs) (hl : lv_has ls 2 []) : W p l e ({ frames := 1, cells := 0, slots := 0, locals := 21 } : Room) s m args below meth c H locs 0 0 (MQ below (kz_Q (fun (r : Value) (u : va_W) => dLw ad o1 = r ∧ wF ty ad o2 = u) (kz_B D ty A) A) args s 0 0 A) (F0 m 18 ls [.null]) := by
  have C0 := C
  obtain ⟨hx, hb, hr, hts, hown, hlocks, hml, hK, hN, hE, hA⟩ := C
  unfold zX6_lawAt_s1_18 at h
  cases h
  exact kz_aret hx hb hr (Or.inl ⟨_, rfl⟩) (Or.inl rfl) hlocks hP hK hD hS dX6_lawAt_18 ⟨rfl, rfl⟩
set_option maxHeartbeats 4000000 in
set_option maxRecDepth 100000 in
theorem qX6_lawAt_s1 (l : Launch) (D : va_G) (ty : Nat → ClassId) (eo : Nat → Nat) (sz : Nat) (ad : Nat → Nat) (q : dK) (p1 : Int32) (o1 : Int32) (o2 : dK) (h : zX6_lawAt_s1 q p1 = some (o1, o2)) : Met l yX6_lawAt wsX6_lawAt ({ frames := 1, cells := 0, slots := 0, locals := 21 } : Room) (va_Pc [.ref (ad 1), .int p1] (kz_pre D ty eo (wF ty ad q) sz)) (kz_Q (fun (r : Value) (u : va_W) => dLw ad o1 = r ∧ wF ty ad o2 = u) (kz_B D ty (va_A (wF ty ad q) sz)) (va_A (wF ty ad q) sz)) 0 0 (va_A (wF ty ad q) sz) := by
  refine Met.ofW (cc := cX6_lawAt) (maxL := 2) (ret := (some (.object "TurnedFloors$Text"))) (by decide) rfl ?_
  intro p e s m args below meth c s₁ B hml hv
  obtain ⟨rfl, hsz, hP, hK, hD0, hN, hE⟩ := hv
  have hx := B.exec
  have hb := B.bytes
  have hr := B.returns
  have hts := atoms_spec (ws := wsX6_lawAt) B.pre
  have hown : s.vm.findClass RX6 = some m.cls := findClass_of_methodNamed B.named
  have hlocks := B.notSynchronized
  subst hsz
  have hD := hD0.self (sz := s.heap.size)
  generalize hAe : va_A (wF ty ad q) s.heap.size = A at hD hE ⊢
  have hA : ∀ q : Nat, s.heap.size ≤ q → A q := fun q h => by rw [← hAe]; exact Or.inr h
  clear hAe
  have hS : va_S A s.heap s.heap [] := va_S.rf
  have hl := lv_entry ([.ref (ad 1), .int p1]) (n := 2) (Nat.le_of_ble_eq_true rfl)
  rw [lg_entry_eq]
  generalize (lg_sl ([.ref (ad 1), .int p1]) ++ List.replicate (2 - (lg_sl ([.ref (ad 1), .int p1])).length) Slot.unset).toArray = ls at hl ⊢
  have hl : lv_has ls 2 [(0, .ref (ad 1)), (1, .int p1)] := hl
  have C : dc_C p s m _ meth c cX6_lawAt (some (.object "TurnedFloors$Text")) 2 RX6 wsX6_lawAt D ty eo A := ⟨hx, hb, hr, hts, hown, hlocks, hml, hK, hN, hE, hA⟩
  unfold zX6_lawAt_s1 at h
  refine lv_aload_n hx hb dX6_lawAt_0 rfl (lv_at hl 0 rfl) ?_
  refine lv_iload_n hx hb dX6_lawAt_1 rfl (lv_at hl 1 rfl) ?_
  obtain ⟨r1, q3, h2, h⟩ := dB_some h
  refine dw_ki (va_runV (As := [.int p1]) (rest := []) ⟨hx, hb, hml, hown, hts⟩ (qX6_isLaw_s1 l D ty eo _ ad q p1 r1 q3 h2) (cwV 1 hts gX6_lawAt_X6_isLaw rfl rfl rfl hd_X6_isLaw_v ⟨Nat.le_of_ble_eq_true rfl, Nat.le_of_ble_eq_true rfl⟩) (pvF_6_1 hK hN hE hP hD hS hA) rfl rfl hl.1 rfl (lv_room (Nat.le_of_ble_eq_true rfl)) dX6_lawAt_2 ⟨Nat.le_of_ble_eq_true rfl, Nat.le_of_ble_eq_true rfl⟩) hD hS hA (fun r9 u9 H locs hw hp hd hs => ?_)
  clear hP hD hS
  obtain ⟨rfl, rfl⟩ := hw
  have hP := hp; have hD := hd; have hS := hs; clear hp hd hs
  refine lv_if_eq (tgt := 17) hx hb dX6_lawAt_5 (by decide) (fun c9 => ?_) (fun c9 => ?_)
  · rw [if_pos c9] at h
    refine lv_null hx hb dX6_lawAt_17 ?_
    exact WX6_lawAt_s1_18 C  _ _ _ _ h hP hD hS (lv_sub hl [] rfl)
  · rw [if_neg c9] at h
    refine lv_aload_n hx hb dX6_lawAt_8 rfl (lv_at hl 0 rfl) ?_
    refine va_get (D := D) (ci := 6) (v := .ref (ad 7)) (C := RX6) (T := TX6) (N := 10) hx hb hts u9_wsX6_lawAt_X6 hown hK hP 1 rfl rfl 7 (by decide) (hts (.fieldLink RX6 40 "TurnedFloors$State" "laws" "[LTurnedFloors$Text;") f9_wsX6_lawAt_371) (fun _ h9 => h9) rfl dX6_lawAt_9 ?_
    refine lv_iload_n hx hb dX6_lawAt_12 rfl (lv_at hl 1 rfl) ?_
    obtain ⟨g4, h⟩ := dG_some h
    refine va_aldq hx hb hK hP 7 5 rfl rfl (dg_in g4) dX6_lawAt_13 ?_
    obtain ⟨v5, ev5, h⟩ := dL_some h
    refine kz_topv (y := dLw ad v5) (by rw [dLs_rf (dg_lt g4), ev5]) ?_
    refine lv_goto (tgt := 18) hx hb dX6_lawAt_14 (by decide) ?_
    cases h
    exact kz_aret hx hb hr (Or.inl ⟨_, rfl⟩) (dLw_or _ _) hlocks hP hK hD hS dX6_lawAt_18 ⟨rfl, rfl⟩

set_option maxHeartbeats 4000000 in
set_option maxRecDepth 100000 in
theorem qX1_seat_s20_n (l : Launch) (D : va_G) (ty : Nat → ClassId) (eo : Nat → Nat) (sz : Nat) (ad : Nat → Nat) (q : dK) (p2 : Int32) (o2 : dK) (h : zX1_seat_s20_n q p2 = some o2) : Met l yX1_seat wsX1_seat ({ frames := 0, cells := 0, slots := 0, locals := 0 } : Room) (va_Pc [.ref (ad 20), .null, .int p2] (kz_pre D ty eo (wF ty ad q) sz)) (va_Qv (fun (u : va_W) => wF ty ad o2 = u) (kz_B D ty (va_A (wF ty ad q) sz)) (va_A (wF ty ad q) sz)) 0 0 (va_A (wF ty ad q) sz) := by
  refine Met.ofW (cc := cX1_seat) (maxL := 3) (ret := none) (by decide) rfl ?_
  intro p e s m args below meth c s₁ B hml hv
  obtain ⟨rfl, hsz, hP, hK, hD0, hN, hE⟩ := hv
  have hx := B.exec
  have hb := B.bytes
  have hr := B.returns
  have hts := atoms_spec (ws := wsX1_seat) B.pre
  have hown : s.vm.findClass RX1 = some m.cls := findClass_of_methodNamed B.named
  have hlocks := B.notSynchronized
  subst hsz
  have hD := hD0.self (sz := s.heap.size)
  generalize hAe : va_A (wF ty ad q) s.heap.size = A at hD hE ⊢
  have hA : ∀ q : Nat, s.heap.size ≤ q → A q := fun q h => by rw [← hAe]; exact Or.inr h
  clear hAe
  have hS : va_S A s.heap s.heap [] := va_S.rf
  have hl := lv_entry ([.ref (ad 20), .null, .int p2]) (n := 3) (Nat.le_of_ble_eq_true rfl)
  rw [lg_entry_eq]
  generalize (lg_sl ([.ref (ad 20), .null, .int p2]) ++ List.replicate (3 - (lg_sl ([.ref (ad 20), .null, .int p2])).length) Slot.unset).toArray = ls at hl ⊢
  have hl : lv_has ls 3 [(0, .ref (ad 20)), (1, .null), (2, .int p2)] := hl
  have C : dc_C p s m _ meth c cX1_seat none 3 RX1 wsX1_seat D ty eo A := ⟨hx, hb, hr, hts, hown, hlocks, hml, hK, hN, hE, hA⟩
  unfold zX1_seat_s20_n at h
  refine lv_aload_n hx hb dX1_seat_0 rfl (lv_at hl 0 rfl) ?_
  refine lv_aload_nN hx hb dX1_seat_1 rfl (lv_at hl 1 rfl) ?_
  refine va_put (D := D) (ci := 1) (v := .null) (ty := .object "TurnedFloors$Text") (C := RX1) (T := TX1) (N := 3) hx hb hts u9_wsX1_seat_X1 tyX1 tyX1_ok nmX1 hown hK hP hD hS 20 rfl rfl 2 (by decide) (hts (.fieldLink RX1 15 "TurnedFloors$Judge" "law" "LTurnedFloors$Text;") f9_wsX1_seat_373) (fun _ h9 => h9) rfl (by decide +kernel) rfl rfl (Nat.le_of_ble_eq_true rfl) dX1_seat_2 (fun H locs hp hd hs => ?_)
  obtain ⟨q1, eq1, h⟩ := dL_some h
  refine kz_re (w2 := wF ty ad q1) hp hd hs (by rw [← eq1]; exact wF_f20_2 ty ad q 0) ?_
  clear hp hd hs hP hD hS
  intro hP hD hS
  refine lv_aload_n hx hb dX1_seat_5 rfl (lv_at hl 0 rfl) ?_
  refine va_get (D := D) (ci := 1) (v := .ref (ad 21)) (C := RX1) (T := TX1) (N := 3) hx hb hts u9_wsX1_seat_X1 hown hK hP 20 rfl rfl 1 (by decide) (hts (.fieldLink RX1 11 "TurnedFloors$Judge" "words" "[I") f9_wsX1_seat_374) (fun _ h9 => h9) rfl dX1_seat_6 ?_
  refine lv_bipush (v := 8) hx hb dX1_seat_9 (by decide) ?_
  refine lv_iload_n hx hb dX1_seat_11 rfl (lv_at hl 2 rfl) ?_
  refine va_iast hx hb hK hP hD hS 21 0 rfl rfl (by simp only [vp_in]; decide) dX1_seat_12 (fun H locs hp hd hs => ?_)
  obtain ⟨q2, eq2, h⟩ := dL_some h
  refine kz_re (w2 := wF ty ad q2) hp hd hs (by rw [(by decide +kernel : Int32.toNatClampNeg 8 = 8), ← eq2]; exact wF_a21 ty ad q1 8 p2) ?_
  clear hp hd hs hP hD hS
  intro hP hD hS
  cases h
  exact kz_vret hx hb hr hlocks hP hK hD hS dX1_seat_13 rfl

set_option maxHeartbeats 4000000 in
set_option maxRecDepth 100000 in
theorem qX1_seat_s20_l (l : Launch) (D : va_G) (ty : Nat → ClassId) (eo : Nat → Nat) (sz : Nat) (ad : Nat → Nat) (q : dK) (p1 : Int32) (p2 : Int32) (o2 : dK) (h : zX1_seat_s20_l q p1 p2 = some o2) : Met l yX1_seat wsX1_seat ({ frames := 0, cells := 0, slots := 0, locals := 0 } : Room) (va_Pc [.ref (ad 20), .ref (ad (63 + 7 * dLi p1)), .int p2] (kz_pre D ty eo (wF ty ad q) sz)) (va_Qv (fun (u : va_W) => wF ty ad o2 = u) (kz_B D ty (va_A (wF ty ad q) sz)) (va_A (wF ty ad q) sz)) 0 0 (va_A (wF ty ad q) sz) := by
  refine Met.ofW (cc := cX1_seat) (maxL := 3) (ret := none) (by decide) rfl ?_
  intro p e s m args below meth c s₁ B hml hv
  obtain ⟨rfl, hsz, hP, hK, hD0, hN, hE⟩ := hv
  have hx := B.exec
  have hb := B.bytes
  have hr := B.returns
  have hts := atoms_spec (ws := wsX1_seat) B.pre
  have hown : s.vm.findClass RX1 = some m.cls := findClass_of_methodNamed B.named
  have hlocks := B.notSynchronized
  subst hsz
  have hD := hD0.self (sz := s.heap.size)
  generalize hAe : va_A (wF ty ad q) s.heap.size = A at hD hE ⊢
  have hA : ∀ q : Nat, s.heap.size ≤ q → A q := fun q h => by rw [← hAe]; exact Or.inr h
  clear hAe
  have hS : va_S A s.heap s.heap [] := va_S.rf
  have hl := lv_entry ([.ref (ad 20), .ref (ad (63 + 7 * dLi p1)), .int p2]) (n := 3) (Nat.le_of_ble_eq_true rfl)
  rw [lg_entry_eq]
  generalize (lg_sl ([.ref (ad 20), .ref (ad (63 + 7 * dLi p1)), .int p2]) ++ List.replicate (3 - (lg_sl ([.ref (ad 20), .ref (ad (63 + 7 * dLi p1)), .int p2])).length) Slot.unset).toArray = ls at hl ⊢
  have hl : lv_has ls 3 [(0, .ref (ad 20)), (1, .ref (ad (63 + 7 * dLi p1))), (2, .int p2)] := hl
  have C : dc_C p s m _ meth c cX1_seat none 3 RX1 wsX1_seat D ty eo A := ⟨hx, hb, hr, hts, hown, hlocks, hml, hK, hN, hE, hA⟩
  unfold zX1_seat_s20_l at h
  refine lv_aload_n hx hb dX1_seat_0 rfl (lv_at hl 0 rfl) ?_
  refine lv_aload_n hx hb dX1_seat_1 rfl (lv_at hl 1 rfl) ?_
  obtain ⟨g1, h⟩ := dG_some h
  refine va_put (D := D) (ci := 1) (v := .ref (ad (63 + 7 * dLi p1))) (ty := .object "TurnedFloors$Text") (C := RX1) (T := TX1) (N := 3) hx hb hts u9_wsX1_seat_X1 tyX1 tyX1_ok nmX1 hown hK hP hD hS 20 rfl rfl 2 (by decide) (hts (.fieldLink RX1 15 "TurnedFloors$Judge" "law" "LTurnedFloors$Text;") f9_wsX1_seat_373) (fun _ h9 => h9) rfl (by decide +kernel) rfl rfl (Nat.le_of_ble_eq_true rfl) dX1_seat_2 (fun H locs hp hd hs => ?_)
  replace hp : va_P D vwCl ((wF ty ad q).set 20 (ad 20, .inr (1, [.ref (ad 18), .ref (ad 21), .ref (ad (63 + 7 * dLi p1))]))) H := hp
  replace hd : va_D A ((wF ty ad q).set 20 (ad 20, .inr (1, [.ref (ad 18), .ref (ad 21), .ref (ad (63 + 7 * dLi p1))]))) := hd
  rw [show Value.ref (ad (63 + 7 * dLi p1)) = dLw ad p1 from (if_neg (dlg_ne g1)).symm] at hp hd
  obtain ⟨q2, eq2, h⟩ := dL_some h
  refine kz_re (w2 := wF ty ad q2) hp hd hs (by rw [← eq2]; exact wF_f20_2 ty ad q p1) ?_
  clear hp hd hs hP hD hS
  intro hP hD hS
  refine lv_aload_n hx hb dX1_seat_5 rfl (lv_at hl 0 rfl) ?_
  refine va_get (D := D) (ci := 1) (v := .ref (ad 21)) (C := RX1) (T := TX1) (N := 3) hx hb hts u9_wsX1_seat_X1 hown hK hP 20 rfl rfl 1 (by decide) (hts (.fieldLink RX1 11 "TurnedFloors$Judge" "words" "[I") f9_wsX1_seat_374) (fun _ h9 => h9) rfl dX1_seat_6 ?_
  refine lv_bipush (v := 8) hx hb dX1_seat_9 (by decide) ?_
  refine lv_iload_n hx hb dX1_seat_11 rfl (lv_at hl 2 rfl) ?_
  refine va_iast hx hb hK hP hD hS 21 0 rfl rfl (by simp only [vp_in]; decide) dX1_seat_12 (fun H locs hp hd hs => ?_)
  obtain ⟨q3, eq3, h⟩ := dL_some h
  refine kz_re (w2 := wF ty ad q3) hp hd hs (by rw [(by decide +kernel : Int32.toNatClampNeg 8 = 8), ← eq3]; exact wF_a21 ty ad q2 8 p2) ?_
  clear hp hd hs hP hD hS
  intro hP hD hS
  cases h
  exact kz_vret hx hb hr hlocks hP hK hD hS dX1_seat_13 rfl

set_option maxHeartbeats 4000000 in
set_option maxRecDepth 100000 in
theorem qX9_seated_s0 (l : Launch) (D : va_G) (ty : Nat → ClassId) (eo : Nat → Nat) (sz : Nat) (ad : Nat → Nat) (q : dK)  (o2 : dK) (h : zX9_seated_s0 q = some o2) : Met l yX9_seated wsX9_seated ({ frames := 2, cells := 0, slots := 0, locals := 42 } : Room) (va_Pc [.ref (ad 0)] (kz_pre D ty eo (wF ty ad q) sz)) (kz_Q (fun (r : Value) (u : va_W) => Value.ref (ad 20) = r ∧ wF ty ad o2 = u) (kz_B D ty (va_A (wF ty ad q) sz)) (va_A (wF ty ad q) sz)) 0 0 (va_A (wF ty ad q) sz) := by
  refine Met.ofW (cc := cX9_seated) (maxL := 1) (ret := (some (.object "TurnedFloors$Judge"))) (by decide) rfl ?_
  intro p e s m args below meth c s₁ B hml hv
  obtain ⟨rfl, hsz, hP, hK, hD0, hN, hE⟩ := hv
  have hx := B.exec
  have hb := B.bytes
  have hr := B.returns
  have hts := atoms_spec (ws := wsX9_seated) B.pre
  have hown : s.vm.findClass RX9 = some m.cls := findClass_of_methodNamed B.named
  have hlocks := B.notSynchronized
  subst hsz
  have hD := hD0.self (sz := s.heap.size)
  generalize hAe : va_A (wF ty ad q) s.heap.size = A at hD hE ⊢
  have hA : ∀ q : Nat, s.heap.size ≤ q → A q := fun q h => by rw [← hAe]; exact Or.inr h
  clear hAe
  have hS : va_S A s.heap s.heap [] := va_S.rf
  have hl := lv_entry ([.ref (ad 0)]) (n := 1) (Nat.le_of_ble_eq_true rfl)
  rw [lg_entry_eq]
  generalize (lg_sl ([.ref (ad 0)]) ++ List.replicate (1 - (lg_sl ([.ref (ad 0)])).length) Slot.unset).toArray = ls at hl ⊢
  have hl : lv_has ls 1 [(0, .ref (ad 0))] := hl
  have C : dc_C p s m _ meth c cX9_seated (some (.object "TurnedFloors$Judge")) 1 RX9 wsX9_seated D ty eo A := ⟨hx, hb, hr, hts, hown, hlocks, hml, hK, hN, hE, hA⟩
  unfold zX9_seated_s0 at h
  refine lv_aload_n hx hb dX9_seated_0 rfl (lv_at hl 0 rfl) ?_
  refine va_get (D := D) (ci := 9) (v := .ref (ad 20)) (C := RX9) (T := TX9) (N := 19) hx hb hts u9_wsX9_seated_X9 hown hK hP 0 rfl rfl 6 (by decide) (hts (.fieldLink RX9 50 "TurnedFloors" "judge" "LTurnedFloors$Judge;") f9_wsX9_seated_377) (fun _ h9 => h9) rfl dX9_seated_1 ?_
  refine lv_aload_n hx hb dX9_seated_4 rfl (lv_at hl 0 rfl) ?_
  refine va_get (D := D) (ci := 9) (v := .ref (ad 1)) (C := RX9) (T := TX9) (N := 19) hx hb hts u9_wsX9_seated_X9 hown hK hP 0 rfl rfl 0 (by decide) (hts (.fieldLink RX9 10 "TurnedFloors" "state" "LTurnedFloors$State;") f9_wsX9_seated_378) (fun _ h9 => h9) rfl dX9_seated_5 ?_
  refine lv_aload_n hx hb dX9_seated_8 rfl (lv_at hl 0 rfl) ?_
  refine va_get (D := D) (ci := 9) (v := .ref (ad 1)) (C := RX9) (T := TX9) (N := 19) hx hb hts u9_wsX9_seated_X9 hown hK hP 0 rfl rfl 0 (by decide) (hts (.fieldLink RX9 10 "TurnedFloors" "state" "LTurnedFloors$State;") f9_wsX9_seated_378) (fun _ h9 => h9) rfl dX9_seated_9 ?_
  refine va_getN (D := D) (ci := 6) (v := .int (q.1 1 9)) (C := RX6) (T := TX6) (N := 10) hx hb hts u9_wsX9_seated_X6 hown hK hP 1 rfl rfl 9 (by decide) (hN.use (.fieldLinkNest "TurnedFloors" 208 "TurnedFloors$State" "inForce" "I" "TurnedFloors") nn9_2) (fun _ h9 => h9) rfl dX9_seated_12 ?_
  obtain ⟨r1, q3, h2, h⟩ := dB_some h
  refine dw_kq (va_runV (As := [.int (q.1 1 9)]) (rest := [.ref (ad 20)]) ⟨hx, hb, hml, hown, hts⟩ (qX6_lawAt_s1 l D ty eo _ ad q (q.1 1 9) r1 q3 h2) (cwV 1 hts gX9_seated_X6_lawAt rfl rfl rfl hd_X6_lawAt_v ⟨Nat.le_of_ble_eq_true rfl, Nat.le_of_ble_eq_true rfl⟩) (pvF_6_1 hK hN hE hP hD hS hA) rfl rfl hl.1 rfl (lv_room (Nat.le_of_ble_eq_true rfl)) dX9_seated_15 ⟨Nat.le_of_ble_eq_true rfl, Nat.le_of_ble_eq_true rfl⟩) hP hD hS hA (fun r9 u9 H locs hw hp hd hs => ?_)
  clear hP hD hS
  obtain ⟨rfl, rfl⟩ := hw
  have hP := hp; have hD := hd; have hS := hs; clear hp hd hs
  by_cases c4 : r1 = 0
  · rw [if_pos c4] at h
    refine kz_topv (if_pos c4) ?_
    refine lv_aload_n hx hb dX9_seated_18 rfl (lv_at hl 0 rfl) ?_
    refine va_get (D := D) (ci := 9) (v := .ref (ad 1)) (C := RX9) (T := TX9) (N := 19) hx hb hts u9_wsX9_seated_X9 hown hK hP 0 rfl rfl 0 (by decide) (hts (.fieldLink RX9 10 "TurnedFloors" "state" "LTurnedFloors$State;") f9_wsX9_seated_378) (fun _ h9 => h9) rfl dX9_seated_19 ?_
    refine va_getN (D := D) (ci := 6) (v := .int (q3.1 1 2)) (C := RX6) (T := TX6) (N := 10) hx hb hts u9_wsX9_seated_X6 hown hK hP 1 rfl rfl 2 (by decide) (hN.use (.fieldLinkNest "TurnedFloors" 310 "TurnedFloors$State" "mood" "I" "TurnedFloors") nn9_3) (fun _ h9 => h9) rfl dX9_seated_22 ?_
    obtain ⟨q7, h6, h⟩ := dV_some h
    refine dw_kv (va_runV (As := [.null, .int (q3.1 1 2)]) (rest := []) ⟨hx, hb, hml, hown, hts⟩ (qX1_seat_s20_n l D ty eo _ ad q3 (q3.1 1 2) q7 h6) (cwV 2 hts gX9_seated_X1_seat rfl rfl rfl hd_X1_seat_v ⟨Nat.le_of_ble_eq_true rfl, Nat.le_of_ble_eq_true rfl⟩) (pvF_1_20 hK hN hE hP hD hS hA) rfl rfl hl.1 rfl (lv_room (Nat.le_of_ble_eq_true rfl)) dX9_seated_25 ⟨Nat.le_of_ble_eq_true rfl, Nat.le_of_ble_eq_true rfl⟩) hD hS hA (fun u9 H locs hw hp hd hs => ?_)
    clear hP hD hS
    obtain rfl := hw
    have hP := hp; have hD := hd; have hS := hs; clear hp hd hs
    refine lv_aload_n hx hb dX9_seated_28 rfl (lv_at hl 0 rfl) ?_
    refine va_get (D := D) (ci := 9) (v := .ref (ad 20)) (C := RX9) (T := TX9) (N := 19) hx hb hts u9_wsX9_seated_X9 hown hK hP 0 rfl rfl 6 (by decide) (hts (.fieldLink RX9 50 "TurnedFloors" "judge" "LTurnedFloors$Judge;") f9_wsX9_seated_377) (fun _ h9 => h9) rfl dX9_seated_29 ?_
    cases h
    exact kz_aret hx hb hr (Or.inl ⟨_, rfl⟩) (Or.inr ⟨_, rfl⟩) hlocks hP hK hD hS dX9_seated_32 ⟨rfl, rfl⟩
  · rw [if_neg c4] at h
    refine kz_topv (if_neg c4) ?_
    refine lv_aload_n hx hb dX9_seated_18 rfl (lv_at hl 0 rfl) ?_
    refine va_get (D := D) (ci := 9) (v := .ref (ad 1)) (C := RX9) (T := TX9) (N := 19) hx hb hts u9_wsX9_seated_X9 hown hK hP 0 rfl rfl 0 (by decide) (hts (.fieldLink RX9 10 "TurnedFloors" "state" "LTurnedFloors$State;") f9_wsX9_seated_378) (fun _ h9 => h9) rfl dX9_seated_19 ?_
    refine va_getN (D := D) (ci := 6) (v := .int (q3.1 1 2)) (C := RX6) (T := TX6) (N := 10) hx hb hts u9_wsX9_seated_X6 hown hK hP 1 rfl rfl 2 (by decide) (hN.use (.fieldLinkNest "TurnedFloors" 310 "TurnedFloors$State" "mood" "I" "TurnedFloors") nn9_3) (fun _ h9 => h9) rfl dX9_seated_22 ?_
    obtain ⟨q10, h9, h⟩ := dV_some h
    refine dw_kv (va_runV (As := [.ref (ad (63 + 7 * dLi r1)), .int (q3.1 1 2)]) (rest := []) ⟨hx, hb, hml, hown, hts⟩ (qX1_seat_s20_l l D ty eo _ ad q3 r1 (q3.1 1 2) q10 h9) (cwV 2 hts gX9_seated_X1_seat rfl rfl rfl hd_X1_seat_v ⟨Nat.le_of_ble_eq_true rfl, Nat.le_of_ble_eq_true rfl⟩) (pvF_1_20 hK hN hE hP hD hS hA) rfl rfl hl.1 rfl (lv_room (Nat.le_of_ble_eq_true rfl)) dX9_seated_25 ⟨Nat.le_of_ble_eq_true rfl, Nat.le_of_ble_eq_true rfl⟩) hD hS hA (fun u9 H locs hw hp hd hs => ?_)
    clear hP hD hS
    obtain rfl := hw
    have hP := hp; have hD := hd; have hS := hs; clear hp hd hs
    refine lv_aload_n hx hb dX9_seated_28 rfl (lv_at hl 0 rfl) ?_
    refine va_get (D := D) (ci := 9) (v := .ref (ad 20)) (C := RX9) (T := TX9) (N := 19) hx hb hts u9_wsX9_seated_X9 hown hK hP 0 rfl rfl 6 (by decide) (hts (.fieldLink RX9 50 "TurnedFloors" "judge" "LTurnedFloors$Judge;") f9_wsX9_seated_377) (fun _ h9 => h9) rfl dX9_seated_29 ?_
    cases h
    exact kz_aret hx hb hr (Or.inl ⟨_, rfl⟩) (Or.inr ⟨_, rfl⟩) hlocks hP hK hD hS dX9_seated_32 ⟨rfl, rfl⟩

set_option maxHeartbeats 4000000 in
set_option maxRecDepth 100000 in
theorem qX1_setCommon_s20 (l : Launch) (D : va_G) (ty : Nat → ClassId) (eo : Nat → Nat) (sz : Nat) (ad : Nat → Nat) (q : dK) (p1 : Int32) (p2 : Int32) (o2 : dK) (h : zX1_setCommon_s20 q p1 p2 = some o2) : Met l yX1_setCommon wsX1_setCommon ({ frames := 0, cells := 0, slots := 0, locals := 0 } : Room) (va_Pc [.ref (ad 20), .int p1, .int p2] (kz_pre D ty eo (wF ty ad q) sz)) (va_Qv (fun (u : va_W) => wF ty ad o2 = u) (kz_B D ty (va_A (wF ty ad q) sz)) (va_A (wF ty ad q) sz)) 0 0 (va_A (wF ty ad q) sz) := by
  refine Met.ofW (cc := cX1_setCommon) (maxL := 3) (ret := none) (by decide) rfl ?_
  intro p e s m args below meth c s₁ B hml hv
  obtain ⟨rfl, hsz, hP, hK, hD0, hN, hE⟩ := hv
  have hx := B.exec
  have hb := B.bytes
  have hr := B.returns
  have hts := atoms_spec (ws := wsX1_setCommon) B.pre
  have hown : s.vm.findClass RX1 = some m.cls := findClass_of_methodNamed B.named
  have hlocks := B.notSynchronized
  subst hsz
  have hD := hD0.self (sz := s.heap.size)
  generalize hAe : va_A (wF ty ad q) s.heap.size = A at hD hE ⊢
  have hA : ∀ q : Nat, s.heap.size ≤ q → A q := fun q h => by rw [← hAe]; exact Or.inr h
  clear hAe
  have hS : va_S A s.heap s.heap [] := va_S.rf
  have hl := lv_entry ([.ref (ad 20), .int p1, .int p2]) (n := 3) (Nat.le_of_ble_eq_true rfl)
  rw [lg_entry_eq]
  generalize (lg_sl ([.ref (ad 20), .int p1, .int p2]) ++ List.replicate (3 - (lg_sl ([.ref (ad 20), .int p1, .int p2])).length) Slot.unset).toArray = ls at hl ⊢
  have hl : lv_has ls 3 [(0, .ref (ad 20)), (1, .int p1), (2, .int p2)] := hl
  have C : dc_C p s m _ meth c cX1_setCommon none 3 RX1 wsX1_setCommon D ty eo A := ⟨hx, hb, hr, hts, hown, hlocks, hml, hK, hN, hE, hA⟩
  unfold zX1_setCommon_s20 at h
  refine lv_aload_n hx hb dX1_setCommon_0 rfl (lv_at hl 0 rfl) ?_
  refine va_get (D := D) (ci := 1) (v := .ref (ad 21)) (C := RX1) (T := TX1) (N := 3) hx hb hts u9_wsX1_setCommon_X1 hown hK hP 20 rfl rfl 1 (by decide) (hts (.fieldLink RX1 11 "TurnedFloors$Judge" "words" "[I") f9_wsX1_setCommon_380) (fun _ h9 => h9) rfl dX1_setCommon_1 ?_
  refine lv_iconst (v := 4) hx hb dX1_setCommon_4 (by decide) ?_
  refine lv_iload_n hx hb dX1_setCommon_5 rfl (lv_at hl 1 rfl) ?_
  refine va_iast hx hb hK hP hD hS 21 0 rfl rfl (by simp only [vp_in]; decide) dX1_setCommon_6 (fun H locs hp hd hs => ?_)
  obtain ⟨q1, eq1, h⟩ := dL_some h
  refine kz_re (w2 := wF ty ad q1) hp hd hs (by rw [(by decide +kernel : Int32.toNatClampNeg 4 = 4), ← eq1]; exact wF_a21 ty ad q 4 p1) ?_
  clear hp hd hs hP hD hS
  intro hP hD hS
  refine lv_aload_n hx hb dX1_setCommon_7 rfl (lv_at hl 0 rfl) ?_
  refine va_get (D := D) (ci := 1) (v := .ref (ad 21)) (C := RX1) (T := TX1) (N := 3) hx hb hts u9_wsX1_setCommon_X1 hown hK hP 20 rfl rfl 1 (by decide) (hts (.fieldLink RX1 11 "TurnedFloors$Judge" "words" "[I") f9_wsX1_setCommon_380) (fun _ h9 => h9) rfl dX1_setCommon_8 ?_
  refine lv_bipush (v := 7) hx hb dX1_setCommon_11 (by decide) ?_
  refine lv_iload_n hx hb dX1_setCommon_13 rfl (lv_at hl 2 rfl) ?_
  refine va_iast hx hb hK hP hD hS 21 0 rfl rfl (by simp only [vp_in]; decide) dX1_setCommon_14 (fun H locs hp hd hs => ?_)
  obtain ⟨q2, eq2, h⟩ := dL_some h
  refine kz_re (w2 := wF ty ad q2) hp hd hs (by rw [(by decide +kernel : Int32.toNatClampNeg 7 = 7), ← eq2]; exact wF_a21 ty ad q1 7 p2) ?_
  clear hp hd hs hP hD hS
  intro hP hD hS
  cases h
  exact kz_vret hx hb hr hlocks hP hK hD hS dX1_setCommon_15 rfl
end
