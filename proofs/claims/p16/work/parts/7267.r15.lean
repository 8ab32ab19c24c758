/-! orders read on both sides: the same fault -/
theorem lj_orders {q o : dK} {q2 o2 : dS} {r r2 : Int32} (hT : TC q) (hT2 : TS q2) (ht : ltY q q2) (e : zX9_orders_s0 q = some (r, o)) (e2 : zX10_orders q2 = some (r2, o2)) : Int32.toInt (o.1 0 13) = Int32.toInt (o2.1 0 14) := by
  have d1 : Int32.toInt 1 = 1 := by decide
  obtain ⟨L, hL4, hc, hm, hB⟩ := ht
  have y := dA_of (ok_orders q2 hT2) (r2, o2) e2
  obtain ⟨-, -, -, -, r3', q3, er, e14⟩ := y
  replace er : zX10_readsAs (dui q2 0 46 (-1)) 1 = some (r3', q3) := er
  replace e14 : o2.1 0 14 = q3.1 0 14 := e14
  have hx : dAll (zX9_orders_s0 q) (fun x => ∃ (r5 : Int32) (q5 : dK), zX4_read_s24_s46_s25 (cui (cui q 0 12 0) 0 15 (-1)) (q.1 0 12) 1 = some (r5, q5) ∧ x.2.1 0 13 = r5) := by
    unfold zX9_orders_s0
    refine dA_L (fun q1 e1 => dA_L (fun q2' e2' => ?_))
    have hT1 : TC q1 := by rw [e1]; exact st_0_12 hT (by decide) (by decide)
    have hT2' : TC q2' := by rw [e2']; exact sa_0_15 hT1
    refine dA_B (R := fun w => zX4_read_s24_s46_s25 q2' (q.1 0 12) 1 = some w ∧ TC w.2) (fun w hw => ⟨hw, (dA_of (ok_X4_read_s24_s46_s25 q2' (q.1 0 12) 1 hT2' (by omega) (Or.inr d1)) w hw).1⟩) (fun r5 q5 z => ?_)
    obtain ⟨z1, z2⟩ := z
    replace z2 : TC q5 := z2
    rw [e2', e1] at z1
    refine dA_L (fun q6 e6 => ?_)
    have hT6 : TC q6 := by rw [e6]; exact sa_0_13 z2
    have b13 : q6.1 0 13 = r5 := by rw [e6, cui_e]
    refine dA_if (fun _ => ?_) (fun _ => ?_)
    · refine dA_V (dA_of (ok_X9_seated_s0 q6 hT6)) (fun q9 h9 => ?_)
      obtain ⟨h9, k9⟩ := h9
      replace k9 : cFr [21] [(20, 2)] q6 q9 := k9
      refine dA_B (dA_of (ok_X5_run_s22_s25_s2_s20_s10 q9 h9)) (fun r10 q12 h12 => ?_)
      obtain ⟨h12, k12⟩ := h12
      replace h12 : TC q12 := h12
      replace k12 : cFr [3, 4, 12, 14, 19, 21, 23] [(2, 2), (2, 3), (2, 4), (10, 2), (10, 5), (18, 1), (22, 2), (22, 3)] q9 q12 := k12
      refine dA_L (fun q13 e13 => ?_)
      have hT13 : TC q13 := by rw [e13]; exact sa_0_15 h12
      have c13 : q13.1 0 13 = r5 := by rw [e13, cui_n (by decide), k12.1 0 13 (by decide) (by decide), k9.1 0 13 (by decide) (by decide)]; exact b13
      refine dA_if (fun _ => ?_) (fun _ => ?_)
      · refine dA_B (dA_of (ok_X9_accept_s0 q13 (q13.1 22 2) hT13)) (fun r17 q19 h => ?_)
        obtain ⟨-, k, -⟩ := h
        replace k : cFr [] [(0, 18)] q13 q19 := k
        unfold zX9_orders_s0_109
        refine dA_some ⟨r5, q5, z1, ?_⟩
        show q19.1 0 13 = r5
        rw [k.1 0 13 (by decide) (by decide)]; exact c13
      · refine dA_B (dA_of (ok_X9_refuse_s0 q13 (-3) hT13)) (fun r14 q16 h => ?_)
        obtain ⟨-, k, -⟩ := h
        replace k : cFr [48] [(0, 18)] q13 q16 := k
        unfold zX9_orders_s0_109
        refine dA_some ⟨r5, q5, z1, ?_⟩
        show q16.1 0 13 = r5
        rw [k.1 0 13 (by decide) (by decide)]; exact c13
    · refine dA_B (dA_of (ok_X9_refuse_s0 q6 (-6) hT6)) (fun r20 q22 h => dA_some ⟨r5, q5, z1, ?_⟩)
      obtain ⟨-, k, -⟩ := h
      replace k : cFr [48] [(0, 18)] q6 q22 := k
      show q22.1 0 13 = r5
      rw [k.1 0 13 (by decide) (by decide)]; exact b13
  obtain ⟨r5, q5, x1, x2⟩ := hx (r, o) e
  replace x2 : o.1 0 13 = r5 := x2
  have hT3 : TS (dui q2 0 46 (-1)) := ts_f hT2 (ti_rg _).1 (ti_rg _).2
  have hr := r_read (B := fun i => Int32.toInt (q.1 46 i)) (cui (cui q 0 12 0) 0 15 (-1)) (dui q2 0 46 (-1)) hT3 (q.1 0 12) 1 L hL4 hc (Or.inr rfl) (fun i => by rw [cui_o (by decide), cui_o (by decide)]) (by rw [dui_n (by decide)]; exact hm) (fun i hi => by rw [dui_o (by decide)]; exact hB i hi) (r5, q5) (r3', q3) x1 er
  have h1 : Int32.toInt r5 = Int32.toInt (q3.1 0 14) := hr.1
  rw [x2, e14]; exact h1
