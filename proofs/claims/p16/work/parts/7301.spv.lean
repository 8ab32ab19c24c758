section
theorem spv_9 {s : State} {H : Heap} {D : va_G} {ty : Nat → ClassId} {eo : Nat → Nat} {A : Nat → Prop} {As : List Value} {locs : List Loc} {ad : Nat → Nat} {q : dK} {wr : va_W} (hK : va_K D vwCl (kzT ty) s) (hN : kz_N s) (hE : kz_E eo A s s.heap) (hP : va_P D vwCl (wF ty ad q ++ wr) H) (hD : va_D A (wF ty ad q ++ wr)) (hS : va_S A s.heap H locs) (hA : ∀ q, s.heap.size ≤ q → A q) : PreV s H RX9 (ad 0) (va_Pc (.ref (ad 0) :: As) (kz_pre D ty eo (wF ty ad q) H.size)) As := sp_pv (ci := 9) hK hN hE hP hD hS hA rfl rfl
theorem spv_10 {s : State} {H : Heap} {D : va_G} {ty : Nat → ClassId} {eo : Nat → Nat} {A : Nat → Prop} {As : List Value} {locs : List Loc} {ad : Nat → Nat} {q : dS} {wr : va_W} (hK : va_K D vwCl (kzT ty) s) (hN : kz_N s) (hE : kz_E eo A s s.heap) (hP : va_P D vwCl (w10 ty ad q ++ wr) H) (hD : va_D A (w10 ty ad q ++ wr)) (hS : va_S A s.heap H locs) (hA : ∀ q, s.heap.size ≤ q → A q) : PreV s H RX10 (ad 0) (va_Pc (.ref (ad 0) :: As) (kz_pre D ty eo (w10 ty ad q) H.size)) As := sp_pv (ci := 10) hK hN hE hP hD hS hA rfl rfl
end
section
theorem rgf_floor {q o : dK} {q2 o2 : dS} {r : Int32} {r2 : Int32} (hT : TC q) (hT2 : TS q2) (R : RG q q2) (a1 a2 : Int32) (e : zX9_floor_s0 q a1 a2 = some (r, o)) (e2 : zX10_floor q2 a1 a2 = some (r2, o2)) : r = r2 ∧ RG o o2 := by
  have w := sf_floor hT R.1 a1 a2 (r, o) (r2, o2) e e2
  have w1 : r = r2 := w.1
  have w2 : RFw o o2 := w.2
  exact ⟨w1, R.mk w2 (fun N Q hm => dx_floor q2 a1 a2 hm (r2, o2) e2) (d34 (show dFr [1, 2] [0, 32] q2 o2 from (dA_of (ok_floor q2 a1 a2 hT2) (r2, o2) e2).2.1) (by decide))⟩

theorem rgf_at {q o : dK} {q2 o2 : dS} {r : Int32} {r2 : Int32} (hT : TC q) (hT2 : TS q2) (R : RG q q2) (a1 a2 : Int32) (e : zX9_at_s0 q a1 a2 = some (r, o)) (e2 : zX10_at q2 a1 a2 = some (r2, o2)) : RG o o2 := R.fr (FRc.of (show cFr [19, 21] [(18, 1), (20, 2)] q o from (dA_of (ok_X9_at_s0 q a1 a2 hT) (r, o) e).2) (lo_zX9_at_s0 _ _ q a1 a2 ⟨rfl, rfl⟩ (r, o) e) (by decide)) (FRm.of (show dFr [12] [22, 23, 24, 25] q2 o2 from (dA_of (ok_at q2 a1 a2 hT2) (r2, o2) e2).2) (by decide))

theorem rgf_asks {q o : dK} {q2 o2 : dS} {r : Int32} {r2 : Int32} (hT : TC q) (hT2 : TS q2) (R : RG q q2) (a1 a2 : Int32) (e : zX9_asks_s0 q a1 a2 = some (r, o)) (e2 : zX10_asks q2 a1 a2 = some (r2, o2)) : RG o o2 := R.fr (FRc.of (show cFr [19, 21] [(18, 1), (20, 2)] q o from (dA_of (ok_X9_asks_s0 q a1 a2 hT) (r, o) e).2) (lo_zX9_asks_s0 _ _ q a1 a2 ⟨rfl, rfl⟩ (r, o) e) (by decide)) (FRm.of (show dFr [12] [22, 23, 24, 25] q2 o2 from (dA_of (ok_asks q2 a1 a2 hT2) (r2, o2) e2).2) (by decide))

theorem rgf_terms {q o : dK} {q2 o2 : dS} {r : Int32} {r2 : Int32} (hT : TC q) (hT2 : TS q2) (R : RG q q2) (a1 a2 : Int32) (e : zX9_terms_s0 q a1 a2 = some (r, o)) (e2 : zX10_terms q2 a1 a2 = some (r2, o2)) : r = r2 ∧ RG o o2 := by
  have w := sf_terms R.1 a1 a2 (r, o) (r2, o2) e e2
  have w1 : r = r2 := w.1
  have w2 : RFw o o2 := w.2
  exact ⟨w1, R.mk w2 (fun N Q hm => ⟨N, Q, dm_terms q2 a1 a2 hm (r2, o2) e2⟩) (d34 (show dFr [1, 2] [0, 32] q2 o2 from (dA_of (ok_terms q2 a1 a2 hT2) (r2, o2) e2).2.1) (by decide))⟩

theorem rgf_feed {q o : dK} {q2 o2 : dS} {r : Int32} {r2 : Int32} (hT : TC q) (hT2 : TS q2) (R : RG q q2) (a1 a2 a3 a4 a5 : Int32) (e : zX9_feed_s0 q a1 a2 a3 a4 a5 = some (r, o)) (e2 : zX10_feed q2 a1 a2 a3 a4 a5 = some (r2, o2)) : RG o o2 := R.fr (FRc.of (show cFr [46] [(0, 12)] q o from (dA_of (ok_X9_feed_s0 q a1 a2 a3 a4 a5 hT) (r, o) e).2.1) (lo_zX9_feed_s0 _ _ q a1 a2 a3 a4 a5 ⟨rfl, rfl⟩ (r, o) e) (by decide)) (FRm.of (show dFr [7, 8] [13] q2 o2 from (dA_of (ok_feed q2 a1 a2 a3 a4 a5 hT2) (r2, o2) e2).2.1) (by decide))

theorem rgf_end {q o : dK} {q2 o2 : dS} {r : Int32} {r2 : Int32} (hT : TC q) (hT2 : TS q2) (R : RG q q2) (a1 : Int32) (e : zX9_end_s0 q a1 = some (r, o)) (e2 : zX10_end q2 a1 = some (r2, o2)) : RG o o2 := R.fr (FRc.of (show cFr [] [(0, 12)] q o from (dA_of (ok_X9_end_s0 q a1 hT) (r, o) e).2.1) (lo_zX9_end_s0 _ _ q a1 ⟨rfl, rfl⟩ (r, o) e) (by decide)) (FRm.of (show dFr [] [13] q2 o2 from (dA_of (ok_end q2 a1 hT2) (r2, o2) e2).2.1) (by decide))

theorem rgf_row {q o : dK} {q2 o2 : dS} {r : Int32} {r2 : Int32} (hT : TC q) (hT2 : TS q2) (R : RG q q2) (ht : ltY q q2) (e : zX9_row_s0 q = some (r, o)) (e2 : zX10_row q2 = some (r2, o2)) : r = r2 ∧ RG o o2 := by
  have w := sf_row hT ht R.1 (r, o) (r2, o2) e e2
  have w1 : r = r2 := w.1
  have w2 : RFw o o2 := w.2.1
  exact ⟨w1, R.mk w2 (fun N Q hm => by obtain ⟨L, l1, l2, l3, l4⟩ := ht; exact dx_row q2 (q.1 46) l1 l3 l4 hm (r2, o2) e2) (d34 (show dFr [1, 2] [0, 6, 13, 32] q2 o2 from (dA_of (ok_row q2 hT2) (r2, o2) e2).2.1) (by decide))⟩

theorem rgf_bricks {q o : dK} {q2 o2 : dS} {r : Int32} {r2 : Int32} (hT : TC q) (hT2 : TS q2) (R : RG q q2) (e : zX9_bricks_s0 q = some (r, o)) (e2 : zX10_bricks q2 = some (r2, o2)) : RG o o2 := R.fr (by have h := dA_of (ok_X9_bricks_s0 q hT) (r, o) e; have h1 : o = q := h; rw [h1]; exact FRc.rf) (by have h : o2 = q2 := dA_of (ok_bricks q2 hT2) (r2, o2) e2; rw [h]; exact FRm.rf)

theorem rgf_law {q o : dK} {q2 o2 : dS} {r : Int32} {r2 : Int32} (hT : TC q) (hT2 : TS q2) (R : RG q q2) (ht : ltY q q2) (hL : q.2.2.length < 1000) (e : zX9_law_s0 468 q = some (r, o)) (e2 : zX10_law q2 = some (r2, o2)) : RG o o2 := by
  have w := sf_law hT hT2 hL ht R.1 (r, o) (r2, o2) e e2
  have w2 : RFw o o2 := w
  exact R.mk w2 (fun N Q hm => ⟨N, Q, dm_law q2 hT2 hm (r2, o2) e2⟩) (d34 (show dFr [1, 2, 9, 10, 11] [0, 8, 9, 10, 13, 14, 18, 19, 20, 21] q2 o2 from (dA_of (ok_law q2 hT2) (r2, o2) e2).2.1) (by decide))

theorem rgf_orders {q o : dK} {q2 o2 : dS} {r : Int32} {r2 : Int32} (hT : TC q) (hT2 : TS q2) (R : RG q q2) (ht : ltY q q2) (e : zX9_orders_s0 q = some (r, o)) (e2 : zX10_orders q2 = some (r2, o2)) : r = r2 ∧ RG o o2 := by
  obtain ⟨N0, Q0, hm0⟩ := R.2.1
  have w := sf_orders hT hT2 ht R.1 hm0 (r, o) (r2, o2) e e2
  have w1 : r = r2 := w.1
  have w2 : RFw o o2 := w.2.1
  exact ⟨w1, R.mk w2 (fun N Q hm => ⟨N, Q, dm_orders q2 hm (r2, o2) e2⟩) (d34 (show dFr oR oF q2 o2 from (dA_of (ok_orders q2 hT2) (r2, o2) e2).2.1) (by decide))⟩

theorem rgf_fault {q o : dK} {q2 o2 : dS} {r : Int32} {r2 : Int32} (hT : TC q) (hT2 : TS q2) (R : RG q q2) (e : zX9_fault_s0 q = some (r, o)) (e2 : zX10_fault q2 = some (r2, o2)) : RG o o2 := R.fr (by have h := dA_of (ok_X9_fault_s0 q hT) (r, o) e; have h1 : o = q := h; rw [h1]; exact FRc.rf) (by have h : o2 = q2 := dA_of (ok_fault q2 hT2) (r2, o2) e2; rw [h]; exact FRm.rf)

theorem rgf_stopped {q o : dK} {q2 o2 : dS} {r : Int32} {r2 : Int32} (hT : TC q) (hT2 : TS q2) (R : RG q q2) (e : zX9_stopped_s0 q = some (r, o)) (e2 : zX10_stopped q2 = some (r2, o2)) : RG o o2 := R.fr (by have h := dA_of (ok_X9_stopped_s0 q hT) (r, o) e; have h1 : o = q := h; rw [h1]; exact FRc.rf) (by have h : o2 = q2 := dA_of (ok_stopped q2 hT2) (r2, o2) e2; rw [h]; exact FRm.rf)

theorem rgf_force {q o : dK} {q2 o2 : dS} {r : Int32} {r2 : Int32} (hT : TC q) (hT2 : TS q2) (R : RG q q2) (a1 : Int32) (e : zX9_force_s0 q a1 = some (r, o)) (e2 : zX10_force q2 a1 = some (r2, o2)) : RG o o2 := by
  have w := sf_force hT2 R.1 a1 (r, o) (r2, o2) e e2
  have w2 : RFw o o2 := w
  exact R.mk w2 (fun N Q hm => ⟨N, Q, dm_force q2 a1 hm (r2, o2) e2⟩) (d34 (show dFr [1, 2] [0] q2 o2 from (dA_of (ok_force q2 a1 hT2) (r2, o2) e2).2.1) (by decide))

theorem rgf_turn {q o : dK} {q2 o2 : dS} {r : Int32} {r2 : Int32} (hT : TC q) (hT2 : TS q2) (R : RG q q2) (a1 : Int32) (e : zX9_turn_s0 q a1 = some (r, o)) (e2 : zX10_turn q2 a1 = some (r2, o2)) : r = r2 ∧ RG o o2 := by
  have w := sf_turn a1 hT hT2 R.1.1 R.1.2.1 (r, o) (r2, o2) e e2
  have w1 : r = r2 := w.1
  have w2 : RFw o o2 := R.1.mv w.2
  exact ⟨w1, R.mk w2 (fun N Q hm => ⟨N, Q, dm_turn q2 a1 hm (r2, o2) e2⟩) (d34 (show dFr [1, 2, 12, 14] [0, 22, 23, 24, 25, 32] q2 o2 from (show dFk [1, 2, 12, 14] [0, 22, 23, 24, 25, 32] q2 o2 from (dA_of (ok_turn q2 a1 hT2) (r2, o2) e2).2).1) (by decide))⟩

theorem rgf_right {q o : dK} {q2 o2 : dS} {r : Int32} {r2 : Int32} (hT : TC q) (hT2 : TS q2) (R : RG q q2) (a1 : Int32) (e : zX9_right_s0 q a1 = some (r, o)) (e2 : zX10_right q2 a1 = some (r2, o2)) : r = r2 ∧ RG o o2 := by
  have w := sf_right a1 hT hT2 R.1.1 R.1.2.1 (r, o) (r2, o2) e e2
  have w1 : r = r2 := w.1
  have w2 : RFw o o2 := R.1.mv w.2
  exact ⟨w1, R.mk w2 (fun N Q hm => ⟨N, Q, dm_right q2 a1 hm (r2, o2) e2⟩) (d34 (show dFr [1, 2, 14] [0, 32] q2 o2 from (show dFk [1, 2, 14] [0, 32] q2 o2 from (dA_of (ok_right q2 a1 hT2) (r2, o2) e2).2).1) (by decide))⟩

theorem rgf_swap {q o : dK} {q2 o2 : dS} {r : Int32} {r2 : Int32} (hT : TC q) (hT2 : TS q2) (R : RG q q2) (a1 : Int32) (e : zX9_swap_s0 q a1 = some (r, o)) (e2 : zX10_swap q2 a1 = some (r2, o2)) : r = r2 ∧ RG o o2 := by
  have w := sf_swap a1 hT hT2 R.1.1 R.1.2.1 (r, o) (r2, o2) e e2
  have w1 : r = r2 := w.1
  have w2 : RFw o o2 := R.1.mv w.2
  exact ⟨w1, R.mk w2 (fun N Q hm => ⟨N, Q, dm_swap q2 a1 hm (r2, o2) e2⟩) (d34 (show dFr [1, 2, 14] [0, 32] q2 o2 from (show dFk [1, 2, 14] [0, 32] q2 o2 from (dA_of (ok_swap q2 a1 hT2) (r2, o2) e2).2).1) (by decide))⟩

theorem rgf_pass {q o : dK} {q2 o2 : dS} {r : Int32} {r2 : Int32} (hT : TC q) (hT2 : TS q2) (R : RG q q2) (e : zX9_pass_s0 q = some (r, o)) (e2 : zX10_pass q2 = some (r2, o2)) : r = r2 ∧ RG o o2 := by
  have w := sf_pass hT hT2 R.1.1 R.1.2.1 (r, o) (r2, o2) e e2
  have w1 : r = r2 := w.1
  have w2 : RFw o o2 := R.1.mv w.2
  exact ⟨w1, R.mk w2 (fun N Q hm => ⟨N, Q, dm_pass q2 hm (r2, o2) e2⟩) (d34 (show dFr [1, 2, 12, 13, 14] [0, 22, 23, 24, 25, 32] q2 o2 from (show dFk [1, 2, 12, 13, 14] [0, 22, 23, 24, 25, 32] q2 o2 from (dA_of (ok_pass q2 hT2) (r2, o2) e2).2).1) (by decide))⟩

theorem rgf_undo {q o : dK} {q2 o2 : dS} {r : Int32} {r2 : Int32} (hT : TC q) (hT2 : TS q2) (R : RG q q2) (e : zX9_undo_s0 q = some (r, o)) (e2 : zX10_undo q2 = some (r2, o2)) : r = r2 ∧ RG o o2 := by
  have w := sf_undo hT R.1.1 R.1.2.1 (r, o) (r2, o2) e e2
  have w1 : r = r2 := w.1
  have w2 : RFw o o2 := R.1.mv w.2
  exact ⟨w1, R.mk w2 (fun N Q hm => ⟨N, Q, dm_undo q2 hm (r2, o2) e2⟩) (d34 (show dFr [1, 2] [0, 32] q2 o2 from (show dFk [1, 2] [0, 32] q2 o2 from (dA_of (ok_undo q2 hT2) (r2, o2) e2).2).1) (by decide))⟩

theorem rg_fewest {q o : dK} {q2 o2 : dS} {r2 : Int32} (hT2 : TS q2) (R : RG q q2) (a1 : Int32) (c : FRc q o) (e2 : zX10_fewest q2 a1 = some (r2, o2)) : RG o o2 := R.fr c (FRm.of (show dFr [12, 16, 17, 18, 19, 20, 21, 22, 23] [22, 23, 24, 25, 37, 38] q2 o2 from (dA_of (ok_fewest q2 a1 hT2) (r2, o2) e2).2) (by decide))

theorem rg_many {q o : dK} {q2 o2 : dS} {r2 : Int32} (hT2 : TS q2) (R : RG q q2) (c : FRc q o) (e2 : zX10_many q2 = some (r2, o2)) : RG o o2 := R.fr c (FRm.of (show dFr [12, 16, 17, 18, 19, 20, 21, 22, 23] [22, 23, 24, 25, 37, 38] q2 o2 from (dA_of (ok_many q2 hT2) (r2, o2) e2).2) (by decide))

theorem rg_cheapest {q o : dK} {q2 o2 : dS} {r2 : Int32} (hT2 : TS q2) (R : RG q q2) (c : FRc q o) (e2 : zX10_cheapest q2 = some (r2, o2)) : RG o o2 := R.fr c (FRm.of (show dFr [12, 16, 17, 18, 19, 20, 21, 23, 24] [22, 23, 24, 25, 37, 38] q2 o2 from (dA_of (ok_cheapest q2 hT2) (r2, o2) e2).2) (by decide))

theorem rg_worst {q o : dK} {q2 o2 : dS} {r2 : Int32} (hT2 : TS q2) (R : RG q q2) (a1 : Int32) (c : FRc q o) (e2 : zX10_worst q2 a1 = some (r2, o2)) : RG o o2 := R.fr c (FRm.of (show dFr [12, 16, 17, 18, 19, 20, 21, 22, 23] [22, 23, 24, 25, 37, 38] q2 o2 from (dA_of (ok_worst q2 a1 hT2) (r2, o2) e2).2) (by decide))

theorem rg_reach {q o : dK} {q2 o2 : dS} {r2 : Int32} (hT2 : TS q2) (R : RG q q2) (c : FRc q o) (e2 : zX10_reach q2 = some (r2, o2)) : RG o o2 := R.fr c (FRm.of (show dFr [12, 16, 17, 18, 19, 20, 21, 23] [22, 23, 24, 25, 37, 38] q2 o2 from (dA_of (ok_reach q2 hT2) (r2, o2) e2).2) (by decide))

theorem rgf_gaps {q o : dK} {q2 o2 : dS} {r : Int32} {r2 : Int32} (hT : TC q) (hT2 : TS q2) (R : RG q q2) (e : zX9_gaps_s0 q = some (r, o)) (e2 : zX10_gaps q2 = some (r2, o2)) : RG o o2 := R.fr (by have h := dA_of (ok_X9_gaps_s0 q hT) (r, o) e; have h1 : o = q := h; rw [h1]; exact FRc.rf) (by have h : o2 = q2 := dA_of (ok_gaps q2 hT2) (r2, o2) e2; rw [h]; exact FRm.rf)

theorem rg_comes {q o : dK} {q2 o2 : dS} {r2 : Int32} (hT2 : TS q2) (R : RG q q2) (a1 : Int32) (c : FRc q o) (e2 : zX10_comes q2 a1 = some (r2, o2)) : RG o o2 := R.fr c (FRm.of (show dFr [12, 16, 17, 18, 19, 20, 21, 23] [22, 23, 24, 25, 37, 38] q2 o2 from (dA_of (ok_comes q2 a1 hT2) (r2, o2) e2).2) (by decide))

theorem rg_view {q o : dK} {q2 o2 : dS} {r2 : Int32} (hT2 : TS q2) (R : RG q q2) (a1 : Int32) (c : FRc q o) (e2 : zX10_view q2 a1 = some (r2, o2)) : RG o o2 := R.fr c (FRm.of (show dFr [12, 16, 17, 18, 19, 20, 21, 23] [22, 23, 24, 25, 37, 38] q2 o2 from (dA_of (ok_view q2 a1 hT2) (r2, o2) e2).2) (by decide))

theorem rgf_stays {q o : dK} {q2 o2 : dS} {r : Int32} {r2 : Int32} (hT : TC q) (hT2 : TS q2) (R : RG q q2) (a1 : Int32) (e : zX9_stays_s0 q a1 = some (r, o)) (e2 : zX10_stays q2 a1 = some (r2, o2)) : RG o o2 := R.fr (by have h := dA_of (ok_X9_stays_s0 q a1 hT) (r, o) e; have h1 : o = q := h; rw [h1]; exact FRc.rf) (by have h : o2 = q2 := dA_of (ok_stays q2 a1 hT2) (r2, o2) e2; rw [h]; exact FRm.rf)

theorem rgf_seen {q o : dK} {q2 o2 : dS} {r : Int32} {r2 : Int32} (hT : TC q) (hT2 : TS q2) (R : RG q q2) (a1 a2 : Int32) (e : zX9_seen_s0 q a1 a2 = some (r, o)) (e2 : zX10_seen q2 a1 a2 = some (r2, o2)) : RG o o2 := by
  have w := sf_seen hT R.1 a1 a2 (r, o) (r2, o2) e e2
  have w2 : RFw o o2 := w
  exact R.mk w2 (fun N Q hm => ⟨N, Q, dm_seen q2 a1 a2 hT2 hm (r2, o2) e2⟩) (d34 (show dFr [1, 2] [0] q2 o2 from (dA_of (ok_seen q2 a1 a2 hT2) (r2, o2) e2).2.1) (by decide))

theorem rgf_forget {q o : dK} {q2 o2 : dS} {r : Int32} {r2 : Int32} (hT : TC q) (hT2 : TS q2) (R : RG q q2) (e : zX9_forget_s0 q = some (r, o)) (e2 : zX10_forget q2 = some (r2, o2)) : RG o o2 := by
  have w := sf_forget R.1 (r, o) (r2, o2) e e2
  have w2 : RFw o o2 := w
  exact R.mk w2 (fun N Q hm => ⟨N, Q, dm_forget q2 hm (r2, o2) e2⟩) (d34 (show dFr [2] [] q2 o2 from (dA_of (ok_forget q2 hT2) (r2, o2) e2).2.1) (by decide))

theorem rgf_was {q o : dK} {q2 o2 : dS} {r : Int32} {r2 : Int32} (hT : TC q) (hT2 : TS q2) (R : RG q q2) (e : zX9_was_s0 q = some (r, o)) (e2 : zX10_was q2 = some (r2, o2)) : RG o o2 := R.fr (FRc.of (show cFr [19, 21] [(18, 1), (20, 2)] q o from (dA_of (ok_X9_was_s0 q hT) (r, o) e).2) (lo_zX9_was_s0 _ _ q ⟨rfl, rfl⟩ (r, o) e) (by decide)) (FRm.of (show dFr [12] [22, 23, 24, 25] q2 o2 from (dA_of (ok_was q2 hT2) (r2, o2) e2).2) (by decide))

theorem rgf_look {q o : dK} {q2 o2 : dS} {r : Int32} {r2 : Int32} (hT : TC q) (hT2 : TS q2) (R : RG q q2) (a1 : Int32) (e : zX9_look_s0 q a1 = some (r, o)) (e2 : zX10_look q2 a1 = some (r2, o2)) : RG o o2 := R.fr (FRc.of (show cFr [19, 21] [(18, 1), (20, 2)] q o from (dA_of (ok_X9_look_s0 q a1 hT) (r, o) e).2) (lo_zX9_look_s0 _ _ q a1 ⟨rfl, rfl⟩ (r, o) e) (by decide)) (FRm.of (show dFr [12, 25] [22, 23, 24, 25] q2 o2 from (dA_of (ok_look q2 a1 hT2) (r2, o2) e2).2) (by decide))

theorem rgf_few {q o : dK} {q2 o2 : dS} {r : Int64} {r2 : Int64} (hT : TC q) (hT2 : TS q2) (R : RG q q2) (a1 a2 : Int32) (e : zX9_few_s0 q a1 a2 = some (r, o)) (e2 : zX10_few q2 a1 a2 = some (r2, o2)) : RG o o2 := R.fr (FRc.of (show cFr [] [] q o from (dA_of (ok_X9_few_s0 q a1 a2 hT) (r, o) e).2) (lo_zX9_few_s0 _ _ q a1 a2 ⟨rfl, rfl⟩ (r, o) e) (by decide)) (FRm.of (show dFr [] [] q2 o2 from (dA_of (ok_few q2 a1 a2 hT2) (r2, o2) e2).2) (by decide))

theorem rg_compare {q o : dK} {q2 o2 : dS} {r2 : Int32} (hT2 : TS q2) (R : RG q q2) (a1 : Int32) (c : FRc q o) (e2 : zX10_compare q2 a1 = some (r2, o2)) : RG o o2 := R.fr c (FRm.of (show dFr [12, 16, 17, 18, 19, 20, 21, 22, 23] [22, 23, 24, 25, 37, 38] q2 o2 from (dA_of (ok_compare q2 a1 hT2) (r2, o2) e2).2) (by decide))

theorem rgf_years {q o : dK} {q2 o2 : dS} {r : Int32} {r2 : Int32} (hT : TC q) (hT2 : TS q2) (R : RG q q2) (a1 a2 : Int32) (e : zX9_years_s0 q a1 a2 = some (r, o)) (e2 : zX10_years q2 a1 a2 = some (r2, o2)) : RG o o2 := by
  have h : dFk [1, 2, 5, 12, 13, 27] [0, 22, 23, 24, 25, 54, 55] q2 o2 := (dA_of (ok_years q2 a1 a2 hT2) (r2, o2) e2).2
  refine R.fr (FRc.of (show cFr [16, 17, 19, 21, 48] [(0, 18), (15, 2), (15, 3), (15, 4), (18, 1), (20, 2)] q o from (dA_of (ok_X9_years_s0 q a1 a2 hT) (r, o) e).2) (lo_zX9_years_s0 _ _ q a1 a2 ⟨rfl, rfl⟩ (r, o) e) (by decide)) ⟨fun j k hj => ?_, h.1.2 32 (by decide)⟩
  rcases hj with x | x | x | x <;> subst x
  · by_cases c : k < 14
    · exact m_yearsR q2 a1 a2 (r2, o2) e2 k c
    · exact h.2 k (by omega)
  · exact congrFun (h.1.1 3 (by decide) (by decide)) k
  · exact congrFun (h.1.1 4 (by decide) (by decide)) k
  · exact congrFun (h.1.1 14 (by decide) (by decide)) k

theorem rgf_drawn {q o : dK} {q2 o2 : dS} {r : Int32} {r2 : Int32} (hT : TC q) (hT2 : TS q2) (R : RG q q2) (a1 a2 : Int32) (e : zX9_drawn_s0 q a1 a2 = some (r, o)) (e2 : zX10_drawn q2 a1 a2 = some (r2, o2)) : RG o o2 := R.fr (by have h := dA_of (ok_X9_drawn_s0 q a1 a2 hT) (r, o) e; have h1 : o = q := h; rw [h1]; exact FRc.rf) (by have h : o2 = q2 := dA_of (ok_drawn q2 a1 a2 hT2) (r2, o2) e2; rw [h]; exact FRm.rf)

theorem rgf_count {q o : dK} {q2 o2 : dS} {r : Int32} {r2 : Int32} (hT : TC q) (hT2 : TS q2) (R : RG q q2) (a1 : Int32) (e : zX9_count_s0 q a1 = some (r, o)) (e2 : zX10_count q2 a1 = some (r2, o2)) : RG o o2 := R.fr (by have h := dA_of (ok_X9_count_s0 q a1 hT) (r, o) e; have h1 : o = q := h; rw [h1]; exact FRc.rf) (by have h : o2 = q2 := dA_of (ok_count q2 a1 hT2) (r2, o2) e2; rw [h]; exact FRm.rf)

theorem rgf_status {q o : dK} {q2 o2 : dS} {r : Int32} {r2 : Int32} (hT : TC q) (hT2 : TS q2) (R : RG q q2) (e : zX9_status_s0 q = some (r, o)) (e2 : zX10_status q2 = some (r2, o2)) : RG o o2 := R.fr (by have h := dA_of (ok_X9_status_s0 q hT) (r, o) e; have h1 : o = q := h; rw [h1]; exact FRc.rf) (by have h : o2 = q2 := dA_of (ok_status q2 hT2) (r2, o2) e2; rw [h]; exact FRm.rf)
end
