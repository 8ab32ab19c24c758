abbrev oR : List Nat := [1, 2, 5, 9, 10, 11, 12, 13, 14, 15]
abbrev oF : List Nat := [0, 8, 9, 10, 13, 14, 18, 19, 20, 21, 22, 23, 24, 25, 27, 28, 32, 46, 47, 48, 49, 50, 51]
/-- orders' frame; nothing is on the tape any more; slips, and how many were seen, stay -/
def oFr (q x : dS) : Prop := dFr oR oF q x ∧ x.1 0 13 = 0 ∧ KB q x
theorem oFr.f {q q1 : dS} {k : Nat} {v : Int32} (h : oFr q q1) (hk : k ∈ oF) (h13 : ¬ 13 = k := by decide) : oFr q (dui q1 0 k v) := ⟨h.1.f hk, by rw [dui_n h13]; exact h.2.1, h.2.2.t (kb_row (dui_o (by decide)))⟩
theorem oFr.i {q q1 : dS} {j k : Nat} {v : Int32} (h : oFr q q1) (hj : j ∈ oR) (h0 : j ≠ 0) (h2 : ¬ 2 = j := by decide) : oFr q (dui q1 j k v) := ⟨h.1.i hj h0, by rw [dui_o h0.symm]; exact h.2.1, h.2.2.t (kb_row (dui_o h2))⟩
theorem oFr.tb {S2 F2 : List Nat} {q q1 q2 : dS} (h : oFr q q1) (h2 : dFr S2 F2 q1 q2) (hS : ∀ a ∈ S2, a ∈ oR) (hF : ∀ a ∈ F2, a ∈ oF) (hk : KB q1 q2) (h13 : 13 ∉ F2 := by decide) : oFr q q2 := ⟨h.1.t h2 hS hF, (h2.2 13 h13).trans h.2.1, h.2.2.t hk⟩
theorem oFr.t {S2 F2 : List Nat} {q q1 q2 : dS} (h : oFr q q1) (h2 : dFr S2 F2 q1 q2) (hS : ∀ a ∈ S2, a ∈ oR) (hF : ∀ a ∈ F2, a ∈ oF) (h13 : 13 ∉ F2 := by decide) (hn : 2 ∉ S2 := by decide) : oFr q q2 := h.tb h2 hS hF (kb_row (h2.1 2 hn (by decide))) h13
theorem oFr.tk {S2 F2 : List Nat} {q q1 q2 : dS} (h : oFr q q1) (h2 : dFk S2 F2 q1 q2) (hS : ∀ a ∈ S2, a ∈ oR) (hF : ∀ a ∈ F2, a ∈ oF) (h13 : 13 ∉ F2 := by decide) : oFr q q2 := h.tb h2.1 hS hF ⟨h2.2 30 (by decide), h2.2 26 (by decide)⟩ h13
set_option maxRecDepth 100000 in
set_option maxHeartbeats 4000000 in
theorem ok_orders (q : dS) (hT : TS q) : dOk (zX10_orders q) (fun (o : Int32 × dS) => (TS o.2) ∧ (oFr q o.2)) := by
  have d0 : (0 : Int32).toInt = 0 := by decide
  have h122 : ∀ (q9 : dS) (x1 x3 : Int32), TS q9 → oFr q q9 → 0 ≤ x1.toInt → x1.toInt ≤ 16 → dOk (zX10_orders_122 dF q9 x1 x3 0) (fun (o : Int32 × dS) => (TS o.2) ∧ (oFr q o.2)) := by
    intro q9 x1 x3 hT9 hF9 hx0 hx1
    unfold zX10_orders_122
    refine dFix_ok (fun (a : dS × Int32 × Int32 × Int32) => TS a.1 ∧ oFr q a.1 ∧ a.2.1 = x1 ∧ 0 ≤ a.2.2.2.toInt ∧ a.2.2.2.toInt ≤ 240) (fun (a : dS × Int32 × Int32 × Int32) => (240 - Int32.toInt a.2.2.2).toNat) ?_ _ ⟨hT9, hF9, rfl, (show (0 : Int) ≤ Int32.toInt 0 by omega), (show Int32.toInt 0 ≤ (240 : Int) by omega)⟩ _ (dF_gt (by show (240 - Int32.toInt 0).toNat < 1000000000000; omega))
    intro a ha k hk
    obtain ⟨qa, y1, y3, y4⟩ := a
    obtain ⟨hTa, hFa, e1, y40, y41⟩ := ha
    replace hTa : TS qa := hTa
    replace hFa : oFr q qa := hFa
    replace e1 : y1 = x1 := e1
    replace y40 : 0 ≤ y4.toInt := y40
    replace y41 : y4.toInt ≤ 240 := y41
    subst e1
    show dOk (zX10_orders_122b (fun q x1 x3 x4 => k (q, x1, x3, x4)) qa y1 y3 y4) _
    unfold zX10_orders_122b
    refine dOk_le (A := 240) (B := y4.toInt) (by decide) rfl (fun c => ?_) (fun c => ?_)
    · refine dOk_L (fun q1 e1 => dOk_L (fun q2 e2 => ?_))
      have hT1 : TS q1 := by rw [e1]; exact ts_f hTa (show (0 : Int) ≤ y1.toInt by omega) (show y1.toInt ≤ (16 : Int) by omega)
      have hT2 : TS q2 := by rw [e2]; exact ts_f hT1 (ti_rg _).1 (ti_rg _).2
      have hF2 : oFr q q2 := by
        rw [e2]; refine oFr.f ?_ (by decide)
        rw [e1]; exact hFa.f (by decide)
      exact dOk_B (ok_refuses q2 (-3) hT2 (by decide) (by decide)) (fun r q5 hr => dOk_some ⟨hr.1, hF2.t hr.2.1 (by decide) (by decide)⟩)
    · refine dOk_G (dg_ok (by omega) (by omega)) (dOk_L (fun v7 e7 => dOk_G (dg_ok (by omega) (by omega)) (dOk_L (fun q10 e10 => ?_))))
      have t4 : Int32.toInt (y4 + 1) = y4.toInt + 1 := ti_add rfl (by decide) (by omega) (by omega)
      refine hk (q10, y1, y3, y4 + 1) ⟨?_, ?_, rfl, ?_, ?_⟩ ?_
      · show TS q10
        rw [e10]; exact ts_cp (s := Int32.toNatClampNeg y4) 14 15 (by decide) (by decide) hTa hTa rfl e7
      · show oFr q q10
        rw [e10]; exact hFa.i (by decide) (by decide)
      · show 0 ≤ Int32.toInt (y4 + 1)
        omega
      · show Int32.toInt (y4 + 1) ≤ 240
        omega
      · show (240 - Int32.toInt (y4 + 1)).toNat < (240 - Int32.toInt y4).toNat
        omega
  have h95 : ∀ (q6 : dS) (x1 x2 x3 : Int32) (e : Nat), TS q6 → oFr q q6 → 0 ≤ x1.toInt → x1.toInt ≤ 16 → x2.toInt = (e : Int) → e ≤ 2800 → (q6.1 0 47).toInt = 2400 → gSeq (fun i => lawC (q6.1 2) e i = 159) (gOne true (lawC (q6.1 2) e) (lawV (q6.1 2))) 2400 e → dOk (zX10_orders_95 dF q6 x1 x2 x3) (fun (o : Int32 × dS) => (TS o.2) ∧ (oFr q o.2)) := by
    intro q6 x1 x2 x3 e hT6 hF6 hx0 hx1 he he2 h47 hs6
    unfold zX10_orders_95
    refine dFix_ok (fun (a : dS × Int32 × Int32 × Int32) => TS a.1 ∧ dFk [2, 12, 13, 14] [22, 23, 24, 25, 27, 28, 32, 47, 48, 49, 50, 51] q6 a.1 ∧ a.2.1 = x1 ∧ a.2.2.1 = x2 ∧ ∃ i : Nat, (a.1.1 0 47).toInt = (i : Int) ∧ (i = e + 1 ∨ gSeq (fun i => lawC (q6.1 2) e i = 159) (gOne true (lawC (q6.1 2) e) (lawV (q6.1 2))) i e)) (fun (a : dS × Int32 × Int32 × Int32) => (2802 - Int32.toInt (a.1.1 0 47)).toNat) ?_ _ ⟨hT6, dFk.rf, rfl, rfl, 2400, h47, Or.inr hs6⟩ _ (dF_gt (by show (2802 - Int32.toInt (q6.1 0 47)).toNat < 1000000000000; omega))
    intro a ha k hk
    obtain ⟨qa, y1, y2, y3⟩ := a
    obtain ⟨hTa, hKa, e1, e2, i, hi, hs⟩ := ha
    replace hTa : TS qa := hTa
    replace hKa : dFk [2, 12, 13, 14] [22, 23, 24, 25, 27, 28, 32, 47, 48, 49, 50, 51] q6 qa := hKa
    replace e1 : y1 = x1 := e1
    replace e2 : y2 = x2 := e2
    replace hi : (qa.1 0 47).toInt = (i : Int) := hi
    subst e1 e2
    have hFa : oFr q qa := hF6.tk hKa (by decide) (by decide)
    show dOk (zX10_orders_95b (fun q x1 x2 x3 => k (q, x1, x2, x3)) qa y1 y2 y3) _
    unfold zX10_orders_95b
    refine dOk_le he hi (fun c => ?_) (fun c => ?_)
    · exact dOk_B (ok_good qa _ hTa) (fun r q3 hr => dOk_some ⟨hr.1, hFa.t hr.2.1 (by decide) (by decide)⟩)
    rcases hs with hs | hs
    · omega
    obtain ⟨m, hm, htl⟩ := gEnd_tail hs
    have hme : m ≤ e := by
      rcases htl with ⟨_, z⟩ | ⟨z, _⟩
      · omega
      · have := lawC_in (f := q6.1 2) (e := e) (i := m) (by omega)
        omega
    have hm' : gOrder (lawC (qa.1 2) e) (lawV (qa.1 2)) i m := by
      have h2 := lawC_k hKa.2 e
      rw [h2.1, h2.2]; exact hm
    have him : i ≤ m := by
      rcases hm with ⟨_, m1, h1, h2⟩ | ⟨_, h2⟩
      · have z1 := gSum_mono h1
        rcases h2 with ⟨_, _, _, _, h3⟩ | ⟨_, h3⟩ <;> rcases h3 with ⟨_, h4⟩ | ⟨_, h4⟩
        · have := gTest_mono h4; omega
        · omega
        · have := gTest_mono h4; omega
        · omega
      · rcases h2 with ⟨_, _, _, _, h3⟩ | ⟨_, h3⟩ <;> rcases h3 with ⟨_, h4⟩ | ⟨_, h4⟩
        · have := gTest_mono h4; omega
        · omega
        · have := gTest_mono h4; omega
        · omega
    refine dOk_B (ok_runs qa y2 e i m hTa he he2 hi hm' hme) (fun r4 q7 h7 => ?_)
    obtain ⟨hT7, hK7, hr⟩ := h7
    replace hT7 : TS q7 := hT7
    replace hK7 : dFk [2, 12, 13, 14] [22, 23, 24, 25, 27, 28, 32, 47, 48, 49, 50, 51] qa q7 := hK7
    replace hr : r4 = 0 ∨ (r4 = 1 ∧ (q7.1 0 47).toInt = (m : Int) + 1) := hr
    have hF7 : oFr q q7 := hFa.tk hK7 (by decide) (by decide)
    rcases hr with e0 | ⟨e0, h47'⟩
    · subst e0
      rw [if_pos rfl]
      refine dOk_V (ok_takesBack q7 1 hT7 (by decide) (by decide)) (fun q9 h9 => ?_)
      exact h122 q9 y1 y3 h9.1 (hF7.tk h9.2 (by decide) (by decide)) hx0 hx1
    · subst e0
      rw [if_neg (by decide)]
      refine hk (q7, y1, y2, y3 + 1) ⟨hT7, hKa.t hK7 (by decide) (by decide), rfl, rfl, m + 1, ?_, ?_⟩ ?_
      · show (q7.1 0 47).toInt = ((m + 1 : Nat) : Int)
        omega
      · rcases htl with ⟨_, z⟩ | ⟨_, z⟩
        · exact Or.inl (by omega)
        · exact Or.inr z
      · show (2802 - Int32.toInt (q7.1 0 47)).toNat < (2802 - Int32.toInt (qa.1 0 47)).toNat
        omega
  unfold zX10_orders
  refine dOk_L (fun q1 e1 => ?_)
  have hT1 : TS q1 := by rw [e1]; exact ts_f hT (ti_rg _).1 (ti_rg _).2
  have hF1 : dFr oR oF q q1 := by rw [e1]; exact dFr.rf.f (by decide)
  refine dOk_B (ok_readsAs true q1 1 hT1 (by decide)) (fun r2 q4 h4 => ?_)
  obtain ⟨hT4, hF4, hr4⟩ := h4
  replace hT4 : TS q4 := hT4
  replace hr4 : r2.toInt = 0 ∨ (r2.toInt = 1 ∧ TxtOk true q4) := hr4
  have hF4' : oFr q q4 := ⟨hF1.t hF4.1 (by decide) (by decide), hF4.2, kb_row ((hF4.1.1 2 (by decide) (by decide)).trans (by rw [e1, dui_o (by decide)]))⟩
  refine dOk_eq (A := r2.toInt) (B := 0) rfl d0 (fun _ _ => ?_) (fun _ c => ?_)
  · exact dOk_B (ok_refuses q4 (-6) hT4 (by decide) (by decide)) (fun r q10 hr => dOk_some ⟨hr.1, hF4'.t hr.2.1 (by decide) (by decide)⟩)
  have htx : TxtOk true q4 := by
    rcases hr4 with z | z
    · omega
    · exact z.2
  obtain ⟨n, hn, e18, hg⟩ := htx
  refine dOk_V (ok_laysAside q4 1 hT4 (by decide) (by decide)) (fun q7 h7 => ?_)
  obtain ⟨hT7, hF7⟩ := h7
  unfold zX10_orders_27
  refine dFix_ok (fun (a : dS × Int32) => TS a.1 ∧ dFr [5, 15] [] q4 a.1 ∧ 0 ≤ a.2.toInt ∧ a.2.toInt ≤ 240) (fun (a : dS × Int32) => (240 - Int32.toInt a.2).toNat) ?_ _ ⟨hT7, hF7.w (by decide) (by decide), (show (0 : Int) ≤ Int32.toInt 0 by omega), (show Int32.toInt 0 ≤ (240 : Int) by omega)⟩ _ (dF_gt (by show (240 - Int32.toInt 0).toNat < 1000000000000; omega))
  intro a ha k hk
  obtain ⟨qa, x1⟩ := a
  obtain ⟨hTa, hFa, x10, x11⟩ := ha
  replace hTa : TS qa := hTa
  replace hFa : dFr [5, 15] [] q4 qa := hFa
  replace x10 : 0 ≤ x1.toInt := x10
  replace x11 : x1.toInt ≤ 240 := x11
  have hFa' : oFr q qa := hF4'.t hFa (by decide) (by decide)
  show dOk (zX10_orders_27b (fun q x1 => k (q, x1)) qa x1) _
  unfold zX10_orders_27b
  refine dOk_le (A := 240) (B := x1.toInt) (by decide) rfl (fun c => ?_) (fun c => ?_)
  · have w18 : qa.1 0 18 = q4.1 0 18 := hFa.2 18 (by decide)
    have w9 : qa.1 9 = q4.1 9 := hFa.1 9 (by decide) (by decide)
    have w10 : qa.1 10 = q4.1 10 := hFa.1 10 (by decide) (by decide)
    have hxa : TxtOk true qa := ⟨n, hn, by rw [w18]; exact e18, by rw [w9, w10]; exact hg⟩
    have f31 : 0 ≤ Int32.toInt (qa.1 2 31) ∧ Int32.toInt (qa.1 2 31) ≤ 6 := hTa.1 2 31
    have f32 : 0 ≤ Int32.toInt (qa.1 0 32) ∧ Int32.toInt (qa.1 0 32) ≤ 16 := hTa.1 0 32
    have e18a : (qa.1 0 18).toInt = (n : Int) := by rw [w18]; exact e18
    refine dOk_V (ok_lays qa 6 6 n hTa (by decide) (by decide) (by omega) e18a hn) (fun q3 h3 => ?_)
    obtain ⟨hT3, hF3, a3, b3, c3⟩ := h3
    refine dOk_L (fun q5 e5 => dOk_L (fun q6 e6 => dOk_L (fun q8 e8 => ?_)))
    have hT5 : TS q5 := by rw [e5]; exact ts_f hT3 (ti_rg _).1 (ti_rg _).2
    have hT6 : TS q6 := by rw [e6]; exact ts_f hT5 (ti_rg _).1 (ti_rg _).2
    have hT8 : TS q8 := by rw [e8]; exact ts_f hT6 (ti_rg _).1 (ti_rg _).2
    have hF8 : oFr q q8 := by
      rw [e8]; refine oFr.f ?_ (by decide)
      rw [e6]; refine oFr.f ?_ (by decide)
      rw [e5]; refine oFr.f ?_ (by decide)
      exact hFa'.tb hF3 (by decide) (by decide) ⟨a3 30 (by decide), a3 26 (by decide)⟩
    have w2 : q8.1 2 = q3.1 2 := by rw [e8, dui_o (by decide), e6, dui_o (by decide), e5, dui_o (by decide)]
    have g47 : q8.1 0 47 = 2400 := by rw [e8, dui_e]
    have g39 : Int32.toInt (q8.1 2 39) = (n : Int) := by rw [w2]; rw [show (39 : Nat) = 33 + 6 from rfl, b3]; exact e18a
    have hend : Int32.toInt (q8.1 0 47 + q8.1 2 39) = ((2400 + n : Nat) : Int) := by
      rw [g47, ti_add (a := 2400) (A := 2400) (by decide) g39 (by omega) (by omega)]
      omega
    have hl := txt_laid (o := true) (q := qa) (Q := q3) (t := 6) hxa b3 (fun n' hn' k hk => by
      have : n' = n := by omega
      subst this
      exact c3 k hk)
    have eE : lawE (q3.1 2) 6 = 2400 + n := by unfold lawE; rw [b3]; omega
    rw [eE] at hl
    exact h95 q8 (qa.1 0 32) _ 0 (2400 + n) hT8 hF8 f32.1 f32.2 hend (by omega) (by rw [g47]; decide) (by rw [w2]; exact hl)
  · refine dOk_G (dg_ok (by omega) (by omega)) (dOk_L (fun v8 e8 => dOk_G (dg_ok (by omega) (by omega)) (dOk_L (fun q10 e10 => ?_))))
    have t1 : Int32.toInt (x1 + 1) = x1.toInt + 1 := ti_add rfl (by decide) (by omega) (by omega)
    refine hk (q10, x1 + 1) ⟨?_, ?_, ?_, ?_⟩ ?_
    · show TS q10
      rw [e10]; exact ts_cp (s := Int32.toNatClampNeg x1) 15 14 (by decide) (by decide) hTa hTa rfl e8
    · show dFr [5, 15] [] q4 q10
      rw [e10]; exact hFa.i (by decide) (by decide)
    · show 0 ≤ Int32.toInt (x1 + 1)
      omega
    · show Int32.toInt (x1 + 1) ≤ 240
      omega
    · show (240 - Int32.toInt (x1 + 1)).toNat < (240 - Int32.toInt x1).toNat
      omega
