def aF (q x : dS) : Prop := dFr [9, 10, 11] [8, 9, 10, 13, 14, 18, 19, 20, 21] q x ∧ x.1 0 13 = 0
theorem ok_readsAs (o : Bool) (q : dS) (p1 : Int32) (hT : TS q) (hp : p1.toInt = bI o) : dOk (zX10_readsAs q p1) (fun r => TS r.2 ∧ aF q r.2 ∧ (r.1.toInt = 0 ∨ (r.1.toInt = 1 ∧ TxtOk o r.2))) := by
  have hb : p1.toInt = 0 ∨ p1.toInt = 1 := by
    cases o with
    | false => exact Or.inl hp
    | true => exact Or.inr hp
  have h32 : ∀ (q1 : dS) (y : Int32), TS q1 → dFr [9, 10, 11] [8, 9, 10, 13, 14, 18, 19, 20, 21] q q1 → (q1.1 0 10).toInt = bI o → (q1.1 0 8).toInt = loW o → y.toInt = hiW o → dOk (zX10_readsAs_32 q1 y) (fun r => TS r.2 ∧ aF q r.2 ∧ (r.1.toInt = 0 ∨ (r.1.toInt = 1 ∧ TxtOk o r.2))) := by
    intro q1 y hT1 hF1 h10 h8 hy
    unfold zX10_readsAs_32
    refine dOk_L (fun q2 e2 => ?_)
    have hT2 : TS q2 := by rw [e2]; exact ts_f hT1 (ti_rg _).1 (ti_rg _).2
    have hF2 : dFr [9, 10, 11] [8, 9, 10, 13, 14, 18, 19, 20, 21] q q2 := by rw [e2]; exact hF1.f (by decide)
    refine dOk_B (ok_reads o q2 hT2 (by rw [e2, dui_n (by decide)]; exact h10) (by rw [e2, dui_n (by decide)]; exact h8) (by rw [e2, dui_e]; exact hy)) (fun r q4 hr => ?_)
    obtain ⟨hT4, hF4, hr4⟩ := hr
    have hr4 : r.toInt = 0 ∨ (r.toInt = 1 ∧ TxtOk o q4) := hr4
    refine dOk_G (dbl_ok (by rcases hr4 with z | z; exact Or.inl z; exact Or.inr z.1)) (dOk_some ⟨hT4, ⟨hF2.t hF4.1 (by decide) (by decide), hF4.2⟩, hr4⟩)
  unfold zX10_readsAs
  refine dOk_G (dbl_ok hb) (dOk_L (fun q2 e2 => ?_))
  have hT2 : TS q2 := by rw [e2]; exact ts_f hT (show 0 ≤ p1.toInt by omega) (show p1.toInt ≤ 1 by omega)
  have hF2 : dFr [9, 10, 11] [8, 9, 10, 13, 14, 18, 19, 20, 21] q q2 := by rw [e2]; exact dFr.rf.f (by decide)
  have g10 : (q2.1 0 10).toInt = bI o := by rw [e2, dui_e]; exact hp
  unfold zX10_readsAs_17
  cases o with
  | false =>
    have e0 : p1 = 0 := Int32.toInt_inj.mp hp
    rw [if_pos e0]
    refine dOk_L (fun q3 e3 => ?_)
    rw [if_pos e0]
    refine h32 q3 16 ?_ ?_ ?_ ?_ (by decide)
    · rw [e3]; exact ts_f hT2 (ti_rg _).1 (ti_rg _).2
    · rw [e3]; exact hF2.f (by decide)
    · rw [e3, dui_n (by decide)]; exact g10
    · rw [e3, dui_e]; decide
  | true =>
    have e0 : ¬ p1 = 0 := fun z => by rw [z] at hp; exact absurd hp (by decide)
    rw [if_neg e0]
    refine dOk_L (fun q3 e3 => ?_)
    rw [if_neg e0]
    refine h32 q3 21 ?_ ?_ ?_ ?_ (by decide)
    · rw [e3]; exact ts_f hT2 (ti_rg _).1 (ti_rg _).2
    · rw [e3]; exact hF2.f (by decide)
    · rw [e3, dui_n (by decide)]; exact g10
    · rw [e3, dui_e]; decide
/-- what was read, laid as text t: in the grammar there -/
theorem txt_laid {o : Bool} {q Q : dS} {t : Nat} (h : TxtOk o q) (hs : Q.1 2 (33 + t) = q.1 0 18) (hc : ∀ n : Nat, (q.1 0 18).toInt = (n : Int) → ∀ k : Nat, k < n → Q.1 2 (40 + 400 * t + k) = q.1 9 k ∧ Q.1 2 (2840 + 400 * t + k) = q.1 10 k) : gSeq (fun i => lawC (Q.1 2) (lawE (Q.1 2) t) i = 159) (gOne o (lawC (Q.1 2) (lawE (Q.1 2) t)) (lawV (Q.1 2))) (400 * t) (lawE (Q.1 2) t) := by
  obtain ⟨n, hn, e18, hg⟩ := h
  have eE : lawE (Q.1 2) t = 400 * t + n := by unfold lawE; rw [hs]; omega
  have hC : ∀ a : Nat, lawC (Q.1 2) (lawE (Q.1 2) t) (400 * t + a) = pC n (q.1 9) a := by
    intro a
    rw [eE]
    unfold lawC pC
    by_cases z : a < n
    · rw [if_pos (by omega), if_pos z, ← Nat.add_assoc, (hc n e18 a z).1]
    · rw [if_neg (by omega), if_neg z]
  have hV : ∀ a : Nat, ¬ pC n (q.1 9) a = 0 → lawV (Q.1 2) (400 * t + a) = pV (q.1 10) a := by
    intro a ha
    have := pC_in ha
    unfold lawV pV
    rw [← Nat.add_assoc, (hc n e18 a this).2]
  have h3 := gSeq_sh (s := 400 * t) (op' := fun i' => lawC (Q.1 2) (lawE (Q.1 2) t) i' = 159) (X' := gOne o (lawC (Q.1 2) (lawE (Q.1 2) t)) (lawV (Q.1 2))) (fun a => c_sh hC 159 a) (fun a b hab => by
    cases o with
    | false => exact gClause_sh hC hV hab
    | true => exact gOrder_sh hC hV hab) hg
  rw [Nat.add_zero, ← eE] at h3
  exact h3
/-- slips, and how many were seen, stay -/
def KB (q o : dS) : Prop := o.1 2 30 = q.1 2 30 ∧ o.1 2 26 = q.1 2 26
theorem kb_row {q o : dS} (h : o.1 2 = q.1 2) : KB q o := by unfold KB; rw [h]; exact ⟨rfl, rfl⟩
theorem KB.t {q q2 o : dS} (h : KB q q2) (h2 : KB q2 o) : KB q o := ⟨h2.1.trans h.1, h2.2.trans h.2⟩
theorem ok_law (q : dS) (hT : TS q) : dOk (zX10_law q) (fun (o : Int32 × dS) => (TS o.2) ∧ (dFr [1, 2, 9, 10, 11] [0, 8, 9, 10, 13, 14, 18, 19, 20, 21] q o.2) ∧ o.2.1 0 13 = 0 ∧ KB q o.2) := by
  unfold zX10_law
  have f31 : 0 ≤ Int32.toInt (q.1 2 31) ∧ Int32.toInt (q.1 2 31) ≤ 6 := hT.1 2 31
  refine dOk_eq (A := Int32.toInt (q.1 2 31)) (B := 6) rfl (by decide) (fun _ _ => ?_) (fun _ c => ?_)
  · refine dOk_L (fun q1 e1 => ?_)
    have hT1 : TS q1 := by rw [e1]; exact ts_f hT (by decide) (by decide)
    refine dOk_B (ok_refuses q1 (-5) hT1 (by decide) (by decide)) (fun r q2 hr => dOk_some ⟨hr.1, ?_, (hr.2.1.2 13 (by decide)).trans (by rw [e1, dui_e]), kb_row ((hr.2.1.1 2 (by decide) (by decide)).trans (by rw [e1, dui_o (by decide)]))⟩)
    have hF1 : dFr [1, 2, 9, 10, 11] [0, 8, 9, 10, 13, 14, 18, 19, 20, 21] q q1 := by rw [e1]; exact dFr.rf.f (by decide)
    exact hF1.t hr.2.1 (by decide) (by decide)
  · refine dOk_B (ok_readsAs false q 0 hT (by decide)) (fun r q3 hr => ?_)
    obtain ⟨hT3, ⟨hF3, z3⟩, hr3⟩ := hr
    have z3 : q3.1 0 13 = 0 := z3
    have hT3 : TS q3 := hT3
    have hF3 : dFr [9, 10, 11] [8, 9, 10, 13, 14, 18, 19, 20, 21] q q3 := hF3
    have hr3 : r.toInt = 0 ∨ (r.toInt = 1 ∧ TxtOk false q3) := hr3
    have hF3' : dFr [1, 2, 9, 10, 11] [0, 8, 9, 10, 13, 14, 18, 19, 20, 21] q q3 := hF3.w (by decide) (by decide)
    refine dOk_eq (A := r.toInt) (B := 0) rfl (by decide) (fun _ _ => ?_) (fun _ z => ?_)
    · exact dOk_B (ok_refuses q3 (-6) hT3 (by decide) (by decide)) (fun r q2 hr => dOk_some ⟨hr.1, hF3'.t hr.2.1 (by decide) (by decide), (hr.2.1.2 13 (by decide)).trans z3, kb_row ((hr.2.1.1 2 (by decide) (by decide)).trans (hF3.1 2 (by decide) (by decide)))⟩)
    · have htx : TxtOk false q3 := by
        rcases hr3 with z2 | z2
        · omega
        · exact z2.2
      have w31 : q3.1 2 31 = q.1 2 31 := by rw [hF3.1 2 (by decide) (by decide)]
      obtain ⟨t, ht⟩ : ∃ t : Nat, Int32.toInt (q3.1 2 31) = (t : Int) := ⟨(Int32.toInt (q3.1 2 31)).toNat, by rw [w31]; omega⟩
      have ht5 : t ≤ 5 := by rw [w31] at ht; omega
      obtain ⟨n, hn, e18, hg⟩ := htx
      refine dOk_V (ok_lays q3 (q3.1 2 31) t n hT3 ht (by omega) (by omega) e18 hn) (fun q6 h6 => ?_)
      obtain ⟨hT6, hF6, a6, b6, c6⟩ := h6
      have w6 : q6.1 2 31 = q3.1 2 31 := a6 31 (by decide)
      have t7 : Int32.toInt (q6.1 2 31 + 1) = (t : Int) + 1 := ti_add (by rw [w6]; exact ht) (by decide) (by omega) (by omega)
      refine dOk_L (fun q7 e7 => ?_)
      have hT7 : TS q7 := by
        rw [e7]
        refine ⟨te_set hT6.1 (show klo 31 ≤ _ by rw [t7]; unfold klo; omega) (show _ ≤ khi 31 by rw [t7]; unfold khi; omega), ?_, ?_, ?_⟩
        · rw [dui_s]
          have u31 : upd (q6.1 2) 31 (q6.1 2 31 + 1) 31 = q6.1 2 31 + 1 := if_pos rfl
          have uo : ∀ i : Nat, ¬ i = 31 → upd (q6.1 2) 31 (q6.1 2 31 + 1) i = q6.1 2 i := fun i hi => if_neg hi
          have k6 := hT6.2.1
          refine ⟨?_, fun u hu hu2 => ?_⟩
          · rw [uo 32 (by decide), u31, t7]
            have := k6.1
            rw [w6, ht] at this
            omega
          · rw [u31, t7] at hu2
            have eE : lawE (upd (q6.1 2) 31 (q6.1 2 31 + 1)) u = lawE (q6.1 2) u := by unfold lawE; rw [uo (33 + u) (by omega)]
            have eC : lawC (upd (q6.1 2) 31 (q6.1 2 31 + 1)) (lawE (q6.1 2) u) = lawC (q6.1 2) (lawE (q6.1 2) u) := by
              funext i; unfold lawC; rw [uo (40 + i) (by omega)]
            have eV : lawV (upd (q6.1 2) 31 (q6.1 2 31 + 1)) = lawV (q6.1 2) := by
              funext i; unfold lawV; rw [uo (2840 + i) (by omega)]
            unfold LawOk
            rw [eE, eC, eV]
            by_cases cu : u = t
            · subst cu
              refine txt_laid (o := false) (q := q3) ⟨n, hn, e18, hg⟩ b6 (fun n' hn' k hk => ?_)
              have : n' = n := by omega
              subst this
              exact c6 k hk
            · exact k6.2 u hu (by rw [w6, ht]; omega)
        · rw [dui_o (by decide), dui_o (by decide)]; exact hT6.2.2.1
        · rw [dui_o (by decide)]; exact hT6.2.2.2
      have hF7 : dFr [1, 2, 9, 10, 11] [0, 8, 9, 10, 13, 14, 18, 19, 20, 21] q q7 := by
        rw [e7]
        refine dFr.i ?_ (by decide) (by decide)
        exact hF3'.t hF6 (by decide) (by decide)
      exact dOk_B (ok_good q7 _ hT7) (fun r8 q10 hr8 => dOk_some ⟨hr8.1, hF7.t hr8.2.1 (by decide) (by decide), (hr8.2.1.2 13 (by decide)).trans (by rw [e7, dui_o (by decide), hF6.2 13 (by decide)]; exact z3), (KB.t (q2 := q3) (kb_row (hF3.1 2 (by decide) (by decide))) (KB.t (q2 := q7) ⟨by rw [e7, dui_n (by decide)]; exact a6 30 (by decide), by rw [e7, dui_n (by decide)]; exact a6 26 (by decide)⟩ (kb_row (hr8.2.1.1 2 (by decide) (by decide)))))⟩)
