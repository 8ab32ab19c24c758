theorem evq_f {o : Bool} {f : Nat → Int32} {e i : Nat} {q : dS} {k : Nat} {v : Int32} (h : EvQ o f e i q) (hk : k = 48 ∨ k = 49 ∨ ((k = 50 ∨ k = 51) ∧ (v.toInt = 0 ∨ v.toInt = 1))) : EvQ o f e i (dui q 0 k v) := by
  obtain ⟨hT, hf, h1, h2, h3, h4, h5⟩ := h
  refine ⟨?_, ?_, ?_, ?_, h3, ?_, h5⟩
  · have hv := ti_rg v
    refine ts_f hT ?_ ?_
    · unfold f0lo; rcases hk with e | e | ⟨e | e, hb⟩ <;> subst e <;> simp <;> omega
    · unfold f0hi; rcases hk with e | e | ⟨e | e, hb⟩ <;> subst e <;> simp <;> omega
  · rw [dui_o (by decide)]; exact hf
  · rw [dui_n (by omega)]; exact h1
  · rw [dui_n (by omega)]; exact h2
  · rw [dui_n (by omega)]; exact h4
theorem evq_l {o : Bool} {f : Nat → Int32} {e i : Nat} {q : dS} {j k : Nat} {v : Int64} (h : EvQ o f e i q) : EvQ o f e i (dul q j k v) := h
theorem fr_g {q q1 q2 : dS} (h : dFr [] [22, 23, 24, 25, 48, 49, 50, 51] q q1) (h2 : dFr [] [22, 24] q1 q2) : dFr [] [22, 23, 24, 25, 48, 49, 50, 51] q q2 := h.t h2 (by decide) (by decide)
theorem ok_goesAlong (q : dS) (p1 p2 : Int32) (e i j : Nat) (hT : TS q) (he : p1.toInt = (e : Int)) (he2 : e ≤ 2800) (h47 : (q.1 0 47).toInt = (i : Int)) (hg : gOrder (lawC (q.1 2) e) (lawV (q.1 2)) i j) (hje : j ≤ e) : dOk (zX10_goesAlong q p1 p2) (fun Q => TS Q ∧ dFr [] [22, 23, 24, 25, 48, 49, 50, 51] q Q ∧ (Q.1 0 22).toInt = (j : Int) + 1) := by
  have hC0 : ¬ lawC (q.1 2) e i = 0 := by
    rcases hg with ⟨h, _⟩ | ⟨h, _⟩ <;> omega
  have hie := lawC_in hC0
  generalize hf : q.1 2 = f at hg hC0
  have h174 : ∀ (q' : dS) (y0 : Int32), (y0.toInt = 0 ∨ y0.toInt = 1) → EvQ true f e j q' → dFr [] [22, 23, 24, 25, 48, 49, 50, 51] q q' → dOk (zX10_goesAlong_174 q' y0) (fun Q => TS Q ∧ dFr [] [22, 23, 24, 25, 48, 49, 50, 51] q Q ∧ (Q.1 0 22).toInt = (j : Int) + 1) := by
    intro q' y0 hy h' hF'
    unfold zX10_goesAlong_174
    refine dOk_G (dbl_ok hy) (dOk_L (fun q2 e2 => dOk_L (fun q3 e3 => dOk_some ?_)))
    have h2 : EvQ true f e j q2 := by rw [e2]; exact evq_f h' (Or.inr (Or.inr ⟨Or.inr rfl, hy⟩))
    have h3 : EvQ true f e (j + 1) q3 := by rw [e3]; exact evq_go h2 hje
    refine ⟨h3.1, ?_, ?_⟩
    · rw [e3]; refine dFr.f ?_ (by decide)
      rw [e2]; exact hF'.f (by decide)
    · have := h3.2.2.1
      omega
  have h151 : ∀ (q' : dS) (y0 : Int32), (y0.toInt = 0 ∨ y0.toInt = 1) → EvQ true f e j q' → dFr [] [22, 23, 24, 25, 48, 49, 50, 51] q q' → dOk (zX10_goesAlong_151 q' y0) (fun Q => TS Q ∧ dFr [] [22, 23, 24, 25, 48, 49, 50, 51] q Q ∧ (Q.1 0 22).toInt = (j : Int) + 1) := by
    intro q' y0 hy h' hF'
    unfold zX10_goesAlong_151 zX10_goesAlong_173
    refine dOk_G (dbl_ok hy) (dOk_L (fun q2 e2 => ?_))
    have h2 : EvQ true f e j q2 := by rw [e2]; exact evq_f h' (Or.inr (Or.inr ⟨Or.inr rfl, hy⟩))
    have hF2 : dFr [] [22, 23, 24, 25, 48, 49, 50, 51] q q2 := by rw [e2]; exact hF'.f (by decide)
    refine dOk_eq rfl rfl (fun _ _ => h174 q2 0 (by decide) h2 hF2) (fun _ _ => ?_)
    exact dOk_eq rfl rfl (fun _ _ => h174 q2 1 (by decide) h2 hF2) (fun _ _ => h174 q2 0 (by decide) h2 hF2)
  have h124 : ∀ (q' : dS) (m : Nat), gIf true (lawC f e) (lawV f) m j → EvQ true f e m q' → dFr [] [22, 23, 24, 25, 48, 49, 50, 51] q q' → dOk (zX10_goesAlong_124 q' p2) (fun Q => TS Q ∧ dFr [] [22, 23, 24, 25, 48, 49, 50, 51] q Q ∧ (Q.1 0 22).toInt = (j : Int) + 1) := by
    intro q' m hif h' hF'
    unfold zX10_goesAlong_124 zX10_goesAlong_146
    refine dOk_L (fun q1 e1 => ?_)
    have h1 : EvQ true f e m q1 := by rw [e1]; exact evq_br h' (by decide)
    have hF1 : dFr [] [22, 23, 24, 25, 48, 49, 50, 51] q q1 := by rw [e1]; exact hF'.f (by decide)
    refine dOk_B (ev_pass 4 (by decide) h1) (fun r2 q4 h3 => ?_)
    rcases h3 with ⟨z0, z1, z2, z3⟩ | ⟨z0, z1, z2⟩
    · have z0 : r2 = 1 := z0
      have z1 : lawC f e m = 4 := z1
      subst z0
      rw [if_neg (by decide)]
      rcases hif with ⟨_, hte⟩ | ⟨hn, _⟩
      · refine dOk_B (ev_test 10 8 (by decide) (by decide) q4 p2 (m + 1) j z2 hte) (fun r5 q7 hr7 => ?_)
        obtain ⟨h7, hF7, _⟩ := hr7
        have hF8 := fr_g (fr_g hF1 z3) hF7
        exact dOk_eq rfl rfl (fun _ _ => h151 q7 0 (by decide) h7 hF8) (fun _ _ => h151 q7 1 (by decide) h7 hF8)
      · exact absurd z1 hn
    · have z0 : r2 = 0 := z0
      have z1 : ¬ lawC f e m = 4 := z1
      have z2 : q4 = q1 := z2
      subst z0 z2
      rw [if_pos rfl]
      rcases hif with ⟨h4, _⟩ | ⟨_, ejm⟩
      · exact absurd h4 z1
      · rw [← ejm] at h1
        exact h151 q4 1 (by decide) h1 hF1
  have h80 : ∀ (q' : dS) (m : Nat) (y0 : Int32), (y0.toInt = 0 ∨ y0.toInt = 1) → gTimes (lawC f e) (lawV f) m j → EvQ true f e m q' → dFr [] [22, 23, 24, 25, 48, 49, 50, 51] q q' → dOk (zX10_goesAlong_80 q' p2 y0) (fun Q => TS Q ∧ dFr [] [22, 23, 24, 25, 48, 49, 50, 51] q Q ∧ (Q.1 0 22).toInt = (j : Int) + 1) := by
    intro q' m y0 hy hti h' hF'
    unfold zX10_goesAlong_80
    refine dOk_G (dbl_ok hy) (dOk_L (fun q2 e2 => dOk_L (fun q3 e3 => ?_)))
    have h2 : EvQ true f e m q2 := by rw [e2]; exact evq_f h' (Or.inr (Or.inr ⟨Or.inl rfl, hy⟩))
    have h3 : EvQ true f e m q3 := by rw [e3]; exact evq_f h2 (Or.inl rfl)
    have hF3 : dFr [] [22, 23, 24, 25, 48, 49, 50, 51] q q3 := by
      rw [e3]; refine dFr.f ?_ (by decide)
      rw [e2]; exact hF'.f (by decide)
    refine dOk_B (ev_pass 26 (by decide) h3) (fun r4 q6 h4 => ?_)
    rcases h4 with ⟨z0, z1, z2, z3⟩ | ⟨z0, z1, z2⟩
    · have z0 : r4 = 1 := z0
      have z1 : lawC f e m = 26 := z1
      have z2 : EvQ true f e (m + 1) q6 := z2
      subst z0
      rw [if_neg (by decide)]
      rcases hti with ⟨_, hc, _, _, hif⟩ | ⟨hn, _⟩
      · have hm1 : m + 1 < e := lawC_in (f := f) (e := e) (i := m + 1) (by omega)
        have g22 : Int32.toInt (q6.1 0 22) = ((m + 1 : Nat) : Int) := z2.2.2.1
        have t1 : Int32.toInt (2840 + q6.1 0 22) = 2840 + ((m + 1 : Nat) : Int) := ti_add (by decide) g22 (by omega) (by omega)
        refine dOk_G (dg_ok (by omega) (by omega)) (dOk_L (fun v8 _ => dOk_L (fun q9 e9 => dOk_L (fun q10 e10 => ?_))))
        have h9 : EvQ true f e (m + 1) q9 := by rw [e9]; exact evq_f z2 (Or.inl rfl)
        have h10 : EvQ true f e (m + 1 + 1) q10 := by rw [e10]; exact evq_go h9 (by omega)
        refine h124 q10 (m + 2) hif h10 ?_
        rw [e10]; refine dFr.f ?_ (by decide)
        rw [e9]; exact (fr_g hF3 z3).f (by decide)
      · exact absurd z1 hn
    · have z0 : r4 = 0 := z0
      have z1 : ¬ lawC f e m = 26 := z1
      have z2 : q6 = q3 := z2
      subst z0 z2
      rw [if_pos rfl]
      rcases hti with ⟨h4, _⟩ | ⟨_, hif⟩
      · exact absurd h4 z1
      · exact h124 q6 m hif h3 hF3
  have h64 : ∀ (q' : dS) (m : Nat) (y0 : Int64), gTimes (lawC f e) (lawV f) m j → EvQ true f e m q' → dFr [] [22, 23, 24, 25, 48, 49, 50, 51] q q' → dOk (zX10_goesAlong_64 q' p2 y0) (fun Q => TS Q ∧ dFr [] [22, 23, 24, 25, 48, 49, 50, 51] q Q ∧ (Q.1 0 22).toInt = (j : Int) + 1) := by
    intro q' m y0 hti h' hF'
    unfold zX10_goesAlong_64
    refine dOk_L (fun q1 e1 => ?_)
    have h1 : EvQ true f e m q1 := by rw [e1]; exact evq_l h'
    have hF1 : dFr [] [22, 23, 24, 25, 48, 49, 50, 51] q q1 := by rw [e1]; exact hF'.l
    exact dOk_eq rfl rfl (fun _ _ => h80 q1 m 1 (by decide) hti h1 hF1) (fun _ _ => h80 q1 m 0 (by decide) hti h1 hF1)
  unfold zX10_goesAlong
  refine dOk_L (fun q1 e1 => dOk_L (fun q2 e2 => dOk_L (fun q3 e3 => ?_)))
  have hT1 : TS q1 := by rw [e1]; exact ts_f hT (by decide) (by decide)
  have hT2 : TS q2 := by rw [e2]; exact ts_f hT1 (ti_rg _).1 (ti_rg _).2
  have hT3 : TS q3 := by rw [e3]; exact ts_f hT2 (ti_rg _).1 (ti_rg _).2
  have hF3 : dFr [] [22, 23, 24, 25, 48, 49, 50, 51] q q3 := by
    rw [e3]; refine dFr.f ?_ (by decide)
    rw [e2]; refine dFr.f ?_ (by decide)
    rw [e1]; exact dFr.rf.f (by decide)
  have w47 : q2.1 0 47 = q.1 0 47 := by rw [e2, dui_n (by decide), e1, dui_n (by decide)]
  have hQ3 : EvQ true f e i q3 := by
    refine ⟨hT3, ?_, ?_, ?_, he2, ?_, by omega⟩
    · rw [hF3.1 2 (by decide) (by decide)]; exact hf
    · rw [e3, dui_e, w47]; exact h47
    · rw [e3, dui_n (by decide), e2, dui_e]; exact he
    · rw [e3, dui_n (by decide), e2, dui_n (by decide), e1, dui_e]; decide
  refine dOk_B (ev_at hQ3) (fun r4 q6 hr => ?_)
  obtain ⟨e6, e4⟩ := hr
  have e6 : q6 = q3 := e6
  have e4 : r4.toInt = lawC f e i := e4
  subst e6
  refine dOk_L (fun q7 e7 => dOk_L (fun q8 e8 => dOk_L (fun q9 e9 => ?_)))
  have h7 : EvQ true f e i q7 := by rw [e7]; exact evq_f hQ3 (Or.inr (Or.inl rfl))
  have h8 : EvQ true f e (i + 1) q8 := by rw [e8]; exact evq_go h7 (by omega)
  have h9 : EvQ true f e (i + 1) q9 := by rw [e9]; exact evq_br h8 (by decide)
  have hF9 : dFr [] [22, 23, 24, 25, 48, 49, 50, 51] q q9 := by
    rw [e9]; refine dFr.f ?_ (by decide)
    rw [e8]; refine dFr.f ?_ (by decide)
    rw [e7]; exact hF3.f (by decide)
  have g49 : q9.1 0 49 = r4 := by rw [e9, dui_n (by decide), e8, dui_n (by decide), e7, dui_e]
  rw [g49]
  refine dOk_eq (A := r4.toInt) (B := 25) rfl (by decide) (fun _ z => ?_) (fun _ z => ?_)
  · rcases hg with ⟨hc, _⟩ | ⟨_, hti⟩
    · omega
    · exact h64 q9 (i + 1) 0 hti h9 hF9
  · rcases hg with ⟨_, m, hs, hti⟩ | ⟨hc, _⟩
    · refine dOk_B (ev_sum 10 8 (by decide) q9 p2 (i + 1) m h9 hs) (fun r10 q12 hr12 => ?_)
      exact h64 q12 m r10 hti hr12.1 (fr_g hF9 hr12.2)
    · omega
theorem lawC_k {f g : Nat → Int32} (h : ∀ i : Nat, 14 ≤ i → g i = f i) (e : Nat) : lawC g e = lawC f e ∧ lawV g = lawV f := by
  constructor
  · funext i; unfold lawC; rw [h (40 + i) (by omega)]
  · funext i; unfold lawV; rw [h (2840 + i) (by omega)]
theorem ok_runs (q : dS) (p1 : Int32) (e i j : Nat) (hT : TS q) (he : p1.toInt = (e : Int)) (he2 : e ≤ 2800) (h47 : (q.1 0 47).toInt = (i : Int)) (hg : gOrder (lawC (q.1 2) e) (lawV (q.1 2)) i j) (hje : j ≤ e) : dOk (zX10_runs q p1) (fun r => TS r.2 ∧ dFk [2, 12, 13, 14] [22, 23, 24, 25, 27, 28, 32, 47, 48, 49, 50, 51] q r.2 ∧ (r.1 = 0 ∨ (r.1 = 1 ∧ (r.2.1 0 47).toInt = (j : Int) + 1))) := by
  unfold zX10_runs
  refine dOk_V (ok_goesAlong q p1 0 e i j hT he he2 h47 hg hje) (fun q3 h3 => ?_)
  obtain ⟨hT3, hF3, g22⟩ := h3
  have hK3 : dFk [2, 12, 13, 14] [22, 23, 24, 25, 27, 28, 32, 48, 49, 50, 51] q q3 := dFk.rf.tr hF3 (by decide) (by decide) (by decide)
  unfold zX10_runs_19
  refine dFix_ok (fun (a : dS × Int32 × Int32 × Int32 × Int32) => TS a.1 ∧ dFk [2, 12, 13, 14] [22, 23, 24, 25, 27, 28, 32, 48, 49, 50, 51] q a.1 ∧ a.2.1 = p1 ∧ a.2.2.2.1 = q3.1 0 22 ∧ a.2.2.1 = q3.1 0 48 ∧ 0 ≤ a.2.2.2.2.toInt) (fun (a : dS × Int32 × Int32 × Int32 × Int32) => (2147483648 - Int32.toInt a.2.2.2.2).toNat) ?_ _ ⟨hT3, hK3, rfl, rfl, rfl, by show (0 : Int) ≤ Int32.toInt 0; decide⟩ _ (dF_gt (by show (2147483648 - Int32.toInt 0).toNat < 1000000000000; rw [show Int32.toInt 0 = (0 : Int) by decide]; omega))
  intro a ha k hk
  obtain ⟨qa, x1, x2, x3, x4⟩ := a
  obtain ⟨hTa, hKa, e1, e3, e2, x40⟩ := ha
  replace hTa : TS qa := hTa
  replace hKa : dFk [2, 12, 13, 14] [22, 23, 24, 25, 27, 28, 32, 48, 49, 50, 51] q qa := hKa
  replace e1 : x1 = p1 := e1
  replace e3 : x3 = q3.1 0 22 := e3
  replace e2 : x2 = q3.1 0 48 := e2
  replace x40 : 0 ≤ x4.toInt := x40
  subst e1
  have hx2 := ti_rg x2
  show dOk (zX10_runs_19b (fun q x1 x2 x3 x4 => k (q, x1, x2, x3, x4)) qa x1 x2 x3 x4) _
  unfold zX10_runs_19b zX10_runs_55 zX10_runs_67
  refine dOk_le rfl rfl (fun c => ?_) (fun c => ?_)
  · refine dOk_L (fun q1 e4 => dOk_some ?_)
    subst e4
    refine ⟨ts_f hTa (ti_rg _).1 (ti_rg _).2, ?_, Or.inr ⟨rfl, ?_⟩⟩
    · refine dFk.f ?_ (by decide)
      exact dFk.rf.t hKa (by decide) (by decide)
    · show Int32.toInt ((dui qa 0 47 x3).1 0 47) = _
      rw [dui_e, e3]; exact g22
  have hg' : gOrder (lawC (qa.1 2) e) (lawV (qa.1 2)) i j := by
    have h2 := lawC_k hKa.2 e
    rw [h2.1, h2.2]; exact hg
  have t4 : Int32.toInt (x4 + 1) = x4.toInt + 1 := ti_add rfl (by decide) (by omega) (by omega)
  have hgo : ∀ q' : dS, TS q' → dFk [2, 12, 13, 14] [22, 23, 24, 25, 27, 28, 32, 48, 49, 50, 51] q q' → dOk (k (q', x1, x2, x3, x4 + 1)) (fun r => TS r.2 ∧ dFk [2, 12, 13, 14] [22, 23, 24, 25, 27, 28, 32, 47, 48, 49, 50, 51] q r.2 ∧ (r.1 = 0 ∨ (r.1 = 1 ∧ (r.2.1 0 47).toInt = (j : Int) + 1))) := by
    intro q' hT' hK'
    refine hk (q', x1, x2, x3, x4 + 1) ⟨hT', hK', rfl, e3, e2, ?_⟩ ?_
    · show 0 ≤ Int32.toInt (x4 + 1)
      omega
    · show (2147483648 - Int32.toInt (x4 + 1)).toNat < (2147483648 - Int32.toInt x4).toNat
      omega
  refine dOk_V (ok_goesAlong qa x1 1 e i j hTa he he2 (by rw [hKa.1.2 47 (by decide)]; exact h47) hg' hje) (fun q4 h4 => ?_)
  obtain ⟨hT4, hF4, _⟩ := h4
  have hK4 : dFk [2, 12, 13, 14] [22, 23, 24, 25, 27, 28, 32, 48, 49, 50, 51] q q4 := hKa.tr hF4 (by decide) (by decide) (by decide)
  refine dOk_eq rfl rfl (fun _ _ => hgo q4 hT4 hK4) (fun _ _ => ?_)
  refine dOk_eq rfl rfl (fun _ _ => dOk_some ⟨hT4, dFk.rf.t hK4 (by decide) (by decide), Or.inl rfl⟩) (fun _ _ => ?_)
  refine dOk_B (ok_obeys q4 hT4) (fun r5 q7 h7 => ?_)
  obtain ⟨hT7, hK7, _⟩ := h7
  have hT7 : TS q7 := hT7
  have hK7' : dFk [2, 12, 13, 14] [22, 23, 24, 25, 27, 28, 32, 48, 49, 50, 51] q q7 := hK4.t hK7 (by decide) (by decide)
  refine dOk_le rfl rfl (fun _ => ?_) (fun _ => dOk_some ⟨hT7, dFk.rf.t hK7' (by decide) (by decide), Or.inl rfl⟩)
  refine dOk_L (fun q8 e8 => ?_)
  subst e8
  exact hgo _ (ts_f hT7 (ti_rg _).1 (ti_rg _).2) (hK7'.f (by decide))
