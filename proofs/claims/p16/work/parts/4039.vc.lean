section
set_option maxHeartbeats 4000000 in
set_option maxRecDepth 100000 in
theorem ok_towerNow (q : dS) (hT : TS q) : dOk (zX10_towerNow q) (fun (o : Int32 × dS) => (TS o.2) ∧ (dFr [19] [] q o.2) ∧ (0 ≤ Int32.toInt o.1 ∧ Int32.toInt o.1 ≤ 46079) ∧ (Int32.toInt o.1 < 64 * facI (Int32.toInt (q.1 2 29)))) := by
  unfold zX10_towerNow
  unfold zX10_towerNow_4
  refine dFix_ok (fun (a : dS × Int32 × Int32) => (TS a.1) ∧ (dFr [19] [] q a.1) ∧ (0 ≤ Int32.toInt a.2.2) ∧ (Int32.toInt a.2.2 ≤ 6) ∧ (0 ≤ Int32.toInt a.2.1 ∧ Int32.toInt a.2.1 ≤ 63)) (fun (a : dS × Int32 × Int32) => (6 - Int32.toInt a.2.2).toNat) ?_ _ ?_ _ (dF_gt ?_)
  · intro a ha k_2 hk_1
    obtain ⟨q_3, x1_4, x2_5⟩ := a
    replace ha : (TS q_3) ∧ (dFr [19] [] q q_3) ∧ (0 ≤ Int32.toInt x2_5) ∧ (Int32.toInt x2_5 ≤ 6) ∧ (0 ≤ Int32.toInt x1_4 ∧ Int32.toInt x1_4 ≤ 63) := ha
    obtain ⟨a_6, a_7, a_8, a_9, a_10⟩ := ha
    show dOk (zX10_towerNow_4b  (fun q x1 x2 => k_2 (q, x1, x2)) q_3 x1_4 x2_5) _
    unfold zX10_towerNow_4b
    have hFq_3 : dFr [19] [] q q_3 := (dFr.rf (q := q)).t a_7 (by decide) (by decide)
    refine dOk_B (ok_size q_3 a_6) (fun r_11 q_12 h_13 => ?_)
    replace h_13 : (q_12 = q_3) ∧ (Int32.toInt r_11 = Int32.toInt (q_3.1 2 29)) ∧ (0 ≤ Int32.toInt r_11 ∧ Int32.toInt r_11 ≤ 6) := h_13
    obtain ⟨i_14, i_15, i_16⟩ := h_13
    subst q_12
    have f_17 : 0 ≤ Int32.toInt (q_3.1 2 29) ∧ Int32.toInt (q_3.1 2 29) ≤ 6 := a_6.1 2 29
    have f_18 : 0 ≤ Int32.toInt (q.1 2 29) ∧ Int32.toInt (q.1 2 29) ≤ 6 := hT.1 2 29
    have w_19 : Int32.toInt (q_3.1 2 29) = Int32.toInt (q.1 2 29) := by rw [a_7.1 2 (by decide) (by decide)]
    refine dOk_le (A := Int32.toInt r_11) (B := Int32.toInt x2_5) rfl rfl (fun c_20 => ?_) (fun c_21 => ?_)
    · refine dOk_B (ok_numberOf q_3 a_6) (fun r_22 q_23 h_24 => ?_)
      replace h_24 : (q_23 = q_3) ∧ (NB (Int32.toInt (q_3.1 2 29)) (Int32.toInt (q_3.1 2 29)) (Int32.toInt r_22)) ∧ (0 ≤ Int32.toInt r_22 ∧ Int32.toInt r_22 ≤ 719) := h_24
      obtain ⟨i_25, i_26, i_27⟩ := h_24
      subst q_23
      have zf := NB_fac ‹NB _ _ (Int32.toInt r_22)›
      have zg : facI (Int32.toInt (q_3.1 2 29)) = facI (Int32.toInt (q.1 2 29)) := by rw [show Int32.toInt (q_3.1 2 29) = Int32.toInt (q.1 2 29) by omega]
      try have t_28 : Int32.toInt (64 * r_22) = 64 * Int32.toInt r_22 := ti_mul (by decide) rfl (by omega) (by omega)
      try have t_29 : Int32.toInt (64 * r_22 + x1_4) = Int32.toInt (64 * r_22) + Int32.toInt x1_4 := ti_add rfl rfl (by omega) (by omega)
      exact dOk_some (show (TS q_3) ∧ (dFr [19] [] q q_3) ∧ (0 ≤ Int32.toInt (64 * r_22 + x1_4) ∧ Int32.toInt (64 * r_22 + x1_4) ≤ 46079) ∧ (Int32.toInt (64 * r_22 + x1_4) < 64 * facI (Int32.toInt (q.1 2 29))) from ⟨a_6, hFq_3, by omega, by omega⟩)
    · try have t_30 : Int32.toInt (0 + x2_5) = 0 + Int32.toInt x2_5 := ti_add (by decide) rfl (by omega) (by omega)
      refine dOk_G (dg_ok (show 0 ≤ Int32.toInt (0 + x2_5) by omega) (show Int32.toInt (0 + x2_5) < ((5640 : Nat) : Int) by omega)) ?_
      have n_31 : ((Int32.toNatClampNeg (0 + x2_5) : Nat) : Int) = Int32.toInt (0 + x2_5) := cl_eq (by omega)
      refine dOk_L (fun v_32 ev_32 => ?_)
      try have g_33 : klo (Int32.toNatClampNeg (0 + x2_5)) ≤ Int32.toInt v_32 ∧ Int32.toInt v_32 ≤ khi (Int32.toNatClampNeg (0 + x2_5)) := by rw [ev_32]; exact te_k a_6 _
      try have f_34 : 0 ≤ Int32.toInt v_32 ∧ Int32.toInt v_32 ≤ 5 := by rw [ev_32]; exact te_2r a_6 (by omega) (by omega)
      try have f_35 : 0 ≤ Int32.toInt v_32 ∧ Int32.toInt v_32 ≤ 1 := by rw [ev_32]; exact te_2h a_6 (by omega) (by omega)
      try have f_36 : 0 ≤ Int32.toInt v_32 ∧ Int32.toInt v_32 ≤ 5 := by rw [ev_32]; exact te_2s a_6 (by omega) (by omega)
      try have f_37 : 0 ≤ Int32.toInt v_32 ∧ Int32.toInt v_32 ≤ 400 := by rw [ev_32]; exact te_2z a_6 (by omega) (by omega)
      refine dOk_B (ok_lessThan q_3 v_32 a_6) (fun r_38 q_39 h_40 => ?_)
      replace h_40 : (q_39 = q_3) ∧ (0 ≤ Int32.toInt r_38 ∧ Int32.toInt r_38 ≤ 6) := h_40
      obtain ⟨i_41, i_42⟩ := h_40
      subst q_39
      refine dOk_G (dg_ok (show 0 ≤ Int32.toInt x2_5 by omega) (show Int32.toInt x2_5 < ((6 : Nat) : Int) by omega)) ?_
      have n_43 : ((Int32.toNatClampNeg x2_5 : Nat) : Int) = Int32.toInt x2_5 := cl_eq (by omega)
      refine dOk_L (fun q_44 eq_44 => ?_)
      have hTq_44 : TS q_44 := by rw [eq_44]; exact ts_any a_6 rfl
      have hFq_44 : dFr [19] [] q q_44 := by rw [eq_44]; exact hFq_3.i (by decide) (by decide)
      try have t_45 : Int32.toInt (6 + x2_5) = 6 + Int32.toInt x2_5 := ti_add (by decide) rfl (by omega) (by omega)
      refine dOk_G (dg_ok (show 0 ≤ Int32.toInt (6 + x2_5) by omega) (show Int32.toInt (6 + x2_5) < ((5640 : Nat) : Int) by omega)) ?_
      have n_46 : ((Int32.toNatClampNeg (6 + x2_5) : Nat) : Int) = Int32.toInt (6 + x2_5) := cl_eq (by omega)
      refine dOk_L (fun v_47 ev_47 => ?_)
      try have g_48 : klo (Int32.toNatClampNeg (6 + x2_5)) ≤ Int32.toInt v_47 ∧ Int32.toInt v_47 ≤ khi (Int32.toNatClampNeg (6 + x2_5)) := by rw [ev_47]; exact te_k hTq_44 _
      try have f_49 : 0 ≤ Int32.toInt v_47 ∧ Int32.toInt v_47 ≤ 5 := by rw [ev_47]; exact te_2r hTq_44 (by omega) (by omega)
      try have f_50 : 0 ≤ Int32.toInt v_47 ∧ Int32.toInt v_47 ≤ 1 := by rw [ev_47]; exact te_2h hTq_44 (by omega) (by omega)
      try have f_51 : 0 ≤ Int32.toInt v_47 ∧ Int32.toInt v_47 ≤ 5 := by rw [ev_47]; exact te_2s hTq_44 (by omega) (by omega)
      try have f_52 : 0 ≤ Int32.toInt v_47 ∧ Int32.toInt v_47 ≤ 400 := by rw [ev_47]; exact te_2z hTq_44 (by omega) (by omega)
      try have t_53 := ti_shl5 (x := v_47) (s := x2_5) (by omega) (by omega) (by omega) (by omega)
      try have t_54 := ti_shl6 (x := v_47) (s := x2_5) (by omega) (by omega) (by omega) (by omega)
      try have t_55 := ti_or (x := x1_4) (y := v_47 <<< ((x2_5 : Int32) &&& 31)) 6 (by decide) (by omega) (by omega) (by omega) (by omega)
      try have t_56 : Int32.toInt (x2_5 + 1) = Int32.toInt x2_5 + 1 := ti_add rfl (by decide) (by omega) (by omega)
      exact hk_1 (q_44, (x1_4 ||| v_47 <<< ((x2_5 : Int32) &&& 31)), (x2_5 + 1)) (show (TS q_44) ∧ (dFr [19] [] q q_44) ∧ (0 ≤ Int32.toInt (x2_5 + 1)) ∧ (Int32.toInt (x2_5 + 1) ≤ 6) ∧ (0 ≤ Int32.toInt (x1_4 ||| v_47 <<< ((x2_5 : Int32) &&& 31)) ∧ Int32.toInt (x1_4 ||| v_47 <<< ((x2_5 : Int32) &&& 31)) ≤ 63) from ⟨hTq_44, (by rw [eq_44]; exact (((dFr.rf : dFr [19] [] q q).t a_7 (by decide) (by decide)) : dFr [19] [] q q_3).i (by decide) (by decide)), by omega, by omega, by omega⟩) (show (6 - Int32.toInt (x2_5 + 1)).toNat < (6 - Int32.toInt x2_5).toNat by omega)
  · exact (show (TS q) ∧ (dFr [19] [] q q) ∧ (0 ≤ (0 : Int)) ∧ ((0 : Int) ≤ 6) ∧ (0 ≤ (0 : Int) ∧ (0 : Int) ≤ 63) from ⟨hT, dFr.rf, by omega, by omega, by omega⟩)
  · show (6 - (0 : Int)).toNat < 1000000000000
    omega
end
section
def gTimes (C V : Nat → Int) (m j : Nat) : Prop := (C m = 26 ∧ C (m + 1) = 50 ∧ 1 ≤ V (m + 1) ∧ V (m + 1) ≤ 20 ∧ gIf true C V (m + 2) j) ∨ (¬ C m = 26 ∧ gIf true C V m j)
def gOrder (C V : Nat → Int) (i j : Nat) : Prop := ((C i = 22 ∨ C i = 23 ∨ C i = 24) ∧ ∃ m : Nat, gSum true C V 8 (i + 1) m ∧ gTimes C V m j) ∨ (C i = 25 ∧ gTimes C V (i + 1) j)
def gOne (o : Bool) (C V : Nat → Int) (i j : Nat) : Prop := match o with
  | false => gClause C V i j
  | true => gOrder C V i j
theorem d80 : (0 : Int32).toInt = 8 - ((8 : Nat) : Int) := by decide
theorem pr_ifC {o : Bool} {n : Nat} {c v : Nat → Int32} {m : Nat} {q : dS} (h : PQ o n c v m q) : dOk (zX10_readClause_29 q) (fun Q => PR o n c v q m (gIf o (pC n c) (pV v) m) Q) := by
  unfold zX10_readClause_29 zX10_readClause_42
  refine dOk_B (pr_takes 4 (by decide) h) (fun r q3 hr => ?_)
  rcases hr with ⟨e, z1, z2, z3, z4, z5⟩ | ⟨e, e5, y1⟩
  · have e : r = 1 := e
    subst e
    rw [if_neg (by decide)]
    refine dOk_V (pr_test 10 8 (by decide) (by decide) q3 0 (m + 1) z4 d80) (fun q6 h6 => dOk_some ?_)
    obtain ⟨j, hj, h6, hF6, hX6⟩ := h6
    exact ⟨j, by omega, h6, fr_pt z5 hF6, fun z => ⟨z1, Or.inl ⟨z3, (hX6 z).2⟩⟩⟩
  · have e : r = 0 := e
    have e5 : q3 = q := e5
    subst e e5
    rw [if_pos rfl]
    exact dOk_some ⟨m, Nat.le_refl m, h, dFr.rf, fun z => ⟨z, Or.inr ⟨y1 z, rfl⟩⟩⟩
theorem pr_ifO {o : Bool} {n : Nat} {c v : Nat → Int32} {m : Nat} {q : dS} (h : PQ o n c v m q) : dOk (zX10_readOrder_57 q) (fun Q => PR o n c v q m (gIf o (pC n c) (pV v) m) Q) := by
  unfold zX10_readOrder_57 zX10_readOrder_70
  refine dOk_B (pr_takes 4 (by decide) h) (fun r q3 hr => ?_)
  rcases hr with ⟨e, z1, z2, z3, z4, z5⟩ | ⟨e, e5, y1⟩
  · have e : r = 1 := e
    subst e
    rw [if_neg (by decide)]
    refine dOk_V (pr_test 10 8 (by decide) (by decide) q3 0 (m + 1) z4 d80) (fun q6 h6 => dOk_some ?_)
    obtain ⟨j, hj, h6, hF6, hX6⟩ := h6
    exact ⟨j, by omega, h6, fr_pt z5 hF6, fun z => ⟨z1, Or.inl ⟨z3, (hX6 z).2⟩⟩⟩
  · have e : r = 0 := e
    have e5 : q3 = q := e5
    subst e e5
    rw [if_pos rfl]
    exact dOk_some ⟨m, Nat.le_refl m, h, dFr.rf, fun z => ⟨z, Or.inr ⟨y1 z, rfl⟩⟩⟩
theorem pr_clause {n : Nat} {c v : Nat → Int32} {i : Nat} {q : dS} (h : PQ false n c v i q) : dOk (zX10_readClause q) (fun Q => PR false n c v q i (gClause (pC n c) (pV v) i) Q) := by
  have h29 : ∀ (q1 : dS) (m : Nat), i ≤ m → PQ false n c v m q1 → dFr [] [19, 20, 21] q q1 → (fn q1 → fn q) → (∀ j : Nat, fn q1 → gIf false (pC n c) (pV v) m j → gClause (pC n c) (pV v) i j) → dOk (zX10_readClause_29 q1) (fun Q => PR false n c v q i (gClause (pC n c) (pV v) i) Q) := by
    intro q1 m him h1 hF1 hf1 hX
    exact dOk_mono (pr_ifC h1) (fun Q hQ => PR.bind him hF1 hf1 hQ hX)
  unfold zX10_readClause
  refine dOk_B (pr_takes 1 (by decide) h) (fun r q3 hr => ?_)
  rcases hr with ⟨e, z1, z2, z3, z4, z5⟩ | ⟨e, e5, y1⟩
  · have e : r = 1 := e
    subst e
    rw [if_neg (by decide)]
    refine dOk_V (pr_sum 10 8 (by decide) (by decide) q3 0 (i + 1) z4 d80) (fun q12 h12 => ?_)
    obtain ⟨m, hm, h12, hF12, hX12⟩ := h12
    exact h29 q12 m (by omega) h12 (fr_pt z5 hF12) (fun _ => z1) (fun j hf hj => Or.inl ⟨z3, m, (hX12 hf).2, hj⟩)
  have e : r = 0 := e
  have e5 : q3 = q := e5
  subst e e5
  rw [if_pos rfl]
  refine dOk_B (pr_takes 2 (by decide) h) (fun r4 q6 hr => ?_)
  rcases hr with ⟨e, z1, z2, z3, z4, z5⟩ | ⟨e, e5, y2⟩
  · have e : r4 = 1 := e
    subst e
    rw [if_neg (by decide)]
    exact h29 q6 (i + 1) (by omega) z4 z5 (fun _ => z1) (fun j _ hj => Or.inr ⟨Or.inl z3, hj⟩)
  have e : r4 = 0 := e
  have e5 : q6 = q3 := e5
  subst e e5
  rw [if_pos rfl]
  refine dOk_V (pr_must 3 (by decide) h) (fun q9 h9 => ?_)
  obtain ⟨m, hm, h9, hF9, hX9⟩ := h9
  refine h29 q9 m hm h9 hF9 (fun z => (hX9 z).1) (fun j hf hj => ?_)
  obtain ⟨_, rfl, z3⟩ := hX9 hf
  exact Or.inr ⟨Or.inr z3, hj⟩
theorem pr_order {n : Nat} {c v : Nat → Int32} {i : Nat} {q : dS} (h : PQ true n c v i q) : dOk (zX10_readOrder q) (fun Q => PR true n c v q i (gOrder (pC n c) (pV v) i) Q) := by
  have h41 : ∀ (q1 : dS) (m : Nat), i ≤ m → PQ true n c v m q1 → dFr [] [19, 20, 21] q q1 → (fn q1 → fn q) → (∀ j : Nat, fn q1 → gTimes (pC n c) (pV v) m j → gOrder (pC n c) (pV v) i j) → dOk (zX10_readOrder_41 q1) (fun Q => PR true n c v q i (gOrder (pC n c) (pV v) i) Q) := by
    intro q1 m him h1 hF1 hf1 hX
    unfold zX10_readOrder_41
    refine dOk_B (pr_takes 26 (by decide) h1) (fun r q3 hr => ?_)
    rcases hr with ⟨e, z1, z2, z3, z4, z5⟩ | ⟨e, e5, y1⟩
    · have e : r = 1 := e
      subst e
      rw [if_neg (by decide)]
      refine dOk_V (pr_number 1 20 z4) (fun q6 h6 => ?_)
      obtain ⟨m2, hm2, h6, hF6, hX6⟩ := h6
      refine dOk_mono (pr_ifO h6) (fun Q hQ => PR.bind (show i ≤ m2 by omega) (fr_pt hF1 (fr_pt z5 hF6)) (fun _ => hf1 z1) hQ (fun j hf hj => hX j z1 ?_))
      obtain ⟨_, rfl, w1, w2, w3⟩ := hX6 hf
      have d1 : (1 : Int32).toInt = 1 := by decide
      have d20 : (20 : Int32).toInt = 20 := by decide
      have z3 : pC n c m = 26 := z3
      exact Or.inl ⟨z3, w1, by omega, by omega, hj⟩
    · have e : r = 0 := e
      have e5 : q3 = q1 := e5
      subst e e5
      rw [if_pos rfl]
      exact dOk_mono (pr_ifO h1) (fun Q hQ => PR.bind him hF1 hf1 hQ (fun j hf hj => hX j hf (Or.inr ⟨y1 hf, hj⟩)))
  have h27 : ∀ q1 : dS, PQ true n c v (i + 1) q1 → dFr [] [19, 20, 21] q q1 → fn q → (pC n c i = 22 ∨ pC n c i = 23 ∨ pC n c i = 24) → dOk (zX10_readOrder_27 q1) (fun Q => PR true n c v q i (gOrder (pC n c) (pV v) i) Q) := by
    intro q1 h1 hF1 hfq hc
    unfold zX10_readOrder_27
    refine dOk_V (pr_sum 10 8 (by decide) (by decide) q1 0 (i + 1) h1 d80) (fun q12 h12 => ?_)
    obtain ⟨m, hm, h12, hF12, hX12⟩ := h12
    exact h41 q12 m (by omega) h12 (fr_pt hF1 hF12) (fun _ => hfq) (fun j hf hj => Or.inl ⟨hc, m, (hX12 hf).2, hj⟩)
  unfold zX10_readOrder
  refine dOk_B (pr_takes 22 (by decide) h) (fun r q3 hr => ?_)
  rcases hr with ⟨e, z1, z2, z3, z4, z5⟩ | ⟨e, e5, y1⟩
  · have e : r = 1 := e
    subst e
    rw [if_neg (by decide)]
    exact h27 q3 z4 z5 z1 (Or.inl z3)
  have e : r = 0 := e
  have e5 : q3 = q := e5
  subst e e5
  rw [if_pos rfl]
  refine dOk_B (pr_takes 23 (by decide) h) (fun r4 q6 hr => ?_)
  rcases hr with ⟨e, z1, z2, z3, z4, z5⟩ | ⟨e, e5, y2⟩
  · have e : r4 = 1 := e
    subst e
    rw [if_neg (by decide)]
    exact h27 q6 z4 z5 z1 (Or.inr (Or.inl z3))
  have e : r4 = 0 := e
  have e5 : q6 = q3 := e5
  subst e e5
  rw [if_pos rfl]
  refine dOk_B (pr_takes 24 (by decide) h) (fun r7 q9 hr => ?_)
  rcases hr with ⟨e, z1, z2, z3, z4, z5⟩ | ⟨e, e5, y2⟩
  · have e : r7 = 1 := e
    subst e
    rw [if_neg (by decide)]
    exact h27 q9 z4 z5 z1 (Or.inr (Or.inr z3))
  have e : r7 = 0 := e
  have e5 : q9 = q6 := e5
  subst e e5
  rw [if_pos rfl]
  refine dOk_V (pr_must 25 (by decide) h) (fun q12 h12 => ?_)
  obtain ⟨m, hm, h12, hF12, hX12⟩ := h12
  refine h41 q12 m hm h12 hF12 (fun z => (hX12 z).1) (fun j hf hj => ?_)
  obtain ⟨_, rfl, z3⟩ := hX12 hf
  exact Or.inr ⟨z3, hj⟩
theorem pr_one {o : Bool} {n : Nat} {c v : Nat → Int32} {i : Nat} {q : dS} (h : PQ o n c v i q) : dOk (zX10_readOne q) (fun Q => PR o n c v q i (gOne o (pC n c) (pV v) i) Q) := by
  have h10 := h.2.2.2.2.2.2.2.2.1
  unfold zX10_readOne zX10_readOne_18
  cases o with
  | false =>
    rw [if_pos (Int32.toInt_inj.mp h10)]
    exact dOk_V (pr_clause h) (fun q3 h3 => dOk_some h3)
  | true =>
    rw [if_neg (fun z => by rw [z] at h10; exact absurd h10 (by decide))]
    exact dOk_V (pr_order h) (fun q3 h3 => dOk_some h3)
/-- a text that was read -/
def TxtOk (o : Bool) (q : dS) : Prop := ∃ n : Nat, n ≤ 400 ∧ (q.1 0 18).toInt = (n : Int) ∧ gSeq (fun i => pC n (q.1 9) i = 159) (gOne o (pC n (q.1 9)) (pV (q.1 10))) 0 n
theorem fr_r {q q1 : dS} (h : dFr [] [19, 20, 21] q q1) : dFr [9, 10, 11] [13, 14, 18, 19, 20, 21] q q1 := h.w (by decide) (by decide)
theorem fr_rt {q q1 q2 : dS} (h : dFr [9, 10, 11] [13, 14, 18, 19, 20, 21] q q1) (h2 : dFr [] [19, 20, 21] q1 q2) : dFr [9, 10, 11] [13, 14, 18, 19, 20, 21] q q2 := h.t h2 (by decide) (by decide)
/-- the same, and nothing is on the tape any more -/
def rF (q x : dS) : Prop := dFr [9, 10, 11] [13, 14, 18, 19, 20, 21] q x ∧ x.1 0 13 = 0
theorem rF_rt {q q1 q2 : dS} (h : rF q q1) (h2 : dFr [] [19, 20, 21] q1 q2) : rF q q2 := ⟨fr_rt h.1 h2, (h2.2 13 (by decide)).trans h.2⟩
theorem rF_f {q q1 : dS} {k : Nat} {v : Int32} (h : rF q q1) (hk : k ∈ [14, 18, 19, 20, 21]) : rF q (dui q1 0 k v) := by
  refine ⟨h.1.f (List.mem_cons_of_mem _ hk), ?_⟩
  rw [dui_n (fun z => by rw [← z] at hk; exact absurd hk (by decide))]
  exact h.2
theorem ok_reads (o : Bool) (q : dS) (hT : TS q) (h10 : (q.1 0 10).toInt = bI o) (h8 : (q.1 0 8).toInt = loW o) (h9 : (q.1 0 9).toInt = hiW o) : dOk (zX10_reads q) (fun r => TS r.2 ∧ rF q r.2 ∧ (r.1.toInt = 0 ∨ (r.1.toInt = 1 ∧ TxtOk o r.2))) := by
  unfold zX10_reads
  have f13 : 0 ≤ Int32.toInt (q.1 0 13) ∧ Int32.toInt (q.1 0 13) ≤ 400 := hT.1 0 13
  refine dOk_V (ok_splits q (q.1 0 13) hT f13.1 f13.2) (fun q3 h3 => ?_)
  obtain ⟨hT3, hF3, t0, t1, t2⟩ := h3
  refine dOk_L (fun q4 e4 => dOk_L (fun q5 e5 => dOk_L (fun q6 e6 => dOk_L (fun q7 e7 => ?_))))
  have hT4 : TS q4 := by rw [e4]; exact ts_f hT3 (by decide) (by decide)
  have hT5 : TS q5 := by rw [e5]; exact ts_f hT4 (by decide) (by decide)
  have hT6 : TS q6 := by rw [e6]; exact ts_f hT5 (by decide) (by decide)
  have hT7 : TS q7 := by rw [e7]; exact ts_f hT6 (by decide) (by decide)
  have hF37 : rF q q7 := by
    refine ⟨?_, by rw [e7, dui_n (by decide), e6, dui_n (by decide), e5, dui_n (by decide), e4, dui_e]⟩
    rw [e7]; refine dFr.f ?_ (by decide)
    rw [e6]; refine dFr.f ?_ (by decide)
    rw [e5]; refine dFr.f ?_ (by decide)
    rw [e4]; refine dFr.f ?_ (by decide)
    exact hF3.w (by decide) (by decide)
  have fld : ∀ k : Nat, ¬ k = 13 → ¬ k = 19 → ¬ k = 20 → ¬ k = 21 → q7.1 0 k = q3.1 0 k := by
    intro k k1 k2 k3 k4
    rw [e7, dui_n k4, e6, dui_n k3, e5, dui_n k2, e4, dui_n k1]
  have row : ∀ j : Nat, ¬ j = 0 → q7.1 j = q3.1 j := by
    intro j hj
    rw [e7, dui_o hj, e6, dui_o hj, e5, dui_o hj, e4, dui_o hj]
  obtain ⟨n, hn⟩ : ∃ n : Nat, (n : Int) = Int32.toInt (q3.1 0 18) := ⟨(Int32.toInt (q3.1 0 18)).toNat, by omega⟩
  have hcl : Int32.toNatClampNeg (q3.1 0 18) = n := by
    have := cl_eq (i := q3.1 0 18) t0
    omega
  rw [hcl] at t2
  have g19 : Int32.toInt (q7.1 0 19) = 0 := by rw [e7, dui_n (by decide), e6, dui_n (by decide), e5, dui_e]; decide
  have hPQ : PQ o n (q7.1 9) (q7.1 10) 0 q7 := by
    refine ⟨hT7, rfl, rfl, ?_, by omega, ?_, ?_, Nat.zero_le n, ?_, ?_, ?_⟩
    · rw [fld 18 (by decide) (by decide) (by decide) (by decide)]; omega
    · rw [row 9 (by decide)]; exact t2
    · rw [g19]; rfl
    · rw [fld 10 (by decide) (by decide) (by decide) (by decide), hF3.2 10 (by decide)]; exact h10
    · rw [fld 8 (by decide) (by decide) (by decide) (by decide), hF3.2 8 (by decide)]; exact h8
    · rw [fld 9 (by decide) (by decide) (by decide) (by decide), hF3.2 9 (by decide)]; exact h9
  generalize hc : q7.1 9 = c at hPQ
  generalize hv : q7.1 10 = v at hPQ
  refine dOk_V (pr_one hPQ) (fun q10 h10' => ?_)
  obtain ⟨m0, hm0, h10', hF10, hX10⟩ := h10'
  have h95 : ∀ (q1 : dS) (m : Nat), PQ o n c v m q1 → rF q q1 → (fn q1 → gSeq (fun i => pC n c i = 159) (gOne o (pC n c) (pV v)) 0 n) → dOk (zX10_reads_95 q1) (fun r => TS r.2 ∧ rF q r.2 ∧ (r.1.toInt = 0 ∨ (r.1.toInt = 1 ∧ TxtOk o r.2))) := by
    intro q1 m h1 hF1 hX1
    unfold zX10_reads_95
    refine dOk_L (fun q2 e2 => ?_)
    have hT2 : TS q2 := by rw [e2]; exact ts_f h1.1 (ti_rg _).1 (ti_rg _).2
    have hF2 : rF q q2 := by rw [e2]; exact rF_f hF1 (by decide)
    refine dOk_B (pr_fine q2) (fun r q4 hr => ?_)
    obtain ⟨e3, hr⟩ := hr
    have e3 : q4 = q2 := e3
    subst e3
    rcases hr with ⟨e, hf⟩ | ⟨e, hf⟩
    · have e : r = 1 := e
      subst e
      refine dOk_G (by decide) (dOk_some ⟨hT2, hF2, Or.inr ⟨by show Int32.toInt 1 = 1; decide, ?_⟩⟩)
      show TxtOk o q4
      have hf1 : fn q1 := by
        unfold fn at *
        rw [e2, dui_n (by decide)] at hf
        exact hf
      refine ⟨n, h1.2.2.2.2.1, ?_, ?_⟩
      · rw [e2, dui_n (by decide)]; exact h1.2.2.2.1
      · rw [e2, dui_o (by decide), dui_o (by decide), h1.2.1, h1.2.2.1]; exact hX1 hf1
    · have e : r = 0 := e
      subst e
      exact dOk_G (by decide) (dOk_some ⟨hT2, hF2, Or.inl (by show Int32.toInt 0 = 0; decide)⟩)
  unfold zX10_reads_34
  refine dFix_ok (fun (a : dS × Int32) => ∃ m : Nat, PQ o n c v m a.1 ∧ rF q a.1 ∧ (fn a.1 → ∀ j : Nat, ((¬ pC n c m = 159 ∧ j = m) ∨ (pC n c m = 159 ∧ gSeq (fun i => pC n c i = 159) (gOne o (pC n c) (pV v)) (m + 1) j)) → gSeq (fun i => pC n c i = 159) (gOne o (pC n c) (pV v)) 0 j)) (fun (a : dS × Int32) => (401 - Int32.toInt (a.1.1 0 19)).toNat) ?_ _ ⟨m0, h10', rF_rt hF37 hF10, fun z j hj => gSeq_cons (hX10 z).2 hj⟩ _ (dF_gt ?_)
  · intro a ha k hk
    obtain ⟨qa, x1⟩ := a
    obtain ⟨m, h, hF, hX⟩ := ha
    replace h : PQ o n c v m qa := h
    replace hF : rF q qa := hF
    replace hX : fn qa → ∀ j : Nat, ((¬ pC n c m = 159 ∧ j = m) ∨ (pC n c m = 159 ∧ gSeq (fun i => pC n c i = 159) (gOne o (pC n c) (pV v)) (m + 1) j)) → gSeq (fun i => pC n c i = 159) (gOne o (pC n c) (pV v)) 0 j := hX
    have h19 := h.2.2.2.2.2.2.1
    have hmn := h.2.2.2.2.2.2.2.1
    have hn400 := h.2.2.2.2.1
    show dOk (zX10_reads_34b (fun q x1 => k (q, x1)) qa x1) _
    unfold zX10_reads_34b
    refine dOk_V (sg 59 (by decide) (by decide)) (fun r1 hr1 => ?_)
    have hr1 : r1.toInt = 159 := hr1
    refine dOk_B (pr_takes r1 (by omega) h) (fun r3 q5 hr => ?_)
    rcases hr with ⟨e, z1, z2, z3, z4, z5⟩ | ⟨e, e5, y1⟩
    · have e : r3 = 1 := e
      subst e
      rw [if_neg (by decide)]
      have h56 : ∀ q6 : dS, PQ o n c v (m + 1) q6 → dFr [] [19, 20, 21] qa q6 → dOk (zX10_reads_56 (fun q x1 => k (q, x1)) q6 x1) (fun r => TS r.2 ∧ rF q r.2 ∧ (r.1.toInt = 0 ∨ (r.1.toInt = 1 ∧ TxtOk o r.2))) := by
        intro q6 h6 hF6
        unfold zX10_reads_56 zX10_reads_67
        have h19' := h6.2.2.2.2.2.2.1
        have hn' := h6.2.2.2.2.2.2.2.1
        refine dOk_B (pr_fine q6) (fun r q7 hr => ?_)
        obtain ⟨e3, hr⟩ := hr
        have e3 : q7 = q6 := e3
        subst e3
        rcases hr with ⟨e, hf⟩ | ⟨e, hf⟩
        · have e : r = 1 := e
          subst e
          rw [if_neg (by decide)]
          refine dOk_V (pr_one h6) (fun q8 h8' => ?_)
          obtain ⟨m', hm', h8', hF8, hX8⟩ := h8'
          have h19'' := h8'.2.2.2.2.2.2.1
          have hn'' := h8'.2.2.2.2.2.2.2.1
          refine hk (q8, x1 + 1) ⟨m', h8', rF_rt (rF_rt hF hF6) hF8, fun z j hj => hX z1 j (Or.inr ⟨by omega, gSeq_cons (hX8 z).2 hj⟩)⟩ ?_
          show (401 - Int32.toInt (q8.1 0 19)).toNat < (401 - Int32.toInt (qa.1 0 19)).toNat
          omega
        · have e : r = 0 := e
          subst e
          rw [if_pos rfl]
          refine hk (q7, x1 + 1) ⟨m + 1, h6, rF_rt hF hF6, fun z => absurd z hf⟩ ?_
          show (401 - Int32.toInt (q7.1 0 19)).toNat < (401 - Int32.toInt (qa.1 0 19)).toNat
          omega
      refine dOk_eq rfl rfl (fun _ _ => ?_) (fun _ _ => h56 q5 z4 z5)
      exact dOk_V (pr_faults z4) (fun q14 h14 => h56 q14 h14.1 (fr_pt z5 h14.2.1))
    · have e : r3 = 0 := e
      have e5 : q5 = qa := e5
      subst e e5
      rw [if_pos rfl]
      refine dOk_B (pr_fine q5) (fun r q8 hr => ?_)
      obtain ⟨e3, hr⟩ := hr
      have e3 : q8 = q5 := e3
      subst e3
      rcases hr with ⟨e, hf⟩ | ⟨e, hf⟩
      · have e : r = 1 := e
        subst e
        rw [if_neg (by decide)]
        refine dOk_le h.2.2.2.1 h19 (fun z => ?_) (fun z => ?_)
        · refine h95 q8 m h hF (fun z2 => hX z2 n (Or.inl ⟨?_, by omega⟩))
          have := y1 z2
          omega
        · exact dOk_V (pr_faults h) (fun q11 h11 => h95 q11 m h11.1 (rF_rt hF h11.2.1) (fun z2 => absurd z2 h11.2.2))
      · have e : r = 0 := e
        subst e
        rw [if_pos rfl]
        exact h95 q8 m h hF (fun z2 => absurd z2 hf)
  · have := h10'.2.2.2.2.2.2.1
    show (401 - Int32.toInt (q10.1 0 19)).toNat < 1000000000000
    omega
end
section
/-! the grammar moved along -/
theorem gEnd_sh {op op' : Nat → Prop} {X X' : Nat → Nat → Prop} {s : Nat} (ho : ∀ i : Nat, op i ↔ op' (s + i)) (hX : ∀ i j : Nat, X i j → X' (s + i) (s + j)) : ∀ n i j : Nat, gEnd op X n i j → gEnd op' X' n (s + i) (s + j) := by
  intro n
  induction n with
  | zero => intro i j h; exact ⟨hX i j h.1, fun z => h.2 ((ho j).mpr z)⟩
  | succ n ih =>
    intro i j h
    obtain ⟨m, h1, h2, h3⟩ := h
    exact ⟨s + m, hX i m h1, (ho m).mp h2, ih (m + 1) j h3⟩
theorem gSeq_sh {op op' : Nat → Prop} {X X' : Nat → Nat → Prop} {s : Nat} (ho : ∀ i : Nat, op i ↔ op' (s + i)) (hX : ∀ i j : Nat, X i j → X' (s + i) (s + j)) {i j : Nat} (h : gSeq op X i j) : gSeq op' X' (s + i) (s + j) := by
  obtain ⟨n, h⟩ := h
  exact ⟨n, gEnd_sh ho hX n i j h⟩
section SH
variable {C V C' V' : Nat → Int} {s : Nat} (hC : ∀ i : Nat, C' (s + i) = C i) (hV : ∀ i : Nat, ¬ C i = 0 → V' (s + i) = V i)
theorem gLeaf_sh (hC : ∀ i : Nat, C' (s + i) = C i) (hV : ∀ i : Nat, ¬ C i = 0 → V' (s + i) = V i) {o : Bool} {i j : Nat} (h : gLeaf o C V i j) : gLeaf o C' V' (s + i) (s + j) := by
  have h1 := hC i
  have h2 := hC (i + 1)
  cases o with
  | false =>
    have h : gLeafL C i j := h
    show gLeafL C' (s + i) (s + j)
    unfold gLeafL at *
    omega
  | true =>
    have h : gLeafO C V i j := h
    show gLeafO C' V' (s + i) (s + j)
    unfold gLeafO at *
    rcases h with h | ⟨h3, h4, h5, h6, h7⟩
    · exact Or.inl ⟨by omega, by omega⟩
    · have h8 := hV (i + 1) (by omega)
      have e : s + i + 1 = s + (i + 1) := by omega
      rw [e]
      exact Or.inr ⟨by omega, by omega, by omega, by omega, by omega⟩
theorem gMul_sh (hC : ∀ i : Nat, C' (s + i) = C i) (i : Nat) : gMul C i ↔ gMul C' (s + i) := by unfold gMul; rw [hC i]
theorem gAdd_sh (hC : ∀ i : Nat, C' (s + i) = C i) (i : Nat) : gAdd C i ↔ gAdd C' (s + i) := by unfold gAdd; rw [hC i]
theorem gPart_sh (hC : ∀ i : Nat, C' (s + i) = C i) (hV : ∀ i : Nat, ¬ C i = 0 → V' (s + i) = V i) {o : Bool} : ∀ d i j : Nat, gPart o C V d i j → gPart o C' V' d (s + i) (s + j) := by
  intro d
  induction d with
  | zero => intro i j h; exact gLeaf_sh hC hV h
  | succ d ih =>
    intro i j h
    rcases h with h | ⟨h1, m, h2, h3, rfl⟩
    · exact Or.inl (gLeaf_sh hC hV h)
    · refine Or.inr ⟨by rw [hC i]; exact h1, s + m, ?_, by rw [hC m]; exact h3, by omega⟩
      exact gSeq_sh (gAdd_sh hC) (fun i j h => gSeq_sh (gMul_sh hC) ih h) h2
theorem gSum_sh (hC : ∀ i : Nat, C' (s + i) = C i) (hV : ∀ i : Nat, ¬ C i = 0 → V' (s + i) = V i) {o : Bool} {d i j : Nat} (h : gSum o C V d i j) : gSum o C' V' d (s + i) (s + j) := gSeq_sh (gAdd_sh hC) (fun _ _ h => gSeq_sh (gMul_sh hC) (gPart_sh hC hV d) h) h
theorem gNots_sh (hC : ∀ i : Nat, C' (s + i) = C i) {i m : Nat} (h : gNots C i m) : gNots C' (s + i) (s + m) := by
  refine ⟨fun a h1 h2 => ?_, by have := h.2.1; omega, by rw [hC m]; exact h.2.2⟩
  have e : a = s + (a - s) := by omega
  rw [e, hC]
  exact h.1 (a - s) (by omega) (by omega)
theorem gCmp_sh (hC : ∀ i : Nat, C' (s + i) = C i) (hV : ∀ i : Nat, ¬ C i = 0 → V' (s + i) = V i) {o : Bool} {d m j : Nat} (h : gCmp o C V d m j) : gCmp o C' V' d (s + m) (s + j) := by
  obtain ⟨h1, n, h2, h3, h4⟩ := h
  exact ⟨by rw [hC m]; exact h1, s + n, gSum_sh hC hV h2, by rw [hC n]; exact h3, gSum_sh hC hV h4⟩
theorem c_sh (hC : ∀ i : Nat, C' (s + i) = C i) (x : Int) (i : Nat) : C i = x ↔ C' (s + i) = x := by rw [hC i]
theorem gPlain_sh (hC : ∀ i : Nat, C' (s + i) = C i) (hV : ∀ i : Nat, ¬ C i = 0 → V' (s + i) = V i) {o : Bool} : ∀ d i j : Nat, gPlain o C V d i j → gPlain o C' V' d (s + i) (s + j) := by
  intro d
  induction d with
  | zero =>
    intro i j h
    obtain ⟨m, h1, h2⟩ := h
    exact ⟨s + m, gNots_sh hC h1, gCmp_sh hC hV h2⟩
  | succ d ih =>
    intro i j h
    obtain ⟨m, h1, h2⟩ := h
    refine ⟨s + m, gNots_sh hC h1, ?_⟩
    rcases h2 with h2 | ⟨h2, n, h3, h4, rfl⟩
    · exact Or.inl (gCmp_sh hC hV h2)
    · exact Or.inr ⟨by rw [hC m]; exact h2, s + n, gSeq_sh (c_sh hC 5) (fun i j h => gSeq_sh (c_sh hC 6) ih h) h3, by rw [hC n]; exact h4, by omega⟩
theorem gTest_sh (hC : ∀ i : Nat, C' (s + i) = C i) (hV : ∀ i : Nat, ¬ C i = 0 → V' (s + i) = V i) {o : Bool} {d i j : Nat} (h : gTest o C V d i j) : gTest o C' V' d (s + i) (s + j) := gSeq_sh (c_sh hC 5) (fun _ _ h => gSeq_sh (c_sh hC 6) (gPlain_sh hC hV d) h) h
theorem gIf_sh (hC : ∀ i : Nat, C' (s + i) = C i) (hV : ∀ i : Nat, ¬ C i = 0 → V' (s + i) = V i) {o : Bool} {m j : Nat} (h : gIf o C V m j) : gIf o C' V' (s + m) (s + j) := by
  rcases h with ⟨h1, h2⟩ | ⟨h1, rfl⟩
  · exact Or.inl ⟨by rw [hC m]; exact h1, gTest_sh hC hV h2⟩
  · exact Or.inr ⟨by rw [hC]; exact h1, rfl⟩
theorem gClause_sh (hC : ∀ i : Nat, C' (s + i) = C i) (hV : ∀ i : Nat, ¬ C i = 0 → V' (s + i) = V i) {i j : Nat} (h : gClause C V i j) : gClause C' V' (s + i) (s + j) := by
  rcases h with ⟨h1, m, h2, h3⟩ | ⟨h1, h2⟩
  · exact Or.inl ⟨by rw [hC i]; exact h1, s + m, gSum_sh hC hV h2, gIf_sh hC hV h3⟩
  · exact Or.inr ⟨by rw [hC i]; exact h1, gIf_sh hC hV h2⟩
theorem gTimes_sh (hC : ∀ i : Nat, C' (s + i) = C i) (hV : ∀ i : Nat, ¬ C i = 0 → V' (s + i) = V i) {m j : Nat} (h : gTimes C V m j) : gTimes C' V' (s + m) (s + j) := by
  rcases h with ⟨h1, h2, h3, h4, h5⟩ | ⟨h1, h2⟩
  · have h6 := hV (m + 1) (by omega)
    have h7 := hC (m + 1)
    have e : s + m + 1 = s + (m + 1) := by omega
    refine Or.inl ⟨by rw [hC m]; exact h1, ?_, ?_, ?_, gIf_sh hC hV h5⟩
    · rw [e]; omega
    · rw [e]; omega
    · rw [e]; omega
  · exact Or.inr ⟨by rw [hC m]; exact h1, gIf_sh hC hV h2⟩
theorem gOrder_sh (hC : ∀ i : Nat, C' (s + i) = C i) (hV : ∀ i : Nat, ¬ C i = 0 → V' (s + i) = V i) {i j : Nat} (h : gOrder C V i j) : gOrder C' V' (s + i) (s + j) := by
  rcases h with ⟨h1, m, h2, h3⟩ | ⟨h1, h2⟩
  · exact Or.inl ⟨by rw [hC i]; exact h1, s + m, gSum_sh hC hV h2, gTimes_sh hC hV h3⟩
  · exact Or.inr ⟨by rw [hC i]; exact h1, gTimes_sh hC hV h2⟩
end SH
/-- a text that is not among the laws is written: the laws stay -/
theorem KR_write {f : Nat → Int32} {i t : Nat} {v : Int32} (h : KR f) (h31 : 0 ≤ (f 31).toInt ∧ (f 31).toInt ≤ (t : Int)) (ht : t ≤ 6) (hs : ∀ u : Nat, u < 6 → (f (33 + u)).toInt ≤ 400) (hi : i = 33 + t ∨ (40 + 400 * t ≤ i ∧ i < 2840) ∨ 2840 + 400 * t ≤ i) : KR (upd f i v) := by
  have e31 : upd f i v 31 = f 31 := if_neg (by omega)
  have e32 : upd f i v 32 = f 32 := if_neg (by omega)
  refine ⟨by rw [e31, e32]; exact h.1, fun u hu hu2 => ?_⟩
  rw [e31] at hu2
  have h2 := h.2 u hu hu2
  have e33 : upd f i v (33 + u) = f (33 + u) := if_neg (by omega)
  have eE : lawE (upd f i v) u = lawE f u := by unfold lawE; rw [e33]
  have hE : lawE f u ≤ 400 * u + 400 := by have := hs u hu; unfold lawE; omega
  unfold LawOk at *
  rw [eE]
  have hC : ∀ a : Nat, lawC (upd f i v) (lawE f u) (0 + a) = lawC f (lawE f u) a := by
    intro a
    rw [Nat.zero_add]
    unfold lawC
    by_cases z : a < lawE f u
    · rw [if_pos z, if_pos z, show upd f i v (40 + a) = f (40 + a) from if_neg (by omega)]
    · rw [if_neg z, if_neg z]
  have hV : ∀ a : Nat, ¬ lawC f (lawE f u) a = 0 → lawV (upd f i v) (0 + a) = lawV f a := by
    intro a ha
    have := lawC_in ha
    rw [Nat.zero_add]
    unfold lawV
    rw [show upd f i v (2840 + a) = f (2840 + a) from if_neg (by omega)]
  have h3 := gSeq_sh (s := 0) (op' := fun i' => lawC (upd f i v) (lawE f u) i' = 159) (X' := gClause (lawC (upd f i v) (lawE f u)) (lawV (upd f i v))) (fun a => c_sh hC 159 a) (fun a b => gClause_sh hC hV) h2
  rw [Nat.zero_add, Nat.zero_add] at h3
  exact h3
/-- a store to a text that is not among the laws -/
theorem ts_txt {q : dS} {i t : Nat} {v : Int32} (h : TS q) (h31 : (q.1 2 31).toInt ≤ (t : Int)) (ht : t ≤ 6) (hi : (i = 33 + t ∧ 0 ≤ v.toInt ∧ v.toInt ≤ 400) ∨ (40 + 400 * t ≤ i ∧ i < 2840) ∨ 2840 + 400 * t ≤ i) : TS (dui q 2 i v) := by
  have f31 := te_k h 31
  have e31 : klo 31 = 0 := by decide
  have hv := ti_rg v
  refine ⟨te_set h.1 (by show klo i ≤ _; unfold klo; omega) (by show _ ≤ khi i; unfold khi; omega), ?_, ?_, ?_⟩
  · rw [dui_s]
    refine KR_write h.2.1 ⟨by omega, h31⟩ ht (fun u hu => (te_2z h (by omega) (by omega)).2) (by omega)
  · rw [dui_o (by decide), dui_o (by decide)]; exact h.2.2.1
  · rw [dui_o (by decide)]; exact h.2.2.2
theorem ok_lays (q : dS) (p1 : Int32) (t n : Nat) (hT : TS q) (hp : p1.toInt = (t : Int)) (ht : t ≤ 6) (h31 : (q.1 2 31).toInt ≤ (t : Int)) (hn : (q.1 0 18).toInt = (n : Int)) (hn4 : n ≤ 400) : dOk (zX10_lays q p1) (fun Q => TS Q ∧ dFr [2] [] q Q ∧ (∀ i : Nat, i < 33 → Q.1 2 i = q.1 2 i) ∧ Q.1 2 (33 + t) = q.1 0 18 ∧ (∀ k : Nat, k < n → Q.1 2 (40 + 400 * t + k) = q.1 9 k ∧ Q.1 2 (2840 + 400 * t + k) = q.1 10 k)) := by
  unfold zX10_lays
  have t1 : Int32.toInt (33 + p1) = 33 + (t : Int) := ti_add (by decide) hp (by omega) (by omega)
  have n1 : Int32.toNatClampNeg (33 + p1) = 33 + t := by
    have := cl_eq (i := 33 + p1) (by omega)
    omega
  refine dOk_G (dg_ok (by omega) (by omega)) (dOk_L (fun q2 e2 => ?_))
  rw [n1] at e2
  have hT2 : TS q2 := by rw [e2]; exact ts_txt hT h31 ht (Or.inl ⟨rfl, by omega, by omega⟩)
  have hF2 : dFr [2] [] q q2 := by rw [e2]; exact dFr.rf.i (by decide) (by decide)
  have a2 : ∀ i : Nat, i < 33 → q2.1 2 i = q.1 2 i := fun i hi => by rw [e2, dui_n (by omega)]
  have b2 : q2.1 2 (33 + t) = q.1 0 18 := by rw [e2, dui_e]
  unfold zX10_lays_15
  refine dFix_ok (fun (a : dS × Int32 × Int32) => TS a.1 ∧ dFr [2] [] q a.1 ∧ a.2.1 = p1 ∧ (∀ i : Nat, i < 33 → a.1.1 2 i = q.1 2 i) ∧ a.1.1 2 (33 + t) = q.1 0 18 ∧ ∃ k : Nat, k ≤ n ∧ a.2.2 = nI k ∧ ∀ l : Nat, l < k → a.1.1 2 (40 + 400 * t + l) = q.1 9 l ∧ a.1.1 2 (2840 + 400 * t + l) = q.1 10 l) (fun (a : dS × Int32 × Int32) => (400 - Int32.toInt a.2.2).toNat) ?_ _ ⟨hT2, hF2, rfl, a2, b2, 0, by omega, rfl, fun l hl => by omega⟩ _ (dF_gt (by show (400 - Int32.toInt 0).toNat < 1000000000000; decide))
  intro a ha k hk
  obtain ⟨qa, x1, x2⟩ := a
  obtain ⟨hT, hF, ex, ha1, ha2, m, hm, em, hc⟩ := ha
  replace hT : TS qa := hT
  replace hF : dFr [2] [] q qa := hF
  replace ex : x1 = p1 := ex
  replace em : x2 = nI m := em
  replace ha1 : ∀ i : Nat, i < 33 → qa.1 2 i = q.1 2 i := ha1
  replace ha2 : qa.1 2 (33 + t) = q.1 0 18 := ha2
  replace hc : ∀ l : Nat, l < m → qa.1 2 (40 + 400 * t + l) = q.1 9 l ∧ qa.1 2 (2840 + 400 * t + l) = q.1 10 l := hc
  subst ex em
  have w18 : qa.1 0 18 = q.1 0 18 := hF.2 18 (by decide)
  have w9 : qa.1 9 = q.1 9 := hF.1 9 (by decide) (by decide)
  have w10 : qa.1 10 = q.1 10 := hF.1 10 (by decide) (by decide)
  have w31 : (qa.1 2 31).toInt ≤ (t : Int) := by rw [ha1 31 (by decide)]; exact h31
  have tm : Int32.toInt (nI m) = (m : Int) := nI_toInt (by omega)
  show dOk (zX10_lays_15b (fun q x1 x2 => k (q, x1, x2)) qa x1 (nI m)) _
  unfold zX10_lays_15b
  refine dOk_le (A := (n : Int)) (B := (m : Int)) (by rw [w18]; exact hn) tm (fun c => ?_) (fun c => ?_)
  · have e : m = n := by omega
    subst e
    exact dOk_some ⟨hT, hF, ha1, ha2, hc⟩
  have nm : Int32.toNatClampNeg (nI m) = m := nI_clamp (by omega)
  have t2 : Int32.toInt (400 * x1) = 400 * (t : Int) := ti_mul (by decide) hp (by omega) (by omega)
  have t3 : Int32.toInt (40 + 400 * x1) = 40 + 400 * (t : Int) := ti_add (by decide) t2 (by omega) (by omega)
  have t4 : Int32.toInt (40 + 400 * x1 + nI m) = 40 + 400 * (t : Int) + m := ti_add t3 tm (by omega) (by omega)
  have t5 : Int32.toInt (2840 + 400 * x1) = 2840 + 400 * (t : Int) := ti_add (by decide) t2 (by omega) (by omega)
  have t6 : Int32.toInt (2840 + 400 * x1 + nI m) = 2840 + 400 * (t : Int) + m := ti_add t5 tm (by omega) (by omega)
  have n4 : Int32.toNatClampNeg (40 + 400 * x1 + nI m) = 40 + 400 * t + m := by
    have := cl_eq (i := 40 + 400 * x1 + nI m) (by omega)
    omega
  have n6 : Int32.toNatClampNeg (2840 + 400 * x1 + nI m) = 2840 + 400 * t + m := by
    have := cl_eq (i := 2840 + 400 * x1 + nI m) (by omega)
    omega
  refine dOk_G (dg_ok (by omega) (by omega)) (dOk_L (fun v2 ev2 => dOk_G (dg_ok (by omega) (by omega)) (dOk_L (fun q4 e4 => dOk_G (dg_ok (by omega) (by omega)) (dOk_L (fun v6 ev6 => dOk_G (dg_ok (by omega) (by omega)) (dOk_L (fun q8 e8 => ?_))))))))
  rw [n4] at e4
  rw [n6] at e8
  rw [nm] at ev2 ev6
  have w4 : q4.1 10 = q.1 10 := by rw [e4, dui_o (by decide)]; exact w10
  have hT4 : TS q4 := by rw [e4]; exact ts_txt hT w31 ht (Or.inr (Or.inl ⟨by omega, by omega⟩))
  have w431 : (q4.1 2 31).toInt ≤ (t : Int) := by rw [e4, dui_n (by omega)]; exact w31
  have hT8 : TS q8 := by rw [e8]; exact ts_txt hT4 w431 ht (Or.inr (Or.inr (by omega)))
  have rd : ∀ i : Nat, ¬ i = 40 + 400 * t + m → ¬ i = 2840 + 400 * t + m → q8.1 2 i = qa.1 2 i := by
    intro i h1 h2
    rw [e8, dui_n h2, e4, dui_n h1]
  have tm1 : Int32.toInt (nI m + 1) = (m : Int) + 1 := ti_add tm (by decide) (by omega) (by omega)
  refine hk (q8, x1, nI m + 1) ⟨hT8, ?_, rfl, ?_, ?_, m + 1, by omega, nI_1 m, ?_⟩ ?_
  · show dFr [2] [] q q8
    rw [e8]; refine dFr.i ?_ (by decide) (by decide)
    rw [e4]; exact hF.i (by decide) (by decide)
  · show ∀ i : Nat, i < 33 → q8.1 2 i = q.1 2 i
    intro i hi
    rw [rd i (by omega) (by omega)]; exact ha1 i hi
  · show q8.1 2 (33 + t) = q.1 0 18
    rw [rd (33 + t) (by omega) (by omega)]; exact ha2
  · show ∀ l : Nat, l < m + 1 → q8.1 2 (40 + 400 * t + l) = q.1 9 l ∧ q8.1 2 (2840 + 400 * t + l) = q.1 10 l
    intro l hl
    rcases Nat.lt_or_ge l m with z | z
    · rw [rd (40 + 400 * t + l) (by omega) (by omega), rd (2840 + 400 * t + l) (by omega) (by omega)]
      exact hc l z
    · have : l = m := by omega
      subst this
      constructor
      · rw [e8, dui_n (by omega), e4, dui_e, ev2, w9]
      · rw [e8, dui_e, ev6, w4]
  · show (400 - Int32.toInt (nI m + 1)).toNat < (400 - Int32.toInt (nI m)).toNat
    omega
end
section
def aF (q x : dS) : Prop := dFr [9, 10, 11] [8, 9, 10, 13, 14, 18, 19, 20, 21] q x ∧ x.1 0 13 = 0
theorem ok_readsAs (o : Bool) (q : dS) (p1 : Int32) (hT : TS q) (hp : p1.toInt = bI o) : dOk (zX10_readsAs q p1) (fun r => TS r.2 ∧ aF q r.2 ∧ (r.1.toInt = 0 ∨ (r.1.toInt = 1 ∧ TxtOk o r.2))) := by
  have hb : p1.toInt = 0 ∨ p1.toInt = 1 := by
    cases o with
    | false => exact Or.inl hp
    | true => exact Or.inr hp
  have h32 : ∀ (q1 : dS) (y : Int32), TS q1 → dFr [9, 10, 11] [8, 9, 10, 13, 14, 18, 19, 20, 21] q q1 → (q1.1 0 10).toInt = bI o → (q1.1 0 8).toInt = loW o → y.toInt = hiW o → dOk (zX10_readsAs_32 q1 y) (fun r => TS r.2 ∧ aF q r.2 ∧ (r.1.toInt = 0 ∨ (r.1.toInt = 1 ∧ TxtOk o r.2))) := by
    intro q1 y hT1 hF1 h10 h8 hy
    unfold zX10_readsAs_32
    refine dOk_L (fun q2 e2 => ?_)
    have hT2 : TS q2 := by rw [e2]; exact ts_f hT1 (ti_rg _).1 (ti_rg _).2
    have hF2 : dFr [9, 10, 11] [8, 9, 10, 13, 14, 18, 19, 20, 21] q q2 := by rw [e2]; exact hF1.f (by decide)
    refine dOk_B (ok_reads o q2 hT2 (by rw [e2, dui_n (by decide)]; exact h10) (by rw [e2, dui_n (by decide)]; exact h8) (by rw [e2, dui_e]; exact hy)) (fun r q4 hr => ?_)
    obtain ⟨hT4, hF4, hr4⟩ := hr
    have hr4 : r.toInt = 0 ∨ (r.toInt = 1 ∧ TxtOk o q4) := hr4
    refine dOk_G (dbl_ok (by rcases hr4 with z | z; exact Or.inl z; exact Or.inr z.1)) (dOk_some ⟨hT4, ⟨hF2.t hF4.1 (by decide) (by decide), hF4.2⟩, hr4⟩)
  unfold zX10_readsAs
  refine dOk_G (dbl_ok hb) (dOk_L (fun q2 e2 => ?_))
  have hT2 : TS q2 := by rw [e2]; exact ts_f hT (show 0 ≤ p1.toInt by omega) (show p1.toInt ≤ 1 by omega)
  have hF2 : dFr [9, 10, 11] [8, 9, 10, 13, 14, 18, 19, 20, 21] q q2 := by rw [e2]; exact dFr.rf.f (by decide)
  have g10 : (q2.1 0 10).toInt = bI o := by rw [e2, dui_e]; exact hp
  unfold zX10_readsAs_17
  cases o with
  | false =>
    have e0 : p1 = 0 := Int32.toInt_inj.mp hp
    rw [if_pos e0]
    refine dOk_L (fun q3 e3 => ?_)
    rw [if_pos e0]
    refine h32 q3 16 ?_ ?_ ?_ ?_ (by decide)
    · rw [e3]; exact ts_f hT2 (ti_rg _).1 (ti_rg _).2
    · rw [e3]; exact hF2.f (by decide)
    · rw [e3, dui_n (by decide)]; exact g10
    · rw [e3, dui_e]; decide
  | true =>
    have e0 : ¬ p1 = 0 := fun z => by rw [z] at hp; exact absurd hp (by decide)
    rw [if_neg e0]
    refine dOk_L (fun q3 e3 => ?_)
    rw [if_neg e0]
    refine h32 q3 21 ?_ ?_ ?_ ?_ (by decide)
    · rw [e3]; exact ts_f hT2 (ti_rg _).1 (ti_rg _).2
    · rw [e3]; exact hF2.f (by decide)
    · rw [e3, dui_n (by decide)]; exact g10
    · rw [e3, dui_e]; decide
/-- what was read, laid as text t: in the grammar there -/
theorem txt_laid {o : Bool} {q Q : dS} {t : Nat} (h : TxtOk o q) (hs : Q.1 2 (33 + t) = q.1 0 18) (hc : ∀ n : Nat, (q.1 0 18).toInt = (n : Int) → ∀ k : Nat, k < n → Q.1 2 (40 + 400 * t + k) = q.1 9 k ∧ Q.1 2 (2840 + 400 * t + k) = q.1 10 k) : gSeq (fun i => lawC (Q.1 2) (lawE (Q.1 2) t) i = 159) (gOne o (lawC (Q.1 2) (lawE (Q.1 2) t)) (lawV (Q.1 2))) (400 * t) (lawE (Q.1 2) t) := by
  obtain ⟨n, hn, e18, hg⟩ := h
  have eE : lawE (Q.1 2) t = 400 * t + n := by unfold lawE; rw [hs]; omega
  have hC : ∀ a : Nat, lawC (Q.1 2) (lawE (Q.1 2) t) (400 * t + a) = pC n (q.1 9) a := by
    intro a
    rw [eE]
    unfold lawC pC
    by_cases z : a < n
    · rw [if_pos (by omega), if_pos z, ← Nat.add_assoc, (hc n e18 a z).1]
    · rw [if_neg (by omega), if_neg z]
  have hV : ∀ a : Nat, ¬ pC n (q.1 9) a = 0 → lawV (Q.1 2) (400 * t + a) = pV (q.1 10) a := by
    intro a ha
    have := pC_in ha
    unfold lawV pV
    rw [← Nat.add_assoc, (hc n e18 a this).2]
  have h3 := gSeq_sh (s := 400 * t) (op' := fun i' => lawC (Q.1 2) (lawE (Q.1 2) t) i' = 159) (X' := gOne o (lawC (Q.1 2) (lawE (Q.1 2) t)) (lawV (Q.1 2))) (fun a => c_sh hC 159 a) (fun a b hab => by
    cases o with
    | false => exact gClause_sh hC hV hab
    | true => exact gOrder_sh hC hV hab) hg
  rw [Nat.add_zero, ← eE] at h3
  exact h3
/-- slips, and how many were seen, stay -/
def KB (q o : dS) : Prop := o.1 2 30 = q.1 2 30 ∧ o.1 2 26 = q.1 2 26
theorem kb_row {q o : dS} (h : o.1 2 = q.1 2) : KB q o := by unfold KB; rw [h]; exact ⟨rfl, rfl⟩
theorem KB.t {q q2 o : dS} (h : KB q q2) (h2 : KB q2 o) : KB q o := ⟨h2.1.trans h.1, h2.2.trans h.2⟩
theorem ok_law (q : dS) (hT : TS q) : dOk (zX10_law q) (fun (o : Int32 × dS) => (TS o.2) ∧ (dFr [1, 2, 9, 10, 11] [0, 8, 9, 10, 13, 14, 18, 19, 20, 21] q o.2) ∧ o.2.1 0 13 = 0 ∧ KB q o.2) := by
  unfold zX10_law
  have f31 : 0 ≤ Int32.toInt (q.1 2 31) ∧ Int32.toInt (q.1 2 31) ≤ 6 := hT.1 2 31
  refine dOk_eq (A := Int32.toInt (q.1 2 31)) (B := 6) rfl (by decide) (fun _ _ => ?_) (fun _ c => ?_)
  · refine dOk_L (fun q1 e1 => ?_)
    have hT1 : TS q1 := by rw [e1]; exact ts_f hT (by decide) (by decide)
    refine dOk_B (ok_refuses q1 (-5) hT1 (by decide) (by decide)) (fun r q2 hr => dOk_some ⟨hr.1, ?_, (hr.2.1.2 13 (by decide)).trans (by rw [e1, dui_e]), kb_row ((hr.2.1.1 2 (by decide) (by decide)).trans (by rw [e1, dui_o (by decide)]))⟩)
    have hF1 : dFr [1, 2, 9, 10, 11] [0, 8, 9, 10, 13, 14, 18, 19, 20, 21] q q1 := by rw [e1]; exact dFr.rf.f (by decide)
    exact hF1.t hr.2.1 (by decide) (by decide)
  · refine dOk_B (ok_readsAs false q 0 hT (by decide)) (fun r q3 hr => ?_)
    obtain ⟨hT3, ⟨hF3, z3⟩, hr3⟩ := hr
    have z3 : q3.1 0 13 = 0 := z3
    have hT3 : TS q3 := hT3
    have hF3 : dFr [9, 10, 11] [8, 9, 10, 13, 14, 18, 19, 20, 21] q q3 := hF3
    have hr3 : r.toInt = 0 ∨ (r.toInt = 1 ∧ TxtOk false q3) := hr3
    have hF3' : dFr [1, 2, 9, 10, 11] [0, 8, 9, 10, 13, 14, 18, 19, 20, 21] q q3 := hF3.w (by decide) (by decide)
    refine dOk_eq (A := r.toInt) (B := 0) rfl (by decide) (fun _ _ => ?_) (fun _ z => ?_)
    · exact dOk_B (ok_refuses q3 (-6) hT3 (by decide) (by decide)) (fun r q2 hr => dOk_some ⟨hr.1, hF3'.t hr.2.1 (by decide) (by decide), (hr.2.1.2 13 (by decide)).trans z3, kb_row ((hr.2.1.1 2 (by decide) (by decide)).trans (hF3.1 2 (by decide) (by decide)))⟩)
    · have htx : TxtOk false q3 := by
        rcases hr3 with z2 | z2
        · omega
        · exact z2.2
      have w31 : q3.1 2 31 = q.1 2 31 := by rw [hF3.1 2 (by decide) (by decide)]
      obtain ⟨t, ht⟩ : ∃ t : Nat, Int32.toInt (q3.1 2 31) = (t : Int) := ⟨(Int32.toInt (q3.1 2 31)).toNat, by rw [w31]; omega⟩
      have ht5 : t ≤ 5 := by rw [w31] at ht; omega
      obtain ⟨n, hn, e18, hg⟩ := htx
      refine dOk_V (ok_lays q3 (q3.1 2 31) t n hT3 ht (by omega) (by omega) e18 hn) (fun q6 h6 => ?_)
      obtain ⟨hT6, hF6, a6, b6, c6⟩ := h6
      have w6 : q6.1 2 31 = q3.1 2 31 := a6 31 (by decide)
      have t7 : Int32.toInt (q6.1 2 31 + 1) = (t : Int) + 1 := ti_add (by rw [w6]; exact ht) (by decide) (by omega) (by omega)
      refine dOk_L (fun q7 e7 => ?_)
      have hT7 : TS q7 := by
        rw [e7]
        refine ⟨te_set hT6.1 (show klo 31 ≤ _ by rw [t7]; unfold klo; omega) (show _ ≤ khi 31 by rw [t7]; unfold khi; omega), ?_, ?_, ?_⟩
        · rw [dui_s]
          have u31 : upd (q6.1 2) 31 (q6.1 2 31 + 1) 31 = q6.1 2 31 + 1 := if_pos rfl
          have uo : ∀ i : Nat, ¬ i = 31 → upd (q6.1 2) 31 (q6.1 2 31 + 1) i = q6.1 2 i := fun i hi => if_neg hi
          have k6 := hT6.2.1
          refine ⟨?_, fun u hu hu2 => ?_⟩
          · rw [uo 32 (by decide), u31, t7]
            have := k6.1
            rw [w6, ht] at this
            omega
          · rw [u31, t7] at hu2
            have eE : lawE (upd (q6.1 2) 31 (q6.1 2 31 + 1)) u = lawE (q6.1 2) u := by unfold lawE; rw [uo (33 + u) (by omega)]
            have eC : lawC (upd (q6.1 2) 31 (q6.1 2 31 + 1)) (lawE (q6.1 2) u) = lawC (q6.1 2) (lawE (q6.1 2) u) := by
              funext i; unfold lawC; rw [uo (40 + i) (by omega)]
            have eV : lawV (upd (q6.1 2) 31 (q6.1 2 31 + 1)) = lawV (q6.1 2) := by
              funext i; unfold lawV; rw [uo (2840 + i) (by omega)]
            unfold LawOk
            rw [eE, eC, eV]
            by_cases cu : u = t
            · subst cu
              refine txt_laid (o := false) (q := q3) ⟨n, hn, e18, hg⟩ b6 (fun n' hn' k hk => ?_)
              have : n' = n := by omega
              subst this
              exact c6 k hk
            · exact k6.2 u hu (by rw [w6, ht]; omega)
        · rw [dui_o (by decide), dui_o (by decide)]; exact hT6.2.2.1
        · rw [dui_o (by decide)]; exact hT6.2.2.2
      have hF7 : dFr [1, 2, 9, 10, 11] [0, 8, 9, 10, 13, 14, 18, 19, 20, 21] q q7 := by
        rw [e7]
        refine dFr.i ?_ (by decide) (by decide)
        exact hF3'.t hF6 (by decide) (by decide)
      exact dOk_B (ok_good q7 _ hT7) (fun r8 q10 hr8 => dOk_some ⟨hr8.1, hF7.t hr8.2.1 (by decide) (by decide), (hr8.2.1.2 13 (by decide)).trans (by rw [e7, dui_o (by decide), hF6.2 13 (by decide)]; exact z3), (KB.t (q2 := q3) (kb_row (hF3.1 2 (by decide) (by decide))) (KB.t (q2 := q7) ⟨by rw [e7, dui_n (by decide)]; exact a6 30 (by decide), by rw [e7, dui_n (by decide)]; exact a6 26 (by decide)⟩ (kb_row (hr8.2.1.1 2 (by decide) (by decide)))))⟩)
end
section
theorem KR.congr2 {f g : Nat → Int32} (hs : ∀ u : Nat, u < 6 → (f (33 + u)).toInt ≤ 400) (h : ∀ i : Nat, 31 ≤ i → i < 5640 → f i = g i) (hf : KR f) : KR g := by
  have e31 := h 31 (by omega) (by omega)
  have e32 := h 32 (by omega) (by omega)
  refine ⟨by rw [← e31, ← e32]; exact hf.1, fun u hu hu2 => ?_⟩
  have h2 := hf.2 u hu (by rw [e31]; exact hu2)
  have eE : lawE g u = lawE f u := by unfold lawE; rw [h (33 + u) (by omega) (by omega)]
  have hE : lawE f u ≤ 400 * u + 400 := by have := hs u hu; unfold lawE; omega
  unfold LawOk at *
  rw [eE]
  have hC : ∀ a : Nat, lawC g (lawE f u) (0 + a) = lawC f (lawE f u) a := by
    intro a
    rw [Nat.zero_add]
    unfold lawC
    by_cases z : a < lawE f u
    · rw [if_pos z, if_pos z, h (40 + a) (by omega) (by omega)]
    · rw [if_neg z, if_neg z]
  have hV : ∀ a : Nat, ¬ lawC f (lawE f u) a = 0 → lawV g (0 + a) = lawV f a := by
    intro a ha
    have := lawC_in ha
    rw [Nat.zero_add]
    unfold lawV
    rw [h (2840 + a) (by omega) (by omega)]
  have h3 := gSeq_sh (s := 0) (op' := fun i' => lawC g (lawE f u) i' = 159) (X' := gClause (lawC g (lawE f u)) (lawV g)) (fun a => c_sh hC 159 a) (fun a b => gClause_sh hC hV) h2
  rw [Nat.zero_add, Nat.zero_add] at h3
  exact h3
theorem ok_image (q : dS) (p1 : Int32) (hT : TS q) : dOk (zX10_image q p1) (fun (o : Int32 × dS) => (TS o.2) ∧ (dFr [1, 3, 4] [0] q o.2)) := by
  unfold zX10_image
  refine dOk_V (ok_lies p1 0 1) (fun r hr => ?_)
  have hr : (Int32.toInt r = 1 ∧ (0 : Int) ≤ Int32.toInt p1 ∧ Int32.toInt p1 ≤ 1) ∨ (Int32.toInt r = 0 ∧ (Int32.toInt p1 < 0 ∨ 1 < Int32.toInt p1)) := hr
  refine dOk_eq (A := r.toInt) (B := 0) rfl (by decide) (fun _ _ => ?_) (fun _ c => ?_)
  · exact dOk_B (ok_refuses q (-1) hT (by decide) (by decide)) (fun r q2 hr => dOk_some ⟨hr.1, hr.2.1.w (by decide) (by decide)⟩)
  obtain ⟨kk, ek, hk1, _⟩ := ti_nI (x := p1) (by omega)
  have hk2 : kk < 2 := by omega
  subst ek
  have tk : Int32.toInt (nI kk) = (kk : Int) := nI_toInt (by omega)
  have nk : Int32.toNatClampNeg (nI kk) = kk := nI_clamp (by omega)
  unfold zX10_image_17
  refine dFix_ok (fun (a : dS × Int32 × Int32) => TE a.1 ∧ dFr [1, 3, 4] [0] q a.1 ∧ a.1.1 2 = q.1 2 ∧ a.1.1 4 = q.1 4 ∧ a.2.1 = nI kk ∧ ∃ m : Nat, m ≤ 5640 ∧ a.2.2 = nI m ∧ (∀ l : Nat, l < m → a.1.1 3 (5640 * kk + l) = q.1 2 l) ∧ (∀ i : Nat, (i < 5640 * kk ∨ 5640 * kk + 5640 ≤ i) → a.1.1 3 i = q.1 3 i)) (fun (a : dS × Int32 × Int32) => (5640 - Int32.toInt a.2.2).toNat) ?_ _ ⟨hT.1, dFr.rf, rfl, rfl, rfl, 0, by omega, rfl, fun l hl => by omega, fun i _ => rfl⟩ _ (dF_gt (by show (5640 - Int32.toInt 0).toNat < 1000000000000; decide))
  intro a ha k hk
  obtain ⟨qa, x1, x2⟩ := a
  obtain ⟨hE, hF, h2, h4, ex, m, hm, em, hc, ho⟩ := ha
  replace hE : TE qa := hE
  replace hF : dFr [1, 3, 4] [0] q qa := hF
  replace h2 : qa.1 2 = q.1 2 := h2
  replace h4 : qa.1 4 = q.1 4 := h4
  replace ex : x1 = nI kk := ex
  replace em : x2 = nI m := em
  replace hc : ∀ l : Nat, l < m → qa.1 3 (5640 * kk + l) = q.1 2 l := hc
  replace ho : ∀ i : Nat, (i < 5640 * kk ∨ 5640 * kk + 5640 ≤ i) → qa.1 3 i = q.1 3 i := ho
  subst ex em
  have tm : Int32.toInt (nI m) = (m : Int) := nI_toInt (by omega)
  have nm : Int32.toNatClampNeg (nI m) = m := nI_clamp (by omega)
  show dOk (zX10_image_17b (fun q x1 x2 => k (q, x1, x2)) qa (nI kk) (nI m)) _
  unfold zX10_image_17b
  refine dOk_le (A := 5640) (B := (m : Int)) (by decide) tm (fun c2 => ?_) (fun c2 => ?_)
  · have em : m = 5640 := by omega
    subst em
    refine dOk_G (dg_ok (by omega) (by omega)) (dOk_L (fun q2 e2 => ?_))
    rw [nk] at e2
    have hT2 : TS q2 := by
      rw [e2]
      refine ⟨te_set hE (ti_rg _).1 (ti_rg _).2, ?_, ?_, ?_⟩
      · rw [dui_o (by decide), h2]; exact hT.2.1
      · intro j hj hj2
        rw [dui_o (by decide)]
        by_cases cj : j = kk
        · subst cj
          exact KR.congr2 (f := q.1 2) (fun u hu => (te_2z hT (by omega) (by omega)).2) (fun i h1 h3 => (hc i h3).symm) hT.2.1
        · rw [dui_n cj, h4] at hj2
          have := hT.2.2.1 j hj hj2
          have e : (fun i => qa.1 3 (5640 * j + i)) = fun i => if i < 5640 then q.1 3 (5640 * j + i) else qa.1 3 (5640 * j + i) := by
            funext i
            by_cases z : i < 5640
            · rw [if_pos z]; exact ho _ (by omega)
            · rw [if_neg z]
          rw [e]
          refine KR.congr2 (f := fun i => q.1 3 (5640 * j + i)) (fun u hu => ?_) (fun i h1 h3 => (if_pos h3).symm) this
          have z := hT.1 3 (5640 * j + (33 + u))
          have z2 : thi 3 (5640 * j + (33 + u)) = khi ((5640 * j + (33 + u)) % 5640) := rfl
          rw [z2, show (5640 * j + (33 + u)) % 5640 = 33 + u by omega] at z
          have z3 : khi (33 + u) = 400 := by unfold khi; omega
          omega
      · rw [dui_o (by decide), hF.1 6 (by decide) (by decide)]; exact hT.2.2.2
    have hF2 : dFr [1, 3, 4] [0] q q2 := by rw [e2]; exact hF.i (by decide) (by decide)
    exact dOk_B (ok_good q2 0 hT2) (fun r8 q10 hr8 => dOk_some ⟨hr8.1, hF2.t hr8.2.1 (by decide) (by decide)⟩)
  · have t1 : Int32.toInt (5640 * nI kk) = 5640 * (kk : Int) := ti_mul (by decide) tk (by omega) (by omega)
    have t2 : Int32.toInt (5640 * nI kk + nI m) = 5640 * (kk : Int) + m := ti_add t1 tm (by omega) (by omega)
    have n2 : Int32.toNatClampNeg (5640 * nI kk + nI m) = 5640 * kk + m := by
      have := cl_eq (i := 5640 * nI kk + nI m) (by omega)
      omega
    refine dOk_G (dg_ok (by omega) (by omega)) (dOk_L (fun v7 ev7 => dOk_G (dg_ok (by omega) (by omega)) (dOk_L (fun q9 e9 => ?_))))
    rw [n2] at e9
    rw [nm, h2] at ev7
    have tm1 : Int32.toInt (nI m + 1) = (m : Int) + 1 := ti_add tm (by decide) (by omega) (by omega)
    refine hk (q9, nI kk, nI m + 1) ⟨?_, ?_, ?_, ?_, rfl, m + 1, by omega, nI_1 m, ?_, ?_⟩ ?_
    · show TE q9
      rw [e9]
      have z := te_k hT m
      rw [← ev7] at z
      refine te_set hE ?_ ?_
      · show klo ((5640 * kk + m) % 5640) ≤ _
        rw [show (5640 * kk + m) % 5640 = m by omega]; exact z.1
      · show _ ≤ khi ((5640 * kk + m) % 5640)
        rw [show (5640 * kk + m) % 5640 = m by omega]; exact z.2
    · show dFr [1, 3, 4] [0] q q9
      rw [e9]; exact hF.i (by decide) (by decide)
    · show q9.1 2 = q.1 2
      rw [e9, dui_o (by decide)]; exact h2
    · show q9.1 4 = q.1 4
      rw [e9, dui_o (by decide)]; exact h4
    · show ∀ l : Nat, l < m + 1 → q9.1 3 (5640 * kk + l) = q.1 2 l
      intro l hl
      rcases Nat.lt_or_ge l m with z | z
      · rw [e9, dui_n (by omega)]; exact hc l z
      · have : l = m := by omega
        subst this
        rw [e9, dui_e, ev7]
    · show ∀ i : Nat, (i < 5640 * kk ∨ 5640 * kk + 5640 ≤ i) → q9.1 3 i = q.1 3 i
      intro i hi
      rw [e9, dui_n (by omega)]; exact ho i hi
    · show (5640 - Int32.toInt (nI m + 1)).toNat < (5640 - Int32.toInt (nI m)).toNat
      omega
theorem ok_back (q : dS) (p1 : Int32) (hT : TS q) : dOk (zX10_back q p1) (fun (o : Int32 × dS) => (TS o.2) ∧ (dFr [1, 2] [0, 32] q o.2)) := by
  unfold zX10_back
  refine dOk_V (ok_lies p1 0 1) (fun r hr => ?_)
  have hr : (Int32.toInt r = 1 ∧ (0 : Int) ≤ Int32.toInt p1 ∧ Int32.toInt p1 ≤ 1) ∨ (Int32.toInt r = 0 ∧ (Int32.toInt p1 < 0 ∨ 1 < Int32.toInt p1)) := hr
  refine dOk_eq (A := r.toInt) (B := 0) rfl (by decide) (fun _ _ => ?_) (fun _ c => ?_)
  · exact dOk_B (ok_refuses q (-1) hT (by decide) (by decide)) (fun r q2 hr => dOk_some ⟨hr.1, hr.2.1.w (by decide) (by decide)⟩)
  obtain ⟨kk, ek, hk1, _⟩ := ti_nI (x := p1) (by omega)
  have hk2 : kk < 2 := by omega
  subst ek
  have tk : Int32.toInt (nI kk) = (kk : Int) := nI_toInt (by omega)
  have nk : Int32.toNatClampNeg (nI kk) = kk := nI_clamp (by omega)
  refine dOk_G (dg_ok (by omega) (by omega)) (dOk_L (fun v4 e4 => ?_))
  rw [nk] at e4
  refine dOk_eq rfl rfl (fun _ _ => ?_) (fun z4 _ => ?_)
  · exact dOk_B (ok_refuses q (-2) hT (by decide) (by decide)) (fun r q2 hr => dOk_some ⟨hr.1, hr.2.1.w (by decide) (by decide)⟩)
  have hKR := hT.2.2.1 kk hk2 (by rw [← e4]; exact z4)
  unfold zX10_back_33
  refine dFix_ok (fun (a : dS × Int32 × Int32) => TE a.1 ∧ dFr [1, 2] [0, 32] q a.1 ∧ a.2.1 = nI kk ∧ ∃ m : Nat, m ≤ 5640 ∧ a.2.2 = nI m ∧ (∀ l : Nat, l < m → a.1.1 2 l = q.1 3 (5640 * kk + l))) (fun (a : dS × Int32 × Int32) => (5640 - Int32.toInt a.2.2).toNat) ?_ _ ⟨hT.1, dFr.rf, rfl, 0, by omega, rfl, fun l hl => by omega⟩ _ (dF_gt (by show (5640 - Int32.toInt 0).toNat < 1000000000000; decide))
  intro a ha k hk
  obtain ⟨qa, x1, x2⟩ := a
  obtain ⟨hE, hF, ex, m, hm, em, hc⟩ := ha
  replace hE : TE qa := hE
  replace hF : dFr [1, 2] [0, 32] q qa := hF
  replace ex : x1 = nI kk := ex
  replace em : x2 = nI m := em
  replace hc : ∀ l : Nat, l < m → qa.1 2 l = q.1 3 (5640 * kk + l) := hc
  subst ex em
  have tm : Int32.toInt (nI m) = (m : Int) := nI_toInt (by omega)
  have nm : Int32.toNatClampNeg (nI m) = m := nI_clamp (by omega)
  have w3 : qa.1 3 = q.1 3 := hF.1 3 (by decide) (by decide)
  show dOk (zX10_back_33b (fun q x1 x2 => k (q, x1, x2)) qa (nI kk) (nI m)) _
  unfold zX10_back_33b
  refine dOk_le (A := 5640) (B := (m : Int)) (by decide) tm (fun c2 => ?_) (fun c2 => ?_)
  · have em : m = 5640 := by omega
    subst em
    have hTa : TS qa := by
      refine ⟨hE, ?_, ?_, ?_⟩
      · refine KR.congr2 (f := fun i => q.1 3 (5640 * kk + i)) (fun u hu => ?_) (fun i h1 h3 => (hc i h3).symm) hKR
        have z := hT.1 3 (5640 * kk + (33 + u))
        have z2 : thi 3 (5640 * kk + (33 + u)) = khi ((5640 * kk + (33 + u)) % 5640) := rfl
        rw [z2, show (5640 * kk + (33 + u)) % 5640 = 33 + u by omega] at z
        have z3 : khi (33 + u) = 400 := by unfold khi; omega
        omega
      · rw [w3, hF.1 4 (by decide) (by decide)]; exact hT.2.2.1
      · rw [hF.1 6 (by decide) (by decide)]; exact hT.2.2.2
    exact dOk_B (ok_settled qa 0 hTa) (fun r8 q10 hr8 => dOk_some ⟨hr8.1, hF.t hr8.2.1 (by decide) (by decide)⟩)
  · have t1 : Int32.toInt (5640 * nI kk) = 5640 * (kk : Int) := ti_mul (by decide) tk (by omega) (by omega)
    have t2 : Int32.toInt (5640 * nI kk + nI m) = 5640 * (kk : Int) + m := ti_add t1 tm (by omega) (by omega)
    have n2 : Int32.toNatClampNeg (5640 * nI kk + nI m) = 5640 * kk + m := by
      have := cl_eq (i := 5640 * nI kk + nI m) (by omega)
      omega
    refine dOk_G (dg_ok (by omega) (by omega)) (dOk_L (fun v7 ev7 => dOk_G (dg_ok (by omega) (by omega)) (dOk_L (fun q9 e9 => ?_))))
    rw [nm] at e9
    rw [n2, w3] at ev7
    have tm1 : Int32.toInt (nI m + 1) = (m : Int) + 1 := ti_add tm (by decide) (by omega) (by omega)
    refine hk (q9, nI kk, nI m + 1) ⟨?_, ?_, rfl, m + 1, by omega, nI_1 m, ?_⟩ ?_
    · show TE q9
      rw [e9]
      have z := hT.1 3 (5640 * kk + m)
      have z1 : tlo 3 (5640 * kk + m) = klo ((5640 * kk + m) % 5640) := rfl
      have z2 : thi 3 (5640 * kk + m) = khi ((5640 * kk + m) % 5640) := rfl
      rw [z1, z2, show (5640 * kk + m) % 5640 = m by omega, ← ev7] at z
      exact te_set hE z.1 z.2
    · show dFr [1, 2] [0, 32] q q9
      rw [e9]; exact hF.i (by decide) (by decide)
    · show ∀ l : Nat, l < m + 1 → q9.1 2 l = q.1 3 (5640 * kk + l)
      intro l hl
      rcases Nat.lt_or_ge l m with z | z
      · rw [e9, dui_n (by omega)]; exact hc l z
      · have : l = m := by omega
        subst this
        rw [e9, dui_e, ev7]
    · show (5640 - Int32.toInt (nI m + 1)).toNat < (5640 - Int32.toInt (nI m)).toNat
      omega
end
section
/-! counting over the towers -/
def sm (g : Nat → Nat) : Nat → Nat
  | 0 => 0
  | n + 1 => sm g n + g n
theorem sm_same {g g' : Nat → Nat} : ∀ n : Nat, (∀ k : Nat, k < n → g' k = g k) → sm g' n = sm g n := by
  intro n
  induction n with
  | zero => intro _; rfl
  | succ n ih =>
    intro h
    unfold sm
    rw [ih (fun k hk => h k (by omega)), h n (by omega)]
theorem sm_upd {g g' : Nat → Nat} {i : Nat} (h : ∀ k : Nat, ¬ k = i → g' k = g k) : ∀ n : Nat, i < n → sm g' n + g i = sm g n + g' i := by
  intro n
  induction n with
  | zero => intro hi; omega
  | succ n ih =>
    intro hi
    unfold sm
    by_cases c : i = n
    · subst c
      rw [sm_same i (fun k hk => h k (by omega))]
      omega
    · have := ih (by omega)
      rw [h n (fun z => c z.symm)]
      omega
theorem sm_le {g : Nat → Nat} {b : Nat} (h : ∀ k : Nat, g k ≤ b) : ∀ n : Nat, sm g n ≤ b * n := by
  intro n
  induction n with
  | zero => exact Nat.le_refl 0
  | succ n ih =>
    unfold sm
    have := h n
    rw [Nat.mul_succ]
    omega
theorem sm_split {g : Nat → Nat} (h : ∀ k : Nat, g k ≤ 1) (m : Nat) : ∀ n : Nat, m ≤ n → sm g n ≤ sm g m + (n - m) := by
  intro n
  induction n with
  | zero =>
    intro hm
    have : m = 0 := by omega
    subst this
    exact Nat.le_refl _
  | succ n ih =>
    intro hm
    by_cases c : m = n + 1
    · subst c
      omega
    · have h1 := ih (by omega)
      have h2 := h n
      show sm g n + g n ≤ sm g m + (n + 1 - m)
      omega
def fz (f : Nat → Int32) (i : Nat) : Nat := if f i = 1000000 then 1 else 0
theorem fz_le (f : Nat → Int32) (i : Nat) : fz f i ≤ 1 := by
  unfold fz
  by_cases c : f i = 1000000
  · rw [if_pos c]; exact Nat.le_refl 1
  · rw [if_neg c]; exact Nat.zero_le 1
/-- 46080, as a word that does not unfold -/
noncomputable def cN : Nat := Classical.choose (⟨46080, rfl⟩ : ∃ n : Nat, n = 46080)
theorem cN_eq : cN = 46080 := Classical.choose_spec (⟨46080, rfl⟩ : ∃ n : Nat, n = 46080)
noncomputable def cF (f : Nat → Int32) : Nat := sm (fz f) cN
theorem fz_o {f : Nat → Int32} {i k : Nat} {v : Int32} (h : ¬ k = i) : fz (upd f i v) k = fz f k := by
  unfold fz
  rw [show upd f i v k = f k from if_neg h]
theorem fz_e {f : Nat → Int32} {i : Nat} {v : Int32} : fz (upd f i v) i = if v = 1000000 then 1 else 0 := by
  unfold fz
  rw [show upd f i v i = v from if_pos rfl]
/-- n towers wait or were looked at; as many at least are no more far -/
def Bq (n : Nat) (d u : Nat → Int32) : Prop := n + cF d ≤ 46080 ∧ ∀ j : Nat, j < n → 0 ≤ (u j).toInt ∧ (u j).toInt ≤ 46079 ∧ (d (u j).toInt.toNat).toInt ≤ (j : Int)
theorem cF_pos {d : Nat → Int32} {i : Nat} (hi : i < 46080) (h : d i = 1000000) : 1 ≤ cF d := by
  have h1 : sm (fz (upd d i 0)) cN + fz d i = sm (fz d) cN + fz (upd d i 0) i := sm_upd (fun k hk => fz_o hk) cN (by rw [cN_eq]; exact hi)
  rw [fz_e, if_neg (by decide)] at h1
  have h2 : fz d i = 1 := by unfold fz; rw [if_pos h]
  unfold cF
  omega
theorem B_push {n i w : Nat} {d u : Nat → Int32} {v x : Int32} (h : Bq n d u) (hi : i < n) (hw : w < 46080) (hd : d w = 1000000) (hv : v.toInt = (d (u i).toInt.toNat).toInt + 1) (hv0 : 0 ≤ v.toInt) (hx : x.toInt = (w : Int)) : n < 46080 ∧ Bq (n + 1) (upd d w v) (upd u n x) := by
  have hp := cF_pos hw hd
  have h1 : sm (fz (upd d w v)) cN + fz d w = sm (fz d) cN + fz (upd d w v) w := sm_upd (fun k hk => fz_o hk) cN (by rw [cN_eq]; exact hw)
  have hvi := (h.2 i hi).2.2
  have hnn := h.1
  have hvn : ¬ v = 1000000 := fun z => by
    have : v.toInt = 1000000 := by rw [z]; decide
    omega
  rw [fz_e, if_neg hvn] at h1
  have h2 : fz d w = 1 := by unfold fz; rw [if_pos hd]
  have hc : cF (upd d w v) + 1 = cF d := by unfold cF; omega
  refine ⟨by omega, by omega, fun j hj => ?_⟩
  by_cases c : j = n
  · subst c
    rw [show upd u j x j = x from if_pos rfl]
    have e : x.toInt.toNat = w := by omega
    rw [e, show upd d w v w = v from if_pos rfl]
    exact ⟨by omega, by omega, by omega⟩
  · have hj2 := h.2 j (by omega)
    rw [show upd u n x j = u j from if_neg c]
    have hne : ¬ (u j).toInt.toNat = w := fun z => by
      rw [z, hd] at hj2
      have : (1000000 : Int32).toInt = 1000000 := by decide
      omega
    rw [show upd d w v (u j).toInt.toNat = d (u j).toInt.toNat from if_neg hne]
    exact hj2
end
section
set_option maxRecDepth 100000 in
set_option maxHeartbeats 4000000 in
theorem ok_laysReach (q : dS) (hT : TS q) : dOk (zX10_laysReach q) (fun (o : Int32 × dS) => (TS o.2) ∧ (dFr [12, 16, 17, 18, 19, 20, 21, 23] [22, 23, 24, 25, 37, 38] q o.2) ∧ (Int32.toInt (o.2.1 0 37) = facI (Int32.toInt (q.1 2 29))) ∧ (Int32.toInt (o.2.1 0 38) = powI (Int32.toInt (q.1 2 29)))) := by
  unfold zX10_laysReach
  have fs : 0 ≤ Int32.toInt (q.1 2 29) ∧ Int32.toInt (q.1 2 29) ≤ 6 := hT.1 2 29
  refine dOk_V (ok_laysPrices q hT) (fun q3 h3 => ?_)
  obtain ⟨hT3, hF3, e37, e38⟩ := h3
  have hF3' : dFr [12, 16, 17, 18, 19, 20, 21, 23] [22, 23, 24, 25, 37, 38] q q3 := hF3.w (by decide) (by decide)
  have f37 : 0 ≤ Int32.toInt (q3.1 0 37) ∧ Int32.toInt (q3.1 0 37) ≤ 720 := hT3.1 0 37
  have w29 : q3.1 2 29 = q.1 2 29 := by rw [hF3.1 2 (by decide) (by decide)]
  unfold zX10_laysReach_6
  refine dFix_ok (fun (a : dS × Int32) => TS a.1 ∧ dFr [19, 21, 23] [] q3 a.1 ∧ ∃ t : Nat, a.2 = nI t ∧ (t : Int) ≤ 64 * Int32.toInt (q3.1 0 37) ∧ ∀ i : Nat, i < t → a.1.1 21 i = 1000000) (fun (a : dS × Int32) => (46080 - Int32.toInt a.2).toNat) ?_ _ ⟨hT3, dFr.rf, 0, rfl, by omega, fun i hi => by omega⟩ _ (dF_gt (by show (46080 - Int32.toInt 0).toNat < 1000000000000; rw [show Int32.toInt 0 = (0 : Int) by decide]; omega))
  intro a ha k hk
  obtain ⟨qa, x1⟩ := a
  obtain ⟨hTa, hFa, t, et, ht, hfar⟩ := ha
  replace hTa : TS qa := hTa
  replace hFa : dFr [19, 21, 23] [] q3 qa := hFa
  replace et : x1 = nI t := et
  replace hfar : ∀ i : Nat, i < t → qa.1 21 i = 1000000 := hfar
  subst et
  have tt : Int32.toInt (nI t) = (t : Int) := nI_toInt (by omega)
  have nt : Int32.toNatClampNeg (nI t) = t := nI_clamp (by omega)
  have w37 : qa.1 0 37 = q3.1 0 37 := hFa.2 37 (by decide)
  have m37 : Int32.toInt (64 * qa.1 0 37) = 64 * Int32.toInt (q3.1 0 37) := by rw [w37]; exact ti_mul (by decide) rfl (by omega) (by omega)
  show dOk (zX10_laysReach_6b (fun q x1 => k (q, x1)) qa (nI t)) _
  unfold zX10_laysReach_6b
  refine dOk_le m37 tt (fun c => ?_) (fun c => ?_)
  rotate_left
  · refine dOk_G (dg_ok (by omega) (by omega)) (dOk_L (fun q8 e8 => ?_))
    rw [nt] at e8
    have t1 : Int32.toInt (nI t + 1) = (t : Int) + 1 := ti_add tt (by decide) (by omega) (by omega)
    refine hk (q8, nI t + 1) ⟨?_, ?_, t + 1, nI_1 t, by omega, ?_⟩ ?_
    · show TS q8
      rw [e8]; exact ts_set hTa (by decide) (show (0 : Int) ≤ Int32.toInt 1000000 by decide) (show Int32.toInt 1000000 ≤ (1000000 : Int) by decide)
    · show dFr [19, 21, 23] [] q3 q8
      rw [e8]; exact hFa.i (by decide) (by decide)
    · show ∀ i : Nat, i < t + 1 → q8.1 21 i = 1000000
      intro i hi
      rcases Nat.lt_or_ge i t with z | z
      · rw [e8, dui_n (by omega)]; exact hfar i z
      · have : i = t := by omega
        rw [this, e8, dui_e]
    · show (46080 - Int32.toInt (nI t + 1)).toNat < (46080 - Int32.toInt (nI t)).toNat
      omega
  have wa29 : qa.1 2 29 = q.1 2 29 := by rw [hFa.1 2 (by decide) (by decide)]; exact w29
  refine dOk_B (ok_towerNow qa hTa) (fun r1 qb hb => ?_)
  obtain ⟨hTb, hFb, r0, rlt⟩ := hb
  replace hTb : TS qb := hTb
  replace r0 : 0 ≤ Int32.toInt r1 ∧ Int32.toInt r1 ≤ 46079 := r0
  replace rlt : Int32.toInt r1 < 64 * facI (Int32.toInt (qa.1 2 29)) := rlt
  rw [wa29, ← e37] at rlt
  have b21 : qb.1 21 = qa.1 21 := hFb.1 21 (by decide) (by decide)
  refine dOk_L (fun q4 e4 => ?_)
  have g4 : q4.1 23 0 = r1 := by rw [e4, dui_e]
  have nr : Int32.toNatClampNeg r1 = (Int32.toInt r1).toNat := rfl
  refine dOk_G (by rw [g4]; exact dg_ok (by omega) (by omega)) (dOk_L (fun q6 e6 => ?_))
  rw [g4, nr] at e6
  have hT4 : TS q4 := by rw [e4]; exact ts_set hTb (by decide) (show 0 ≤ Int32.toInt r1 by omega) (show Int32.toInt r1 ≤ 46079 by omega)
  have hT6 : TS q6 := by rw [e6]; exact ts_set hT4 (by decide) (show (0 : Int) ≤ Int32.toInt 0 by decide) (show Int32.toInt 0 ≤ (1000000 : Int) by decide)
  have hF6 : dFr [19, 21, 23] [] q3 q6 := by
    rw [e6]; refine dFr.i ?_ (by decide) (by decide)
    rw [e4]; refine dFr.i ?_ (by decide) (by decide)
    exact hFa.t hFb (by decide) (by decide)
  have far0 : q4.1 21 (Int32.toInt r1).toNat = 1000000 := by
    rw [e4, dui_o (by decide), b21]
    exact hfar _ (by omega)
  have hB : Bq 1 (q6.1 21) (q6.1 23) := by
    have hN := cN_eq
    have h1 : sm (fz (upd (q4.1 21) (Int32.toInt r1).toNat 0)) cN + fz (q4.1 21) (Int32.toInt r1).toNat = sm (fz (q4.1 21)) cN + fz (upd (q4.1 21) (Int32.toInt r1).toNat 0) (Int32.toInt r1).toNat := sm_upd (fun k hk => fz_o hk) cN (by rw [hN]; omega)
    rw [fz_e, if_neg (by decide)] at h1
    have h2 : fz (q4.1 21) (Int32.toInt r1).toNat = 1 := by unfold fz; rw [if_pos far0]
    have h3 := sm_le (fz_le (q4.1 21)) cN
    refine ⟨?_, fun j hj => ?_⟩
    · rw [e6, dui_s]; unfold cF; omega
    · have : j = 0 := by omega
      subst this
      have g6 : q6.1 23 0 = r1 := by rw [e6, dui_o (by decide)]; exact g4
      rw [g6]
      refine ⟨by omega, by omega, ?_⟩
      rw [e6, dui_e]
      decide
  unfold zX10_laysReach_57
  refine dFix_ok (fun (a : dS × Int32 × Int32) => TS a.1 ∧ dFr [19, 21, 23] [] q3 a.1 ∧ ∃ n i : Nat, a.2.1 = nI n ∧ a.2.2 = nI i ∧ i ≤ n ∧ Bq n (a.1.1 21) (a.1.1 23)) (fun (a : dS × Int32 × Int32) => (46081 - Int32.toInt a.2.2).toNat) ?_ _ ⟨hT6, hF6, 1, 0, (show (1 : Int32) = nI 1 from rfl), rfl, by omega, hB⟩ _ (dF_gt (by show (46081 - Int32.toInt 0).toNat < 1000000000000; rw [show Int32.toInt 0 = (0 : Int) by decide]; omega))
  intro a ha k57 hk57
  obtain ⟨qc, x1, x2⟩ := a
  obtain ⟨hTc, hFc, n, i, en, ei, hin, hBc⟩ := ha
  replace hTc : TS qc := hTc
  replace hFc : dFr [19, 21, 23] [] q3 qc := hFc
  replace en : x1 = nI n := en
  replace ei : x2 = nI i := ei
  replace hBc : Bq n (qc.1 21) (qc.1 23) := hBc
  subst en ei
  have hn := hBc.1
  have tn : Int32.toInt (nI n) = (n : Int) := nI_toInt (by omega)
  have ti : Int32.toInt (nI i) = (i : Int) := nI_toInt (by omega)
  show dOk (zX10_laysReach_57b (fun q x1 x2 => k57 (q, x1, x2)) qc (nI n) (nI i)) _
  unfold zX10_laysReach_57b
  refine dOk_le tn ti (fun c => dOk_some ⟨hTc, hF3'.t hFc (by decide) (by decide), ?_, ?_⟩) (fun c => ?_)
  · show Int32.toInt (qc.1 0 37) = _
    rw [hFc.2 37 (by decide)]; exact e37
  · show Int32.toInt (qc.1 0 38) = _
    rw [hFc.2 38 (by decide)]; exact e38
  unfold zX10_laysReach_64
  refine dFix_ok (fun (a : dS × Int32 × Int32 × Int32) => TS a.1 ∧ dFr [19, 21, 23] [] q3 a.1 ∧ a.2.2.1 = nI i ∧ (∃ n : Nat, a.2.1 = nI n ∧ i < n ∧ Bq n (a.1.1 21) (a.1.1 23)) ∧ 1 ≤ a.2.2.2.toInt ∧ a.2.2.2.toInt ≤ 7) (fun (a : dS × Int32 × Int32 × Int32) => (7 - Int32.toInt a.2.2.2).toNat) ?_ _ ⟨hTc, hFc, rfl, ⟨n, rfl, by omega, hBc⟩, by show (1 : Int) ≤ Int32.toInt 1; decide, by show Int32.toInt 1 ≤ (7 : Int); decide⟩ _ (dF_gt (by show (7 - Int32.toInt 1).toNat < 1000000000000; decide))
  intro a ha k64 hk64
  obtain ⟨qd, y1, y2, y3⟩ := a
  obtain ⟨hTd, hFd, e2, ⟨n', e1, hi', hBd⟩, y30, y31⟩ := ha
  replace hTd : TS qd := hTd
  replace hFd : dFr [19, 21, 23] [] q3 qd := hFd
  replace e2 : y2 = nI i := e2
  replace e1 : y1 = nI n' := e1
  replace hBd : Bq n' (qd.1 21) (qd.1 23) := hBd
  replace y30 : 1 ≤ y3.toInt := y30
  replace y31 : y3.toInt ≤ 7 := y31
  subst e1 e2
  have hn' := hBd.1
  have tn' : Int32.toInt (nI n') = (n' : Int) := nI_toInt (by omega)
  have ni : Int32.toNatClampNeg (nI i) = i := nI_clamp (by omega)
  have nn : Int32.toNatClampNeg (nI n') = n' := nI_clamp (by omega)
  show dOk (zX10_laysReach_64b _ (fun q x1 x2 x3 => k64 (q, x1, x2, x3)) qd (nI n') (nI i) y3) _
  unfold zX10_laysReach_64b zX10_laysReach_146
  refine dOk_B (ok_size qd hTd) (fun r1 qe hr => ?_)
  have ee : qe = qd := hr.1
  have hr6 : 0 ≤ Int32.toInt r1 ∧ Int32.toInt r1 ≤ 6 := hr.2.2
  subst ee
  refine dOk_lt rfl rfl (fun c3 => ?_) (fun c3 => ?_)
  · have t1 : Int32.toInt (nI i + 1) = (i : Int) + 1 := ti_add ti (by decide) (by omega) (by omega)
    refine hk57 (qe, nI n', nI i + 1) ⟨hTd, hFd, n', i + 1, rfl, nI_1 i, by omega, hBd⟩ ?_
    show (46081 - Int32.toInt (nI i + 1)).toNat < (46081 - Int32.toInt (nI i)).toNat
    omega
  have y3p : Int32.toInt (y3 + 1) = y3.toInt + 1 := ti_add rfl (by decide) (by omega) (by omega)
  have hgo : ∀ (q' : dS) (m : Nat), TS q' → dFr [19, 21, 23] [] q3 q' → i < m → Bq m (q'.1 21) (q'.1 23) → dOk (k64 (q', nI m, nI i, y3 + 1)) (fun (o : Int32 × dS) => (TS o.2) ∧ (dFr [12, 16, 17, 18, 19, 20, 21, 23] [22, 23, 24, 25, 37, 38] q o.2) ∧ (Int32.toInt (o.2.1 0 37) = facI (Int32.toInt (q.1 2 29))) ∧ (Int32.toInt (o.2.1 0 38) = powI (Int32.toInt (q.1 2 29)))) := by
    intro q' m hT' hF' hm' hB'
    refine hk64 (q', nI m, nI i, y3 + 1) ⟨hT', hF', rfl, ⟨m, rfl, hm', hB'⟩, ?_, ?_⟩ ?_
    · show 1 ≤ Int32.toInt (y3 + 1)
      omega
    · show Int32.toInt (y3 + 1) ≤ 7
      omega
    · show (7 - Int32.toInt (y3 + 1)).toNat < (7 - Int32.toInt y3).toNat
      omega
  refine dOk_G (dg_ok (by omega) (by omega)) (dOk_L (fun v5 e5 => ?_))
  rw [ni] at e5
  have f5 := hBd.2 i hi'
  rw [← e5] at f5
  refine dOk_B (ok_behind qe v5 y3 hTd ⟨by omega, by omega⟩ ⟨by omega, by omega⟩) (fun r6 qf hf => ?_)
  have ef : qf = qe := hf.1
  have hr66 : 0 ≤ Int32.toInt r6 ∧ Int32.toInt r6 ≤ 46079 := hf.2
  subst ef
  refine dOk_G (dg_ok (by omega) (by omega)) (dOk_L (fun v10 e10 => ?_))
  rw [ni, ← e5] at e10
  subst e10
  refine dOk_B (ok_priceOf qf v10 y3 hTd ⟨by omega, by omega⟩ ⟨by omega, by omega⟩) (fun r11 qg hg => ?_)
  have eg : qg = qf := hg.1
  subst eg
  refine dOk_eq rfl rfl (fun _ _ => hgo qg n' hTd hFd hi' hBd) (fun _ _ => ?_)
  refine dOk_G (dg_ok (by omega) (by omega)) (dOk_L (fun v15 e15 => ?_))
  have n6 : Int32.toNatClampNeg r6 = (Int32.toInt r6).toNat := rfl
  rw [n6] at e15
  refine dOk_le (A := 1000000) (B := v15.toInt) (by decide) rfl (fun c15 => ?_) (fun _ => hgo qg n' hTd hFd hi' hBd)
  have f15 : 0 ≤ Int32.toInt v15 ∧ Int32.toInt v15 ≤ 1000000 := by rw [e15]; exact hTd.1 21 _
  have hfar6 : qg.1 21 (Int32.toInt r6).toNat = 1000000 := by
    rw [← e15]
    apply Int32.toInt_inj.mp
    rw [show (1000000 : Int32).toInt = 1000000 by decide]
    omega
  refine dOk_G (dg_ok (by omega) (by omega)) (dOk_L (fun v17 e17 => ?_))
  rw [ni, ← e5] at e17
  subst e17
  refine dOk_G (dg_ok (by omega) (by omega)) (dOk_L (fun v19 e19 => ?_))
  have n17 : Int32.toNatClampNeg v17 = (Int32.toInt v17).toNat := rfl
  rw [n17] at e19
  have f19 : 0 ≤ Int32.toInt v19 ∧ Int32.toInt v19 ≤ 1000000 := by rw [e19]; exact hTd.1 21 _
  have f19' : Int32.toInt v19 ≤ (i : Int) := by rw [e19]; exact f5.2.2
  have t19 : Int32.toInt (v19 + 1) = v19.toInt + 1 := ti_add rfl (by decide) (by omega) (by omega)
  have hpush := B_push (v := v19 + 1) (x := r6) (w := (Int32.toInt r6).toNat) hBd hi' (by omega) hfar6 (by rw [t19, ← e5, e19]) (by omega) (by omega)
  refine dOk_G (dg_ok (by omega) (by omega)) (dOk_L (fun q21 e21 => ?_))
  rw [n6] at e21
  have hT21 : TS q21 := by rw [e21]; exact ts_set hTd (by decide) (show 0 ≤ Int32.toInt (v19 + 1) by omega) (show Int32.toInt (v19 + 1) ≤ 1000000 by omega)
  refine dOk_G (dg_ok (by omega) (by have := hpush.1; omega)) (dOk_L (fun q23 e23 => ?_))
  rw [nn] at e23
  have hT23 : TS q23 := by rw [e23]; exact ts_set hT21 (by decide) (show 0 ≤ Int32.toInt r6 by omega) (show Int32.toInt r6 ≤ 46079 by omega)
  have hF23 : dFr [19, 21, 23] [] q3 q23 := by
    rw [e23]; refine dFr.i ?_ (by decide) (by decide)
    rw [e21]; exact hFd.i (by decide) (by decide)
  have s1 : nI n' + 1 = nI (n' + 1) := nI_1 n'
  rw [s1]
  refine hgo q23 (n' + 1) hT23 hF23 (by omega) ?_
  rw [e23, dui_s, dui_o (by decide), e21, dui_s, dui_o (by decide)]
  exact hpush.2
end
section
set_option maxHeartbeats 4000000 in
set_option maxRecDepth 100000 in
theorem ok_reach (q : dS) (hT : TS q) : dOk (zX10_reach q) (fun (o : Int32 × dS) => (TS o.2) ∧ (dFr [12, 16, 17, 18, 19, 20, 21, 23] [22, 23, 24, 25, 37, 38] q o.2)) := by
  unfold zX10_reach
  refine dOk_B (ok_laysReach q hT) (fun r_1 q_2 h_3 => ?_)
  replace h_3 : (TS q_2) ∧ (dFr [12, 16, 17, 18, 19, 20, 21, 23] [22, 23, 24, 25, 37, 38] q q_2) ∧ (Int32.toInt (q_2.1 0 37) = facI (Int32.toInt (q.1 2 29))) ∧ (Int32.toInt (q_2.1 0 38) = powI (Int32.toInt (q.1 2 29))) := h_3
  obtain ⟨i_4, i_5, i_6, i_7⟩ := h_3
  have hFq_2 : dFr [12, 16, 17, 18, 19, 20, 21, 23] [22, 23, 24, 25, 37, 38] q q_2 := (dFr.rf (q := q)).t i_5 (by decide) (by decide)
  have f_8 : 0 ≤ Int32.toInt (q_2.1 0 37) ∧ Int32.toInt (q_2.1 0 37) ≤ 720 := i_4.1 0 37
  have f_9 : 0 ≤ Int32.toInt (q.1 2 29) ∧ Int32.toInt (q.1 2 29) ≤ 6 := hT.1 2 29
  have f_10 : 0 ≤ Int32.toInt (q_2.1 0 38) ∧ Int32.toInt (q_2.1 0 38) ≤ 64 := i_4.1 0 38
  exact dOk_some (show (TS q_2) ∧ (dFr [12, 16, 17, 18, 19, 20, 21, 23] [22, 23, 24, 25, 37, 38] q q_2) from ⟨i_4, hFq_2⟩)

set_option maxHeartbeats 4000000 in
set_option maxRecDepth 100000 in
theorem ok_comes (q : dS) (p1 : Int32) (hT : TS q) : dOk (zX10_comes q p1) (fun (o : Int32 × dS) => (TS o.2) ∧ (dFr [12, 16, 17, 18, 19, 20, 21, 23] [22, 23, 24, 25, 37, 38] q o.2)) := by
  unfold zX10_comes
  refine dOk_B (ok_isOrder q p1 hT) (fun r_1 q_2 h_3 => ?_)
  replace h_3 : (TS q_2) ∧ (dFr [19] [] q q_2) ∧ ((Int32.toInt r_1 = 0 ∨ Int32.toInt r_1 = 1)) := h_3
  obtain ⟨i_4, i_5, i_6⟩ := h_3
  have hFq_2 : dFr [12, 16, 17, 18, 19, 20, 21, 23] [22, 23, 24, 25, 37, 38] q q_2 := (dFr.rf (q := q)).t i_5 (by decide) (by decide)
  refine dOk_eq (A := Int32.toInt r_1) (B := 0) rfl (by decide) (fun c_7z c_7 => ?_) (fun c_8z c_8 => ?_)
  · exact dOk_some (show (TS q_2) ∧ (dFr [12, 16, 17, 18, 19, 20, 21, 23] [22, 23, 24, 25, 37, 38] q q_2) from ⟨i_4, hFq_2⟩)
  · refine dOk_B (ok_numberOf q_2 i_4) (fun r_10 q_11 h_12 => ?_)
    replace h_12 : (q_11 = q_2) ∧ (NB (Int32.toInt (q_2.1 2 29)) (Int32.toInt (q_2.1 2 29)) (Int32.toInt r_10)) ∧ (0 ≤ Int32.toInt r_10 ∧ Int32.toInt r_10 ≤ 719) := h_12
    obtain ⟨i_13, i_14, i_15⟩ := h_12
    subst q_11
    have f_16 : 0 ≤ Int32.toInt (q_2.1 2 29) ∧ Int32.toInt (q_2.1 2 29) ≤ 6 := i_4.1 2 29
    have f_17 : 0 ≤ Int32.toInt (q.1 2 29) ∧ Int32.toInt (q.1 2 29) ≤ 6 := hT.1 2 29
    have w_18 : Int32.toInt (q_2.1 2 29) = Int32.toInt (q.1 2 29) := by rw [i_5.1 2 (by decide) (by decide)]
    refine dOk_B (ok_laysReach q_2 i_4) (fun r_19 q_20 h_21 => ?_)
    replace h_21 : (TS q_20) ∧ (dFr [12, 16, 17, 18, 19, 20, 21, 23] [22, 23, 24, 25, 37, 38] q_2 q_20) ∧ (Int32.toInt (q_20.1 0 37) = facI (Int32.toInt (q_2.1 2 29))) ∧ (Int32.toInt (q_20.1 0 38) = powI (Int32.toInt (q_2.1 2 29))) := h_21
    obtain ⟨i_22, i_23, i_24, i_25⟩ := h_21
    have hFq_20 : dFr [12, 16, 17, 18, 19, 20, 21, 23] [22, 23, 24, 25, 37, 38] q q_20 := hFq_2.t i_23 (by decide) (by decide)
    have f_26 : 0 ≤ Int32.toInt (q_20.1 0 37) ∧ Int32.toInt (q_20.1 0 37) ≤ 720 := i_22.1 0 37
    have f_27 : 0 ≤ Int32.toInt (q_20.1 0 38) ∧ Int32.toInt (q_20.1 0 38) ≤ 64 := i_22.1 0 38
    unfold zX10_comes_26
    refine dFix_ok (fun (a : dS × Int32 × Int32 × Int32) => (a.1 = q_20) ∧ (a.2.1 = r_10) ∧ (0 ≤ Int32.toInt a.2.2.2) ∧ (Int32.toInt a.2.2.2 ≤ 64)) (fun (a : dS × Int32 × Int32 × Int32) => (64 - Int32.toInt a.2.2.2).toNat) ?_ _ ?_ _ (dF_gt ?_)
    · intro a ha k_29 hk_28
      obtain ⟨q_30, x2_31, x3_32, x4_33⟩ := a
      replace ha : (q_30 = q_20) ∧ (x2_31 = r_10) ∧ (0 ≤ Int32.toInt x4_33) ∧ (Int32.toInt x4_33 ≤ 64) := ha
      obtain ⟨a_34, a_35, a_36, a_37⟩ := ha
      show dOk (zX10_comes_26b  (fun q x2 x3 x4 => k_29 (q, x2, x3, x4)) q_30 x2_31 x3_32 x4_33) _
      unfold zX10_comes_26b
      subst q_30
      subst x2_31
      refine dOk_le (A := Int32.toInt (q_20.1 0 38)) (B := Int32.toInt x4_33) rfl rfl (fun c_38 => ?_) (fun c_39 => ?_)
      · refine dOk_eq (A := Int32.toInt x3_32) (B := 1000000) rfl (by decide) (fun c_40z c_40 => ?_) (fun c_41z c_41 => ?_)
        · unfold zX10_comes_69
          exact dOk_some (show (TS q_20) ∧ (dFr [12, 16, 17, 18, 19, 20, 21, 23] [22, 23, 24, 25, 37, 38] q q_20) from ⟨i_22, hFq_20⟩)
        · unfold zX10_comes_69
          exact dOk_some (show (TS q_20) ∧ (dFr [12, 16, 17, 18, 19, 20, 21, 23] [22, 23, 24, 25, 37, 38] q q_20) from ⟨i_22, hFq_20⟩)
      · try have t_43 : Int32.toInt (64 * r_10) = 64 * Int32.toInt r_10 := ti_mul (by decide) rfl (by omega) (by omega)
        try have t_44 : Int32.toInt (64 * r_10 + x4_33) = Int32.toInt (64 * r_10) + Int32.toInt x4_33 := ti_add rfl rfl (by omega) (by omega)
        refine dOk_G (dg_ok (show 0 ≤ Int32.toInt (64 * r_10 + x4_33) by omega) (show Int32.toInt (64 * r_10 + x4_33) < ((46080 : Nat) : Int) by omega)) ?_
        have n_45 : ((Int32.toNatClampNeg (64 * r_10 + x4_33) : Nat) : Int) = Int32.toInt (64 * r_10 + x4_33) := cl_eq (by omega)
        refine dOk_L (fun v_46 ev_46 => ?_)
        have f_47 : 0 ≤ Int32.toInt v_46 ∧ Int32.toInt v_46 ≤ 1000000 := by rw [ev_46]; exact i_22.1 21 _
        refine dOk_V (ok_lesser x3_32 v_46) (fun r_48 h_49 => ?_)
        replace h_49 : (Int32.toInt r_48 ≤ Int32.toInt x3_32 ∧ Int32.toInt r_48 ≤ Int32.toInt v_46 ∧ (Int32.toInt r_48 = Int32.toInt x3_32 ∨ Int32.toInt r_48 = Int32.toInt v_46)) := h_49
        have i_50 := h_49
        try have t_51 : Int32.toInt (x4_33 + 1) = Int32.toInt x4_33 + 1 := ti_add rfl (by decide) (by omega) (by omega)
        exact hk_28 (q_20, r_10, r_48, (x4_33 + 1)) (show (q_20 = q_20) ∧ (r_10 = r_10) ∧ (0 ≤ Int32.toInt (x4_33 + 1)) ∧ (Int32.toInt (x4_33 + 1) ≤ 64) from ⟨rfl, rfl, by omega, by omega⟩) (show (64 - Int32.toInt (x4_33 + 1)).toNat < (64 - Int32.toInt x4_33).toNat by omega)
    · exact (show (q_20 = q_20) ∧ (r_10 = r_10) ∧ (0 ≤ (0 : Int)) ∧ ((0 : Int) ≤ 64) from ⟨rfl, rfl, by omega, by omega⟩)
    · show (64 - (0 : Int)).toNat < 1000000000000
      omega

set_option maxHeartbeats 4000000 in
set_option maxRecDepth 100000 in
theorem ok_view (q : dS) (p1 : Int32) (hT : TS q) : dOk (zX10_view q p1) (fun (o : Int32 × dS) => (TS o.2) ∧ (dFr [12, 16, 17, 18, 19, 20, 21, 23] [22, 23, 24, 25, 37, 38] q o.2)) := by
  unfold zX10_view
  refine dOk_V (ok_isRank p1) (fun r_1 h_2 => ?_)
  replace h_2 : ((Int32.toInt r_1 = 1 ∧ 0 ≤ Int32.toInt p1 ∧ Int32.toInt p1 ≤ 5) ∨ (Int32.toInt r_1 = 0 ∧ (Int32.toInt p1 < 0 ∨ 5 < Int32.toInt p1))) := h_2
  have i_3 := h_2
  refine dOk_eq (A := Int32.toInt r_1) (B := 0) rfl (by decide) (fun c_4z c_4 => ?_) (fun c_5z c_5 => ?_)
  · unfold zX10_view_16
    exact dOk_some (show (TS q) ∧ (dFr [12, 16, 17, 18, 19, 20, 21, 23] [22, 23, 24, 25, 37, 38] q q) from ⟨hT, (dFr.rf (q := q))⟩)
  · refine dOk_B (ok_placeOf q p1 hT) (fun r_7 q_8 h_9 => ?_)
    replace h_9 : (q_8 = q) ∧ (-1 ≤ Int32.toInt r_7 ∧ Int32.toInt r_7 ≤ 5) := h_9
    obtain ⟨i_10, i_11⟩ := h_9
    subst q_8
    refine dOk_eq (A := Int32.toInt r_7) (B := (-1)) rfl (by decide) (fun c_12z c_12 => ?_) (fun c_13z c_13 => ?_)
    · unfold zX10_view_16
      exact dOk_some (show (TS q) ∧ (dFr [12, 16, 17, 18, 19, 20, 21, 23] [22, 23, 24, 25, 37, 38] q q) from ⟨hT, (dFr.rf (q := q))⟩)
    · refine dOk_B (ok_laysReach q hT) (fun r_15 q_16 h_17 => ?_)
      replace h_17 : (TS q_16) ∧ (dFr [12, 16, 17, 18, 19, 20, 21, 23] [22, 23, 24, 25, 37, 38] q q_16) ∧ (Int32.toInt (q_16.1 0 37) = facI (Int32.toInt (q.1 2 29))) ∧ (Int32.toInt (q_16.1 0 38) = powI (Int32.toInt (q.1 2 29))) := h_17
      obtain ⟨i_18, i_19, i_20, i_21⟩ := h_17
      have hFq_16 : dFr [12, 16, 17, 18, 19, 20, 21, 23] [22, 23, 24, 25, 37, 38] q q_16 := (dFr.rf (q := q)).t i_19 (by decide) (by decide)
      have f_22 : 0 ≤ Int32.toInt (q_16.1 0 37) ∧ Int32.toInt (q_16.1 0 37) ≤ 720 := i_18.1 0 37
      have f_23 : 0 ≤ Int32.toInt (q.1 2 29) ∧ Int32.toInt (q.1 2 29) ≤ 6 := hT.1 2 29
      have f_24 : 0 ≤ Int32.toInt (q_16.1 0 38) ∧ Int32.toInt (q_16.1 0 38) ≤ 64 := i_18.1 0 38
      unfold zX10_view_28
      refine dFix_ok (fun (a : dS × Int32 × Int32 × Int32) => (a.1 = q_16) ∧ (a.2.1 = p1) ∧ (0 ≤ Int32.toInt a.2.2.2) ∧ (Int32.toInt a.2.2.2 ≤ 46080)) (fun (a : dS × Int32 × Int32 × Int32) => (46080 - Int32.toInt a.2.2.2).toNat) ?_ _ ?_ _ (dF_gt ?_)
      · intro a ha k_26 hk_25
        obtain ⟨q_27, x1_28, x2_29, x3_30⟩ := a
        replace ha : (q_27 = q_16) ∧ (x1_28 = p1) ∧ (0 ≤ Int32.toInt x3_30) ∧ (Int32.toInt x3_30 ≤ 46080) := ha
        obtain ⟨a_31, a_32, a_33, a_34⟩ := ha
        show dOk (zX10_view_28b  (fun q x1 x2 x3 => k_26 (q, x1, x2, x3)) q_27 x1_28 x2_29 x3_30) _
        unfold zX10_view_28b
        subst q_27
        subst x1_28
        try have t_35 : Int32.toInt (64 * q_16.1 0 37) = 64 * Int32.toInt (q_16.1 0 37) := ti_mul (by decide) rfl (by omega) (by omega)
        refine dOk_le (A := Int32.toInt (64 * q_16.1 0 37)) (B := Int32.toInt x3_30) rfl rfl (fun c_36 => ?_) (fun c_37 => ?_)
        · refine dOk_eq (A := Int32.toInt x2_29) (B := 1000000) rfl (by decide) (fun c_38z c_38 => ?_) (fun c_39z c_39 => ?_)
          · unfold zX10_view_95
            exact dOk_some (show (TS q_16) ∧ (dFr [12, 16, 17, 18, 19, 20, 21, 23] [22, 23, 24, 25, 37, 38] q q_16) from ⟨i_18, hFq_16⟩)
          · unfold zX10_view_95
            exact dOk_some (show (TS q_16) ∧ (dFr [12, 16, 17, 18, 19, 20, 21, 23] [22, 23, 24, 25, 37, 38] q q_16) from ⟨i_18, hFq_16⟩)
        · refine dOk_B (ok_isThere q_16 x3_30 i_18 (show 0 ≤ Int32.toInt x3_30 by omega)) (fun r_41 q_42 h_43 => ?_)
          replace h_43 : (q_42 = q_16) ∧ ((Int32.toInt r_41 = 0 ∨ Int32.toInt r_41 = 1)) := h_43
          obtain ⟨i_44, i_45⟩ := h_43
          subst q_42
          refine dOk_eq (A := Int32.toInt r_41) (B := 0) rfl (by decide) (fun c_46z c_46 => ?_) (fun c_47z c_47 => ?_)
          · unfold zX10_view_78
            try have t_49 : Int32.toInt (x3_30 + 1) = Int32.toInt x3_30 + 1 := ti_add rfl (by decide) (by omega) (by omega)
            exact hk_25 (q_16, p1, x2_29, (x3_30 + 1)) (show (q_16 = q_16) ∧ (p1 = p1) ∧ (0 ≤ Int32.toInt (x3_30 + 1)) ∧ (Int32.toInt (x3_30 + 1) ≤ 46080) from ⟨rfl, rfl, by omega, by omega⟩) (show (46080 - Int32.toInt (x3_30 + 1)).toNat < (46080 - Int32.toInt x3_30).toNat by omega)
          · try have t_50 : Int32.toInt (x3_30 / 64) = Int32.toInt x3_30 / 64 := ti_div rfl (by decide) (by omega) (by omega)
            try have t_51 : Int32.toInt (6 * (x3_30 / 64)) = 6 * Int32.toInt (x3_30 / 64) := ti_mul (by decide) rfl (by omega) (by omega)
            refine dOk_G (dg_ok (show 0 ≤ Int32.toInt (6 * (x3_30 / 64)) by omega) (show Int32.toInt (6 * (x3_30 / 64)) < ((4320 : Nat) : Int) by omega)) ?_
            have n_52 : ((Int32.toNatClampNeg (6 * (x3_30 / 64)) : Nat) : Int) = Int32.toInt (6 * (x3_30 / 64)) := cl_eq (by omega)
            refine dOk_L (fun v_53 ev_53 => ?_)
            have f_54 : 0 ≤ Int32.toInt v_53 ∧ Int32.toInt v_53 ≤ 5 := by rw [ev_53]; exact i_18.1 16 _
            refine dOk_B (ok_lessThan q_16 p1 i_18) (fun r_55 q_56 h_57 => ?_)
            replace h_57 : (q_56 = q_16) ∧ (0 ≤ Int32.toInt r_55 ∧ Int32.toInt r_55 ≤ 6) := h_57
            obtain ⟨i_58, i_59⟩ := h_57
            subst q_56
            refine dOk_eq (A := Int32.toInt v_53) (B := Int32.toInt r_55) rfl rfl (fun c_60z c_60 => ?_) (fun c_61z c_61 => ?_)
            · refine dOk_G (dg_ok (show 0 ≤ Int32.toInt x3_30 by omega) (show Int32.toInt x3_30 < ((46080 : Nat) : Int) by omega)) ?_
              have n_63 : ((Int32.toNatClampNeg x3_30 : Nat) : Int) = Int32.toInt x3_30 := cl_eq (by omega)
              refine dOk_L (fun v_64 ev_64 => ?_)
              have f_65 : 0 ≤ Int32.toInt v_64 ∧ Int32.toInt v_64 ≤ 1000000 := by rw [ev_64]; exact i_18.1 21 _
              refine dOk_V (ok_lesser x2_29 v_64) (fun r_66 h_67 => ?_)
              replace h_67 : (Int32.toInt r_66 ≤ Int32.toInt x2_29 ∧ Int32.toInt r_66 ≤ Int32.toInt v_64 ∧ (Int32.toInt r_66 = Int32.toInt x2_29 ∨ Int32.toInt r_66 = Int32.toInt v_64)) := h_67
              have i_68 := h_67
              unfold zX10_view_78
              try have t_69 : Int32.toInt (x3_30 + 1) = Int32.toInt x3_30 + 1 := ti_add rfl (by decide) (by omega) (by omega)
              exact hk_25 (q_16, p1, r_66, (x3_30 + 1)) (show (q_16 = q_16) ∧ (p1 = p1) ∧ (0 ≤ Int32.toInt (x3_30 + 1)) ∧ (Int32.toInt (x3_30 + 1) ≤ 46080) from ⟨rfl, rfl, by omega, by omega⟩) (show (46080 - Int32.toInt (x3_30 + 1)).toNat < (46080 - Int32.toInt x3_30).toNat by omega)
            · unfold zX10_view_78
              try have t_70 : Int32.toInt (x3_30 + 1) = Int32.toInt x3_30 + 1 := ti_add rfl (by decide) (by omega) (by omega)
              exact hk_25 (q_16, p1, x2_29, (x3_30 + 1)) (show (q_16 = q_16) ∧ (p1 = p1) ∧ (0 ≤ Int32.toInt (x3_30 + 1)) ∧ (Int32.toInt (x3_30 + 1) ≤ 46080) from ⟨rfl, rfl, by omega, by omega⟩) (show (46080 - Int32.toInt (x3_30 + 1)).toNat < (46080 - Int32.toInt x3_30).toNat by omega)
      · exact (show (q_16 = q_16) ∧ (p1 = p1) ∧ (0 ≤ (0 : Int)) ∧ ((0 : Int) ≤ 46080) from ⟨rfl, rfl, by omega, by omega⟩)
      · show (46080 - (0 : Int)).toNat < 1000000000000
        omega
end
section
set_option maxRecDepth 100000 in
set_option maxHeartbeats 4000000 in
theorem ok_laysDist (q : dS) (hT : TS q) : dOk (zX10_laysDist q) (fun (o : dS) => (TS o) ∧ (dFr [12, 16, 17, 18, 19, 20, 21, 22, 23] [22, 23, 24, 25, 37, 38] q o) ∧ (Int32.toInt (o.1 0 37) = facI (Int32.toInt (q.1 2 29))) ∧ (Int32.toInt (o.1 0 38) = powI (Int32.toInt (q.1 2 29)))) := by
  unfold zX10_laysDist
  refine dOk_V (ok_laysPrices q hT) (fun q3 h3 => ?_)
  obtain ⟨hT3, hF3, e37, e38⟩ := h3
  have hF3' : dFr [12, 16, 17, 18, 19, 20, 21, 22, 23] [22, 23, 24, 25, 37, 38] q q3 := hF3.w (by decide) (by decide)
  have f37 : 0 ≤ Int32.toInt (q3.1 0 37) ∧ Int32.toInt (q3.1 0 37) ≤ 720 := hT3.1 0 37
  -- the second half
  have h97 : ∀ (q6 : dS) (n0 : Nat), TS q6 → dFr [21, 22, 23] [] q3 q6 → Bq n0 (q6.1 21) (q6.1 23) → dOk (zX10_laysDist_97 dF q6 (nI n0) 0) (fun (o : dS) => (TS o) ∧ (dFr [12, 16, 17, 18, 19, 20, 21, 22, 23] [22, 23, 24, 25, 37, 38] q o) ∧ (Int32.toInt (o.1 0 37) = facI (Int32.toInt (q.1 2 29))) ∧ (Int32.toInt (o.1 0 38) = powI (Int32.toInt (q.1 2 29)))) := by
    intro q6 n0 hT6 hF6 hB6
    unfold zX10_laysDist_97
    refine dFix_ok (fun (a : dS × Int32 × Int32) => TS a.1 ∧ dFr [21, 22, 23] [] q3 a.1 ∧ ∃ n i : Nat, a.2.1 = nI n ∧ a.2.2 = nI i ∧ i ≤ n ∧ Bq n (a.1.1 21) (a.1.1 23)) (fun (a : dS × Int32 × Int32) => (46081 - Int32.toInt a.2.2).toNat) ?_ _ ⟨hT6, hF6, n0, 0, rfl, rfl, by omega, hB6⟩ _ (dF_gt (by show (46081 - Int32.toInt 0).toNat < 1000000000000; rw [show Int32.toInt 0 = (0 : Int) by decide]; omega))
    intro a ha k57 hk57
    obtain ⟨qc, x1, x2⟩ := a
    obtain ⟨hTc, hFc, n, i, en, ei, hin, hBc⟩ := ha
    replace hTc : TS qc := hTc
    replace hFc : dFr [21, 22, 23] [] q3 qc := hFc
    replace en : x1 = nI n := en
    replace ei : x2 = nI i := ei
    replace hBc : Bq n (qc.1 21) (qc.1 23) := hBc
    subst en ei
    have hn := hBc.1
    have tn : Int32.toInt (nI n) = (n : Int) := nI_toInt (by omega)
    have ti : Int32.toInt (nI i) = (i : Int) := nI_toInt (by omega)
    have ni : Int32.toNatClampNeg (nI i) = i := nI_clamp (by omega)
    show dOk (zX10_laysDist_97b (fun q x1 x2 => k57 (q, x1, x2)) qc (nI n) (nI i)) _
    unfold zX10_laysDist_97b
    refine dOk_le tn ti (fun c => dOk_some ⟨hTc, hF3'.t hFc (by decide) (by decide), ?_, ?_⟩) (fun c => ?_)
    · rw [hFc.2 37 (by decide)]; exact e37
    · rw [hFc.2 38 (by decide)]; exact e38
    refine dOk_G (dg_ok (by omega) (by omega)) (dOk_L (fun v2 ev2 => ?_))
    rw [ni] at ev2
    have f2 := hBc.2 i (by omega)
    rw [← ev2] at f2
    unfold zX10_laysDist_112
    refine dFix_ok (fun (a : dS × Int32 × Int32 × Int32 × Int32) => TS a.1 ∧ dFr [21, 22, 23] [] q3 a.1 ∧ a.2.2.1 = nI i ∧ a.2.2.2.1 = v2 ∧ (∃ n : Nat, a.2.1 = nI n ∧ i < n ∧ Bq n (a.1.1 21) (a.1.1 23) ∧ a.1.1 23 i = v2) ∧ 1 ≤ a.2.2.2.2.toInt ∧ a.2.2.2.2.toInt ≤ 7) (fun (a : dS × Int32 × Int32 × Int32 × Int32) => (7 - Int32.toInt a.2.2.2.2).toNat) ?_ _ ⟨hTc, hFc, rfl, rfl, ⟨n, rfl, by omega, hBc, ev2.symm⟩, by show (1 : Int) ≤ Int32.toInt 1; decide, by show Int32.toInt 1 ≤ (7 : Int); decide⟩ _ (dF_gt (by show (7 - Int32.toInt 1).toNat < 1000000000000; decide))
    intro a ha k64 hk64
    obtain ⟨qd, y1, y2, y5, y3⟩ := a
    obtain ⟨hTd, hFd, e2, e5, ⟨n', e1, hi', hBd, hui⟩, y30, y31⟩ := ha
    replace hTd : TS qd := hTd
    replace hFd : dFr [21, 22, 23] [] q3 qd := hFd
    replace e2 : y2 = nI i := e2
    replace e5 : y5 = v2 := e5
    replace e1 : y1 = nI n' := e1
    replace hBd : Bq n' (qd.1 21) (qd.1 23) := hBd
    replace hui : qd.1 23 i = v2 := hui
    replace y30 : 1 ≤ y3.toInt := y30
    replace y31 : y3.toInt ≤ 7 := y31
    subst e1 e2 e5
    have hn' := hBd.1
    have tn' : Int32.toInt (nI n') = (n' : Int) := nI_toInt (by omega)
    have nn : Int32.toNatClampNeg (nI n') = n' := nI_clamp (by omega)
    have n5 : Int32.toNatClampNeg y5 = (Int32.toInt y5).toNat := rfl
    show dOk (zX10_laysDist_112b _ (fun q x1 x2 x3 x4 => k64 (q, x1, x2, x3, x4)) qd (nI n') (nI i) y5 y3) _
    have y3p : y3.toInt ≤ 6 → Int32.toInt (y3 + 1) = y3.toInt + 1 := fun _ => ti_add rfl (by decide) (by omega) (by omega)
    have h232 : ∀ (q' : dS) (m : Nat), y3.toInt ≤ 6 → TS q' → dFr [21, 22, 23] [] q3 q' → i < m → Bq m (q'.1 21) (q'.1 23) → q'.1 23 i = y5 → dOk (zX10_laysDist_232 (fun q x1 x2 => k57 (q, x1, x2)) (fun q x1 x2 x3 x4 => k64 (q, x1, x2, x3, x4)) q' (nI m) (nI i) y5 y3) (fun (o : dS) => (TS o) ∧ (dFr [12, 16, 17, 18, 19, 20, 21, 22, 23] [22, 23, 24, 25, 37, 38] q o) ∧ (Int32.toInt (o.1 0 37) = facI (Int32.toInt (q.1 2 29))) ∧ (Int32.toInt (o.1 0 38) = powI (Int32.toInt (q.1 2 29)))) := by
      intro q' m hy6 hT' hF' hm' hB' hu'
      unfold zX10_laysDist_232
      have y3p := y3p hy6
      refine hk64 (q', nI m, nI i, y5, y3 + 1) ⟨hT', hF', rfl, rfl, ⟨m, rfl, hm', hB', hu'⟩, ?_, ?_⟩ ?_
      · show 1 ≤ Int32.toInt (y3 + 1)
        omega
      · show Int32.toInt (y3 + 1) ≤ 7
        omega
      · show (7 - Int32.toInt (y3 + 1)).toNat < (7 - Int32.toInt y3).toNat
        omega
    have h183 : ∀ (q' : dS) (m : Nat) (r4 : Int32), y3.toInt ≤ 6 → 0 ≤ r4.toInt → r4.toInt ≤ 46079 → TS q' → dFr [21, 22, 23] [] q3 q' → i < m → Bq m (q'.1 21) (q'.1 23) → q'.1 23 i = y5 → dOk (zX10_laysDist_183 (fun q x1 x2 => k57 (q, x1, x2)) (fun q x1 x2 x3 x4 => k64 (q, x1, x2, x3, x4)) q' (nI m) (nI i) y5 y3 r4) (fun (o : dS) => (TS o) ∧ (dFr [12, 16, 17, 18, 19, 20, 21, 22, 23] [22, 23, 24, 25, 37, 38] q o) ∧ (Int32.toInt (o.1 0 37) = facI (Int32.toInt (q.1 2 29))) ∧ (Int32.toInt (o.1 0 38) = powI (Int32.toInt (q.1 2 29)))) := by
      intro q' m r4 hy6 h40 h41 hT' hF' hm' hB' hu'
      have h227 : ∀ a b : Int32, dOk (zX10_laysDist_227 (fun q x1 x2 => k57 (q, x1, x2)) (fun q x1 x2 x3 x4 => k64 (q, x1, x2, x3, x4)) q' (nI m) (nI i) y5 y3 a b 1000000000 r4) (fun (o : dS) => (TS o) ∧ (dFr [12, 16, 17, 18, 19, 20, 21, 22, 23] [22, 23, 24, 25, 37, 38] q o) ∧ (Int32.toInt (o.1 0 37) = facI (Int32.toInt (q.1 2 29))) ∧ (Int32.toInt (o.1 0 38) = powI (Int32.toInt (q.1 2 29)))) := by
        intro a b
        unfold zX10_laysDist_227
        refine dOk_V (ok_lesser 1000000000 (b + a)) (fun r1 _ => dOk_G (dg_ok (by omega) (by omega)) (dOk_L (fun q4 e4 => ?_)))
        refine h232 q4 m hy6 (by rw [e4]; exact ts_any hT' rfl) (by rw [e4]; exact hF'.i (by decide) (by decide)) hm' ?_ ?_
        · rw [e4, dui_o (by decide), dui_o (by decide)]; exact hB'
        · rw [e4, dui_o (by decide)]; exact hu'
      unfold zX10_laysDist_183
      refine dOk_G (dg_ok (by omega) (by omega)) (dOk_L (fun v2 _ => dOk_G (dg_ok (by omega) (by omega)) (dOk_L (fun v4 _ => dOk_G (dg_ok (by omega) (by omega)) (dOk_L (fun v6 _ => ?_))))))
      exact dOk_eq rfl rfl (fun _ _ => dOk_G (dg_ok (by omega) (by omega)) (dOk_L (fun v8 _ => h227 _ _))) (fun _ _ => h227 _ _)
    unfold zX10_laysDist_112b
    refine dOk_B (ok_size qd hTd) (fun r1 qe hr => ?_)
    have ee : qe = qd := hr.1
    have hr6 : 0 ≤ Int32.toInt r1 ∧ Int32.toInt r1 ≤ 6 := hr.2.2
    subst ee
    refine dOk_lt rfl rfl (fun c3 => ?_) (fun c3 => ?_)
    · have t1 : Int32.toInt (nI i + 1) = (i : Int) + 1 := ti_add ti (by decide) (by omega) (by omega)
      refine hk57 (qe, nI n', nI i + 1) ⟨hTd, hFd, n', i + 1, rfl, nI_1 i, by omega, hBd⟩ ?_
      show (46081 - Int32.toInt (nI i + 1)).toNat < (46081 - Int32.toInt (nI i)).toNat
      omega
    have hy6 : y3.toInt ≤ 6 := by omega
    refine dOk_B (ok_behind qe y5 y3 hTd ⟨by omega, by omega⟩ ⟨by omega, by omega⟩) (fun r6 qf hf => ?_)
    have ef : qf = qe := hf.1
    have hr66 : 0 ≤ Int32.toInt r6 ∧ Int32.toInt r6 ≤ 46079 := hf.2
    subst ef
    refine dOk_B (ok_priceOf qf r6 y3 hTd ⟨by omega, by omega⟩ ⟨by omega, by omega⟩) (fun r11 qg hg => ?_)
    have eg : qg = qf := hg.1
    subst eg
    refine dOk_eq rfl rfl (fun _ _ => h232 qg n' hy6 hTd hFd hi' hBd hui) (fun _ _ => ?_)
    refine dOk_G (dg_ok (by omega) (by omega)) (dOk_L (fun v15 e15 => ?_))
    have n6 : Int32.toNatClampNeg r6 = (Int32.toInt r6).toNat := rfl
    rw [n6] at e15
    refine dOk_eq rfl rfl (fun c15 _ => ?_) (fun _ _ => h183 qg n' r6 hy6 hr66.1 hr66.2 hTd hFd hi' hBd hui)
    have hfar6 : qg.1 21 (Int32.toInt r6).toNat = 1000000 := by rw [← e15]; exact c15
    refine dOk_G (dg_ok (by omega) (by omega)) (dOk_L (fun v19 e19 => ?_))
    rw [n5] at e19
    have f5 := hBd.2 i hi'
    rw [hui] at f5
    have f19 : 0 ≤ Int32.toInt v19 ∧ Int32.toInt v19 ≤ 1000000 := by rw [e19]; exact hTd.1 21 _
    have f19' : Int32.toInt v19 ≤ (i : Int) := by rw [e19]; exact f5.2.2
    have t19 : Int32.toInt (v19 + 1) = v19.toInt + 1 := ti_add rfl (by decide) (by omega) (by omega)
    have hpush := B_push (v := v19 + 1) (x := r6) (w := (Int32.toInt r6).toNat) hBd hi' (by omega) hfar6 (by rw [t19, hui, e19]) (by omega) (by omega)
    refine dOk_G (dg_ok (by omega) (by omega)) (dOk_L (fun q21 e21 => ?_))
    rw [n6] at e21
    have hT21 : TS q21 := by rw [e21]; exact ts_set hTd (by decide) (show 0 ≤ Int32.toInt (v19 + 1) by omega) (show Int32.toInt (v19 + 1) ≤ 1000000 by omega)
    refine dOk_G (dg_ok (by omega) (by have := hpush.1; omega)) (dOk_L (fun q23 e23 => ?_))
    rw [nn] at e23
    have hT23 : TS q23 := by rw [e23]; exact ts_set hT21 (by decide) (show 0 ≤ Int32.toInt r6 by omega) (show Int32.toInt r6 ≤ 46079 by omega)
    have hF23 : dFr [21, 22, 23] [] q3 q23 := by
      rw [e23]; refine dFr.i ?_ (by decide) (by decide)
      rw [e21]; exact hFd.i (by decide) (by decide)
    have s1 : nI n' + 1 = nI (n' + 1) := nI_1 n'
    rw [s1]
    refine h183 q23 (n' + 1) r6 hy6 hr66.1 hr66.2 hT23 hF23 (by omega) ?_ ?_
    · rw [e23, dui_s, dui_o (by decide), e21, dui_s, dui_o (by decide)]
      exact hpush.2
    · rw [e23, dui_n (by omega), e21, dui_o (by decide)]; exact hui
  unfold zX10_laysDist_8
  refine dFix_ok (fun (a : dS × Int32 × Int32) => TS a.1 ∧ dFr [21, 22, 23] [] q3 a.1 ∧ ∃ n t : Nat, a.2.1 = nI n ∧ a.2.2 = nI t ∧ (t : Int) ≤ 64 * Int32.toInt (q3.1 0 37) ∧ n + sm (fz (a.1.1 21)) t ≤ t ∧ ∀ j : Nat, j < n → 0 ≤ (a.1.1 23 j).toInt ∧ (a.1.1 23 j).toInt < (t : Int) ∧ a.1.1 21 (a.1.1 23 j).toInt.toNat = 0) (fun (a : dS × Int32 × Int32) => (46080 - Int32.toInt a.2.2).toNat) ?_ _ ⟨hT3, dFr.rf, 0, 0, rfl, rfl, by omega, by unfold sm; omega, fun j hj => by omega⟩ _ (dF_gt (by show (46080 - Int32.toInt 0).toNat < 1000000000000; rw [show Int32.toInt 0 = (0 : Int) by decide]; omega))
  intro a ha k hk
  obtain ⟨qa, x1, x2⟩ := a
  obtain ⟨hTa, hFa, n, t, en, et, ht, hcnt, hq⟩ := ha
  replace hTa : TS qa := hTa
  replace hFa : dFr [21, 22, 23] [] q3 qa := hFa
  replace en : x1 = nI n := en
  replace et : x2 = nI t := et
  replace hcnt : n + sm (fz (qa.1 21)) t ≤ t := hcnt
  replace hq : ∀ j : Nat, j < n → 0 ≤ (qa.1 23 j).toInt ∧ (qa.1 23 j).toInt < (t : Int) ∧ qa.1 21 (qa.1 23 j).toInt.toNat = 0 := hq
  subst en et
  have tt : Int32.toInt (nI t) = (t : Int) := nI_toInt (by omega)
  have nt : Int32.toNatClampNeg (nI t) = t := nI_clamp (by omega)
  have tn : Int32.toInt (nI n) = (n : Int) := nI_toInt (by omega)
  have nn : Int32.toNatClampNeg (nI n) = n := nI_clamp (by omega)
  have w37 : qa.1 0 37 = q3.1 0 37 := hFa.2 37 (by decide)
  have m37 : Int32.toInt (64 * qa.1 0 37) = 64 * Int32.toInt (q3.1 0 37) := by rw [w37]; exact ti_mul (by decide) rfl (by omega) (by omega)
  show dOk (zX10_laysDist_8b (fun q x1 x2 => k (q, x1, x2)) qa (nI n) (nI t)) _
  unfold zX10_laysDist_8b
  refine dOk_le m37 tt (fun c => ?_) (fun c => ?_)
  · refine h97 qa n hTa hFa ⟨?_, fun j hj => ?_⟩
    · have hN := cN_eq
      have := sm_split (fz_le (qa.1 21)) t cN (by rw [hN]; omega)
      unfold cF
      omega
    · obtain ⟨z1, z2, z3⟩ := hq j hj
      refine ⟨z1, by omega, ?_⟩
      rw [z3]
      have : (0 : Int32).toInt = 0 := by decide
      omega
  have t1 : Int32.toInt (nI t + 1) = (t : Int) + 1 := ti_add tt (by decide) (by omega) (by omega)
  have h40 : ∀ y0 : Int32, (y0 = 0 ∨ y0 = 1) → dOk (zX10_laysDist_40 (fun q x1 x2 => k (q, x1, x2)) qa (nI n) (nI t) y0) (fun (o : dS) => (TS o) ∧ (dFr [12, 16, 17, 18, 19, 20, 21, 22, 23] [22, 23, 24, 25, 37, 38] q o) ∧ (Int32.toInt (o.1 0 37) = facI (Int32.toInt (q.1 2 29))) ∧ (Int32.toInt (o.1 0 38) = powI (Int32.toInt (q.1 2 29)))) := by
    have hst : ∀ (v w : Int32), 0 ≤ v.toInt → v.toInt ≤ 1000000 → ∀ q2 q4 : dS, q2 = dui qa 21 t v → q4 = dui q2 22 t w → TS q4 ∧ dFr [21, 22, 23] [] q3 q4 ∧ q4.1 21 = upd (qa.1 21) t v ∧ q4.1 23 = qa.1 23 ∧ sm (fz (q4.1 21)) (t + 1) = sm (fz (qa.1 21)) t + (if v = 1000000 then 1 else 0) := by
      intro v w hv0 hv1 q2 q4 e2 e4
      have g21 : q4.1 21 = upd (qa.1 21) t v := by rw [e4, dui_o (by decide), e2, dui_s]
      refine ⟨?_, ?_, g21, ?_, ?_⟩
      · rw [e4]; refine ts_any ?_ rfl
        rw [e2]; exact ts_set hTa (by decide) hv0 hv1
      · rw [e4]; refine dFr.i ?_ (by decide) (by decide)
        rw [e2]; exact hFa.i (by decide) (by decide)
      · rw [e4, dui_o (by decide), e2, dui_o (by decide)]
      · rw [g21]
        show sm (fz (upd (qa.1 21) t v)) t + fz (upd (qa.1 21) t v) t = _
        rw [fz_e, sm_same t (fun k hk => fz_o (by omega))]
    intro y0 hy
    unfold zX10_laysDist_40 zX10_laysDist_56 zX10_laysDist_71 zX10_laysDist_89
    rcases hy with e | e
    · subst e
      rw [if_pos rfl]
      refine dOk_G (dg_ok (by omega) (by omega)) (dOk_L (fun q2 e2 => ?_))
      rw [nt] at e2
      rw [if_pos rfl]
      refine dOk_G (dg_ok (by omega) (by omega)) (dOk_L (fun q4 e4 => ?_))
      rw [nt] at e4
      rw [if_pos rfl]
      obtain ⟨s1, s2, s3, s4, s5⟩ := hst 1000000 0 (by decide) (by decide) q2 q4 e2 e4
      rw [if_pos rfl] at s5
      refine hk (q4, nI n, nI t + 1) ⟨s1, s2, n, t + 1, rfl, nI_1 t, by omega, ?_, ?_⟩ ?_
      · show n + sm (fz (q4.1 21)) (t + 1) ≤ t + 1
        omega
      · show ∀ j : Nat, j < n → 0 ≤ (q4.1 23 j).toInt ∧ (q4.1 23 j).toInt < ((t + 1 : Nat) : Int) ∧ q4.1 21 (q4.1 23 j).toInt.toNat = 0
        intro j hj
        obtain ⟨z1, z2, z3⟩ := hq j hj
        rw [s4, s3]
        refine ⟨z1, by omega, ?_⟩
        rw [show upd (qa.1 21) t 1000000 (qa.1 23 j).toInt.toNat = qa.1 21 (qa.1 23 j).toInt.toNat from if_neg (by omega)]
        exact z3
      · show (46080 - Int32.toInt (nI t + 1)).toNat < (46080 - Int32.toInt (nI t)).toNat
        omega
    · subst e
      rw [if_neg (by decide)]
      refine dOk_G (dg_ok (by omega) (by omega)) (dOk_L (fun q2 e2 => ?_))
      rw [nt] at e2
      rw [if_neg (by decide)]
      refine dOk_G (dg_ok (by omega) (by omega)) (dOk_L (fun q4 e4 => ?_))
      rw [nt] at e4
      rw [if_neg (by decide)]
      obtain ⟨s1, s2, s3, s4, s5⟩ := hst 0 1 (by decide) (by decide) q2 q4 e2 e4
      rw [if_neg (by decide)] at s5
      refine dOk_G (dg_ok (by omega) (by omega)) (dOk_L (fun q6 e6 => ?_))
      rw [nn] at e6
      refine hk (q6, nI n + 1, nI t + 1) ⟨?_, ?_, n + 1, t + 1, nI_1 n, nI_1 t, by omega, ?_, ?_⟩ ?_
      · show TS q6
        rw [e6]; exact ts_set s1 (by decide) (show 0 ≤ Int32.toInt (nI t) by omega) (show Int32.toInt (nI t) ≤ 46079 by omega)
      · show dFr [21, 22, 23] [] q3 q6
        rw [e6]; exact s2.i (by decide) (by decide)
      · show n + 1 + sm (fz (q6.1 21)) (t + 1) ≤ t + 1
        rw [e6, dui_o (by decide)]
        omega
      · show ∀ j : Nat, j < n + 1 → 0 ≤ (q6.1 23 j).toInt ∧ (q6.1 23 j).toInt < ((t + 1 : Nat) : Int) ∧ q6.1 21 (q6.1 23 j).toInt.toNat = 0
        intro j hj
        have g6 : q6.1 21 = upd (qa.1 21) t 0 := by rw [e6, dui_o (by decide)]; exact s3
        rcases Nat.lt_or_ge j n with z | z
        · obtain ⟨z1, z2, z3⟩ := hq j z
          have u6 : q6.1 23 j = qa.1 23 j := by rw [e6, dui_n (by omega), s4]
          rw [u6, g6]
          refine ⟨z1, by omega, ?_⟩
          rw [show upd (qa.1 21) t 0 (qa.1 23 j).toInt.toNat = qa.1 21 (qa.1 23 j).toInt.toNat from if_neg (by omega)]
          exact z3
        · have : j = n := by omega
          subst this
          have u6 : q6.1 23 j = nI t := by rw [e6, dui_e]
          rw [u6, g6]
          refine ⟨by omega, by omega, ?_⟩
          rw [tt]
          exact if_pos (by omega)
      · show (46080 - Int32.toInt (nI t + 1)).toNat < (46080 - Int32.toInt (nI t)).toNat
        omega
  refine dOk_B (ok_isThere qa (nI t) hTa (by omega)) (fun r1 qb hb => ?_)
  have eb : qb = qa := hb.1
  subst eb
  unfold zX10_laysDist_39
  refine dOk_eq rfl rfl (fun _ _ => h40 0 (Or.inl rfl)) (fun _ _ => ?_)
  refine dOk_B (ok_isOrdered qb (nI t) hTa (by omega)) (fun r4 qc hc => ?_)
  have ec : qc = qb := hc.1
  subst ec
  exact dOk_eq rfl rfl (fun _ _ => h40 0 (Or.inl rfl)) (fun _ _ => h40 1 (Or.inr rfl))
end
section
def wz (w : Nat → Int32) (i : Nat) : Nat := if w i = 0 then 0 else 1
theorem wz_le (w : Nat → Int32) (i : Nat) : wz w i ≤ 1 := by
  unfold wz
  by_cases c : w i = 0
  · rw [if_pos c]; exact Nat.zero_le 1
  · rw [if_neg c]; exact Nat.le_refl 1
theorem wz_o {f : Nat → Int32} {i k : Nat} {v : Int32} (h : ¬ k = i) : wz (upd f i v) k = wz f k := by
  unfold wz
  rw [show upd f i v k = f k from if_neg h]
theorem wz_e {f : Nat → Int32} {i : Nat} {v : Int32} : wz (upd f i v) i = if v = 0 then 0 else 1 := by
  unfold wz
  rw [show upd f i v i = v from if_pos rfl]
noncomputable def cW (w : Nat → Int32) : Nat := sm (wz w) cN
theorem cW_le (w : Nat → Int32) : cW w ≤ 46080 := by
  have hN := cN_eq
  have := sm_le (wz_le w) cN
  unfold cW
  omega
theorem cW_dn {w : Nat → Int32} {i : Nat} {v : Int32} (hi : i < 46080) : cW w ≤ cW (upd w i v) + 1 := by
  have h1 : sm (wz (upd w i v)) cN + wz w i = sm (wz w) cN + wz (upd w i v) i := sm_upd (fun k hk => wz_o hk) cN (by rw [cN_eq]; exact hi)
  have h2 := wz_le w i
  unfold cW
  omega
theorem cW_up {w : Nat → Int32} {i : Nat} {v : Int32} (hi : i < 46080) (h0 : w i = 0) (hv : ¬ v = 0) : cW (upd w i v) = cW w + 1 := by
  have h1 : sm (wz (upd w i v)) cN + wz w i = sm (wz w) cN + wz (upd w i v) i := sm_upd (fun k hk => wz_o hk) cN (by rw [cN_eq]; exact hi)
  have h2 : wz w i = 0 := by unfold wz; rw [if_pos h0]
  rw [wz_e, if_neg hv, h2] at h1
  unfold cW
  omega
def sdz (d : Nat → Int32) (i : Nat) : Nat := (d i).toInt.toNat
noncomputable def sd (d : Nat → Int32) : Nat := sm (sdz d) cN
theorem sd_upd {d : Nat → Int32} {i : Nat} {v : Int32} (hi : i < 46080) : sd (upd d i v) + (d i).toInt.toNat = sd d + v.toInt.toNat := by
  have h1 : sm (sdz (upd d i v)) cN + sdz d i = sm (sdz d) cN + sdz (upd d i v) i := sm_upd (fun k hk => by unfold sdz; rw [show upd d i v k = d k from if_neg hk]) cN (by rw [cN_eq]; exact hi)
  have h2 : sdz (upd d i v) i = v.toInt.toNat := by unfold sdz; rw [show upd d i v i = v from if_pos rfl]
  have h3 : sdz d i = (d i).toInt.toNat := rfl
  unfold sd
  omega
theorem sd_le {q : dS} (h : TS q) : sd (q.1 21) ≤ 1000000 * 46080 := by
  have z0 : sd (q.1 21) ≤ 1000000 * cN := by
    refine sm_le (b := 1000000) (fun k => ?_) cN
    have z : (q.1 21 k).toInt ≤ 1000000 := (h.1 21 k).2
    unfold sdz
    omega
  rw [cN_eq] at z0
  exact z0
theorem nar_b1 : vp_nar .boolean 1 = 1 := rfl
theorem nar_b0 : vp_nar .boolean 0 = 0 := rfl
set_option maxRecDepth 100000 in
set_option maxHeartbeats 4000000 in
theorem ok_cheapest (q : dS) (hT : TS q) : dOk (zX10_cheapest q) (fun (o : Int32 × dS) => (TS o.2) ∧ (dFr [12, 16, 17, 18, 19, 20, 21, 23, 24] [22, 23, 24, 25, 37, 38] q o.2)) := by
  unfold zX10_cheapest
  refine dOk_V (ok_laysPrices q hT) (fun q3 h3 => ?_)
  obtain ⟨hT3, hF3, e37, e38⟩ := h3
  have hF3' : dFr [12, 16, 17, 18, 19, 20, 21, 23, 24] [22, 23, 24, 25, 37, 38] q q3 := hF3.w (by decide) (by decide)
  have f37 : 0 ≤ Int32.toInt (q3.1 0 37) ∧ Int32.toInt (q3.1 0 37) ≤ 720 := hT3.1 0 37
  have d0 : (0 : Int32).toInt = 0 := by decide
  have h89 : ∀ (q6 : dS) (n0 : Nat), TS q6 → dFr [19, 21, 23, 24] [] q3 q6 → n0 ≤ cW (q6.1 24) → dOk (zX10_cheapest_89 dF q6 (nI n0) 0) (fun (o : Int32 × dS) => (TS o.2) ∧ (dFr [12, 16, 17, 18, 19, 20, 21, 23, 24] [22, 23, 24, 25, 37, 38] q o.2)) := by
    intro q6 n0 hT6 hF6 hn6
    have hc6 := cW_le (q6.1 24)
    have hs6 := sd_le hT6
    have tn0 : Int32.toInt (nI n0) = (n0 : Int) := nI_toInt (by omega)
    unfold zX10_cheapest_89
    refine dFix_ok (fun (a : dS × Int32 × Int32) => TS a.1 ∧ dFr [19, 21, 23, 24] [] q3 a.1 ∧ (∃ n : Nat, a.2.1 = nI n ∧ n ≤ cW (a.1.1 24)) ∧ 0 ≤ a.2.2.toInt ∧ a.2.2.toInt < 46080) (fun (a : dS × Int32 × Int32) => sd (a.1.1 21) + (Int32.toInt a.2.1).toNat) ?_ _ ⟨hT6, hF6, ⟨n0, rfl, hn6⟩, (show (0 : Int) ≤ Int32.toInt 0 by omega), (show Int32.toInt 0 < (46080 : Int) by omega)⟩ _ (dF_gt (by show sd (q6.1 21) + (Int32.toInt (nI n0)).toNat < 1000000000000; omega))
    intro a ha k89 hk89
    obtain ⟨qa, x1, x2⟩ := a
    obtain ⟨hTa, hFa, ⟨n, en, hna⟩, x20, x21⟩ := ha
    replace hTa : TS qa := hTa
    replace hFa : dFr [19, 21, 23, 24] [] q3 qa := hFa
    replace en : x1 = nI n := en
    replace hna : n ≤ cW (qa.1 24) := hna
    replace x20 : 0 ≤ x2.toInt := x20
    replace x21 : x2.toInt < 46080 := x21
    subst en
    have hca := cW_le (qa.1 24)
    have tn : Int32.toInt (nI n) = (n : Int) := nI_toInt (by omega)
    show dOk (zX10_cheapest_89b (fun q x1 x2 => k89 (q, x1, x2)) qa (nI n) x2) _
    unfold zX10_cheapest_89b zX10_cheapest_259
    refine dOk_le (A := (n : Int)) (B := 0) tn d0 (fun c => ?_) (fun c => ?_)
    · refine dOk_B (ok_towerNow qa hTa) (fun r1 qb hb => ?_)
      obtain ⟨hTb, hFb, r0, _⟩ := hb
      replace hTb : TS qb := hTb
      replace r0 : 0 ≤ Int32.toInt r1 ∧ Int32.toInt r1 ≤ 46079 := r0
      have hFz : dFr [12, 16, 17, 18, 19, 20, 21, 23, 24] [22, 23, 24, 25, 37, 38] q qb := (hF3'.t hFa (by decide) (by decide)).t hFb (by decide) (by decide)
      refine dOk_G (dg_ok (by omega) (by omega)) (dOk_L (fun v5 _ => ?_))
      exact dOk_eq rfl rfl (fun _ _ => dOk_some ⟨hTb, hFz⟩) (fun _ _ => dOk_some ⟨hTb, hFz⟩)
    refine dOk_G (dg_ok (by omega) (by omega)) (dOk_L (fun v7 e7 => dOk_L (fun v8 e8 => ?_)))
    have f7 : 0 ≤ Int32.toInt v7 ∧ Int32.toInt v7 ≤ 46079 := by rw [e7]; exact hTa.1 23 _
    have t8 : Int32.toInt (x2 + 1) = x2.toInt + 1 := ti_add rfl (by decide) (by omega) (by omega)
    have t8' : Int32.toInt v8 = (x2.toInt + 1) % 46080 := by rw [e8]; exact ti_rem t8 (by decide) (by omega) (by omega)
    have n7 : Int32.toNatClampNeg v7 = (Int32.toInt v7).toNat := rfl
    refine dOk_G (dg_ok (by omega) (by omega)) (dOk_L (fun q10 e10 => ?_))
    rw [n7] at e10
    have hT10 : TS q10 := by rw [e10]; exact ts_any hTa rfl
    have hF10 : dFr [19, 21, 23, 24] [] q3 q10 := by rw [e10]; exact hFa.i (by decide) (by decide)
    have g21 : q10.1 21 = qa.1 21 := by rw [e10, dui_o (by decide)]
    have g24 : cW (qa.1 24) ≤ cW (q10.1 24) + 1 := by rw [e10, dui_s]; exact cW_dn (by omega)
    obtain ⟨m, em⟩ : ∃ m : Nat, n = m + 1 := ⟨n - 1, by omega⟩
    have e1 : nI n + (-1) = nI m := by rw [em]; exact pk_m1 m
    rw [e1]
    generalize hS : sd (qa.1 21) + n = S0
    have hmu : ∀ (q' : dS) (m' : Nat), m' ≤ 46080 → sd (q'.1 21) + m' < S0 → sd (q'.1 21) + (Int32.toInt (nI m')).toNat < sd (qa.1 21) + (Int32.toInt (nI n)).toNat := by
      intro q' m' hm' hs'
      have : Int32.toInt (nI m') = (m' : Int) := nI_toInt (by omega)
      omega
    unfold zX10_cheapest_120
    refine dFix_ok (fun (a : dS × Int32 × Int32 × Int32 × Int32) => TS a.1 ∧ dFr [19, 21, 23, 24] [] q3 a.1 ∧ a.2.2.1 = v8 ∧ a.2.2.2.1 = v7 ∧ (∃ m : Nat, a.2.1 = nI m ∧ m ≤ cW (a.1.1 24) ∧ sd (a.1.1 21) + m + 1 ≤ S0) ∧ 1 ≤ a.2.2.2.2.toInt ∧ a.2.2.2.2.toInt ≤ 7) (fun (a : dS × Int32 × Int32 × Int32 × Int32) => (7 - Int32.toInt a.2.2.2.2).toNat) ?_ _ ⟨hT10, hF10, rfl, rfl, ⟨m, rfl, (show m ≤ cW (q10.1 24) by omega), (show sd (q10.1 21) + m + 1 ≤ S0 by rw [g21]; omega)⟩, by show (1 : Int) ≤ Int32.toInt 1; decide, by show Int32.toInt 1 ≤ (7 : Int); decide⟩ _ (dF_gt (by show (7 - Int32.toInt 1).toNat < 1000000000000; decide))
    intro a ha k64 hk64
    obtain ⟨qd, y1, y2, y5, y3⟩ := a
    obtain ⟨hTd, hFd, e2, e5, ⟨m1, em1, hm1, hsd1⟩, y30, y31⟩ := ha
    replace hTd : TS qd := hTd
    replace hFd : dFr [19, 21, 23, 24] [] q3 qd := hFd
    replace e2 : y2 = v8 := e2
    replace e5 : y5 = v7 := e5
    replace em1 : y1 = nI m1 := em1
    replace hm1 : m1 ≤ cW (qd.1 24) := hm1
    replace hsd1 : sd (qd.1 21) + m1 + 1 ≤ S0 := hsd1
    replace y30 : 1 ≤ y3.toInt := y30
    replace y31 : y3.toInt ≤ 7 := y31
    subst em1
    rw [← e2] at t8'
    rw [← e5] at f7
    have hcd := cW_le (qd.1 24)
    have tm1 : Int32.toInt (nI m1) = (m1 : Int) := nI_toInt (by omega)
    show dOk (zX10_cheapest_120b _ (fun q x1 x2 x3 x4 => k64 (q, x1, x2, x3, x4)) qd (nI m1) y2 y5 y3) _
    unfold zX10_cheapest_120b
    refine dOk_B (ok_size qd hTd) (fun r1 qe hr => ?_)
    have ee : qe = qd := hr.1
    have hr6 : 0 ≤ Int32.toInt r1 ∧ Int32.toInt r1 ≤ 6 := hr.2.2
    subst ee
    refine dOk_lt rfl rfl (fun c3 => ?_) (fun c3 => ?_)
    · refine hk89 (qe, nI m1, y2) ⟨hTd, hFd, ⟨m1, rfl, hm1⟩, (show 0 ≤ Int32.toInt y2 by omega), (show Int32.toInt y2 < 46080 by omega)⟩ ?_
      exact hmu qe m1 (by omega) (by omega)
    have y3p : Int32.toInt (y3 + 1) = y3.toInt + 1 := ti_add rfl (by decide) (by omega) (by omega)
    have h229 : ∀ (q' : dS) (m' : Nat), TS q' → dFr [19, 21, 23, 24] [] q3 q' → m' ≤ cW (q'.1 24) → sd (q'.1 21) + m' + 1 ≤ S0 → dOk (zX10_cheapest_229 (fun q x1 x2 => k89 (q, x1, x2)) (fun q x1 x2 x3 x4 => k64 (q, x1, x2, x3, x4)) q' (nI m') y2 y5 y3) (fun (o : Int32 × dS) => (TS o.2) ∧ (dFr [12, 16, 17, 18, 19, 20, 21, 23, 24] [22, 23, 24, 25, 37, 38] q o.2)) := by
      intro q' m' hT' hF' hm' hs'
      unfold zX10_cheapest_229
      refine hk64 (q', nI m', y2, y5, y3 + 1) ⟨hT', hF', e2, e5, ⟨m', rfl, hm', hs'⟩, ?_, ?_⟩ ?_
      · show 1 ≤ Int32.toInt (y3 + 1)
        omega
      · show Int32.toInt (y3 + 1) ≤ 7
        omega
      · show (7 - Int32.toInt (y3 + 1)).toNat < (7 - Int32.toInt y3).toNat
        omega
    refine dOk_B (ok_behind qe y5 y3 hTd ⟨by omega, by omega⟩ ⟨by omega, by omega⟩) (fun r6 qf hf => ?_)
    have ef : qf = qe := hf.1
    have hr66 : 0 ≤ Int32.toInt r6 ∧ Int32.toInt r6 ≤ 46079 := hf.2
    subst ef
    refine dOk_B (ok_priceOf qf r6 y3 hTd ⟨by omega, by omega⟩ ⟨by omega, by omega⟩) (fun r11 qg hg => ?_)
    have eg : qg = qf := hg.1
    have hr11 : -1 ≤ Int32.toInt r11 ∧ Int32.toInt r11 ≤ 99 := hg.2
    subst eg
    refine dOk_eq (A := r11.toInt) (B := -1) rfl (by decide) (fun _ _ => h229 qg m1 hTd hFd hm1 hsd1) (fun _ c11 => ?_)
    have n5 : Int32.toNatClampNeg y5 = (Int32.toInt y5).toNat := rfl
    have n6 : Int32.toNatClampNeg r6 = (Int32.toInt r6).toNat := rfl
    refine dOk_G (dg_ok (by omega) (by omega)) (dOk_L (fun v11 e11 => dOk_G (dg_ok (by omega) (by omega)) (dOk_L (fun v13 e13 => ?_))))
    rw [n6] at e13
    have f11 : 0 ≤ Int32.toInt v11 ∧ Int32.toInt v11 ≤ 1000000 := by rw [e11]; exact hTd.1 21 _
    have f13 : 0 ≤ Int32.toInt v13 ∧ Int32.toInt v13 ≤ 1000000 := by rw [e13]; exact hTd.1 21 _
    have t11 : Int32.toInt (v11 + r11) = v11.toInt + r11.toInt := ti_add rfl rfl (by omega) (by omega)
    refine dOk_lt rfl rfl (fun c13 => ?_) (fun _ => h229 qg m1 hTd hFd hm1 hsd1)
    refine dOk_G (dg_ok (by omega) (by omega)) (dOk_L (fun v15 e15 => dOk_G (dg_ok (by omega) (by omega)) (dOk_L (fun q17 e17 => ?_))))
    rw [← e11] at e15
    rw [e15, n6] at e17
    have hT17 : TS q17 := by rw [e17]; exact ts_set hTd (by decide) (show 0 ≤ Int32.toInt (v11 + r11) by omega) (show Int32.toInt (v11 + r11) ≤ 1000000 by omega)
    have hF17 : dFr [19, 21, 23, 24] [] q3 q17 := by rw [e17]; exact hFd.i (by decide) (by decide)
    have g17 : q17.1 24 = qg.1 24 := by rw [e17, dui_o (by decide)]
    have s17 : sd (q17.1 21) + 1 ≤ sd (qg.1 21) := by
      have z := sd_upd (d := qg.1 21) (i := (Int32.toInt r6).toNat) (v := v11 + r11) (by omega)
      rw [← e13] at z
      rw [e17, dui_s]
      omega
    refine dOk_G (dg_ok (by omega) (by omega)) (dOk_L (fun v19 e19 => ?_))
    rw [n6] at e19
    refine dOk_eq rfl rfl (fun c19 _ => ?_) (fun _ _ => h229 q17 m1 hT17 hF17 (by rw [g17]; exact hm1) (by omega))
    refine dOk_G (dg_ok (by omega) (by omega)) (dOk_L (fun q21 e21 => ?_))
    rw [n6, nar_b1] at e21
    have hT21 : TS q21 := by rw [e21]; exact ts_any hT17 rfl
    have hF21 : dFr [19, 21, 23, 24] [] q3 q21 := by rw [e21]; exact hF17.i (by decide) (by decide)
    have c21 : cW (q21.1 24) = cW (qg.1 24) + 1 := by
      rw [e21, dui_s, g17]
      refine cW_up (by omega) ?_ (by decide)
      rw [← g17, ← e19]; exact c19
    have t22 : Int32.toInt (y2 + nI m1) = y2.toInt + m1 := ti_add rfl tm1 (by omega) (by omega)
    have t23 : Int32.toInt (y2 + nI m1 - (y2 + nI m1) / 46080 * 46080) = (y2.toInt + m1) % 46080 := ti_rem t22 (by decide) (by omega) (by omega)
    refine dOk_G (dg_ok (by omega) (by omega)) (dOk_L (fun q23 e23 => ?_))
    have hT23 : TS q23 := by rw [e23]; exact ts_set hT21 (by decide) (show 0 ≤ Int32.toInt r6 by omega) (show Int32.toInt r6 ≤ 46079 by omega)
    have hF23 : dFr [19, 21, 23, 24] [] q3 q23 := by rw [e23]; exact hF21.i (by decide) (by decide)
    have s1 : nI m1 + 1 = nI (m1 + 1) := nI_1 m1
    rw [s1]
    refine h229 q23 (m1 + 1) hT23 hF23 ?_ ?_
    · rw [e23, dui_o (by decide), c21]; omega
    · rw [e23, dui_o (by decide), e21, dui_o (by decide)]; omega
  unfold zX10_cheapest_8
  refine dFix_ok (fun (a : dS × Int32 × Int32) => TS a.1 ∧ dFr [19, 21, 23, 24] [] q3 a.1 ∧ ∃ n t : Nat, a.2.1 = nI n ∧ a.2.2 = nI t ∧ (t : Int) ≤ 64 * Int32.toInt (q3.1 0 37) ∧ n ≤ t ∧ n ≤ sm (wz (a.1.1 24)) t) (fun (a : dS × Int32 × Int32) => (46080 - Int32.toInt a.2.2).toNat) ?_ _ ⟨hT3, dFr.rf, 0, 0, rfl, rfl, by omega, by omega, by omega⟩ _ (dF_gt (by show (46080 - Int32.toInt 0).toNat < 1000000000000; rw [show Int32.toInt 0 = (0 : Int) by decide]; omega))
  intro a ha k hk
  obtain ⟨qa, x1, x2⟩ := a
  obtain ⟨hTa, hFa, n, t, en, et, ht, hnt, hcnt⟩ := ha
  replace hTa : TS qa := hTa
  replace hFa : dFr [19, 21, 23, 24] [] q3 qa := hFa
  replace en : x1 = nI n := en
  replace et : x2 = nI t := et
  replace hcnt : n ≤ sm (wz (qa.1 24)) t := hcnt
  subst en et
  have tt : Int32.toInt (nI t) = (t : Int) := nI_toInt (by omega)
  have nt : Int32.toNatClampNeg (nI t) = t := nI_clamp (by omega)
  have tn : Int32.toInt (nI n) = (n : Int) := nI_toInt (by omega)
  have nn : Int32.toNatClampNeg (nI n) = n := nI_clamp (by omega)
  have w37 : qa.1 0 37 = q3.1 0 37 := hFa.2 37 (by decide)
  have m37 : Int32.toInt (64 * qa.1 0 37) = 64 * Int32.toInt (q3.1 0 37) := by rw [w37]; exact ti_mul (by decide) rfl (by omega) (by omega)
  show dOk (zX10_cheapest_8b (fun q x1 x2 => k (q, x1, x2)) qa (nI n) (nI t)) _
  unfold zX10_cheapest_8b
  refine dOk_le m37 tt (fun c => ?_) (fun c => ?_)
  · refine h89 qa n hTa hFa ?_
    have hmono : ∀ m : Nat, t ≤ m → sm (wz (qa.1 24)) t ≤ sm (wz (qa.1 24)) m := by
      intro m
      induction m with
      | zero => intro h; have : t = 0 := by omega
                subst this; exact Nat.le_refl _
      | succ m ih =>
        intro h
        by_cases z : t = m + 1
        · subst z; exact Nat.le_refl _
        · have := ih (by omega)
          show _ ≤ sm (wz (qa.1 24)) m + wz (qa.1 24) m
          omega
    have := hmono cN (by rw [cN_eq]; omega)
    unfold cW
    omega
  have t1 : Int32.toInt (nI t + 1) = (t : Int) + 1 := ti_add tt (by decide) (by omega) (by omega)
  have h40 : ∀ y0 : Int32, (y0 = 0 ∨ y0 = 1) → dOk (zX10_cheapest_40 (fun q x1 x2 => k (q, x1, x2)) qa (nI n) (nI t) y0) (fun (o : Int32 × dS) => (TS o.2) ∧ (dFr [12, 16, 17, 18, 19, 20, 21, 23, 24] [22, 23, 24, 25, 37, 38] q o.2)) := by
    have hst : ∀ (v w : Int32), 0 ≤ v.toInt → v.toInt ≤ 1000000 → ∀ q2 q4 : dS, q2 = dui qa 21 t v → q4 = dui q2 24 t w → TS q4 ∧ dFr [19, 21, 23, 24] [] q3 q4 ∧ q4.1 24 = upd (qa.1 24) t w ∧ sm (wz (q4.1 24)) (t + 1) = sm (wz (qa.1 24)) t + (if w = 0 then 0 else 1) := by
      intro v w hv0 hv1 q2 q4 e2 e4
      have g24 : q4.1 24 = upd (qa.1 24) t w := by rw [e4, dui_s, e2, dui_o (by decide)]
      refine ⟨?_, ?_, g24, ?_⟩
      · rw [e4]; refine ts_any ?_ rfl
        rw [e2]; exact ts_set hTa (by decide) hv0 hv1
      · rw [e4]; refine dFr.i ?_ (by decide) (by decide)
        rw [e2]; exact hFa.i (by decide) (by decide)
      · rw [g24]
        show sm (wz (upd (qa.1 24) t w)) t + wz (upd (qa.1 24) t w) t = _
        rw [wz_e, sm_same t (fun k hk => wz_o (by omega))]
    intro y0 hy
    unfold zX10_cheapest_40 zX10_cheapest_56 zX10_cheapest_81
    rcases hy with e | e
    · subst e
      rw [if_pos rfl]
      refine dOk_G (dg_ok (by omega) (by omega)) (dOk_L (fun q2 e2 => dOk_G (dg_ok (by omega) (by omega)) (dOk_L (fun q4 e4 => ?_))))
      rw [nt] at e2
      rw [nt, nar_b0] at e4
      rw [if_pos rfl]
      obtain ⟨s1, s2, s3, s5⟩ := hst 1000000 0 (by decide) (by decide) q2 q4 e2 e4
      rw [if_pos rfl] at s5
      refine hk (q4, nI n, nI t + 1) ⟨s1, s2, n, t + 1, rfl, nI_1 t, by omega, by omega, ?_⟩ ?_
      · show n ≤ sm (wz (q4.1 24)) (t + 1)
        omega
      · show (46080 - Int32.toInt (nI t + 1)).toNat < (46080 - Int32.toInt (nI t)).toNat
        omega
    · subst e
      rw [if_neg (by decide)]
      refine dOk_G (dg_ok (by omega) (by omega)) (dOk_L (fun q2 e2 => dOk_G (dg_ok (by omega) (by omega)) (dOk_L (fun q4 e4 => ?_))))
      rw [nt] at e2
      rw [nt, nar_b1] at e4
      rw [if_neg (by decide)]
      obtain ⟨s1, s2, s3, s5⟩ := hst 0 1 (by decide) (by decide) q2 q4 e2 e4
      rw [if_neg (by decide)] at s5
      refine dOk_G (dg_ok (by omega) (by omega)) (dOk_L (fun q6 e6 => ?_))
      rw [nn] at e6
      refine hk (q6, nI n + 1, nI t + 1) ⟨?_, ?_, n + 1, t + 1, nI_1 n, nI_1 t, by omega, by omega, ?_⟩ ?_
      · show TS q6
        rw [e6]; exact ts_set s1 (by decide) (show 0 ≤ Int32.toInt (nI t) by omega) (show Int32.toInt (nI t) ≤ 46079 by omega)
      · show dFr [19, 21, 23, 24] [] q3 q6
        rw [e6]; exact s2.i (by decide) (by decide)
      · show n + 1 ≤ sm (wz (q6.1 24)) (t + 1)
        rw [e6, dui_o (by decide)]
        omega
      · show (46080 - Int32.toInt (nI t + 1)).toNat < (46080 - Int32.toInt (nI t)).toNat
        omega
  refine dOk_B (ok_isThere qa (nI t) hTa (by omega)) (fun r1 qb hb => ?_)
  have eb : qb = qa := hb.1
  subst eb
  unfold zX10_cheapest_39
  refine dOk_eq rfl rfl (fun _ _ => h40 0 (Or.inl rfl)) (fun _ _ => ?_)
  refine dOk_B (ok_isOrdered qb (nI t) hTa (by omega)) (fun r4 qc hc => ?_)
  have ec : qc = qb := hc.1
  subst ec
  exact dOk_eq rfl rfl (fun _ _ => h40 0 (Or.inl rfl)) (fun _ _ => h40 1 (Or.inr rfl))
end
section
set_option maxHeartbeats 4000000 in
set_option maxRecDepth 100000 in
theorem ok_many (q : dS) (hT : TS q) : dOk (zX10_many q) (fun (o : Int32 × dS) => (TS o.2) ∧ (dFr [12, 16, 17, 18, 19, 20, 21, 22, 23] [22, 23, 24, 25, 37, 38] q o.2)) := by
  unfold zX10_many
  refine dOk_V (ok_laysDist q hT) (fun q_1 h_2 => ?_)
  replace h_2 : (TS q_1) ∧ (dFr [12, 16, 17, 18, 19, 20, 21, 22, 23] [22, 23, 24, 25, 37, 38] q q_1) ∧ (Int32.toInt (q_1.1 0 37) = facI (Int32.toInt (q.1 2 29))) ∧ (Int32.toInt (q_1.1 0 38) = powI (Int32.toInt (q.1 2 29))) := h_2
  obtain ⟨i_3, i_4, i_5, i_6⟩ := h_2
  have hFq_1 : dFr [12, 16, 17, 18, 19, 20, 21, 22, 23] [22, 23, 24, 25, 37, 38] q q_1 := (dFr.rf (q := q)).t i_4 (by decide) (by decide)
  have f_7 : 0 ≤ Int32.toInt (q_1.1 0 37) ∧ Int32.toInt (q_1.1 0 37) ≤ 720 := i_3.1 0 37
  have f_8 : 0 ≤ Int32.toInt (q.1 2 29) ∧ Int32.toInt (q.1 2 29) ≤ 6 := hT.1 2 29
  have f_9 : 0 ≤ Int32.toInt (q_1.1 0 38) ∧ Int32.toInt (q_1.1 0 38) ≤ 64 := i_3.1 0 38
  refine dOk_B (ok_towerNow q_1 i_3) (fun r_10 q_11 h_12 => ?_)
  replace h_12 : (TS q_11) ∧ (dFr [19] [] q_1 q_11) ∧ (0 ≤ Int32.toInt r_10 ∧ Int32.toInt r_10 ≤ 46079) ∧ (Int32.toInt r_10 < 64 * facI (Int32.toInt (q_1.1 2 29))) := h_12
  obtain ⟨i_13, i_14, i_15, i_16⟩ := h_12
  have hFq_11 : dFr [12, 16, 17, 18, 19, 20, 21, 22, 23] [22, 23, 24, 25, 37, 38] q q_11 := hFq_1.t i_14 (by decide) (by decide)
  have f_17 : 0 ≤ Int32.toInt (q_1.1 2 29) ∧ Int32.toInt (q_1.1 2 29) ≤ 6 := i_3.1 2 29
  have w_18 : Int32.toInt (q_1.1 2 29) = Int32.toInt (q.1 2 29) := by rw [i_4.1 2 (by decide) (by decide)]
  refine dOk_G (dg_ok (show 0 ≤ Int32.toInt r_10 by omega) (show Int32.toInt r_10 < ((46080 : Nat) : Int) by omega)) ?_
  have n_19 : ((Int32.toNatClampNeg r_10 : Nat) : Int) = Int32.toInt r_10 := cl_eq (by omega)
  refine dOk_L (fun v_20 ev_20 => ?_)
  exact dOk_some (show (TS q_11) ∧ (dFr [12, 16, 17, 18, 19, 20, 21, 22, 23] [22, 23, 24, 25, 37, 38] q q_11) from ⟨i_13, hFq_11⟩)

set_option maxHeartbeats 4000000 in
set_option maxRecDepth 100000 in
theorem ok_worst (q : dS) (p1 : Int32) (hT : TS q) : dOk (zX10_worst q p1) (fun (o : Int32 × dS) => (TS o.2) ∧ (dFr [12, 16, 17, 18, 19, 20, 21, 22, 23] [22, 23, 24, 25, 37, 38] q o.2)) := by
  unfold zX10_worst
  refine dOk_V (ok_lies p1 0 2) (fun r_1 h_2 => ?_)
  replace h_2 : ((Int32.toInt r_1 = 1 ∧ (0 : Int) ≤ Int32.toInt p1 ∧ Int32.toInt p1 ≤ (2 : Int)) ∨ (Int32.toInt r_1 = 0 ∧ (Int32.toInt p1 < (0 : Int) ∨ (2 : Int) < Int32.toInt p1))) := h_2
  have i_3 := h_2
  refine dOk_eq (A := Int32.toInt r_1) (B := 0) rfl (by decide) (fun c_4z c_4 => ?_) (fun c_5z c_5 => ?_)
  · exact dOk_some (show (TS q) ∧ (dFr [12, 16, 17, 18, 19, 20, 21, 22, 23] [22, 23, 24, 25, 37, 38] q q) from ⟨hT, (dFr.rf (q := q))⟩)
  · refine dOk_V (ok_laysDist q hT) (fun q_7 h_8 => ?_)
    replace h_8 : (TS q_7) ∧ (dFr [12, 16, 17, 18, 19, 20, 21, 22, 23] [22, 23, 24, 25, 37, 38] q q_7) ∧ (Int32.toInt (q_7.1 0 37) = facI (Int32.toInt (q.1 2 29))) ∧ (Int32.toInt (q_7.1 0 38) = powI (Int32.toInt (q.1 2 29))) := h_8
    obtain ⟨i_9, i_10, i_11, i_12⟩ := h_8
    have hFq_7 : dFr [12, 16, 17, 18, 19, 20, 21, 22, 23] [22, 23, 24, 25, 37, 38] q q_7 := (dFr.rf (q := q)).t i_10 (by decide) (by decide)
    have f_13 : 0 ≤ Int32.toInt (q_7.1 0 37) ∧ Int32.toInt (q_7.1 0 37) ≤ 720 := i_9.1 0 37
    have f_14 : 0 ≤ Int32.toInt (q.1 2 29) ∧ Int32.toInt (q.1 2 29) ≤ 6 := hT.1 2 29
    have f_15 : 0 ≤ Int32.toInt (q_7.1 0 38) ∧ Int32.toInt (q_7.1 0 38) ≤ 64 := i_9.1 0 38
    unfold zX10_worst_25
    refine dFix_ok (fun (a : dS × Int32 × Int32 × Int32 × Int32 × Int32) => (a.1 = q_7) ∧ (a.2.1 = p1) ∧ (0 ≤ Int32.toInt a.2.2.2.2.2) ∧ (Int32.toInt a.2.2.2.2.2 ≤ 46080)) (fun (a : dS × Int32 × Int32 × Int32 × Int32 × Int32) => (46080 - Int32.toInt a.2.2.2.2.2).toNat) ?_ _ ?_ _ (dF_gt ?_)
    · intro a ha k_17 hk_16
      obtain ⟨q_18, x1_19, x2_20, x3_21, x4_22, x5_23⟩ := a
      replace ha : (q_18 = q_7) ∧ (x1_19 = p1) ∧ (0 ≤ Int32.toInt x5_23) ∧ (Int32.toInt x5_23 ≤ 46080) := ha
      obtain ⟨a_24, a_25, a_26, a_27⟩ := ha
      show dOk (zX10_worst_25b  (fun q x1 x2 x3 x4 x5 => k_17 (q, x1, x2, x3, x4, x5)) q_18 x1_19 x2_20 x3_21 x4_22 x5_23) _
      unfold zX10_worst_25b
      subst q_18
      subst x1_19
      try have t_28 : Int32.toInt (64 * q_7.1 0 37) = 64 * Int32.toInt (q_7.1 0 37) := ti_mul (by decide) rfl (by omega) (by omega)
      refine dOk_le (A := Int32.toInt (64 * q_7.1 0 37)) (B := Int32.toInt x5_23) rfl rfl (fun c_29 => ?_) (fun c_30 => ?_)
      · refine dOk_eq (A := Int32.toInt p1) (B := 0) rfl (by decide) (fun c_31z c_31 => ?_) (fun c_32z c_32 => ?_)
        · unfold zX10_worst_135
          exact dOk_some (show (TS q_7) ∧ (dFr [12, 16, 17, 18, 19, 20, 21, 22, 23] [22, 23, 24, 25, 37, 38] q q_7) from ⟨i_9, hFq_7⟩)
        · refine dOk_eq (A := Int32.toInt p1) (B := 1) rfl (by decide) (fun c_34z c_34 => ?_) (fun c_35z c_35 => ?_)
          · unfold zX10_worst_135
            exact dOk_some (show (TS q_7) ∧ (dFr [12, 16, 17, 18, 19, 20, 21, 22, 23] [22, 23, 24, 25, 37, 38] q q_7) from ⟨i_9, hFq_7⟩)
          · unfold zX10_worst_135
            exact dOk_some (show (TS q_7) ∧ (dFr [12, 16, 17, 18, 19, 20, 21, 22, 23] [22, 23, 24, 25, 37, 38] q q_7) from ⟨i_9, hFq_7⟩)
      · refine dOk_B (ok_isThere q_7 x5_23 i_9 (show 0 ≤ Int32.toInt x5_23 by omega)) (fun r_37 q_38 h_39 => ?_)
        replace h_39 : (q_38 = q_7) ∧ ((Int32.toInt r_37 = 0 ∨ Int32.toInt r_37 = 1)) := h_39
        obtain ⟨i_40, i_41⟩ := h_39
        subst q_38
        refine dOk_eq (A := Int32.toInt r_37) (B := 0) rfl (by decide) (fun c_42z c_42 => ?_) (fun c_43z c_43 => ?_)
        · unfold zX10_worst_110
          try have t_45 : Int32.toInt (x5_23 + 1) = Int32.toInt x5_23 + 1 := ti_add rfl (by decide) (by omega) (by omega)
          exact hk_16 (q_7, p1, x2_20, x3_21, x4_22, (x5_23 + 1)) (show (q_7 = q_7) ∧ (p1 = p1) ∧ (0 ≤ Int32.toInt (x5_23 + 1)) ∧ (Int32.toInt (x5_23 + 1) ≤ 46080) from ⟨rfl, rfl, by omega, by omega⟩) (show (46080 - Int32.toInt (x5_23 + 1)).toNat < (46080 - Int32.toInt x5_23).toNat by omega)
        · refine dOk_G (dg_ok (show 0 ≤ Int32.toInt x5_23 by omega) (show Int32.toInt x5_23 < ((46080 : Nat) : Int) by omega)) ?_
          have n_46 : ((Int32.toNatClampNeg x5_23 : Nat) : Int) = Int32.toInt x5_23 := cl_eq (by omega)
          refine dOk_L (fun v_47 ev_47 => ?_)
          have f_48 : 0 ≤ Int32.toInt v_47 ∧ Int32.toInt v_47 ≤ 1000000 := by rw [ev_47]; exact i_9.1 21 _
          refine dOk_eq (A := Int32.toInt v_47) (B := 1000000) rfl (by decide) (fun c_49z c_49 => ?_) (fun c_50z c_50 => ?_)
          · unfold zX10_worst_110
            try have t_52 : Int32.toInt (x5_23 + 1) = Int32.toInt x5_23 + 1 := ti_add rfl (by decide) (by omega) (by omega)
            exact hk_16 (q_7, p1, x2_20, x3_21, x4_22, (x5_23 + 1)) (show (q_7 = q_7) ∧ (p1 = p1) ∧ (0 ≤ Int32.toInt (x5_23 + 1)) ∧ (Int32.toInt (x5_23 + 1) ≤ 46080) from ⟨rfl, rfl, by omega, by omega⟩) (show (46080 - Int32.toInt (x5_23 + 1)).toNat < (46080 - Int32.toInt x5_23).toNat by omega)
          · refine dOk_G (dg_ok (show 0 ≤ Int32.toInt x5_23 by omega) (show Int32.toInt x5_23 < ((46080 : Nat) : Int) by omega)) ?_
            refine dOk_L (fun v_53 ev_53 => ?_)
            have w_54 : Int32.toInt v_53 = Int32.toInt v_47 := by rw [ev_53, ev_47]
            have f_55 : 0 ≤ Int32.toInt v_53 ∧ Int32.toInt v_53 ≤ 1000000 := by rw [ev_53]; exact i_9.1 21 _
            refine dOk_le (A := Int32.toInt v_53) (B := Int32.toInt x2_20) rfl rfl (fun c_56 => ?_) (fun c_57 => ?_)
            · refine dOk_G (dg_ok (show 0 ≤ Int32.toInt x5_23 by omega) (show Int32.toInt x5_23 < ((46080 : Nat) : Int) by omega)) ?_
              refine dOk_L (fun v_58 ev_58 => ?_)
              have w_59 : Int32.toInt v_58 = Int32.toInt v_47 := by rw [ev_58, ev_47]
              have f_60 : 0 ≤ Int32.toInt v_58 ∧ Int32.toInt v_58 ≤ 1000000 := by rw [ev_58]; exact i_9.1 21 _
              refine dOk_eq (A := Int32.toInt v_58) (B := Int32.toInt x2_20) rfl rfl (fun c_61z c_61 => ?_) (fun c_62z c_62 => ?_)
              · unfold zX10_worst_94
                refine dOk_G (dg_ok (show 0 ≤ Int32.toInt x5_23 by omega) (show Int32.toInt x5_23 < ((46080 : Nat) : Int) by omega)) ?_
                refine dOk_L (fun v_64 ev_64 => ?_)
                have w_65 : Int32.toInt v_64 = Int32.toInt v_47 := by rw [ev_64, ev_47]
                have f_66 : 0 ≤ Int32.toInt v_64 ∧ Int32.toInt v_64 ≤ 1000000 := by rw [ev_64]; exact i_9.1 21 _
                refine dOk_V (ok_greater x2_20 v_64) (fun r_67 h_68 => ?_)
                replace h_68 : (Int32.toInt x2_20 ≤ Int32.toInt r_67 ∧ Int32.toInt v_64 ≤ Int32.toInt r_67 ∧ (Int32.toInt r_67 = Int32.toInt x2_20 ∨ Int32.toInt r_67 = Int32.toInt v_64)) := h_68
                have i_69 := h_68
                unfold zX10_worst_110
                try have t_70 : Int32.toInt (x3_21 + 1) = Int32.toInt x3_21 + 1 := ti_add rfl (by decide) (by omega) (by omega)
                try have t_71 : Int32.toInt (x4_22 + 1) = Int32.toInt x4_22 + 1 := ti_add rfl (by decide) (by omega) (by omega)
                try have t_72 : Int32.toInt (x5_23 + 1) = Int32.toInt x5_23 + 1 := ti_add rfl (by decide) (by omega) (by omega)
                exact hk_16 (q_7, p1, r_67, (x3_21 + 1), (x4_22 + 1), (x5_23 + 1)) (show (q_7 = q_7) ∧ (p1 = p1) ∧ (0 ≤ Int32.toInt (x5_23 + 1)) ∧ (Int32.toInt (x5_23 + 1) ≤ 46080) from ⟨rfl, rfl, by omega, by omega⟩) (show (46080 - Int32.toInt (x5_23 + 1)).toNat < (46080 - Int32.toInt x5_23).toNat by omega)
              · unfold zX10_worst_94
                refine dOk_G (dg_ok (show 0 ≤ Int32.toInt x5_23 by omega) (show Int32.toInt x5_23 < ((46080 : Nat) : Int) by omega)) ?_
                refine dOk_L (fun v_73 ev_73 => ?_)
                have w_74 : Int32.toInt v_73 = Int32.toInt v_47 := by rw [ev_73, ev_47]
                have f_75 : 0 ≤ Int32.toInt v_73 ∧ Int32.toInt v_73 ≤ 1000000 := by rw [ev_73]; exact i_9.1 21 _
                refine dOk_V (ok_greater x2_20 v_73) (fun r_76 h_77 => ?_)
                replace h_77 : (Int32.toInt x2_20 ≤ Int32.toInt r_76 ∧ Int32.toInt v_73 ≤ Int32.toInt r_76 ∧ (Int32.toInt r_76 = Int32.toInt x2_20 ∨ Int32.toInt r_76 = Int32.toInt v_73)) := h_77
                have i_78 := h_77
                unfold zX10_worst_110
                try have t_79 : Int32.toInt (x4_22 + 1) = Int32.toInt x4_22 + 1 := ti_add rfl (by decide) (by omega) (by omega)
                try have t_80 : Int32.toInt (x5_23 + 1) = Int32.toInt x5_23 + 1 := ti_add rfl (by decide) (by omega) (by omega)
                exact hk_16 (q_7, p1, r_76, x3_21, (x4_22 + 1), (x5_23 + 1)) (show (q_7 = q_7) ∧ (p1 = p1) ∧ (0 ≤ Int32.toInt (x5_23 + 1)) ∧ (Int32.toInt (x5_23 + 1) ≤ 46080) from ⟨rfl, rfl, by omega, by omega⟩) (show (46080 - Int32.toInt (x5_23 + 1)).toNat < (46080 - Int32.toInt x5_23).toNat by omega)
            · unfold zX10_worst_94
              refine dOk_G (dg_ok (show 0 ≤ Int32.toInt x5_23 by omega) (show Int32.toInt x5_23 < ((46080 : Nat) : Int) by omega)) ?_
              refine dOk_L (fun v_81 ev_81 => ?_)
              have w_82 : Int32.toInt v_81 = Int32.toInt v_47 := by rw [ev_81, ev_47]
              have f_83 : 0 ≤ Int32.toInt v_81 ∧ Int32.toInt v_81 ≤ 1000000 := by rw [ev_81]; exact i_9.1 21 _
              refine dOk_V (ok_greater x2_20 v_81) (fun r_84 h_85 => ?_)
              replace h_85 : (Int32.toInt x2_20 ≤ Int32.toInt r_84 ∧ Int32.toInt v_81 ≤ Int32.toInt r_84 ∧ (Int32.toInt r_84 = Int32.toInt x2_20 ∨ Int32.toInt r_84 = Int32.toInt v_81)) := h_85
              have i_86 := h_85
              unfold zX10_worst_110
              try have t_87 : Int32.toInt (x4_22 + 1) = Int32.toInt x4_22 + 1 := ti_add rfl (by decide) (by omega) (by omega)
              try have t_88 : Int32.toInt (x5_23 + 1) = Int32.toInt x5_23 + 1 := ti_add rfl (by decide) (by omega) (by omega)
              exact hk_16 (q_7, p1, r_84, 1, (x4_22 + 1), (x5_23 + 1)) (show (q_7 = q_7) ∧ (p1 = p1) ∧ (0 ≤ Int32.toInt (x5_23 + 1)) ∧ (Int32.toInt (x5_23 + 1) ≤ 46080) from ⟨rfl, rfl, by omega, by omega⟩) (show (46080 - Int32.toInt (x5_23 + 1)).toNat < (46080 - Int32.toInt x5_23).toNat by omega)
    · exact (show (q_7 = q_7) ∧ (p1 = p1) ∧ (0 ≤ (0 : Int)) ∧ ((0 : Int) ≤ 46080) from ⟨rfl, rfl, by omega, by omega⟩)
    · show (46080 - (0 : Int)).toNat < 1000000000000
      omega
end
section
theorem evq_f {o : Bool} {f : Nat → Int32} {e i : Nat} {q : dS} {k : Nat} {v : Int32} (h : EvQ o f e i q) (hk : k = 48 ∨ k = 49 ∨ ((k = 50 ∨ k = 51) ∧ (v.toInt = 0 ∨ v.toInt = 1))) : EvQ o f e i (dui q 0 k v) := by
  obtain ⟨hT, hf, h1, h2, h3, h4, h5⟩ := h
  refine ⟨?_, ?_, ?_, ?_, h3, ?_, h5⟩
  · have hv := ti_rg v
    refine ts_f hT ?_ ?_
    · unfold f0lo; rcases hk with e | e | ⟨e | e, hb⟩ <;> subst e <;> simp <;> omega
    · unfold f0hi; rcases hk with e | e | ⟨e | e, hb⟩ <;> subst e <;> simp <;> omega
  · rw [dui_o (by decide)]; exact hf
  · rw [dui_n (by omega)]; exact h1
  · rw [dui_n (by omega)]; exact h2
  · rw [dui_n (by omega)]; exact h4
theorem evq_l {o : Bool} {f : Nat → Int32} {e i : Nat} {q : dS} {j k : Nat} {v : Int64} (h : EvQ o f e i q) : EvQ o f e i (dul q j k v) := h
theorem fr_g {q q1 q2 : dS} (h : dFr [] [22, 23, 24, 25, 48, 49, 50, 51] q q1) (h2 : dFr [] [22, 24] q1 q2) : dFr [] [22, 23, 24, 25, 48, 49, 50, 51] q q2 := h.t h2 (by decide) (by decide)
theorem ok_goesAlong (q : dS) (p1 p2 : Int32) (e i j : Nat) (hT : TS q) (he : p1.toInt = (e : Int)) (he2 : e ≤ 2800) (h47 : (q.1 0 47).toInt = (i : Int)) (hg : gOrder (lawC (q.1 2) e) (lawV (q.1 2)) i j) (hje : j ≤ e) : dOk (zX10_goesAlong q p1 p2) (fun Q => TS Q ∧ dFr [] [22, 23, 24, 25, 48, 49, 50, 51] q Q ∧ (Q.1 0 22).toInt = (j : Int) + 1) := by
  have hC0 : ¬ lawC (q.1 2) e i = 0 := by
    rcases hg with ⟨h, _⟩ | ⟨h, _⟩ <;> omega
  have hie := lawC_in hC0
  generalize hf : q.1 2 = f at hg hC0
  have h174 : ∀ (q' : dS) (y0 : Int32), (y0.toInt = 0 ∨ y0.toInt = 1) → EvQ true f e j q' → dFr [] [22, 23, 24, 25, 48, 49, 50, 51] q q' → dOk (zX10_goesAlong_174 q' y0) (fun Q => TS Q ∧ dFr [] [22, 23, 24, 25, 48, 49, 50, 51] q Q ∧ (Q.1 0 22).toInt = (j : Int) + 1) := by
    intro q' y0 hy h' hF'
    unfold zX10_goesAlong_174
    refine dOk_G (dbl_ok hy) (dOk_L (fun q2 e2 => dOk_L (fun q3 e3 => dOk_some ?_)))
    have h2 : EvQ true f e j q2 := by rw [e2]; exact evq_f h' (Or.inr (Or.inr ⟨Or.inr rfl, hy⟩))
    have h3 : EvQ true f e (j + 1) q3 := by rw [e3]; exact evq_go h2 hje
    refine ⟨h3.1, ?_, ?_⟩
    · rw [e3]; refine dFr.f ?_ (by decide)
      rw [e2]; exact hF'.f (by decide)
    · have := h3.2.2.1
      omega
  have h151 : ∀ (q' : dS) (y0 : Int32), (y0.toInt = 0 ∨ y0.toInt = 1) → EvQ true f e j q' → dFr [] [22, 23, 24, 25, 48, 49, 50, 51] q q' → dOk (zX10_goesAlong_151 q' y0) (fun Q => TS Q ∧ dFr [] [22, 23, 24, 25, 48, 49, 50, 51] q Q ∧ (Q.1 0 22).toInt = (j : Int) + 1) := by
    intro q' y0 hy h' hF'
    unfold zX10_goesAlong_151 zX10_goesAlong_173
    refine dOk_G (dbl_ok hy) (dOk_L (fun q2 e2 => ?_))
    have h2 : EvQ true f e j q2 := by rw [e2]; exact evq_f h' (Or.inr (Or.inr ⟨Or.inr rfl, hy⟩))
    have hF2 : dFr [] [22, 23, 24, 25, 48, 49, 50, 51] q q2 := by rw [e2]; exact hF'.f (by decide)
    refine dOk_eq rfl rfl (fun _ _ => h174 q2 0 (by decide) h2 hF2) (fun _ _ => ?_)
    exact dOk_eq rfl rfl (fun _ _ => h174 q2 1 (by decide) h2 hF2) (fun _ _ => h174 q2 0 (by decide) h2 hF2)
  have h124 : ∀ (q' : dS) (m : Nat), gIf true (lawC f e) (lawV f) m j → EvQ true f e m q' → dFr [] [22, 23, 24, 25, 48, 49, 50, 51] q q' → dOk (zX10_goesAlong_124 q' p2) (fun Q => TS Q ∧ dFr [] [22, 23, 24, 25, 48, 49, 50, 51] q Q ∧ (Q.1 0 22).toInt = (j : Int) + 1) := by
    intro q' m hif h' hF'
    unfold zX10_goesAlong_124 zX10_goesAlong_146
    refine dOk_L (fun q1 e1 => ?_)
    have h1 : EvQ true f e m q1 := by rw [e1]; exact evq_br h' (by decide)
    have hF1 : dFr [] [22, 23, 24, 25, 48, 49, 50, 51] q q1 := by rw [e1]; exact hF'.f (by decide)
    refine dOk_B (ev_pass 4 (by decide) h1) (fun r2 q4 h3 => ?_)
    rcases h3 with ⟨z0, z1, z2, z3⟩ | ⟨z0, z1, z2⟩
    · have z0 : r2 = 1 := z0
      have z1 : lawC f e m = 4 := z1
      subst z0
      rw [if_neg (by decide)]
      rcases hif with ⟨_, hte⟩ | ⟨hn, _⟩
      · refine dOk_B (ev_test 10 8 (by decide) (by decide) q4 p2 (m + 1) j z2 hte) (fun r5 q7 hr7 => ?_)
        obtain ⟨h7, hF7, _⟩ := hr7
        have hF8 := fr_g (fr_g hF1 z3) hF7
        exact dOk_eq rfl rfl (fun _ _ => h151 q7 0 (by decide) h7 hF8) (fun _ _ => h151 q7 1 (by decide) h7 hF8)
      · exact absurd z1 hn
    · have z0 : r2 = 0 := z0
      have z1 : ¬ lawC f e m = 4 := z1
      have z2 : q4 = q1 := z2
      subst z0 z2
      rw [if_pos rfl]
      rcases hif with ⟨h4, _⟩ | ⟨_, ejm⟩
      · exact absurd h4 z1
      · rw [← ejm] at h1
        exact h151 q4 1 (by decide) h1 hF1
  have h80 : ∀ (q' : dS) (m : Nat) (y0 : Int32), (y0.toInt = 0 ∨ y0.toInt = 1) → gTimes (lawC f e) (lawV f) m j → EvQ true f e m q' → dFr [] [22, 23, 24, 25, 48, 49, 50, 51] q q' → dOk (zX10_goesAlong_80 q' p2 y0) (fun Q => TS Q ∧ dFr [] [22, 23, 24, 25, 48, 49, 50, 51] q Q ∧ (Q.1 0 22).toInt = (j : Int) + 1) := by
    intro q' m y0 hy hti h' hF'
    unfold zX10_goesAlong_80
    refine dOk_G (dbl_ok hy) (dOk_L (fun q2 e2 => dOk_L (fun q3 e3 => ?_)))
    have h2 : EvQ true f e m q2 := by rw [e2]; exact evq_f h' (Or.inr (Or.inr ⟨Or.inl rfl, hy⟩))
    have h3 : EvQ true f e m q3 := by rw [e3]; exact evq_f h2 (Or.inl rfl)
    have hF3 : dFr [] [22, 23, 24, 25, 48, 49, 50, 51] q q3 := by
      rw [e3]; refine dFr.f ?_ (by decide)
      rw [e2]; exact hF'.f (by decide)
    refine dOk_B (ev_pass 26 (by decide) h3) (fun r4 q6 h4 => ?_)
    rcases h4 with ⟨z0, z1, z2, z3⟩ | ⟨z0, z1, z2⟩
    · have z0 : r4 = 1 := z0
      have z1 : lawC f e m = 26 := z1
      have z2 : EvQ true f e (m + 1) q6 := z2
      subst z0
      rw [if_neg (by decide)]
      rcases hti with ⟨_, hc, _, _, hif⟩ | ⟨hn, _⟩
      · have hm1 : m + 1 < e := lawC_in (f := f) (e := e) (i := m + 1) (by omega)
        have g22 : Int32.toInt (q6.1 0 22) = ((m + 1 : Nat) : Int) := z2.2.2.1
        have t1 : Int32.toInt (2840 + q6.1 0 22) = 2840 + ((m + 1 : Nat) : Int) := ti_add (by decide) g22 (by omega) (by omega)
        refine dOk_G (dg_ok (by omega) (by omega)) (dOk_L (fun v8 _ => dOk_L (fun q9 e9 => dOk_L (fun q10 e10 => ?_))))
        have h9 : EvQ true f e (m + 1) q9 := by rw [e9]; exact evq_f z2 (Or.inl rfl)
        have h10 : EvQ true f e (m + 1 + 1) q10 := by rw [e10]; exact evq_go h9 (by omega)
        refine h124 q10 (m + 2) hif h10 ?_
        rw [e10]; refine dFr.f ?_ (by decide)
        rw [e9]; exact (fr_g hF3 z3).f (by decide)
      · exact absurd z1 hn
    · have z0 : r4 = 0 := z0
      have z1 : ¬ lawC f e m = 26 := z1
      have z2 : q6 = q3 := z2
      subst z0 z2
      rw [if_pos rfl]
      rcases hti with ⟨h4, _⟩ | ⟨_, hif⟩
      · exact absurd h4 z1
      · exact h124 q6 m hif h3 hF3
  have h64 : ∀ (q' : dS) (m : Nat) (y0 : Int64), gTimes (lawC f e) (lawV f) m j → EvQ true f e m q' → dFr [] [22, 23, 24, 25, 48, 49, 50, 51] q q' → dOk (zX10_goesAlong_64 q' p2 y0) (fun Q => TS Q ∧ dFr [] [22, 23, 24, 25, 48, 49, 50, 51] q Q ∧ (Q.1 0 22).toInt = (j : Int) + 1) := by
    intro q' m y0 hti h' hF'
    unfold zX10_goesAlong_64
    refine dOk_L (fun q1 e1 => ?_)
    have h1 : EvQ true f e m q1 := by rw [e1]; exact evq_l h'
    have hF1 : dFr [] [22, 23, 24, 25, 48, 49, 50, 51] q q1 := by rw [e1]; exact hF'.l
    exact dOk_eq rfl rfl (fun _ _ => h80 q1 m 1 (by decide) hti h1 hF1) (fun _ _ => h80 q1 m 0 (by decide) hti h1 hF1)
  unfold zX10_goesAlong
  refine dOk_L (fun q1 e1 => dOk_L (fun q2 e2 => dOk_L (fun q3 e3 => ?_)))
  have hT1 : TS q1 := by rw [e1]; exact ts_f hT (by decide) (by decide)
  have hT2 : TS q2 := by rw [e2]; exact ts_f hT1 (ti_rg _).1 (ti_rg _).2
  have hT3 : TS q3 := by rw [e3]; exact ts_f hT2 (ti_rg _).1 (ti_rg _).2
  have hF3 : dFr [] [22, 23, 24, 25, 48, 49, 50, 51] q q3 := by
    rw [e3]; refine dFr.f ?_ (by decide)
    rw [e2]; refine dFr.f ?_ (by decide)
    rw [e1]; exact dFr.rf.f (by decide)
  have w47 : q2.1 0 47 = q.1 0 47 := by rw [e2, dui_n (by decide), e1, dui_n (by decide)]
  have hQ3 : EvQ true f e i q3 := by
    refine ⟨hT3, ?_, ?_, ?_, he2, ?_, by omega⟩
    · rw [hF3.1 2 (by decide) (by decide)]; exact hf
    · rw [e3, dui_e, w47]; exact h47
    · rw [e3, dui_n (by decide), e2, dui_e]; exact he
    · rw [e3, dui_n (by decide), e2, dui_n (by decide), e1, dui_e]; decide
  refine dOk_B (ev_at hQ3) (fun r4 q6 hr => ?_)
  obtain ⟨e6, e4⟩ := hr
  have e6 : q6 = q3 := e6
  have e4 : r4.toInt = lawC f e i := e4
  subst e6
  refine dOk_L (fun q7 e7 => dOk_L (fun q8 e8 => dOk_L (fun q9 e9 => ?_)))
  have h7 : EvQ true f e i q7 := by rw [e7]; exact evq_f hQ3 (Or.inr (Or.inl rfl))
  have h8 : EvQ true f e (i + 1) q8 := by rw [e8]; exact evq_go h7 (by omega)
  have h9 : EvQ true f e (i + 1) q9 := by rw [e9]; exact evq_br h8 (by decide)
  have hF9 : dFr [] [22, 23, 24, 25, 48, 49, 50, 51] q q9 := by
    rw [e9]; refine dFr.f ?_ (by decide)
    rw [e8]; refine dFr.f ?_ (by decide)
    rw [e7]; exact hF3.f (by decide)
  have g49 : q9.1 0 49 = r4 := by rw [e9, dui_n (by decide), e8, dui_n (by decide), e7, dui_e]
  rw [g49]
  refine dOk_eq (A := r4.toInt) (B := 25) rfl (by decide) (fun _ z => ?_) (fun _ z => ?_)
  · rcases hg with ⟨hc, _⟩ | ⟨_, hti⟩
    · omega
    · exact h64 q9 (i + 1) 0 hti h9 hF9
  · rcases hg with ⟨_, m, hs, hti⟩ | ⟨hc, _⟩
    · refine dOk_B (ev_sum 10 8 (by decide) q9 p2 (i + 1) m h9 hs) (fun r10 q12 hr12 => ?_)
      exact h64 q12 m r10 hti hr12.1 (fr_g hF9 hr12.2)
    · omega
theorem lawC_k {f g : Nat → Int32} (h : ∀ i : Nat, 14 ≤ i → g i = f i) (e : Nat) : lawC g e = lawC f e ∧ lawV g = lawV f := by
  constructor
  · funext i; unfold lawC; rw [h (40 + i) (by omega)]
  · funext i; unfold lawV; rw [h (2840 + i) (by omega)]
theorem ok_runs (q : dS) (p1 : Int32) (e i j : Nat) (hT : TS q) (he : p1.toInt = (e : Int)) (he2 : e ≤ 2800) (h47 : (q.1 0 47).toInt = (i : Int)) (hg : gOrder (lawC (q.1 2) e) (lawV (q.1 2)) i j) (hje : j ≤ e) : dOk (zX10_runs q p1) (fun r => TS r.2 ∧ dFk [2, 12, 13, 14] [22, 23, 24, 25, 27, 28, 32, 47, 48, 49, 50, 51] q r.2 ∧ (r.1 = 0 ∨ (r.1 = 1 ∧ (r.2.1 0 47).toInt = (j : Int) + 1))) := by
  unfold zX10_runs
  refine dOk_V (ok_goesAlong q p1 0 e i j hT he he2 h47 hg hje) (fun q3 h3 => ?_)
  obtain ⟨hT3, hF3, g22⟩ := h3
  have hK3 : dFk [2, 12, 13, 14] [22, 23, 24, 25, 27, 28, 32, 48, 49, 50, 51] q q3 := dFk.rf.tr hF3 (by decide) (by decide) (by decide)
  unfold zX10_runs_19
  refine dFix_ok (fun (a : dS × Int32 × Int32 × Int32 × Int32) => TS a.1 ∧ dFk [2, 12, 13, 14] [22, 23, 24, 25, 27, 28, 32, 48, 49, 50, 51] q a.1 ∧ a.2.1 = p1 ∧ a.2.2.2.1 = q3.1 0 22 ∧ a.2.2.1 = q3.1 0 48 ∧ 0 ≤ a.2.2.2.2.toInt) (fun (a : dS × Int32 × Int32 × Int32 × Int32) => (2147483648 - Int32.toInt a.2.2.2.2).toNat) ?_ _ ⟨hT3, hK3, rfl, rfl, rfl, by show (0 : Int) ≤ Int32.toInt 0; decide⟩ _ (dF_gt (by show (2147483648 - Int32.toInt 0).toNat < 1000000000000; rw [show Int32.toInt 0 = (0 : Int) by decide]; omega))
  intro a ha k hk
  obtain ⟨qa, x1, x2, x3, x4⟩ := a
  obtain ⟨hTa, hKa, e1, e3, e2, x40⟩ := ha
  replace hTa : TS qa := hTa
  replace hKa : dFk [2, 12, 13, 14] [22, 23, 24, 25, 27, 28, 32, 48, 49, 50, 51] q qa := hKa
  replace e1 : x1 = p1 := e1
  replace e3 : x3 = q3.1 0 22 := e3
  replace e2 : x2 = q3.1 0 48 := e2
  replace x40 : 0 ≤ x4.toInt := x40
  subst e1
  have hx2 := ti_rg x2
  show dOk (zX10_runs_19b (fun q x1 x2 x3 x4 => k (q, x1, x2, x3, x4)) qa x1 x2 x3 x4) _
  unfold zX10_runs_19b zX10_runs_55 zX10_runs_67
  refine dOk_le rfl rfl (fun c => ?_) (fun c => ?_)
  · refine dOk_L (fun q1 e4 => dOk_some ?_)
    subst e4
    refine ⟨ts_f hTa (ti_rg _).1 (ti_rg _).2, ?_, Or.inr ⟨rfl, ?_⟩⟩
    · refine dFk.f ?_ (by decide)
      exact dFk.rf.t hKa (by decide) (by decide)
    · show Int32.toInt ((dui qa 0 47 x3).1 0 47) = _
      rw [dui_e, e3]; exact g22
  have hg' : gOrder (lawC (qa.1 2) e) (lawV (qa.1 2)) i j := by
    have h2 := lawC_k hKa.2 e
    rw [h2.1, h2.2]; exact hg
  have t4 : Int32.toInt (x4 + 1) = x4.toInt + 1 := ti_add rfl (by decide) (by omega) (by omega)
  have hgo : ∀ q' : dS, TS q' → dFk [2, 12, 13, 14] [22, 23, 24, 25, 27, 28, 32, 48, 49, 50, 51] q q' → dOk (k (q', x1, x2, x3, x4 + 1)) (fun r => TS r.2 ∧ dFk [2, 12, 13, 14] [22, 23, 24, 25, 27, 28, 32, 47, 48, 49, 50, 51] q r.2 ∧ (r.1 = 0 ∨ (r.1 = 1 ∧ (r.2.1 0 47).toInt = (j : Int) + 1))) := by
    intro q' hT' hK'
    refine hk (q', x1, x2, x3, x4 + 1) ⟨hT', hK', rfl, e3, e2, ?_⟩ ?_
    · show 0 ≤ Int32.toInt (x4 + 1)
      omega
    · show (2147483648 - Int32.toInt (x4 + 1)).toNat < (2147483648 - Int32.toInt x4).toNat
      omega
  refine dOk_V (ok_goesAlong qa x1 1 e i j hTa he he2 (by rw [hKa.1.2 47 (by decide)]; exact h47) hg' hje) (fun q4 h4 => ?_)
  obtain ⟨hT4, hF4, _⟩ := h4
  have hK4 : dFk [2, 12, 13, 14] [22, 23, 24, 25, 27, 28, 32, 48, 49, 50, 51] q q4 := hKa.tr hF4 (by decide) (by decide) (by decide)
  refine dOk_eq rfl rfl (fun _ _ => hgo q4 hT4 hK4) (fun _ _ => ?_)
  refine dOk_eq rfl rfl (fun _ _ => dOk_some ⟨hT4, dFk.rf.t hK4 (by decide) (by decide), Or.inl rfl⟩) (fun _ _ => ?_)
  refine dOk_B (ok_obeys q4 hT4) (fun r5 q7 h7 => ?_)
  obtain ⟨hT7, hK7, _⟩ := h7
  have hT7 : TS q7 := hT7
  have hK7' : dFk [2, 12, 13, 14] [22, 23, 24, 25, 27, 28, 32, 48, 49, 50, 51] q q7 := hK4.t hK7 (by decide) (by decide)
  refine dOk_le rfl rfl (fun _ => ?_) (fun _ => dOk_some ⟨hT7, dFk.rf.t hK7' (by decide) (by decide), Or.inl rfl⟩)
  refine dOk_L (fun q8 e8 => ?_)
  subst e8
  exact hgo _ (ts_f hT7 (ti_rg _).1 (ti_rg _).2) (hK7'.f (by decide))
end
section
abbrev oR : List Nat := [1, 2, 5, 9, 10, 11, 12, 13, 14, 15]
abbrev oF : List Nat := [0, 8, 9, 10, 13, 14, 18, 19, 20, 21, 22, 23, 24, 25, 27, 28, 32, 46, 47, 48, 49, 50, 51]
/-! orders: how many laws, which in force, stay -/
/-- how many laws, which in force, stay -/
def KC (q o : dS) : Prop := o.1 2 31 = q.1 2 31 ∧ o.1 2 32 = q.1 2 32
theorem kc_row {q o : dS} (h : o.1 2 = q.1 2) : KC q o := by unfold KC; rw [h]; exact ⟨rfl, rfl⟩
theorem KC.t {q q2 o : dS} (h : KC q q2) (h2 : KC q2 o) : KC q o := ⟨h2.1.trans h.1, h2.2.trans h.2⟩
/-- the same, and the fault as it was told when the text was read -/
def oFv (v : Int32) (q x : dS) : Prop := dFr oR oF q x ∧ x.1 0 13 = 0 ∧ KC q x ∧ x.1 0 14 = v
def oFr (q x : dS) : Prop := dFr oR oF q x ∧ x.1 0 13 = 0 ∧ KC q x ∧ ∃ (r3 : Int32) (q3 : dS), zX10_readsAs (dui q 0 46 (-1)) 1 = some (r3, q3) ∧ x.1 0 14 = q3.1 0 14
theorem oFv.f {w : Int32} {q q1 : dS} {k : Nat} {v : Int32} (h : oFv w q q1) (hk : k ∈ oF) (h13 : ¬ 13 = k := by decide) (h14 : ¬ 14 = k := by decide) : oFv w q (dui q1 0 k v) := ⟨h.1.f hk, by rw [dui_n h13]; exact h.2.1, h.2.2.1.t (kc_row (dui_o (by decide))), by rw [dui_n h14]; exact h.2.2.2⟩
theorem oFv.i {w : Int32} {q q1 : dS} {j k : Nat} {v : Int32} (h : oFv w q q1) (hj : j ∈ oR) (h0 : j ≠ 0) (h2 : ¬ 2 = j := by decide) : oFv w q (dui q1 j k v) := ⟨h.1.i hj h0, by rw [dui_o h0.symm]; exact h.2.1, h.2.2.1.t (kc_row (dui_o h2)), by rw [dui_o h0.symm]; exact h.2.2.2⟩
theorem oFv.tb {w : Int32} {S2 F2 : List Nat} {q q1 q2 : dS} (h : oFv w q q1) (h2 : dFr S2 F2 q1 q2) (hS : ∀ a ∈ S2, a ∈ oR) (hF : ∀ a ∈ F2, a ∈ oF) (hk : KC q1 q2) (h13 : 13 ∉ F2 := by decide) (h14 : 14 ∉ F2 := by decide) : oFv w q q2 := ⟨h.1.t h2 hS hF, (h2.2 13 h13).trans h.2.1, h.2.2.1.t hk, (h2.2 14 h14).trans h.2.2.2⟩
theorem oFv.t {w : Int32} {S2 F2 : List Nat} {q q1 q2 : dS} (h : oFv w q q1) (h2 : dFr S2 F2 q1 q2) (hS : ∀ a ∈ S2, a ∈ oR) (hF : ∀ a ∈ F2, a ∈ oF) (h13 : 13 ∉ F2 := by decide) (h14 : 14 ∉ F2 := by decide) (hn : 2 ∉ S2 := by decide) : oFv w q q2 := h.tb h2 hS hF (kc_row (h2.1 2 hn (by decide))) h13 h14
theorem oFv.tk {w : Int32} {S2 F2 : List Nat} {q q1 q2 : dS} (h : oFv w q q1) (h2 : dFk S2 F2 q1 q2) (hS : ∀ a ∈ S2, a ∈ oR) (hF : ∀ a ∈ F2, a ∈ oF) (h13 : 13 ∉ F2 := by decide) (h14 : 14 ∉ F2 := by decide) : oFv w q q2 := h.tb h2.1 hS hF ⟨h2.2 31 (by decide), h2.2 32 (by decide)⟩ h13 h14
theorem dOk_eqn {α : Type} {x : Option α} {P : α → Prop} (h : dOk x P) : dOk x (fun a => P a ∧ x = some a) := by
  obtain ⟨w, e, hw⟩ := h
  exact ⟨w, e, hw, e⟩
theorem dOk_upU {α : Type} {x : Option α} {P Q : α → Prop} (k : ∀ a : α, P a → Q a) (h : dOk x P) : dOk x Q := by
  obtain ⟨w, e, hw⟩ := h
  exact ⟨w, e, k w hw⟩
set_option maxRecDepth 100000 in
set_option maxHeartbeats 4000000 in
theorem ok_orders (q : dS) (hT : TS q) : dOk (zX10_orders q) (fun (o : Int32 × dS) => (TS o.2) ∧ (oFr q o.2)) := by
  have d0 : (0 : Int32).toInt = 0 := by decide
  have h122 : ∀ (w : Int32) (q9 : dS) (x1 x3 : Int32), TS q9 → oFv w q q9 → 0 ≤ x1.toInt → x1.toInt ≤ 16 → dOk (zX10_orders_122 dF q9 x1 x3 0) (fun (o : Int32 × dS) => (TS o.2) ∧ (oFv w q o.2)) := by
    intro w q9 x1 x3 hT9 hF9 hx0 hx1
    unfold zX10_orders_122
    refine dFix_ok (fun (a : dS × Int32 × Int32 × Int32) => TS a.1 ∧ oFv w q a.1 ∧ a.2.1 = x1 ∧ 0 ≤ a.2.2.2.toInt ∧ a.2.2.2.toInt ≤ 240) (fun (a : dS × Int32 × Int32 × Int32) => (240 - Int32.toInt a.2.2.2).toNat) ?_ _ ⟨hT9, hF9, rfl, (show (0 : Int) ≤ Int32.toInt 0 by omega), (show Int32.toInt 0 ≤ (240 : Int) by omega)⟩ _ (dF_gt (by show (240 - Int32.toInt 0).toNat < 1000000000000; omega))
    intro a ha k hk
    obtain ⟨qa, y1, y3, y4⟩ := a
    obtain ⟨hTa, hFa, e1, y40, y41⟩ := ha
    replace hTa : TS qa := hTa
    replace hFa : oFv w q qa := hFa
    replace e1 : y1 = x1 := e1
    replace y40 : 0 ≤ y4.toInt := y40
    replace y41 : y4.toInt ≤ 240 := y41
    subst e1
    show dOk (zX10_orders_122b (fun q x1 x3 x4 => k (q, x1, x3, x4)) qa y1 y3 y4) _
    unfold zX10_orders_122b
    refine dOk_le (A := 240) (B := y4.toInt) (by decide) rfl (fun c => ?_) (fun c => ?_)
    · refine dOk_L (fun q1 e1 => dOk_L (fun q2 e2 => ?_))
      have hT1 : TS q1 := by rw [e1]; exact ts_f hTa (show (0 : Int) ≤ y1.toInt by omega) (show y1.toInt ≤ (16 : Int) by omega)
      have hT2 : TS q2 := by rw [e2]; exact ts_f hT1 (ti_rg _).1 (ti_rg _).2
      have hF2 : oFv w q q2 := by
        rw [e2]; refine oFv.f ?_ (by decide)
        rw [e1]; exact hFa.f (by decide)
      exact dOk_B (ok_refuses q2 (-3) hT2 (by decide) (by decide)) (fun r q5 hr => dOk_some ⟨hr.1, hF2.t hr.2.1 (by decide) (by decide)⟩)
    · refine dOk_G (dg_ok (by omega) (by omega)) (dOk_L (fun v7 e7 => dOk_G (dg_ok (by omega) (by omega)) (dOk_L (fun q10 e10 => ?_))))
      have t4 : Int32.toInt (y4 + 1) = y4.toInt + 1 := ti_add rfl (by decide) (by omega) (by omega)
      refine hk (q10, y1, y3, y4 + 1) ⟨?_, ?_, rfl, ?_, ?_⟩ ?_
      · show TS q10
        rw [e10]; exact ts_cp (s := Int32.toNatClampNeg y4) 14 15 (by decide) (by decide) hTa hTa rfl e7
      · show oFv w q q10
        rw [e10]; exact hFa.i (by decide) (by decide)
      · show 0 ≤ Int32.toInt (y4 + 1)
        omega
      · show Int32.toInt (y4 + 1) ≤ 240
        omega
      · show (240 - Int32.toInt (y4 + 1)).toNat < (240 - Int32.toInt y4).toNat
        omega
  have h95 : ∀ (w : Int32) (q6 : dS) (x1 x2 x3 : Int32) (e : Nat), TS q6 → oFv w q q6 → 0 ≤ x1.toInt → x1.toInt ≤ 16 → x2.toInt = (e : Int) → e ≤ 2800 → (q6.1 0 47).toInt = 2400 → gSeq (fun i => lawC (q6.1 2) e i = 159) (gOne true (lawC (q6.1 2) e) (lawV (q6.1 2))) 2400 e → dOk (zX10_orders_95 dF q6 x1 x2 x3) (fun (o : Int32 × dS) => (TS o.2) ∧ (oFv w q o.2)) := by
    intro w q6 x1 x2 x3 e hT6 hF6 hx0 hx1 he he2 h47 hs6
    unfold zX10_orders_95
    refine dFix_ok (fun (a : dS × Int32 × Int32 × Int32) => TS a.1 ∧ dFk [2, 12, 13, 14] [22, 23, 24, 25, 27, 28, 32, 47, 48, 49, 50, 51] q6 a.1 ∧ a.2.1 = x1 ∧ a.2.2.1 = x2 ∧ ∃ i : Nat, (a.1.1 0 47).toInt = (i : Int) ∧ (i = e + 1 ∨ gSeq (fun i => lawC (q6.1 2) e i = 159) (gOne true (lawC (q6.1 2) e) (lawV (q6.1 2))) i e)) (fun (a : dS × Int32 × Int32 × Int32) => (2802 - Int32.toInt (a.1.1 0 47)).toNat) ?_ _ ⟨hT6, dFk.rf, rfl, rfl, 2400, h47, Or.inr hs6⟩ _ (dF_gt (by show (2802 - Int32.toInt (q6.1 0 47)).toNat < 1000000000000; omega))
    intro a ha k hk
    obtain ⟨qa, y1, y2, y3⟩ := a
    obtain ⟨hTa, hKa, e1, e2, i, hi, hs⟩ := ha
    replace hTa : TS qa := hTa
    replace hKa : dFk [2, 12, 13, 14] [22, 23, 24, 25, 27, 28, 32, 47, 48, 49, 50, 51] q6 qa := hKa
    replace e1 : y1 = x1 := e1
    replace e2 : y2 = x2 := e2
    replace hi : (qa.1 0 47).toInt = (i : Int) := hi
    subst e1 e2
    have hFa : oFv w q qa := hF6.tk hKa (by decide) (by decide)
    show dOk (zX10_orders_95b (fun q x1 x2 x3 => k (q, x1, x2, x3)) qa y1 y2 y3) _
    unfold zX10_orders_95b
    refine dOk_le he hi (fun c => ?_) (fun c => ?_)
    · exact dOk_B (ok_good qa _ hTa) (fun r q3 hr => dOk_some ⟨hr.1, hFa.t hr.2.1 (by decide) (by decide)⟩)
    rcases hs with hs | hs
    · omega
    obtain ⟨m, hm, htl⟩ := gEnd_tail hs
    have hme : m ≤ e := by
      rcases htl with ⟨_, z⟩ | ⟨z, _⟩
      · omega
      · have := lawC_in (f := q6.1 2) (e := e) (i := m) (by omega)
        omega
    have hm' : gOrder (lawC (qa.1 2) e) (lawV (qa.1 2)) i m := by
      have h2 := lawC_k hKa.2 e
      rw [h2.1, h2.2]; exact hm
    have him : i ≤ m := by
      rcases hm with ⟨_, m1, h1, h2⟩ | ⟨_, h2⟩
      · have z1 := gSum_mono h1
        rcases h2 with ⟨_, _, _, _, h3⟩ | ⟨_, h3⟩ <;> rcases h3 with ⟨_, h4⟩ | ⟨_, h4⟩
        · have := gTest_mono h4; omega
        · omega
        · have := gTest_mono h4; omega
        · omega
      · rcases h2 with ⟨_, _, _, _, h3⟩ | ⟨_, h3⟩ <;> rcases h3 with ⟨_, h4⟩ | ⟨_, h4⟩
        · have := gTest_mono h4; omega
        · omega
        · have := gTest_mono h4; omega
        · omega
    refine dOk_B (ok_runs qa y2 e i m hTa he he2 hi hm' hme) (fun r4 q7 h7 => ?_)
    obtain ⟨hT7, hK7, hr⟩ := h7
    replace hT7 : TS q7 := hT7
    replace hK7 : dFk [2, 12, 13, 14] [22, 23, 24, 25, 27, 28, 32, 47, 48, 49, 50, 51] qa q7 := hK7
    replace hr : r4 = 0 ∨ (r4 = 1 ∧ (q7.1 0 47).toInt = (m : Int) + 1) := hr
    have hF7 : oFv w q q7 := hFa.tk hK7 (by decide) (by decide)
    rcases hr with e0 | ⟨e0, h47'⟩
    · subst e0
      rw [if_pos rfl]
      refine dOk_V (ok_takesBack q7 1 hT7 (by decide) (by decide)) (fun q9 h9 => ?_)
      exact h122 w q9 y1 y3 h9.1 (hF7.tk h9.2 (by decide) (by decide)) hx0 hx1
    · subst e0
      rw [if_neg (by decide)]
      refine hk (q7, y1, y2, y3 + 1) ⟨hT7, hKa.t hK7 (by decide) (by decide), rfl, rfl, m + 1, ?_, ?_⟩ ?_
      · show (q7.1 0 47).toInt = ((m + 1 : Nat) : Int)
        omega
      · rcases htl with ⟨_, z⟩ | ⟨_, z⟩
        · exact Or.inl (by omega)
        · exact Or.inr z
      · show (2802 - Int32.toInt (q7.1 0 47)).toNat < (2802 - Int32.toInt (qa.1 0 47)).toNat
        omega
  unfold zX10_orders
  refine dOk_L (fun q1 e1 => ?_)
  have hT1 : TS q1 := by rw [e1]; exact ts_f hT (ti_rg _).1 (ti_rg _).2
  have hF1 : dFr oR oF q q1 := by rw [e1]; exact dFr.rf.f (by decide)
  refine dOk_B (dOk_eqn (ok_readsAs true q1 1 hT1 (by decide))) (fun r2 q4 h4 => ?_)
  obtain ⟨⟨hT4, hF4, hr4⟩, heq⟩ := h4
  replace heq : zX10_readsAs q1 1 = some (r2, q4) := heq
  rw [e1] at heq
  replace hT4 : TS q4 := hT4
  replace hr4 : r2.toInt = 0 ∨ (r2.toInt = 1 ∧ TxtOk true q4) := hr4
  have hF4' : oFv (q4.1 0 14) q q4 := ⟨hF1.t hF4.1 (by decide) (by decide), hF4.2, kc_row ((hF4.1.1 2 (by decide) (by decide)).trans (by rw [e1, dui_o (by decide)])), rfl⟩
  refine dOk_upU (P := fun (o : Int32 × dS) => TS o.2 ∧ oFv (q4.1 0 14) q o.2) (fun o z => ⟨z.1, z.2.1, z.2.2.1, z.2.2.2.1, r2, q4, heq, z.2.2.2.2⟩) ?_
  refine dOk_eq (A := r2.toInt) (B := 0) rfl d0 (fun _ _ => ?_) (fun _ c => ?_)
  · exact dOk_B (ok_refuses q4 (-6) hT4 (by decide) (by decide)) (fun r q10 hr => dOk_some ⟨hr.1, hF4'.t hr.2.1 (by decide) (by decide)⟩)
  have htx : TxtOk true q4 := by
    rcases hr4 with z | z
    · omega
    · exact z.2
  obtain ⟨n, hn, e18, hg⟩ := htx
  refine dOk_V (ok_laysAside q4 1 hT4 (by decide) (by decide)) (fun q7 h7 => ?_)
  obtain ⟨hT7, hF7⟩ := h7
  unfold zX10_orders_27
  refine dFix_ok (fun (a : dS × Int32) => TS a.1 ∧ dFr [5, 15] [] q4 a.1 ∧ 0 ≤ a.2.toInt ∧ a.2.toInt ≤ 240) (fun (a : dS × Int32) => (240 - Int32.toInt a.2).toNat) ?_ _ ⟨hT7, hF7.w (by decide) (by decide), (show (0 : Int) ≤ Int32.toInt 0 by omega), (show Int32.toInt 0 ≤ (240 : Int) by omega)⟩ _ (dF_gt (by show (240 - Int32.toInt 0).toNat < 1000000000000; omega))
  intro a ha k hk
  obtain ⟨qa, x1⟩ := a
  obtain ⟨hTa, hFa, x10, x11⟩ := ha
  replace hTa : TS qa := hTa
  replace hFa : dFr [5, 15] [] q4 qa := hFa
  replace x10 : 0 ≤ x1.toInt := x10
  replace x11 : x1.toInt ≤ 240 := x11
  have hFa' : oFv (q4.1 0 14) q qa := hF4'.t hFa (by decide) (by decide)
  show dOk (zX10_orders_27b (fun q x1 => k (q, x1)) qa x1) _
  unfold zX10_orders_27b
  refine dOk_le (A := 240) (B := x1.toInt) (by decide) rfl (fun c => ?_) (fun c => ?_)
  · have w18 : qa.1 0 18 = q4.1 0 18 := hFa.2 18 (by decide)
    have w9 : qa.1 9 = q4.1 9 := hFa.1 9 (by decide) (by decide)
    have w10 : qa.1 10 = q4.1 10 := hFa.1 10 (by decide) (by decide)
    have hxa : TxtOk true qa := ⟨n, hn, by rw [w18]; exact e18, by rw [w9, w10]; exact hg⟩
    have f31 : 0 ≤ Int32.toInt (qa.1 2 31) ∧ Int32.toInt (qa.1 2 31) ≤ 6 := hTa.1 2 31
    have f32 : 0 ≤ Int32.toInt (qa.1 0 32) ∧ Int32.toInt (qa.1 0 32) ≤ 16 := hTa.1 0 32
    have e18a : (qa.1 0 18).toInt = (n : Int) := by rw [w18]; exact e18
    refine dOk_V (ok_lays qa 6 6 n hTa (by decide) (by decide) (by omega) e18a hn) (fun q3 h3 => ?_)
    obtain ⟨hT3, hF3, a3, b3, c3⟩ := h3
    refine dOk_L (fun q5 e5 => dOk_L (fun q6 e6 => dOk_L (fun q8 e8 => ?_)))
    have hT5 : TS q5 := by rw [e5]; exact ts_f hT3 (ti_rg _).1 (ti_rg _).2
    have hT6 : TS q6 := by rw [e6]; exact ts_f hT5 (ti_rg _).1 (ti_rg _).2
    have hT8 : TS q8 := by rw [e8]; exact ts_f hT6 (ti_rg _).1 (ti_rg _).2
    have hF8 : oFv (q4.1 0 14) q q8 := by
      rw [e8]; refine oFv.f ?_ (by decide)
      rw [e6]; refine oFv.f ?_ (by decide)
      rw [e5]; refine oFv.f ?_ (by decide)
      exact hFa'.tb hF3 (by decide) (by decide) ⟨a3 31 (by decide), a3 32 (by decide)⟩
    have w2 : q8.1 2 = q3.1 2 := by rw [e8, dui_o (by decide), e6, dui_o (by decide), e5, dui_o (by decide)]
    have g47 : q8.1 0 47 = 2400 := by rw [e8, dui_e]
    have g39 : Int32.toInt (q8.1 2 39) = (n : Int) := by rw [w2]; rw [show (39 : Nat) = 33 + 6 from rfl, b3]; exact e18a
    have hend : Int32.toInt (q8.1 0 47 + q8.1 2 39) = ((2400 + n : Nat) : Int) := by
      rw [g47, ti_add (a := 2400) (A := 2400) (by decide) g39 (by omega) (by omega)]
      omega
    have hl := txt_laid (o := true) (q := qa) (Q := q3) (t := 6) hxa b3 (fun n' hn' k hk => by
      have : n' = n := by omega
      subst this
      exact c3 k hk)
    have eE : lawE (q3.1 2) 6 = 2400 + n := by unfold lawE; rw [b3]; omega
    rw [eE] at hl
    exact h95 (q4.1 0 14) q8 (qa.1 0 32) _ 0 (2400 + n) hT8 hF8 f32.1 f32.2 hend (by omega) (by rw [g47]; decide) (by rw [w2]; exact hl)
  · refine dOk_G (dg_ok (by omega) (by omega)) (dOk_L (fun v8 e8 => dOk_G (dg_ok (by omega) (by omega)) (dOk_L (fun q10 e10 => ?_))))
    have t1 : Int32.toInt (x1 + 1) = x1.toInt + 1 := ti_add rfl (by decide) (by omega) (by omega)
    refine hk (q10, x1 + 1) ⟨?_, ?_, ?_, ?_⟩ ?_
    · show TS q10
      rw [e10]; exact ts_cp (s := Int32.toNatClampNeg x1) 15 14 (by decide) (by decide) hTa hTa rfl e8
    · show dFr [5, 15] [] q4 q10
      rw [e10]; exact hFa.i (by decide) (by decide)
    · show 0 ≤ Int32.toInt (x1 + 1)
      omega
    · show Int32.toInt (x1 + 1) ≤ 240
      omega
    · show (240 - Int32.toInt (x1 + 1)).toNat < (240 - Int32.toInt x1).toNat
      omega
end
section
/-! the tables as functions of numbers; that a turn undoes itself, decided for each size -/
def bitN (h s : Nat) : Nat := (h / 2 ^ s) % 2
def hbB (h k p : Nat) : Nat := if p < k then 1 - bitN h (k - 1 - p) else bitN h p
def hbN (h k : Nat) : Nat → Nat
  | 0 => 0
  | p + 1 => hbN h k p + hbB h k p * 2 ^ p
theorem hb_bit : ∀ h : Nat, h < 64 → ∀ s : Nat, s < 6 → ((nI h >>> (nI s &&& 31)) &&& 1 : Int32) = nI (bitN h s) := by decide +kernel
theorem hb_or : ∀ p : Nat, p < 6 → ∀ a : Nat, a < 64 → a < 2 ^ p → ∀ b : Nat, b < 2 → (nI a ||| (nI b <<< (nI p &&& 31)) : Int32) = nI (a + b * 2 ^ p) := by decide +kernel
/-- a number worked out ahead of its use -/
def sqN {α : Type} (x : Nat) (f : Nat → α) : α :=
  match x with
  | 0 => f 0
  | k + 1 => f (k + 1)
theorem sqN_e {α : Type} (x : Nat) (f : Nat → α) : sqN x f = f x := by
  cases x with
  | zero => rfl
  | succ k => rfl
/-- a test over all numbers below -/
def alB : Nat → (Nat → Bool) → Bool
  | 0, _ => true
  | c + 1, f => f c && alB c f
theorem alB_e {f : Nat → Bool} : ∀ {c : Nat}, alB c f = true → ∀ x : Nat, x < c → f x = true := by
  intro c
  induction c with
  | zero => intro _ x hx; exact absurd hx (Nat.not_lt_zero x)
  | succ c ih =>
    intro h x hx
    have h2 : (f c && alB c f) = true := h
    rw [Bool.and_eq_true] at h2
    rcases Nat.lt_or_ge x c with z | z
    · exact ih h2.2 x z
    · have e : x = c := by omega
      rw [e]; exact h2.1
def hbT (n k h : Nat) : Bool := sqN (hbN h k n) fun a => Nat.ble (a + 1) (2 ^ n) && Nat.beq (hbN a k n) h
theorem hb_all : alB 7 (fun n => alB 7 (fun k => Nat.ble (k + 1) 1 || Nat.ble (n + 1) k || alB (2 ^ n) (hbT n k))) = true := by decide +kernel
theorem hb_inv (n : Nat) (hn : n < 7) (k : Nat) (hk : k < 7) (h : Nat) (h1 : 1 ≤ k) (hkn : k ≤ n) (hh : h < 2 ^ n) : hbN h k n < 2 ^ n ∧ hbN (hbN h k n) k n = h := by
  have a1 := alB_e (alB_e hb_all n hn) k hk
  have b1 : Nat.ble (k + 1) 1 = false := by
    cases c : Nat.ble (k + 1) 1 with
    | false => rfl
    | true => have := Nat.le_of_ble_eq_true c; omega
  have b2 : Nat.ble (n + 1) k = false := by
    cases c : Nat.ble (n + 1) k with
    | false => rfl
    | true => have := Nat.le_of_ble_eq_true c; omega
  replace a1 : (Nat.ble (k + 1) 1 || Nat.ble (n + 1) k || alB (2 ^ n) (hbT n k)) = true := a1
  rw [b1, b2, Bool.false_or, Bool.false_or] at a1
  have a2 := alB_e a1 h hh
  unfold hbT at a2
  rw [sqN_e, Bool.and_eq_true] at a2
  exact ⟨Nat.le_of_ble_eq_true a2.1, Nat.eq_of_beq_eq_true a2.2⟩
theorem bitN_le (h s : Nat) : bitN h s ≤ 1 := by unfold bitN; omega
theorem hbB_le (h k p : Nat) : hbB h k p ≤ 1 := by
  unfold hbB
  have h1 := bitN_le h (k - 1 - p)
  have h2 := bitN_le h p
  by_cases c : p < k
  · rw [if_pos c]; omega
  · rw [if_neg c]; exact h2
theorem hbN_lt (h k : Nat) : ∀ p : Nat, hbN h k p < 2 ^ p := by
  intro p
  induction p with
  | zero => exact Nat.zero_lt_one
  | succ p ih =>
    have h1 := hbB_le h k p
    have h2 : hbB h k p * 2 ^ p ≤ 1 * 2 ^ p := Nat.mul_le_mul_right _ h1
    show hbN h k p + hbB h k p * 2 ^ p < 2 ^ (p + 1)
    rw [Nat.pow_succ]
    omega
theorem ok_headsBehind2 (q : dS) (n h k : Nat) (hT : TS q) (hn : (q.1 2 29).toInt = (n : Int)) (hh : h < 64) (hk : 1 ≤ k) (hkn : k ≤ n) : dOk (zX10_headsBehind q (nI h) (nI k)) (fun o => o.2 = q ∧ o.1 = nI (hbN h k n)) := by
  have fs : 0 ≤ Int32.toInt (q.1 2 29) ∧ Int32.toInt (q.1 2 29) ≤ 6 := hT.1 2 29
  have tk : Int32.toInt (nI k) = (k : Int) := nI_toInt (by omega)
  unfold zX10_headsBehind zX10_headsBehind_5
  refine dFix_ok (fun (a : dS × Int32 × Int32 × Int32 × Int32) => a.1 = q ∧ a.2.1 = nI h ∧ a.2.2.1 = nI k ∧ ∃ p : Nat, p ≤ n ∧ a.2.2.2.2 = nI p ∧ a.2.2.2.1 = nI (hbN h k p)) (fun (a : dS × Int32 × Int32 × Int32 × Int32) => (6 - Int32.toInt a.2.2.2.2).toNat) ?_ _ ⟨rfl, rfl, rfl, 0, by omega, rfl, rfl⟩ _ (dF_gt (by show (6 - Int32.toInt 0).toNat < 1000000000000; decide))
  intro a ha k5 hk5
  obtain ⟨qa, x1, x2, x3, x4⟩ := a
  obtain ⟨e0, e1, e2, p, hp, e4, e3⟩ := ha
  replace e0 : qa = q := e0
  replace e1 : x1 = nI h := e1
  replace e2 : x2 = nI k := e2
  replace e4 : x4 = nI p := e4
  replace e3 : x3 = nI (hbN h k p) := e3
  subst e0 e1 e2 e4 e3
  have tp : Int32.toInt (nI p) = (p : Int) := nI_toInt (by omega)
  have hlt := hbN_lt h k p
  show dOk (zX10_headsBehind_5b (fun q x1 x2 x3 x4 => k5 (q, x1, x2, x3, x4)) qa (nI h) (nI k) (nI (hbN h k p)) (nI p)) _
  have h42 : ∀ b : Nat, b = hbB h k p → p < n → dOk (zX10_headsBehind_42 (fun q x1 x2 x3 x4 => k5 (q, x1, x2, x3, x4)) qa (nI h) (nI k) (nI p) (nI b) (nI (hbN h k p))) (fun o => o.2 = qa ∧ o.1 = nI (hbN h k n)) := by
    intro b hb hpn
    have hb1 := hbB_le h k p
    have h6 : (2 : Nat) ^ p ≤ 2 ^ 6 := Nat.pow_le_pow_right (by decide) (by omega)
    unfold zX10_headsBehind_42
    rw [hb_or p (by omega) (hbN h k p) (by omega) hlt b (by omega)]
    have t1 : Int32.toInt (nI p + 1) = (p : Int) + 1 := ti_add tp (by decide) (by omega) (by omega)
    refine hk5 (qa, nI h, nI k, nI (hbN h k p + b * 2 ^ p), nI p + 1) ⟨rfl, rfl, rfl, p + 1, by omega, nI_1 p, ?_⟩ ?_
    · show nI (hbN h k p + b * 2 ^ p) = nI (hbN h k (p + 1))
      rw [hb]; rfl
    · show (6 - Int32.toInt (nI p + 1)).toNat < (6 - Int32.toInt (nI p)).toNat
      omega
  unfold zX10_headsBehind_5b
  refine dOk_B (ok_size qa hT) (fun r1 q3 hr => ?_)
  have eq3 : q3 = qa := hr.1
  have hr1 : Int32.toInt r1 = Int32.toInt (qa.1 2 29) := hr.2.1
  subst eq3
  refine dOk_le rfl tp (fun c => ?_) (fun c => ?_)
  · have : p = n := by omega
    subst this
    exact dOk_some ⟨rfl, rfl⟩
  refine dOk_le tk tp (fun c2 => ?_) (fun c2 => ?_)
  · rw [hb_bit h hh p (by omega)]
    exact h42 (bitN h p) (by unfold hbB; rw [if_neg (by omega)]) (by omega)
  · have es : nI k - 1 - nI p = nI (k - 1 - p) := by
      rw [show (1 : Int32) = nI 1 from rfl, pk_sub (by omega), pk_sub (by omega)]
    rw [es, hb_bit h hh (k - 1 - p) (by omega)]
    refine dOk_L (fun v4 e4 => ?_)
    have hb := bitN_le h (k - 1 - p)
    have e5 : (1 : Int32) - v4 = nI (1 - bitN h (k - 1 - p)) := by
      rw [e4, show (1 : Int32) = nI 1 from rfl, pk_sub hb]
    rw [e5]
    exact h42 (1 - bitN h (k - 1 - p)) (by unfold hbB; rw [if_pos (by omega)]) (by omega)
/-! orders: ranks of an order as a list, the number of a row of ranks -/
def selN (u : Nat) : Nat → Nat → Nat → Nat
  | 0, _, r => r
  | f + 1, s, r => if u.testBit r then selN u f s (r + 1) else if s = 0 then r else selN u f (s - 1) (r + 1)
def facN : Nat → Nat
  | 0 => 1
  | n + 1 => (n + 1) * facN n
def rkS : Nat → Nat → Nat → List Nat
  | 0, _, _ => []
  | m + 1, u, r => selN u 7 (r / facN m) 0 :: rkS m (u ||| 2 ^ selN u 7 (r / facN m) 0) (r % facN m)
def cntL (x : Nat) : List Nat → Nat
  | [] => 0
  | y :: ys => (if y < x then 1 else 0) + cntL x ys
def nmL : Nat → List Nat → Nat
  | acc, [] => acc
  | acc, x :: xs => nmL (acc * (xs.length + 1) + cntL x xs) xs
def lnV (rk : List Nat) (k j : Nat) : Nat := if j < k then rk.getD (k - 1 - j) 0 else rk.getD j 0
def lnL (rk : List Nat) (k : Nat) : Nat → Nat → List Nat
  | 0, _ => []
  | m + 1, j => lnV rk k j :: lnL rk k m (j + 1)
def obL (n o k : Nat) : Nat := nmL 0 (lnL (rkS n 0 o) k n 0)
theorem lnL_len (rk : List Nat) (k : Nat) : ∀ m j : Nat, (lnL rk k m j).length = m := by
  intro m
  induction m with
  | zero => intro j; rfl
  | succ m ih => intro j; exact congrArg (· + 1) (ih (j + 1))
theorem lnL_get (rk : List Nat) (k : Nat) : ∀ m j i : Nat, i < m → (lnL rk k m j).getD i 0 = lnV rk k (j + i) := by
  intro m
  induction m with
  | zero => intro j i h; exact absurd h (Nat.not_lt_zero i)
  | succ m ih =>
    intro j i h
    cases i with
    | zero => rfl
    | succ i =>
      have h1 := ih (j + 1) i (Nat.lt_of_succ_lt_succ h)
      rw [show j + (i + 1) = j + 1 + i by omega]
      exact h1
theorem rk_6 : ∀ n : Nat, n < 7 → ∀ p : Nat, p < 720 → p < facN n → ∀ j : Nat, j < 6 → j < n → (rkS n 0 p).getD j 0 < 6 := by decide +kernel
/-! the same with each number worked out ahead: for the kernel -/
def rkF : Nat → Nat → Nat → List Nat
  | 0, _, _ => []
  | m + 1, u, r => sqN (selN u 7 (r / facN m) 0) fun x => sqN (u ||| 2 ^ x) fun u2 => sqN (r % facN m) fun r2 => x :: rkF m u2 r2
theorem rkF_e : ∀ m u r : Nat, rkF m u r = rkS m u r := by
  intro m
  induction m with
  | zero => intro u r; rfl
  | succ m ih =>
    intro u r
    show (sqN (selN u 7 (r / facN m) 0) fun x => sqN (u ||| 2 ^ x) fun u2 => sqN (r % facN m) fun r2 => x :: rkF m u2 r2) = _
    rw [sqN_e, sqN_e, sqN_e, ih]
    rfl
/-- a row of numbers worked out ahead of its use -/
def sqL {α : Type} : List Nat → (List Nat → α) → α
  | [], f => f []
  | x :: xs, f => sqN x fun y => sqL xs fun ys => f (y :: ys)
theorem sqL_e {α : Type} : ∀ (l : List Nat) (f : List Nat → α), sqL l f = f l := by
  intro l
  induction l with
  | nil => intro f; rfl
  | cons x xs ih =>
    intro f
    show (sqN x fun y => sqL xs fun ys => f (y :: ys)) = _
    rw [sqN_e, ih]
def nmF : Nat → List Nat → Nat
  | acc, [] => acc
  | acc, x :: xs => sqN (acc * (xs.length + 1) + cntL x xs) fun a => nmF a xs
theorem nmF_e : ∀ (l : List Nat) (acc : Nat), nmF acc l = nmL acc l := by
  intro l
  induction l with
  | nil => intro acc; rfl
  | cons x xs ih =>
    intro acc
    show (sqN (acc * (xs.length + 1) + cntL x xs) fun a => nmF a xs) = _
    rw [sqN_e, ih]
    rfl
def obF {α : Type} (n o k : Nat) (f : Nat → α) : α := sqL (rkF n 0 o) fun rk => sqL (lnL rk k n 0) fun l => sqN (nmF 0 l) f
theorem obF_e {α : Type} (n o k : Nat) (f : Nat → α) : obF n o k f = f (obL n o k) := by
  unfold obF obL
  rw [sqL_e, sqL_e, sqN_e, nmF_e, rkF_e]
def obT (n k o : Nat) : Bool := obF n o k fun a => Nat.ble (a + 1) (facN n) && obF n a k fun b => Nat.beq b o
theorem obT_e {n k o : Nat} (h : obT n k o = true) : obL n o k < facN n ∧ obL n (obL n o k) k = o := by
  unfold obT at h
  rw [obF_e, obF_e, Bool.and_eq_true] at h
  exact ⟨Nat.le_of_ble_eq_true h.1, Nat.eq_of_beq_eq_true h.2⟩
theorem ob_all1 : alB 5 (fun n => alB 5 (fun k => Nat.ble (k + 1) 1 || Nat.ble (n + 1) k || alB (facN n) (obT n k))) = true := by decide +kernel
theorem ob_all5 : alB 5 (fun k => alB 10 (fun a => alB 12 (fun b => sqN (12 * a + b) (obT 5 (k + 1))))) = true := by decide +kernel
theorem ob_all61 : alB 30 (fun a => alB 24 (fun b => sqN (24 * a + b) (obT 6 1))) = true := by decide +kernel
theorem ob_all62 : alB 30 (fun a => alB 24 (fun b => sqN (24 * a + b) (obT 6 2))) = true := by decide +kernel
theorem ob_all63 : alB 30 (fun a => alB 24 (fun b => sqN (24 * a + b) (obT 6 3))) = true := by decide +kernel
theorem ob_all64 : alB 30 (fun a => alB 24 (fun b => sqN (24 * a + b) (obT 6 4))) = true := by decide +kernel
theorem ob_all65 : alB 30 (fun a => alB 24 (fun b => sqN (24 * a + b) (obT 6 5))) = true := by decide +kernel
theorem ob_all66 : alB 30 (fun a => alB 24 (fun b => sqN (24 * a + b) (obT 6 6))) = true := by decide +kernel
theorem ob_60 {k o : Nat} (h : alB 30 (fun a => alB 24 (fun b => sqN (24 * a + b) (obT 6 k))) = true) (ho : o < 720) : obT 6 k o = true := by
  have h1 := alB_e (alB_e h (o / 24) (by omega)) (o % 24) (by omega)
  replace h1 : sqN (24 * (o / 24) + o % 24) (obT 6 k) = true := h1
  rw [sqN_e, show 24 * (o / 24) + o % 24 = o by omega] at h1
  exact h1
theorem ob_50 {k o : Nat} (hk : k < 5) (ho : o < 120) : obT 5 (k + 1) o = true := by
  have h1 := alB_e (alB_e (alB_e ob_all5 k hk) (o / 12) (by omega)) (o % 12) (by omega)
  replace h1 : sqN (12 * (o / 12) + o % 12) (obT 5 (k + 1)) = true := h1
  rw [sqN_e, show 12 * (o / 12) + o % 12 = o by omega] at h1
  exact h1
theorem ob_inv {n p k : Nat} (hn : n ≤ 6) (hp : p < facN n) (h1 : 1 ≤ k) (hk : k ≤ n) : obL n p k < facN n ∧ obL n (obL n p k) k = p := by
  apply obT_e
  rcases Nat.lt_or_ge n 5 with z | z
  · have a1 := alB_e (alB_e ob_all1 n z) k (by omega)
    have b1 : Nat.ble (k + 1) 1 = false := by
      cases c : Nat.ble (k + 1) 1 with
      | false => rfl
      | true => have := Nat.le_of_ble_eq_true c; omega
    have b2 : Nat.ble (n + 1) k = false := by
      cases c : Nat.ble (n + 1) k with
      | false => rfl
      | true => have := Nat.le_of_ble_eq_true c; omega
    replace a1 : (Nat.ble (k + 1) 1 || Nat.ble (n + 1) k || alB (facN n) (obT n k)) = true := a1
    rw [b1, b2, Bool.false_or, Bool.false_or] at a1
    exact alB_e a1 p hp
  · have hc : n = 5 ∨ n = 6 := by omega
    rcases hc with e | e
    · subst e
      have hp5 : p < 120 := hp
      have e2 : k = (k - 1) + 1 := by omega
      rw [e2]
      exact ob_50 (by omega) hp5
    · subst e
      have hp6 : p < 720 := hp
      have hc : k = 1 ∨ k = 2 ∨ k = 3 ∨ k = 4 ∨ k = 5 ∨ k = 6 := by omega
      rcases hc with e | e | e | e | e | e
      · subst e; exact ob_60 ob_all61 hp6
      · subst e; exact ob_60 ob_all62 hp6
      · subst e; exact ob_60 ob_all63 hp6
      · subst e; exact ob_60 ob_all64 hp6
      · subst e; exact ob_60 ob_all65 hp6
      · subst e; exact ob_60 ob_all66 hp6
end
section
/-! laysOrder lays the ranks rkS -/
theorem facN_pos : ∀ m : Nat, 0 < facN m := by
  intro m
  induction m with
  | zero => exact Nat.zero_lt_one
  | succ m ih => exact Nat.mul_pos (Nat.succ_pos m) ih
theorem facN_le : ∀ n : Nat, n ≤ 6 → facN n ≤ 720 := by
  intro n hn
  have h : ∀ k : Nat, k < 7 → facN k ≤ 720 := by decide
  exact h n (by omega)
theorem selN_in {u f s r : Nat} (h : u.testBit r = true) : selN u (f + 1) s r = selN u f s (r + 1) := by
  show (if u.testBit r = true then selN u f s (r + 1) else if s = 0 then r else selN u f (s - 1) (r + 1)) = _
  rw [if_pos h]
theorem selN_z {u f r : Nat} (h : u.testBit r = false) : selN u (f + 1) 0 r = r := by
  show (if u.testBit r = true then selN u f 0 (r + 1) else if 0 = 0 then r else selN u f (0 - 1) (r + 1)) = _
  rw [h, if_neg (by decide), if_pos rfl]
theorem selN_d {u f s r : Nat} (h : u.testBit r = false) (hs : 0 < s) : selN u (f + 1) s r = selN u f (s - 1) (r + 1) := by
  show (if u.testBit r = true then selN u f s (r + 1) else if s = 0 then r else selN u f (s - 1) (r + 1)) = _
  rw [h, if_neg (by decide), if_neg (by omega)]
theorem drop_cons : ∀ (i : Nat) {l : List Nat} {x : Nat} {xs : List Nat}, l.drop i = x :: xs → l.drop (i + 1) = xs ∧ l.getD i 0 = x := by
  intro i
  induction i with
  | zero =>
    intro l x xs h
    have h2 : l = x :: xs := h
    subst h2
    exact ⟨rfl, rfl⟩
  | succ i ih =>
    intro l x xs h
    cases l with
    | nil =>
      have h2 : ([] : List Nat) = x :: xs := h
      cases h2
    | cons y ys =>
      have h2 : ys.drop i = x :: xs := h
      exact ih h2
theorem ok_laysOrder2 (q : dS) (n p : Nat) (hT : TS q) (hn : (q.1 2 29).toInt = (n : Int)) (hp : p < facN n) : dOk (zX10_laysOrder q (nI p)) (fun (o : dS) => TS o ∧ dFr [16] [] q o ∧ (∀ j : Nat, j < n → o.1 16 (6 * p + j) = nI ((rkS n 0 p).getD j 0)) ∧ (∀ j : Nat, (j < 6 * p ∨ 6 * p + 6 ≤ j) → o.1 16 j = q.1 16 j)) := by
  have fs : 0 ≤ Int32.toInt (q.1 2 29) ∧ Int32.toInt (q.1 2 29) ≤ 6 := hT.1 2 29
  have hn6 : n ≤ 6 := by omega
  have hp7 : p < 720 := Nat.lt_of_lt_of_le hp (facN_le n hn6)
  unfold zX10_laysOrder zX10_laysOrder_7
  refine dFix_ok (fun (a : dS × Int32 × Int32 × Int32 × Int32) => TS a.1 ∧ dFr [16] [] q a.1 ∧ a.2.1 = nI p ∧ ∃ i u s : Nat, i ≤ n ∧ a.2.2.2.2 = nI i ∧ u < 64 ∧ a.2.2.1 = nI u ∧ usB u 6 = i ∧ a.2.2.2.1 = nI s ∧ s < facN (n - i) ∧ rkS (n - i) u s = (rkS n 0 p).drop i ∧ (∀ j : Nat, j < i → a.1.1 16 (6 * p + j) = nI ((rkS n 0 p).getD j 0)) ∧ (∀ j : Nat, (j < 6 * p ∨ 6 * p + 6 ≤ j) → a.1.1 16 j = q.1 16 j)) (fun (a : dS × Int32 × Int32 × Int32 × Int32) => (6 - a.2.2.2.2.toInt).toNat) ?_ _ ?_ _ (dF_gt ?_)
  · intro a ha k7 hk7
    obtain ⟨qa, x1, x2, x3, x4⟩ := a
    obtain ⟨hT, hF, e1, i, u, s, hi, e4, hu, e2, hus, e3, hs, hrk, hlo, hout⟩ := ha
    replace hT : TS qa := hT
    replace hF : dFr [16] [] q qa := hF
    replace e1 : x1 = nI p := e1
    replace e2 : x2 = nI u := e2
    replace e3 : x3 = nI s := e3
    replace e4 : x4 = nI i := e4
    replace hlo : ∀ j : Nat, j < i → qa.1 16 (6 * p + j) = nI ((rkS n 0 p).getD j 0) := hlo
    replace hout : ∀ j : Nat, (j < 6 * p ∨ 6 * p + 6 ≤ j) → qa.1 16 j = q.1 16 j := hout
    have w29 : Int32.toInt (qa.1 2 29) = Int32.toInt (q.1 2 29) := by rw [hF.1 2 (by decide) (by decide)]
    subst e1 e2 e3 e4
    have ti : Int32.toInt (nI i) = (i : Int) := nI_toInt (by omega)
    show dOk (zX10_laysOrder_7b (fun q x1 x2 x3 x4 => k7 (q, x1, x2, x3, x4)) qa (nI p) (nI u) (nI s) (nI i)) _
    unfold zX10_laysOrder_7b
    refine dOk_B (ok_size qa hT) (fun r1 q3 hr => ?_)
    have eq3 : q3 = qa := hr.1
    have hr1 : Int32.toInt r1 = Int32.toInt (qa.1 2 29) := hr.2.1
    subst eq3
    refine dOk_le rfl ti (fun c => dOk_some ⟨hT, hF, ?_, hout⟩) (fun c => ?_)
    · have hin : i = n := by omega
      subst hin
      exact hlo
    refine dOk_B (ok_size q3 hT) (fun r4 q6 hr4 => ?_)
    have eq6 : q6 = q3 := hr4.1
    have hr4' : Int32.toInt r4 = Int32.toInt (q3.1 2 29) := hr4.2.1
    subst eq6
    obtain ⟨m, hm⟩ : ∃ m : Nat, n - i = m + 1 := ⟨n - i - 1, by omega⟩
    have t1 : Int32.toInt (r4 - 1) = Int32.toInt r4 - 1 := ti_sub rfl (by decide) (by omega) (by omega)
    have t2 : Int32.toInt (r4 - 1 - nI i) = Int32.toInt r4 - 1 - (i : Int) := ti_sub t1 ti (by omega) (by omega)
    refine dOk_V (ok_allOrders (r4 - 1 - nI i) (by omega)) (fun r7 hr7 => ?_)
    have hr7 := (show ((Int32.toInt (r4 - 1 - nI i) ≤ 1 ∧ Int32.toInt r7 = 1) ∨ (Int32.toInt (r4 - 1 - nI i) = 2 ∧ Int32.toInt r7 = 2) ∨ (Int32.toInt (r4 - 1 - nI i) = 3 ∧ Int32.toInt r7 = 6) ∨ (Int32.toInt (r4 - 1 - nI i) = 4 ∧ Int32.toInt r7 = 24) ∨ (Int32.toInt (r4 - 1 - nI i) = 5 ∧ Int32.toInt r7 = 120) ∨ (Int32.toInt (r4 - 1 - nI i) = 6 ∧ Int32.toInt r7 = 720)) from hr7)
    have hm6 : m < 6 := by omega
    have hfm : ∀ k : Nat, k < 6 → ((k ≤ 1 ∧ facN k = 1) ∨ (k = 2 ∧ facN k = 2) ∨ (k = 3 ∧ facN k = 6) ∨ (k = 4 ∧ facN k = 24) ∨ (k = 5 ∧ facN k = 120)) := by decide
    have hfm := hfm m hm6
    have e7t : Int32.toInt r7 = (facN m : Int) := by omega
    have hf7 : facN m ≤ 720 := facN_le m (by omega)
    have hf0 : 0 < facN m := facN_pos m
    have e7 : r7 = nI (facN m) := Int32.toInt_inj.mp (by rw [e7t, nI_toInt (by omega)])
    rw [hm] at hs hrk
    have hs7 : s < (m + 1) * facN m := hs
    have hsd : s / facN m < m + 1 := (Nat.div_lt_iff_lt_mul hf0).2 hs7
    have hsm : s % facN m < facN m := Nat.mod_lt _ hf0
    have hs720 : s < 2 ^ 31 := by
      have := facN_le (m + 1) (by omega)
      omega
    refine dOk_G (dnz_ok (by omega)) (dOk_G (dnz_ok (by omega)) ?_)
    rw [e7, pk_rem hs720 hf0 (by omega), pk_div hs720 hf0 (by omega)]
    have hrk2 : (rkS n 0 p).drop i = selN u 7 (s / facN m) 0 :: rkS m (u ||| 2 ^ selN u 7 (s / facN m) 0) (s % facN m) := hrk.symm
    obtain ⟨hd1, hd2⟩ := drop_cons i hrk2
    generalize s / facN m = s0 at *
    generalize s % facN m = rest at *
    unfold zX10_laysOrder_44
    refine dFix_ok (fun (a : dS × Int32 × Int32 × Int32 × Int32 × Int32 × Int32) => a.1 = q6 ∧ a.2.1 = nI p ∧ a.2.2.1 = nI u ∧ a.2.2.2.1 = nI rest ∧ a.2.2.2.2.1 = nI i ∧ ∃ r t : Nat, r ≤ 6 ∧ a.2.2.2.2.2.2 = nI r ∧ a.2.2.2.2.2.1 = nI t ∧ t + r = s0 + usB u r ∧ selN u (7 - r) t r = selN u 7 s0 0) (fun (a : dS × Int32 × Int32 × Int32 × Int32 × Int32 × Int32) => (6 - a.2.2.2.2.2.2.toInt).toNat) ?_ _ ?_ _ (dF_gt ?_)
    · intro a ha k44 hk44
      obtain ⟨qb, y1, y2, y3, y4, y6, y7⟩ := a
      obtain ⟨g1, g2, g3, g4, g5, r, t, hr6, g7, g6, hsum, hsel⟩ := ha
      replace g1 : qb = q6 := g1
      replace g2 : y1 = nI p := g2
      replace g3 : y2 = nI u := g3
      replace g4 : y3 = nI rest := g4
      replace g5 : y4 = nI i := g5
      replace g7 : y7 = nI r := g7
      replace g6 : y6 = nI t := g6
      subst g1 g2 g3 g4 g5 g7 g6
      have hub := usB_le u r
      have hr5 : r ≤ 5 := by
        rcases Nat.lt_or_ge r 6 with z | z
        · omega
        · have : r = 6 := by omega
          subst this
          omega
      have tr : Int32.toInt (nI r) = (r : Int) := nI_toInt (by omega)
      have tt : Int32.toInt (nI t) = (t : Int) := nI_toInt (by omega)
      have tr1 : Int32.toInt (nI r + 1) = (r : Int) + 1 := ti_add tr (by decide) (by omega) (by omega)
      have e_r1 : nI r + 1 = nI (r + 1) := nI_1 r
      have e7r : 7 - r = (6 - r) + 1 := by omega
      have e6r : 7 - (r + 1) = 6 - r := by omega
      rw [e7r] at hsel
      show dOk (zX10_laysOrder_44b _ (fun q x1 x2 x3 x4 x6 x7 => k44 (q, x1, x2, x3, x4, x6, x7)) qb (nI p) (nI u) (nI rest) (nI i) (nI t) (nI r)) _
      have h74 : ∀ y : Nat, ((y = 1 ∧ u.testBit r = false ∧ 0 < t) ∨ (y = 0 ∧ u.testBit r = true)) → dOk (zX10_laysOrder_74 (fun q x1 x2 x3 x4 => k7 (q, x1, x2, x3, x4)) (fun q x1 x2 x3 x4 x6 x7 => k44 (q, x1, x2, x3, x4, x6, x7)) qb (nI p) (nI u) (nI rest) (nI i) (nI r) (nI y) (nI t)) (fun (o : dS) => TS o ∧ dFr [16] [] q o ∧ (∀ j : Nat, j < n → o.1 16 (6 * p + j) = nI ((rkS n 0 p).getD j 0)) ∧ (∀ j : Nat, (j < 6 * p ∨ 6 * p + 6 ≤ j) → o.1 16 j = q.1 16 j)) := by
        intro y hy
        unfold zX10_laysOrder_74
        have hyt : y ≤ t := by omega
        rw [pk_sub hyt]
        refine hk44 (qb, nI p, nI u, nI rest, nI i, nI (t - y), nI r + 1) ⟨rfl, rfl, rfl, rfl, rfl, r + 1, t - y, by omega, e_r1, rfl, ?_, ?_⟩ ?_
        · show t - y + (r + 1) = s0 + (usB u r + (if u.testBit r then 1 else 0))
          rcases hy with ⟨h1, h2, h3⟩ | ⟨h1, h2⟩
          · rw [h2, if_neg (by decide)]; omega
          · rw [h2, if_pos rfl]; omega
        · show selN u (7 - (r + 1)) (t - y) (r + 1) = selN u 7 s0 0
          rw [e6r, ← hsel]
          rcases hy with ⟨h1, h2, h3⟩ | ⟨h1, h2⟩
          · rw [selN_d h2 h3, h1]
          · rw [selN_in h2, h1, Nat.sub_zero]
        · show (6 - Int32.toInt (nI r + 1)).toNat < (6 - Int32.toInt (nI r)).toNat
          omega
      have h58 : (u.testBit r = true ∨ 0 < t) → dOk (zX10_laysOrder_58 (fun q x1 x2 x3 x4 => k7 (q, x1, x2, x3, x4)) (fun q x1 x2 x3 x4 x6 x7 => k44 (q, x1, x2, x3, x4, x6, x7)) qb (nI p) (nI u) (nI rest) (nI i) (nI t) (nI r)) (fun (o : dS) => TS o ∧ dFr [16] [] q o ∧ (∀ j : Nat, j < n → o.1 16 (6 * p + j) = nI ((rkS n 0 p).getD j 0)) ∧ (∀ j : Nat, (j < 6 * p ∨ 6 * p + 6 ≤ j) → o.1 16 j = q.1 16 j)) := by
        intro hh
        unfold zX10_laysOrder_58
        refine dOk_V (isIn_eq hu (by omega)) (fun o ho => ?_)
        rcases ho with ⟨rfl, hb⟩ | ⟨rfl, hb⟩
        · rw [if_neg (by decide)]
          exact h74 0 (Or.inr ⟨rfl, hb⟩)
        · rw [if_pos rfl]
          refine h74 1 (Or.inl ⟨rfl, hb, ?_⟩)
          rcases hh with hh | hh
          · rw [hb] at hh; cases hh
          · exact hh
      unfold zX10_laysOrder_44b
      refine dOk_V (isIn_eq hu (by omega)) (fun o ho => ?_)
      rcases ho with ⟨rfl, hb⟩ | ⟨rfl, hb⟩
      · rw [if_neg (by decide)]
        exact h58 (Or.inl hb)
      · rw [if_pos rfl]
        refine dOk_le (A := (t : Int)) (B := 0) tt (by decide) (fun c2 => ?_) (fun c2 => h58 (Or.inr (by omega)))
        have ht0 : t = 0 := by omega
        subst ht0
        have hrs : selN u 7 s0 0 = r := by rw [← hsel, selN_z hb]
        rw [hrs] at hd1 hd2
        have eix : (6 * nI p + nI i : Int32) = nI (6 * p + i) := by rw [show (6 : Int32) = nI 6 from rfl, pk_mul, nI_add]
        rw [eix]
        have tix : Int32.toInt (nI (6 * p + i)) = ((6 * p + i : Nat) : Int) := nI_toInt (by omega)
        refine dOk_G (dg_ok (by omega) (by omega)) (dOk_L (fun q4 e4 => ?_))
        rw [nI_clamp (by omega)] at e4
        obtain ⟨o1, o2, o3⟩ := or_bit u hu r (by omega) hb
        have t5 : Int32.toInt (nI i + 1) = (i : Int) + 1 := ti_add ti (by decide) (by omega) (by omega)
        have em : n - (i + 1) = m := by omega
        refine hk7 (q4, nI p, nI u ||| (1 <<< (nI r &&& 31)), nI rest, nI i + 1) ⟨?_, ?_, rfl, i + 1, u ||| 2 ^ r, rest, by omega, nI_1 i, o2, o1, ?_, rfl, ?_, ?_, ?_, ?_⟩ ?_
        · show TS q4
          rw [e4]; exact ts_set hT (by decide) (show (0 : Int) ≤ Int32.toInt (nI r) by omega) (show Int32.toInt (nI r) ≤ 5 by omega)
        · show dFr [16] [] q q4
          rw [e4]; exact hF.i (by decide) (by decide)
        · show usB (u ||| 2 ^ r) 6 = i + 1
          rw [o3, hus]
        · show rest < facN (n - (i + 1))
          rw [em]; exact hsm
        · show rkS (n - (i + 1)) (u ||| 2 ^ r) rest = (rkS n 0 p).drop (i + 1)
          rw [em]; exact hd1.symm
        · show ∀ j : Nat, j < i + 1 → q4.1 16 (6 * p + j) = nI ((rkS n 0 p).getD j 0)
          intro j hj
          rw [e4]
          by_cases cj : j = i
          · subst cj
            rw [dui_e, hd2]
          · rw [dui_n (by omega)]
            exact hlo j (by omega)
        · show ∀ j : Nat, (j < 6 * p ∨ 6 * p + 6 ≤ j) → q4.1 16 j = q.1 16 j
          intro j hj
          rw [e4, dui_n (by omega)]
          exact hout j hj
        · show (6 - Int32.toInt (nI i + 1)).toNat < (6 - Int32.toInt (nI i)).toNat
          omega
    · exact ⟨rfl, rfl, rfl, rfl, rfl, 0, s0, by omega, rfl, rfl, rfl, rfl⟩
    · show (6 - Int32.toInt 0).toNat < 1000000000000
      decide
  · exact ⟨hT, dFr.rf, rfl, 0, 0, p, by omega, rfl, by decide, rfl, by decide, rfl, hp, rfl, (fun j hj => absurd hj (Nat.not_lt_zero j)), (fun j _ => rfl)⟩
  · show (6 - Int32.toInt 0).toNat < 1000000000000
    decide
end
section
/-! numberOf is nmL of the line -/
theorem drop_ex : ∀ (i : Nat) {l : List Nat}, i < l.length → ∃ x : Nat, l.drop i = x :: l.drop (i + 1) ∧ l.getD i 0 = x := by
  intro i
  induction i with
  | zero =>
    intro l h
    cases l with
    | nil => exact absurd h (Nat.not_lt_zero 0)
    | cons y ys => exact ⟨y, rfl, rfl⟩
  | succ i ih =>
    intro l h
    cases l with
    | nil => exact absurd h (Nat.not_lt_zero _)
    | cons y ys =>
      have h2 : i < ys.length := Nat.lt_of_succ_lt_succ h
      obtain ⟨x, h3, h4⟩ := ih h2
      exact ⟨x, h3, h4⟩
theorem ok_numberOf2 (q : dS) (n : Nat) (l : List Nat) (hT : TS q) (hn : (q.1 2 29).toInt = (n : Int)) (hl : l.length = n) (h6 : ∀ j : Nat, j < n → l.getD j 0 < 6) (hv : ∀ j : Nat, j < n → q.1 19 j = nI (l.getD j 0)) : dOk (zX10_numberOf q) (fun o => o.2 = q ∧ o.1 = nI (nmL 0 l)) := by
  have fs : 0 ≤ Int32.toInt (q.1 2 29) ∧ Int32.toInt (q.1 2 29) ≤ 6 := hT.1 2 29
  have hn6 : n ≤ 6 := by omega
  unfold zX10_numberOf zX10_numberOf_4
  refine dFix_ok (fun (a : dS × Int32 × Int32) => a.1 = q ∧ ∃ i c : Nat, i ≤ n ∧ a.2.2 = nI i ∧ a.2.1 = nI c ∧ nmL c (l.drop i) = nmL 0 l) (fun (a : dS × Int32 × Int32) => (6 - a.2.2.toInt).toNat) ?_ _ ⟨rfl, 0, 0, by omega, rfl, rfl, rfl⟩ _ (dF_gt (by show (6 - Int32.toInt 0).toNat < 1000000000000; decide))
  intro a ha k4 hk4
  obtain ⟨qa, x1, x2⟩ := a
  obtain ⟨e0, i, c, hi, e2, e1, hnm⟩ := ha
  replace e0 : qa = q := e0
  replace e2 : x2 = nI i := e2
  replace e1 : x1 = nI c := e1
  subst e0 e2 e1
  have ti : Int32.toInt (nI i) = (i : Int) := nI_toInt (by omega)
  show dOk (zX10_numberOf_4b (fun q x1 x2 => k4 (q, x1, x2)) qa (nI c) (nI i)) _
  unfold zX10_numberOf_4b
  refine dOk_B (ok_size qa hT) (fun r1 q3 hr => ?_)
  have eq3 : q3 = qa := hr.1
  have hr1 : Int32.toInt r1 = Int32.toInt (qa.1 2 29) := hr.2.1
  subst eq3
  refine dOk_le rfl ti (fun cc => ?_) (fun cc => ?_)
  · have hz : l.drop i = [] := List.drop_eq_nil_of_le (by omega)
    rw [hz] at hnm
    exact dOk_some ⟨rfl, congrArg nI hnm⟩
  obtain ⟨x, hx, hgx⟩ := drop_ex i (l := l) (by omega)
  have hlen : (l.drop (i + 1)).length + 1 = n - i := by
    have h1 := congrArg List.length hx
    rw [List.length_drop, List.length_cons] at h1
    omega
  unfold zX10_numberOf_19
  refine dFix_ok (fun (a : dS × Int32 × Int32 × Int32 × Int32) => a.1 = q3 ∧ a.2.1 = nI c ∧ a.2.2.1 = nI i ∧ ∃ j d : Nat, i + 1 ≤ j ∧ j ≤ n ∧ a.2.2.2.2 = nI j ∧ a.2.2.2.1 = nI d ∧ d + cntL x (l.drop j) = cntL x (l.drop (i + 1))) (fun (a : dS × Int32 × Int32 × Int32 × Int32) => (6 - a.2.2.2.2.toInt).toNat) ?_ _ ⟨rfl, rfl, rfl, i + 1, 0, by omega, by omega, nI_1 i, rfl, Nat.zero_add _⟩ _ (dF_gt ?_)
  · intro a ha k19 hk19
    obtain ⟨qb, y1, y2, y3, y4⟩ := a
    obtain ⟨g0, g1, g2, j, d, hj1, hj2, g4, g3, hcnt⟩ := ha
    replace g0 : qb = q3 := g0
    replace g1 : y1 = nI c := g1
    replace g2 : y2 = nI i := g2
    replace g4 : y4 = nI j := g4
    replace g3 : y3 = nI d := g3
    subst g0 g1 g2 g4 g3
    have tj : Int32.toInt (nI j) = (j : Int) := nI_toInt (by omega)
    show dOk (zX10_numberOf_19b (fun q x1 x2 => k4 (q, x1, x2)) (fun q x1 x2 x3 x4 => k19 (q, x1, x2, x3, x4)) qb (nI c) (nI i) (nI d) (nI j)) _
    have h50 : ∀ b : Nat, d + b + cntL x (l.drop (j + 1)) = cntL x (l.drop (i + 1)) → j < n → dOk (zX10_numberOf_50 (fun q x1 x2 => k4 (q, x1, x2)) (fun q x1 x2 x3 x4 => k19 (q, x1, x2, x3, x4)) qb (nI c) (nI i) (nI j) (nI b) (nI d)) (fun o => o.2 = qb ∧ o.1 = nI (nmL 0 l)) := by
      intro b hb hjn
      unfold zX10_numberOf_50
      rw [nI_add]
      have t1 : Int32.toInt (nI j + 1) = (j : Int) + 1 := ti_add tj (by decide) (by omega) (by omega)
      refine hk19 (qb, nI c, nI i, nI (d + b), nI j + 1) ⟨rfl, rfl, rfl, j + 1, d + b, by omega, by omega, nI_1 j, rfl, hb⟩ ?_
      show (6 - Int32.toInt (nI j + 1)).toNat < (6 - Int32.toInt (nI j)).toNat
      omega
    unfold zX10_numberOf_19b
    refine dOk_B (ok_size qb hT) (fun r2 q5 hr2 => ?_)
    have eq5 : q5 = qb := hr2.1
    have hr2' : Int32.toInt r2 = Int32.toInt (qb.1 2 29) := hr2.2.1
    subst eq5
    refine dOk_le rfl tj (fun c2 => ?_) (fun c2 => ?_)
    · refine dOk_B (ok_size q5 hT) (fun r4 q6 hr4 => ?_)
      have eq6 : q6 = q5 := hr4.1
      have hr4' : Int32.toInt r4 = Int32.toInt (q5.1 2 29) := hr4.2.1
      subst eq6
      have er4 : r4 = nI n := Int32.toInt_inj.mp (by rw [hr4', hn, nI_toInt (by omega)])
      have hz : l.drop j = [] := List.drop_eq_nil_of_le (by omega)
      rw [hz] at hcnt
      have hd : d = cntL x (l.drop (i + 1)) := hcnt
      have t1 : Int32.toInt (nI i + 1) = (i : Int) + 1 := ti_add ti (by decide) (by omega) (by omega)
      rw [er4, pk_sub hi, pk_mul, nI_add]
      refine hk4 (q6, nI (c * (n - i) + d), nI i + 1) ⟨rfl, i + 1, c * (n - i) + d, by omega, nI_1 i, rfl, ?_⟩ ?_
      · show nmL (c * (n - i) + d) (l.drop (i + 1)) = nmL 0 l
        rw [← hnm, hx, ← hlen, hd]
        rfl
      · show (6 - Int32.toInt (nI i + 1)).toNat < (6 - Int32.toInt (nI i)).toNat
        omega
    · obtain ⟨z, hz, hgz⟩ := drop_ex j (l := l) (by omega)
      rw [hz] at hcnt
      have hcnt2 : d + ((if z < x then 1 else 0) + cntL x (l.drop (j + 1))) = cntL x (l.drop (i + 1)) := hcnt
      have hz6 : z < 6 := by rw [← hgz]; exact h6 j (by omega)
      have hx6 : x < 6 := by rw [← hgx]; exact h6 i (by omega)
      refine dOk_G (dg_ok (by omega) (by omega)) (dOk_L (fun v8 e8 => ?_))
      rw [nI_clamp (by omega), hv j (by omega), hgz] at e8
      refine dOk_G (dg_ok (by omega) (by omega)) (dOk_L (fun v10 e10 => ?_))
      rw [nI_clamp (by omega), hv i (by omega), hgx] at e10
      subst e8 e10
      refine dOk_le (nI_toInt (n := x) (by omega)) (nI_toInt (n := z) (by omega)) (fun c3 => ?_) (fun c3 => ?_)
      · rw [if_neg (by omega)] at hcnt2
        exact h50 0 (by omega) (by omega)
      · rw [if_pos (by omega)] at hcnt2
        exact h50 1 (by omega) (by omega)
  · show (6 - Int32.toInt (nI i + 1)).toNat < 1000000000000
    have t1 : Int32.toInt (nI i + 1) = (i : Int) + 1 := ti_add ti (by decide) (by omega) (by omega)
    omega
end
section
/-! laysTables lays obL and hbN -/
def tab16 (o : dS) (n m : Nat) : Prop := ∀ p j : Nat, p < m → j < n → o.1 16 (6 * p + j) = nI ((rkS n 0 p).getD j 0)
def tab17 (o : dS) (n m : Nat) : Prop := ∀ p k : Nat, p < m → 1 ≤ k → k ≤ n → o.1 17 (7 * p + k) = nI (obL n p k)
def tab18 (o : dS) (n m : Nat) : Prop := ∀ h k : Nat, h < m → 1 ≤ k → k ≤ n → o.1 18 (7 * h + k) = nI (hbN h k n)
def tabs (o : dS) (n : Nat) : Prop := o.1 0 37 = nI (facN n) ∧ o.1 0 38 = nI (2 ^ n) ∧ tab16 o n (facN n) ∧ tab17 o n (facN n) ∧ tab18 o n (2 ^ n)
theorem ob_lt {n p k : Nat} (hn : n ≤ 6) (hp : p < facN n) (h1 : 1 ≤ k) (hk : k ≤ n) : obL n p k < facN n ∧ obL n (obL n p k) k = p := ob_inv hn hp h1 hk
/-- the heads' half -/
theorem ok_tabH (q0 q : dS) (S F : List Nat) (n : Nat) (hS : 18 ∈ S) (hT : TS q) (hF : dFr S F q0 q) (hn : (q.1 2 29).toInt = (n : Int)) (h37 : q.1 0 37 = nI (facN n)) (h38 : q.1 0 38 = nI (2 ^ n)) (h16 : tab16 q n (facN n)) (h17 : tab17 q n (facN n)) : dOk (zX10_laysTables_121 dF q 0) (fun o => TS o ∧ dFr S F q0 o ∧ tabs o n) := by
  have fs : 0 ≤ Int32.toInt (q.1 2 29) ∧ Int32.toInt (q.1 2 29) ≤ 6 := hT.1 2 29
  have hn6 : n ≤ 6 := by omega
  have h64 : 2 ^ n ≤ 2 ^ 6 := Nat.pow_le_pow_right (by decide) hn6
  have t2n : Int32.toInt (nI (2 ^ n)) = ((2 ^ n : Nat) : Int) := nI_toInt (by omega)
  unfold zX10_laysTables_121
  refine dFix_ok (fun (a : dS × Int32) => TS a.1 ∧ dFr S F q0 a.1 ∧ dFr [18] [] q a.1 ∧ ∃ h : Nat, h ≤ 2 ^ n ∧ a.2 = nI h ∧ tab18 a.1 n h) (fun (a : dS × Int32) => (64 - a.2.toInt).toNat) ?_ _ ⟨hT, hF, dFr.rf, 0, Nat.zero_le _, rfl, fun p k hp => absurd hp (Nat.not_lt_zero p)⟩ _ (dF_gt (by show (64 - Int32.toInt 0).toNat < 1000000000000; decide))
  intro a ha k121 hk121
  obtain ⟨qa, x1⟩ := a
  obtain ⟨hTa, hFa, hG, h, hh, e1, h18⟩ := ha
  replace hTa : TS qa := hTa
  replace hFa : dFr S F q0 qa := hFa
  replace hG : dFr [18] [] q qa := hG
  replace e1 : x1 = nI h := e1
  replace h18 : tab18 qa n h := h18
  subst e1
  have th : Int32.toInt (nI h) = (h : Int) := nI_toInt (by omega)
  have a38 : qa.1 0 38 = nI (2 ^ n) := by rw [hG.2 38 (by decide)]; exact h38
  show dOk (zX10_laysTables_121b (fun q x1 => k121 (q, x1)) qa (nI h)) _
  unfold zX10_laysTables_121b
  rw [a38]
  refine dOk_le t2n th (fun c => dOk_some ⟨hTa, hFa, ?_⟩) (fun c => ?_)
  · have e : h = 2 ^ n := by omega
    subst e
    refine ⟨by rw [hG.2 37 (by decide)]; exact h37, a38, ?_, ?_, h18⟩
    · intro p j hp hj
      rw [hG.1 16 (by decide) (by decide)]; exact h16 p j hp hj
    · intro p k hp h1 hk
      rw [hG.1 17 (by decide) (by decide)]; exact h17 p k hp h1 hk
  have h64' : h < 64 := by omega
  unfold zX10_laysTables_131
  refine dFix_ok (fun (a : dS × Int32 × Int32) => TS a.1 ∧ dFr S F q0 a.1 ∧ dFr [18] [] q a.1 ∧ a.2.1 = nI h ∧ ∃ k : Nat, 1 ≤ k ∧ k ≤ n + 1 ∧ a.2.2 = nI k ∧ tab18 a.1 n h ∧ (∀ k2 : Nat, 1 ≤ k2 → k2 < k → k2 ≤ n → a.1.1 18 (7 * h + k2) = nI (hbN h k2 n))) (fun (a : dS × Int32 × Int32) => (8 - a.2.2.toInt).toNat) ?_ _ ⟨hTa, hFa, hG, rfl, 1, by omega, by omega, rfl, h18, fun k2 h1 h2 => absurd h2 (by omega)⟩ _ (dF_gt (by show (8 - Int32.toInt 1).toNat < 1000000000000; decide))
  intro b hb k131 hk131
  obtain ⟨qb, y1, y2⟩ := b
  obtain ⟨hTb, hFb, hGb, g1, k, hk1, hk2, g2, b18, bk⟩ := hb
  replace hTb : TS qb := hTb
  replace hFb : dFr S F q0 qb := hFb
  replace hGb : dFr [18] [] q qb := hGb
  replace g1 : y1 = nI h := g1
  replace g2 : y2 = nI k := g2
  replace b18 : tab18 qb n h := b18
  replace bk : ∀ k2 : Nat, 1 ≤ k2 → k2 < k → k2 ≤ n → qb.1 18 (7 * h + k2) = nI (hbN h k2 n) := bk
  subst g1 g2
  have bn : (qb.1 2 29).toInt = (n : Int) := by rw [hGb.1 2 (by decide) (by decide)]; exact hn
  have tk : Int32.toInt (nI k) = (k : Int) := nI_toInt (by omega)
  show dOk (zX10_laysTables_131b (fun q x1 => k121 (q, x1)) (fun q x1 x2 => k131 (q, x1, x2)) qb (nI h) (nI k)) _
  unfold zX10_laysTables_131b
  refine dOk_B (ok_size qb hTb) (fun r1 q3 hr => ?_)
  have eq3 : q3 = qb := hr.1
  have hr1 : Int32.toInt r1 = Int32.toInt (qb.1 2 29) := hr.2.1
  subst eq3
  refine dOk_lt rfl tk (fun c2 => ?_) (fun c2 => ?_)
  · have t1 : Int32.toInt (nI h + 1) = (h : Int) + 1 := ti_add th (by decide) (by omega) (by omega)
    refine hk121 (q3, nI h + 1) ⟨hTb, hFb, hGb, h + 1, by omega, nI_1 h, ?_⟩ ?_
    · intro p k2 hp h1 h2
      rcases Nat.lt_or_ge p h with z | z
      · exact b18 p k2 z h1 h2
      · have e : p = h := by omega
        subst e
        exact bk k2 h1 (by omega) h2
    · show (64 - Int32.toInt (nI h + 1)).toNat < (64 - Int32.toInt (nI h)).toNat
      omega
  refine dOk_B (ok_headsBehind2 q3 n h k hTb bn h64' hk1 (by omega)) (fun r4 q6 hr4 => ?_)
  have eq6 : q6 = q3 := hr4.1
  have er4 : r4 = nI (hbN h k n) := hr4.2
  subst eq6 er4
  have eix : (7 * nI h + nI k : Int32) = nI (7 * h + k) := by rw [show (7 : Int32) = nI 7 from rfl, pk_mul, nI_add]
  rw [eix]
  have tix : Int32.toInt (nI (7 * h + k)) = ((7 * h + k : Nat) : Int) := nI_toInt (by omega)
  refine dOk_G (dg_ok (by omega) (by omega)) (dOk_L (fun q8 e8 => ?_))
  rw [nI_clamp (by omega)] at e8
  have hlt := hbN_lt h k n
  have tv : Int32.toInt (nI (hbN h k n)) = ((hbN h k n : Nat) : Int) := nI_toInt (by omega)
  have t1 : Int32.toInt (nI k + 1) = (k : Int) + 1 := ti_add tk (by decide) (by omega) (by omega)
  refine hk131 (q8, nI h, nI k + 1) ⟨?_, ?_, ?_, rfl, k + 1, by omega, by omega, nI_1 k, ?_, ?_⟩ ?_
  · show TS q8
    rw [e8]; exact ts_set hTb (by decide) (show (0 : Int) ≤ Int32.toInt (nI (hbN h k n)) by omega) (show Int32.toInt (nI (hbN h k n)) ≤ 63 by omega)
  · show dFr S F q0 q8
    rw [e8]; exact hFb.i hS (by decide)
  · show dFr [18] [] q q8
    rw [e8]; exact hGb.i (by decide) (by decide)
  · show tab18 q8 n h
    intro p k2 hp h1 h2
    rw [e8, dui_n (by omega)]; exact b18 p k2 hp h1 h2
  · show ∀ k2 : Nat, 1 ≤ k2 → k2 < k + 1 → k2 ≤ n → q8.1 18 (7 * h + k2) = nI (hbN h k2 n)
    intro k2 h1 h2 h3
    rw [e8]
    by_cases ck : k2 = k
    · subst ck
      exact dui_e
    · rw [dui_n (by omega)]; exact bk k2 h1 (by omega) h3
  · show (8 - Int32.toInt (nI k + 1)).toNat < (8 - Int32.toInt (nI k)).toNat
    omega
end
section
/-! laysTables: the orders' half, and the whole -/
theorem lnV_6 {n p k j : Nat} (hn : n ≤ 6) (hp : p < facN n) (hk : k ≤ n) (hj : j < n) : lnV (rkS n 0 p) k j < 6 := by
  have h7 := facN_le n hn
  unfold lnV
  by_cases c : j < k
  · rw [if_pos c]
    exact rk_6 n (by omega) p (by omega) hp (k - 1 - j) (by omega) (by omega)
  · rw [if_neg c]
    exact rk_6 n (by omega) p (by omega) hp j (by omega) hj
theorem ok_tabO (q0 q : dS) (S F : List Nat) (n : Nat) (hS6 : 16 ∈ S) (hS7 : 17 ∈ S) (hS8 : 18 ∈ S) (hS9 : 19 ∈ S) (hT : TS q) (hF : dFr S F q0 q) (hn : (q.1 2 29).toInt = (n : Int)) (h37 : q.1 0 37 = nI (facN n)) (h38 : q.1 0 38 = nI (2 ^ n)) : dOk (zX10_laysTables_23 dF q 0) (fun o => TS o ∧ dFr S F q0 o ∧ tabs o n) := by
  have fs : 0 ≤ Int32.toInt (q.1 2 29) ∧ Int32.toInt (q.1 2 29) ≤ 6 := hT.1 2 29
  have hn6 : n ≤ 6 := by omega
  have h720 := facN_le n hn6
  have tF : Int32.toInt (nI (facN n)) = ((facN n : Nat) : Int) := nI_toInt (by omega)
  unfold zX10_laysTables_23
  refine dFix_ok (fun (a : dS × Int32) => TS a.1 ∧ dFr S F q0 a.1 ∧ dFr [16, 17, 19] [] q a.1 ∧ ∃ p : Nat, p ≤ facN n ∧ a.2 = nI p ∧ tab16 a.1 n p ∧ tab17 a.1 n p) (fun (a : dS × Int32) => (720 - a.2.toInt).toNat) ?_ _ ⟨hT, hF, dFr.rf, 0, Nat.zero_le _, rfl, (fun p j hp => absurd hp (Nat.not_lt_zero p)), (fun p k hp => absurd hp (Nat.not_lt_zero p))⟩ _ (dF_gt (by show (720 - Int32.toInt 0).toNat < 1000000000000; decide))
  intro a ha k23 hk23
  obtain ⟨qa, x1⟩ := a
  obtain ⟨hTa, hFa, hG, p, hp, e1, h16, h17⟩ := ha
  replace hTa : TS qa := hTa
  replace hFa : dFr S F q0 qa := hFa
  replace hG : dFr [16, 17, 19] [] q qa := hG
  replace e1 : x1 = nI p := e1
  replace h16 : tab16 qa n p := h16
  replace h17 : tab17 qa n p := h17
  subst e1
  have tp : Int32.toInt (nI p) = (p : Int) := nI_toInt (by omega)
  have an : (qa.1 2 29).toInt = (n : Int) := by rw [hG.1 2 (by decide) (by decide)]; exact hn
  have a37 : qa.1 0 37 = nI (facN n) := by rw [hG.2 37 (by decide)]; exact h37
  have a38 : qa.1 0 38 = nI (2 ^ n) := by rw [hG.2 38 (by decide)]; exact h38
  show dOk (zX10_laysTables_23b (fun q x1 => k23 (q, x1)) qa (nI p)) _
  unfold zX10_laysTables_23b
  rw [a37]
  refine dOk_le tF tp (fun c => ?_) (fun c => ?_)
  · have e : p = facN n := by omega
    subst e
    exact ok_tabH q0 qa S F n hS8 hTa hFa an a37 a38 h16 h17
  have hpn : p < facN n := by omega
  refine dOk_V (ok_laysOrder2 qa n p hTa an hpn) (fun q3 hr => ?_)
  have hT3 : TS q3 := hr.1
  have hF3 : dFr [16] [] qa q3 := hr.2.1
  have hin : ∀ j : Nat, j < n → q3.1 16 (6 * p + j) = nI ((rkS n 0 p).getD j 0) := hr.2.2.1
  have hout : ∀ j : Nat, (j < 6 * p ∨ 6 * p + 6 ≤ j) → q3.1 16 j = qa.1 16 j := hr.2.2.2
  have hG3 : dFr [16, 17, 19] [] q q3 := hG.t hF3 (by decide) (by decide)
  have hFb3 : dFr S F q0 q3 := hFa.t hF3 (by intro a ha; rw [List.mem_singleton] at ha; rw [ha]; exact hS6) (by intro a ha; cases ha)
  have b16 : tab16 q3 n (p + 1) := by
    intro p2 j hp2 hj
    rcases Nat.lt_or_ge p2 p with z | z
    · rw [hout (6 * p2 + j) (by omega)]; exact h16 p2 j z hj
    · have e : p2 = p := by omega
      subst e
      exact hin j hj
  have b17 : tab17 q3 n p := by
    intro p2 k hp2 h1 h2
    rw [hF3.1 17 (by decide) (by decide)]; exact h17 p2 k hp2 h1 h2
  unfold zX10_laysTables_38
  refine dFix_ok (fun (a : dS × Int32 × Int32) => TS a.1 ∧ dFr S F q0 a.1 ∧ dFr [16, 17, 19] [] q a.1 ∧ a.2.1 = nI p ∧ ∃ k : Nat, 1 ≤ k ∧ k ≤ n + 1 ∧ a.2.2 = nI k ∧ tab16 a.1 n (p + 1) ∧ tab17 a.1 n p ∧ (∀ k2 : Nat, 1 ≤ k2 → k2 < k → k2 ≤ n → a.1.1 17 (7 * p + k2) = nI (obL n p k2))) (fun (a : dS × Int32 × Int32) => (8 - a.2.2.toInt).toNat) ?_ _ ⟨hT3, hFb3, hG3, rfl, 1, by omega, by omega, rfl, b16, b17, fun k2 h1 h2 => absurd h2 (by omega)⟩ _ (dF_gt (by show (8 - Int32.toInt 1).toNat < 1000000000000; decide))
  intro b hb k38 hk38
  obtain ⟨qb, y1, y2⟩ := b
  obtain ⟨hTb, hFb, hGb, g1, k, hk1, hk2, g2, c16, c17, bk⟩ := hb
  replace hTb : TS qb := hTb
  replace hFb : dFr S F q0 qb := hFb
  replace hGb : dFr [16, 17, 19] [] q qb := hGb
  replace g1 : y1 = nI p := g1
  replace g2 : y2 = nI k := g2
  replace c16 : tab16 qb n (p + 1) := c16
  replace c17 : tab17 qb n p := c17
  replace bk : ∀ k2 : Nat, 1 ≤ k2 → k2 < k → k2 ≤ n → qb.1 17 (7 * p + k2) = nI (obL n p k2) := bk
  subst g1 g2
  have bn : (qb.1 2 29).toInt = (n : Int) := by rw [hGb.1 2 (by decide) (by decide)]; exact hn
  have tk : Int32.toInt (nI k) = (k : Int) := nI_toInt (by omega)
  show dOk (zX10_laysTables_38b (fun q x1 => k23 (q, x1)) (fun q x1 x2 => k38 (q, x1, x2)) qb (nI p) (nI k)) _
  unfold zX10_laysTables_38b
  refine dOk_B (ok_size qb hTb) (fun r1 q4 hr1 => ?_)
  have eq4 : q4 = qb := hr1.1
  have hr1' : Int32.toInt r1 = Int32.toInt (qb.1 2 29) := hr1.2.1
  subst eq4
  refine dOk_lt rfl tk (fun c2 => ?_) (fun c2 => ?_)
  · have t1 : Int32.toInt (nI p + 1) = (p : Int) + 1 := ti_add tp (by decide) (by omega) (by omega)
    refine hk23 (q4, nI p + 1) ⟨hTb, hFb, hGb, p + 1, by omega, nI_1 p, c16, ?_⟩ ?_
    · intro p2 k2 hp2 h1 h2
      rcases Nat.lt_or_ge p2 p with z | z
      · exact c17 p2 k2 z h1 h2
      · have e : p2 = p := by omega
        subst e
        exact bk k2 h1 (by omega) h2
    · show (720 - Int32.toInt (nI p + 1)).toNat < (720 - Int32.toInt (nI p)).toNat
      omega
  have hkn : k ≤ n := by omega
  unfold zX10_laysTables_48
  refine dFix_ok (fun (a : dS × Int32 × Int32 × Int32) => TS a.1 ∧ dFr S F q0 a.1 ∧ dFr [16, 17, 19] [] q a.1 ∧ a.2.1 = nI p ∧ a.2.2.1 = nI k ∧ tab16 a.1 n (p + 1) ∧ tab17 a.1 n p ∧ (∀ k2 : Nat, 1 ≤ k2 → k2 < k → k2 ≤ n → a.1.1 17 (7 * p + k2) = nI (obL n p k2)) ∧ ∃ i : Nat, i ≤ n ∧ a.2.2.2 = nI i ∧ (∀ j : Nat, j < i → a.1.1 19 j = nI (lnV (rkS n 0 p) k j))) (fun (a : dS × Int32 × Int32 × Int32) => (6 - a.2.2.2.toInt).toNat) ?_ _ ⟨hTb, hFb, hGb, rfl, rfl, c16, c17, bk, 0, by omega, rfl, fun j hj => absurd hj (Nat.not_lt_zero j)⟩ _ (dF_gt (by show (6 - Int32.toInt 0).toNat < 1000000000000; decide))
  intro d hd k48 hk48
  obtain ⟨qc, z1, z2, z3⟩ := d
  obtain ⟨hTc, hFc, hGc, m1, m2, d16, d17, dk, i, hi, m3, hln⟩ := hd
  replace hTc : TS qc := hTc
  replace hFc : dFr S F q0 qc := hFc
  replace hGc : dFr [16, 17, 19] [] q qc := hGc
  replace m1 : z1 = nI p := m1
  replace m2 : z2 = nI k := m2
  replace m3 : z3 = nI i := m3
  replace d16 : tab16 qc n (p + 1) := d16
  replace d17 : tab17 qc n p := d17
  replace dk : ∀ k2 : Nat, 1 ≤ k2 → k2 < k → k2 ≤ n → qc.1 17 (7 * p + k2) = nI (obL n p k2) := dk
  replace hln : ∀ j : Nat, j < i → qc.1 19 j = nI (lnV (rkS n 0 p) k j) := hln
  subst m1 m2 m3
  have cn : (qc.1 2 29).toInt = (n : Int) := by rw [hGc.1 2 (by decide) (by decide)]; exact hn
  have ti : Int32.toInt (nI i) = (i : Int) := nI_toInt (by omega)
  show dOk (zX10_laysTables_48b (fun q x1 => k23 (q, x1)) (fun q x1 x2 => k38 (q, x1, x2)) (fun q x1 x2 x3 => k48 (q, x1, x2, x3)) qc (nI p) (nI k) (nI i)) _
  have h83 : ∀ y : Nat, y < n → (rkS n 0 p).getD y 0 = lnV (rkS n 0 p) k i → i < n → dOk (zX10_laysTables_83 (fun q x1 => k23 (q, x1)) (fun q x1 x2 => k38 (q, x1, x2)) (fun q x1 x2 x3 => k48 (q, x1, x2, x3)) qc (nI p) (nI k) (nI i) (nI y) (6 * nI p) (nI i)) (fun o => TS o ∧ dFr S F q0 o ∧ tabs o n) := by
    intro y hy hyv hin2
    unfold zX10_laysTables_83
    have eix : (6 * nI p + nI y : Int32) = nI (6 * p + y) := by rw [show (6 : Int32) = nI 6 from rfl, pk_mul, nI_add]
    rw [eix]
    have tix : Int32.toInt (nI (6 * p + y)) = ((6 * p + y : Nat) : Int) := nI_toInt (by omega)
    refine dOk_G (dg_ok (by omega) (by omega)) (dOk_L (fun v2 e2 => ?_))
    rw [nI_clamp (by omega), d16 p y (by omega) hy, hyv] at e2
    refine dOk_G (dg_ok (by omega) (by omega)) (dOk_L (fun q5 e5 => ?_))
    rw [nI_clamp (by omega)] at e5
    have t1 : Int32.toInt (nI i + 1) = (i : Int) + 1 := ti_add ti (by decide) (by omega) (by omega)
    have h6 := lnV_6 hn6 hpn hkn hin2
    have tv : Int32.toInt v2 = ((lnV (rkS n 0 p) k i : Nat) : Int) := by rw [e2]; exact nI_toInt (by omega)
    refine hk48 (q5, nI p, nI k, nI i + 1) ⟨?_, ?_, ?_, rfl, rfl, ?_, ?_, ?_, i + 1, by omega, nI_1 i, ?_⟩ ?_
    · show TS q5
      rw [e5]; exact ts_set hTc (by decide) (show (-2147483648 : Int) ≤ Int32.toInt v2 by omega) (show Int32.toInt v2 ≤ 2147483647 by omega)
    · show dFr S F q0 q5
      rw [e5]; exact hFc.i hS9 (by decide)
    · show dFr [16, 17, 19] [] q q5
      rw [e5]; exact hGc.i (by decide) (by decide)
    · show tab16 q5 n (p + 1)
      intro p2 j h1 h2
      rw [e5, dui_o (by decide)]; exact d16 p2 j h1 h2
    · show tab17 q5 n p
      intro p2 j h1 h2 h3
      rw [e5, dui_o (by decide)]; exact d17 p2 j h1 h2 h3
    · show ∀ k2 : Nat, 1 ≤ k2 → k2 < k → k2 ≤ n → q5.1 17 (7 * p + k2) = nI (obL n p k2)
      intro k2 h1 h2 h3
      rw [e5, dui_o (by decide)]; exact dk k2 h1 h2 h3
    · show ∀ j : Nat, j < i + 1 → q5.1 19 j = nI (lnV (rkS n 0 p) k j)
      intro j hj
      rw [e5]
      by_cases cj : j = i
      · subst cj
        rw [dui_e, e2]
      · rw [dui_n (by omega)]; exact hln j (by omega)
    · show (6 - Int32.toInt (nI i + 1)).toNat < (6 - Int32.toInt (nI i)).toNat
      omega
  unfold zX10_laysTables_48b
  refine dOk_B (ok_size qc hTc) (fun r2 q6 hr2 => ?_)
  have eq6 : q6 = qc := hr2.1
  have hr2' : Int32.toInt r2 = Int32.toInt (qc.1 2 29) := hr2.2.1
  subst eq6
  refine dOk_le rfl ti (fun c3 => ?_) (fun c3 => ?_)
  · have ein : i = n := by omega
    subst ein
    refine dOk_B (ok_numberOf2 q6 i (lnL (rkS i 0 p) k i 0) hTc cn (lnL_len _ _ i 0) (fun j hj => by rw [lnL_get _ _ i 0 j hj, Nat.zero_add]; exact lnV_6 hn6 hpn hkn hj) (fun j hj => by rw [lnL_get _ _ i 0 j hj, Nat.zero_add]; exact hln j hj)) (fun r4 q7 hr4 => ?_)
    have eq7 : q7 = q6 := hr4.1
    have er4 : r4 = nI (obL i p k) := hr4.2
    subst eq7 er4
    have eix : (7 * nI p + nI k : Int32) = nI (7 * p + k) := by rw [show (7 : Int32) = nI 7 from rfl, pk_mul, nI_add]
    rw [eix]
    have tix : Int32.toInt (nI (7 * p + k)) = ((7 * p + k : Nat) : Int) := nI_toInt (by omega)
    refine dOk_G (dg_ok (by omega) (by omega)) (dOk_L (fun q8 e8 => ?_))
    rw [nI_clamp (by omega)] at e8
    have hob := (ob_lt hn6 hpn hk1 hkn).1
    have tv : Int32.toInt (nI (obL i p k)) = ((obL i p k : Nat) : Int) := nI_toInt (by omega)
    have t1 : Int32.toInt (nI k + 1) = (k : Int) + 1 := ti_add tk (by decide) (by omega) (by omega)
    refine hk38 (q8, nI p, nI k + 1) ⟨?_, ?_, ?_, rfl, k + 1, by omega, by omega, nI_1 k, ?_, ?_, ?_⟩ ?_
    · show TS q8
      rw [e8]; exact ts_set hTc (by decide) (show (0 : Int) ≤ Int32.toInt (nI (obL i p k)) by omega) (show Int32.toInt (nI (obL i p k)) ≤ 719 by omega)
    · show dFr S F q0 q8
      rw [e8]; exact hFc.i hS7 (by decide)
    · show dFr [16, 17, 19] [] q q8
      rw [e8]; exact hGc.i (by decide) (by decide)
    · show tab16 q8 i (p + 1)
      intro p2 j h1 h2
      rw [e8, dui_o (by decide)]; exact d16 p2 j h1 h2
    · show tab17 q8 i p
      intro p2 j h1 h2 h3
      rw [e8, dui_n (by omega)]; exact d17 p2 j h1 h2 h3
    · show ∀ k2 : Nat, 1 ≤ k2 → k2 < k + 1 → k2 ≤ i → q8.1 17 (7 * p + k2) = nI (obL i p k2)
      intro k2 h1 h2 h3
      rw [e8]
      by_cases ck : k2 = k
      · subst ck
        exact dui_e
      · rw [dui_n (by omega)]; exact dk k2 h1 (by omega) h3
    · show (8 - Int32.toInt (nI k + 1)).toNat < (8 - Int32.toInt (nI k)).toNat
      omega
  · refine dOk_le tk ti (fun c4 => ?_) (fun c4 => ?_)
    · exact h83 i (by omega) (by unfold lnV; rw [if_neg (by omega)]) (by omega)
    · have es : nI k - 1 - nI i = nI (k - 1 - i) := by
        rw [show (1 : Int32) = nI 1 from rfl, pk_sub (by omega), pk_sub (by omega)]
      rw [es]
      exact h83 (k - 1 - i) (by omega) (by unfold lnV; rw [if_pos (by omega)]) (by omega)
end
section
theorem shl_pow : ∀ n : Nat, n < 7 → (1 <<< (nI n &&& 31) : Int32) = nI (2 ^ n) := by decide +kernel
theorem ok_laysTables2 (q : dS) (n : Nat) (hT : TS q) (hn : (q.1 2 29).toInt = (n : Int)) : dOk (zX10_laysTables q) (fun o => TS o ∧ dFr [16, 17, 18, 19] [37, 38] q o ∧ tabs o n) := by
  have fs : 0 ≤ Int32.toInt (q.1 2 29) ∧ Int32.toInt (q.1 2 29) ≤ 6 := hT.1 2 29
  have hn6 : n ≤ 6 := by omega
  unfold zX10_laysTables
  refine dOk_B (ok_size q hT) (fun r1 q3 hr => ?_)
  have eq3 : q3 = q := hr.1
  have hr1 : Int32.toInt r1 = Int32.toInt (q.1 2 29) := hr.2.1
  subst eq3
  refine dOk_V (ok_allOrders r1 (show Int32.toInt r1 ≤ 6 by omega)) (fun r4 hr4 => ?_)
  replace hr4 : (((Int32.toInt r1 ≤ 1 ∧ Int32.toInt r4 = 1) ∨ (Int32.toInt r1 = 2 ∧ Int32.toInt r4 = 2) ∨ (Int32.toInt r1 = 3 ∧ Int32.toInt r4 = 6) ∨ (Int32.toInt r1 = 4 ∧ Int32.toInt r4 = 24) ∨ (Int32.toInt r1 = 5 ∧ Int32.toInt r4 = 120) ∨ (Int32.toInt r1 = 6 ∧ Int32.toInt r4 = 720))) := hr4
  have hfn : ∀ k : Nat, k < 7 → ((k ≤ 1 ∧ facN k = 1) ∨ (k = 2 ∧ facN k = 2) ∨ (k = 3 ∧ facN k = 6) ∨ (k = 4 ∧ facN k = 24) ∨ (k = 5 ∧ facN k = 120) ∨ (k = 6 ∧ facN k = 720)) := by decide
  have hfn := hfn n (by omega)
  have t4 : Int32.toInt r4 = (facN n : Int) := by omega
  have er4 : r4 = nI (facN n) := Int32.toInt_inj.mp (by rw [t4, nI_toInt (by omega)])
  refine dOk_L (fun q6 e6 => ?_)
  have hT6 : TS q6 := by rw [e6]; exact ts_f hT (show 0 ≤ Int32.toInt r4 by omega) (show Int32.toInt r4 ≤ 720 by omega)
  have hF6 : dFr [16, 17, 18, 19] [37, 38] q3 q6 := by rw [e6]; exact (dFr.rf (q := q3)).f (by decide)
  have w6 : Int32.toInt (q6.1 2 29) = (n : Int) := by rw [e6, dui_o (by decide)]; exact hn
  refine dOk_B (ok_size q6 hT6) (fun r7 q9 hr7 => ?_)
  have eq9 : q9 = q6 := hr7.1
  have hr7' : Int32.toInt r7 = Int32.toInt (q6.1 2 29) := hr7.2.1
  have er7 : r7 = nI n := Int32.toInt_inj.mp (by rw [hr7', w6, nI_toInt (by omega)])
  subst eq9
  rw [er7, shl_pow n (by omega)]
  refine dOk_L (fun q10 e10 => ?_)
  have h64 : 2 ^ n ≤ 2 ^ 6 := Nat.pow_le_pow_right (by decide) hn6
  have t2n : Int32.toInt (nI (2 ^ n)) = ((2 ^ n : Nat) : Int) := nI_toInt (by omega)
  have hT10 : TS q10 := by rw [e10]; exact ts_f hT6 (show 0 ≤ Int32.toInt (nI (2 ^ n)) by rw [t2n]; exact Int.natCast_nonneg _) (show Int32.toInt (nI (2 ^ n)) ≤ 64 by rw [t2n]; exact Int.ofNat_le.mpr h64)
  have hF10 : dFr [16, 17, 18, 19] [37, 38] q3 q10 := by rw [e10]; exact hF6.f (by decide)
  have w10 : (q10.1 2 29).toInt = (n : Int) := by rw [e10, dui_o (by decide)]; exact w6
  exact ok_tabO q3 q10 [16, 17, 18, 19] [37, 38] n (by decide) (by decide) (by decide) (by decide) hT10 hF10 w10 (by rw [e10, dui_n (by decide), e6, dui_e, er4]) (by rw [e10, dui_e])
end
section
/-! towers by number: what a turn makes of one, what it pays, which are there -/
def ths (n u : Nat) : Prop := u / 64 < facN n ∧ u % 64 < 2 ^ n
def bhN (n u k : Nat) : Nat := 64 * obL n (u / 64) k + hbN (u % 64) k n
def prX (n u k : Nat) : Nat := ((k * 6 + (rkS n 0 (u / 64)).getD 0 0) * 7 + (if k < n then 1 + (rkS n 0 (u / 64)).getD k 0 else 0)) * 2 + u % 2
def prV (q : dS) (n u k : Nat) : Int32 := q.1 20 (prX n u k)
theorem pw_le {n : Nat} (hn : n ≤ 6) : 2 ^ n ≤ 64 := Nat.pow_le_pow_right (n := 2) (by decide) hn
theorem facI_N {n : Nat} (hn : n ≤ 6) : facI (n : Int) = (facN n : Int) := by
  have h : ∀ k : Nat, k < 7 → facI (k : Int) = (facN k : Int) := by decide
  exact h n (by omega)
theorem bh_inv {n u k : Nat} (hn : n ≤ 6) (hu : ths n u) (h1 : 1 ≤ k) (hk : k ≤ n) : ths n (bhN n u k) ∧ bhN n (bhN n u k) k = u := by
  obtain ⟨a1, a2⟩ := hu
  obtain ⟨b1, b2⟩ := ob_lt hn a1 h1 hk
  obtain ⟨c1, c2⟩ := hb_inv n (by omega) k (by omega) (u % 64) h1 hk a2
  have hw := pw_le hn
  have d1 : bhN n u k / 64 = obL n (u / 64) k := by unfold bhN; omega
  have d2 : bhN n u k % 64 = hbN (u % 64) k n := by unfold bhN; omega
  refine ⟨⟨by rw [d1]; exact b1, by rw [d2]; exact c1⟩, ?_⟩
  show 64 * obL n (bhN n u k / 64) k + hbN (bhN n u k % 64) k n = u
  rw [d1, d2, b2, c2]
  omega
theorem ths_lt {n u : Nat} (hn : n ≤ 6) (hu : ths n u) : u < 64 * facN n ∧ u < 46080 := by
  have h1 := hu.1
  have h2 := facN_le n hn
  omega
theorem q_rem {u : Nat} (hu : u < 46080) : (nI u - nI u / 64 * 64 : Int32) = nI (u % 64) := by
  rw [show (64 : Int32) = nI 64 from rfl, pk_rem (by omega) (by omega) (by omega)]
theorem q_div {u : Nat} (hu : u < 46080) : (nI u / 64 : Int32) = nI (u / 64) := by
  rw [show (64 : Int32) = nI 64 from rfl, pk_div (by omega) (by omega) (by omega)]
theorem q_rem2 {u : Nat} (hu : u < 46080) : (nI u - nI u / 2 * 2 : Int32) = nI (u % 2) := by
  rw [show (2 : Int32) = nI 2 from rfl, pk_rem (by omega) (by omega) (by omega)]
theorem q_lin (a b c : Nat) : (nI a * nI b + nI c : Int32) = nI (a * b + c) := by rw [pk_mul, nI_add]
theorem ok_behind2 (q : dS) (n u k : Nat) (hn : n ≤ 6) (ht : tabs q n) (hu : ths n u) (h1 : 1 ≤ k) (hk : k ≤ n) : dOk (zX10_behind q (nI u) (nI k)) (fun o => o.2 = q ∧ o.1 = nI (bhN n u k)) := by
  have hl := ths_lt hn hu
  have hf := facN_le n hn
  have hw := pw_le hn
  obtain ⟨a1, a2⟩ := hu
  obtain ⟨-, -, t16, t17, t18⟩ := ht
  unfold zX10_behind
  rw [q_rem hl.2, q_div hl.2, show (7 : Int32) = nI 7 from rfl, q_lin, q_lin]
  have i1 : Int32.toInt (nI (7 * (u / 64) + k)) = ((7 * (u / 64) + k : Nat) : Int) := nI_toInt (by omega)
  have i2 : Int32.toInt (nI (7 * (u % 64) + k)) = ((7 * (u % 64) + k : Nat) : Int) := nI_toInt (by omega)
  refine dOk_G (dg_ok (by omega) (by omega)) (dOk_L (fun v2 e2 => ?_))
  rw [nI_clamp (by omega), t17 (u / 64) k a1 h1 hk] at e2
  refine dOk_G (dg_ok (by omega) (by omega)) (dOk_L (fun v4 e4 => ?_))
  rw [nI_clamp (by omega), t18 (u % 64) k a2 h1 hk] at e4
  refine dOk_some ⟨rfl, ?_⟩
  show (64 * v2 + v4 : Int32) = nI (bhN n u k)
  rw [e2, e4, show (64 : Int32) = nI 64 from rfl, q_lin]
  rfl
theorem ok_priceOf2 (q : dS) (n u k : Nat) (hT : TS q) (hq : (q.1 2 29).toInt = (n : Int)) (ht : tabs q n) (hu : ths n u) (h1 : 1 ≤ k) (hk : k ≤ n) : dOk (zX10_priceOf q (nI u) (nI k)) (fun o => o.2 = q ∧ o.1 = prV q n u k) := by
  have fs : 0 ≤ Int32.toInt (q.1 2 29) ∧ Int32.toInt (q.1 2 29) ≤ 6 := hT.1 2 29
  have hn : n ≤ 6 := by omega
  have hl := ths_lt hn hu
  have hf := facN_le n hn
  obtain ⟨a1, a2⟩ := hu
  obtain ⟨-, -, t16, t17, t18⟩ := ht
  have tk : Int32.toInt (nI k) = (k : Int) := nI_toInt (by omega)
  have r0 := rk_6 n (by omega) (u / 64) (by omega) a1 0 (by omega) (by omega)
  have h41 : ∀ x : Nat, x < 7 → x = (if k < n then 1 + (rkS n 0 (u / 64)).getD k 0 else 0) → dOk (zX10_priceOf_41 q (nI u) (nI x) (nI ((rkS n 0 (u / 64)).getD 0 0)) (nI k)) (fun o => o.2 = q ∧ o.1 = prV q n u k) := by
    intro x hx ex
    unfold zX10_priceOf_41 zX10_askedAt
    refine dOk_V (R := fun r => r = nI (prX n u k)) ⟨_, rfl, ?_⟩ (fun r1 er => ?_)
    · show (((nI k * 6 + nI ((rkS n 0 (u / 64)).getD 0 0)) * 7 + nI x) * 2 + (nI u - nI u / 2 * 2) : Int32) = nI (prX n u k)
      rw [q_rem2 hl.2, show (6 : Int32) = nI 6 from rfl, show (7 : Int32) = nI 7 from rfl, show (2 : Int32) = nI 2 from rfl, q_lin, q_lin, q_lin]
      unfold prX
      rw [← ex]
    · have hx2 : prX n u k = ((k * 6 + (rkS n 0 (u / 64)).getD 0 0) * 7 + x) * 2 + u % 2 := by unfold prX; rw [← ex]
      have hb : prX n u k < 588 := by rw [hx2]; omega
      have ti : Int32.toInt (nI (prX n u k)) = ((prX n u k : Nat) : Int) := nI_toInt (by omega)
      rw [er]
      refine dOk_G (dg_ok (by omega) (by omega)) (dOk_L (fun v4 e4 => ?_))
      rw [nI_clamp (by omega)] at e4
      exact dOk_some ⟨rfl, e4⟩
  unfold zX10_priceOf
  have e6 : (6 * (nI u / 64 : Int32) : Int32) = nI (6 * (u / 64)) := by rw [q_div hl.2, show (6 : Int32) = nI 6 from rfl, pk_mul]
  rw [e6]
  have i1 : Int32.toInt (nI (6 * (u / 64))) = ((6 * (u / 64) : Nat) : Int) := nI_toInt (by omega)
  refine dOk_G (dg_ok (by omega) (by omega)) (dOk_L (fun v2 e2 => ?_))
  rw [nI_clamp (by omega)] at e2
  have g0 := t16 (u / 64) 0 a1 (by omega)
  rw [Nat.add_zero] at g0
  rw [g0] at e2
  refine dOk_B (ok_size q hT) (fun r3 q5 hr => ?_)
  have eq5 : q5 = q := hr.1
  have hr3 : Int32.toInt r3 = Int32.toInt (q.1 2 29) := hr.2.1
  subst eq5
  subst e2
  refine dOk_le (A := Int32.toInt r3) rfl tk (fun c => ?_) (fun c => ?_)
  · have ek : ¬ k < n := by omega
    exact h41 0 (by omega) (by rw [if_neg ek])
  · have ek : k < n := by omega
    rw [nI_add]
    have i2 : Int32.toInt (nI (6 * (u / 64) + k)) = ((6 * (u / 64) + k : Nat) : Int) := nI_toInt (by omega)
    refine dOk_G (dg_ok (by omega) (by omega)) (dOk_L (fun v7 e7 => ?_))
    rw [nI_clamp (by omega), t16 (u / 64) k a1 ek] at e7
    have rk := rk_6 n (by omega) (u / 64) (by omega) a1 k (by omega) ek
    rw [e7, show (1 : Int32) = nI 1 from rfl, nI_add]
    exact h41 _ (by omega) (by rw [if_pos ek])
theorem ok_isThere2 (q : dS) (n u : Nat) (hn : n ≤ 6) (hu : u < 46080) (h37 : q.1 0 37 = nI (facN n)) (h38 : q.1 0 38 = nI (2 ^ n)) : dOk (zX10_isThere q (nI u)) (fun o => o.2 = q ∧ (o.1 = 0 ∨ (o.1 = 1 ∧ ths n u))) := by
  have hf := facN_le n hn
  have hw := pw_le hn
  unfold zX10_isThere zX10_isThere_26 zX10_isThere_27
  rw [h37, h38, q_rem hu, q_div hu]
  refine dOk_le (nI_toInt (n := 2 ^ n) (by omega)) (nI_toInt (n := u % 64) (by omega)) (fun c => ?_) (fun c => ?_)
  · exact dOk_G rfl (dOk_some ⟨rfl, Or.inl rfl⟩)
  refine dOk_le (nI_toInt (n := facN n) (by omega)) (nI_toInt (n := u / 64) (by omega)) (fun c2 => ?_) (fun c2 => ?_)
  · exact dOk_G rfl (dOk_some ⟨rfl, Or.inl rfl⟩)
  · exact dOk_G rfl (dOk_some ⟨rfl, Or.inr ⟨rfl, Int.ofNat_lt.mp c2, Int.ofNat_lt.mp c⟩⟩)
/-! the search from the ordered towers: whoever was come to was come to by a turn -/
def Gq (p : Nat → Nat → Int32) (n : Nat) (d : Nat → Int32) : Prop := ∀ u : Nat, u < 64 * facN n → ¬ d u = 1000000 → ths n u ∧ (d u = 0 ∨ ∃ t k : Nat, 1 ≤ k ∧ k ≤ n ∧ ths n t ∧ bhN n t k = u ∧ ¬ p u k = -1 ∧ ¬ d t = 1000000 ∧ (d u).toInt = (d t).toInt + 1)
theorem G_push {p : Nat → Nat → Int32} {n : Nat} {d : Nat → Int32} {t k : Nat} {v : Int32} (hn : n ≤ 6) (h : Gq p n d) (ht : ths n t) (htd : ¬ d t = 1000000) (h1 : 1 ≤ k) (hk : k ≤ n) (hp : ¬ p (bhN n t k) k = -1) (hw : d (bhN n t k) = 1000000) (hv : v.toInt = (d t).toInt + 1) : Gq p n (upd d (bhN n t k) v) := by
  intro u hu hd
  have htw : ¬ t = bhN n t k := fun z => htd (by rw [z]; exact hw)
  by_cases c : u = bhN n t k
  · have e1 : upd d (bhN n t k) v u = v := if_pos c
    have e2 : upd d (bhN n t k) v t = d t := if_neg htw
    refine ⟨by rw [c]; exact (bh_inv hn ht h1 hk).1, Or.inr ⟨t, k, h1, hk, ht, c.symm, by rw [c]; exact hp, by rw [e2]; exact htd, ?_⟩⟩
    rw [e1, e2]; exact hv
  · have e1 : upd d (bhN n t k) v u = d u := if_neg c
    rw [e1] at hd
    obtain ⟨g1, g2⟩ := h u hu hd
    refine ⟨g1, ?_⟩
    rw [e1]
    rcases g2 with g2 | ⟨t2, k2, a1, a2, a3, a4, a5, a6, a7⟩
    · exact Or.inl g2
    · have h2 : ¬ t2 = bhN n t k := fun z => a6 (by rw [z]; exact hw)
      have e2 : upd d (bhN n t k) v t2 = d t2 := if_neg h2
      exact Or.inr ⟨t2, k2, a1, a2, a3, a4, a5, by rw [e2]; exact a6, by rw [e2]; exact a7⟩
def Cq (p : Nat → Nat → Int32) (N0 m : Nat) (d u : Nat → Int32) : Prop := Bq m d u ∧ Gq p N0 d ∧ ∀ j : Nat, j < m → ths N0 (u j).toInt.toNat
end
section
/-- laysPrices behind laysTables -/
noncomputable def zX10_laysPricesL (q : dS)  : Option (dS) := zX10_laysPrices_6  dF q 1
end
section
set_option maxHeartbeats 4000000 in
set_option maxRecDepth 100000 in
theorem ok_laysPricesL (q : dS) (hT : TS q) : dOk (zX10_laysPricesL q) (fun (o : dS) => (TS o) ∧ (dFr [12, 20] [22, 23, 24, 25] q o)) := by
  unfold zX10_laysPricesL
  unfold zX10_laysPrices_6
  refine dFix_ok (fun (a : dS × Int32) => (TS a.1) ∧ (dFr [12, 20] [22, 23, 24, 25] q a.1) ∧ (1 ≤ Int32.toInt a.2) ∧ (Int32.toInt a.2 ≤ 7)) (fun (a : dS × Int32) => (7 - Int32.toInt a.2).toNat) ?_ _ ?_ _ (dF_gt ?_)
  · intro a ha k_2 hk_1
    obtain ⟨q_3, x1_4⟩ := a
    replace ha : (TS q_3) ∧ (dFr [12, 20] [22, 23, 24, 25] q q_3) ∧ (1 ≤ Int32.toInt x1_4) ∧ (Int32.toInt x1_4 ≤ 7) := ha
    obtain ⟨a_5, a_6, a_7, a_8⟩ := ha
    show dOk (zX10_laysPrices_6b  (fun q x1 => k_2 (q, x1)) q_3 x1_4) _
    unfold zX10_laysPrices_6b
    have hFq_3 : dFr [12, 20] [22, 23, 24, 25] q q_3 := (dFr.rf (q := q)).t a_6 (by decide) (by decide)
    refine dOk_B (ok_size q_3 a_5) (fun r_9 q_10 h_11 => ?_)
    replace h_11 : (q_10 = q_3) ∧ (Int32.toInt r_9 = Int32.toInt (q_3.1 2 29)) ∧ (0 ≤ Int32.toInt r_9 ∧ Int32.toInt r_9 ≤ 6) := h_11
    obtain ⟨i_12, i_13, i_14⟩ := h_11
    subst q_10
    have f_15 : 0 ≤ Int32.toInt (q_3.1 2 29) ∧ Int32.toInt (q_3.1 2 29) ≤ 6 := a_5.1 2 29
    have f_16 : 0 ≤ Int32.toInt (q.1 2 29) ∧ Int32.toInt (q.1 2 29) ≤ 6 := hT.1 2 29
    have w_17 : Int32.toInt (q_3.1 2 29) = Int32.toInt (q.1 2 29) := by rw [a_6.1 2 (by decide) (by decide)]
    refine dOk_lt (A := Int32.toInt r_9) (B := Int32.toInt x1_4) rfl rfl (fun c_18 => ?_) (fun c_19 => ?_)
    · exact dOk_some (show (TS q_3) ∧ (dFr [12, 20] [22, 23, 24, 25] q q_3) from ⟨a_5, hFq_3⟩)
    · unfold zX10_laysPrices_16
      refine dFix_ok (fun (a : dS × Int32 × Int32) => (TS a.1) ∧ (dFr [12, 20] [22, 23, 24, 25] q_3 a.1) ∧ (a.2.1 = x1_4) ∧ (0 ≤ Int32.toInt a.2.2) ∧ (Int32.toInt a.2.2 ≤ 6)) (fun (a : dS × Int32 × Int32) => (6 - Int32.toInt a.2.2).toNat) ?_ _ ?_ _ (dF_gt ?_)
      · intro a ha k_21 hk_20
        obtain ⟨q_22, x1_23, x2_24⟩ := a
        replace ha : (TS q_22) ∧ (dFr [12, 20] [22, 23, 24, 25] q_3 q_22) ∧ (x1_23 = x1_4) ∧ (0 ≤ Int32.toInt x2_24) ∧ (Int32.toInt x2_24 ≤ 6) := ha
        obtain ⟨a_25, a_26, a_27, a_28, a_29⟩ := ha
        show dOk (zX10_laysPrices_16b _ (fun q x1 x2 => k_21 (q, x1, x2)) q_22 x1_23 x2_24) _
        unfold zX10_laysPrices_16b
        have hFq_22 : dFr [12, 20] [22, 23, 24, 25] q q_22 := hFq_3.t a_26 (by decide) (by decide)
        subst x1_23
        refine dOk_B (ok_size q_22 a_25) (fun r_30 q_31 h_32 => ?_)
        replace h_32 : (q_31 = q_22) ∧ (Int32.toInt r_30 = Int32.toInt (q_22.1 2 29)) ∧ (0 ≤ Int32.toInt r_30 ∧ Int32.toInt r_30 ≤ 6) := h_32
        obtain ⟨i_33, i_34, i_35⟩ := h_32
        subst q_31
        have f_36 : 0 ≤ Int32.toInt (q_22.1 2 29) ∧ Int32.toInt (q_22.1 2 29) ≤ 6 := a_25.1 2 29
        have w_37 : Int32.toInt (q_22.1 2 29) = Int32.toInt (q_3.1 2 29) := by rw [a_26.1 2 (by decide) (by decide)]
        refine dOk_le (A := Int32.toInt r_30) (B := Int32.toInt x2_24) rfl rfl (fun c_38 => ?_) (fun c_39 => ?_)
        · try have t_40 : Int32.toInt (x1_4 + 1) = Int32.toInt x1_4 + 1 := ti_add rfl (by decide) (by omega) (by omega)
          exact hk_1 (q_22, (x1_4 + 1)) (show (TS q_22) ∧ (dFr [12, 20] [22, 23, 24, 25] q q_22) ∧ (1 ≤ Int32.toInt (x1_4 + 1)) ∧ (Int32.toInt (x1_4 + 1) ≤ 7) from ⟨a_25, ((((dFr.rf : dFr [12, 20] [22, 23, 24, 25] q q).t a_6 (by decide) (by decide)) : dFr [12, 20] [22, 23, 24, 25] q q_3).t a_26 (by decide) (by decide)), by omega, by omega⟩) (show (7 - Int32.toInt (x1_4 + 1)).toNat < (7 - Int32.toInt x1_4).toNat by omega)
        · unfold zX10_laysPrices_26
          refine dFix_ok (fun (a : dS × Int32 × Int32 × Int32) => (TS a.1) ∧ (dFr [12, 20] [22, 23, 24, 25] q_22 a.1) ∧ (a.2.1 = x1_4) ∧ (a.2.2.1 = x2_24) ∧ (0 ≤ Int32.toInt a.2.2.2) ∧ (Int32.toInt a.2.2.2 ≤ 7)) (fun (a : dS × Int32 × Int32 × Int32) => (7 - Int32.toInt a.2.2.2).toNat) ?_ _ ?_ _ (dF_gt ?_)
          · intro a ha k_42 hk_41
            obtain ⟨q_43, x1_44, x2_45, x3_46⟩ := a
            replace ha : (TS q_43) ∧ (dFr [12, 20] [22, 23, 24, 25] q_22 q_43) ∧ (x1_44 = x1_4) ∧ (x2_45 = x2_24) ∧ (0 ≤ Int32.toInt x3_46) ∧ (Int32.toInt x3_46 ≤ 7) := ha
            obtain ⟨a_47, a_48, a_49, a_50, a_51, a_52⟩ := ha
            show dOk (zX10_laysPrices_26b _ _ (fun q x1 x2 x3 => k_42 (q, x1, x2, x3)) q_43 x1_44 x2_45 x3_46) _
            unfold zX10_laysPrices_26b
            have hFq_43 : dFr [12, 20] [22, 23, 24, 25] q q_43 := hFq_22.t a_48 (by decide) (by decide)
            subst x1_44
            subst x2_45
            refine dOk_B (ok_size q_43 a_47) (fun r_53 q_54 h_55 => ?_)
            replace h_55 : (q_54 = q_43) ∧ (Int32.toInt r_53 = Int32.toInt (q_43.1 2 29)) ∧ (0 ≤ Int32.toInt r_53 ∧ Int32.toInt r_53 ≤ 6) := h_55
            obtain ⟨i_56, i_57, i_58⟩ := h_55
            subst q_54
            have f_59 : 0 ≤ Int32.toInt (q_43.1 2 29) ∧ Int32.toInt (q_43.1 2 29) ≤ 6 := a_47.1 2 29
            have w_60 : Int32.toInt (q_43.1 2 29) = Int32.toInt (q_22.1 2 29) := by rw [a_48.1 2 (by decide) (by decide)]
            refine dOk_lt (A := Int32.toInt r_53) (B := Int32.toInt x3_46) rfl rfl (fun c_61 => ?_) (fun c_62 => ?_)
            · try have t_63 : Int32.toInt (x2_24 + 1) = Int32.toInt x2_24 + 1 := ti_add rfl (by decide) (by omega) (by omega)
              exact hk_20 (q_43, x1_4, (x2_24 + 1)) (show (TS q_43) ∧ (dFr [12, 20] [22, 23, 24, 25] q_3 q_43) ∧ (x1_4 = x1_4) ∧ (0 ≤ Int32.toInt (x2_24 + 1)) ∧ (Int32.toInt (x2_24 + 1) ≤ 6) from ⟨a_47, ((((dFr.rf : dFr [12, 20] [22, 23, 24, 25] q_3 q_3).t a_26 (by decide) (by decide)) : dFr [12, 20] [22, 23, 24, 25] q_3 q_22).t a_48 (by decide) (by decide)), rfl, by omega, by omega⟩) (show (6 - Int32.toInt (x2_24 + 1)).toNat < (6 - Int32.toInt x2_24).toNat by omega)
            · unfold zX10_laysPrices_37
              refine dFix_ok (fun (a : dS × Int32 × Int32 × Int32 × Int32) => (TS a.1) ∧ (dFr [12, 20] [22, 23, 24, 25] q_43 a.1) ∧ (a.2.1 = x1_4) ∧ (a.2.2.1 = x2_24) ∧ (a.2.2.2.1 = x3_46) ∧ (0 ≤ Int32.toInt a.2.2.2.2) ∧ (Int32.toInt a.2.2.2.2 ≤ 2)) (fun (a : dS × Int32 × Int32 × Int32 × Int32) => (2 - Int32.toInt a.2.2.2.2).toNat) ?_ _ ?_ _ (dF_gt ?_)
              · intro a ha k_65 hk_64
                obtain ⟨q_66, x1_67, x2_68, x3_69, x4_70⟩ := a
                replace ha : (TS q_66) ∧ (dFr [12, 20] [22, 23, 24, 25] q_43 q_66) ∧ (x1_67 = x1_4) ∧ (x2_68 = x2_24) ∧ (x3_69 = x3_46) ∧ (0 ≤ Int32.toInt x4_70) ∧ (Int32.toInt x4_70 ≤ 2) := ha
                obtain ⟨a_71, a_72, a_73, a_74, a_75, a_76, a_77⟩ := ha
                show dOk (zX10_laysPrices_37b _ _ _ (fun q x1 x2 x3 x4 => k_65 (q, x1, x2, x3, x4)) q_66 x1_67 x2_68 x3_69 x4_70) _
                unfold zX10_laysPrices_37b
                have hFq_66 : dFr [12, 20] [22, 23, 24, 25] q q_66 := hFq_43.t a_72 (by decide) (by decide)
                subst x1_67
                subst x2_68
                subst x3_69
                refine dOk_le (A := 2) (B := Int32.toInt x4_70) (by decide) rfl (fun c_78 => ?_) (fun c_79 => ?_)
                · try have t_80 : Int32.toInt (x3_46 + 1) = Int32.toInt x3_46 + 1 := ti_add rfl (by decide) (by omega) (by omega)
                  exact hk_41 (q_66, x1_4, x2_24, (x3_46 + 1)) (show (TS q_66) ∧ (dFr [12, 20] [22, 23, 24, 25] q_22 q_66) ∧ (x1_4 = x1_4) ∧ (x2_24 = x2_24) ∧ (0 ≤ Int32.toInt (x3_46 + 1)) ∧ (Int32.toInt (x3_46 + 1) ≤ 7) from ⟨a_71, ((((dFr.rf : dFr [12, 20] [22, 23, 24, 25] q_22 q_22).t a_48 (by decide) (by decide)) : dFr [12, 20] [22, 23, 24, 25] q_22 q_43).t a_72 (by decide) (by decide)), rfl, rfl, by omega, by omega⟩) (show (7 - Int32.toInt (x3_46 + 1)).toNat < (7 - Int32.toInt x3_46).toNat by omega)
                · refine dOk_B (ok_rankOf q_66 x2_24 a_71) (fun r_81 q_82 h_83 => ?_)
                  replace h_83 : (q_82 = q_66) := h_83
                  have i_84 := h_83
                  subst q_82
                  refine dOk_eq (A := Int32.toInt x3_46) (B := 0) rfl (by decide) (fun c_85z c_85 => ?_) (fun c_86z c_86 => ?_)
                  · unfold zX10_laysPrices_65
                    refine dOk_V (ok_setsTurn q_66 x1_4 r_81 (-1) x4_70 a_71) (fun q_88 h_89 => ?_)
                    replace h_89 : (TS q_88) ∧ (dFr [12] [] q_66 q_88) ∧ (Int32.toInt (q_88.1 12 0) = Int32.toInt x1_4) := h_89
                    obtain ⟨i_90, i_91, i_92⟩ := h_89
                    have hFq_88 : dFr [12, 20] [22, 23, 24, 25] q q_88 := hFq_66.t i_91 (by decide) (by decide)
                    refine dOk_V (ok_askedAt x1_4 x2_24 x3_46 x4_70 (show 0 ≤ Int32.toInt x1_4 ∧ Int32.toInt x1_4 ≤ 6 by omega) (show 0 ≤ Int32.toInt x2_24 ∧ Int32.toInt x2_24 ≤ 5 by omega) (show 0 ≤ Int32.toInt x3_46 ∧ Int32.toInt x3_46 ≤ 6 by omega) (show 0 ≤ Int32.toInt x4_70 ∧ Int32.toInt x4_70 ≤ 1 by omega)) (fun r_93 h_94 => ?_)
                    replace h_94 : (Int32.toInt r_93 = ((Int32.toInt x1_4 * 6 + Int32.toInt x2_24) * 7 + Int32.toInt x3_46) * 2 + Int32.toInt x4_70) := h_94
                    have i_95 := h_94
                    refine dOk_B (ok_isNow q_88 2 i_90) (fun r_96 q_97 h_98 => ?_)
                    replace h_98 : (TS q_97) ∧ (dFr [] [22, 23, 24, 25] q_88 q_97) ∧ ((Int32.toInt r_96 = 0 ∨ Int32.toInt r_96 = 1)) := h_98
                    obtain ⟨i_99, i_100, i_101⟩ := h_98
                    have hFq_97 : dFr [12, 20] [22, 23, 24, 25] q q_97 := hFq_88.t i_100 (by decide) (by decide)
                    refine dOk_eq (A := Int32.toInt r_96) (B := 0) rfl (by decide) (fun c_102z c_102 => ?_) (fun c_103z c_103 => ?_)
                    · refine dOk_B (ok_paysNow q_97 i_99) (fun r_105 q_106 h_107 => ?_)
                      replace h_107 : (TS q_106) ∧ (dFr [] [22, 23, 24, 25] q_97 q_106) ∧ ((0 ≤ Int32.toInt (q_97.1 12 0) ∧ Int32.toInt (q_97.1 12 0) ≤ 99) → 0 ≤ Int32.toInt r_105 ∧ Int32.toInt r_105 ≤ 99) := h_107
                      obtain ⟨i_108, i_109, i_110⟩ := h_107
                      have hFq_106 : dFr [12, 20] [22, 23, 24, 25] q q_106 := hFq_97.t i_109 (by decide) (by decide)
                      have w_111 : Int32.toInt (q_97.1 12 0) = Int32.toInt (q_88.1 12 0) := by rw [i_100.1 12 (by decide) (by decide)]
                      unfold zX10_laysPrices_98
                      refine dOk_G (dg_ok (show 0 ≤ Int32.toInt r_93 by omega) (show Int32.toInt r_93 < ((588 : Nat) : Int) by omega)) ?_
                      have n_112 : ((Int32.toNatClampNeg r_93 : Nat) : Int) = Int32.toInt r_93 := cl_eq (by omega)
                      refine dOk_L (fun q_113 eq_113 => ?_)
                      have hTq_113 : TS q_113 := by rw [eq_113]; exact ts_set i_108 (by decide) (show -1 ≤ Int32.toInt r_105 by omega) (show Int32.toInt r_105 ≤ 99 by omega)
                      have hFq_113 : dFr [12, 20] [22, 23, 24, 25] q q_113 := by rw [eq_113]; exact hFq_106.i (by decide) (by decide)
                      try have t_114 : Int32.toInt (x4_70 + 1) = Int32.toInt x4_70 + 1 := ti_add rfl (by decide) (by omega) (by omega)
                      exact hk_64 (q_113, x1_4, x2_24, x3_46, (x4_70 + 1)) (show (TS q_113) ∧ (dFr [12, 20] [22, 23, 24, 25] q_43 q_113) ∧ (x1_4 = x1_4) ∧ (x2_24 = x2_24) ∧ (x3_46 = x3_46) ∧ (0 ≤ Int32.toInt (x4_70 + 1)) ∧ (Int32.toInt (x4_70 + 1) ≤ 2) from ⟨hTq_113, (by rw [eq_113]; exact (((((((((dFr.rf : dFr [12, 20] [22, 23, 24, 25] q_43 q_43).t a_72 (by decide) (by decide)) : dFr [12, 20] [22, 23, 24, 25] q_43 q_66).t i_91 (by decide) (by decide)) : dFr [12, 20] [22, 23, 24, 25] q_43 q_88).t i_100 (by decide) (by decide)) : dFr [12, 20] [22, 23, 24, 25] q_43 q_97).t i_109 (by decide) (by decide)) : dFr [12, 20] [22, 23, 24, 25] q_43 q_106).i (by decide) (by decide)), rfl, rfl, rfl, by omega, by omega⟩) (show (2 - Int32.toInt (x4_70 + 1)).toNat < (2 - Int32.toInt x4_70).toNat by omega)
                    · unfold zX10_laysPrices_98
                      refine dOk_G (dg_ok (show 0 ≤ Int32.toInt r_93 by omega) (show Int32.toInt r_93 < ((588 : Nat) : Int) by omega)) ?_
                      have n_115 : ((Int32.toNatClampNeg r_93 : Nat) : Int) = Int32.toInt r_93 := cl_eq (by omega)
                      refine dOk_L (fun q_116 eq_116 => ?_)
                      have hTq_116 : TS q_116 := by rw [eq_116]; exact ts_set i_99 (by decide) (show -1 ≤ (-1 : Int) by omega) (show (-1 : Int) ≤ 99 by omega)
                      have hFq_116 : dFr [12, 20] [22, 23, 24, 25] q q_116 := by rw [eq_116]; exact hFq_97.i (by decide) (by decide)
                      try have t_117 : Int32.toInt (x4_70 + 1) = Int32.toInt x4_70 + 1 := ti_add rfl (by decide) (by omega) (by omega)
                      exact hk_64 (q_116, x1_4, x2_24, x3_46, (x4_70 + 1)) (show (TS q_116) ∧ (dFr [12, 20] [22, 23, 24, 25] q_43 q_116) ∧ (x1_4 = x1_4) ∧ (x2_24 = x2_24) ∧ (x3_46 = x3_46) ∧ (0 ≤ Int32.toInt (x4_70 + 1)) ∧ (Int32.toInt (x4_70 + 1) ≤ 2) from ⟨hTq_116, (by rw [eq_116]; exact (((((((dFr.rf : dFr [12, 20] [22, 23, 24, 25] q_43 q_43).t a_72 (by decide) (by decide)) : dFr [12, 20] [22, 23, 24, 25] q_43 q_66).t i_91 (by decide) (by decide)) : dFr [12, 20] [22, 23, 24, 25] q_43 q_88).t i_100 (by decide) (by decide)) : dFr [12, 20] [22, 23, 24, 25] q_43 q_97).i (by decide) (by decide)), rfl, rfl, rfl, by omega, by omega⟩) (show (2 - Int32.toInt (x4_70 + 1)).toNat < (2 - Int32.toInt x4_70).toNat by omega)
                  · try have t_118 : Int32.toInt (x3_46 - 1) = Int32.toInt x3_46 - 1 := ti_sub rfl (by decide) (by omega) (by omega)
                    refine dOk_B (ok_rankOf q_66 (x3_46 - 1) a_71) (fun r_119 q_120 h_121 => ?_)
                    replace h_121 : (q_120 = q_66) := h_121
                    have i_122 := h_121
                    subst q_120
                    unfold zX10_laysPrices_65
                    refine dOk_V (ok_setsTurn q_66 x1_4 r_81 r_119 x4_70 a_71) (fun q_123 h_124 => ?_)
                    replace h_124 : (TS q_123) ∧ (dFr [12] [] q_66 q_123) ∧ (Int32.toInt (q_123.1 12 0) = Int32.toInt x1_4) := h_124
                    obtain ⟨i_125, i_126, i_127⟩ := h_124
                    have hFq_123 : dFr [12, 20] [22, 23, 24, 25] q q_123 := hFq_66.t i_126 (by decide) (by decide)
                    refine dOk_V (ok_askedAt x1_4 x2_24 x3_46 x4_70 (show 0 ≤ Int32.toInt x1_4 ∧ Int32.toInt x1_4 ≤ 6 by omega) (show 0 ≤ Int32.toInt x2_24 ∧ Int32.toInt x2_24 ≤ 5 by omega) (show 0 ≤ Int32.toInt x3_46 ∧ Int32.toInt x3_46 ≤ 6 by omega) (show 0 ≤ Int32.toInt x4_70 ∧ Int32.toInt x4_70 ≤ 1 by omega)) (fun r_128 h_129 => ?_)
                    replace h_129 : (Int32.toInt r_128 = ((Int32.toInt x1_4 * 6 + Int32.toInt x2_24) * 7 + Int32.toInt x3_46) * 2 + Int32.toInt x4_70) := h_129
                    have i_130 := h_129
                    refine dOk_B (ok_isNow q_123 2 i_125) (fun r_131 q_132 h_133 => ?_)
                    replace h_133 : (TS q_132) ∧ (dFr [] [22, 23, 24, 25] q_123 q_132) ∧ ((Int32.toInt r_131 = 0 ∨ Int32.toInt r_131 = 1)) := h_133
                    obtain ⟨i_134, i_135, i_136⟩ := h_133
                    have hFq_132 : dFr [12, 20] [22, 23, 24, 25] q q_132 := hFq_123.t i_135 (by decide) (by decide)
                    refine dOk_eq (A := Int32.toInt r_131) (B := 0) rfl (by decide) (fun c_137z c_137 => ?_) (fun c_138z c_138 => ?_)
                    · refine dOk_B (ok_paysNow q_132 i_134) (fun r_140 q_141 h_142 => ?_)
                      replace h_142 : (TS q_141) ∧ (dFr [] [22, 23, 24, 25] q_132 q_141) ∧ ((0 ≤ Int32.toInt (q_132.1 12 0) ∧ Int32.toInt (q_132.1 12 0) ≤ 99) → 0 ≤ Int32.toInt r_140 ∧ Int32.toInt r_140 ≤ 99) := h_142
                      obtain ⟨i_143, i_144, i_145⟩ := h_142
                      have hFq_141 : dFr [12, 20] [22, 23, 24, 25] q q_141 := hFq_132.t i_144 (by decide) (by decide)
                      have w_146 : Int32.toInt (q_132.1 12 0) = Int32.toInt (q_123.1 12 0) := by rw [i_135.1 12 (by decide) (by decide)]
                      unfold zX10_laysPrices_98
                      refine dOk_G (dg_ok (show 0 ≤ Int32.toInt r_128 by omega) (show Int32.toInt r_128 < ((588 : Nat) : Int) by omega)) ?_
                      have n_147 : ((Int32.toNatClampNeg r_128 : Nat) : Int) = Int32.toInt r_128 := cl_eq (by omega)
                      refine dOk_L (fun q_148 eq_148 => ?_)
                      have hTq_148 : TS q_148 := by rw [eq_148]; exact ts_set i_143 (by decide) (show -1 ≤ Int32.toInt r_140 by omega) (show Int32.toInt r_140 ≤ 99 by omega)
                      have hFq_148 : dFr [12, 20] [22, 23, 24, 25] q q_148 := by rw [eq_148]; exact hFq_141.i (by decide) (by decide)
                      try have t_149 : Int32.toInt (x4_70 + 1) = Int32.toInt x4_70 + 1 := ti_add rfl (by decide) (by omega) (by omega)
                      exact hk_64 (q_148, x1_4, x2_24, x3_46, (x4_70 + 1)) (show (TS q_148) ∧ (dFr [12, 20] [22, 23, 24, 25] q_43 q_148) ∧ (x1_4 = x1_4) ∧ (x2_24 = x2_24) ∧ (x3_46 = x3_46) ∧ (0 ≤ Int32.toInt (x4_70 + 1)) ∧ (Int32.toInt (x4_70 + 1) ≤ 2) from ⟨hTq_148, (by rw [eq_148]; exact (((((((((dFr.rf : dFr [12, 20] [22, 23, 24, 25] q_43 q_43).t a_72 (by decide) (by decide)) : dFr [12, 20] [22, 23, 24, 25] q_43 q_66).t i_126 (by decide) (by decide)) : dFr [12, 20] [22, 23, 24, 25] q_43 q_123).t i_135 (by decide) (by decide)) : dFr [12, 20] [22, 23, 24, 25] q_43 q_132).t i_144 (by decide) (by decide)) : dFr [12, 20] [22, 23, 24, 25] q_43 q_141).i (by decide) (by decide)), rfl, rfl, rfl, by omega, by omega⟩) (show (2 - Int32.toInt (x4_70 + 1)).toNat < (2 - Int32.toInt x4_70).toNat by omega)
                    · unfold zX10_laysPrices_98
                      refine dOk_G (dg_ok (show 0 ≤ Int32.toInt r_128 by omega) (show Int32.toInt r_128 < ((588 : Nat) : Int) by omega)) ?_
                      have n_150 : ((Int32.toNatClampNeg r_128 : Nat) : Int) = Int32.toInt r_128 := cl_eq (by omega)
                      refine dOk_L (fun q_151 eq_151 => ?_)
                      have hTq_151 : TS q_151 := by rw [eq_151]; exact ts_set i_134 (by decide) (show -1 ≤ (-1 : Int) by omega) (show (-1 : Int) ≤ 99 by omega)
                      have hFq_151 : dFr [12, 20] [22, 23, 24, 25] q q_151 := by rw [eq_151]; exact hFq_132.i (by decide) (by decide)
                      try have t_152 : Int32.toInt (x4_70 + 1) = Int32.toInt x4_70 + 1 := ti_add rfl (by decide) (by omega) (by omega)
                      exact hk_64 (q_151, x1_4, x2_24, x3_46, (x4_70 + 1)) (show (TS q_151) ∧ (dFr [12, 20] [22, 23, 24, 25] q_43 q_151) ∧ (x1_4 = x1_4) ∧ (x2_24 = x2_24) ∧ (x3_46 = x3_46) ∧ (0 ≤ Int32.toInt (x4_70 + 1)) ∧ (Int32.toInt (x4_70 + 1) ≤ 2) from ⟨hTq_151, (by rw [eq_151]; exact (((((((dFr.rf : dFr [12, 20] [22, 23, 24, 25] q_43 q_43).t a_72 (by decide) (by decide)) : dFr [12, 20] [22, 23, 24, 25] q_43 q_66).t i_126 (by decide) (by decide)) : dFr [12, 20] [22, 23, 24, 25] q_43 q_123).t i_135 (by decide) (by decide)) : dFr [12, 20] [22, 23, 24, 25] q_43 q_132).i (by decide) (by decide)), rfl, rfl, rfl, by omega, by omega⟩) (show (2 - Int32.toInt (x4_70 + 1)).toNat < (2 - Int32.toInt x4_70).toNat by omega)
              · exact (show (TS q_43) ∧ (dFr [12, 20] [22, 23, 24, 25] q_43 q_43) ∧ (x1_4 = x1_4) ∧ (x2_24 = x2_24) ∧ (x3_46 = x3_46) ∧ (0 ≤ (0 : Int)) ∧ ((0 : Int) ≤ 2) from ⟨a_47, dFr.rf, rfl, rfl, rfl, by omega, by omega⟩)
              · show (2 - (0 : Int)).toNat < 1000000000000
                omega
          · exact (show (TS q_22) ∧ (dFr [12, 20] [22, 23, 24, 25] q_22 q_22) ∧ (x1_4 = x1_4) ∧ (x2_24 = x2_24) ∧ (0 ≤ (0 : Int)) ∧ ((0 : Int) ≤ 7) from ⟨a_25, dFr.rf, rfl, rfl, by omega, by omega⟩)
          · show (7 - (0 : Int)).toNat < 1000000000000
            omega
      · exact (show (TS q_3) ∧ (dFr [12, 20] [22, 23, 24, 25] q_3 q_3) ∧ (x1_4 = x1_4) ∧ (0 ≤ (0 : Int)) ∧ ((0 : Int) ≤ 6) from ⟨a_5, dFr.rf, rfl, by omega, by omega⟩)
      · show (6 - (0 : Int)).toNat < 1000000000000
        omega
  · exact (show (TS q) ∧ (dFr [12, 20] [22, 23, 24, 25] q q) ∧ (1 ≤ (1 : Int)) ∧ ((1 : Int) ≤ 7) from ⟨hT, dFr.rf, by omega, by omega⟩)
  · show (7 - (1 : Int)).toNat < 1000000000000
    omega
end
section
theorem tabs_keep {q o : dS} {n : Nat} (h : tabs q n) (h37 : o.1 0 37 = q.1 0 37) (h38 : o.1 0 38 = q.1 0 38) (h16 : o.1 16 = q.1 16) (h17 : o.1 17 = q.1 17) (h18 : o.1 18 = q.1 18) : tabs o n := by
  obtain ⟨a1, a2, a3, a4, a5⟩ := h
  refine ⟨by rw [h37]; exact a1, by rw [h38]; exact a2, fun p j hp hj => ?_, fun p k hp h1 hk => ?_, fun p k hp h1 hk => ?_⟩
  · rw [h16]; exact a3 p j hp hj
  · rw [h17]; exact a4 p k hp h1 hk
  · rw [h18]; exact a5 p k hp h1 hk
theorem ok_laysPrices2 (q : dS) (n : Nat) (hT : TS q) (hn : (q.1 2 29).toInt = (n : Int)) : dOk (zX10_laysPrices q) (fun o => TS o ∧ dFr [12, 16, 17, 18, 19, 20] [22, 23, 24, 25, 37, 38] q o ∧ tabs o n) := by
  unfold zX10_laysPrices
  refine dOk_V (ok_laysTables2 q n hT hn) (fun q3 h3 => ?_)
  obtain ⟨hT3, hF3, ht3⟩ := h3
  refine dOk_mono (ok_laysPricesL q3 hT3) (fun o ho => ?_)
  obtain ⟨hTo, hFo⟩ := ho
  replace hFo : dFr [12, 20] [22, 23, 24, 25] q3 o := hFo.w (by decide) (by decide)
  refine ⟨hTo, (hF3.w (by decide) (by decide) : dFr [12, 16, 17, 18, 19, 20] [22, 23, 24, 25, 37, 38] q q3).t hFo (by decide) (by decide), ?_⟩
  exact tabs_keep ht3 (hFo.2 37 (by decide)) (hFo.2 38 (by decide)) (hFo.1 16 (by decide) (by decide)) (hFo.1 17 (by decide) (by decide)) (hFo.1 18 (by decide) (by decide))
def dP2 (q : dS) (n : Nat) (o : dS) : Prop := TS o ∧ dFr [12, 16, 17, 18, 19, 20, 21, 22, 23] [22, 23, 24, 25, 37, 38] q o ∧ tabs o n ∧ Gq (prV o n) n (o.1 21)
end
section
set_option maxRecDepth 100000 in
set_option maxHeartbeats 4000000 in
theorem ok_laysDist2 (q : dS) (N0 : Nat) (hT : TS q) (hN : (q.1 2 29).toInt = (N0 : Int)) : dOk (zX10_laysDist q) (dP2 q N0) := by
  unfold zX10_laysDist
  refine dOk_V (ok_laysPrices2 q N0 hT hN) (fun q3 h3 => ?_)
  obtain ⟨hT3, hF3, ht3⟩ := h3
  have fs : 0 ≤ Int32.toInt (q.1 2 29) ∧ Int32.toInt (q.1 2 29) ≤ 6 := hT.1 2 29
  have hN6 : N0 ≤ 6 := by omega
  have hfac := facN_le N0 hN6
  have z37 : Int32.toInt (q3.1 0 37) = (facN N0 : Int) := by rw [ht3.1]; exact nI_toInt (by omega)
  have hN3 : (q3.1 2 29).toInt = (N0 : Int) := by rw [hF3.1 2 (by decide) (by decide)]; exact hN
  have tq : ∀ o : dS, dFr [21, 22, 23] [] q3 o → tabs o N0 ∧ prV o N0 = prV q3 N0 := by
    intro o ho
    refine ⟨tabs_keep ht3 (ho.2 37 (by decide)) (ho.2 38 (by decide)) (ho.1 16 (by decide) (by decide)) (ho.1 17 (by decide) (by decide)) (ho.1 18 (by decide) (by decide)), ?_⟩
    funext u k
    unfold prV
    rw [ho.1 20 (by decide) (by decide)]
  have hF3' : dFr [12, 16, 17, 18, 19, 20, 21, 22, 23] [22, 23, 24, 25, 37, 38] q q3 := hF3.w (by decide) (by decide)
  have f37 : 0 ≤ Int32.toInt (q3.1 0 37) ∧ Int32.toInt (q3.1 0 37) ≤ 720 := hT3.1 0 37
  -- the second half
  have h97 : ∀ (q6 : dS) (n0 : Nat), TS q6 → dFr [21, 22, 23] [] q3 q6 → Cq (prV q3 N0) N0 n0 (q6.1 21) (q6.1 23) → dOk (zX10_laysDist_97 dF q6 (nI n0) 0) (dP2 q N0) := by
    intro q6 n0 hT6 hF6 hB6
    unfold zX10_laysDist_97
    refine dFix_ok (fun (a : dS × Int32 × Int32) => TS a.1 ∧ dFr [21, 22, 23] [] q3 a.1 ∧ ∃ n i : Nat, a.2.1 = nI n ∧ a.2.2 = nI i ∧ i ≤ n ∧ Cq (prV q3 N0) N0 n (a.1.1 21) (a.1.1 23)) (fun (a : dS × Int32 × Int32) => (46081 - Int32.toInt a.2.2).toNat) ?_ _ ⟨hT6, hF6, n0, 0, rfl, rfl, by omega, hB6⟩ _ (dF_gt (by show (46081 - Int32.toInt 0).toNat < 1000000000000; rw [show Int32.toInt 0 = (0 : Int) by decide]; omega))
    intro a ha k57 hk57
    obtain ⟨qc, x1, x2⟩ := a
    obtain ⟨hTc, hFc, n, i, en, ei, hin, hBc⟩ := ha
    replace hTc : TS qc := hTc
    replace hFc : dFr [21, 22, 23] [] q3 qc := hFc
    replace en : x1 = nI n := en
    replace ei : x2 = nI i := ei
    replace hBc : Cq (prV q3 N0) N0 n (qc.1 21) (qc.1 23) := hBc
    subst en ei
    have hn := hBc.1.1
    have tn : Int32.toInt (nI n) = (n : Int) := nI_toInt (by omega)
    have ti : Int32.toInt (nI i) = (i : Int) := nI_toInt (by omega)
    have ni : Int32.toNatClampNeg (nI i) = i := nI_clamp (by omega)
    show dOk (zX10_laysDist_97b (fun q x1 x2 => k57 (q, x1, x2)) qc (nI n) (nI i)) _
    unfold zX10_laysDist_97b
    refine dOk_le tn ti (fun c => dOk_some ⟨hTc, hF3'.t hFc (by decide) (by decide), (tq qc hFc).1, ?_⟩) (fun c => ?_)
    · rw [(tq qc hFc).2]; exact hBc.2.1
    refine dOk_G (dg_ok (by omega) (by omega)) (dOk_L (fun v2 ev2 => ?_))
    rw [ni] at ev2
    have f2 := hBc.1.2 i (by omega)
    rw [← ev2] at f2
    unfold zX10_laysDist_112
    refine dFix_ok (fun (a : dS × Int32 × Int32 × Int32 × Int32) => TS a.1 ∧ dFr [21, 22, 23] [] q3 a.1 ∧ a.2.2.1 = nI i ∧ a.2.2.2.1 = v2 ∧ (∃ n : Nat, a.2.1 = nI n ∧ i < n ∧ Cq (prV q3 N0) N0 n (a.1.1 21) (a.1.1 23) ∧ a.1.1 23 i = v2) ∧ 1 ≤ a.2.2.2.2.toInt ∧ a.2.2.2.2.toInt ≤ 7) (fun (a : dS × Int32 × Int32 × Int32 × Int32) => (7 - Int32.toInt a.2.2.2.2).toNat) ?_ _ ⟨hTc, hFc, rfl, rfl, ⟨n, rfl, by omega, hBc, ev2.symm⟩, by show (1 : Int) ≤ Int32.toInt 1; decide, by show Int32.toInt 1 ≤ (7 : Int); decide⟩ _ (dF_gt (by show (7 - Int32.toInt 1).toNat < 1000000000000; decide))
    intro a ha k64 hk64
    obtain ⟨qd, y1, y2, y5, y3⟩ := a
    obtain ⟨hTd, hFd, e2, e5, ⟨n', e1, hi', hBd, hui⟩, y30, y31⟩ := ha
    replace hTd : TS qd := hTd
    replace hFd : dFr [21, 22, 23] [] q3 qd := hFd
    replace e2 : y2 = nI i := e2
    replace e5 : y5 = v2 := e5
    replace e1 : y1 = nI n' := e1
    replace hBd : Cq (prV q3 N0) N0 n' (qd.1 21) (qd.1 23) := hBd
    replace hui : qd.1 23 i = v2 := hui
    replace y30 : 1 ≤ y3.toInt := y30
    replace y31 : y3.toInt ≤ 7 := y31
    subst e1 e2 e5
    have hn' := hBd.1.1
    have tn' : Int32.toInt (nI n') = (n' : Int) := nI_toInt (by omega)
    have nn : Int32.toNatClampNeg (nI n') = n' := nI_clamp (by omega)
    have n5 : Int32.toNatClampNeg y5 = (Int32.toInt y5).toNat := rfl
    show dOk (zX10_laysDist_112b _ (fun q x1 x2 x3 x4 => k64 (q, x1, x2, x3, x4)) qd (nI n') (nI i) y5 y3) _
    have y3p : y3.toInt ≤ 6 → Int32.toInt (y3 + 1) = y3.toInt + 1 := fun _ => ti_add rfl (by decide) (by omega) (by omega)
    have h232 : ∀ (q' : dS) (m : Nat), y3.toInt ≤ 6 → TS q' → dFr [21, 22, 23] [] q3 q' → i < m → Cq (prV q3 N0) N0 m (q'.1 21) (q'.1 23) → q'.1 23 i = y5 → dOk (zX10_laysDist_232 (fun q x1 x2 => k57 (q, x1, x2)) (fun q x1 x2 x3 x4 => k64 (q, x1, x2, x3, x4)) q' (nI m) (nI i) y5 y3) (dP2 q N0) := by
      intro q' m hy6 hT' hF' hm' hB' hu'
      unfold zX10_laysDist_232
      have y3p := y3p hy6
      refine hk64 (q', nI m, nI i, y5, y3 + 1) ⟨hT', hF', rfl, rfl, ⟨m, rfl, hm', hB', hu'⟩, ?_, ?_⟩ ?_
      · show 1 ≤ Int32.toInt (y3 + 1)
        omega
      · show Int32.toInt (y3 + 1) ≤ 7
        omega
      · show (7 - Int32.toInt (y3 + 1)).toNat < (7 - Int32.toInt y3).toNat
        omega
    have h183 : ∀ (q' : dS) (m : Nat) (r4 : Int32), y3.toInt ≤ 6 → 0 ≤ r4.toInt → r4.toInt ≤ 46079 → TS q' → dFr [21, 22, 23] [] q3 q' → i < m → Cq (prV q3 N0) N0 m (q'.1 21) (q'.1 23) → q'.1 23 i = y5 → dOk (zX10_laysDist_183 (fun q x1 x2 => k57 (q, x1, x2)) (fun q x1 x2 x3 x4 => k64 (q, x1, x2, x3, x4)) q' (nI m) (nI i) y5 y3 r4) (dP2 q N0) := by
      intro q' m r4 hy6 h40 h41 hT' hF' hm' hB' hu'
      have h227 : ∀ a b : Int32, dOk (zX10_laysDist_227 (fun q x1 x2 => k57 (q, x1, x2)) (fun q x1 x2 x3 x4 => k64 (q, x1, x2, x3, x4)) q' (nI m) (nI i) y5 y3 a b 1000000000 r4) (dP2 q N0) := by
        intro a b
        unfold zX10_laysDist_227
        refine dOk_V (ok_lesser 1000000000 (b + a)) (fun r1 _ => dOk_G (dg_ok (by omega) (by omega)) (dOk_L (fun q4 e4 => ?_)))
        refine h232 q4 m hy6 (by rw [e4]; exact ts_any hT' rfl) (by rw [e4]; exact hF'.i (by decide) (by decide)) hm' ?_ ?_
        · rw [e4, dui_o (by decide), dui_o (by decide)]; exact hB'
        · rw [e4, dui_o (by decide)]; exact hu'
      unfold zX10_laysDist_183
      refine dOk_G (dg_ok (by omega) (by omega)) (dOk_L (fun v2 _ => dOk_G (dg_ok (by omega) (by omega)) (dOk_L (fun v4 _ => dOk_G (dg_ok (by omega) (by omega)) (dOk_L (fun v6 _ => ?_))))))
      exact dOk_eq rfl rfl (fun _ _ => dOk_G (dg_ok (by omega) (by omega)) (dOk_L (fun v8 _ => h227 _ _))) (fun _ _ => h227 _ _)
    unfold zX10_laysDist_112b
    refine dOk_B (ok_size qd hTd) (fun r1 qe hr => ?_)
    have ee : qe = qd := hr.1
    have hr6 : 0 ≤ Int32.toInt r1 ∧ Int32.toInt r1 ≤ 6 := hr.2.2
    subst ee
    refine dOk_lt rfl rfl (fun c3 => ?_) (fun c3 => ?_)
    · have t1 : Int32.toInt (nI i + 1) = (i : Int) + 1 := ti_add ti (by decide) (by omega) (by omega)
      refine hk57 (qe, nI n', nI i + 1) ⟨hTd, hFd, n', i + 1, rfl, nI_1 i, by omega, hBd⟩ ?_
      show (46081 - Int32.toInt (nI i + 1)).toNat < (46081 - Int32.toInt (nI i)).toNat
      omega
    have hy6 : y3.toInt ≤ 6 := by omega
    have hrs : Int32.toInt r1 = Int32.toInt (qe.1 2 29) := hr.2.1
    have hNe : (qe.1 2 29).toInt = (N0 : Int) := by rw [hFd.1 2 (by decide) (by decide)]; exact hN3
    have b5 := hBd.1.2 i hi'
    rw [hui] at b5
    have t5 : ths N0 (Int32.toInt y5).toNat := by have := hBd.2.2 i hi'; rw [hui] at this; exact this
    obtain ⟨t0, et0, ht0, -⟩ := ti_nI b5.1
    obtain ⟨kk, ekk, hkk, -⟩ := ti_nI (x := y3) (by omega)
    have t5' : ths N0 t0 := by rw [show (Int32.toInt y5).toNat = t0 by omega] at t5; exact t5
    have hk1 : 1 ≤ kk := by omega
    have hk2 : kk ≤ N0 := by omega
    obtain ⟨tte, tpe⟩ := tq qe hFd
    have hbi := bh_inv hN6 t5' hk1 hk2
    have hbl := ths_lt hN6 hbi.1
    refine dOk_B (R := fun o => o.2 = qe ∧ o.1 = nI (bhN N0 t0 kk)) (by rw [et0, ekk]; exact ok_behind2 qe N0 t0 kk hN6 tte t5' hk1 hk2) (fun r6 qf hf => ?_)
    have ef : qf = qe := hf.1
    have er6 : r6 = nI (bhN N0 t0 kk) := hf.2
    have tr6 : Int32.toInt r6 = ((bhN N0 t0 kk : Nat) : Int) := by rw [er6]; exact nI_toInt (by omega)
    have hr66 : 0 ≤ Int32.toInt r6 ∧ Int32.toInt r6 ≤ 46079 := by omega
    subst ef
    refine dOk_B (R := fun o => o.2 = qf ∧ o.1 = prV q3 N0 (bhN N0 t0 kk) kk) (by rw [er6, ekk, ← tpe]; exact ok_priceOf2 qf N0 (bhN N0 t0 kk) kk hTd hNe tte hbi.1 hk1 hk2) (fun r11 qg hg => ?_)
    have eg : qg = qf := hg.1
    have er11 : r11 = prV q3 N0 (bhN N0 t0 kk) kk := hg.2
    subst eg
    refine dOk_eq rfl rfl (fun _ _ => h232 qg n' hy6 hTd hFd hi' hBd hui) (fun c11 _ => ?_)
    refine dOk_G (dg_ok (by omega) (by omega)) (dOk_L (fun v15 e15 => ?_))
    have n6 : Int32.toNatClampNeg r6 = (Int32.toInt r6).toNat := rfl
    rw [n6] at e15
    refine dOk_eq rfl rfl (fun c15 _ => ?_) (fun _ _ => h183 qg n' r6 hy6 hr66.1 hr66.2 hTd hFd hi' hBd hui)
    have hfar6 : qg.1 21 (Int32.toInt r6).toNat = 1000000 := by rw [← e15]; exact c15
    refine dOk_G (dg_ok (by omega) (by omega)) (dOk_L (fun v19 e19 => ?_))
    rw [n5] at e19
    have f5 := hBd.1.2 i hi'
    rw [hui] at f5
    have f19 : 0 ≤ Int32.toInt v19 ∧ Int32.toInt v19 ≤ 1000000 := by rw [e19]; exact hTd.1 21 _
    have f19' : Int32.toInt v19 ≤ (i : Int) := by rw [e19]; exact f5.2.2
    have t19 : Int32.toInt (v19 + 1) = v19.toInt + 1 := ti_add rfl (by decide) (by omega) (by omega)
    have hpush := B_push (v := v19 + 1) (x := r6) (w := (Int32.toInt r6).toNat) hBd.1 hi' (by omega) hfar6 (by rw [t19, hui, e19]) (by omega) (by omega)
    refine dOk_G (dg_ok (by omega) (by omega)) (dOk_L (fun q21 e21 => ?_))
    rw [n6] at e21
    have hT21 : TS q21 := by rw [e21]; exact ts_set hTd (by decide) (show 0 ≤ Int32.toInt (v19 + 1) by omega) (show Int32.toInt (v19 + 1) ≤ 1000000 by omega)
    refine dOk_G (dg_ok (by omega) (by have := hpush.1; omega)) (dOk_L (fun q23 e23 => ?_))
    rw [nn] at e23
    have hT23 : TS q23 := by rw [e23]; exact ts_set hT21 (by decide) (show 0 ≤ Int32.toInt r6 by omega) (show Int32.toInt r6 ≤ 46079 by omega)
    have hF23 : dFr [21, 22, 23] [] q3 q23 := by
      rw [e23]; refine dFr.i ?_ (by decide) (by decide)
      rw [e21]; exact hFd.i (by decide) (by decide)
    have s1 : nI n' + 1 = nI (n' + 1) := nI_1 n'
    rw [s1]
    refine h183 q23 (n' + 1) r6 hy6 hr66.1 hr66.2 hT23 hF23 (by omega) ?_ ?_
    · rw [e23, dui_s, dui_o (by decide), e21, dui_s, dui_o (by decide)]
      have ew : (Int32.toInt r6).toNat = bhN N0 t0 kk := by omega
      have ed : (qg.1 21 t0).toInt ≤ (i : Int) := by rw [show t0 = (Int32.toInt y5).toNat by omega]; exact b5.2.2
      refine ⟨hpush.2, ?_, ?_⟩
      · rw [ew] at hfar6 ⊢
        refine G_push hN6 hBd.2.1 t5' (fun z => ?_) hk1 hk2 (by rw [← er11]; exact c11) hfar6 ?_
        · rw [z] at ed
          have : Int32.toInt 1000000 = 1000000 := by decide
          omega
        · rw [t19, e19, show (Int32.toInt y5).toNat = t0 by omega]
      · intro j hj
        by_cases cj : j = n'
        · rw [show upd (qg.1 23) n' r6 j = r6 from if_pos cj, ew]; exact hbi.1
        · rw [show upd (qg.1 23) n' r6 j = qg.1 23 j from if_neg cj]; exact hBd.2.2 j (by omega)
    · rw [e23, dui_n (by omega), e21, dui_o (by decide)]; exact hui
  unfold zX10_laysDist_8
  refine dFix_ok (fun (a : dS × Int32 × Int32) => TS a.1 ∧ dFr [21, 22, 23] [] q3 a.1 ∧ ∃ n t : Nat, a.2.1 = nI n ∧ a.2.2 = nI t ∧ (t : Int) ≤ 64 * Int32.toInt (q3.1 0 37) ∧ n + sm (fz (a.1.1 21)) t ≤ t ∧ (∀ j : Nat, j < n → 0 ≤ (a.1.1 23 j).toInt ∧ (a.1.1 23 j).toInt < (t : Int) ∧ a.1.1 21 (a.1.1 23 j).toInt.toNat = 0 ∧ ths N0 (a.1.1 23 j).toInt.toNat) ∧ ∀ u : Nat, u < t → ¬ a.1.1 21 u = 1000000 → ths N0 u ∧ a.1.1 21 u = 0) (fun (a : dS × Int32 × Int32) => (46080 - Int32.toInt a.2.2).toNat) ?_ _ ⟨hT3, dFr.rf, 0, 0, rfl, rfl, by omega, by unfold sm; omega, (fun j hj => by omega), fun u hu => absurd hu (Nat.not_lt_zero u)⟩ _ (dF_gt (by show (46080 - Int32.toInt 0).toNat < 1000000000000; rw [show Int32.toInt 0 = (0 : Int) by decide]; omega))
  intro a ha k hk
  obtain ⟨qa, x1, x2⟩ := a
  obtain ⟨hTa, hFa, n, t, en, et, ht, hcnt, hq, hz⟩ := ha
  replace hTa : TS qa := hTa
  replace hFa : dFr [21, 22, 23] [] q3 qa := hFa
  replace en : x1 = nI n := en
  replace et : x2 = nI t := et
  replace hcnt : n + sm (fz (qa.1 21)) t ≤ t := hcnt
  replace hq : ∀ j : Nat, j < n → 0 ≤ (qa.1 23 j).toInt ∧ (qa.1 23 j).toInt < (t : Int) ∧ qa.1 21 (qa.1 23 j).toInt.toNat = 0 ∧ ths N0 (qa.1 23 j).toInt.toNat := hq
  replace hz : ∀ u : Nat, u < t → ¬ qa.1 21 u = 1000000 → ths N0 u ∧ qa.1 21 u = 0 := hz
  subst en et
  have tt : Int32.toInt (nI t) = (t : Int) := nI_toInt (by omega)
  have nt : Int32.toNatClampNeg (nI t) = t := nI_clamp (by omega)
  have tn : Int32.toInt (nI n) = (n : Int) := nI_toInt (by omega)
  have nn : Int32.toNatClampNeg (nI n) = n := nI_clamp (by omega)
  have w37 : qa.1 0 37 = q3.1 0 37 := hFa.2 37 (by decide)
  have m37 : Int32.toInt (64 * qa.1 0 37) = 64 * Int32.toInt (q3.1 0 37) := by rw [w37]; exact ti_mul (by decide) rfl (by omega) (by omega)
  show dOk (zX10_laysDist_8b (fun q x1 x2 => k (q, x1, x2)) qa (nI n) (nI t)) _
  unfold zX10_laysDist_8b
  refine dOk_le m37 tt (fun c => ?_) (fun c => ?_)
  · refine h97 qa n hTa hFa ⟨⟨?_, fun j hj => ?_⟩, fun u hu hd => ?_, fun j hj => (hq j hj).2.2.2⟩
    · have hN := cN_eq
      have := sm_split (fz_le (qa.1 21)) t cN (by rw [hN]; omega)
      unfold cF
      omega
    · obtain ⟨z1, z2, z3, z4⟩ := hq j hj
      refine ⟨z1, by omega, ?_⟩
      rw [z3]
      have : (0 : Int32).toInt = 0 := by decide
      omega
    · obtain ⟨g1, g2⟩ := hz u (by omega) hd
      exact ⟨g1, Or.inl g2⟩
  have t1 : Int32.toInt (nI t + 1) = (t : Int) + 1 := ti_add tt (by decide) (by omega) (by omega)
  have h40 : ∀ y0 : Int32, (y0 = 0 ∨ (y0 = 1 ∧ ths N0 t)) → dOk (zX10_laysDist_40 (fun q x1 x2 => k (q, x1, x2)) qa (nI n) (nI t) y0) (dP2 q N0) := by
    have hst : ∀ (v w : Int32), 0 ≤ v.toInt → v.toInt ≤ 1000000 → ∀ q2 q4 : dS, q2 = dui qa 21 t v → q4 = dui q2 22 t w → TS q4 ∧ dFr [21, 22, 23] [] q3 q4 ∧ q4.1 21 = upd (qa.1 21) t v ∧ q4.1 23 = qa.1 23 ∧ sm (fz (q4.1 21)) (t + 1) = sm (fz (qa.1 21)) t + (if v = 1000000 then 1 else 0) := by
      intro v w hv0 hv1 q2 q4 e2 e4
      have g21 : q4.1 21 = upd (qa.1 21) t v := by rw [e4, dui_o (by decide), e2, dui_s]
      refine ⟨?_, ?_, g21, ?_, ?_⟩
      · rw [e4]; refine ts_any ?_ rfl
        rw [e2]; exact ts_set hTa (by decide) hv0 hv1
      · rw [e4]; refine dFr.i ?_ (by decide) (by decide)
        rw [e2]; exact hFa.i (by decide) (by decide)
      · rw [e4, dui_o (by decide), e2, dui_o (by decide)]
      · rw [g21]
        show sm (fz (upd (qa.1 21) t v)) t + fz (upd (qa.1 21) t v) t = _
        rw [fz_e, sm_same t (fun k hk => fz_o (by omega))]
    intro y0 hy
    unfold zX10_laysDist_40 zX10_laysDist_56 zX10_laysDist_71 zX10_laysDist_89
    rcases hy with e | ⟨e, hth⟩
    · subst e
      rw [if_pos rfl]
      refine dOk_G (dg_ok (by omega) (by omega)) (dOk_L (fun q2 e2 => ?_))
      rw [nt] at e2
      rw [if_pos rfl]
      refine dOk_G (dg_ok (by omega) (by omega)) (dOk_L (fun q4 e4 => ?_))
      rw [nt] at e4
      rw [if_pos rfl]
      obtain ⟨s1, s2, s3, s4, s5⟩ := hst 1000000 0 (by decide) (by decide) q2 q4 e2 e4
      rw [if_pos rfl] at s5
      refine hk (q4, nI n, nI t + 1) ⟨s1, s2, n, t + 1, rfl, nI_1 t, by omega, ?_, ?_, ?_⟩ ?_
      · show n + sm (fz (q4.1 21)) (t + 1) ≤ t + 1
        omega
      · show ∀ j : Nat, j < n → 0 ≤ (q4.1 23 j).toInt ∧ (q4.1 23 j).toInt < ((t + 1 : Nat) : Int) ∧ q4.1 21 (q4.1 23 j).toInt.toNat = 0 ∧ ths N0 (q4.1 23 j).toInt.toNat
        intro j hj
        obtain ⟨z1, z2, z3, z4⟩ := hq j hj
        rw [s4, s3]
        refine ⟨z1, by omega, ?_, z4⟩
        rw [show upd (qa.1 21) t 1000000 (qa.1 23 j).toInt.toNat = qa.1 21 (qa.1 23 j).toInt.toNat from if_neg (by omega)]
        exact z3
      · show ∀ u : Nat, u < t + 1 → ¬ q4.1 21 u = 1000000 → ths N0 u ∧ q4.1 21 u = 0
        intro u hu hd
        rw [s3] at hd ⊢
        by_cases cu : u = t
        · exact absurd (show upd (qa.1 21) t 1000000 u = 1000000 from if_pos cu) hd
        · rw [show upd (qa.1 21) t 1000000 u = qa.1 21 u from if_neg cu] at hd ⊢
          exact hz u (by omega) hd
      · show (46080 - Int32.toInt (nI t + 1)).toNat < (46080 - Int32.toInt (nI t)).toNat
        omega
    · subst e
      rw [if_neg (by decide)]
      refine dOk_G (dg_ok (by omega) (by omega)) (dOk_L (fun q2 e2 => ?_))
      rw [nt] at e2
      rw [if_neg (by decide)]
      refine dOk_G (dg_ok (by omega) (by omega)) (dOk_L (fun q4 e4 => ?_))
      rw [nt] at e4
      rw [if_neg (by decide)]
      obtain ⟨s1, s2, s3, s4, s5⟩ := hst 0 1 (by decide) (by decide) q2 q4 e2 e4
      rw [if_neg (by decide)] at s5
      refine dOk_G (dg_ok (by omega) (by omega)) (dOk_L (fun q6 e6 => ?_))
      rw [nn] at e6
      refine hk (q6, nI n + 1, nI t + 1) ⟨?_, ?_, n + 1, t + 1, nI_1 n, nI_1 t, by omega, ?_, ?_, ?_⟩ ?_
      · show TS q6
        rw [e6]; exact ts_set s1 (by decide) (show 0 ≤ Int32.toInt (nI t) by omega) (show Int32.toInt (nI t) ≤ 46079 by omega)
      · show dFr [21, 22, 23] [] q3 q6
        rw [e6]; exact s2.i (by decide) (by decide)
      · show n + 1 + sm (fz (q6.1 21)) (t + 1) ≤ t + 1
        rw [e6, dui_o (by decide)]
        omega
      · show ∀ j : Nat, j < n + 1 → 0 ≤ (q6.1 23 j).toInt ∧ (q6.1 23 j).toInt < ((t + 1 : Nat) : Int) ∧ q6.1 21 (q6.1 23 j).toInt.toNat = 0 ∧ ths N0 (q6.1 23 j).toInt.toNat
        intro j hj
        have g6 : q6.1 21 = upd (qa.1 21) t 0 := by rw [e6, dui_o (by decide)]; exact s3
        rcases Nat.lt_or_ge j n with z | z
        · obtain ⟨z1, z2, z3, z4⟩ := hq j z
          have u6 : q6.1 23 j = qa.1 23 j := by rw [e6, dui_n (by omega), s4]
          rw [u6, g6]
          refine ⟨z1, by omega, ?_, z4⟩
          rw [show upd (qa.1 21) t 0 (qa.1 23 j).toInt.toNat = qa.1 21 (qa.1 23 j).toInt.toNat from if_neg (by omega)]
          exact z3
        · have : j = n := by omega
          subst this
          have u6 : q6.1 23 j = nI t := by rw [e6, dui_e]
          rw [u6, g6]
          refine ⟨by omega, by omega, ?_, ?_⟩
          · rw [tt]
            exact if_pos (by omega)
          · rw [tt, show ((t : Nat) : Int).toNat = t by omega]; exact hth
      · show ∀ u : Nat, u < t + 1 → ¬ q6.1 21 u = 1000000 → ths N0 u ∧ q6.1 21 u = 0
        intro u hu hd
        have g6 : q6.1 21 = upd (qa.1 21) t 0 := by rw [e6, dui_o (by decide)]; exact s3
        rw [g6] at hd ⊢
        by_cases cu : u = t
        · exact ⟨by rw [cu]; exact hth, if_pos cu⟩
        · rw [show upd (qa.1 21) t 0 u = qa.1 21 u from if_neg cu] at hd ⊢
          exact hz u (by omega) hd
      · show (46080 - Int32.toInt (nI t + 1)).toNat < (46080 - Int32.toInt (nI t)).toNat
        omega
  obtain ⟨tta, -⟩ := tq qa hFa
  refine dOk_B (ok_isThere2 qa N0 t hN6 (by omega) tta.1 tta.2.1) (fun r1 qb hb => ?_)
  have eb : qb = qa := hb.1
  have hb2 : r1 = 0 ∨ (r1 = 1 ∧ ths N0 t) := hb.2
  subst eb
  unfold zX10_laysDist_39
  refine dOk_eq rfl rfl (fun _ _ => h40 0 (Or.inl rfl)) (fun c1 _ => ?_)
  have hth : ths N0 t := by
    rcases hb2 with z | z
    · exact absurd z c1
    · exact z.2
  refine dOk_B (ok_isOrdered qb (nI t) hTa (by omega)) (fun r4 qc hc => ?_)
  have ec : qc = qb := hc.1
  subst ec
  exact dOk_eq rfl rfl (fun _ _ => h40 0 (Or.inl rfl)) (fun _ _ => h40 1 (Or.inr ⟨rfl, hth⟩))
end
section
/-! fewest: a turn that comes closer is found; compare -/
set_option maxHeartbeats 4000000 in
theorem ok_fewest (q : dS) (p1 : Int32) (hT : TS q) : dOk (zX10_fewest q p1) (fun (o : Int32 × dS) => TS o.2 ∧ dFr [12, 16, 17, 18, 19, 20, 21, 22, 23] [22, 23, 24, 25, 37, 38] q o.2) := by
  have fs : 0 ≤ Int32.toInt (q.1 2 29) ∧ Int32.toInt (q.1 2 29) ≤ 6 := hT.1 2 29
  obtain ⟨N0, eN, hN, -⟩ := ti_nI fs.1
  have hNq : (q.1 2 29).toInt = (N0 : Int) := hN.symm
  have hN6 : N0 ≤ 6 := by omega
  have hfac := facN_le N0 hN6
  have tm1 : Int32.toInt (-1) = -1 := by decide
  unfold zX10_fewest
  refine dOk_le tm1 rfl (fun c => ?_) (fun c => dOk_some ⟨hT, dFr.rf⟩)
  refine dOk_V (ok_laysDist2 q N0 hT hNq) (fun q3 h3 => ?_)
  obtain ⟨hT3, hF3, tt3, hG3⟩ := h3
  refine dOk_B (ok_towerNow q3 hT3) (fun r4 q6 h6 => ?_)
  obtain ⟨hT6, hF6, hr40, hr41⟩ := h6
  replace hT6 : TS q6 := hT6
  replace hF6 : dFr [19] [] q3 q6 := hF6
  replace hr40 : 0 ≤ Int32.toInt r4 ∧ Int32.toInt r4 ≤ 46079 := hr40
  replace hr41 : Int32.toInt r4 < 64 * facI (Int32.toInt (q3.1 2 29)) := hr41
  have hN3 : (q3.1 2 29).toInt = (N0 : Int) := by rw [hF3.1 2 (by decide) (by decide)]; exact hNq
  rw [hN3, facI_N hN6] at hr41
  have hFq6 : dFr [12, 16, 17, 18, 19, 20, 21, 22, 23] [22, 23, 24, 25, 37, 38] q q6 := hF3.t hF6 (by decide) (by decide)
  have tt6 : tabs q6 N0 := tabs_keep tt3 (hF6.2 37 (by decide)) (hF6.2 38 (by decide)) (hF6.1 16 (by decide) (by decide)) (hF6.1 17 (by decide) (by decide)) (hF6.1 18 (by decide) (by decide))
  have hp6 : prV q6 N0 = prV q3 N0 := by
    funext u k
    unfold prV
    rw [hF6.1 20 (by decide) (by decide)]
  have hG6 : Gq (prV q6 N0) N0 (q6.1 21) := by rw [hp6, hF6.1 21 (by decide) (by decide)]; exact hG3
  have hNb : (q6.1 2 29).toInt = (N0 : Int) := by rw [hF6.1 2 (by decide) (by decide)]; exact hN3
  obtain ⟨u0, eu0, hu0, -⟩ := ti_nI hr40.1
  have n4 : Int32.toNatClampNeg r4 = u0 := by
    have : Int32.toNatClampNeg r4 = (Int32.toInt r4).toNat := rfl
    omega
  have h32 : dOk (zX10_fewest_32 q6 r4) (fun (o : Int32 × dS) => TS o.2 ∧ dFr [12, 16, 17, 18, 19, 20, 21, 22, 23] [22, 23, 24, 25, 37, 38] q o.2) := by
    unfold zX10_fewest_32 zX10_fewest_53
    refine dOk_G (dg_ok (by omega) (by omega)) (dOk_L (fun v2 _ => ?_))
    exact dOk_eq rfl rfl (fun _ _ => dOk_some ⟨hT6, hFq6⟩) (fun _ _ => dOk_G (dg_ok (by omega) (by omega)) (dOk_L (fun v4 _ => dOk_some ⟨hT6, hFq6⟩)))
  refine dOk_G (dg_ok (by omega) (by omega)) (dOk_L (fun v8 e8 => ?_))
  rw [n4] at e8
  refine dOk_eq rfl rfl (fun _ _ => h32) (fun c8 _ => ?_)
  refine dOk_eq rfl rfl (fun _ _ => h32) (fun c9 _ => ?_)
  refine dOk_G (dg_ok (by omega) (by omega)) (dOk_L (fun v10 e10 => ?_))
  rw [n4] at e10
  refine dOk_lt rfl rfl (fun c10 => ?_) (fun _ => dOk_some ⟨hT6, hFq6⟩)
  have hd0 : ¬ q6.1 21 u0 = 1000000 := by rw [← e8]; exact c8
  have f10 : 0 ≤ Int32.toInt v10 ∧ Int32.toInt v10 ≤ 1000000 := by rw [e10]; exact hT6.1 21 u0
  have t00 : Int32.toInt 0 = 0 := by decide
  unfold zX10_fewest_71
  refine dFix_ok (fun (a : dS × Int32 × Int32 × Int32 × Int32) => a.1 = q6 ∧ a.2.1 = p1 ∧ ∃ u m : Nat, a.2.2.1 = nI u ∧ u < 64 * facN N0 ∧ a.2.2.2.2 = nI m ∧ (m : Int) ≤ Int32.toInt p1 + 1 ∧ (q6.1 21 u).toInt + (m : Int) = Int32.toInt v10 ∧ ¬ q6.1 21 u = 1000000) (fun (a : dS × Int32 × Int32 × Int32 × Int32) => (Int32.toInt p1 + 1 - Int32.toInt a.2.2.2.2).toNat) ?_ _ ⟨rfl, rfl, u0, 0, eu0, by omega, rfl, by omega, by rw [e10]; omega, hd0⟩ _ (dF_gt (by show (Int32.toInt p1 + 1 - Int32.toInt 0).toNat < 1000000000000; omega))
  intro a ha k71 hk71
  obtain ⟨qa, x1, x2, x3, x4⟩ := a
  obtain ⟨a0, a1, u, m, a2, hu, a4, hm, hdm, hd⟩ := ha
  replace a0 : qa = q6 := a0
  replace a1 : x1 = p1 := a1
  replace a2 : x2 = nI u := a2
  replace a4 : x4 = nI m := a4
  subst a0 a1 a2 a4
  have tm : Int32.toInt (nI m) = (m : Int) := nI_toInt (by omega)
  have tu : Int32.toInt (nI u) = (u : Int) := nI_toInt (by omega)
  show dOk (zX10_fewest_71b (fun q x1 x2 x3 x4 => k71 (q, x1, x2, x3, x4)) qa x1 (nI u) x3 (nI m)) _
  unfold zX10_fewest_71b
  refine dOk_lt rfl tm (fun _ => dOk_some ⟨hT6, hFq6⟩) (fun c => ?_)
  have fu : 0 ≤ Int32.toInt (qa.1 21 u) ∧ Int32.toInt (qa.1 21 u) ≤ 1000000 := hT6.1 21 u
  obtain ⟨hth, hor⟩ := hG6 u hu hd
  rcases hor with z | ⟨t, kw, k1, k2, tth, hb, hpk, htd, hdt⟩
  · rw [z] at hdm; omega
  have hinv := (bh_inv hN6 tth k1 k2).2
  rw [hb] at hinv
  unfold zX10_fewest_79
  refine dFix_ok (fun (b : dS × Int32 × Int32 × Int32 × Int32) => b.1 = qa ∧ b.2.1 = x1 ∧ b.2.2.1 = nI u ∧ b.2.2.2.2 = nI m ∧ ∃ k : Nat, b.2.2.2.1 = nI k ∧ 1 ≤ k ∧ k ≤ kw) (fun (b : dS × Int32 × Int32 × Int32 × Int32) => (7 - Int32.toInt b.2.2.2.1).toNat) ?_ _ ⟨rfl, rfl, rfl, rfl, 1, rfl, by omega, by omega⟩ _ (dF_gt (by show (7 - Int32.toInt 1).toNat < 1000000000000; decide))
  intro b hb' k79 hk79
  obtain ⟨qb, y1, y2, y3, y4⟩ := b
  obtain ⟨b0, b1, b2, b4, k, b3, hk1, hkw⟩ := hb'
  replace b0 : qb = qa := b0
  replace b1 : y1 = x1 := b1
  replace b2 : y2 = nI u := b2
  replace b4 : y4 = nI m := b4
  replace b3 : y3 = nI k := b3
  subst b0 b1 b2 b4 b3
  have tk : Int32.toInt (nI k) = (k : Int) := nI_toInt (by omega)
  have hkN : k ≤ N0 := by omega
  have hbi := bh_inv hN6 hth hk1 hkN
  have hbl := ths_lt hN6 hbi.1
  show dOk (zX10_fewest_79b (fun q x1 x2 x3 x4 => k71 (q, x1, x2, x3, x4)) (fun q x1 x2 x3 x4 => k79 (q, x1, x2, x3, x4)) qb y1 (nI u) (nI k) (nI m)) _
  have h111 : k < kw → dOk (zX10_fewest_111 (fun q x1 x2 x3 x4 => k71 (q, x1, x2, x3, x4)) (fun q x1 x2 x3 x4 => k79 (q, x1, x2, x3, x4)) qb y1 (nI u) (nI k) (nI m)) (fun (o : Int32 × dS) => TS o.2 ∧ dFr [12, 16, 17, 18, 19, 20, 21, 22, 23] [22, 23, 24, 25, 37, 38] q o.2) := by
    intro hlt
    unfold zX10_fewest_111
    have t1 : Int32.toInt (nI k + 1) = (k : Int) + 1 := ti_add tk (by decide) (by omega) (by omega)
    refine hk79 (qb, y1, nI u, nI k + 1, nI m) ⟨rfl, rfl, rfl, rfl, k + 1, nI_1 k, by omega, by omega⟩ ?_
    show (7 - Int32.toInt (nI k + 1)).toNat < (7 - Int32.toInt (nI k)).toNat
    omega
  unfold zX10_fewest_79b
  refine dOk_B (ok_priceOf2 qb N0 u k hT6 hNb tt6 hth hk1 hkN) (fun r1 q9 h9 => ?_)
  have e9 : q9 = qb := h9.1
  have er1 : r1 = prV qb N0 u k := h9.2
  subst e9
  refine dOk_eq rfl rfl (fun c1 _ => h111 ?_) (fun _ _ => ?_)
  · rcases Nat.lt_or_ge k kw with z | z
    · exact z
    · have : k = kw := by omega
      subst this
      exact absurd (er1.symm.trans c1) hpk
  refine dOk_B (ok_behind2 q9 N0 u k hN6 tt6 hth hk1 hkN) (fun r5 q10 h10 => ?_)
  have e10' : q10 = q9 := h10.1
  have er5 : r5 = nI (bhN N0 u k) := h10.2
  subst e10' er5
  have tb : Int32.toInt (nI (bhN N0 u k)) = ((bhN N0 u k : Nat) : Int) := nI_toInt (by omega)
  refine dOk_G (dg_ok (by omega) (by omega)) (dOk_L (fun w8 f8 => ?_))
  rw [nI_clamp (by omega)] at f8
  refine dOk_G (dg_ok (by omega) (by omega)) (dOk_L (fun w10 g10 => ?_))
  rw [nI_clamp (by omega)] at g10
  have tw : Int32.toInt (w10 - 1) = Int32.toInt (q10.1 21 u) - 1 := by rw [g10]; exact ti_sub rfl (by decide) (by omega) (by omega)
  refine dOk_eq rfl rfl (fun c2 _ => ?_) (fun c2 _ => h111 ?_)
  · refine dOk_B (ok_behind2 q10 N0 u k hN6 tt6 hth hk1 hkN) (fun r11 q13 h13 => ?_)
    have e13 : q13 = q10 := h13.1
    have er11 : r11 = nI (bhN N0 u k) := h13.2
    subst e13 er11
    have hw8 : Int32.toInt (q13.1 21 (bhN N0 u k)) = Int32.toInt (q13.1 21 u) - 1 := by rw [← f8, c2]; exact tw
    have t1 : Int32.toInt (nI m + 1) = (m : Int) + 1 := ti_add tm (by decide) (by omega) (by omega)
    refine hk71 (q13, y1, nI (bhN N0 u k), nI k, nI m + 1) ⟨rfl, rfl, bhN N0 u k, m + 1, rfl, hbl.1, nI_1 m, by omega, ?_, ?_⟩ ?_
    · show (q13.1 21 (bhN N0 u k)).toInt + ((m + 1 : Nat) : Int) = Int32.toInt v10
      omega
    · intro z
      rw [z] at hw8
      have : Int32.toInt 1000000 = 1000000 := by decide
      omega
    · show (Int32.toInt y1 + 1 - Int32.toInt (nI m + 1)).toNat < (Int32.toInt y1 + 1 - Int32.toInt (nI m)).toNat
      omega
  · rcases Nat.lt_or_ge k kw with z | z
    · exact z
    · have : k = kw := by omega
      subst this
      refine absurd (Int32.toInt_inj.mp ?_) c2
      rw [tw, f8, hinv]
      omega
theorem ok_compare (q : dS) (p1 : Int32) (hT : TS q) : dOk (zX10_compare q p1) (fun (o : Int32 × dS) => TS o.2 ∧ dFr [12, 16, 17, 18, 19, 20, 21, 22, 23] [22, 23, 24, 25, 37, 38] q o.2) := by
  unfold zX10_compare
  refine dOk_B (ok_isLaw q p1 hT) (fun r1 q3 h3 => ?_)
  obtain ⟨e3, hr⟩ := h3
  replace e3 : q3 = q := e3
  replace hr : (Int32.toInt r1 = 1 ∧ -1 ≤ Int32.toInt p1 ∧ Int32.toInt p1 < Int32.toInt (q.1 2 31)) ∨ (Int32.toInt r1 = 0 ∧ (Int32.toInt p1 < -1 ∨ Int32.toInt (q.1 2 31) ≤ Int32.toInt p1)) := hr
  subst e3
  have t0 : Int32.toInt 0 = 0 := by decide
  refine dOk_eq rfl t0 (fun _ _ => dOk_some ⟨hT, dFr.rf⟩) (fun _ c => ?_)
  have hp : -1 ≤ Int32.toInt p1 ∧ Int32.toInt p1 < Int32.toInt (q3.1 2 31) := by
    rcases hr with z | z
    · exact z.2
    · exact absurd z.1 c
  have ho1 : -1 ≤ Int32.toInt (q3.1 2 32) := (te_k hT 32).1
  have ho2 : Int32.toInt (q3.1 2 32) < Int32.toInt (q3.1 2 31) := hT.2.1.1
  refine dOk_L (fun q4 e4 => ?_)
  have hT4 : TS q4 := by rw [e4]; exact ts_force hT hp.1 hp.2
  refine dOk_B (ok_fewest q4 (-1) hT4) (fun r5 q7 h7 => ?_)
  obtain ⟨hT7, hF7⟩ := h7
  replace hT7 : TS q7 := hT7
  replace hF7 : dFr [12, 16, 17, 18, 19, 20, 21, 22, 23] [22, 23, 24, 25, 37, 38] q4 q7 := hF7
  have e72 : q7.1 2 = upd (q3.1 2) 32 p1 := by rw [hF7.1 2 (by decide) (by decide), e4, dui_s]
  refine dOk_L (fun q8 e8 => ?_)
  refine dOk_some ⟨?_, ?_, ?_⟩
  · show TS q8
    rw [e8]
    refine ts_force hT7 ho1 ?_
    rw [e72, show upd (q3.1 2) 32 p1 31 = q3.1 2 31 from if_neg (by decide)]
    exact ho2
  · show ∀ j : Nat, j ∉ [12, 16, 17, 18, 19, 20, 21, 22, 23] → j ≠ 0 → q8.1 j = q3.1 j
    intro j hj h0
    by_cases c2 : j = 2
    · subst c2
      rw [e8, dui_s, e72]
      funext i
      by_cases ci : i = 32
      · subst ci; exact if_pos rfl
      · show (if i = 32 then q3.1 2 32 else upd (q3.1 2) 32 p1 i) = q3.1 2 i
        rw [if_neg ci]; exact if_neg ci
    · rw [e8, dui_o c2, hF7.1 j hj h0, e4, dui_o c2]
  · show ∀ k : Nat, k ∉ [22, 23, 24, 25, 37, 38] → q8.1 0 k = q3.1 0 k
    intro k hk
    rw [e8, dui_o (by decide), hF7.2 k hk, e4, dui_o (by decide)]
end
section
/-! THE CLAIM OUT OF ONE WALK OF THE LAW'S BODY. Your part is whole_start (and what it stands on); all else here is the same for every law, but numbers. -/
def R_law : String := "TurnedFloorsLaw"
def lw_P (b : Addr) (xs : List Int32) (args : Array Value) (s : State) : Prop := args = #[.ref b] ∧ s.IntsAt b xs ∧ xs.length ≤ 384 ∧ (Jvm.Cond.and given_1 narrow_1).before args s = true
def lw_Q (_ : Array Value) (s : State) (o : Outcome) (t : State) : Prop := o = .returned (some (.int 1)) ∧ Framed s o t [] 600000 7302250
def lw_Z (below : List Frame) (a : Array Value) (s : State) : State → Prop := fun t => ∃ o, t.status = .running ∧ Ended t below o ∧ lw_Q a s o t
/-- the law's own end, with 1 on the stack, nothing written that was there before, its room as the claim has it -/
theorem lw_ret {p : Program} {l : Launch} {e : Env} {s : State} {m : MethodId} {below : List Frame} {meth : Method} {c : Code} {b : Nat} (hx : p.tables.exec = Jvm.exec) (hb : c.code = code) (hr : meth.sig.returnType = ret) (hlocks : meth.locks = false) {pc : Nat} {H : Heap} {ls : Array Slot} (hdg : decode code pc = .ok (.ireturn, 1)) : W p l e room_1 s m #[Value.ref b] below meth c H [] 600000 7302250 (lw_Z below #[Value.ref b] s) (F0 m pc ls [.int 1]) := by
  intro T hT X
  obtain ⟨fs, hret, hrun, hended, hW, hframe⟩ := X.leave (v := some (.int 1)) (hlocks := hlocks) (fun h => by rw [hr] at h; cases h)
  have hmeth' : T.vm.method? m = some meth := X.method'
  refine ⟨T.setFrames fs, ?_, .returned (some (.int 1)), hrun, hended, rfl, ⟨_, rfl⟩, hW, hframe⟩
  jvm_step X.here [X.here.top, hx, hb, hdg, hmeth', hr, ret, narrow_b1]
  (try refine ⟨rfl, ?_⟩); (try refine ⟨rfl, ?_⟩)
  first | (intro acts; rw [hret _ acts rfl rfl rfl]) | rw [hret _ _ rfl rfl rfl]
  exact Steps.refl _
/-- what holds at the law's entry: the machine, the code, the tables' words (any of lw_tbl by 'hts w (by decide +kernel)'), the script of L ints xs at the cell b, what the Statement gives of the start (any of its parts by flat_of_before) -/
def lw_At (p : Program) (s : State) (m : MethodId) (meth : Method) (c : Code) (b L : Nat) (xs : Nat → Int32) : Prop :=
  p.tables.exec = Jvm.exec ∧ c.code = code ∧ meth.sig.returnType = ret ∧ c.maxLocals = 4 ∧ s.vm.findClass R_law = some m.cls ∧ (∀ w ∈ lw_tbl, w.before #[Value.ref b] s = true) ∧ va_X b L xs s s.heap ∧ b < s.heap.size ∧ meth.locks = false ∧ (Jvm.Cond.and given_1 narrow_1).before #[Value.ref b] s = true
end
section
theorem kz_pv1 (i : Nat) (q : MethodName × Nat) (h : lw_privs_1[i]? = some q) : Cond.selects q.1.cls q.1 q.1 ∈ lw_tbl := List.mem_append_left _ (List.mem_map.mpr ⟨q, (List.mem_append_left _ (List.mem_of_getElem? h)), rfl⟩)
theorem kz_pv2 (i : Nat) (q : MethodName × Nat) (h : lw_privs_2[i]? = some q) : Cond.selects q.1.cls q.1 q.1 ∈ lw_tbl := List.mem_append_left _ (List.mem_map.mpr ⟨q, (List.mem_append_right _ (List.mem_append_left _ (List.mem_of_getElem? h))), rfl⟩)
theorem kz_pv3 (i : Nat) (q : MethodName × Nat) (h : lw_privs_3[i]? = some q) : Cond.selects q.1.cls q.1 q.1 ∈ lw_tbl := List.mem_append_left _ (List.mem_map.mpr ⟨q, (List.mem_append_right _ (List.mem_append_right _ (List.mem_append_left _ (List.mem_of_getElem? h)))), rfl⟩)
theorem kz_pv4 (i : Nat) (q : MethodName × Nat) (h : lw_privs_4[i]? = some q) : Cond.selects q.1.cls q.1 q.1 ∈ lw_tbl := List.mem_append_left _ (List.mem_map.mpr ⟨q, (List.mem_append_right _ (List.mem_append_right _ (List.mem_append_right _ (List.mem_append_left _ (List.mem_of_getElem? h))))), rfl⟩)
theorem kz_pv5 (i : Nat) (q : MethodName × Nat) (h : lw_privs_5[i]? = some q) : Cond.selects q.1.cls q.1 q.1 ∈ lw_tbl := List.mem_append_left _ (List.mem_map.mpr ⟨q, (List.mem_append_right _ (List.mem_append_right _ (List.mem_append_right _ (List.mem_append_right _ (List.mem_append_left _ (List.mem_of_getElem? h)))))), rfl⟩)
theorem kz_pv6 (i : Nat) (q : MethodName × Nat) (h : lw_privs_6[i]? = some q) : Cond.selects q.1.cls q.1 q.1 ∈ lw_tbl := List.mem_append_left _ (List.mem_map.mpr ⟨q, (List.mem_append_right _ (List.mem_append_right _ (List.mem_append_right _ (List.mem_append_right _ (List.mem_append_right _ (List.mem_append_left _ (List.mem_of_getElem? h))))))), rfl⟩)
theorem kz_pv7 (i : Nat) (q : MethodName × Nat) (h : lw_privs_7[i]? = some q) : Cond.selects q.1.cls q.1 q.1 ∈ lw_tbl := List.mem_append_left _ (List.mem_map.mpr ⟨q, (List.mem_append_right _ (List.mem_append_right _ (List.mem_append_right _ (List.mem_append_right _ (List.mem_append_right _ (List.mem_append_right _ (List.mem_append_left _ (List.mem_of_getElem? h)))))))), rfl⟩)
theorem kz_pv8 (i : Nat) (q : MethodName × Nat) (h : lw_privs_8[i]? = some q) : Cond.selects q.1.cls q.1 q.1 ∈ lw_tbl := List.mem_append_left _ (List.mem_map.mpr ⟨q, (List.mem_append_right _ (List.mem_append_right _ (List.mem_append_right _ (List.mem_append_right _ (List.mem_append_right _ (List.mem_append_right _ (List.mem_append_right _ (List.mem_append_left _ (List.mem_of_getElem? h))))))))), rfl⟩)
theorem kz_pv9 (i : Nat) (q : MethodName × Nat) (h : lw_privs_9[i]? = some q) : Cond.selects q.1.cls q.1 q.1 ∈ lw_tbl := List.mem_append_left _ (List.mem_map.mpr ⟨q, (List.mem_append_right _ (List.mem_append_right _ (List.mem_append_right _ (List.mem_append_right _ (List.mem_append_right _ (List.mem_append_right _ (List.mem_append_right _ (List.mem_append_right _ (List.mem_of_getElem? h))))))))), rfl⟩)
theorem kz_tb1 (w : Cond) (h : w ∈ tables_1_1) : w ∈ lw_tbl := List.mem_append_right _ (List.mem_append_left _ h)
theorem kz_tb2 (w : Cond) (h : w ∈ tables_1_2) : w ∈ lw_tbl := List.mem_append_right _ (List.mem_append_right _ (List.mem_append_left _ h))
theorem kz_tb3 (w : Cond) (h : w ∈ tables_1_3) : w ∈ lw_tbl := List.mem_append_right _ (List.mem_append_right _ (List.mem_append_right _ (List.mem_append_left _ h)))
theorem kz_tb4 (w : Cond) (h : w ∈ tables_1_4) : w ∈ lw_tbl := List.mem_append_right _ (List.mem_append_right _ (List.mem_append_right _ (List.mem_append_right _ (List.mem_append_left _ h))))
theorem kz_tb5 (w : Cond) (h : w ∈ tables_1_5) : w ∈ lw_tbl := List.mem_append_right _ (List.mem_append_right _ (List.mem_append_right _ (List.mem_append_right _ (List.mem_append_right _ (List.mem_append_left _ h)))))
theorem kz_tb6 (w : Cond) (h : w ∈ tables_1_6) : w ∈ lw_tbl := List.mem_append_right _ (List.mem_append_right _ (List.mem_append_right _ (List.mem_append_right _ (List.mem_append_right _ (List.mem_append_right _ (List.mem_append_left _ h))))))
theorem kz_tb7 (w : Cond) (h : w ∈ tables_1_7) : w ∈ lw_tbl := List.mem_append_right _ (List.mem_append_right _ (List.mem_append_right _ (List.mem_append_right _ (List.mem_append_right _ (List.mem_append_right _ (List.mem_append_right _ (List.mem_append_left _ h)))))))
theorem kz_tb8 (w : Cond) (h : w ∈ tables_1_8) : w ∈ lw_tbl := List.mem_append_right _ (List.mem_append_right _ (List.mem_append_right _ (List.mem_append_right _ (List.mem_append_right _ (List.mem_append_right _ (List.mem_append_right _ (List.mem_append_right _ h)))))))
end
