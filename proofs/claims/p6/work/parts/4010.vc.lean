set_option maxHeartbeats 4000000 in
set_option maxRecDepth 100000 in
theorem ok_lies (p1 : Int32) (p2 : Int32) (p3 : Int32) : dOk (zX10_lies p1 p2 p3) (fun (o : Int32) => ((Int32.toInt o = 1 ∧ Int32.toInt p2 ≤ Int32.toInt p1 ∧ Int32.toInt p1 ≤ Int32.toInt p3) ∨ (Int32.toInt o = 0 ∧ (Int32.toInt p1 < Int32.toInt p2 ∨ Int32.toInt p3 < Int32.toInt p1)))) := by
  unfold zX10_lies
  refine dOk_lt (A := Int32.toInt p1) (B := Int32.toInt p2) rfl rfl (fun c_1 => ?_) (fun c_2 => ?_)
  · unfold zX10_lies_14
    unfold zX10_lies_15
    refine dOk_G (dbl_ok (show (0 : Int) = 0 ∨ (0 : Int) = 1 by omega)) ?_
    exact dOk_some (show (((0 : Int) = 1 ∧ Int32.toInt p2 ≤ Int32.toInt p1 ∧ Int32.toInt p1 ≤ Int32.toInt p3) ∨ ((0 : Int) = 0 ∧ (Int32.toInt p1 < Int32.toInt p2 ∨ Int32.toInt p3 < Int32.toInt p1))) from (by omega))
  · refine dOk_lt (A := Int32.toInt p3) (B := Int32.toInt p1) rfl rfl (fun c_3 => ?_) (fun c_4 => ?_)
    · unfold zX10_lies_14
      unfold zX10_lies_15
      refine dOk_G (dbl_ok (show (0 : Int) = 0 ∨ (0 : Int) = 1 by omega)) ?_
      exact dOk_some (show (((0 : Int) = 1 ∧ Int32.toInt p2 ≤ Int32.toInt p1 ∧ Int32.toInt p1 ≤ Int32.toInt p3) ∨ ((0 : Int) = 0 ∧ (Int32.toInt p1 < Int32.toInt p2 ∨ Int32.toInt p3 < Int32.toInt p1))) from (by omega))
    · unfold zX10_lies_15
      refine dOk_G (dbl_ok (show (1 : Int) = 0 ∨ (1 : Int) = 1 by omega)) ?_
      exact dOk_some (show (((1 : Int) = 1 ∧ Int32.toInt p2 ≤ Int32.toInt p1 ∧ Int32.toInt p1 ≤ Int32.toInt p3) ∨ ((1 : Int) = 0 ∧ (Int32.toInt p1 < Int32.toInt p2 ∨ Int32.toInt p3 < Int32.toInt p1))) from (by omega))

set_option maxHeartbeats 4000000 in
set_option maxRecDepth 100000 in
theorem ok_lesser (p1 : Int32) (p2 : Int32) : dOk (zX10_lesser p1 p2) (fun (o : Int32) => (Int32.toInt o ≤ Int32.toInt p1 ∧ Int32.toInt o ≤ Int32.toInt p2 ∧ (Int32.toInt o = Int32.toInt p1 ∨ Int32.toInt o = Int32.toInt p2))) := by
  unfold zX10_lesser
  refine dOk_le (A := Int32.toInt p2) (B := Int32.toInt p1) rfl rfl (fun c_1 => ?_) (fun c_2 => ?_)
  · unfold zX10_lesser_10
    exact dOk_some (show (Int32.toInt p2 ≤ Int32.toInt p1 ∧ Int32.toInt p2 ≤ Int32.toInt p2 ∧ (Int32.toInt p2 = Int32.toInt p1 ∨ Int32.toInt p2 = Int32.toInt p2)) from (by omega))
  · unfold zX10_lesser_10
    exact dOk_some (show (Int32.toInt p1 ≤ Int32.toInt p1 ∧ Int32.toInt p1 ≤ Int32.toInt p2 ∧ (Int32.toInt p1 = Int32.toInt p1 ∨ Int32.toInt p1 = Int32.toInt p2)) from (by omega))

set_option maxHeartbeats 4000000 in
set_option maxRecDepth 100000 in
theorem ok_greater (p1 : Int32) (p2 : Int32) : dOk (zX10_greater p1 p2) (fun (o : Int32) => (Int32.toInt p1 ≤ Int32.toInt o ∧ Int32.toInt p2 ≤ Int32.toInt o ∧ (Int32.toInt o = Int32.toInt p1 ∨ Int32.toInt o = Int32.toInt p2))) := by
  unfold zX10_greater
  refine dOk_le (A := Int32.toInt p1) (B := Int32.toInt p2) rfl rfl (fun c_1 => ?_) (fun c_2 => ?_)
  · unfold zX10_greater_10
    exact dOk_some (show (Int32.toInt p1 ≤ Int32.toInt p2 ∧ Int32.toInt p2 ≤ Int32.toInt p2 ∧ (Int32.toInt p2 = Int32.toInt p1 ∨ Int32.toInt p2 = Int32.toInt p2)) from (by omega))
  · unfold zX10_greater_10
    exact dOk_some (show (Int32.toInt p1 ≤ Int32.toInt p1 ∧ Int32.toInt p2 ≤ Int32.toInt p1 ∧ (Int32.toInt p1 = Int32.toInt p1 ∨ Int32.toInt p1 = Int32.toInt p2)) from (by omega))

set_option maxHeartbeats 4000000 in
set_option maxRecDepth 100000 in
theorem ok_refuses (q : dS) (p1 : Int32) (hT : TS q) (hp0 : (-6) ≤ Int32.toInt p1) (hp1 : Int32.toInt p1 ≤ 0) : dOk (zX10_refuses q p1) (fun (o : Int32 × dS) => (TS o.2) ∧ (dFr [1] [0] q o.2) ∧ (Int32.toInt o.1 = Int32.toInt p1)) := by
  unfold zX10_refuses
  refine dOk_L (fun q_1 eq_1 => ?_)
  have hTq_1 : TS q_1 := by rw [eq_1]; exact ts_f hT (ti_rg _).1 (ti_rg _).2
  have hFq_1 : dFr [1] [0] q q_1 := by rw [eq_1]; exact (dFr.rf (q := q)).f (by decide)
  try have t_2 : Int32.toInt ((-p1)) = -Int32.toInt p1 := ti_neg rfl (by omega) (by omega)
  refine dOk_G (dg_ok (show 0 ≤ Int32.toInt (-p1) by omega) (show Int32.toInt (-p1) < ((7 : Nat) : Int) by omega)) ?_
  have n_3 : ((Int32.toNatClampNeg (-p1) : Nat) : Int) = Int32.toInt (-p1) := cl_eq (by omega)
  refine dOk_L (fun v_4 ev_4 => ?_)
  refine dOk_G (dg_ok (show 0 ≤ Int32.toInt (-p1) by omega) (show Int32.toInt (-p1) < ((7 : Nat) : Int) by omega)) ?_
  refine dOk_L (fun q_5 eq_5 => ?_)
  have hTq_5 : TS q_5 := by rw [eq_5]; exact ts_any hTq_1 rfl
  have hFq_5 : dFr [1] [0] q q_5 := by rw [eq_5]; exact hFq_1.i (by decide) (by decide)
  exact dOk_some (show (TS q_5) ∧ (dFr [1] [0] q q_5) ∧ (Int32.toInt p1 = Int32.toInt p1) from ⟨hTq_5, hFq_5, by omega⟩)

set_option maxHeartbeats 4000000 in
set_option maxRecDepth 100000 in
theorem ok_good (q : dS) (p1 : Int32) (hT : TS q) : dOk (zX10_good q p1) (fun (o : Int32 × dS) => (TS o.2) ∧ (dFr [] [0] q o.2) ∧ (Int32.toInt o.1 = Int32.toInt p1)) := by
  unfold zX10_good
  refine dOk_L (fun q_1 eq_1 => ?_)
  have hTq_1 : TS q_1 := by rw [eq_1]; exact ts_f hT (ti_rg _).1 (ti_rg _).2
  have hFq_1 : dFr [] [0] q q_1 := by rw [eq_1]; exact (dFr.rf (q := q)).f (by decide)
  exact dOk_some (show (TS q_1) ∧ (dFr [] [0] q q_1) ∧ (Int32.toInt p1 = Int32.toInt p1) from ⟨hTq_1, hFq_1, by omega⟩)

set_option maxHeartbeats 4000000 in
set_option maxRecDepth 100000 in
theorem ok_settled (q : dS) (p1 : Int32) (hT : TS q) : dOk (zX10_settled q p1) (fun (o : Int32 × dS) => (TS o.2) ∧ (dFr [] [0, 32] q o.2) ∧ (Int32.toInt o.1 = Int32.toInt p1)) := by
  unfold zX10_settled
  refine dOk_L (fun q_1 eq_1 => ?_)
  have hTq_1 : TS q_1 := by rw [eq_1]; exact ts_f hT (show 0 ≤ (0 : Int) by omega) (show (0 : Int) ≤ 16 by omega)
  have hFq_1 : dFr [] [0, 32] q q_1 := by rw [eq_1]; exact (dFr.rf (q := q)).f (by decide)
  refine dOk_B (ok_good q_1 p1 hTq_1) (fun r_2 q_3 h_4 => ?_)
  replace h_4 : (TS q_3) ∧ (dFr [] [0] q_1 q_3) ∧ (Int32.toInt r_2 = Int32.toInt p1) := h_4
  obtain ⟨i_5, i_6, i_7⟩ := h_4
  have hFq_3 : dFr [] [0, 32] q q_3 := hFq_1.t i_6 (by decide) (by decide)
  exact dOk_some (show (TS q_3) ∧ (dFr [] [0, 32] q q_3) ∧ (Int32.toInt r_2 = Int32.toInt p1) from ⟨i_5, hFq_3, by omega⟩)

set_option maxHeartbeats 4000000 in
set_option maxRecDepth 100000 in
theorem ok_isIn (p1 : Int32) (p2 : Int32) : dOk (zX10_isIn p1 p2) (fun (o : Int32) => ((Int32.toInt o = 0 ∨ Int32.toInt o = 1))) := by
  unfold zX10_isIn
  have t_1 := ti_and1 (p1 >>> ((p2 : Int32) &&& 31))
  refine dOk_eq (A := Int32.toInt (p1 >>> ((p2 : Int32) &&& 31) &&& 1)) (B := 1) rfl (by decide) (fun c_2z c_2 => ?_) (fun c_3z c_3 => ?_)
  · unfold zX10_isIn_14
    refine dOk_G (dbl_ok (show (1 : Int) = 0 ∨ (1 : Int) = 1 by omega)) ?_
    exact dOk_some (show (((1 : Int) = 0 ∨ (1 : Int) = 1)) from (by omega))
  · unfold zX10_isIn_14
    refine dOk_G (dbl_ok (show (0 : Int) = 0 ∨ (0 : Int) = 1 by omega)) ?_
    exact dOk_some (show (((0 : Int) = 0 ∨ (0 : Int) = 1)) from (by omega))

set_option maxHeartbeats 4000000 in
set_option maxRecDepth 100000 in
theorem ok_ones (p1 : Int32) : dOk (zX10_ones p1) (fun (o : Int32) => (0 ≤ Int32.toInt o ∧ Int32.toInt o ≤ 7)) := by
  unfold zX10_ones
  unfold zX10_ones_4
  refine dFix_ok (fun (a : Int32 × Int32 × Int32) => (a.1 = p1) ∧ (0 ≤ Int32.toInt a.2.2) ∧ (Int32.toInt a.2.2 ≤ 7) ∧ (0 ≤ Int32.toInt a.2.1) ∧ (Int32.toInt a.2.1 ≤ Int32.toInt a.2.2)) (fun (a : Int32 × Int32 × Int32) => (7 - Int32.toInt a.2.2).toNat) ?_ _ ?_ _ (dF_gt ?_)
  · intro a ha k_2 hk_1
    obtain ⟨x0_3, x1_4, x2_5⟩ := a
    replace ha : (x0_3 = p1) ∧ (0 ≤ Int32.toInt x2_5) ∧ (Int32.toInt x2_5 ≤ 7) ∧ (0 ≤ Int32.toInt x1_4) ∧ (Int32.toInt x1_4 ≤ Int32.toInt x2_5) := ha
    obtain ⟨a_6, a_7, a_8, a_9, a_10⟩ := ha
    show dOk (zX10_ones_4b  (fun x0 x1 x2 => k_2 (x0, x1, x2)) x0_3 x1_4 x2_5) _
    unfold zX10_ones_4b
    subst x0_3
    refine dOk_le (A := 7) (B := Int32.toInt x2_5) (by decide) rfl (fun c_11 => ?_) (fun c_12 => ?_)
    · exact dOk_some (show (0 ≤ Int32.toInt x1_4 ∧ Int32.toInt x1_4 ≤ 7) from (by omega))
    · have t_13 := ti_and1 (p1 >>> ((x2_5 : Int32) &&& 31))
      try have t_14 : Int32.toInt (x1_4 + (p1 >>> ((x2_5 : Int32) &&& 31) &&& 1)) = Int32.toInt x1_4 + Int32.toInt (p1 >>> ((x2_5 : Int32) &&& 31) &&& 1) := ti_add rfl rfl (by omega) (by omega)
      try have t_15 : Int32.toInt (x2_5 + 1) = Int32.toInt x2_5 + 1 := ti_add rfl (by decide) (by omega) (by omega)
      exact hk_1 (p1, (x1_4 + (p1 >>> ((x2_5 : Int32) &&& 31) &&& 1)), (x2_5 + 1)) (show (p1 = p1) ∧ (0 ≤ Int32.toInt (x2_5 + 1)) ∧ (Int32.toInt (x2_5 + 1) ≤ 7) ∧ (0 ≤ Int32.toInt (x1_4 + (p1 >>> ((x2_5 : Int32) &&& 31) &&& 1))) ∧ (Int32.toInt (x1_4 + (p1 >>> ((x2_5 : Int32) &&& 31) &&& 1)) ≤ Int32.toInt (x2_5 + 1)) from ⟨rfl, by omega, by omega, by omega, by omega⟩) (show (7 - Int32.toInt (x2_5 + 1)).toNat < (7 - Int32.toInt x2_5).toNat by omega)
  · exact (show (p1 = p1) ∧ (0 ≤ (0 : Int)) ∧ ((0 : Int) ≤ 7) ∧ (0 ≤ (0 : Int)) ∧ ((0 : Int) ≤ (0 : Int)) from ⟨rfl, by omega, by omega, by omega, by omega⟩)
  · show (7 - (0 : Int)).toNat < 1000000000000
    omega
