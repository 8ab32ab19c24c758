set_option maxHeartbeats 4000000 in
set_option maxRecDepth 100000 in
theorem ok_isOrdered (q : dS) (p1 : Int32) (hT : TS q) (hp0 : 0 ≤ Int32.toInt p1) : dOk (zX10_isOrdered q p1) (fun (o : Int32 × dS) => (o.2 = q) ∧ ((Int32.toInt o.1 = 0 ∨ Int32.toInt o.1 = 1))) := by
  unfold zX10_isOrdered
  try have t_1 : Int32.toInt (p1 / 64) = Int32.toInt p1 / 64 := ti_div rfl (by decide) (by omega) (by omega)
  refine dOk_eq (A := Int32.toInt (p1 / 64)) (B := 0) rfl (by decide) (fun c_2z c_2 => ?_) (fun c_3z c_3 => ?_)
  · have f_5 : 0 ≤ Int32.toInt (q.1 2 28) ∧ Int32.toInt (q.1 2 28) ≤ 1 := hT.1 2 28
    refine dOk_eq (A := Int32.toInt (q.1 2 28)) (B := 0) rfl (by decide) (fun c_6z c_6 => ?_) (fun c_7z c_7 => ?_)
    · unfold zX10_isOrdered_24
      unfold zX10_isOrdered_29
      have l_9 : Int32.toInt 1 = 1 := by decide
      refine dOk_G (dbl_ok (show Int32.toInt 1 = 0 ∨ Int32.toInt 1 = 1 by omega)) ?_
      exact dOk_some (show (q = q) ∧ ((Int32.toInt 1 = 0 ∨ Int32.toInt 1 = 1)) from ⟨rfl, by omega⟩)
    · try have t_10 : Int32.toInt (p1 - p1 / 64 * 64) = Int32.toInt p1 % 64 := ti_rem rfl (by decide) (by omega) (by omega)
      refine dOk_eq (A := Int32.toInt (p1 - p1 / 64 * 64)) (B := 0) rfl (by decide) (fun c_11z c_11 => ?_) (fun c_12z c_12 => ?_)
      · unfold zX10_isOrdered_24
        unfold zX10_isOrdered_29
        have l_14 : Int32.toInt 1 = 1 := by decide
        refine dOk_G (dbl_ok (show Int32.toInt 1 = 0 ∨ Int32.toInt 1 = 1 by omega)) ?_
        exact dOk_some (show (q = q) ∧ ((Int32.toInt 1 = 0 ∨ Int32.toInt 1 = 1)) from ⟨rfl, by omega⟩)
      · unfold zX10_isOrdered_28
        unfold zX10_isOrdered_29
        have l_15 : Int32.toInt 0 = 0 := by decide
        refine dOk_G (dbl_ok (show Int32.toInt 0 = 0 ∨ Int32.toInt 0 = 1 by omega)) ?_
        exact dOk_some (show (q = q) ∧ ((Int32.toInt 0 = 0 ∨ Int32.toInt 0 = 1)) from ⟨rfl, by omega⟩)
  · unfold zX10_isOrdered_28
    unfold zX10_isOrdered_29
    have l_16 : Int32.toInt 0 = 0 := by decide
    refine dOk_G (dbl_ok (show Int32.toInt 0 = 0 ∨ Int32.toInt 0 = 1 by omega)) ?_
    exact dOk_some (show (q = q) ∧ ((Int32.toInt 0 = 0 ∨ Int32.toInt 0 = 1)) from ⟨rfl, by omega⟩)
