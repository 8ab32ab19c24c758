/-! the start: both sides alike -/
theorem RG_st : RG stQ stM := by
  have e31 : Int32.toInt (stM.1 2 31) = 0 := by decide
  have e4 : ∀ k : Nat, k < 2 → Int32.toInt (stM.1 4 k) = 0 := by decide
  refine ⟨⟨⟨⟨by decide, by decide, by decide, by decide⟩, by decide, by decide, by decide, by decide, by decide, by decide, by decide, by decide, fun F _ h => by rw [e31] at h; omega⟩, ⟨0, by decide, by decide, by decide, fun i hi => absurd hi (Nat.not_lt_zero i)⟩, by decide, fun h => absurd (by decide) h, fun h => absurd (by decide) h⟩, HM.z (n := 0) (by decide) (by decide) rfl (fun i j hi _ _ => absurd hi (Nat.not_lt_zero i)), fun k hk h => absurd (e4 k hk) h⟩
