/-! images: the whole state between two calls -/
theorem m_imgF (q : dS) (p : Int32) : dAll (zX10_image q p) (fun o => ∀ k : Nat, ¬ (k : Int) = Int32.toInt p → o.2.1 4 k = q.1 4 k) := by
  unfold zX10_image
  refine dA_V (m_lies p 0 1 (A := 0) (B := 1) (by decide) (by decide)) (fun r z => ?_)
  rcases z with ⟨z1, z2⟩ | ⟨z1, -⟩
  · rw [if_neg (by rw [z1]; decide)]
    obtain ⟨b, hb⟩ : ∃ b : Nat, Int32.toInt p = (b : Int) := ⟨(Int32.toInt p).toNat, by omega⟩
    refine dA_mono (m_image q p hb (by omega)) (fun o h k hk => ?_)
    rw [h.2.2.1 k, if_neg (by omega)]
  · rw [if_pos z1]
    exact dA_B (m_refuses q (-1)) (fun r1 q3 f => dA_some (fun k _ => f.2.1 4 k (by decide) (by omega)))
theorem rg_image {q : dK} {q2 : dS} (hT : TC q) (R : RG q q2) (p : Int32) : d2 (zX9_image_s0 q p) (zX10_image q2 p) (fun o o2 => o.1 = o2.1 ∧ RG o.2 o2.2) := by
  intro a b ea eb
  obtain ⟨h1, ⟨N, Q, h2⟩, h3⟩ := R
  obtain ⟨f1, f2⟩ := sf_image hT h1 p a b ea eb
  obtain ⟨d1, d2', d3⟩ := dm_image q2 p h2 b eb
  have hf := m_imgF q2 p b eb
  refine ⟨f1, f2, ⟨N, Q, d1⟩, fun k hk hfl => ?_⟩
  by_cases c : (k : Int) = Int32.toInt p
  · exact ⟨N, Q, d3 k hk c⟩
  · rw [hf k c] at hfl
    obtain ⟨N', Q', h4⟩ := h3 k hk hfl
    exact ⟨N', Q', d2' k N' Q' hk c h4⟩
theorem rg_back {q : dK} {q2 : dS} (hT : TC q) (hT2 : TS q2) (R : RG q q2) (p : Int32) : d2 (zX9_back_s0 q p) (zX10_back q2 p) (fun o o2 => o.1 = o2.1 ∧ RG o.2 o2.2) := by
  intro a b ea eb
  have R0 := R
  obtain ⟨h1, ⟨N, Q, h2⟩, h3⟩ := R
  obtain ⟨f1, f2⟩ := sf_back hT h1 p a b ea eb
  have hb := dm_back q2 p h2 (fun k hk _ hf => h3 k hk hf) b eb
  have hd : dFr [1, 2] [0, 32] q2 b.2 := (dA_of (ok_back q2 p hT2) b eb).2
  refine ⟨f1, R0.mk f2 (fun N1 Q1 hm => ?_) (d34 hd (by decide))⟩
  rcases hb.2 with ⟨x, -⟩ | ⟨x1, x2, x3, x4⟩
  · exact ⟨N, Q, x⟩
  · have n := cl_eq (i := p) x1
    obtain ⟨N', Q', h4⟩ := h3 (Int32.toNatClampNeg p) (by omega) x3
    exact ⟨N', Q', x4 N' Q' h4⟩
