theorem NB_fac {n v : Int} (h : NB n n v) : v < facI n := by
  obtain ⟨h1, h2, h3, h4, h5⟩ := h
  have h6 := nbf_fac n.toNat (by omega)
  unfold facI
  omega
