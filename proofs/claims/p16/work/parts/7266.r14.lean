theorem kpj_row {q o : dK} (h : KP q o) : o.1 46 = q.1 46 := funext (fun k => h 46 k (by decide))
theorem ltY_len {q : dK} {q2 : dS} (h : ltY q q2) : 0 ≤ Int32.toInt (q.1 0 12) ∧ Int32.toInt (q.1 0 12) ≤ 400 := by
  obtain ⟨L, l1, l2, -, -⟩ := h
  exact ⟨by omega, by omega⟩
