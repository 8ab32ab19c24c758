/-! what holds at the law's start: the classes' numbers, the classes of arrays, the nest's words, what stood there -/
theorem kz_known {args : Array Value} {s : State} (hts : ∀ w ∈ lw_tbl, w.before args s = true) : ∃ D : va_G, ∀ (k : Nat) (q : vw_C), vwCl[k]? = some q → u_Kn s q.1 q.2.1 q.2.2 (D.1 k) (D.2 k) := by
  obtain ⟨c0, i0, h0⟩ := u_known (C := RX0) (T := TX0) (N := 6) (n := 6) hts inX0 (hts (.instantiable RX0 6) (kz_tb1 _ (List.mem_of_getElem? (i := 116) rfl)))
  obtain ⟨c1, i1, h1⟩ := u_known (C := RX1) (T := TX1) (N := 3) (n := 3) hts inX1 (hts (.instantiable RX1 3) (kz_tb1 _ (List.mem_of_getElem? (i := 163) rfl)))
  obtain ⟨c2, i2, h2⟩ := u_known (C := RX2) (T := TX2) (N := 2) (n := 2) hts inX2 (hts (.instantiable RX2 2) (kz_tb1 _ (List.mem_of_getElem? (i := 148) rfl)))
  obtain ⟨c3, i3, h3⟩ := u_known (C := RX3) (T := TX3) (N := 20) (n := 20) hts inX3 (hts (.instantiable RX3 20) (kz_tb2 _ (List.mem_of_getElem? (i := 43) rfl)))
  obtain ⟨c4, i4, h4⟩ := u_known (C := RX4) (T := TX4) (N := 11) (n := 11) hts inX4 (hts (.instantiable RX4 11) (kz_tb1 _ (List.mem_of_getElem? (i := 199) rfl)))
  obtain ⟨c5, i5, h5⟩ := u_known (C := RX5) (T := TX5) (N := 4) (n := 4) hts inX5 (hts (.instantiable RX5 4) (kz_tb1 _ (List.mem_of_getElem? (i := 179) rfl)))
  obtain ⟨c6, i6, h6⟩ := u_known (C := RX6) (T := TX6) (N := 10) (n := 10) hts inX6 (hts (.instantiable RX6 10) (kz_tb1 _ (List.mem_of_getElem? (i := 29) rfl)))
  obtain ⟨c7, i7, h7⟩ := u_known (C := RX7) (T := TX7) (N := 8) (n := 8) hts inX7 (hts (.instantiable RX7 8) (kz_tb1 _ (List.mem_of_getElem? (i := 239) rfl)))
  obtain ⟨c8, i8, h8⟩ := u_known (C := RX8) (T := TX8) (N := 5) (n := 5) hts inX8 (hts (.instantiable RX8 5) (kz_tb1 _ (List.mem_of_getElem? (i := 35) rfl)))
  obtain ⟨c9, i9, h9⟩ := u_known (C := RX9) (T := TX9) (N := 19) (n := 19) hts inX9 (hts (.instantiable RX9 19) (kz_tb1 _ (List.mem_of_getElem? (i := 21) rfl)))
  obtain ⟨c10, i10, h10⟩ := u_known (C := RX10) (T := TX10) (N := 56) (n := 56) hts inX10 (hts (.instantiable RX10 56) (kz_tb5 _ (List.mem_of_getElem? (i := 173) rfl)))
  refine ⟨(fun k => if k = 0 then c0 else if k = 1 then c1 else if k = 2 then c2 else if k = 3 then c3 else if k = 4 then c4 else if k = 5 then c5 else if k = 6 then c6 else if k = 7 then c7 else if k = 8 then c8 else if k = 9 then c9 else c10, fun k => if k = 0 then i0 else if k = 1 then i1 else if k = 2 then i2 else if k = 3 then i3 else if k = 4 then i4 else if k = 5 then i5 else if k = 6 then i6 else if k = 7 then i7 else if k = 8 then i8 else if k = 9 then i9 else i10), ?_⟩
  intro k q hq
  match k, hq with
  | 0, hq => cases hq; exact h0
  | 1, hq => cases hq; exact h1
  | 2, hq => cases hq; exact h2
  | 3, hq => cases hq; exact h3
  | 4, hq => cases hq; exact h4
  | 5, hq => cases hq; exact h5
  | 6, hq => cases hq; exact h6
  | 7, hq => cases hq; exact h7
  | 8, hq => cases hq; exact h8
  | 9, hq => cases hq; exact h9
  | 10, hq => cases hq; exact h10
  | k + 11, hq => simp [vwCl] at hq
theorem kz_arr {args : Array Value} {s : State} {t : FieldType} (hp : refKind t = false) (h : (Cond.arrayClass t).before args s = true) : ∃ cA : ClassId, ArrOfT s cA t ∧ va_RA s cA t := by
  obtain ⟨cA, kA, comp, h1, h2, h3⟩ := Cond.arrayClass_spec h
  refine ⟨cA, fun n z => ⟨fun k h => (by cases h), kA, h2, comp, h3⟩, ?_⟩
  cases t <;> first | exact h1 | exact absurd hp (by simp [refKind])
theorem kz_arrO {args : Array Value} {s : State} {C : String} (h : (Cond.arrayOver (.object C)).before args s = true) : ∃ cA : ClassId, ArrOfT s cA (.object C) ∧ va_RA s cA (.object C) := by
  obtain ⟨comp, cA, kA, h1, h2, h3, h4, h5⟩ := Cond.arrayOver_spec h
  exact ⟨cA, fun n z => ⟨fun k h => (by cases h), kA, h3, comp, h4⟩, kA, comp, h3, h4, h1, h5⟩
set_option maxRecDepth 20000 in
theorem kzN1_in : ∀ w ∈ kzN1, w ∈ lw_tbl := (List.forall_mem_cons.mpr ⟨(kz_tb1 _ (List.mem_of_getElem? (i := 30) rfl)), (List.forall_mem_cons.mpr ⟨(kz_tb1 _ (List.mem_of_getElem? (i := 36) rfl)), (List.forall_mem_cons.mpr ⟨(kz_tb1 _ (List.mem_of_getElem? (i := 41) rfl)), (List.forall_mem_cons.mpr ⟨(kz_tb1 _ (List.mem_of_getElem? (i := 42) rfl)), (List.forall_mem_cons.mpr ⟨(kz_tb1 _ (List.mem_of_getElem? (i := 44) rfl)), (List.forall_mem_cons.mpr ⟨(kz_tb1 _ (List.mem_of_getElem? (i := 45) rfl)), (List.forall_mem_cons.mpr ⟨(kz_tb1 _ (List.mem_of_getElem? (i := 47) rfl)), (List.forall_mem_cons.mpr ⟨(kz_tb1 _ (List.mem_of_getElem? (i := 48) rfl)), (List.forall_mem_cons.mpr ⟨(kz_tb1 _ (List.mem_of_getElem? (i := 49) rfl)), (List.forall_mem_cons.mpr ⟨(kz_tb1 _ (List.mem_of_getElem? (i := 51) rfl)), (List.forall_mem_cons.mpr ⟨(kz_tb1 _ (List.mem_of_getElem? (i := 52) rfl)), (List.forall_mem_cons.mpr ⟨(kz_tb1 _ (List.mem_of_getElem? (i := 54) rfl)), (List.forall_mem_cons.mpr ⟨(kz_tb1 _ (List.mem_of_getElem? (i := 55) rfl)), (List.forall_mem_cons.mpr ⟨(kz_tb1 _ (List.mem_of_getElem? (i := 56) rfl)), (List.forall_mem_cons.mpr ⟨(kz_tb1 _ (List.mem_of_getElem? (i := 57) rfl)), (List.forall_mem_cons.mpr ⟨(kz_tb1 _ (List.mem_of_getElem? (i := 58) rfl)), (List.forall_mem_cons.mpr ⟨(kz_tb1 _ (List.mem_of_getElem? (i := 74) rfl)), (List.forall_mem_cons.mpr ⟨(kz_tb1 _ (List.mem_of_getElem? (i := 76) rfl)), (List.forall_mem_cons.mpr ⟨(kz_tb1 _ (List.mem_of_getElem? (i := 78) rfl)), (List.forall_mem_cons.mpr ⟨(kz_tb1 _ (List.mem_of_getElem? (i := 80) rfl)), (List.forall_mem_cons.mpr ⟨(kz_tb1 _ (List.mem_of_getElem? (i := 82) rfl)), (List.forall_mem_cons.mpr ⟨(kz_tb1 _ (List.mem_of_getElem? (i := 84) rfl)), (List.forall_mem_cons.mpr ⟨(kz_tb1 _ (List.mem_of_getElem? (i := 86) rfl)), (List.forall_mem_cons.mpr ⟨(kz_tb1 _ (List.mem_of_getElem? (i := 88) rfl)), (List.forall_mem_cons.mpr ⟨(kz_tb1 _ (List.mem_of_getElem? (i := 90) rfl)), (List.forall_mem_cons.mpr ⟨(kz_tb1 _ (List.mem_of_getElem? (i := 92) rfl)), (List.forall_mem_cons.mpr ⟨(kz_tb1 _ (List.mem_of_getElem? (i := 117) rfl)), (List.forall_mem_cons.mpr ⟨(kz_tb1 _ (List.mem_of_getElem? (i := 122) rfl)), (List.forall_mem_cons.mpr ⟨(kz_tb1 _ (List.mem_of_getElem? (i := 124) rfl)), (List.forall_mem_cons.mpr ⟨(kz_tb1 _ (List.mem_of_getElem? (i := 126) rfl)), (List.forall_mem_cons.mpr ⟨(kz_tb1 _ (List.mem_of_getElem? (i := 146) rfl)), (List.forall_mem_cons.mpr ⟨(kz_tb1 _ (List.mem_of_getElem? (i := 149) rfl)), (List.forall_mem_cons.mpr ⟨(kz_tb1 _ (List.mem_of_getElem? (i := 155) rfl)), (List.forall_mem_cons.mpr ⟨(kz_tb1 _ (List.mem_of_getElem? (i := 156) rfl)), (List.forall_mem_cons.mpr ⟨(kz_tb1 _ (List.mem_of_getElem? (i := 187) rfl)), (List.forall_mem_cons.mpr ⟨(kz_tb1 _ (List.mem_of_getElem? (i := 200) rfl)), (List.forall_mem_cons.mpr ⟨(kz_tb2 _ (List.mem_of_getElem? (i := 5) rfl)), (List.forall_mem_cons.mpr ⟨(kz_tb2 _ (List.mem_of_getElem? (i := 6) rfl)), (List.forall_mem_cons.mpr ⟨(kz_tb2 _ (List.mem_of_getElem? (i := 8) rfl)), (List.forall_mem_cons.mpr ⟨(kz_tb2 _ (List.mem_of_getElem? (i := 10) rfl)), (List.forall_mem_cons.mpr ⟨(kz_tb2 _ (List.mem_of_getElem? (i := 11) rfl)), (List.forall_mem_cons.mpr ⟨(kz_tb2 _ (List.mem_of_getElem? (i := 13) rfl)), (List.forall_mem_cons.mpr ⟨(kz_tb2 _ (List.mem_of_getElem? (i := 14) rfl)), (List.forall_mem_cons.mpr ⟨(kz_tb2 _ (List.mem_of_getElem? (i := 16) rfl)), (List.forall_mem_cons.mpr ⟨(kz_tb2 _ (List.mem_of_getElem? (i := 17) rfl)), (List.forall_mem_cons.mpr ⟨(kz_tb2 _ (List.mem_of_getElem? (i := 19) rfl)), (List.forall_mem_cons.mpr ⟨(kz_tb2 _ (List.mem_of_getElem? (i := 21) rfl)), (List.forall_mem_cons.mpr ⟨(kz_tb2 _ (List.mem_of_getElem? (i := 22) rfl)), (List.forall_mem_cons.mpr ⟨(kz_tb2 _ (List.mem_of_getElem? (i := 24) rfl)), (List.forall_mem_cons.mpr ⟨(kz_tb2 _ (List.mem_of_getElem? (i := 44) rfl)), (List.forall_mem_cons.mpr ⟨(kz_tb3 _ (List.mem_of_getElem? (i := 15) rfl)), (List.forall_mem_cons.mpr ⟨(kz_tb4 _ (List.mem_of_getElem? (i := 57) rfl)), (List.forall_mem_cons.mpr ⟨(kz_tb4 _ (List.mem_of_getElem? (i := 175) rfl)), (fun _ h => absurd h List.not_mem_nil)⟩)⟩)⟩)⟩)⟩)⟩)⟩)⟩)⟩)⟩)⟩)⟩)⟩)⟩)⟩)⟩)⟩)⟩)⟩)⟩)⟩)⟩)⟩)⟩)⟩)⟩)⟩)⟩)⟩)⟩)⟩)⟩)⟩)⟩)⟩)⟩)⟩)⟩)⟩)⟩)⟩)⟩)⟩)⟩)⟩)⟩)⟩)⟩)⟩)⟩)⟩)⟩)⟩)
theorem kz_Nof {args : Array Value} {s : State} (hts : ∀ w ∈ lw_tbl, w.before args s = true) : kz_N s := ⟨fun w hw => va_Nw.of (kzN1_is w hw).2 (hts w (kzN1_in w hw)), va_AO.of (hts (.arrayOver (.object "TurnedFloors$State")) (kz_tb1 _ (List.mem_of_getElem? (i := 114) rfl))), va_AO.of (hts (.arrayOver (.object "TurnedFloors$Text")) (kz_tb1 _ (List.mem_of_getElem? (i := 72) rfl)))⟩
theorem kz_Kof {args : Array Value} {s : State} (hts : ∀ w ∈ lw_tbl, w.before args s = true) : ∃ (D : va_G) (ty : Nat → ClassId), va_K D vwCl (kzT ty) s := by
  obtain ⟨D, hD⟩ := kz_known hts
  obtain ⟨a0, b0, e0⟩ := kz_arr (t := .int) rfl (hts (.arrayClass .int) (kz_tb1 _ (List.mem_of_getElem? (i := 70) rfl)))
  obtain ⟨a1, b1, e1⟩ := kz_arr (t := .long) rfl (hts (.arrayClass .long) (kz_tb1 _ (List.mem_of_getElem? (i := 144) rfl)))
  obtain ⟨a2, b2, e2⟩ := kz_arr (t := .boolean) rfl (hts (.arrayClass .boolean) (kz_tb1 _ (List.mem_of_getElem? (i := 143) rfl)))
  obtain ⟨a3, b3, e3⟩ := kz_arr (t := .byte) rfl (hts (.arrayClass .byte) (kz_tb4 _ (List.mem_of_getElem? (i := 25) rfl)))
  obtain ⟨a4, b4, e4⟩ := kz_arrO (C := "TurnedFloors$State") (hts (.arrayOver (.object "TurnedFloors$State")) (kz_tb1 _ (List.mem_of_getElem? (i := 114) rfl)))
  obtain ⟨a5, b5, e5⟩ := kz_arrO (C := "TurnedFloors$Text") (hts (.arrayOver (.object "TurnedFloors$Text")) (kz_tb1 _ (List.mem_of_getElem? (i := 72) rfl)))
  refine ⟨D, fun k => if k = 0 then a0 else if k = 1 then a1 else if k = 2 then a2 else if k = 3 then a3 else if k = 4 then a4 else a5, hD, ?_⟩
  intro k q hq
  match k, hq with
  | 0, hq => cases hq; exact ⟨b0, e0⟩
  | 1, hq => cases hq; exact ⟨b1, e1⟩
  | 2, hq => cases hq; exact ⟨b2, e2⟩
  | 3, hq => cases hq; exact ⟨b3, e3⟩
  | 4, hq => cases hq; exact ⟨b4, e4⟩
  | 5, hq => cases hq; exact ⟨b5, e5⟩
  | k + 6, hq => simp [kzT] at hq

