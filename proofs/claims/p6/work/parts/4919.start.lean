theorem kz_env {args : Array Value} {s : State} (hts : ∀ w ∈ lw_tbl, w.before args s = true) (hgv : (Jvm.Cond.and given_1 narrow_1).before args s = true) : ∃ eo : Nat → Nat, kz_E eo (fun q => s.heap.size ≤ q) s s.heap := by
  have hs := flat_of_before _ hgv
  have hA : ∀ a : Nat, a < s.heap.size → ¬ s.heap.size ≤ a := fun a h => by omega
  obtain ⟨t0, e0, hT0⟩ := va_Tof (tm := .static "TurnedFloors$Paper" "FACTORIALS" "[I") (ty := .int) (N := 7) (f := fun j => .int (([1, 1, 2, 6, 24, 120, 720] : List Int32).getD j 0)) (A := fun q => s.heap.size ≤ q) (by decide) (hs (.arrayOf (.static "TurnedFloors$Paper" "FACTORIALS" "[I") .int) (kz_wr (kz_wl (kz_wl (kz_wl (kz_wl (kz_wl (kz_wr (kz_wr (kz_wr (kz_wr kz_lfA))))))))))) (va_eqt (hs (.eq (.length (.static "TurnedFloors$Paper" "FACTORIALS" "[I")) (.int 7)) (kz_wr (kz_wl (kz_wl (kz_wl (kz_wl (kz_wr (kz_wl (kz_wl (kz_wl kz_lfE))))))))))) (fun j hj => va_eqt (hs _ (kz_f7 j hj))) hA
  have hZ0 := va_Zref (hts (.laysStatic "TurnedFloors$Paper" "FACTORIALS" "[I") (kz_tb4 _ (List.mem_of_getElem? (i := 162) rfl))) (hts (.initialized "TurnedFloors$Paper") (kz_tb1 _ (List.mem_of_getElem? (i := 10) rfl))) e0 hA
  have hZ1 := va_Zof (hts (.laysStatic "java/lang/String" "COMPACT_STRINGS" "Z") (kz_tb3 _ (List.mem_of_getElem? (i := 127) rfl))) (hts (.initialized "java/lang/String") (kz_tb1 _ (List.mem_of_getElem? (i := 13) rfl))) (va_eqi (hs (.eq (.static "java/lang/String" "COMPACT_STRINGS" "Z") (.int 1)) (kz_wr (kz_wl (kz_wl (kz_wl (kz_wl (kz_wl (kz_wl (kz_wr (kz_wl kz_lfE))))))))))) hA
  obtain ⟨adK, adV, hSt, hev⟩ := vk_Sof (N := 12) (tm := kz_tm) (len := kzLen) (byt := kzByt) (A := fun q => s.heap.size ≤ q) (by decide) (fun i hi => hs _ (kz_f1 i hi)) (fun i hi => hs _ (kz_f2 i hi)) (fun i hi => hs _ (kz_f3 i hi)) (fun i hi => hs _ (kz_f4 i hi)) (fun i hi j hj => hs _ (kz_f5 i hi j hj)) (fun i j hi hj hn => (kz_f6 i hi j hj hn).imp (fun h => hs _ h) (fun h => hs _ h)) hA
  have hZq := va_Zqof (A := fun q => s.heap.size ≤ q) (hts (.laysStatic "jdk/internal/util/Preconditions" "SIOOBE_FORMATTER" "Ljava/util/function/BiFunction;") (kz_tb3 _ (List.mem_of_getElem? (i := 143) rfl))) (hts (.initialized "jdk/internal/util/Preconditions") (kz_tb1 _ (List.mem_of_getElem? (i := 15) rfl))) (hs (.isRef (.static "jdk/internal/util/Preconditions" "SIOOBE_FORMATTER" "Ljava/util/function/BiFunction;")) (kz_wr (kz_wl (kz_wl (kz_wl (kz_wl (kz_wl (kz_wl (kz_wr (kz_wr kz_lfR)))))))))) hA
  have hFm : kz_F (fun q => s.heap.size ≤ q) s s.heap := by
    rcases hZq with h | ⟨t, h⟩
    · exact ⟨.null, Or.inl rfl, h⟩
    · exact ⟨.ref t, Or.inr ⟨t, rfl⟩, h⟩
  refine ⟨fun k => if k = 0 then t0 else if k < 20 then adK (k - 1) else adV (k - 20), hZ0, hT0, hZ1, ⟨fun i hi => ?_, fun i j hi hj he => ?_⟩, fun i hi => ?_, hFm⟩
  · have h := hSt.1 i hi
    have q1 : ¬ 1 + i = 0 := by omega
    have q2 : 1 + i < 20 := by omega
    have q3 : ¬ 20 + i = 0 := by omega
    have q4 : ¬ 20 + i < 20 := by omega
    have q5 : 1 + i - 1 = i := by omega
    have q6 : 20 + i - 20 = i := by omega
    simp only [if_neg q1, if_pos q2, if_neg q3, if_neg q4, q5, q6]
    exact h
  · have q1 : ¬ 1 + i = 0 := by omega
    have q2 : 1 + i < 20 := by omega
    have q3 : ¬ 1 + j = 0 := by omega
    have q4 : 1 + j < 20 := by omega
    have q5 : 1 + i - 1 = i := by omega
    have q6 : 1 + j - 1 = j := by omega
    simp only [if_neg q1, if_pos q2, if_neg q3, if_pos q4, q5, q6] at he
    exact hSt.2 i j hi hj he
  · have q1 : ¬ 1 + i = 0 := by omega
    have q2 : 1 + i < 20 := by omega
    have q5 : 1 + i - 1 = i := by omega
    simp only [if_neg q1, if_pos q2, q5]
    exact vk_R.of (hts _ (kz_f8 i hi)) (hev i hi)
theorem kz_start {args : Array Value} {s : State} (hts : ∀ w ∈ lw_tbl, w.before args s = true) (hgv : (Jvm.Cond.and given_1 narrow_1).before args s = true) : ∃ (D : va_G) (ty : Nat → ClassId) (eo : Nat → Nat), va_K D vwCl (kzT ty) s ∧ kz_N s ∧ kz_E eo (fun q => s.heap.size ≤ q) s s.heap := by
  obtain ⟨D, ty, hK⟩ := kz_Kof hts
  obtain ⟨eo, hE⟩ := kz_env hts hgv
  exact ⟨D, ty, eo, hK, kz_Nof hts, hE⟩

