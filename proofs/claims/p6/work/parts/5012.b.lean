theorem u9_wsX7_init_X7 : ∀ w ∈ u_ws RX7 TX7 8, w ∈ wsX7_init := by
  first | exact fun w h => List.mem_cons_of_mem _ (List.mem_append_right _ h) | decide +kernel
theorem f9_wsX7_init_331 : (Cond.methodLink RX7 1 objectInit) ∈ wsX7_init := by decide +kernel
theorem f9_wsX7_init_332 : (Cond.instanceMethod objectInit) ∈ wsX7_init := by decide +kernel
theorem f9_wsX7_init_333 : (Cond.code objectInit ⟨#[0xb1]⟩ 1 none) ∈ wsX7_init := by decide +kernel
theorem f9_wsX7_init_334 : (Cond.fieldLink RX7 7 "TurnedFloors$Text" "clauses" "I") ∈ wsX7_init := by decide +kernel
theorem f9_wsX7_init_335 : (Cond.fieldLink RX7 13 "TurnedFloors$Text" "length" "I") ∈ wsX7_init := by decide +kernel
theorem f9_wsX7_init_336 : (Cond.arrayClass .int) ∈ wsX7_init := by decide +kernel
theorem f9_wsX7_init_337 : (Cond.fieldLink RX7 16 "TurnedFloors$Text" "kind" "[I") ∈ wsX7_init := by decide +kernel
theorem f9_wsX7_init_338 : (Cond.fieldLink RX7 20 "TurnedFloors$Text" "times" "[I") ∈ wsX7_init := by decide +kernel
theorem f9_wsX7_init_339 : (Cond.fieldLink RX7 23 "TurnedFloors$Text" "sumFrom" "[I") ∈ wsX7_init := by decide +kernel
theorem f9_wsX7_init_340 : (Cond.fieldLink RX7 26 "TurnedFloors$Text" "testFrom" "[I") ∈ wsX7_init := by decide +kernel
theorem f9_wsX7_init_341 : (Cond.fieldLink RX7 29 "TurnedFloors$Text" "testTo" "[I") ∈ wsX7_init := by decide +kernel
theorem f9_wsX7_init_342 : (Cond.fieldLink RX7 32 "TurnedFloors$Text" "code" "[I") ∈ wsX7_init := by decide +kernel
set_option maxHeartbeats 4000000 in
set_option maxRecDepth 100000 in
theorem kX7_initD (l : Launch) (D : va_G) (ty : Nat → ClassId) (eo : Nat → Nat) (sz : Nat) (q_25 : Nat) (n k : Int32) (ns : Nat) (hn : ¬ n < 0) (hk : ¬ k < 0) (hnb : Int32.toNatClampNeg n * 4 ≤ 536870912) (hkb : Int32.toNatClampNeg k * 4 ≤ 536870912) (hsl : 5 * Int32.toNatClampNeg n + Int32.toNatClampNeg k ≤ ns) : Met l yX7_init wsX7_init ({ frames := 1, cells := 6, slots := ns, locals := 20 }) (va_Pc [.ref q_25, .int n, .int k] (kz_pre D ty eo [(q_25, .inr (7, [.null, .null, .null, .null, .null, .null, .int 0, .int 0]))] sz)) (va_Qv (fun (u : va_W) => ∃ q_1 q_2 q_3 q_4 q_5 q_6 : Nat, [(q_25, .inr (7, [.ref q_1, .ref q_2, .ref q_3, .ref q_4, .ref q_5, .ref q_6, .int 0, .int 0])), (q_1, .inl (ty 0, Int32.toNatClampNeg n, .inl (fun _ => 0))), (q_2, .inl (ty 0, Int32.toNatClampNeg n, .inl (fun _ => 0))), (q_3, .inl (ty 0, Int32.toNatClampNeg n, .inl (fun _ => 0))), (q_4, .inl (ty 0, Int32.toNatClampNeg n, .inl (fun _ => 0))), (q_5, .inl (ty 0, Int32.toNatClampNeg n, .inl (fun _ => 0))), (q_6, .inl (ty 0, Int32.toNatClampNeg k, .inl (fun _ => 0)))] = u) (kz_B D ty (va_A [(q_25, .inr (7, [.null, .null, .null, .null, .null, .null, .int 0, .int 0]))] sz)) (va_A [(q_25, .inr (7, [.null, .null, .null, .null, .null, .null, .int 0, .int 0]))] sz)) 6 ns (va_A [(q_25, .inr (7, [.null, .null, .null, .null, .null, .null, .int 0, .int 0]))] sz) := by
  refine Met.ofW (cc := cX7_init) (maxL := 3) (ret := none) (by decide) rfl ?_
  intro p e s m args below meth c s₁ B hml hv
  obtain ⟨rfl, hsz, hP, hK, hD0, hN, hE⟩ := hv
  have hx := B.exec
  have hb := B.bytes
  have hr := B.returns
  have hts := atoms_spec (ws := wsX7_init) B.pre
  have hown : s.vm.findClass RX7 = some m.cls := findClass_of_methodNamed B.named
  have hlocks := B.notSynchronized
  have hin : meth.name = "<init>" := (name_of_methodNamed B.named B.method).1
  subst hsz
  have hD := hD0.self (sz := s.heap.size)
  generalize hAe : va_A [(q_25, .inr (7, [.null, .null, .null, .null, .null, .null, .int 0, .int 0]))] s.heap.size = A at hD hE ⊢
  have hA : ∀ q : Nat, s.heap.size ≤ q → A q := fun q h => by rw [← hAe]; exact Or.inr h
  have hS : va_S A s.heap s.heap [] := va_S.rf
  have hl := lv_entry ([.ref q_25, .int n, .int k]) (n := 3) (Nat.le_of_ble_eq_true rfl)
  rw [lg_entry_eq]
  generalize (lg_sl ([.ref q_25, .int n, .int k]) ++ List.replicate (3 - (lg_sl ([.ref q_25, .int n, .int k])).length) Slot.unset).toArray = ls at hl ⊢
  have hl : lv_has ls 3 [(0, .ref q_25), (1, .int n), (2, .int k)] := hl
  refine lv_aload_n hx hb dX7_init_0 rfl (lv_at hl 0 rfl) ?_
  refine W.objInit hx hb hown (hts (.methodLink RX7 1 objectInit) f9_wsX7_init_331) (hts (.instanceMethod objectInit) f9_wsX7_init_332) (hts (.code objectInit ⟨#[0xb1]⟩ 1 none) f9_wsX7_init_333) rfl (by rw [hml]; exact hl.1) rfl dX7_init_1 (Nat.le_of_ble_eq_true rfl) (Nat.le_of_ble_eq_true rfl) ?_
  refine W.eq (g2 := F0 m 4 ls []) rfl ?_
  refine lv_aload_n hx hb dX7_init_4 rfl (lv_at hl 0 rfl) ?_
  refine lv_iconst (v := 0) hx hb dX7_init_5 (by decide) ?_
  refine va_put (D := D) (ci := 7) (v := .int 0) (ty := .int) (C := RX7) (T := TX7) (N := 8) hx hb hts u9_wsX7_init_X7 tyX7 tyX7_ok nmX7 hown hK hP hD hS 0 rfl rfl 6 (by decide) (hts (.fieldLink RX7 7 "TurnedFloors$Text" "clauses" "I") f9_wsX7_init_334) (fun _ h9 => h9) rfl (by decide +kernel) rfl rfl (Nat.le_of_ble_eq_true rfl) dX7_init_6 (fun H locs hp hd hs => ?_)
  refine kz_re (w2 := [(q_25, .inr (7, [.null, .null, .null, .null, .null, .null, .int 0, .int 0]))]) hp hd hs rfl ?_
  clear hp hd hs hP hD hS
  intro hP hD hS
  refine lv_aload_n hx hb dX7_init_9 rfl (lv_at hl 0 rfl) ?_
  refine lv_iconst (v := 0) hx hb dX7_init_10 (by decide) ?_
  refine va_put (D := D) (ci := 7) (v := .int 0) (ty := .int) (C := RX7) (T := TX7) (N := 8) hx hb hts u9_wsX7_init_X7 tyX7 tyX7_ok nmX7 hown hK hP hD hS 0 rfl rfl 7 (by decide) (hts (.fieldLink RX7 13 "TurnedFloors$Text" "length" "I") f9_wsX7_init_335) (fun _ h9 => h9) rfl (by decide +kernel) rfl rfl (Nat.le_of_ble_eq_true rfl) dX7_init_11 (fun H locs hp hd hs => ?_)
  refine kz_re (w2 := [(q_25, .inr (7, [.null, .null, .null, .null, .null, .null, .int 0, .int 0]))]) hp hd hs rfl ?_
  clear hp hd hs hP hD hS
  intro hP hD hS
  refine lv_aload_n hx hb dX7_init_14 rfl (lv_at hl 0 rfl) ?_
  refine lv_iload_n hx hb dX7_init_15 rfl (lv_at hl 1 rfl) ?_
  refine va_newa (atype := .int) (ty := .int) (N' := Int32.toNatClampNeg n) (a0 := (Int32.toNatClampNeg n, .inl (fun _ => 0))) hx hb (hts (.arrayClass .int) f9_wsX7_init_336) rfl hK hP hD hS hA (fun _ => rfl) hn rfl hnb (Nat.le_of_ble_eq_true rfl) (by dsimp only [headSpec]; omega) dX7_init_16 (fun q_1 cA H hK2 hp hd hs => ?_)
  obtain rfl : cA = ty 0 := kz_cA (t0 := 0) (t1 := 6) hK2 rfl rfl rfl
  refine kz_re (w2 := [(q_25, .inr (7, [.null, .null, .null, .null, .null, .null, .int 0, .int 0])), (q_1, .inl (ty 0, Int32.toNatClampNeg n, .inl (fun _ => 0)))]) hp hd hs rfl ?_
  clear hp hd hs hP hD hS
  intro hP hD hS
  refine va_putF (D := D) (ci := 7) (v := .ref q_1) (ty := .array .int) (C := RX7) (T := TX7) (N := 8) hx hb hts u9_wsX7_init_X7 tyX7 tyX7_ok nmX7 hown hK hP hD hS 0 rfl rfl 0 (by decide) (hts (.fieldLink RX7 16 "TurnedFloors$Text" "kind" "[I") f9_wsX7_init_337) (fun _ h9 => h9) rfl hin rfl (by decide +kernel) rfl rfl (Nat.le_of_ble_eq_true rfl) dX7_init_18 (fun H locs hp hd hs => ?_)
  refine kz_re (w2 := [(q_25, .inr (7, [.ref q_1, .null, .null, .null, .null, .null, .int 0, .int 0])), (q_1, .inl (ty 0, Int32.toNatClampNeg n, .inl (fun _ => 0)))]) hp hd hs rfl ?_
  clear hp hd hs hP hD hS
  intro hP hD hS
  refine lv_aload_n hx hb dX7_init_21 rfl (lv_at hl 0 rfl) ?_
  refine lv_iload_n hx hb dX7_init_22 rfl (lv_at hl 1 rfl) ?_
  refine va_newa (atype := .int) (ty := .int) (N' := Int32.toNatClampNeg n) (a0 := (Int32.toNatClampNeg n, .inl (fun _ => 0))) hx hb (hts (.arrayClass .int) f9_wsX7_init_336) rfl hK hP hD hS hA (fun _ => rfl) hn rfl hnb (Nat.le_of_ble_eq_true rfl) (by dsimp only [headSpec]; omega) dX7_init_23 (fun q_2 cA H hK2 hp hd hs => ?_)
  obtain rfl : cA = ty 0 := kz_cA (t0 := 0) (t1 := 6) hK2 rfl rfl rfl
  refine kz_re (w2 := [(q_25, .inr (7, [.ref q_1, .null, .null, .null, .null, .null, .int 0, .int 0])), (q_1, .inl (ty 0, Int32.toNatClampNeg n, .inl (fun _ => 0))), (q_2, .inl (ty 0, Int32.toNatClampNeg n, .inl (fun _ => 0)))]) hp hd hs rfl ?_
  clear hp hd hs hP hD hS
  intro hP hD hS
  refine va_putF (D := D) (ci := 7) (v := .ref q_2) (ty := .array .int) (C := RX7) (T := TX7) (N := 8) hx hb hts u9_wsX7_init_X7 tyX7 tyX7_ok nmX7 hown hK hP hD hS 0 rfl rfl 1 (by decide) (hts (.fieldLink RX7 20 "TurnedFloors$Text" "times" "[I") f9_wsX7_init_338) (fun _ h9 => h9) rfl hin rfl (by decide +kernel) rfl rfl (Nat.le_of_ble_eq_true rfl) dX7_init_25 (fun H locs hp hd hs => ?_)
  refine kz_re (w2 := [(q_25, .inr (7, [.ref q_1, .ref q_2, .null, .null, .null, .null, .int 0, .int 0])), (q_1, .inl (ty 0, Int32.toNatClampNeg n, .inl (fun _ => 0))), (q_2, .inl (ty 0, Int32.toNatClampNeg n, .inl (fun _ => 0)))]) hp hd hs rfl ?_
  clear hp hd hs hP hD hS
  intro hP hD hS
  refine lv_aload_n hx hb dX7_init_28 rfl (lv_at hl 0 rfl) ?_
  refine lv_iload_n hx hb dX7_init_29 rfl (lv_at hl 1 rfl) ?_
  refine va_newa (atype := .int) (ty := .int) (N' := Int32.toNatClampNeg n) (a0 := (Int32.toNatClampNeg n, .inl (fun _ => 0))) hx hb (hts (.arrayClass .int) f9_wsX7_init_336) rfl hK hP hD hS hA (fun _ => rfl) hn rfl hnb (Nat.le_of_ble_eq_true rfl) (by dsimp only [headSpec]; omega) dX7_init_30 (fun q_3 cA H hK2 hp hd hs => ?_)
  obtain rfl : cA = ty 0 := kz_cA (t0 := 0) (t1 := 6) hK2 rfl rfl rfl
  refine kz_re (w2 := [(q_25, .inr (7, [.ref q_1, .ref q_2, .null, .null, .null, .null, .int 0, .int 0])), (q_1, .inl (ty 0, Int32.toNatClampNeg n, .inl (fun _ => 0))), (q_2, .inl (ty 0, Int32.toNatClampNeg n, .inl (fun _ => 0))), (q_3, .inl (ty 0, Int32.toNatClampNeg n, .inl (fun _ => 0)))]) hp hd hs rfl ?_
  clear hp hd hs hP hD hS
  intro hP hD hS
  refine va_putF (D := D) (ci := 7) (v := .ref q_3) (ty := .array .int) (C := RX7) (T := TX7) (N := 8) hx hb hts u9_wsX7_init_X7 tyX7 tyX7_ok nmX7 hown hK hP hD hS 0 rfl rfl 2 (by decide) (hts (.fieldLink RX7 23 "TurnedFloors$Text" "sumFrom" "[I") f9_wsX7_init_339) (fun _ h9 => h9) rfl hin rfl (by decide +kernel) rfl rfl (Nat.le_of_ble_eq_true rfl) dX7_init_32 (fun H locs hp hd hs => ?_)
  refine kz_re (w2 := [(q_25, .inr (7, [.ref q_1, .ref q_2, .ref q_3, .null, .null, .null, .int 0, .int 0])), (q_1, .inl (ty 0, Int32.toNatClampNeg n, .inl (fun _ => 0))), (q_2, .inl (ty 0, Int32.toNatClampNeg n, .inl (fun _ => 0))), (q_3, .inl (ty 0, Int32.toNatClampNeg n, .inl (fun _ => 0)))]) hp hd hs rfl ?_
  clear hp hd hs hP hD hS
  intro hP hD hS
  refine lv_aload_n hx hb dX7_init_35 rfl (lv_at hl 0 rfl) ?_
  refine lv_iload_n hx hb dX7_init_36 rfl (lv_at hl 1 rfl) ?_
  refine va_newa (atype := .int) (ty := .int) (N' := Int32.toNatClampNeg n) (a0 := (Int32.toNatClampNeg n, .inl (fun _ => 0))) hx hb (hts (.arrayClass .int) f9_wsX7_init_336) rfl hK hP hD hS hA (fun _ => rfl) hn rfl hnb (Nat.le_of_ble_eq_true rfl) (by dsimp only [headSpec]; omega) dX7_init_37 (fun q_4 cA H hK2 hp hd hs => ?_)
  obtain rfl : cA = ty 0 := kz_cA (t0 := 0) (t1 := 6) hK2 rfl rfl rfl
  refine kz_re (w2 := [(q_25, .inr (7, [.ref q_1, .ref q_2, .ref q_3, .null, .null, .null, .int 0, .int 0])), (q_1, .inl (ty 0, Int32.toNatClampNeg n, .inl (fun _ => 0))), (q_2, .inl (ty 0, Int32.toNatClampNeg n, .inl (fun _ => 0))), (q_3, .inl (ty 0, Int32.toNatClampNeg n, .inl (fun _ => 0))), (q_4, .inl (ty 0, Int32.toNatClampNeg n, .inl (fun _ => 0)))]) hp hd hs rfl ?_
  clear hp hd hs hP hD hS
  intro hP hD hS
  refine va_putF (D := D) (ci := 7) (v := .ref q_4) (ty := .array .int) (C := RX7) (T := TX7) (N := 8) hx hb hts u9_wsX7_init_X7 tyX7 tyX7_ok nmX7 hown hK hP hD hS 0 rfl rfl 3 (by decide) (hts (.fieldLink RX7 26 "TurnedFloors$Text" "testFrom" "[I") f9_wsX7_init_340) (fun _ h9 => h9) rfl hin rfl (by decide +kernel) rfl rfl (Nat.le_of_ble_eq_true rfl) dX7_init_39 (fun H locs hp hd hs => ?_)
  refine kz_re (w2 := [(q_25, .inr (7, [.ref q_1, .ref q_2, .ref q_3, .ref q_4, .null, .null, .int 0, .int 0])), (q_1, .inl (ty 0, Int32.toNatClampNeg n, .inl (fun _ => 0))), (q_2, .inl (ty 0, Int32.toNatClampNeg n, .inl (fun _ => 0))), (q_3, .inl (ty 0, Int32.toNatClampNeg n, .inl (fun _ => 0))), (q_4, .inl (ty 0, Int32.toNatClampNeg n, .inl (fun _ => 0)))]) hp hd hs rfl ?_
  clear hp hd hs hP hD hS
  intro hP hD hS
  refine lv_aload_n hx hb dX7_init_42 rfl (lv_at hl 0 rfl) ?_
  refine lv_iload_n hx hb dX7_init_43 rfl (lv_at hl 1 rfl) ?_
  refine va_newa (atype := .int) (ty := .int) (N' := Int32.toNatClampNeg n) (a0 := (Int32.toNatClampNeg n, .inl (fun _ => 0))) hx hb (hts (.arrayClass .int) f9_wsX7_init_336) rfl hK hP hD hS hA (fun _ => rfl) hn rfl hnb (Nat.le_of_ble_eq_true rfl) (by dsimp only [headSpec]; omega) dX7_init_44 (fun q_5 cA H hK2 hp hd hs => ?_)
  obtain rfl : cA = ty 0 := kz_cA (t0 := 0) (t1 := 6) hK2 rfl rfl rfl
  refine kz_re (w2 := [(q_25, .inr (7, [.ref q_1, .ref q_2, .ref q_3, .ref q_4, .null, .null, .int 0, .int 0])), (q_1, .inl (ty 0, Int32.toNatClampNeg n, .inl (fun _ => 0))), (q_2, .inl (ty 0, Int32.toNatClampNeg n, .inl (fun _ => 0))), (q_3, .inl (ty 0, Int32.toNatClampNeg n, .inl (fun _ => 0))), (q_4, .inl (ty 0, Int32.toNatClampNeg n, .inl (fun _ => 0))), (q_5, .inl (ty 0, Int32.toNatClampNeg n, .inl (fun _ => 0)))]) hp hd hs rfl ?_
  clear hp hd hs hP hD hS
  intro hP hD hS
  refine va_putF (D := D) (ci := 7) (v := .ref q_5) (ty := .array .int) (C := RX7) (T := TX7) (N := 8) hx hb hts u9_wsX7_init_X7 tyX7 tyX7_ok nmX7 hown hK hP hD hS 0 rfl rfl 4 (by decide) (hts (.fieldLink RX7 29 "TurnedFloors$Text" "testTo" "[I") f9_wsX7_init_341) (fun _ h9 => h9) rfl hin rfl (by decide +kernel) rfl rfl (Nat.le_of_ble_eq_true rfl) dX7_init_46 (fun H locs hp hd hs => ?_)
  refine kz_re (w2 := [(q_25, .inr (7, [.ref q_1, .ref q_2, .ref q_3, .ref q_4, .ref q_5, .null, .int 0, .int 0])), (q_1, .inl (ty 0, Int32.toNatClampNeg n, .inl (fun _ => 0))), (q_2, .inl (ty 0, Int32.toNatClampNeg n, .inl (fun _ => 0))), (q_3, .inl (ty 0, Int32.toNatClampNeg n, .inl (fun _ => 0))), (q_4, .inl (ty 0, Int32.toNatClampNeg n, .inl (fun _ => 0))), (q_5, .inl (ty 0, Int32.toNatClampNeg n, .inl (fun _ => 0)))]) hp hd hs rfl ?_
  clear hp hd hs hP hD hS
  intro hP hD hS
  refine lv_aload_n hx hb dX7_init_49 rfl (lv_at hl 0 rfl) ?_
  refine lv_iload_n hx hb dX7_init_50 rfl (lv_at hl 2 rfl) ?_
  refine va_newa (atype := .int) (ty := .int) (N' := Int32.toNatClampNeg k) (a0 := (Int32.toNatClampNeg k, .inl (fun _ => 0))) hx hb (hts (.arrayClass .int) f9_wsX7_init_336) rfl hK hP hD hS hA (fun _ => rfl) hk rfl hkb (Nat.le_of_ble_eq_true rfl) (by dsimp only [headSpec]; omega) dX7_init_51 (fun q_6 cA H hK2 hp hd hs => ?_)
  obtain rfl : cA = ty 0 := kz_cA (t0 := 0) (t1 := 6) hK2 rfl rfl rfl
  refine kz_re (w2 := [(q_25, .inr (7, [.ref q_1, .ref q_2, .ref q_3, .ref q_4, .ref q_5, .null, .int 0, .int 0])), (q_1, .inl (ty 0, Int32.toNatClampNeg n, .inl (fun _ => 0))), (q_2, .inl (ty 0, Int32.toNatClampNeg n, .inl (fun _ => 0))), (q_3, .inl (ty 0, Int32.toNatClampNeg n, .inl (fun _ => 0))), (q_4, .inl (ty 0, Int32.toNatClampNeg n, .inl (fun _ => 0))), (q_5, .inl (ty 0, Int32.toNatClampNeg n, .inl (fun _ => 0))), (q_6, .inl (ty 0, Int32.toNatClampNeg k, .inl (fun _ => 0)))]) hp hd hs rfl ?_
  clear hp hd hs hP hD hS
  intro hP hD hS
  refine va_putF (D := D) (ci := 7) (v := .ref q_6) (ty := .array .int) (C := RX7) (T := TX7) (N := 8) hx hb hts u9_wsX7_init_X7 tyX7 tyX7_ok nmX7 hown hK hP hD hS 0 rfl rfl 5 (by decide) (hts (.fieldLink RX7 32 "TurnedFloors$Text" "code" "[I") f9_wsX7_init_342) (fun _ h9 => h9) rfl hin rfl (by decide +kernel) rfl rfl (Nat.le_of_ble_eq_true rfl) dX7_init_53 (fun H locs hp hd hs => ?_)
  refine kz_re (w2 := [(q_25, .inr (7, [.ref q_1, .ref q_2, .ref q_3, .ref q_4, .ref q_5, .ref q_6, .int 0, .int 0])), (q_1, .inl (ty 0, Int32.toNatClampNeg n, .inl (fun _ => 0))), (q_2, .inl (ty 0, Int32.toNatClampNeg n, .inl (fun _ => 0))), (q_3, .inl (ty 0, Int32.toNatClampNeg n, .inl (fun _ => 0))), (q_4, .inl (ty 0, Int32.toNatClampNeg n, .inl (fun _ => 0))), (q_5, .inl (ty 0, Int32.toNatClampNeg n, .inl (fun _ => 0))), (q_6, .inl (ty 0, Int32.toNatClampNeg k, .inl (fun _ => 0)))]) hp hd hs rfl ?_
  clear hp hd hs hP hD hS
  intro hP hD hS
  refine W.widen (k := 6) (n := ns) (by decide) (by omega) ?_
  exact kz_vret hx hb hr hlocks hP hK hD hS dX7_init_56 ⟨q_1, q_2, q_3, q_4, q_5, q_6, rfl⟩

