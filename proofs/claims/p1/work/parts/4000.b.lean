set_option maxHeartbeats 4000000 in
set_option maxRecDepth 100000 in
theorem kcX8_init (l : Launch) (D : va_G) (ty : Nat → ClassId) (eo : Nat → Nat) (sz : Nat) (h0 : Nat) : Met l yX8_init wsX8_init ({ frames := 1, cells := 2, slots := 12, locals := 20 }) (va_Pc [.ref h0] (kz_pre D ty eo [(h0, .inr (8, [.null, .null, .int 0, .int 0, .int 0]))] sz)) (va_Qv (fun (u : va_W) => ∃ q_1 q_2 : Nat, [(h0, .inr (8, [.ref q_1, .ref q_2, .int 0, .int 0, .int 0])), (q_1, .inl (ty 0, 6, .inl (fun _ => 0))), (q_2, .inl (ty 0, 6, .inl (fun _ => 0)))] = u) (kz_B D ty (va_A [(h0, .inr (8, [.null, .null, .int 0, .int 0, .int 0]))] sz)) (va_A [(h0, .inr (8, [.null, .null, .int 0, .int 0, .int 0]))] sz)) 2 12 (va_A [(h0, .inr (8, [.null, .null, .int 0, .int 0, .int 0]))] sz) := by
  refine Met.ofW (cc := cX8_init) (maxL := 1) (ret := none) (by decide) rfl ?_
  intro p e s m args below meth c s₁ B hml hv
  obtain ⟨rfl, hsz, hP, hK, hD0, hN, hE⟩ := hv
  have hx := B.exec
  have hb := B.bytes
  have hr := B.returns
  have hts := atoms_spec (ws := wsX8_init) B.pre
  have hown : s.vm.findClass RX8 = some m.cls := findClass_of_methodNamed B.named
  have hlocks := B.notSynchronized
  have hin : meth.name = "<init>" := (name_of_methodNamed B.named B.method).1
  subst hsz
  have hD := hD0.self (sz := s.heap.size)
  generalize hAe : va_A [(h0, .inr (8, [.null, .null, .int 0, .int 0, .int 0]))] s.heap.size = A at hD hE ⊢
  have hA : ∀ q : Nat, s.heap.size ≤ q → A q := fun q h => by rw [← hAe]; exact Or.inr h
  have hS : va_S A s.heap s.heap [] := va_S.rf
  have hl := lv_entry ([.ref h0]) (n := 1) (Nat.le_of_ble_eq_true rfl)
  rw [lg_entry_eq]
  generalize (lg_sl ([.ref h0]) ++ List.replicate (1 - (lg_sl ([.ref h0])).length) Slot.unset).toArray = ls at hl ⊢
  have hl : lv_has ls 1 [(0, .ref h0)] := hl
  refine lv_aload_n hx hb dX8_init_0 rfl (lv_at hl 0 rfl) ?_
  refine W.objInit hx hb hown (hts (.methodLink RX8 3 objectInit) (by decide +kernel)) (hts (.instanceMethod objectInit) (by decide +kernel)) (hts (.code objectInit ⟨#[0xb1]⟩ 1 none) (by decide +kernel)) rfl (by rw [hml]; exact hl.1) rfl dX8_init_1 (Nat.le_of_ble_eq_true rfl) (Nat.le_of_ble_eq_true rfl) ?_
  refine W.eq (g2 := F0 m 4 ls []) rfl ?_
  refine lv_aload_n hx hb dX8_init_4 rfl (lv_at hl 0 rfl) ?_
  refine lv_bipush (v := 6) hx hb dX8_init_5 (by decide) ?_
  refine va_newa (atype := .int) (ty := .int) (N' := 6) (a0 := (6, .inl (fun _ => 0))) hx hb (hts (.arrayClass .int) (by decide +kernel)) rfl hK hP hD hS hA (fun _ => rfl) (by decide) (by decide) (by decide) (Nat.le_of_ble_eq_true rfl) (Nat.le_of_ble_eq_true rfl) dX8_init_7 (fun q_1 cA H hK2 hP hD hS => ?_)
  obtain rfl : cA = ty 0 := kz_cA (t0 := 0) (t1 := 6) hK2 rfl rfl rfl
  have hP : va_P D vwCl [(h0, .inr (8, [.null, .null, .int 0, .int 0, .int 0])), (q_1, .inl (ty 0, 6, .inl (fun _ => 0)))] H := hP
  have hD : va_D A [(h0, .inr (8, [.null, .null, .int 0, .int 0, .int 0])), (q_1, .inl (ty 0, 6, .inl (fun _ => 0)))] := hD
  refine va_putF (D := D) (ci := 8) (v := .ref q_1) (ty := .array .int) (C := RX8) (T := TX8) (N := 5) hx hb hts (by decide +kernel) tyX8 tyX8_ok nmX8 hown hK hP hD hS 0 rfl rfl 0 (by decide) (hts (.fieldLink RX8 9 "TurnedFloors$Tower" "rank" "[I") (by decide +kernel)) (fun _ h9 => h9) rfl hin rfl (by decide +kernel) rfl rfl (Nat.le_of_ble_eq_true rfl) dX8_init_9 (fun H locs hP hD hS => ?_)
  have hP : va_P D vwCl [(h0, .inr (8, [.ref q_1, .null, .int 0, .int 0, .int 0])), (q_1, .inl (ty 0, 6, .inl (fun _ => 0)))] H := hP
  have hD : va_D A [(h0, .inr (8, [.ref q_1, .null, .int 0, .int 0, .int 0])), (q_1, .inl (ty 0, 6, .inl (fun _ => 0)))] := hD
  refine lv_aload_n hx hb dX8_init_12 rfl (lv_at hl 0 rfl) ?_
  refine lv_bipush (v := 6) hx hb dX8_init_13 (by decide) ?_
  refine va_newa (atype := .int) (ty := .int) (N' := 6) (a0 := (6, .inl (fun _ => 0))) hx hb (hts (.arrayClass .int) (by decide +kernel)) rfl hK hP hD hS hA (fun _ => rfl) (by decide) (by decide) (by decide) (Nat.le_of_ble_eq_true rfl) (Nat.le_of_ble_eq_true rfl) dX8_init_15 (fun q_2 cA H hK2 hP hD hS => ?_)
  obtain rfl : cA = ty 0 := kz_cA (t0 := 0) (t1 := 6) hK2 rfl rfl rfl
  have hP : va_P D vwCl [(h0, .inr (8, [.ref q_1, .null, .int 0, .int 0, .int 0])), (q_1, .inl (ty 0, 6, .inl (fun _ => 0))), (q_2, .inl (ty 0, 6, .inl (fun _ => 0)))] H := hP
  have hD : va_D A [(h0, .inr (8, [.ref q_1, .null, .int 0, .int 0, .int 0])), (q_1, .inl (ty 0, 6, .inl (fun _ => 0))), (q_2, .inl (ty 0, 6, .inl (fun _ => 0)))] := hD
  refine va_putF (D := D) (ci := 8) (v := .ref q_2) (ty := .array .int) (C := RX8) (T := TX8) (N := 5) hx hb hts (by decide +kernel) tyX8 tyX8_ok nmX8 hown hK hP hD hS 0 rfl rfl 1 (by decide) (hts (.fieldLink RX8 15 "TurnedFloors$Tower" "head" "[I") (by decide +kernel)) (fun _ h9 => h9) rfl hin rfl (by decide +kernel) rfl rfl (Nat.le_of_ble_eq_true rfl) dX8_init_17 (fun H locs hP hD hS => ?_)
  have hP : va_P D vwCl [(h0, .inr (8, [.ref q_1, .ref q_2, .int 0, .int 0, .int 0])), (q_1, .inl (ty 0, 6, .inl (fun _ => 0))), (q_2, .inl (ty 0, 6, .inl (fun _ => 0)))] H := hP
  have hD : va_D A [(h0, .inr (8, [.ref q_1, .ref q_2, .int 0, .int 0, .int 0])), (q_1, .inl (ty 0, 6, .inl (fun _ => 0))), (q_2, .inl (ty 0, 6, .inl (fun _ => 0)))] := hD
  refine lv_aload_n hx hb dX8_init_20 rfl (lv_at hl 0 rfl) ?_
  refine lv_iconst (v := 0) hx hb dX8_init_21 (by decide) ?_
  refine va_put (D := D) (ci := 8) (v := .int 0) (ty := .int) (C := RX8) (T := TX8) (N := 5) hx hb hts (by decide +kernel) tyX8 tyX8_ok nmX8 hown hK hP hD hS 0 rfl rfl 2 (by decide) (hts (.fieldLink RX8 18 "TurnedFloors$Tower" "floors" "I") (by decide +kernel)) (fun _ h9 => h9) rfl (by decide +kernel) rfl rfl (Nat.le_of_ble_eq_true rfl) dX8_init_22 (fun H locs hP hD hS => ?_)
  have hP : va_P D vwCl [(h0, .inr (8, [.ref q_1, .ref q_2, .int 0, .int 0, .int 0])), (q_1, .inl (ty 0, 6, .inl (fun _ => 0))), (q_2, .inl (ty 0, 6, .inl (fun _ => 0)))] H := hP
  have hD : va_D A [(h0, .inr (8, [.ref q_1, .ref q_2, .int 0, .int 0, .int 0])), (q_1, .inl (ty 0, 6, .inl (fun _ => 0))), (q_2, .inl (ty 0, 6, .inl (fun _ => 0)))] := hD
  refine lv_aload_n hx hb dX8_init_25 rfl (lv_at hl 0 rfl) ?_
  refine lv_iconst (v := 0) hx hb dX8_init_26 (by decide) ?_
  refine va_put (D := D) (ci := 8) (v := .int 0) (ty := .int) (C := RX8) (T := TX8) (N := 5) hx hb hts (by decide +kernel) tyX8 tyX8_ok nmX8 hown hK hP hD hS 0 rfl rfl 3 (by decide) (hts (.fieldLink RX8 22 "TurnedFloors$Tower" "paid" "I") (by decide +kernel)) (fun _ h9 => h9) rfl (by decide +kernel) rfl rfl (Nat.le_of_ble_eq_true rfl) dX8_init_27 (fun H locs hP hD hS => ?_)
  have hP : va_P D vwCl [(h0, .inr (8, [.ref q_1, .ref q_2, .int 0, .int 0, .int 0])), (q_1, .inl (ty 0, 6, .inl (fun _ => 0))), (q_2, .inl (ty 0, 6, .inl (fun _ => 0)))] H := hP
  have hD : va_D A [(h0, .inr (8, [.ref q_1, .ref q_2, .int 0, .int 0, .int 0])), (q_1, .inl (ty 0, 6, .inl (fun _ => 0))), (q_2, .inl (ty 0, 6, .inl (fun _ => 0)))] := hD
  refine lv_aload_n hx hb dX8_init_30 rfl (lv_at hl 0 rfl) ?_
  refine lv_iconst (v := 0) hx hb dX8_init_31 (by decide) ?_
  refine va_put (D := D) (ci := 8) (v := .int 0) (ty := .int) (C := RX8) (T := TX8) (N := 5) hx hb hts (by decide +kernel) tyX8 tyX8_ok nmX8 hown hK hP hD hS 0 rfl rfl 4 (by decide) (hts (.fieldLink RX8 25 "TurnedFloors$Tower" "year" "I") (by decide +kernel)) (fun _ h9 => h9) rfl (by decide +kernel) rfl rfl (Nat.le_of_ble_eq_true rfl) dX8_init_32 (fun H locs hP hD hS => ?_)
  have hP : va_P D vwCl [(h0, .inr (8, [.ref q_1, .ref q_2, .int 0, .int 0, .int 0])), (q_1, .inl (ty 0, 6, .inl (fun _ => 0))), (q_2, .inl (ty 0, 6, .inl (fun _ => 0)))] H := hP
  have hD : va_D A [(h0, .inr (8, [.ref q_1, .ref q_2, .int 0, .int 0, .int 0])), (q_1, .inl (ty 0, 6, .inl (fun _ => 0))), (q_2, .inl (ty 0, 6, .inl (fun _ => 0)))] := hD
  refine W.widen (k := 2) (n := 12) (Nat.le_of_ble_eq_true rfl) (Nat.le_of_ble_eq_true rfl) ?_
  exact kz_vret hx hb hr hlocks hP hK hD hS dX8_init_35 ⟨q_1, q_2, rfl⟩

set_option maxHeartbeats 4000000 in
set_option maxRecDepth 100000 in
theorem kcX0_init (l : Launch) (D : va_G) (ty : Nat → ClassId) (eo : Nat → Nat) (sz : Nat) (h0 : Nat) : Met l yX0_init wsX0_init ({ frames := 1, cells := 4, slots := 64, locals := 20 }) (va_Pc [.ref h0] (kz_pre D ty eo [(h0, .inr (0, [.null, .null, .int 0, .null, .null, .int 0]))] sz)) (va_Qv (fun (u : va_W) => ∃ q_1 q_2 q_3 q_4 : Nat, [(h0, .inr (0, [.ref q_1, .ref q_2, .int 0, .ref q_3, .ref q_4, .int 0])), (q_1, .inl (ty 1, 16, .inr (.inl (fun _ => 0)))), (q_2, .inl (ty 0, 16, .inl (fun _ => 0))), (q_3, .inl (ty 1, 16, .inr (.inl (fun _ => 0)))), (q_4, .inl (ty 0, 16, .inl (fun _ => 0)))] = u) (kz_B D ty (va_A [(h0, .inr (0, [.null, .null, .int 0, .null, .null, .int 0]))] sz)) (va_A [(h0, .inr (0, [.null, .null, .int 0, .null, .null, .int 0]))] sz)) 4 64 (va_A [(h0, .inr (0, [.null, .null, .int 0, .null, .null, .int 0]))] sz) := by
  refine Met.ofW (cc := cX0_init) (maxL := 1) (ret := none) (by decide) rfl ?_
  intro p e s m args below meth c s₁ B hml hv
  obtain ⟨rfl, hsz, hP, hK, hD0, hN, hE⟩ := hv
  have hx := B.exec
  have hb := B.bytes
  have hr := B.returns
  have hts := atoms_spec (ws := wsX0_init) B.pre
  have hown : s.vm.findClass RX0 = some m.cls := findClass_of_methodNamed B.named
  have hlocks := B.notSynchronized
  have hin : meth.name = "<init>" := (name_of_methodNamed B.named B.method).1
  subst hsz
  have hD := hD0.self (sz := s.heap.size)
  generalize hAe : va_A [(h0, .inr (0, [.null, .null, .int 0, .null, .null, .int 0]))] s.heap.size = A at hD hE ⊢
  have hA : ∀ q : Nat, s.heap.size ≤ q → A q := fun q h => by rw [← hAe]; exact Or.inr h
  have hS : va_S A s.heap s.heap [] := va_S.rf
  have hl := lv_entry ([.ref h0]) (n := 1) (Nat.le_of_ble_eq_true rfl)
  rw [lg_entry_eq]
  generalize (lg_sl ([.ref h0]) ++ List.replicate (1 - (lg_sl ([.ref h0])).length) Slot.unset).toArray = ls at hl ⊢
  have hl : lv_has ls 1 [(0, .ref h0)] := hl
  refine lv_aload_n hx hb dX0_init_0 rfl (lv_at hl 0 rfl) ?_
  refine W.objInit hx hb hown (hts (.methodLink RX0 3 objectInit) (by decide +kernel)) (hts (.instanceMethod objectInit) (by decide +kernel)) (hts (.code objectInit ⟨#[0xb1]⟩ 1 none) (by decide +kernel)) rfl (by rw [hml]; exact hl.1) rfl dX0_init_1 (Nat.le_of_ble_eq_true rfl) (Nat.le_of_ble_eq_true rfl) ?_
  refine W.eq (g2 := F0 m 4 ls []) rfl ?_
  refine lv_aload_n hx hb dX0_init_4 rfl (lv_at hl 0 rfl) ?_
  refine lv_bipush (v := 16) hx hb dX0_init_5 (by decide) ?_
  refine va_newa (atype := .long) (ty := .long) (N' := 16) (a0 := (16, .inr (.inl (fun _ => 0)))) hx hb (hts (.arrayClass .long) (by decide +kernel)) rfl hK hP hD hS hA (fun _ => rfl) (by decide) (by decide) (by decide) (Nat.le_of_ble_eq_true rfl) (Nat.le_of_ble_eq_true rfl) dX0_init_7 (fun q_1 cA H hK2 hP hD hS => ?_)
  obtain rfl : cA = ty 1 := kz_cA (t0 := 1) (t1 := 6) hK2 rfl rfl rfl
  have hP : va_P D vwCl [(h0, .inr (0, [.null, .null, .int 0, .null, .null, .int 0])), (q_1, .inl (ty 1, 16, .inr (.inl (fun _ => 0))))] H := hP
  have hD : va_D A [(h0, .inr (0, [.null, .null, .int 0, .null, .null, .int 0])), (q_1, .inl (ty 1, 16, .inr (.inl (fun _ => 0))))] := hD
  refine va_putF (D := D) (ci := 0) (v := .ref q_1) (ty := .array .long) (C := RX0) (T := TX0) (N := 6) hx hb hts (by decide +kernel) tyX0 tyX0_ok nmX0 hown hK hP hD hS 0 rfl rfl 0 (by decide) (hts (.fieldLink RX0 9 "TurnedFloors$History" "towers" "[J") (by decide +kernel)) (fun _ h9 => h9) rfl hin rfl (by decide +kernel) rfl rfl (Nat.le_of_ble_eq_true rfl) dX0_init_9 (fun H locs hP hD hS => ?_)
  have hP : va_P D vwCl [(h0, .inr (0, [.ref q_1, .null, .int 0, .null, .null, .int 0])), (q_1, .inl (ty 1, 16, .inr (.inl (fun _ => 0))))] H := hP
  have hD : va_D A [(h0, .inr (0, [.ref q_1, .null, .int 0, .null, .null, .int 0])), (q_1, .inl (ty 1, 16, .inr (.inl (fun _ => 0))))] := hD
  refine lv_aload_n hx hb dX0_init_12 rfl (lv_at hl 0 rfl) ?_
  refine lv_bipush (v := 16) hx hb dX0_init_13 (by decide) ?_
  refine va_newa (atype := .int) (ty := .int) (N' := 16) (a0 := (16, .inl (fun _ => 0))) hx hb (hts (.arrayClass .int) (by decide +kernel)) rfl hK hP hD hS hA (fun _ => rfl) (by decide) (by decide) (by decide) (Nat.le_of_ble_eq_true rfl) (Nat.le_of_ble_eq_true rfl) dX0_init_15 (fun q_2 cA H hK2 hP hD hS => ?_)
  obtain rfl : cA = ty 0 := kz_cA (t0 := 0) (t1 := 6) hK2 rfl rfl rfl
  have hP : va_P D vwCl [(h0, .inr (0, [.ref q_1, .null, .int 0, .null, .null, .int 0])), (q_1, .inl (ty 1, 16, .inr (.inl (fun _ => 0)))), (q_2, .inl (ty 0, 16, .inl (fun _ => 0)))] H := hP
  have hD : va_D A [(h0, .inr (0, [.ref q_1, .null, .int 0, .null, .null, .int 0])), (q_1, .inl (ty 1, 16, .inr (.inl (fun _ => 0)))), (q_2, .inl (ty 0, 16, .inl (fun _ => 0)))] := hD
  refine va_putF (D := D) (ci := 0) (v := .ref q_2) (ty := .array .int) (C := RX0) (T := TX0) (N := 6) hx hb hts (by decide +kernel) tyX0 tyX0_ok nmX0 hown hK hP hD hS 0 rfl rfl 1 (by decide) (hts (.fieldLink RX0 15 "TurnedFloors$History" "kinds" "[I") (by decide +kernel)) (fun _ h9 => h9) rfl hin rfl (by decide +kernel) rfl rfl (Nat.le_of_ble_eq_true rfl) dX0_init_17 (fun H locs hP hD hS => ?_)
  have hP : va_P D vwCl [(h0, .inr (0, [.ref q_1, .ref q_2, .int 0, .null, .null, .int 0])), (q_1, .inl (ty 1, 16, .inr (.inl (fun _ => 0)))), (q_2, .inl (ty 0, 16, .inl (fun _ => 0)))] H := hP
  have hD : va_D A [(h0, .inr (0, [.ref q_1, .ref q_2, .int 0, .null, .null, .int 0])), (q_1, .inl (ty 1, 16, .inr (.inl (fun _ => 0)))), (q_2, .inl (ty 0, 16, .inl (fun _ => 0)))] := hD
  refine lv_aload_n hx hb dX0_init_20 rfl (lv_at hl 0 rfl) ?_
  refine lv_iconst (v := 0) hx hb dX0_init_21 (by decide) ?_
  refine va_put (D := D) (ci := 0) (v := .int 0) (ty := .int) (C := RX0) (T := TX0) (N := 6) hx hb hts (by decide +kernel) tyX0 tyX0_ok nmX0 hown hK hP hD hS 0 rfl rfl 2 (by decide) (hts (.fieldLink RX0 19 "TurnedFloors$History" "kept" "I") (by decide +kernel)) (fun _ h9 => h9) rfl (by decide +kernel) rfl rfl (Nat.le_of_ble_eq_true rfl) dX0_init_22 (fun H locs hP hD hS => ?_)
  have hP : va_P D vwCl [(h0, .inr (0, [.ref q_1, .ref q_2, .int 0, .null, .null, .int 0])), (q_1, .inl (ty 1, 16, .inr (.inl (fun _ => 0)))), (q_2, .inl (ty 0, 16, .inl (fun _ => 0)))] H := hP
  have hD : va_D A [(h0, .inr (0, [.ref q_1, .ref q_2, .int 0, .null, .null, .int 0])), (q_1, .inl (ty 1, 16, .inr (.inl (fun _ => 0)))), (q_2, .inl (ty 0, 16, .inl (fun _ => 0)))] := hD
  refine lv_aload_n hx hb dX0_init_25 rfl (lv_at hl 0 rfl) ?_
  refine lv_bipush (v := 16) hx hb dX0_init_26 (by decide) ?_
  refine va_newa (atype := .long) (ty := .long) (N' := 16) (a0 := (16, .inr (.inl (fun _ => 0)))) hx hb (hts (.arrayClass .long) (by decide +kernel)) rfl hK hP hD hS hA (fun _ => rfl) (by decide) (by decide) (by decide) (Nat.le_of_ble_eq_true rfl) (Nat.le_of_ble_eq_true rfl) dX0_init_28 (fun q_3 cA H hK2 hP hD hS => ?_)
  obtain rfl : cA = ty 1 := kz_cA (t0 := 1) (t1 := 6) hK2 rfl rfl rfl
  have hP : va_P D vwCl [(h0, .inr (0, [.ref q_1, .ref q_2, .int 0, .null, .null, .int 0])), (q_1, .inl (ty 1, 16, .inr (.inl (fun _ => 0)))), (q_2, .inl (ty 0, 16, .inl (fun _ => 0))), (q_3, .inl (ty 1, 16, .inr (.inl (fun _ => 0))))] H := hP
  have hD : va_D A [(h0, .inr (0, [.ref q_1, .ref q_2, .int 0, .null, .null, .int 0])), (q_1, .inl (ty 1, 16, .inr (.inl (fun _ => 0)))), (q_2, .inl (ty 0, 16, .inl (fun _ => 0))), (q_3, .inl (ty 1, 16, .inr (.inl (fun _ => 0))))] := hD
  refine va_putF (D := D) (ci := 0) (v := .ref q_3) (ty := .array .long) (C := RX0) (T := TX0) (N := 6) hx hb hts (by decide +kernel) tyX0 tyX0_ok nmX0 hown hK hP hD hS 0 rfl rfl 3 (by decide) (hts (.fieldLink RX0 23 "TurnedFloors$History" "markedTowers" "[J") (by decide +kernel)) (fun _ h9 => h9) rfl hin rfl (by decide +kernel) rfl rfl (Nat.le_of_ble_eq_true rfl) dX0_init_30 (fun H locs hP hD hS => ?_)
  have hP : va_P D vwCl [(h0, .inr (0, [.ref q_1, .ref q_2, .int 0, .ref q_3, .null, .int 0])), (q_1, .inl (ty 1, 16, .inr (.inl (fun _ => 0)))), (q_2, .inl (ty 0, 16, .inl (fun _ => 0))), (q_3, .inl (ty 1, 16, .inr (.inl (fun _ => 0))))] H := hP
  have hD : va_D A [(h0, .inr (0, [.ref q_1, .ref q_2, .int 0, .ref q_3, .null, .int 0])), (q_1, .inl (ty 1, 16, .inr (.inl (fun _ => 0)))), (q_2, .inl (ty 0, 16, .inl (fun _ => 0))), (q_3, .inl (ty 1, 16, .inr (.inl (fun _ => 0))))] := hD
  refine lv_aload_n hx hb dX0_init_33 rfl (lv_at hl 0 rfl) ?_
  refine lv_bipush (v := 16) hx hb dX0_init_34 (by decide) ?_
  refine va_newa (atype := .int) (ty := .int) (N' := 16) (a0 := (16, .inl (fun _ => 0))) hx hb (hts (.arrayClass .int) (by decide +kernel)) rfl hK hP hD hS hA (fun _ => rfl) (by decide) (by decide) (by decide) (Nat.le_of_ble_eq_true rfl) (Nat.le_of_ble_eq_true rfl) dX0_init_36 (fun q_4 cA H hK2 hP hD hS => ?_)
  obtain rfl : cA = ty 0 := kz_cA (t0 := 0) (t1 := 6) hK2 rfl rfl rfl
  have hP : va_P D vwCl [(h0, .inr (0, [.ref q_1, .ref q_2, .int 0, .ref q_3, .null, .int 0])), (q_1, .inl (ty 1, 16, .inr (.inl (fun _ => 0)))), (q_2, .inl (ty 0, 16, .inl (fun _ => 0))), (q_3, .inl (ty 1, 16, .inr (.inl (fun _ => 0)))), (q_4, .inl (ty 0, 16, .inl (fun _ => 0)))] H := hP
  have hD : va_D A [(h0, .inr (0, [.ref q_1, .ref q_2, .int 0, .ref q_3, .null, .int 0])), (q_1, .inl (ty 1, 16, .inr (.inl (fun _ => 0)))), (q_2, .inl (ty 0, 16, .inl (fun _ => 0))), (q_3, .inl (ty 1, 16, .inr (.inl (fun _ => 0)))), (q_4, .inl (ty 0, 16, .inl (fun _ => 0)))] := hD
  refine va_putF (D := D) (ci := 0) (v := .ref q_4) (ty := .array .int) (C := RX0) (T := TX0) (N := 6) hx hb hts (by decide +kernel) tyX0 tyX0_ok nmX0 hown hK hP hD hS 0 rfl rfl 4 (by decide) (hts (.fieldLink RX0 26 "TurnedFloors$History" "markedKinds" "[I") (by decide +kernel)) (fun _ h9 => h9) rfl hin rfl (by decide +kernel) rfl rfl (Nat.le_of_ble_eq_true rfl) dX0_init_38 (fun H locs hP hD hS => ?_)
  have hP : va_P D vwCl [(h0, .inr (0, [.ref q_1, .ref q_2, .int 0, .ref q_3, .ref q_4, .int 0])), (q_1, .inl (ty 1, 16, .inr (.inl (fun _ => 0)))), (q_2, .inl (ty 0, 16, .inl (fun _ => 0))), (q_3, .inl (ty 1, 16, .inr (.inl (fun _ => 0)))), (q_4, .inl (ty 0, 16, .inl (fun _ => 0)))] H := hP
  have hD : va_D A [(h0, .inr (0, [.ref q_1, .ref q_2, .int 0, .ref q_3, .ref q_4, .int 0])), (q_1, .inl (ty 1, 16, .inr (.inl (fun _ => 0)))), (q_2, .inl (ty 0, 16, .inl (fun _ => 0))), (q_3, .inl (ty 1, 16, .inr (.inl (fun _ => 0)))), (q_4, .inl (ty 0, 16, .inl (fun _ => 0)))] := hD
  refine lv_aload_n hx hb dX0_init_41 rfl (lv_at hl 0 rfl) ?_
  refine lv_iconst (v := 0) hx hb dX0_init_42 (by decide) ?_
  refine va_put (D := D) (ci := 0) (v := .int 0) (ty := .int) (C := RX0) (T := TX0) (N := 6) hx hb hts (by decide +kernel) tyX0 tyX0_ok nmX0 hown hK hP hD hS 0 rfl rfl 5 (by decide) (hts (.fieldLink RX0 29 "TurnedFloors$History" "markedKept" "I") (by decide +kernel)) (fun _ h9 => h9) rfl (by decide +kernel) rfl rfl (Nat.le_of_ble_eq_true rfl) dX0_init_43 (fun H locs hP hD hS => ?_)
  have hP : va_P D vwCl [(h0, .inr (0, [.ref q_1, .ref q_2, .int 0, .ref q_3, .ref q_4, .int 0])), (q_1, .inl (ty 1, 16, .inr (.inl (fun _ => 0)))), (q_2, .inl (ty 0, 16, .inl (fun _ => 0))), (q_3, .inl (ty 1, 16, .inr (.inl (fun _ => 0)))), (q_4, .inl (ty 0, 16, .inl (fun _ => 0)))] H := hP
  have hD : va_D A [(h0, .inr (0, [.ref q_1, .ref q_2, .int 0, .ref q_3, .ref q_4, .int 0])), (q_1, .inl (ty 1, 16, .inr (.inl (fun _ => 0)))), (q_2, .inl (ty 0, 16, .inl (fun _ => 0))), (q_3, .inl (ty 1, 16, .inr (.inl (fun _ => 0)))), (q_4, .inl (ty 0, 16, .inl (fun _ => 0)))] := hD
  refine W.widen (k := 4) (n := 64) (Nat.le_of_ble_eq_true rfl) (Nat.le_of_ble_eq_true rfl) ?_
  exact kz_vret hx hb hr hlocks hP hK hD hS dX0_init_46 ⟨q_1, q_2, q_3, q_4, rfl⟩

set_option maxHeartbeats 4000000 in
set_option maxRecDepth 100000 in
theorem kcX2_init (l : Launch) (D : va_G) (ty : Nat → ClassId) (eo : Nat → Nat) (sz : Nat) (h0 : Nat) : Met l yX2_init wsX2_init ({ frames := 1, cells := 1, slots := 64, locals := 20 }) (va_Pc [.ref h0] (kz_pre D ty eo [(h0, .inr (2, [.null, .int 0]))] sz)) (va_Qv (fun (u : va_W) => ∃ q_1 : Nat, [(h0, .inr (2, [.ref q_1, .int 0])), (q_1, .inl (ty 0, 64, .inl (fun _ => 0)))] = u) (kz_B D ty (va_A [(h0, .inr (2, [.null, .int 0]))] sz)) (va_A [(h0, .inr (2, [.null, .int 0]))] sz)) 1 64 (va_A [(h0, .inr (2, [.null, .int 0]))] sz) := by
  refine Met.ofW (cc := cX2_init) (maxL := 1) (ret := none) (by decide) rfl ?_
  intro p e s m args below meth c s₁ B hml hv
  obtain ⟨rfl, hsz, hP, hK, hD0, hN, hE⟩ := hv
  have hx := B.exec
  have hb := B.bytes
  have hr := B.returns
  have hts := atoms_spec (ws := wsX2_init) B.pre
  have hown : s.vm.findClass RX2 = some m.cls := findClass_of_methodNamed B.named
  have hlocks := B.notSynchronized
  have hin : meth.name = "<init>" := (name_of_methodNamed B.named B.method).1
  subst hsz
  have hD := hD0.self (sz := s.heap.size)
  generalize hAe : va_A [(h0, .inr (2, [.null, .int 0]))] s.heap.size = A at hD hE ⊢
  have hA : ∀ q : Nat, s.heap.size ≤ q → A q := fun q h => by rw [← hAe]; exact Or.inr h
  have hS : va_S A s.heap s.heap [] := va_S.rf
  have hl := lv_entry ([.ref h0]) (n := 1) (Nat.le_of_ble_eq_true rfl)
  rw [lg_entry_eq]
  generalize (lg_sl ([.ref h0]) ++ List.replicate (1 - (lg_sl ([.ref h0])).length) Slot.unset).toArray = ls at hl ⊢
  have hl : lv_has ls 1 [(0, .ref h0)] := hl
  refine lv_aload_n hx hb dX2_init_0 rfl (lv_at hl 0 rfl) ?_
  refine W.objInit hx hb hown (hts (.methodLink RX2 1 objectInit) (by decide +kernel)) (hts (.instanceMethod objectInit) (by decide +kernel)) (hts (.code objectInit ⟨#[0xb1]⟩ 1 none) (by decide +kernel)) rfl (by rw [hml]; exact hl.1) rfl dX2_init_1 (Nat.le_of_ble_eq_true rfl) (Nat.le_of_ble_eq_true rfl) ?_
  refine W.eq (g2 := F0 m 4 ls []) rfl ?_
  refine lv_aload_n hx hb dX2_init_4 rfl (lv_at hl 0 rfl) ?_
  refine lv_bipush (v := 64) hx hb dX2_init_5 (by decide) ?_
  refine va_newa (atype := .int) (ty := .int) (N' := 64) (a0 := (64, .inl (fun _ => 0))) hx hb (hts (.arrayClass .int) (by decide +kernel)) rfl hK hP hD hS hA (fun _ => rfl) (by decide) (by decide) (by decide) (Nat.le_of_ble_eq_true rfl) (Nat.le_of_ble_eq_true rfl) dX2_init_7 (fun q_1 cA H hK2 hP hD hS => ?_)
  obtain rfl : cA = ty 0 := kz_cA (t0 := 0) (t1 := 6) hK2 rfl rfl rfl
  have hP : va_P D vwCl [(h0, .inr (2, [.null, .int 0])), (q_1, .inl (ty 0, 64, .inl (fun _ => 0)))] H := hP
  have hD : va_D A [(h0, .inr (2, [.null, .int 0])), (q_1, .inl (ty 0, 64, .inl (fun _ => 0)))] := hD
  refine va_putF (D := D) (ci := 2) (v := .ref q_1) (ty := .array .int) (C := RX2) (T := TX2) (N := 2) hx hb hts (by decide +kernel) tyX2 tyX2_ok nmX2 hown hK hP hD hS 0 rfl rfl 0 (by decide) (hts (.fieldLink RX2 9 "TurnedFloors$Machine" "stack" "[I") (by decide +kernel)) (fun _ h9 => h9) rfl hin rfl (by decide +kernel) rfl rfl (Nat.le_of_ble_eq_true rfl) dX2_init_9 (fun H locs hP hD hS => ?_)
  have hP : va_P D vwCl [(h0, .inr (2, [.ref q_1, .int 0])), (q_1, .inl (ty 0, 64, .inl (fun _ => 0)))] H := hP
  have hD : va_D A [(h0, .inr (2, [.ref q_1, .int 0])), (q_1, .inl (ty 0, 64, .inl (fun _ => 0)))] := hD
  refine lv_aload_n hx hb dX2_init_12 rfl (lv_at hl 0 rfl) ?_
  refine lv_iconst (v := 0) hx hb dX2_init_13 (by decide) ?_
  refine va_put (D := D) (ci := 2) (v := .int 0) (ty := .boolean) (C := RX2) (T := TX2) (N := 2) hx hb hts (by decide +kernel) tyX2 tyX2_ok nmX2 hown hK hP hD hS 0 rfl rfl 1 (by decide) (hts (.fieldLink RX2 13 "TurnedFloors$Machine" "broken" "Z") (by decide +kernel)) (fun _ h9 => h9) rfl (by decide +kernel) rfl rfl (Nat.le_of_ble_eq_true rfl) dX2_init_14 (fun H locs hP hD hS => ?_)
  have hP : va_P D vwCl [(h0, .inr (2, [.ref q_1, .int 0])), (q_1, .inl (ty 0, 64, .inl (fun _ => 0)))] H := hP
  have hD : va_D A [(h0, .inr (2, [.ref q_1, .int 0])), (q_1, .inl (ty 0, 64, .inl (fun _ => 0)))] := hD
  refine W.widen (k := 1) (n := 64) (Nat.le_of_ble_eq_true rfl) (Nat.le_of_ble_eq_true rfl) ?_
  exact kz_vret hx hb hr hlocks hP hK hD hS dX2_init_17 ⟨q_1, rfl⟩

set_option maxHeartbeats 4000000 in
set_option maxRecDepth 100000 in
theorem kcX4_init (l : Launch) (D : va_G) (ty : Nat → ClassId) (eo : Nat → Nat) (sz : Nat) (h0 : Nat) : Met l yX4_init wsX4_init ({ frames := 1, cells := 0, slots := 0, locals := 20 }) (va_Pc [.ref h0] (kz_pre D ty eo [(h0, .inr (4, [.null, .int 0, .int 0, .null, .int 0, .int 0, .int 0, .int 0, .int 0, .int 0, .int 0]))] sz)) (va_Qv (fun (u : va_W) => [(h0, .inr (4, [.null, .int 0, .int 0, .null, .int 0, .int 0, .int 0, .int 0, .int 0, .int 0, .int (-1)]))] = u) (kz_B D ty (va_A [(h0, .inr (4, [.null, .int 0, .int 0, .null, .int 0, .int 0, .int 0, .int 0, .int 0, .int 0, .int 0]))] sz)) (va_A [(h0, .inr (4, [.null, .int 0, .int 0, .null, .int 0, .int 0, .int 0, .int 0, .int 0, .int 0, .int 0]))] sz)) 0 0 (va_A [(h0, .inr (4, [.null, .int 0, .int 0, .null, .int 0, .int 0, .int 0, .int 0, .int 0, .int 0, .int 0]))] sz) := by
  refine Met.ofW (cc := cX4_init) (maxL := 1) (ret := none) (by decide) rfl ?_
  intro p e s m args below meth c s₁ B hml hv
  obtain ⟨rfl, hsz, hP, hK, hD0, hN, hE⟩ := hv
  have hx := B.exec
  have hb := B.bytes
  have hr := B.returns
  have hts := atoms_spec (ws := wsX4_init) B.pre
  have hown : s.vm.findClass RX4 = some m.cls := findClass_of_methodNamed B.named
  have hlocks := B.notSynchronized
  have hin : meth.name = "<init>" := (name_of_methodNamed B.named B.method).1
  subst hsz
  have hD := hD0.self (sz := s.heap.size)
  generalize hAe : va_A [(h0, .inr (4, [.null, .int 0, .int 0, .null, .int 0, .int 0, .int 0, .int 0, .int 0, .int 0, .int 0]))] s.heap.size = A at hD hE ⊢
  have hA : ∀ q : Nat, s.heap.size ≤ q → A q := fun q h => by rw [← hAe]; exact Or.inr h
  have hS : va_S A s.heap s.heap [] := va_S.rf
  have hl := lv_entry ([.ref h0]) (n := 1) (Nat.le_of_ble_eq_true rfl)
  rw [lg_entry_eq]
  generalize (lg_sl ([.ref h0]) ++ List.replicate (1 - (lg_sl ([.ref h0])).length) Slot.unset).toArray = ls at hl ⊢
  have hl : lv_has ls 1 [(0, .ref h0)] := hl
  refine lv_aload_n hx hb dX4_init_0 rfl (lv_at hl 0 rfl) ?_
  refine W.objInit hx hb hown (hts (.methodLink RX4 3 objectInit) (by decide +kernel)) (hts (.instanceMethod objectInit) (by decide +kernel)) (hts (.code objectInit ⟨#[0xb1]⟩ 1 none) (by decide +kernel)) rfl (by rw [hml]; exact hl.1) rfl dX4_init_1 (Nat.le_of_ble_eq_true rfl) (Nat.le_of_ble_eq_true rfl) ?_
  refine W.eq (g2 := F0 m 4 ls []) rfl ?_
  refine lv_aload_n hx hb dX4_init_4 rfl (lv_at hl 0 rfl) ?_
  refine lv_null hx hb dX4_init_5 ?_
  refine va_put (D := D) (ci := 4) (v := .null) (ty := .array .int) (C := RX4) (T := TX4) (N := 11) hx hb hts (by decide +kernel) tyX4 tyX4_ok nmX4 hown hK hP hD hS 0 rfl rfl 0 (by decide) (hts (.fieldLink RX4 9 "TurnedFloors$Reader" "bytes" "[I") (by decide +kernel)) (fun _ h9 => h9) rfl (by decide +kernel) rfl rfl (Nat.le_of_ble_eq_true rfl) dX4_init_6 (fun H locs hP hD hS => ?_)
  have hP : va_P D vwCl [(h0, .inr (4, [.null, .int 0, .int 0, .null, .int 0, .int 0, .int 0, .int 0, .int 0, .int 0, .int 0]))] H := hP
  have hD : va_D A [(h0, .inr (4, [.null, .int 0, .int 0, .null, .int 0, .int 0, .int 0, .int 0, .int 0, .int 0, .int 0]))] := hD
  refine lv_aload_n hx hb dX4_init_9 rfl (lv_at hl 0 rfl) ?_
  refine lv_iconst (v := 0) hx hb dX4_init_10 (by decide) ?_
  refine va_put (D := D) (ci := 4) (v := .int 0) (ty := .int) (C := RX4) (T := TX4) (N := 11) hx hb hts (by decide +kernel) tyX4 tyX4_ok nmX4 hown hK hP hD hS 0 rfl rfl 1 (by decide) (hts (.fieldLink RX4 15 "TurnedFloors$Reader" "length" "I") (by decide +kernel)) (fun _ h9 => h9) rfl (by decide +kernel) rfl rfl (Nat.le_of_ble_eq_true rfl) dX4_init_11 (fun H locs hP hD hS => ?_)
  have hP : va_P D vwCl [(h0, .inr (4, [.null, .int 0, .int 0, .null, .int 0, .int 0, .int 0, .int 0, .int 0, .int 0, .int 0]))] H := hP
  have hD : va_D A [(h0, .inr (4, [.null, .int 0, .int 0, .null, .int 0, .int 0, .int 0, .int 0, .int 0, .int 0, .int 0]))] := hD
  refine lv_aload_n hx hb dX4_init_14 rfl (lv_at hl 0 rfl) ?_
  refine lv_iconst (v := 0) hx hb dX4_init_15 (by decide) ?_
  refine va_put (D := D) (ci := 4) (v := .int 0) (ty := .boolean) (C := RX4) (T := TX4) (N := 11) hx hb hts (by decide +kernel) tyX4 tyX4_ok nmX4 hown hK hP hD hS 0 rfl rfl 2 (by decide) (hts (.fieldLink RX4 19 "TurnedFloors$Reader" "ofOrders" "Z") (by decide +kernel)) (fun _ h9 => h9) rfl (by decide +kernel) rfl rfl (Nat.le_of_ble_eq_true rfl) dX4_init_16 (fun H locs hP hD hS => ?_)
  have hP : va_P D vwCl [(h0, .inr (4, [.null, .int 0, .int 0, .null, .int 0, .int 0, .int 0, .int 0, .int 0, .int 0, .int 0]))] H := hP
  have hD : va_D A [(h0, .inr (4, [.null, .int 0, .int 0, .null, .int 0, .int 0, .int 0, .int 0, .int 0, .int 0, .int 0]))] := hD
  refine lv_aload_n hx hb dX4_init_19 rfl (lv_at hl 0 rfl) ?_
  refine lv_null hx hb dX4_init_20 ?_
  refine va_put (D := D) (ci := 4) (v := .null) (ty := .object "TurnedFloors$Text") (C := RX4) (T := TX4) (N := 11) hx hb hts (by decide +kernel) tyX4 tyX4_ok nmX4 hown hK hP hD hS 0 rfl rfl 3 (by decide) (hts (.fieldLink RX4 23 "TurnedFloors$Reader" "text" "LTurnedFloors$Text;") (by decide +kernel)) (fun _ h9 => h9) rfl (by decide +kernel) rfl rfl (Nat.le_of_ble_eq_true rfl) dX4_init_21 (fun H locs hP hD hS => ?_)
  have hP : va_P D vwCl [(h0, .inr (4, [.null, .int 0, .int 0, .null, .int 0, .int 0, .int 0, .int 0, .int 0, .int 0, .int 0]))] H := hP
  have hD : va_D A [(h0, .inr (4, [.null, .int 0, .int 0, .null, .int 0, .int 0, .int 0, .int 0, .int 0, .int 0, .int 0]))] := hD
  refine lv_aload_n hx hb dX4_init_24 rfl (lv_at hl 0 rfl) ?_
  refine lv_iconst (v := 0) hx hb dX4_init_25 (by decide) ?_
  refine va_put (D := D) (ci := 4) (v := .int 0) (ty := .int) (C := RX4) (T := TX4) (N := 11) hx hb hts (by decide +kernel) tyX4 tyX4_ok nmX4 hown hK hP hD hS 0 rfl rfl 4 (by decide) (hts (.fieldLink RX4 27 "TurnedFloors$Reader" "token" "I") (by decide +kernel)) (fun _ h9 => h9) rfl (by decide +kernel) rfl rfl (Nat.le_of_ble_eq_true rfl) dX4_init_26 (fun H locs hP hD hS => ?_)
  have hP : va_P D vwCl [(h0, .inr (4, [.null, .int 0, .int 0, .null, .int 0, .int 0, .int 0, .int 0, .int 0, .int 0, .int 0]))] H := hP
  have hD : va_D A [(h0, .inr (4, [.null, .int 0, .int 0, .null, .int 0, .int 0, .int 0, .int 0, .int 0, .int 0, .int 0]))] := hD
  refine lv_aload_n hx hb dX4_init_29 rfl (lv_at hl 0 rfl) ?_
  refine lv_iconst (v := 0) hx hb dX4_init_30 (by decide) ?_
  refine va_put (D := D) (ci := 4) (v := .int 0) (ty := .int) (C := RX4) (T := TX4) (N := 11) hx hb hts (by decide +kernel) tyX4 tyX4_ok nmX4 hown hK hP hD hS 0 rfl rfl 5 (by decide) (hts (.fieldLink RX4 30 "TurnedFloors$Reader" "start" "I") (by decide +kernel)) (fun _ h9 => h9) rfl (by decide +kernel) rfl rfl (Nat.le_of_ble_eq_true rfl) dX4_init_31 (fun H locs hP hD hS => ?_)
  have hP : va_P D vwCl [(h0, .inr (4, [.null, .int 0, .int 0, .null, .int 0, .int 0, .int 0, .int 0, .int 0, .int 0, .int 0]))] H := hP
  have hD : va_D A [(h0, .inr (4, [.null, .int 0, .int 0, .null, .int 0, .int 0, .int 0, .int 0, .int 0, .int 0, .int 0]))] := hD
  refine lv_aload_n hx hb dX4_init_34 rfl (lv_at hl 0 rfl) ?_
  refine lv_iconst (v := 0) hx hb dX4_init_35 (by decide) ?_
  refine va_put (D := D) (ci := 4) (v := .int 0) (ty := .int) (C := RX4) (T := TX4) (N := 11) hx hb hts (by decide +kernel) tyX4 tyX4_ok nmX4 hown hK hP hD hS 0 rfl rfl 6 (by decide) (hts (.fieldLink RX4 33 "TurnedFloors$Reader" "stop" "I") (by decide +kernel)) (fun _ h9 => h9) rfl (by decide +kernel) rfl rfl (Nat.le_of_ble_eq_true rfl) dX4_init_36 (fun H locs hP hD hS => ?_)
  have hP : va_P D vwCl [(h0, .inr (4, [.null, .int 0, .int 0, .null, .int 0, .int 0, .int 0, .int 0, .int 0, .int 0, .int 0]))] H := hP
  have hD : va_D A [(h0, .inr (4, [.null, .int 0, .int 0, .null, .int 0, .int 0, .int 0, .int 0, .int 0, .int 0, .int 0]))] := hD
  refine lv_aload_n hx hb dX4_init_39 rfl (lv_at hl 0 rfl) ?_
  refine lv_iconst (v := 0) hx hb dX4_init_40 (by decide) ?_
  refine va_put (D := D) (ci := 4) (v := .int 0) (ty := .int) (C := RX4) (T := TX4) (N := 11) hx hb hts (by decide +kernel) tyX4 tyX4_ok nmX4 hown hK hP hD hS 0 rfl rfl 7 (by decide) (hts (.fieldLink RX4 36 "TurnedFloors$Reader" "number" "I") (by decide +kernel)) (fun _ h9 => h9) rfl (by decide +kernel) rfl rfl (Nat.le_of_ble_eq_true rfl) dX4_init_41 (fun H locs hP hD hS => ?_)
  have hP : va_P D vwCl [(h0, .inr (4, [.null, .int 0, .int 0, .null, .int 0, .int 0, .int 0, .int 0, .int 0, .int 0, .int 0]))] H := hP
  have hD : va_D A [(h0, .inr (4, [.null, .int 0, .int 0, .null, .int 0, .int 0, .int 0, .int 0, .int 0, .int 0, .int 0]))] := hD
  refine lv_aload_n hx hb dX4_init_44 rfl (lv_at hl 0 rfl) ?_
  refine lv_iconst (v := 0) hx hb dX4_init_45 (by decide) ?_
  refine va_put (D := D) (ci := 4) (v := .int 0) (ty := .int) (C := RX4) (T := TX4) (N := 11) hx hb hts (by decide +kernel) tyX4 tyX4_ok nmX4 hown hK hP hD hS 0 rfl rfl 8 (by decide) (hts (.fieldLink RX4 39 "TurnedFloors$Reader" "parts" "I") (by decide +kernel)) (fun _ h9 => h9) rfl (by decide +kernel) rfl rfl (Nat.le_of_ble_eq_true rfl) dX4_init_46 (fun H locs hP hD hS => ?_)
  have hP : va_P D vwCl [(h0, .inr (4, [.null, .int 0, .int 0, .null, .int 0, .int 0, .int 0, .int 0, .int 0, .int 0, .int 0]))] H := hP
  have hD : va_D A [(h0, .inr (4, [.null, .int 0, .int 0, .null, .int 0, .int 0, .int 0, .int 0, .int 0, .int 0, .int 0]))] := hD
  refine lv_aload_n hx hb dX4_init_49 rfl (lv_at hl 0 rfl) ?_
  refine lv_iconst (v := 0) hx hb dX4_init_50 (by decide) ?_
  refine va_put (D := D) (ci := 4) (v := .int 0) (ty := .int) (C := RX4) (T := TX4) (N := 11) hx hb hts (by decide +kernel) tyX4 tyX4_ok nmX4 hown hK hP hD hS 0 rfl rfl 9 (by decide) (hts (.fieldLink RX4 42 "TurnedFloors$Reader" "open" "I") (by decide +kernel)) (fun _ h9 => h9) rfl (by decide +kernel) rfl rfl (Nat.le_of_ble_eq_true rfl) dX4_init_51 (fun H locs hP hD hS => ?_)
  have hP : va_P D vwCl [(h0, .inr (4, [.null, .int 0, .int 0, .null, .int 0, .int 0, .int 0, .int 0, .int 0, .int 0, .int 0]))] H := hP
  have hD : va_D A [(h0, .inr (4, [.null, .int 0, .int 0, .null, .int 0, .int 0, .int 0, .int 0, .int 0, .int 0, .int 0]))] := hD
  refine lv_aload_n hx hb dX4_init_54 rfl (lv_at hl 0 rfl) ?_
  refine lv_iconst (v := (-1)) hx hb dX4_init_55 (by decide) ?_
  refine va_put (D := D) (ci := 4) (v := .int (-1)) (ty := .int) (C := RX4) (T := TX4) (N := 11) hx hb hts (by decide +kernel) tyX4 tyX4_ok nmX4 hown hK hP hD hS 0 rfl rfl 10 (by decide) (hts (.fieldLink RX4 45 "TurnedFloors$Reader" "faultAt" "I") (by decide +kernel)) (fun _ h9 => h9) rfl (by decide +kernel) rfl rfl (Nat.le_of_ble_eq_true rfl) dX4_init_56 (fun H locs hP hD hS => ?_)
  have hP : va_P D vwCl [(h0, .inr (4, [.null, .int 0, .int 0, .null, .int 0, .int 0, .int 0, .int 0, .int 0, .int 0, .int (-1)]))] H := hP
  have hD : va_D A [(h0, .inr (4, [.null, .int 0, .int 0, .null, .int 0, .int 0, .int 0, .int 0, .int 0, .int 0, .int (-1)]))] := hD
  exact kz_vret hx hb hr hlocks hP hK hD hS dX4_init_59 rfl

set_option maxHeartbeats 4000000 in
set_option maxRecDepth 100000 in
theorem kcX1_init (l : Launch) (D : va_G) (ty : Nat → ClassId) (eo : Nat → Nat) (sz : Nat) (h0 p1 : Nat) (p1_v0 p1_v1 : Value) : Met l yX1_init wsX1_init ({ frames := 1, cells := 1, slots := 9, locals := 20 }) (va_Pc [.ref h0, .ref p1] (kz_pre D ty eo [(h0, .inr (1, [.null, .null, .null])), (p1, .inr (2, [p1_v0, p1_v1]))] sz)) (va_Qv (fun (u : va_W) => ∃ q_1 : Nat, [(h0, .inr (1, [.ref p1, .ref q_1, .null])), (p1, .inr (2, [p1_v0, p1_v1])), (q_1, .inl (ty 0, 9, .inl (fun _ => 0)))] = u) (kz_B D ty (va_A [(h0, .inr (1, [.null, .null, .null])), (p1, .inr (2, [p1_v0, p1_v1]))] sz)) (va_A [(h0, .inr (1, [.null, .null, .null])), (p1, .inr (2, [p1_v0, p1_v1]))] sz)) 1 9 (va_A [(h0, .inr (1, [.null, .null, .null])), (p1, .inr (2, [p1_v0, p1_v1]))] sz) := by
  refine Met.ofW (cc := cX1_init) (maxL := 2) (ret := none) (by decide) rfl ?_
  intro p e s m args below meth c s₁ B hml hv
  obtain ⟨rfl, hsz, hP, hK, hD0, hN, hE⟩ := hv
  have hx := B.exec
  have hb := B.bytes
  have hr := B.returns
  have hts := atoms_spec (ws := wsX1_init) B.pre
  have hown : s.vm.findClass RX1 = some m.cls := findClass_of_methodNamed B.named
  have hlocks := B.notSynchronized
  have hin : meth.name = "<init>" := (name_of_methodNamed B.named B.method).1
  subst hsz
  have hD := hD0.self (sz := s.heap.size)
  generalize hAe : va_A [(h0, .inr (1, [.null, .null, .null])), (p1, .inr (2, [p1_v0, p1_v1]))] s.heap.size = A at hD hE ⊢
  have hA : ∀ q : Nat, s.heap.size ≤ q → A q := fun q h => by rw [← hAe]; exact Or.inr h
  have hS : va_S A s.heap s.heap [] := va_S.rf
  have hl := lv_entry ([.ref h0, .ref p1]) (n := 2) (Nat.le_of_ble_eq_true rfl)
  rw [lg_entry_eq]
  generalize (lg_sl ([.ref h0, .ref p1]) ++ List.replicate (2 - (lg_sl ([.ref h0, .ref p1])).length) Slot.unset).toArray = ls at hl ⊢
  have hl : lv_has ls 2 [(0, .ref h0), (1, .ref p1)] := hl
  refine lv_aload_n hx hb dX1_init_0 rfl (lv_at hl 0 rfl) ?_
  refine W.objInit hx hb hown (hts (.methodLink RX1 3 objectInit) (by decide +kernel)) (hts (.instanceMethod objectInit) (by decide +kernel)) (hts (.code objectInit ⟨#[0xb1]⟩ 1 none) (by decide +kernel)) rfl (by rw [hml]; exact hl.1) rfl dX1_init_1 (Nat.le_of_ble_eq_true rfl) (Nat.le_of_ble_eq_true rfl) ?_
  refine W.eq (g2 := F0 m 4 ls []) rfl ?_
  refine lv_aload_n hx hb dX1_init_4 rfl (lv_at hl 0 rfl) ?_
  refine lv_bipush (v := 9) hx hb dX1_init_5 (by decide) ?_
  refine va_newa (atype := .int) (ty := .int) (N' := 9) (a0 := (9, .inl (fun _ => 0))) hx hb (hts (.arrayClass .int) (by decide +kernel)) rfl hK hP hD hS hA (fun _ => rfl) (by decide) (by decide) (by decide) (Nat.le_of_ble_eq_true rfl) (Nat.le_of_ble_eq_true rfl) dX1_init_7 (fun q_1 cA H hK2 hP hD hS => ?_)
  obtain rfl : cA = ty 0 := kz_cA (t0 := 0) (t1 := 6) hK2 rfl rfl rfl
  have hP : va_P D vwCl [(h0, .inr (1, [.null, .null, .null])), (p1, .inr (2, [p1_v0, p1_v1])), (q_1, .inl (ty 0, 9, .inl (fun _ => 0)))] H := hP
  have hD : va_D A [(h0, .inr (1, [.null, .null, .null])), (p1, .inr (2, [p1_v0, p1_v1])), (q_1, .inl (ty 0, 9, .inl (fun _ => 0)))] := hD
  refine va_putF (D := D) (ci := 1) (v := .ref q_1) (ty := .array .int) (C := RX1) (T := TX1) (N := 3) hx hb hts (by decide +kernel) tyX1 tyX1_ok nmX1 hown hK hP hD hS 0 rfl rfl 1 (by decide) (hts (.fieldLink RX1 11 "TurnedFloors$Judge" "words" "[I") (by decide +kernel)) (fun _ h9 => h9) rfl hin rfl (by decide +kernel) rfl rfl (Nat.le_of_ble_eq_true rfl) dX1_init_9 (fun H locs hP hD hS => ?_)
  have hP : va_P D vwCl [(h0, .inr (1, [.null, .ref q_1, .null])), (p1, .inr (2, [p1_v0, p1_v1])), (q_1, .inl (ty 0, 9, .inl (fun _ => 0)))] H := hP
  have hD : va_D A [(h0, .inr (1, [.null, .ref q_1, .null])), (p1, .inr (2, [p1_v0, p1_v1])), (q_1, .inl (ty 0, 9, .inl (fun _ => 0)))] := hD
  refine lv_aload_n hx hb dX1_init_12 rfl (lv_at hl 0 rfl) ?_
  refine lv_null hx hb dX1_init_13 ?_
  refine va_put (D := D) (ci := 1) (v := .null) (ty := .object "TurnedFloors$Text") (C := RX1) (T := TX1) (N := 3) hx hb hts (by decide +kernel) tyX1 tyX1_ok nmX1 hown hK hP hD hS 0 rfl rfl 2 (by decide) (hts (.fieldLink RX1 15 "TurnedFloors$Judge" "law" "LTurnedFloors$Text;") (by decide +kernel)) (fun _ h9 => h9) rfl (by decide +kernel) rfl rfl (Nat.le_of_ble_eq_true rfl) dX1_init_14 (fun H locs hP hD hS => ?_)
  have hP : va_P D vwCl [(h0, .inr (1, [.null, .ref q_1, .null])), (p1, .inr (2, [p1_v0, p1_v1])), (q_1, .inl (ty 0, 9, .inl (fun _ => 0)))] H := hP
  have hD : va_D A [(h0, .inr (1, [.null, .ref q_1, .null])), (p1, .inr (2, [p1_v0, p1_v1])), (q_1, .inl (ty 0, 9, .inl (fun _ => 0)))] := hD
  refine lv_aload_n hx hb dX1_init_17 rfl (lv_at hl 0 rfl) ?_
  refine lv_aload_n hx hb dX1_init_18 rfl (lv_at hl 1 rfl) ?_
  refine va_putF (D := D) (ci := 1) (v := .ref p1) (ty := .object "TurnedFloors$Machine") (C := RX1) (T := TX1) (N := 3) hx hb hts (by decide +kernel) tyX1 tyX1_ok nmX1 hown hK hP hD hS 0 rfl rfl 0 (by decide) (hts (.fieldLink RX1 19 "TurnedFloors$Judge" "machine" "LTurnedFloors$Machine;") (by decide +kernel)) (fun _ h9 => h9) rfl hin rfl (by decide +kernel) rfl rfl (Nat.le_of_ble_eq_true rfl) dX1_init_19 (fun H locs hP hD hS => ?_)
  have hP : va_P D vwCl [(h0, .inr (1, [.ref p1, .ref q_1, .null])), (p1, .inr (2, [p1_v0, p1_v1])), (q_1, .inl (ty 0, 9, .inl (fun _ => 0)))] H := hP
  have hD : va_D A [(h0, .inr (1, [.ref p1, .ref q_1, .null])), (p1, .inr (2, [p1_v0, p1_v1])), (q_1, .inl (ty 0, 9, .inl (fun _ => 0)))] := hD
  refine W.widen (k := 1) (n := 9) (Nat.le_of_ble_eq_true rfl) (Nat.le_of_ble_eq_true rfl) ?_
  exact kz_vret hx hb hr hlocks hP hK hD hS dX1_init_22 ⟨q_1, rfl⟩

set_option maxHeartbeats 4000000 in
set_option maxRecDepth 100000 in
theorem kcX5_init (l : Launch) (D : va_G) (ty : Nat → ClassId) (eo : Nat → Nat) (sz : Nat) (h0 p1 : Nat) (p1_v0 p1_v1 : Value) : Met l yX5_init wsX5_init ({ frames := 1, cells := 1, slots := 17, locals := 20 }) (va_Pc [.ref h0, .ref p1] (kz_pre D ty eo [(h0, .inr (5, [.null, .null, .int 0, .int 0])), (p1, .inr (2, [p1_v0, p1_v1]))] sz)) (va_Qv (fun (u : va_W) => ∃ q_1 : Nat, [(h0, .inr (5, [.ref p1, .ref q_1, .int 0, .int (-1)])), (p1, .inr (2, [p1_v0, p1_v1])), (q_1, .inl (ty 0, 17, .inl (fun _ => 0)))] = u) (kz_B D ty (va_A [(h0, .inr (5, [.null, .null, .int 0, .int 0])), (p1, .inr (2, [p1_v0, p1_v1]))] sz)) (va_A [(h0, .inr (5, [.null, .null, .int 0, .int 0])), (p1, .inr (2, [p1_v0, p1_v1]))] sz)) 1 17 (va_A [(h0, .inr (5, [.null, .null, .int 0, .int 0])), (p1, .inr (2, [p1_v0, p1_v1]))] sz) := by
  refine Met.ofW (cc := cX5_init) (maxL := 2) (ret := none) (by decide) rfl ?_
  intro p e s m args below meth c s₁ B hml hv
  obtain ⟨rfl, hsz, hP, hK, hD0, hN, hE⟩ := hv
  have hx := B.exec
  have hb := B.bytes
  have hr := B.returns
  have hts := atoms_spec (ws := wsX5_init) B.pre
  have hown : s.vm.findClass RX5 = some m.cls := findClass_of_methodNamed B.named
  have hlocks := B.notSynchronized
  have hin : meth.name = "<init>" := (name_of_methodNamed B.named B.method).1
  subst hsz
  have hD := hD0.self (sz := s.heap.size)
  generalize hAe : va_A [(h0, .inr (5, [.null, .null, .int 0, .int 0])), (p1, .inr (2, [p1_v0, p1_v1]))] s.heap.size = A at hD hE ⊢
  have hA : ∀ q : Nat, s.heap.size ≤ q → A q := fun q h => by rw [← hAe]; exact Or.inr h
  have hS : va_S A s.heap s.heap [] := va_S.rf
  have hl := lv_entry ([.ref h0, .ref p1]) (n := 2) (Nat.le_of_ble_eq_true rfl)
  rw [lg_entry_eq]
  generalize (lg_sl ([.ref h0, .ref p1]) ++ List.replicate (2 - (lg_sl ([.ref h0, .ref p1])).length) Slot.unset).toArray = ls at hl ⊢
  have hl : lv_has ls 2 [(0, .ref h0), (1, .ref p1)] := hl
  refine lv_aload_n hx hb dX5_init_0 rfl (lv_at hl 0 rfl) ?_
  refine W.objInit hx hb hown (hts (.methodLink RX5 5 objectInit) (by decide +kernel)) (hts (.instanceMethod objectInit) (by decide +kernel)) (hts (.code objectInit ⟨#[0xb1]⟩ 1 none) (by decide +kernel)) rfl (by rw [hml]; exact hl.1) rfl dX5_init_1 (Nat.le_of_ble_eq_true rfl) (Nat.le_of_ble_eq_true rfl) ?_
  refine W.eq (g2 := F0 m 4 ls []) rfl ?_
  refine lv_aload_n hx hb dX5_init_4 rfl (lv_at hl 0 rfl) ?_
  refine lv_bipush (v := 17) hx hb dX5_init_5 (by decide) ?_
  refine va_newa (atype := .int) (ty := .int) (N' := 17) (a0 := (17, .inl (fun _ => 0))) hx hb (hts (.arrayClass .int) (by decide +kernel)) rfl hK hP hD hS hA (fun _ => rfl) (by decide) (by decide) (by decide) (Nat.le_of_ble_eq_true rfl) (Nat.le_of_ble_eq_true rfl) dX5_init_7 (fun q_1 cA H hK2 hP hD hS => ?_)
  obtain rfl : cA = ty 0 := kz_cA (t0 := 0) (t1 := 6) hK2 rfl rfl rfl
  have hP : va_P D vwCl [(h0, .inr (5, [.null, .null, .int 0, .int 0])), (p1, .inr (2, [p1_v0, p1_v1])), (q_1, .inl (ty 0, 17, .inl (fun _ => 0)))] H := hP
  have hD : va_D A [(h0, .inr (5, [.null, .null, .int 0, .int 0])), (p1, .inr (2, [p1_v0, p1_v1])), (q_1, .inl (ty 0, 17, .inl (fun _ => 0)))] := hD
  refine va_putF (D := D) (ci := 5) (v := .ref q_1) (ty := .array .int) (C := RX5) (T := TX5) (N := 4) hx hb hts (by decide +kernel) tyX5 tyX5_ok nmX5 hown hK hP hD hS 0 rfl rfl 1 (by decide) (hts (.fieldLink RX5 11 "TurnedFloors$Runner" "words" "[I") (by decide +kernel)) (fun _ h9 => h9) rfl hin rfl (by decide +kernel) rfl rfl (Nat.le_of_ble_eq_true rfl) dX5_init_9 (fun H locs hP hD hS => ?_)
  have hP : va_P D vwCl [(h0, .inr (5, [.null, .ref q_1, .int 0, .int 0])), (p1, .inr (2, [p1_v0, p1_v1])), (q_1, .inl (ty 0, 17, .inl (fun _ => 0)))] H := hP
  have hD : va_D A [(h0, .inr (5, [.null, .ref q_1, .int 0, .int 0])), (p1, .inr (2, [p1_v0, p1_v1])), (q_1, .inl (ty 0, 17, .inl (fun _ => 0)))] := hD
  refine lv_aload_n hx hb dX5_init_12 rfl (lv_at hl 0 rfl) ?_
  refine lv_iconst (v := 0) hx hb dX5_init_13 (by decide) ?_
  refine va_put (D := D) (ci := 5) (v := .int 0) (ty := .int) (C := RX5) (T := TX5) (N := 4) hx hb hts (by decide +kernel) tyX5 tyX5_ok nmX5 hown hK hP hD hS 0 rfl rfl 2 (by decide) (hts (.fieldLink RX5 15 "TurnedFloors$Runner" "done" "I") (by decide +kernel)) (fun _ h9 => h9) rfl (by decide +kernel) rfl rfl (Nat.le_of_ble_eq_true rfl) dX5_init_14 (fun H locs hP hD hS => ?_)
  have hP : va_P D vwCl [(h0, .inr (5, [.null, .ref q_1, .int 0, .int 0])), (p1, .inr (2, [p1_v0, p1_v1])), (q_1, .inl (ty 0, 17, .inl (fun _ => 0)))] H := hP
  have hD : va_D A [(h0, .inr (5, [.null, .ref q_1, .int 0, .int 0])), (p1, .inr (2, [p1_v0, p1_v1])), (q_1, .inl (ty 0, 17, .inl (fun _ => 0)))] := hD
  refine lv_aload_n hx hb dX5_init_17 rfl (lv_at hl 0 rfl) ?_
  refine lv_iconst (v := (-1)) hx hb dX5_init_18 (by decide) ?_
  refine va_put (D := D) (ci := 5) (v := .int (-1)) (ty := .int) (C := RX5) (T := TX5) (N := 4) hx hb hts (by decide +kernel) tyX5 tyX5_ok nmX5 hown hK hP hD hS 0 rfl rfl 3 (by decide) (hts (.fieldLink RX5 19 "TurnedFloors$Runner" "latest" "I") (by decide +kernel)) (fun _ h9 => h9) rfl (by decide +kernel) rfl rfl (Nat.le_of_ble_eq_true rfl) dX5_init_19 (fun H locs hP hD hS => ?_)
  have hP : va_P D vwCl [(h0, .inr (5, [.null, .ref q_1, .int 0, .int (-1)])), (p1, .inr (2, [p1_v0, p1_v1])), (q_1, .inl (ty 0, 17, .inl (fun _ => 0)))] H := hP
  have hD : va_D A [(h0, .inr (5, [.null, .ref q_1, .int 0, .int (-1)])), (p1, .inr (2, [p1_v0, p1_v1])), (q_1, .inl (ty 0, 17, .inl (fun _ => 0)))] := hD
  refine lv_aload_n hx hb dX5_init_22 rfl (lv_at hl 0 rfl) ?_
  refine lv_aload_n hx hb dX5_init_23 rfl (lv_at hl 1 rfl) ?_
  refine va_putF (D := D) (ci := 5) (v := .ref p1) (ty := .object "TurnedFloors$Machine") (C := RX5) (T := TX5) (N := 4) hx hb hts (by decide +kernel) tyX5 tyX5_ok nmX5 hown hK hP hD hS 0 rfl rfl 0 (by decide) (hts (.fieldLink RX5 22 "TurnedFloors$Runner" "machine" "LTurnedFloors$Machine;") (by decide +kernel)) (fun _ h9 => h9) rfl hin rfl (by decide +kernel) rfl rfl (Nat.le_of_ble_eq_true rfl) dX5_init_24 (fun H locs hP hD hS => ?_)
  have hP : va_P D vwCl [(h0, .inr (5, [.ref p1, .ref q_1, .int 0, .int (-1)])), (p1, .inr (2, [p1_v0, p1_v1])), (q_1, .inl (ty 0, 17, .inl (fun _ => 0)))] H := hP
  have hD : va_D A [(h0, .inr (5, [.ref p1, .ref q_1, .int 0, .int (-1)])), (p1, .inr (2, [p1_v0, p1_v1])), (q_1, .inl (ty 0, 17, .inl (fun _ => 0)))] := hD
  refine W.widen (k := 1) (n := 17) (Nat.le_of_ble_eq_true rfl) (Nat.le_of_ble_eq_true rfl) ?_
  exact kz_vret hx hb hr hlocks hP hK hD hS dX5_init_27 ⟨q_1, rfl⟩

set_option maxHeartbeats 4000000 in
set_option maxRecDepth 100000 in
theorem kcX6_init (l : Launch) (D : va_G) (ty : Nat → ClassId) (eo : Nat → Nat) (sz : Nat) (h0 : Nat) : Met l yX6_init wsX6_init ({ frames := 2, cells := 6, slots := 35, locals := 40 }) (va_Pc [.ref h0] (kz_pre D ty eo [(h0, .inr (6, [.null, .int 0, .int 0, .int 0, .null, .null, .int 0, .null, .int 0, .int 0]))] sz)) (va_Qv (fun (u : va_W) => ∃ q_1 q_2 q_3 q_4 q_5 q_6 : Nat, [(h0, .inr (6, [.ref q_1, .int 1, .int 0, .int 0, .ref q_4, .ref q_5, .int 0, .ref q_6, .int 0, .int (-1)])), (q_1, .inr (8, [.ref q_2, .ref q_3, .int 0, .int 0, .int 0])), (q_2, .inl (ty 0, 6, .inl (fun _ => 0))), (q_3, .inl (ty 0, 6, .inl (fun _ => 0))), (q_4, .inl (ty 0, 6, .inl (fun _ => 0))), (q_5, .inl (ty 0, 6, .inl (fun _ => 0))), (q_6, .inl (ty 5, 6, .inr (.inr (.inr (.inr (fun _ => none))))))] = u) (kz_B D ty (va_A [(h0, .inr (6, [.null, .int 0, .int 0, .int 0, .null, .null, .int 0, .null, .int 0, .int 0]))] sz)) (va_A [(h0, .inr (6, [.null, .int 0, .int 0, .int 0, .null, .null, .int 0, .null, .int 0, .int 0]))] sz)) 6 35 (va_A [(h0, .inr (6, [.null, .int 0, .int 0, .int 0, .null, .null, .int 0, .null, .int 0, .int 0]))] sz) := by
  refine Met.ofW (cc := cX6_init) (maxL := 1) (ret := none) (by decide) rfl ?_
  intro p e s m args below meth c s₁ B hml hv
  obtain ⟨rfl, hsz, hP, hK, hD0, hN, hE⟩ := hv
  have hx := B.exec
  have hb := B.bytes
  have hr := B.returns
  have hts := atoms_spec (ws := wsX6_init) B.pre
  have hown : s.vm.findClass RX6 = some m.cls := findClass_of_methodNamed B.named
  have hlocks := B.notSynchronized
  have hin : meth.name = "<init>" := (name_of_methodNamed B.named B.method).1
  subst hsz
  have hD := hD0.self (sz := s.heap.size)
  generalize hAe : va_A [(h0, .inr (6, [.null, .int 0, .int 0, .int 0, .null, .null, .int 0, .null, .int 0, .int 0]))] s.heap.size = A at hD hE ⊢
  have hA : ∀ q : Nat, s.heap.size ≤ q → A q := fun q h => by rw [← hAe]; exact Or.inr h
  have hS : va_S A s.heap s.heap [] := va_S.rf
  have hl := lv_entry ([.ref h0]) (n := 1) (Nat.le_of_ble_eq_true rfl)
  rw [lg_entry_eq]
  generalize (lg_sl ([.ref h0]) ++ List.replicate (1 - (lg_sl ([.ref h0])).length) Slot.unset).toArray = ls at hl ⊢
  have hl : lv_has ls 1 [(0, .ref h0)] := hl
  refine lv_aload_n hx hb dX6_init_0 rfl (lv_at hl 0 rfl) ?_
  refine W.objInit hx hb hown (hts (.methodLink RX6 3 objectInit) (by decide +kernel)) (hts (.instanceMethod objectInit) (by decide +kernel)) (hts (.code objectInit ⟨#[0xb1]⟩ 1 none) (by decide +kernel)) rfl (by rw [hml]; exact hl.1) rfl dX6_init_1 (Nat.le_of_ble_eq_true rfl) (Nat.le_of_ble_eq_true rfl) ?_
  refine W.eq (g2 := F0 m 4 ls []) rfl ?_
  refine lv_aload_n hx hb dX6_init_4 rfl (lv_at hl 0 rfl) ?_
  refine va_new (ci := 8) (fs := [.null, .null, .int 0, .int 0, .int 0]) (C := RX8) (T := TX8) (N := 5) hx hb hts (by decide +kernel) tyX8 tyX8_ok hown (hts (.classLink RX6 9 RX8) (by decide +kernel)) (hts (.instantiable RX8 5) (by decide +kernel)) (hts (.initialized RX8) (by decide +kernel)) hK hP hD hS hA rfl (by decide +kernel) (Nat.le_of_ble_eq_true rfl) (Nat.le_of_ble_eq_true rfl) dX6_init_5 (fun q_1 H hP hD hS => ?_)
  have hP : va_P D vwCl [(h0, .inr (6, [.null, .int 0, .int 0, .int 0, .null, .null, .int 0, .null, .int 0, .int 0])), (q_1, .inr (8, [.null, .null, .int 0, .int 0, .int 0]))] H := hP
  have hD : va_D A [(h0, .inr (6, [.null, .int 0, .int 0, .int 0, .null, .null, .int 0, .null, .int 0, .int 0])), (q_1, .inr (8, [.null, .null, .int 0, .int 0, .int 0]))] := hD
  refine lv_dup hx hb dX6_init_8 rfl ?_
  refine kz_kv (wc := [(q_1, .inr (8, [.null, .null, .int 0, .int 0, .int 0]))]) (wr := [(h0, .inr (6, [.null, .int 0, .int 0, .int 0, .null, .null, .int 0, .null, .int 0, .int 0]))]) (va_runIN (As := []) (rest := [.ref q_1, .ref h0]) ⟨hx, hb, hml, hown, hts⟩ (kcX8_init l D ty eo _ q_1) ⟨va_cnB 0 hts gX6_init_X8_init_n11 rfl rfl rfl (hN.1 _ (by decide +kernel : (.methodLinkNest "TurnedFloors$State" 11 yX8_init "TurnedFloors" : Cond) ∈ kzN1)) (hts (.initialized RX8) (by decide +kernel)) (by decide +kernel) ⟨Nat.le_of_ble_eq_true rfl, Nat.le_of_ble_eq_true rfl⟩, rfl, hts (.instanceMethod yX8_init) (by decide +kernel)⟩ (kz_preS hK hN hE hP hD hS hA [1] (by decide) rfl) rfl rfl hl.1 rfl (lv_room (Nat.le_of_ble_eq_true rfl)) dX6_init_9 ⟨Nat.le_of_ble_eq_true rfl, Nat.le_of_ble_eq_true rfl⟩) hP hD hS hA [1] [0] rfl rfl (by decide) (by decide) (fun u H locs hw hP hD hS => ?_)
  obtain ⟨q_2, q_3, rfl⟩ := hw
  have hP : va_P D vwCl [(h0, .inr (6, [.null, .int 0, .int 0, .int 0, .null, .null, .int 0, .null, .int 0, .int 0])), (q_1, .inr (8, [.ref q_2, .ref q_3, .int 0, .int 0, .int 0])), (q_2, .inl (ty 0, 6, .inl (fun _ => 0))), (q_3, .inl (ty 0, 6, .inl (fun _ => 0)))] H := hP
  have hD : va_D A [(h0, .inr (6, [.null, .int 0, .int 0, .int 0, .null, .null, .int 0, .null, .int 0, .int 0])), (q_1, .inr (8, [.ref q_2, .ref q_3, .int 0, .int 0, .int 0])), (q_2, .inl (ty 0, 6, .inl (fun _ => 0))), (q_3, .inl (ty 0, 6, .inl (fun _ => 0)))] := hD
  refine va_putF (D := D) (ci := 6) (v := .ref q_1) (ty := .object "TurnedFloors$Tower") (C := RX6) (T := TX6) (N := 10) hx hb hts (by decide +kernel) tyX6 tyX6_ok nmX6 hown hK hP hD hS 0 rfl rfl 0 (by decide) (hts (.fieldLink RX6 12 "TurnedFloors$State" "tower" "LTurnedFloors$Tower;") (by decide +kernel)) (fun _ h9 => h9) rfl hin rfl (by decide +kernel) rfl rfl (Nat.le_of_ble_eq_true rfl) dX6_init_12 (fun H locs hP hD hS => ?_)
  have hP : va_P D vwCl [(h0, .inr (6, [.ref q_1, .int 0, .int 0, .int 0, .null, .null, .int 0, .null, .int 0, .int 0])), (q_1, .inr (8, [.ref q_2, .ref q_3, .int 0, .int 0, .int 0])), (q_2, .inl (ty 0, 6, .inl (fun _ => 0))), (q_3, .inl (ty 0, 6, .inl (fun _ => 0)))] H := hP
  have hD : va_D A [(h0, .inr (6, [.ref q_1, .int 0, .int 0, .int 0, .null, .null, .int 0, .null, .int 0, .int 0])), (q_1, .inr (8, [.ref q_2, .ref q_3, .int 0, .int 0, .int 0])), (q_2, .inl (ty 0, 6, .inl (fun _ => 0))), (q_3, .inl (ty 0, 6, .inl (fun _ => 0)))] := hD
  refine lv_aload_n hx hb dX6_init_15 rfl (lv_at hl 0 rfl) ?_
  refine lv_iconst (v := 1) hx hb dX6_init_16 (by decide) ?_
  refine va_put (D := D) (ci := 6) (v := .int 1) (ty := .int) (C := RX6) (T := TX6) (N := 10) hx hb hts (by decide +kernel) tyX6 tyX6_ok nmX6 hown hK hP hD hS 0 rfl rfl 1 (by decide) (hts (.fieldLink RX6 18 "TurnedFloors$State" "slips" "I") (by decide +kernel)) (fun _ h9 => h9) rfl (by decide +kernel) rfl rfl (Nat.le_of_ble_eq_true rfl) dX6_init_17 (fun H locs hP hD hS => ?_)
  have hP : va_P D vwCl [(h0, .inr (6, [.ref q_1, .int 1, .int 0, .int 0, .null, .null, .int 0, .null, .int 0, .int 0])), (q_1, .inr (8, [.ref q_2, .ref q_3, .int 0, .int 0, .int 0])), (q_2, .inl (ty 0, 6, .inl (fun _ => 0))), (q_3, .inl (ty 0, 6, .inl (fun _ => 0)))] H := hP
  have hD : va_D A [(h0, .inr (6, [.ref q_1, .int 1, .int 0, .int 0, .null, .null, .int 0, .null, .int 0, .int 0])), (q_1, .inr (8, [.ref q_2, .ref q_3, .int 0, .int 0, .int 0])), (q_2, .inl (ty 0, 6, .inl (fun _ => 0))), (q_3, .inl (ty 0, 6, .inl (fun _ => 0)))] := hD
  refine lv_aload_n hx hb dX6_init_20 rfl (lv_at hl 0 rfl) ?_
  refine lv_iconst (v := 0) hx hb dX6_init_21 (by decide) ?_
  refine va_put (D := D) (ci := 6) (v := .int 0) (ty := .int) (C := RX6) (T := TX6) (N := 10) hx hb hts (by decide +kernel) tyX6 tyX6_ok nmX6 hown hK hP hD hS 0 rfl rfl 2 (by decide) (hts (.fieldLink RX6 22 "TurnedFloors$State" "mood" "I") (by decide +kernel)) (fun _ h9 => h9) rfl (by decide +kernel) rfl rfl (Nat.le_of_ble_eq_true rfl) dX6_init_22 (fun H locs hP hD hS => ?_)
  have hP : va_P D vwCl [(h0, .inr (6, [.ref q_1, .int 1, .int 0, .int 0, .null, .null, .int 0, .null, .int 0, .int 0])), (q_1, .inr (8, [.ref q_2, .ref q_3, .int 0, .int 0, .int 0])), (q_2, .inl (ty 0, 6, .inl (fun _ => 0))), (q_3, .inl (ty 0, 6, .inl (fun _ => 0)))] H := hP
  have hD : va_D A [(h0, .inr (6, [.ref q_1, .int 1, .int 0, .int 0, .null, .null, .int 0, .null, .int 0, .int 0])), (q_1, .inr (8, [.ref q_2, .ref q_3, .int 0, .int 0, .int 0])), (q_2, .inl (ty 0, 6, .inl (fun _ => 0))), (q_3, .inl (ty 0, 6, .inl (fun _ => 0)))] := hD
  refine lv_aload_n hx hb dX6_init_25 rfl (lv_at hl 0 rfl) ?_
  refine lv_iconst (v := 0) hx hb dX6_init_26 (by decide) ?_
  refine va_put (D := D) (ci := 6) (v := .int 0) (ty := .int) (C := RX6) (T := TX6) (N := 10) hx hb hts (by decide +kernel) tyX6 tyX6_ok nmX6 hown hK hP hD hS 0 rfl rfl 3 (by decide) (hts (.fieldLink RX6 25 "TurnedFloors$State" "headsMatter" "I") (by decide +kernel)) (fun _ h9 => h9) rfl (by decide +kernel) rfl rfl (Nat.le_of_ble_eq_true rfl) dX6_init_27 (fun H locs hP hD hS => ?_)
  have hP : va_P D vwCl [(h0, .inr (6, [.ref q_1, .int 1, .int 0, .int 0, .null, .null, .int 0, .null, .int 0, .int 0])), (q_1, .inr (8, [.ref q_2, .ref q_3, .int 0, .int 0, .int 0])), (q_2, .inl (ty 0, 6, .inl (fun _ => 0))), (q_3, .inl (ty 0, 6, .inl (fun _ => 0)))] H := hP
  have hD : va_D A [(h0, .inr (6, [.ref q_1, .int 1, .int 0, .int 0, .null, .null, .int 0, .null, .int 0, .int 0])), (q_1, .inr (8, [.ref q_2, .ref q_3, .int 0, .int 0, .int 0])), (q_2, .inl (ty 0, 6, .inl (fun _ => 0))), (q_3, .inl (ty 0, 6, .inl (fun _ => 0)))] := hD
  refine lv_aload_n hx hb dX6_init_30 rfl (lv_at hl 0 rfl) ?_
  refine lv_bipush (v := 6) hx hb dX6_init_31 (by decide) ?_
  refine va_newa (atype := .int) (ty := .int) (N' := 6) (a0 := (6, .inl (fun _ => 0))) hx hb (hts (.arrayClass .int) (by decide +kernel)) rfl hK hP hD hS hA (fun _ => rfl) (by decide) (by decide) (by decide) (Nat.le_of_ble_eq_true rfl) (Nat.le_of_ble_eq_true rfl) dX6_init_33 (fun q_4 cA H hK2 hP hD hS => ?_)
  obtain rfl : cA = ty 0 := kz_cA (t0 := 0) (t1 := 6) hK2 rfl rfl rfl
  have hP : va_P D vwCl [(h0, .inr (6, [.ref q_1, .int 1, .int 0, .int 0, .null, .null, .int 0, .null, .int 0, .int 0])), (q_1, .inr (8, [.ref q_2, .ref q_3, .int 0, .int 0, .int 0])), (q_2, .inl (ty 0, 6, .inl (fun _ => 0))), (q_3, .inl (ty 0, 6, .inl (fun _ => 0))), (q_4, .inl (ty 0, 6, .inl (fun _ => 0)))] H := hP
  have hD : va_D A [(h0, .inr (6, [.ref q_1, .int 1, .int 0, .int 0, .null, .null, .int 0, .null, .int 0, .int 0])), (q_1, .inr (8, [.ref q_2, .ref q_3, .int 0, .int 0, .int 0])), (q_2, .inl (ty 0, 6, .inl (fun _ => 0))), (q_3, .inl (ty 0, 6, .inl (fun _ => 0))), (q_4, .inl (ty 0, 6, .inl (fun _ => 0)))] := hD
  refine va_putF (D := D) (ci := 6) (v := .ref q_4) (ty := .array .int) (C := RX6) (T := TX6) (N := 10) hx hb hts (by decide +kernel) tyX6 tyX6_ok nmX6 hown hK hP hD hS 0 rfl rfl 4 (by decide) (hts (.fieldLink RX6 28 "TurnedFloors$State" "seenPlace" "[I") (by decide +kernel)) (fun _ h9 => h9) rfl hin rfl (by decide +kernel) rfl rfl (Nat.le_of_ble_eq_true rfl) dX6_init_35 (fun H locs hP hD hS => ?_)
  have hP : va_P D vwCl [(h0, .inr (6, [.ref q_1, .int 1, .int 0, .int 0, .ref q_4, .null, .int 0, .null, .int 0, .int 0])), (q_1, .inr (8, [.ref q_2, .ref q_3, .int 0, .int 0, .int 0])), (q_2, .inl (ty 0, 6, .inl (fun _ => 0))), (q_3, .inl (ty 0, 6, .inl (fun _ => 0))), (q_4, .inl (ty 0, 6, .inl (fun _ => 0)))] H := hP
  have hD : va_D A [(h0, .inr (6, [.ref q_1, .int 1, .int 0, .int 0, .ref q_4, .null, .int 0, .null, .int 0, .int 0])), (q_1, .inr (8, [.ref q_2, .ref q_3, .int 0, .int 0, .int 0])), (q_2, .inl (ty 0, 6, .inl (fun _ => 0))), (q_3, .inl (ty 0, 6, .inl (fun _ => 0))), (q_4, .inl (ty 0, 6, .inl (fun _ => 0)))] := hD
  refine lv_aload_n hx hb dX6_init_38 rfl (lv_at hl 0 rfl) ?_
  refine lv_bipush (v := 6) hx hb dX6_init_39 (by decide) ?_
  refine va_newa (atype := .int) (ty := .int) (N' := 6) (a0 := (6, .inl (fun _ => 0))) hx hb (hts (.arrayClass .int) (by decide +kernel)) rfl hK hP hD hS hA (fun _ => rfl) (by decide) (by decide) (by decide) (Nat.le_of_ble_eq_true rfl) (Nat.le_of_ble_eq_true rfl) dX6_init_41 (fun q_5 cA H hK2 hP hD hS => ?_)
  obtain rfl : cA = ty 0 := kz_cA (t0 := 0) (t1 := 6) hK2 rfl rfl rfl
  have hP : va_P D vwCl [(h0, .inr (6, [.ref q_1, .int 1, .int 0, .int 0, .ref q_4, .null, .int 0, .null, .int 0, .int 0])), (q_1, .inr (8, [.ref q_2, .ref q_3, .int 0, .int 0, .int 0])), (q_2, .inl (ty 0, 6, .inl (fun _ => 0))), (q_3, .inl (ty 0, 6, .inl (fun _ => 0))), (q_4, .inl (ty 0, 6, .inl (fun _ => 0))), (q_5, .inl (ty 0, 6, .inl (fun _ => 0)))] H := hP
  have hD : va_D A [(h0, .inr (6, [.ref q_1, .int 1, .int 0, .int 0, .ref q_4, .null, .int 0, .null, .int 0, .int 0])), (q_1, .inr (8, [.ref q_2, .ref q_3, .int 0, .int 0, .int 0])), (q_2, .inl (ty 0, 6, .inl (fun _ => 0))), (q_3, .inl (ty 0, 6, .inl (fun _ => 0))), (q_4, .inl (ty 0, 6, .inl (fun _ => 0))), (q_5, .inl (ty 0, 6, .inl (fun _ => 0)))] := hD
  refine va_putF (D := D) (ci := 6) (v := .ref q_5) (ty := .array .int) (C := RX6) (T := TX6) (N := 10) hx hb hts (by decide +kernel) tyX6 tyX6_ok nmX6 hown hK hP hD hS 0 rfl rfl 5 (by decide) (hts (.fieldLink RX6 32 "TurnedFloors$State" "seenRank" "[I") (by decide +kernel)) (fun _ h9 => h9) rfl hin rfl (by decide +kernel) rfl rfl (Nat.le_of_ble_eq_true rfl) dX6_init_43 (fun H locs hP hD hS => ?_)
  have hP : va_P D vwCl [(h0, .inr (6, [.ref q_1, .int 1, .int 0, .int 0, .ref q_4, .ref q_5, .int 0, .null, .int 0, .int 0])), (q_1, .inr (8, [.ref q_2, .ref q_3, .int 0, .int 0, .int 0])), (q_2, .inl (ty 0, 6, .inl (fun _ => 0))), (q_3, .inl (ty 0, 6, .inl (fun _ => 0))), (q_4, .inl (ty 0, 6, .inl (fun _ => 0))), (q_5, .inl (ty 0, 6, .inl (fun _ => 0)))] H := hP
  have hD : va_D A [(h0, .inr (6, [.ref q_1, .int 1, .int 0, .int 0, .ref q_4, .ref q_5, .int 0, .null, .int 0, .int 0])), (q_1, .inr (8, [.ref q_2, .ref q_3, .int 0, .int 0, .int 0])), (q_2, .inl (ty 0, 6, .inl (fun _ => 0))), (q_3, .inl (ty 0, 6, .inl (fun _ => 0))), (q_4, .inl (ty 0, 6, .inl (fun _ => 0))), (q_5, .inl (ty 0, 6, .inl (fun _ => 0)))] := hD
  refine lv_aload_n hx hb dX6_init_46 rfl (lv_at hl 0 rfl) ?_
  refine lv_iconst (v := 0) hx hb dX6_init_47 (by decide) ?_
  refine va_put (D := D) (ci := 6) (v := .int 0) (ty := .int) (C := RX6) (T := TX6) (N := 10) hx hb hts (by decide +kernel) tyX6 tyX6_ok nmX6 hown hK hP hD hS 0 rfl rfl 6 (by decide) (hts (.fieldLink RX6 35 "TurnedFloors$State" "seenCount" "I") (by decide +kernel)) (fun _ h9 => h9) rfl (by decide +kernel) rfl rfl (Nat.le_of_ble_eq_true rfl) dX6_init_48 (fun H locs hP hD hS => ?_)
  have hP : va_P D vwCl [(h0, .inr (6, [.ref q_1, .int 1, .int 0, .int 0, .ref q_4, .ref q_5, .int 0, .null, .int 0, .int 0])), (q_1, .inr (8, [.ref q_2, .ref q_3, .int 0, .int 0, .int 0])), (q_2, .inl (ty 0, 6, .inl (fun _ => 0))), (q_3, .inl (ty 0, 6, .inl (fun _ => 0))), (q_4, .inl (ty 0, 6, .inl (fun _ => 0))), (q_5, .inl (ty 0, 6, .inl (fun _ => 0)))] H := hP
  have hD : va_D A [(h0, .inr (6, [.ref q_1, .int 1, .int 0, .int 0, .ref q_4, .ref q_5, .int 0, .null, .int 0, .int 0])), (q_1, .inr (8, [.ref q_2, .ref q_3, .int 0, .int 0, .int 0])), (q_2, .inl (ty 0, 6, .inl (fun _ => 0))), (q_3, .inl (ty 0, 6, .inl (fun _ => 0))), (q_4, .inl (ty 0, 6, .inl (fun _ => 0))), (q_5, .inl (ty 0, 6, .inl (fun _ => 0)))] := hD
  refine lv_aload_n hx hb dX6_init_51 rfl (lv_at hl 0 rfl) ?_
  refine lv_bipush (v := 6) hx hb dX6_init_52 (by decide) ?_
  refine va_newq (N' := 6) hx hb hown (hts (.classLink RX6 38 RX7) (by decide +kernel)) hN.2.2 hK hP hD hS hA (by decide) (by decide) (by decide) (Nat.le_of_ble_eq_true rfl) (Nat.le_of_ble_eq_true rfl) dX6_init_54 (fun q_6 cA H hK2 hP hD hS => ?_)
  obtain rfl : cA = ty 5 := kz_cAo (t0 := 5) (t1 := 6) hK2 rfl rfl
  have hP : va_P D vwCl [(h0, .inr (6, [.ref q_1, .int 1, .int 0, .int 0, .ref q_4, .ref q_5, .int 0, .null, .int 0, .int 0])), (q_1, .inr (8, [.ref q_2, .ref q_3, .int 0, .int 0, .int 0])), (q_2, .inl (ty 0, 6, .inl (fun _ => 0))), (q_3, .inl (ty 0, 6, .inl (fun _ => 0))), (q_4, .inl (ty 0, 6, .inl (fun _ => 0))), (q_5, .inl (ty 0, 6, .inl (fun _ => 0))), (q_6, .inl (ty 5, 6, .inr (.inr (.inr (.inr (fun _ => none))))))] H := hP
  have hD : va_D A [(h0, .inr (6, [.ref q_1, .int 1, .int 0, .int 0, .ref q_4, .ref q_5, .int 0, .null, .int 0, .int 0])), (q_1, .inr (8, [.ref q_2, .ref q_3, .int 0, .int 0, .int 0])), (q_2, .inl (ty 0, 6, .inl (fun _ => 0))), (q_3, .inl (ty 0, 6, .inl (fun _ => 0))), (q_4, .inl (ty 0, 6, .inl (fun _ => 0))), (q_5, .inl (ty 0, 6, .inl (fun _ => 0))), (q_6, .inl (ty 5, 6, .inr (.inr (.inr (.inr (fun _ => none))))))] := hD
  refine va_putF (D := D) (ci := 6) (v := .ref q_6) (ty := .array (.object "TurnedFloors$Text")) (C := RX6) (T := TX6) (N := 10) hx hb hts (by decide +kernel) tyX6 tyX6_ok nmX6 hown hK hP hD hS 0 rfl rfl 7 (by decide) (hts (.fieldLink RX6 40 "TurnedFloors$State" "laws" "[LTurnedFloors$Text;") (by decide +kernel)) (fun _ h9 => h9) rfl hin rfl (by decide +kernel) rfl rfl (Nat.le_of_ble_eq_true rfl) dX6_init_57 (fun H locs hP hD hS => ?_)
  have hP : va_P D vwCl [(h0, .inr (6, [.ref q_1, .int 1, .int 0, .int 0, .ref q_4, .ref q_5, .int 0, .ref q_6, .int 0, .int 0])), (q_1, .inr (8, [.ref q_2, .ref q_3, .int 0, .int 0, .int 0])), (q_2, .inl (ty 0, 6, .inl (fun _ => 0))), (q_3, .inl (ty 0, 6, .inl (fun _ => 0))), (q_4, .inl (ty 0, 6, .inl (fun _ => 0))), (q_5, .inl (ty 0, 6, .inl (fun _ => 0))), (q_6, .inl (ty 5, 6, .inr (.inr (.inr (.inr (fun _ => none))))))] H := hP
  have hD : va_D A [(h0, .inr (6, [.ref q_1, .int 1, .int 0, .int 0, .ref q_4, .ref q_5, .int 0, .ref q_6, .int 0, .int 0])), (q_1, .inr (8, [.ref q_2, .ref q_3, .int 0, .int 0, .int 0])), (q_2, .inl (ty 0, 6, .inl (fun _ => 0))), (q_3, .inl (ty 0, 6, .inl (fun _ => 0))), (q_4, .inl (ty 0, 6, .inl (fun _ => 0))), (q_5, .inl (ty 0, 6, .inl (fun _ => 0))), (q_6, .inl (ty 5, 6, .inr (.inr (.inr (.inr (fun _ => none))))))] := hD
  refine lv_aload_n hx hb dX6_init_60 rfl (lv_at hl 0 rfl) ?_
  refine lv_iconst (v := 0) hx hb dX6_init_61 (by decide) ?_
  refine va_put (D := D) (ci := 6) (v := .int 0) (ty := .int) (C := RX6) (T := TX6) (N := 10) hx hb hts (by decide +kernel) tyX6 tyX6_ok nmX6 hown hK hP hD hS 0 rfl rfl 8 (by decide) (hts (.fieldLink RX6 44 "TurnedFloors$State" "lawCount" "I") (by decide +kernel)) (fun _ h9 => h9) rfl (by decide +kernel) rfl rfl (Nat.le_of_ble_eq_true rfl) dX6_init_62 (fun H locs hP hD hS => ?_)
  have hP : va_P D vwCl [(h0, .inr (6, [.ref q_1, .int 1, .int 0, .int 0, .ref q_4, .ref q_5, .int 0, .ref q_6, .int 0, .int 0])), (q_1, .inr (8, [.ref q_2, .ref q_3, .int 0, .int 0, .int 0])), (q_2, .inl (ty 0, 6, .inl (fun _ => 0))), (q_3, .inl (ty 0, 6, .inl (fun _ => 0))), (q_4, .inl (ty 0, 6, .inl (fun _ => 0))), (q_5, .inl (ty 0, 6, .inl (fun _ => 0))), (q_6, .inl (ty 5, 6, .inr (.inr (.inr (.inr (fun _ => none))))))] H := hP
  have hD : va_D A [(h0, .inr (6, [.ref q_1, .int 1, .int 0, .int 0, .ref q_4, .ref q_5, .int 0, .ref q_6, .int 0, .int 0])), (q_1, .inr (8, [.ref q_2, .ref q_3, .int 0, .int 0, .int 0])), (q_2, .inl (ty 0, 6, .inl (fun _ => 0))), (q_3, .inl (ty 0, 6, .inl (fun _ => 0))), (q_4, .inl (ty 0, 6, .inl (fun _ => 0))), (q_5, .inl (ty 0, 6, .inl (fun _ => 0))), (q_6, .inl (ty 5, 6, .inr (.inr (.inr (.inr (fun _ => none))))))] := hD
  refine lv_aload_n hx hb dX6_init_65 rfl (lv_at hl 0 rfl) ?_
  refine lv_iconst (v := (-1)) hx hb dX6_init_66 (by decide) ?_
  refine va_put (D := D) (ci := 6) (v := .int (-1)) (ty := .int) (C := RX6) (T := TX6) (N := 10) hx hb hts (by decide +kernel) tyX6 tyX6_ok nmX6 hown hK hP hD hS 0 rfl rfl 9 (by decide) (hts (.fieldLink RX6 47 "TurnedFloors$State" "inForce" "I") (by decide +kernel)) (fun _ h9 => h9) rfl (by decide +kernel) rfl rfl (Nat.le_of_ble_eq_true rfl) dX6_init_67 (fun H locs hP hD hS => ?_)
  have hP : va_P D vwCl [(h0, .inr (6, [.ref q_1, .int 1, .int 0, .int 0, .ref q_4, .ref q_5, .int 0, .ref q_6, .int 0, .int (-1)])), (q_1, .inr (8, [.ref q_2, .ref q_3, .int 0, .int 0, .int 0])), (q_2, .inl (ty 0, 6, .inl (fun _ => 0))), (q_3, .inl (ty 0, 6, .inl (fun _ => 0))), (q_4, .inl (ty 0, 6, .inl (fun _ => 0))), (q_5, .inl (ty 0, 6, .inl (fun _ => 0))), (q_6, .inl (ty 5, 6, .inr (.inr (.inr (.inr (fun _ => none))))))] H := hP
  have hD : va_D A [(h0, .inr (6, [.ref q_1, .int 1, .int 0, .int 0, .ref q_4, .ref q_5, .int 0, .ref q_6, .int 0, .int (-1)])), (q_1, .inr (8, [.ref q_2, .ref q_3, .int 0, .int 0, .int 0])), (q_2, .inl (ty 0, 6, .inl (fun _ => 0))), (q_3, .inl (ty 0, 6, .inl (fun _ => 0))), (q_4, .inl (ty 0, 6, .inl (fun _ => 0))), (q_5, .inl (ty 0, 6, .inl (fun _ => 0))), (q_6, .inl (ty 5, 6, .inr (.inr (.inr (.inr (fun _ => none))))))] := hD
  refine W.widen (k := 6) (n := 35) (Nat.le_of_ble_eq_true rfl) (Nat.le_of_ble_eq_true rfl) ?_
  exact kz_vret hx hb hr hlocks hP hK hD hS dX6_init_70 ⟨q_1, q_2, q_3, q_4, q_5, q_6, rfl⟩

set_option maxHeartbeats 4000000 in
set_option maxRecDepth 100000 in
theorem kcX3_init (l : Launch) (D : va_G) (ty : Nat → ClassId) (eo : Nat → Nat) (sz : Nat) (h0 : Nat) : Met l yX3_init wsX3_init ({ frames := 1, cells := 13, slots := 1624, locals := 20 }) (va_Pc [.ref h0] (kz_pre D ty eo [(h0, .inr (3, [.null, .null, .null, .null, .null, .null, .null, .null, .null, .null, .null, .null, .null, .int 0, .int 0, .int 0, .int 0, .int 0, .int 0, .int 0]))] sz)) (va_Qv (fun (u : va_W) => ∃ q_1 q_2 q_3 q_4 q_5 q_6 q_7 q_8 q_9 q_10 q_11 q_12 q_13 : Nat, [(h0, .inr (3, [.ref q_1, .ref q_2, .ref q_3, .ref q_4, .ref q_5, .ref q_6, .ref q_7, .ref q_8, .ref q_9, .ref q_10, .ref q_11, .ref q_12, .ref q_13, .int 0, .int 0, .int 0, .int 0, .int (-1), .int (-1), .int 0])), (q_1, .inl (ty 0, 6, .inl (fun _ => 0))), (q_2, .inl (ty 0, 6, .inl (fun _ => 0))), (q_3, .inl (ty 0, 504, .inl (fun _ => 0))), (q_4, .inl (ty 0, 504, .inl (fun _ => 0))), (q_5, .inl (ty 0, 504, .inl (fun _ => 0))), (q_6, .inl (ty 0, 100, .inl (fun _ => 0))), (q_7, .inl (ty 0, 0, .inl (fun _ => 0))), (q_8, .inl (ty 0, 0, .inl (fun _ => 0))), (q_9, .inl (ty 0, 0, .inl (fun _ => 0))), (q_10, .inl (ty 0, 0, .inl (fun _ => 0))), (q_11, .inl (ty 0, 0, .inl (fun _ => 0))), (q_12, .inl (ty 0, 0, .inl (fun _ => 0))), (q_13, .inl (ty 0, 0, .inl (fun _ => 0)))] = u) (kz_B D ty (va_A [(h0, .inr (3, [.null, .null, .null, .null, .null, .null, .null, .null, .null, .null, .null, .null, .null, .int 0, .int 0, .int 0, .int 0, .int 0, .int 0, .int 0]))] sz)) (va_A [(h0, .inr (3, [.null, .null, .null, .null, .null, .null, .null, .null, .null, .null, .null, .null, .null, .int 0, .int 0, .int 0, .int 0, .int 0, .int 0, .int 0]))] sz)) 13 1624 (va_A [(h0, .inr (3, [.null, .null, .null, .null, .null, .null, .null, .null, .null, .null, .null, .null, .null, .int 0, .int 0, .int 0, .int 0, .int 0, .int 0, .int 0]))] sz) := by
  refine Met.ofW (cc := cX3_init) (maxL := 1) (ret := none) (by decide) rfl ?_
  intro p e s m args below meth c s₁ B hml hv
  obtain ⟨rfl, hsz, hP, hK, hD0, hN, hE⟩ := hv
  have hx := B.exec
  have hb := B.bytes
  have hr := B.returns
  have hts := atoms_spec (ws := wsX3_init) B.pre
  have hown : s.vm.findClass RX3 = some m.cls := findClass_of_methodNamed B.named
  have hlocks := B.notSynchronized
  have hin : meth.name = "<init>" := (name_of_methodNamed B.named B.method).1
  subst hsz
  have hD := hD0.self (sz := s.heap.size)
  generalize hAe : va_A [(h0, .inr (3, [.null, .null, .null, .null, .null, .null, .null, .null, .null, .null, .null, .null, .null, .int 0, .int 0, .int 0, .int 0, .int 0, .int 0, .int 0]))] s.heap.size = A at hD hE ⊢
  have hA : ∀ q : Nat, s.heap.size ≤ q → A q := fun q h => by rw [← hAe]; exact Or.inr h
  have hS : va_S A s.heap s.heap [] := va_S.rf
  have hl := lv_entry ([.ref h0]) (n := 1) (Nat.le_of_ble_eq_true rfl)
  rw [lg_entry_eq]
  generalize (lg_sl ([.ref h0]) ++ List.replicate (1 - (lg_sl ([.ref h0])).length) Slot.unset).toArray = ls at hl ⊢
  have hl : lv_has ls 1 [(0, .ref h0)] := hl
  refine lv_aload_n hx hb dX3_init_0 rfl (lv_at hl 0 rfl) ?_
  refine W.objInit hx hb hown (hts (.methodLink RX3 3 objectInit) (by decide +kernel)) (hts (.instanceMethod objectInit) (by decide +kernel)) (hts (.code objectInit ⟨#[0xb1]⟩ 1 none) (by decide +kernel)) rfl (by rw [hml]; exact hl.1) rfl dX3_init_1 (Nat.le_of_ble_eq_true rfl) (Nat.le_of_ble_eq_true rfl) ?_
  refine W.eq (g2 := F0 m 4 ls []) rfl ?_
  refine lv_aload_n hx hb dX3_init_4 rfl (lv_at hl 0 rfl) ?_
  refine lv_bipush (v := 6) hx hb dX3_init_5 (by decide) ?_
  refine va_newa (atype := .int) (ty := .int) (N' := 6) (a0 := (6, .inl (fun _ => 0))) hx hb (hts (.arrayClass .int) (by decide +kernel)) rfl hK hP hD hS hA (fun _ => rfl) (by decide) (by decide) (by decide) (Nat.le_of_ble_eq_true rfl) (Nat.le_of_ble_eq_true rfl) dX3_init_7 (fun q_1 cA H hK2 hP hD hS => ?_)
  obtain rfl : cA = ty 0 := kz_cA (t0 := 0) (t1 := 6) hK2 rfl rfl rfl
  have hP : va_P D vwCl [(h0, .inr (3, [.null, .null, .null, .null, .null, .null, .null, .null, .null, .null, .null, .null, .null, .int 0, .int 0, .int 0, .int 0, .int 0, .int 0, .int 0])), (q_1, .inl (ty 0, 6, .inl (fun _ => 0)))] H := hP
  have hD : va_D A [(h0, .inr (3, [.null, .null, .null, .null, .null, .null, .null, .null, .null, .null, .null, .null, .null, .int 0, .int 0, .int 0, .int 0, .int 0, .int 0, .int 0])), (q_1, .inl (ty 0, 6, .inl (fun _ => 0)))] := hD
  refine va_putF (D := D) (ci := 3) (v := .ref q_1) (ty := .array .int) (C := RX3) (T := TX3) (N := 20) hx hb hts (by decide +kernel) tyX3 tyX3_ok nmX3 hown hK hP hD hS 0 rfl rfl 0 (by decide) (hts (.fieldLink RX3 9 "TurnedFloors$Paper" "ranks" "[I") (by decide +kernel)) (fun _ h9 => h9) rfl hin rfl (by decide +kernel) rfl rfl (Nat.le_of_ble_eq_true rfl) dX3_init_9 (fun H locs hP hD hS => ?_)
  have hP : va_P D vwCl [(h0, .inr (3, [.ref q_1, .null, .null, .null, .null, .null, .null, .null, .null, .null, .null, .null, .null, .int 0, .int 0, .int 0, .int 0, .int 0, .int 0, .int 0])), (q_1, .inl (ty 0, 6, .inl (fun _ => 0)))] H := hP
  have hD : va_D A [(h0, .inr (3, [.ref q_1, .null, .null, .null, .null, .null, .null, .null, .null, .null, .null, .null, .null, .int 0, .int 0, .int 0, .int 0, .int 0, .int 0, .int 0])), (q_1, .inl (ty 0, 6, .inl (fun _ => 0)))] := hD
  refine lv_aload_n hx hb dX3_init_12 rfl (lv_at hl 0 rfl) ?_
  refine lv_bipush (v := 6) hx hb dX3_init_13 (by decide) ?_
  refine va_newa (atype := .int) (ty := .int) (N' := 6) (a0 := (6, .inl (fun _ => 0))) hx hb (hts (.arrayClass .int) (by decide +kernel)) rfl hK hP hD hS hA (fun _ => rfl) (by decide) (by decide) (by decide) (Nat.le_of_ble_eq_true rfl) (Nat.le_of_ble_eq_true rfl) dX3_init_15 (fun q_2 cA H hK2 hP hD hS => ?_)
  obtain rfl : cA = ty 0 := kz_cA (t0 := 0) (t1 := 6) hK2 rfl rfl rfl
  have hP : va_P D vwCl [(h0, .inr (3, [.ref q_1, .null, .null, .null, .null, .null, .null, .null, .null, .null, .null, .null, .null, .int 0, .int 0, .int 0, .int 0, .int 0, .int 0, .int 0])), (q_1, .inl (ty 0, 6, .inl (fun _ => 0))), (q_2, .inl (ty 0, 6, .inl (fun _ => 0)))] H := hP
  have hD : va_D A [(h0, .inr (3, [.ref q_1, .null, .null, .null, .null, .null, .null, .null, .null, .null, .null, .null, .null, .int 0, .int 0, .int 0, .int 0, .int 0, .int 0, .int 0])), (q_1, .inl (ty 0, 6, .inl (fun _ => 0))), (q_2, .inl (ty 0, 6, .inl (fun _ => 0)))] := hD
  refine va_putF (D := D) (ci := 3) (v := .ref q_2) (ty := .array .int) (C := RX3) (T := TX3) (N := 20) hx hb hts (by decide +kernel) tyX3 tyX3_ok nmX3 hown hK hP hD hS 0 rfl rfl 1 (by decide) (hts (.fieldLink RX3 15 "TurnedFloors$Paper" "digits" "[I") (by decide +kernel)) (fun _ h9 => h9) rfl hin rfl (by decide +kernel) rfl rfl (Nat.le_of_ble_eq_true rfl) dX3_init_17 (fun H locs hP hD hS => ?_)
  have hP : va_P D vwCl [(h0, .inr (3, [.ref q_1, .ref q_2, .null, .null, .null, .null, .null, .null, .null, .null, .null, .null, .null, .int 0, .int 0, .int 0, .int 0, .int 0, .int 0, .int 0])), (q_1, .inl (ty 0, 6, .inl (fun _ => 0))), (q_2, .inl (ty 0, 6, .inl (fun _ => 0)))] H := hP
  have hD : va_D A [(h0, .inr (3, [.ref q_1, .ref q_2, .null, .null, .null, .null, .null, .null, .null, .null, .null, .null, .null, .int 0, .int 0, .int 0, .int 0, .int 0, .int 0, .int 0])), (q_1, .inl (ty 0, 6, .inl (fun _ => 0))), (q_2, .inl (ty 0, 6, .inl (fun _ => 0)))] := hD
  refine lv_aload_n hx hb dX3_init_20 rfl (lv_at hl 0 rfl) ?_
  refine lv_sipush (v := 504) hx hb dX3_init_21 (by decide) ?_
  refine va_newa (atype := .int) (ty := .int) (N' := 504) (a0 := (504, .inl (fun _ => 0))) hx hb (hts (.arrayClass .int) (by decide +kernel)) rfl hK hP hD hS hA (fun _ => rfl) (by decide) (by decide) (by decide) (Nat.le_of_ble_eq_true rfl) (Nat.le_of_ble_eq_true rfl) dX3_init_24 (fun q_3 cA H hK2 hP hD hS => ?_)
  obtain rfl : cA = ty 0 := kz_cA (t0 := 0) (t1 := 6) hK2 rfl rfl rfl
  have hP : va_P D vwCl [(h0, .inr (3, [.ref q_1, .ref q_2, .null, .null, .null, .null, .null, .null, .null, .null, .null, .null, .null, .int 0, .int 0, .int 0, .int 0, .int 0, .int 0, .int 0])), (q_1, .inl (ty 0, 6, .inl (fun _ => 0))), (q_2, .inl (ty 0, 6, .inl (fun _ => 0))), (q_3, .inl (ty 0, 504, .inl (fun _ => 0)))] H := hP
  have hD : va_D A [(h0, .inr (3, [.ref q_1, .ref q_2, .null, .null, .null, .null, .null, .null, .null, .null, .null, .null, .null, .int 0, .int 0, .int 0, .int 0, .int 0, .int 0, .int 0])), (q_1, .inl (ty 0, 6, .inl (fun _ => 0))), (q_2, .inl (ty 0, 6, .inl (fun _ => 0))), (q_3, .inl (ty 0, 504, .inl (fun _ => 0)))] := hD
  refine va_putF (D := D) (ci := 3) (v := .ref q_3) (ty := .array .int) (C := RX3) (T := TX3) (N := 20) hx hb hts (by decide +kernel) tyX3 tyX3_ok nmX3 hown hK hP hD hS 0 rfl rfl 2 (by decide) (hts (.fieldLink RX3 18 "TurnedFloors$Paper" "barred" "[I") (by decide +kernel)) (fun _ h9 => h9) rfl hin rfl (by decide +kernel) rfl rfl (Nat.le_of_ble_eq_true rfl) dX3_init_26 (fun H locs hP hD hS => ?_)
  have hP : va_P D vwCl [(h0, .inr (3, [.ref q_1, .ref q_2, .ref q_3, .null, .null, .null, .null, .null, .null, .null, .null, .null, .null, .int 0, .int 0, .int 0, .int 0, .int 0, .int 0, .int 0])), (q_1, .inl (ty 0, 6, .inl (fun _ => 0))), (q_2, .inl (ty 0, 6, .inl (fun _ => 0))), (q_3, .inl (ty 0, 504, .inl (fun _ => 0)))] H := hP
  have hD : va_D A [(h0, .inr (3, [.ref q_1, .ref q_2, .ref q_3, .null, .null, .null, .null, .null, .null, .null, .null, .null, .null, .int 0, .int 0, .int 0, .int 0, .int 0, .int 0, .int 0])), (q_1, .inl (ty 0, 6, .inl (fun _ => 0))), (q_2, .inl (ty 0, 6, .inl (fun _ => 0))), (q_3, .inl (ty 0, 504, .inl (fun _ => 0)))] := hD
  refine lv_aload_n hx hb dX3_init_29 rfl (lv_at hl 0 rfl) ?_
  refine lv_sipush (v := 504) hx hb dX3_init_30 (by decide) ?_
  refine va_newa (atype := .int) (ty := .int) (N' := 504) (a0 := (504, .inl (fun _ => 0))) hx hb (hts (.arrayClass .int) (by decide +kernel)) rfl hK hP hD hS hA (fun _ => rfl) (by decide) (by decide) (by decide) (Nat.le_of_ble_eq_true rfl) (Nat.le_of_ble_eq_true rfl) dX3_init_33 (fun q_4 cA H hK2 hP hD hS => ?_)
  obtain rfl : cA = ty 0 := kz_cA (t0 := 0) (t1 := 6) hK2 rfl rfl rfl
  have hP : va_P D vwCl [(h0, .inr (3, [.ref q_1, .ref q_2, .ref q_3, .null, .null, .null, .null, .null, .null, .null, .null, .null, .null, .int 0, .int 0, .int 0, .int 0, .int 0, .int 0, .int 0])), (q_1, .inl (ty 0, 6, .inl (fun _ => 0))), (q_2, .inl (ty 0, 6, .inl (fun _ => 0))), (q_3, .inl (ty 0, 504, .inl (fun _ => 0))), (q_4, .inl (ty 0, 504, .inl (fun _ => 0)))] H := hP
  have hD : va_D A [(h0, .inr (3, [.ref q_1, .ref q_2, .ref q_3, .null, .null, .null, .null, .null, .null, .null, .null, .null, .null, .int 0, .int 0, .int 0, .int 0, .int 0, .int 0, .int 0])), (q_1, .inl (ty 0, 6, .inl (fun _ => 0))), (q_2, .inl (ty 0, 6, .inl (fun _ => 0))), (q_3, .inl (ty 0, 504, .inl (fun _ => 0))), (q_4, .inl (ty 0, 504, .inl (fun _ => 0)))] := hD
  refine va_putF (D := D) (ci := 3) (v := .ref q_4) (ty := .array .int) (C := RX3) (T := TX3) (N := 20) hx hb hts (by decide +kernel) tyX3 tyX3_ok nmX3 hown hK hP hD hS 0 rfl rfl 3 (by decide) (hts (.fieldLink RX3 21 "TurnedFloors$Paper" "pays" "[I") (by decide +kernel)) (fun _ h9 => h9) rfl hin rfl (by decide +kernel) rfl rfl (Nat.le_of_ble_eq_true rfl) dX3_init_35 (fun H locs hP hD hS => ?_)
  have hP : va_P D vwCl [(h0, .inr (3, [.ref q_1, .ref q_2, .ref q_3, .ref q_4, .null, .null, .null, .null, .null, .null, .null, .null, .null, .int 0, .int 0, .int 0, .int 0, .int 0, .int 0, .int 0])), (q_1, .inl (ty 0, 6, .inl (fun _ => 0))), (q_2, .inl (ty 0, 6, .inl (fun _ => 0))), (q_3, .inl (ty 0, 504, .inl (fun _ => 0))), (q_4, .inl (ty 0, 504, .inl (fun _ => 0)))] H := hP
  have hD : va_D A [(h0, .inr (3, [.ref q_1, .ref q_2, .ref q_3, .ref q_4, .null, .null, .null, .null, .null, .null, .null, .null, .null, .int 0, .int 0, .int 0, .int 0, .int 0, .int 0, .int 0])), (q_1, .inl (ty 0, 6, .inl (fun _ => 0))), (q_2, .inl (ty 0, 6, .inl (fun _ => 0))), (q_3, .inl (ty 0, 504, .inl (fun _ => 0))), (q_4, .inl (ty 0, 504, .inl (fun _ => 0)))] := hD
  refine lv_aload_n hx hb dX3_init_38 rfl (lv_at hl 0 rfl) ?_
  refine lv_sipush (v := 504) hx hb dX3_init_39 (by decide) ?_
  refine va_newa (atype := .int) (ty := .int) (N' := 504) (a0 := (504, .inl (fun _ => 0))) hx hb (hts (.arrayClass .int) (by decide +kernel)) rfl hK hP hD hS hA (fun _ => rfl) (by decide) (by decide) (by decide) (Nat.le_of_ble_eq_true rfl) (Nat.le_of_ble_eq_true rfl) dX3_init_42 (fun q_5 cA H hK2 hP hD hS => ?_)
  obtain rfl : cA = ty 0 := kz_cA (t0 := 0) (t1 := 6) hK2 rfl rfl rfl
  have hP : va_P D vwCl [(h0, .inr (3, [.ref q_1, .ref q_2, .ref q_3, .ref q_4, .null, .null, .null, .null, .null, .null, .null, .null, .null, .int 0, .int 0, .int 0, .int 0, .int 0, .int 0, .int 0])), (q_1, .inl (ty 0, 6, .inl (fun _ => 0))), (q_2, .inl (ty 0, 6, .inl (fun _ => 0))), (q_3, .inl (ty 0, 504, .inl (fun _ => 0))), (q_4, .inl (ty 0, 504, .inl (fun _ => 0))), (q_5, .inl (ty 0, 504, .inl (fun _ => 0)))] H := hP
  have hD : va_D A [(h0, .inr (3, [.ref q_1, .ref q_2, .ref q_3, .ref q_4, .null, .null, .null, .null, .null, .null, .null, .null, .null, .int 0, .int 0, .int 0, .int 0, .int 0, .int 0, .int 0])), (q_1, .inl (ty 0, 6, .inl (fun _ => 0))), (q_2, .inl (ty 0, 6, .inl (fun _ => 0))), (q_3, .inl (ty 0, 504, .inl (fun _ => 0))), (q_4, .inl (ty 0, 504, .inl (fun _ => 0))), (q_5, .inl (ty 0, 504, .inl (fun _ => 0)))] := hD
  refine va_putF (D := D) (ci := 3) (v := .ref q_5) (ty := .array .int) (C := RX3) (T := TX3) (N := 20) hx hb hts (by decide +kernel) tyX3 tyX3_ok nmX3 hown hK hP hD hS 0 rfl rfl 4 (by decide) (hts (.fieldLink RX3 24 "TurnedFloors$Paper" "measuredBarred" "[I") (by decide +kernel)) (fun _ h9 => h9) rfl hin rfl (by decide +kernel) rfl rfl (Nat.le_of_ble_eq_true rfl) dX3_init_44 (fun H locs hP hD hS => ?_)
  have hP : va_P D vwCl [(h0, .inr (3, [.ref q_1, .ref q_2, .ref q_3, .ref q_4, .ref q_5, .null, .null, .null, .null, .null, .null, .null, .null, .int 0, .int 0, .int 0, .int 0, .int 0, .int 0, .int 0])), (q_1, .inl (ty 0, 6, .inl (fun _ => 0))), (q_2, .inl (ty 0, 6, .inl (fun _ => 0))), (q_3, .inl (ty 0, 504, .inl (fun _ => 0))), (q_4, .inl (ty 0, 504, .inl (fun _ => 0))), (q_5, .inl (ty 0, 504, .inl (fun _ => 0)))] H := hP
  have hD : va_D A [(h0, .inr (3, [.ref q_1, .ref q_2, .ref q_3, .ref q_4, .ref q_5, .null, .null, .null, .null, .null, .null, .null, .null, .int 0, .int 0, .int 0, .int 0, .int 0, .int 0, .int 0])), (q_1, .inl (ty 0, 6, .inl (fun _ => 0))), (q_2, .inl (ty 0, 6, .inl (fun _ => 0))), (q_3, .inl (ty 0, 504, .inl (fun _ => 0))), (q_4, .inl (ty 0, 504, .inl (fun _ => 0))), (q_5, .inl (ty 0, 504, .inl (fun _ => 0)))] := hD
  refine lv_aload_n hx hb dX3_init_47 rfl (lv_at hl 0 rfl) ?_
  refine lv_bipush (v := 100) hx hb dX3_init_48 (by decide) ?_
  refine va_newa (atype := .int) (ty := .int) (N' := 100) (a0 := (100, .inl (fun _ => 0))) hx hb (hts (.arrayClass .int) (by decide +kernel)) rfl hK hP hD hS hA (fun _ => rfl) (by decide) (by decide) (by decide) (Nat.le_of_ble_eq_true rfl) (Nat.le_of_ble_eq_true rfl) dX3_init_50 (fun q_6 cA H hK2 hP hD hS => ?_)
  obtain rfl : cA = ty 0 := kz_cA (t0 := 0) (t1 := 6) hK2 rfl rfl rfl
  have hP : va_P D vwCl [(h0, .inr (3, [.ref q_1, .ref q_2, .ref q_3, .ref q_4, .ref q_5, .null, .null, .null, .null, .null, .null, .null, .null, .int 0, .int 0, .int 0, .int 0, .int 0, .int 0, .int 0])), (q_1, .inl (ty 0, 6, .inl (fun _ => 0))), (q_2, .inl (ty 0, 6, .inl (fun _ => 0))), (q_3, .inl (ty 0, 504, .inl (fun _ => 0))), (q_4, .inl (ty 0, 504, .inl (fun _ => 0))), (q_5, .inl (ty 0, 504, .inl (fun _ => 0))), (q_6, .inl (ty 0, 100, .inl (fun _ => 0)))] H := hP
  have hD : va_D A [(h0, .inr (3, [.ref q_1, .ref q_2, .ref q_3, .ref q_4, .ref q_5, .null, .null, .null, .null, .null, .null, .null, .null, .int 0, .int 0, .int 0, .int 0, .int 0, .int 0, .int 0])), (q_1, .inl (ty 0, 6, .inl (fun _ => 0))), (q_2, .inl (ty 0, 6, .inl (fun _ => 0))), (q_3, .inl (ty 0, 504, .inl (fun _ => 0))), (q_4, .inl (ty 0, 504, .inl (fun _ => 0))), (q_5, .inl (ty 0, 504, .inl (fun _ => 0))), (q_6, .inl (ty 0, 100, .inl (fun _ => 0)))] := hD
  refine va_putF (D := D) (ci := 3) (v := .ref q_6) (ty := .array .int) (C := RX3) (T := TX3) (N := 20) hx hb hts (by decide +kernel) tyX3 tyX3_ok nmX3 hown hK hP hD hS 0 rfl rfl 5 (by decide) (hts (.fieldLink RX3 27 "TurnedFloors$Paper" "buckets" "[I") (by decide +kernel)) (fun _ h9 => h9) rfl hin rfl (by decide +kernel) rfl rfl (Nat.le_of_ble_eq_true rfl) dX3_init_52 (fun H locs hP hD hS => ?_)
  have hP : va_P D vwCl [(h0, .inr (3, [.ref q_1, .ref q_2, .ref q_3, .ref q_4, .ref q_5, .ref q_6, .null, .null, .null, .null, .null, .null, .null, .int 0, .int 0, .int 0, .int 0, .int 0, .int 0, .int 0])), (q_1, .inl (ty 0, 6, .inl (fun _ => 0))), (q_2, .inl (ty 0, 6, .inl (fun _ => 0))), (q_3, .inl (ty 0, 504, .inl (fun _ => 0))), (q_4, .inl (ty 0, 504, .inl (fun _ => 0))), (q_5, .inl (ty 0, 504, .inl (fun _ => 0))), (q_6, .inl (ty 0, 100, .inl (fun _ => 0)))] H := hP
  have hD : va_D A [(h0, .inr (3, [.ref q_1, .ref q_2, .ref q_3, .ref q_4, .ref q_5, .ref q_6, .null, .null, .null, .null, .null, .null, .null, .int 0, .int 0, .int 0, .int 0, .int 0, .int 0, .int 0])), (q_1, .inl (ty 0, 6, .inl (fun _ => 0))), (q_2, .inl (ty 0, 6, .inl (fun _ => 0))), (q_3, .inl (ty 0, 504, .inl (fun _ => 0))), (q_4, .inl (ty 0, 504, .inl (fun _ => 0))), (q_5, .inl (ty 0, 504, .inl (fun _ => 0))), (q_6, .inl (ty 0, 100, .inl (fun _ => 0)))] := hD
  refine lv_aload_n hx hb dX3_init_55 rfl (lv_at hl 0 rfl) ?_
  refine lv_iconst (v := 0) hx hb dX3_init_56 (by decide) ?_
  refine va_newa (atype := .int) (ty := .int) (N' := 0) (a0 := (0, .inl (fun _ => 0))) hx hb (hts (.arrayClass .int) (by decide +kernel)) rfl hK hP hD hS hA (fun _ => rfl) (by decide) (by decide) (by decide) (Nat.le_of_ble_eq_true rfl) (Nat.le_of_ble_eq_true rfl) dX3_init_57 (fun q_7 cA H hK2 hP hD hS => ?_)
  obtain rfl : cA = ty 0 := kz_cA (t0 := 0) (t1 := 6) hK2 rfl rfl rfl
  have hP : va_P D vwCl [(h0, .inr (3, [.ref q_1, .ref q_2, .ref q_3, .ref q_4, .ref q_5, .ref q_6, .null, .null, .null, .null, .null, .null, .null, .int 0, .int 0, .int 0, .int 0, .int 0, .int 0, .int 0])), (q_1, .inl (ty 0, 6, .inl (fun _ => 0))), (q_2, .inl (ty 0, 6, .inl (fun _ => 0))), (q_3, .inl (ty 0, 504, .inl (fun _ => 0))), (q_4, .inl (ty 0, 504, .inl (fun _ => 0))), (q_5, .inl (ty 0, 504, .inl (fun _ => 0))), (q_6, .inl (ty 0, 100, .inl (fun _ => 0))), (q_7, .inl (ty 0, 0, .inl (fun _ => 0)))] H := hP
  have hD : va_D A [(h0, .inr (3, [.ref q_1, .ref q_2, .ref q_3, .ref q_4, .ref q_5, .ref q_6, .null, .null, .null, .null, .null, .null, .null, .int 0, .int 0, .int 0, .int 0, .int 0, .int 0, .int 0])), (q_1, .inl (ty 0, 6, .inl (fun _ => 0))), (q_2, .inl (ty 0, 6, .inl (fun _ => 0))), (q_3, .inl (ty 0, 504, .inl (fun _ => 0))), (q_4, .inl (ty 0, 504, .inl (fun _ => 0))), (q_5, .inl (ty 0, 504, .inl (fun _ => 0))), (q_6, .inl (ty 0, 100, .inl (fun _ => 0))), (q_7, .inl (ty 0, 0, .inl (fun _ => 0)))] := hD
  refine va_put (D := D) (ci := 3) (v := .ref q_7) (ty := .array .int) (C := RX3) (T := TX3) (N := 20) hx hb hts (by decide +kernel) tyX3 tyX3_ok nmX3 hown hK hP hD hS 0 rfl rfl 6 (by decide) (hts (.fieldLink RX3 30 "TurnedFloors$Paper" "orders" "[I") (by decide +kernel)) (fun _ h9 => h9) rfl (by decide +kernel) rfl rfl (Nat.le_of_ble_eq_true rfl) dX3_init_59 (fun H locs hP hD hS => ?_)
  have hP : va_P D vwCl [(h0, .inr (3, [.ref q_1, .ref q_2, .ref q_3, .ref q_4, .ref q_5, .ref q_6, .ref q_7, .null, .null, .null, .null, .null, .null, .int 0, .int 0, .int 0, .int 0, .int 0, .int 0, .int 0])), (q_1, .inl (ty 0, 6, .inl (fun _ => 0))), (q_2, .inl (ty 0, 6, .inl (fun _ => 0))), (q_3, .inl (ty 0, 504, .inl (fun _ => 0))), (q_4, .inl (ty 0, 504, .inl (fun _ => 0))), (q_5, .inl (ty 0, 504, .inl (fun _ => 0))), (q_6, .inl (ty 0, 100, .inl (fun _ => 0))), (q_7, .inl (ty 0, 0, .inl (fun _ => 0)))] H := hP
  have hD : va_D A [(h0, .inr (3, [.ref q_1, .ref q_2, .ref q_3, .ref q_4, .ref q_5, .ref q_6, .ref q_7, .null, .null, .null, .null, .null, .null, .int 0, .int 0, .int 0, .int 0, .int 0, .int 0, .int 0])), (q_1, .inl (ty 0, 6, .inl (fun _ => 0))), (q_2, .inl (ty 0, 6, .inl (fun _ => 0))), (q_3, .inl (ty 0, 504, .inl (fun _ => 0))), (q_4, .inl (ty 0, 504, .inl (fun _ => 0))), (q_5, .inl (ty 0, 504, .inl (fun _ => 0))), (q_6, .inl (ty 0, 100, .inl (fun _ => 0))), (q_7, .inl (ty 0, 0, .inl (fun _ => 0)))] := hD
  refine lv_aload_n hx hb dX3_init_62 rfl (lv_at hl 0 rfl) ?_
  refine lv_iconst (v := 0) hx hb dX3_init_63 (by decide) ?_
  refine va_newa (atype := .int) (ty := .int) (N' := 0) (a0 := (0, .inl (fun _ => 0))) hx hb (hts (.arrayClass .int) (by decide +kernel)) rfl hK hP hD hS hA (fun _ => rfl) (by decide) (by decide) (by decide) (Nat.le_of_ble_eq_true rfl) (Nat.le_of_ble_eq_true rfl) dX3_init_64 (fun q_8 cA H hK2 hP hD hS => ?_)
  obtain rfl : cA = ty 0 := kz_cA (t0 := 0) (t1 := 6) hK2 rfl rfl rfl
  have hP : va_P D vwCl [(h0, .inr (3, [.ref q_1, .ref q_2, .ref q_3, .ref q_4, .ref q_5, .ref q_6, .ref q_7, .null, .null, .null, .null, .null, .null, .int 0, .int 0, .int 0, .int 0, .int 0, .int 0, .int 0])), (q_1, .inl (ty 0, 6, .inl (fun _ => 0))), (q_2, .inl (ty 0, 6, .inl (fun _ => 0))), (q_3, .inl (ty 0, 504, .inl (fun _ => 0))), (q_4, .inl (ty 0, 504, .inl (fun _ => 0))), (q_5, .inl (ty 0, 504, .inl (fun _ => 0))), (q_6, .inl (ty 0, 100, .inl (fun _ => 0))), (q_7, .inl (ty 0, 0, .inl (fun _ => 0))), (q_8, .inl (ty 0, 0, .inl (fun _ => 0)))] H := hP
  have hD : va_D A [(h0, .inr (3, [.ref q_1, .ref q_2, .ref q_3, .ref q_4, .ref q_5, .ref q_6, .ref q_7, .null, .null, .null, .null, .null, .null, .int 0, .int 0, .int 0, .int 0, .int 0, .int 0, .int 0])), (q_1, .inl (ty 0, 6, .inl (fun _ => 0))), (q_2, .inl (ty 0, 6, .inl (fun _ => 0))), (q_3, .inl (ty 0, 504, .inl (fun _ => 0))), (q_4, .inl (ty 0, 504, .inl (fun _ => 0))), (q_5, .inl (ty 0, 504, .inl (fun _ => 0))), (q_6, .inl (ty 0, 100, .inl (fun _ => 0))), (q_7, .inl (ty 0, 0, .inl (fun _ => 0))), (q_8, .inl (ty 0, 0, .inl (fun _ => 0)))] := hD
  refine va_put (D := D) (ci := 3) (v := .ref q_8) (ty := .array .int) (C := RX3) (T := TX3) (N := 20) hx hb hts (by decide +kernel) tyX3 tyX3_ok nmX3 hown hK hP hD hS 0 rfl rfl 7 (by decide) (hts (.fieldLink RX3 33 "TurnedFloors$Paper" "turnedOrders" "[I") (by decide +kernel)) (fun _ h9 => h9) rfl (by decide +kernel) rfl rfl (Nat.le_of_ble_eq_true rfl) dX3_init_66 (fun H locs hP hD hS => ?_)
  have hP : va_P D vwCl [(h0, .inr (3, [.ref q_1, .ref q_2, .ref q_3, .ref q_4, .ref q_5, .ref q_6, .ref q_7, .ref q_8, .null, .null, .null, .null, .null, .int 0, .int 0, .int 0, .int 0, .int 0, .int 0, .int 0])), (q_1, .inl (ty 0, 6, .inl (fun _ => 0))), (q_2, .inl (ty 0, 6, .inl (fun _ => 0))), (q_3, .inl (ty 0, 504, .inl (fun _ => 0))), (q_4, .inl (ty 0, 504, .inl (fun _ => 0))), (q_5, .inl (ty 0, 504, .inl (fun _ => 0))), (q_6, .inl (ty 0, 100, .inl (fun _ => 0))), (q_7, .inl (ty 0, 0, .inl (fun _ => 0))), (q_8, .inl (ty 0, 0, .inl (fun _ => 0)))] H := hP
  have hD : va_D A [(h0, .inr (3, [.ref q_1, .ref q_2, .ref q_3, .ref q_4, .ref q_5, .ref q_6, .ref q_7, .ref q_8, .null, .null, .null, .null, .null, .int 0, .int 0, .int 0, .int 0, .int 0, .int 0, .int 0])), (q_1, .inl (ty 0, 6, .inl (fun _ => 0))), (q_2, .inl (ty 0, 6, .inl (fun _ => 0))), (q_3, .inl (ty 0, 504, .inl (fun _ => 0))), (q_4, .inl (ty 0, 504, .inl (fun _ => 0))), (q_5, .inl (ty 0, 504, .inl (fun _ => 0))), (q_6, .inl (ty 0, 100, .inl (fun _ => 0))), (q_7, .inl (ty 0, 0, .inl (fun _ => 0))), (q_8, .inl (ty 0, 0, .inl (fun _ => 0)))] := hD
  refine lv_aload_n hx hb dX3_init_69 rfl (lv_at hl 0 rfl) ?_
  refine lv_iconst (v := 0) hx hb dX3_init_70 (by decide) ?_
  refine va_newa (atype := .int) (ty := .int) (N' := 0) (a0 := (0, .inl (fun _ => 0))) hx hb (hts (.arrayClass .int) (by decide +kernel)) rfl hK hP hD hS hA (fun _ => rfl) (by decide) (by decide) (by decide) (Nat.le_of_ble_eq_true rfl) (Nat.le_of_ble_eq_true rfl) dX3_init_71 (fun q_9 cA H hK2 hP hD hS => ?_)
  obtain rfl : cA = ty 0 := kz_cA (t0 := 0) (t1 := 6) hK2 rfl rfl rfl
  have hP : va_P D vwCl [(h0, .inr (3, [.ref q_1, .ref q_2, .ref q_3, .ref q_4, .ref q_5, .ref q_6, .ref q_7, .ref q_8, .null, .null, .null, .null, .null, .int 0, .int 0, .int 0, .int 0, .int 0, .int 0, .int 0])), (q_1, .inl (ty 0, 6, .inl (fun _ => 0))), (q_2, .inl (ty 0, 6, .inl (fun _ => 0))), (q_3, .inl (ty 0, 504, .inl (fun _ => 0))), (q_4, .inl (ty 0, 504, .inl (fun _ => 0))), (q_5, .inl (ty 0, 504, .inl (fun _ => 0))), (q_6, .inl (ty 0, 100, .inl (fun _ => 0))), (q_7, .inl (ty 0, 0, .inl (fun _ => 0))), (q_8, .inl (ty 0, 0, .inl (fun _ => 0))), (q_9, .inl (ty 0, 0, .inl (fun _ => 0)))] H := hP
  have hD : va_D A [(h0, .inr (3, [.ref q_1, .ref q_2, .ref q_3, .ref q_4, .ref q_5, .ref q_6, .ref q_7, .ref q_8, .null, .null, .null, .null, .null, .int 0, .int 0, .int 0, .int 0, .int 0, .int 0, .int 0])), (q_1, .inl (ty 0, 6, .inl (fun _ => 0))), (q_2, .inl (ty 0, 6, .inl (fun _ => 0))), (q_3, .inl (ty 0, 504, .inl (fun _ => 0))), (q_4, .inl (ty 0, 504, .inl (fun _ => 0))), (q_5, .inl (ty 0, 504, .inl (fun _ => 0))), (q_6, .inl (ty 0, 100, .inl (fun _ => 0))), (q_7, .inl (ty 0, 0, .inl (fun _ => 0))), (q_8, .inl (ty 0, 0, .inl (fun _ => 0))), (q_9, .inl (ty 0, 0, .inl (fun _ => 0)))] := hD
  refine va_put (D := D) (ci := 3) (v := .ref q_9) (ty := .array .int) (C := RX3) (T := TX3) (N := 20) hx hb hts (by decide +kernel) tyX3 tyX3_ok nmX3 hown hK hP hD hS 0 rfl rfl 8 (by decide) (hts (.fieldLink RX3 36 "TurnedFloors$Paper" "turnedHeads" "[I") (by decide +kernel)) (fun _ h9 => h9) rfl (by decide +kernel) rfl rfl (Nat.le_of_ble_eq_true rfl) dX3_init_73 (fun H locs hP hD hS => ?_)
  have hP : va_P D vwCl [(h0, .inr (3, [.ref q_1, .ref q_2, .ref q_3, .ref q_4, .ref q_5, .ref q_6, .ref q_7, .ref q_8, .ref q_9, .null, .null, .null, .null, .int 0, .int 0, .int 0, .int 0, .int 0, .int 0, .int 0])), (q_1, .inl (ty 0, 6, .inl (fun _ => 0))), (q_2, .inl (ty 0, 6, .inl (fun _ => 0))), (q_3, .inl (ty 0, 504, .inl (fun _ => 0))), (q_4, .inl (ty 0, 504, .inl (fun _ => 0))), (q_5, .inl (ty 0, 504, .inl (fun _ => 0))), (q_6, .inl (ty 0, 100, .inl (fun _ => 0))), (q_7, .inl (ty 0, 0, .inl (fun _ => 0))), (q_8, .inl (ty 0, 0, .inl (fun _ => 0))), (q_9, .inl (ty 0, 0, .inl (fun _ => 0)))] H := hP
  have hD : va_D A [(h0, .inr (3, [.ref q_1, .ref q_2, .ref q_3, .ref q_4, .ref q_5, .ref q_6, .ref q_7, .ref q_8, .ref q_9, .null, .null, .null, .null, .int 0, .int 0, .int 0, .int 0, .int 0, .int 0, .int 0])), (q_1, .inl (ty 0, 6, .inl (fun _ => 0))), (q_2, .inl (ty 0, 6, .inl (fun _ => 0))), (q_3, .inl (ty 0, 504, .inl (fun _ => 0))), (q_4, .inl (ty 0, 504, .inl (fun _ => 0))), (q_5, .inl (ty 0, 504, .inl (fun _ => 0))), (q_6, .inl (ty 0, 100, .inl (fun _ => 0))), (q_7, .inl (ty 0, 0, .inl (fun _ => 0))), (q_8, .inl (ty 0, 0, .inl (fun _ => 0))), (q_9, .inl (ty 0, 0, .inl (fun _ => 0)))] := hD
  refine lv_aload_n hx hb dX3_init_76 rfl (lv_at hl 0 rfl) ?_
  refine lv_iconst (v := 0) hx hb dX3_init_77 (by decide) ?_
  refine va_newa (atype := .int) (ty := .int) (N' := 0) (a0 := (0, .inl (fun _ => 0))) hx hb (hts (.arrayClass .int) (by decide +kernel)) rfl hK hP hD hS hA (fun _ => rfl) (by decide) (by decide) (by decide) (Nat.le_of_ble_eq_true rfl) (Nat.le_of_ble_eq_true rfl) dX3_init_78 (fun q_10 cA H hK2 hP hD hS => ?_)
  obtain rfl : cA = ty 0 := kz_cA (t0 := 0) (t1 := 6) hK2 rfl rfl rfl
  have hP : va_P D vwCl [(h0, .inr (3, [.ref q_1, .ref q_2, .ref q_3, .ref q_4, .ref q_5, .ref q_6, .ref q_7, .ref q_8, .ref q_9, .null, .null, .null, .null, .int 0, .int 0, .int 0, .int 0, .int 0, .int 0, .int 0])), (q_1, .inl (ty 0, 6, .inl (fun _ => 0))), (q_2, .inl (ty 0, 6, .inl (fun _ => 0))), (q_3, .inl (ty 0, 504, .inl (fun _ => 0))), (q_4, .inl (ty 0, 504, .inl (fun _ => 0))), (q_5, .inl (ty 0, 504, .inl (fun _ => 0))), (q_6, .inl (ty 0, 100, .inl (fun _ => 0))), (q_7, .inl (ty 0, 0, .inl (fun _ => 0))), (q_8, .inl (ty 0, 0, .inl (fun _ => 0))), (q_9, .inl (ty 0, 0, .inl (fun _ => 0))), (q_10, .inl (ty 0, 0, .inl (fun _ => 0)))] H := hP
  have hD : va_D A [(h0, .inr (3, [.ref q_1, .ref q_2, .ref q_3, .ref q_4, .ref q_5, .ref q_6, .ref q_7, .ref q_8, .ref q_9, .null, .null, .null, .null, .int 0, .int 0, .int 0, .int 0, .int 0, .int 0, .int 0])), (q_1, .inl (ty 0, 6, .inl (fun _ => 0))), (q_2, .inl (ty 0, 6, .inl (fun _ => 0))), (q_3, .inl (ty 0, 504, .inl (fun _ => 0))), (q_4, .inl (ty 0, 504, .inl (fun _ => 0))), (q_5, .inl (ty 0, 504, .inl (fun _ => 0))), (q_6, .inl (ty 0, 100, .inl (fun _ => 0))), (q_7, .inl (ty 0, 0, .inl (fun _ => 0))), (q_8, .inl (ty 0, 0, .inl (fun _ => 0))), (q_9, .inl (ty 0, 0, .inl (fun _ => 0))), (q_10, .inl (ty 0, 0, .inl (fun _ => 0)))] := hD
  refine va_put (D := D) (ci := 3) (v := .ref q_10) (ty := .array .int) (C := RX3) (T := TX3) (N := 20) hx hb hts (by decide +kernel) tyX3 tyX3_ok nmX3 hown hK hP hD hS 0 rfl rfl 9 (by decide) (hts (.fieldLink RX3 39 "TurnedFloors$Paper" "toOrder" "[I") (by decide +kernel)) (fun _ h9 => h9) rfl (by decide +kernel) rfl rfl (Nat.le_of_ble_eq_true rfl) dX3_init_80 (fun H locs hP hD hS => ?_)
  have hP : va_P D vwCl [(h0, .inr (3, [.ref q_1, .ref q_2, .ref q_3, .ref q_4, .ref q_5, .ref q_6, .ref q_7, .ref q_8, .ref q_9, .ref q_10, .null, .null, .null, .int 0, .int 0, .int 0, .int 0, .int 0, .int 0, .int 0])), (q_1, .inl (ty 0, 6, .inl (fun _ => 0))), (q_2, .inl (ty 0, 6, .inl (fun _ => 0))), (q_3, .inl (ty 0, 504, .inl (fun _ => 0))), (q_4, .inl (ty 0, 504, .inl (fun _ => 0))), (q_5, .inl (ty 0, 504, .inl (fun _ => 0))), (q_6, .inl (ty 0, 100, .inl (fun _ => 0))), (q_7, .inl (ty 0, 0, .inl (fun _ => 0))), (q_8, .inl (ty 0, 0, .inl (fun _ => 0))), (q_9, .inl (ty 0, 0, .inl (fun _ => 0))), (q_10, .inl (ty 0, 0, .inl (fun _ => 0)))] H := hP
  have hD : va_D A [(h0, .inr (3, [.ref q_1, .ref q_2, .ref q_3, .ref q_4, .ref q_5, .ref q_6, .ref q_7, .ref q_8, .ref q_9, .ref q_10, .null, .null, .null, .int 0, .int 0, .int 0, .int 0, .int 0, .int 0, .int 0])), (q_1, .inl (ty 0, 6, .inl (fun _ => 0))), (q_2, .inl (ty 0, 6, .inl (fun _ => 0))), (q_3, .inl (ty 0, 504, .inl (fun _ => 0))), (q_4, .inl (ty 0, 504, .inl (fun _ => 0))), (q_5, .inl (ty 0, 504, .inl (fun _ => 0))), (q_6, .inl (ty 0, 100, .inl (fun _ => 0))), (q_7, .inl (ty 0, 0, .inl (fun _ => 0))), (q_8, .inl (ty 0, 0, .inl (fun _ => 0))), (q_9, .inl (ty 0, 0, .inl (fun _ => 0))), (q_10, .inl (ty 0, 0, .inl (fun _ => 0)))] := hD
  refine lv_aload_n hx hb dX3_init_83 rfl (lv_at hl 0 rfl) ?_
  refine lv_iconst (v := 0) hx hb dX3_init_84 (by decide) ?_
  refine va_newa (atype := .int) (ty := .int) (N' := 0) (a0 := (0, .inl (fun _ => 0))) hx hb (hts (.arrayClass .int) (by decide +kernel)) rfl hK hP hD hS hA (fun _ => rfl) (by decide) (by decide) (by decide) (Nat.le_of_ble_eq_true rfl) (Nat.le_of_ble_eq_true rfl) dX3_init_85 (fun q_11 cA H hK2 hP hD hS => ?_)
  obtain rfl : cA = ty 0 := kz_cA (t0 := 0) (t1 := 6) hK2 rfl rfl rfl
  have hP : va_P D vwCl [(h0, .inr (3, [.ref q_1, .ref q_2, .ref q_3, .ref q_4, .ref q_5, .ref q_6, .ref q_7, .ref q_8, .ref q_9, .ref q_10, .null, .null, .null, .int 0, .int 0, .int 0, .int 0, .int 0, .int 0, .int 0])), (q_1, .inl (ty 0, 6, .inl (fun _ => 0))), (q_2, .inl (ty 0, 6, .inl (fun _ => 0))), (q_3, .inl (ty 0, 504, .inl (fun _ => 0))), (q_4, .inl (ty 0, 504, .inl (fun _ => 0))), (q_5, .inl (ty 0, 504, .inl (fun _ => 0))), (q_6, .inl (ty 0, 100, .inl (fun _ => 0))), (q_7, .inl (ty 0, 0, .inl (fun _ => 0))), (q_8, .inl (ty 0, 0, .inl (fun _ => 0))), (q_9, .inl (ty 0, 0, .inl (fun _ => 0))), (q_10, .inl (ty 0, 0, .inl (fun _ => 0))), (q_11, .inl (ty 0, 0, .inl (fun _ => 0)))] H := hP
  have hD : va_D A [(h0, .inr (3, [.ref q_1, .ref q_2, .ref q_3, .ref q_4, .ref q_5, .ref q_6, .ref q_7, .ref q_8, .ref q_9, .ref q_10, .null, .null, .null, .int 0, .int 0, .int 0, .int 0, .int 0, .int 0, .int 0])), (q_1, .inl (ty 0, 6, .inl (fun _ => 0))), (q_2, .inl (ty 0, 6, .inl (fun _ => 0))), (q_3, .inl (ty 0, 504, .inl (fun _ => 0))), (q_4, .inl (ty 0, 504, .inl (fun _ => 0))), (q_5, .inl (ty 0, 504, .inl (fun _ => 0))), (q_6, .inl (ty 0, 100, .inl (fun _ => 0))), (q_7, .inl (ty 0, 0, .inl (fun _ => 0))), (q_8, .inl (ty 0, 0, .inl (fun _ => 0))), (q_9, .inl (ty 0, 0, .inl (fun _ => 0))), (q_10, .inl (ty 0, 0, .inl (fun _ => 0))), (q_11, .inl (ty 0, 0, .inl (fun _ => 0)))] := hD
  refine va_put (D := D) (ci := 3) (v := .ref q_11) (ty := .array .int) (C := RX3) (T := TX3) (N := 20) hx hb hts (by decide +kernel) tyX3 tyX3_ok nmX3 hown hK hP hD hS 0 rfl rfl 10 (by decide) (hts (.fieldLink RX3 42 "TurnedFloors$Paper" "marks" "[I") (by decide +kernel)) (fun _ h9 => h9) rfl (by decide +kernel) rfl rfl (Nat.le_of_ble_eq_true rfl) dX3_init_87 (fun H locs hP hD hS => ?_)
  have hP : va_P D vwCl [(h0, .inr (3, [.ref q_1, .ref q_2, .ref q_3, .ref q_4, .ref q_5, .ref q_6, .ref q_7, .ref q_8, .ref q_9, .ref q_10, .ref q_11, .null, .null, .int 0, .int 0, .int 0, .int 0, .int 0, .int 0, .int 0])), (q_1, .inl (ty 0, 6, .inl (fun _ => 0))), (q_2, .inl (ty 0, 6, .inl (fun _ => 0))), (q_3, .inl (ty 0, 504, .inl (fun _ => 0))), (q_4, .inl (ty 0, 504, .inl (fun _ => 0))), (q_5, .inl (ty 0, 504, .inl (fun _ => 0))), (q_6, .inl (ty 0, 100, .inl (fun _ => 0))), (q_7, .inl (ty 0, 0, .inl (fun _ => 0))), (q_8, .inl (ty 0, 0, .inl (fun _ => 0))), (q_9, .inl (ty 0, 0, .inl (fun _ => 0))), (q_10, .inl (ty 0, 0, .inl (fun _ => 0))), (q_11, .inl (ty 0, 0, .inl (fun _ => 0)))] H := hP
  have hD : va_D A [(h0, .inr (3, [.ref q_1, .ref q_2, .ref q_3, .ref q_4, .ref q_5, .ref q_6, .ref q_7, .ref q_8, .ref q_9, .ref q_10, .ref q_11, .null, .null, .int 0, .int 0, .int 0, .int 0, .int 0, .int 0, .int 0])), (q_1, .inl (ty 0, 6, .inl (fun _ => 0))), (q_2, .inl (ty 0, 6, .inl (fun _ => 0))), (q_3, .inl (ty 0, 504, .inl (fun _ => 0))), (q_4, .inl (ty 0, 504, .inl (fun _ => 0))), (q_5, .inl (ty 0, 504, .inl (fun _ => 0))), (q_6, .inl (ty 0, 100, .inl (fun _ => 0))), (q_7, .inl (ty 0, 0, .inl (fun _ => 0))), (q_8, .inl (ty 0, 0, .inl (fun _ => 0))), (q_9, .inl (ty 0, 0, .inl (fun _ => 0))), (q_10, .inl (ty 0, 0, .inl (fun _ => 0))), (q_11, .inl (ty 0, 0, .inl (fun _ => 0)))] := hD
  refine lv_aload_n hx hb dX3_init_90 rfl (lv_at hl 0 rfl) ?_
  refine lv_iconst (v := 0) hx hb dX3_init_91 (by decide) ?_
  refine va_newa (atype := .int) (ty := .int) (N' := 0) (a0 := (0, .inl (fun _ => 0))) hx hb (hts (.arrayClass .int) (by decide +kernel)) rfl hK hP hD hS hA (fun _ => rfl) (by decide) (by decide) (by decide) (Nat.le_of_ble_eq_true rfl) (Nat.le_of_ble_eq_true rfl) dX3_init_92 (fun q_12 cA H hK2 hP hD hS => ?_)
  obtain rfl : cA = ty 0 := kz_cA (t0 := 0) (t1 := 6) hK2 rfl rfl rfl
  have hP : va_P D vwCl [(h0, .inr (3, [.ref q_1, .ref q_2, .ref q_3, .ref q_4, .ref q_5, .ref q_6, .ref q_7, .ref q_8, .ref q_9, .ref q_10, .ref q_11, .null, .null, .int 0, .int 0, .int 0, .int 0, .int 0, .int 0, .int 0])), (q_1, .inl (ty 0, 6, .inl (fun _ => 0))), (q_2, .inl (ty 0, 6, .inl (fun _ => 0))), (q_3, .inl (ty 0, 504, .inl (fun _ => 0))), (q_4, .inl (ty 0, 504, .inl (fun _ => 0))), (q_5, .inl (ty 0, 504, .inl (fun _ => 0))), (q_6, .inl (ty 0, 100, .inl (fun _ => 0))), (q_7, .inl (ty 0, 0, .inl (fun _ => 0))), (q_8, .inl (ty 0, 0, .inl (fun _ => 0))), (q_9, .inl (ty 0, 0, .inl (fun _ => 0))), (q_10, .inl (ty 0, 0, .inl (fun _ => 0))), (q_11, .inl (ty 0, 0, .inl (fun _ => 0))), (q_12, .inl (ty 0, 0, .inl (fun _ => 0)))] H := hP
  have hD : va_D A [(h0, .inr (3, [.ref q_1, .ref q_2, .ref q_3, .ref q_4, .ref q_5, .ref q_6, .ref q_7, .ref q_8, .ref q_9, .ref q_10, .ref q_11, .null, .null, .int 0, .int 0, .int 0, .int 0, .int 0, .int 0, .int 0])), (q_1, .inl (ty 0, 6, .inl (fun _ => 0))), (q_2, .inl (ty 0, 6, .inl (fun _ => 0))), (q_3, .inl (ty 0, 504, .inl (fun _ => 0))), (q_4, .inl (ty 0, 504, .inl (fun _ => 0))), (q_5, .inl (ty 0, 504, .inl (fun _ => 0))), (q_6, .inl (ty 0, 100, .inl (fun _ => 0))), (q_7, .inl (ty 0, 0, .inl (fun _ => 0))), (q_8, .inl (ty 0, 0, .inl (fun _ => 0))), (q_9, .inl (ty 0, 0, .inl (fun _ => 0))), (q_10, .inl (ty 0, 0, .inl (fun _ => 0))), (q_11, .inl (ty 0, 0, .inl (fun _ => 0))), (q_12, .inl (ty 0, 0, .inl (fun _ => 0)))] := hD
  refine va_put (D := D) (ci := 3) (v := .ref q_12) (ty := .array .int) (C := RX3) (T := TX3) (N := 20) hx hb hts (by decide +kernel) tyX3 tyX3_ok nmX3 hown hK hP hD hS 0 rfl rfl 11 (by decide) (hts (.fieldLink RX3 45 "TurnedFloors$Paper" "line" "[I") (by decide +kernel)) (fun _ h9 => h9) rfl (by decide +kernel) rfl rfl (Nat.le_of_ble_eq_true rfl) dX3_init_94 (fun H locs hP hD hS => ?_)
  have hP : va_P D vwCl [(h0, .inr (3, [.ref q_1, .ref q_2, .ref q_3, .ref q_4, .ref q_5, .ref q_6, .ref q_7, .ref q_8, .ref q_9, .ref q_10, .ref q_11, .ref q_12, .null, .int 0, .int 0, .int 0, .int 0, .int 0, .int 0, .int 0])), (q_1, .inl (ty 0, 6, .inl (fun _ => 0))), (q_2, .inl (ty 0, 6, .inl (fun _ => 0))), (q_3, .inl (ty 0, 504, .inl (fun _ => 0))), (q_4, .inl (ty 0, 504, .inl (fun _ => 0))), (q_5, .inl (ty 0, 504, .inl (fun _ => 0))), (q_6, .inl (ty 0, 100, .inl (fun _ => 0))), (q_7, .inl (ty 0, 0, .inl (fun _ => 0))), (q_8, .inl (ty 0, 0, .inl (fun _ => 0))), (q_9, .inl (ty 0, 0, .inl (fun _ => 0))), (q_10, .inl (ty 0, 0, .inl (fun _ => 0))), (q_11, .inl (ty 0, 0, .inl (fun _ => 0))), (q_12, .inl (ty 0, 0, .inl (fun _ => 0)))] H := hP
  have hD : va_D A [(h0, .inr (3, [.ref q_1, .ref q_2, .ref q_3, .ref q_4, .ref q_5, .ref q_6, .ref q_7, .ref q_8, .ref q_9, .ref q_10, .ref q_11, .ref q_12, .null, .int 0, .int 0, .int 0, .int 0, .int 0, .int 0, .int 0])), (q_1, .inl (ty 0, 6, .inl (fun _ => 0))), (q_2, .inl (ty 0, 6, .inl (fun _ => 0))), (q_3, .inl (ty 0, 504, .inl (fun _ => 0))), (q_4, .inl (ty 0, 504, .inl (fun _ => 0))), (q_5, .inl (ty 0, 504, .inl (fun _ => 0))), (q_6, .inl (ty 0, 100, .inl (fun _ => 0))), (q_7, .inl (ty 0, 0, .inl (fun _ => 0))), (q_8, .inl (ty 0, 0, .inl (fun _ => 0))), (q_9, .inl (ty 0, 0, .inl (fun _ => 0))), (q_10, .inl (ty 0, 0, .inl (fun _ => 0))), (q_11, .inl (ty 0, 0, .inl (fun _ => 0))), (q_12, .inl (ty 0, 0, .inl (fun _ => 0)))] := hD
  refine lv_aload_n hx hb dX3_init_97 rfl (lv_at hl 0 rfl) ?_
  refine lv_iconst (v := 0) hx hb dX3_init_98 (by decide) ?_
  refine va_newa (atype := .int) (ty := .int) (N' := 0) (a0 := (0, .inl (fun _ => 0))) hx hb (hts (.arrayClass .int) (by decide +kernel)) rfl hK hP hD hS hA (fun _ => rfl) (by decide) (by decide) (by decide) (Nat.le_of_ble_eq_true rfl) (Nat.le_of_ble_eq_true rfl) dX3_init_99 (fun q_13 cA H hK2 hP hD hS => ?_)
  obtain rfl : cA = ty 0 := kz_cA (t0 := 0) (t1 := 6) hK2 rfl rfl rfl
  have hP : va_P D vwCl [(h0, .inr (3, [.ref q_1, .ref q_2, .ref q_3, .ref q_4, .ref q_5, .ref q_6, .ref q_7, .ref q_8, .ref q_9, .ref q_10, .ref q_11, .ref q_12, .null, .int 0, .int 0, .int 0, .int 0, .int 0, .int 0, .int 0])), (q_1, .inl (ty 0, 6, .inl (fun _ => 0))), (q_2, .inl (ty 0, 6, .inl (fun _ => 0))), (q_3, .inl (ty 0, 504, .inl (fun _ => 0))), (q_4, .inl (ty 0, 504, .inl (fun _ => 0))), (q_5, .inl (ty 0, 504, .inl (fun _ => 0))), (q_6, .inl (ty 0, 100, .inl (fun _ => 0))), (q_7, .inl (ty 0, 0, .inl (fun _ => 0))), (q_8, .inl (ty 0, 0, .inl (fun _ => 0))), (q_9, .inl (ty 0, 0, .inl (fun _ => 0))), (q_10, .inl (ty 0, 0, .inl (fun _ => 0))), (q_11, .inl (ty 0, 0, .inl (fun _ => 0))), (q_12, .inl (ty 0, 0, .inl (fun _ => 0))), (q_13, .inl (ty 0, 0, .inl (fun _ => 0)))] H := hP
  have hD : va_D A [(h0, .inr (3, [.ref q_1, .ref q_2, .ref q_3, .ref q_4, .ref q_5, .ref q_6, .ref q_7, .ref q_8, .ref q_9, .ref q_10, .ref q_11, .ref q_12, .null, .int 0, .int 0, .int 0, .int 0, .int 0, .int 0, .int 0])), (q_1, .inl (ty 0, 6, .inl (fun _ => 0))), (q_2, .inl (ty 0, 6, .inl (fun _ => 0))), (q_3, .inl (ty 0, 504, .inl (fun _ => 0))), (q_4, .inl (ty 0, 504, .inl (fun _ => 0))), (q_5, .inl (ty 0, 504, .inl (fun _ => 0))), (q_6, .inl (ty 0, 100, .inl (fun _ => 0))), (q_7, .inl (ty 0, 0, .inl (fun _ => 0))), (q_8, .inl (ty 0, 0, .inl (fun _ => 0))), (q_9, .inl (ty 0, 0, .inl (fun _ => 0))), (q_10, .inl (ty 0, 0, .inl (fun _ => 0))), (q_11, .inl (ty 0, 0, .inl (fun _ => 0))), (q_12, .inl (ty 0, 0, .inl (fun _ => 0))), (q_13, .inl (ty 0, 0, .inl (fun _ => 0)))] := hD
  refine va_put (D := D) (ci := 3) (v := .ref q_13) (ty := .array .int) (C := RX3) (T := TX3) (N := 20) hx hb hts (by decide +kernel) tyX3 tyX3_ok nmX3 hown hK hP hD hS 0 rfl rfl 12 (by decide) (hts (.fieldLink RX3 48 "TurnedFloors$Paper" "links" "[I") (by decide +kernel)) (fun _ h9 => h9) rfl (by decide +kernel) rfl rfl (Nat.le_of_ble_eq_true rfl) dX3_init_101 (fun H locs hP hD hS => ?_)
  have hP : va_P D vwCl [(h0, .inr (3, [.ref q_1, .ref q_2, .ref q_3, .ref q_4, .ref q_5, .ref q_6, .ref q_7, .ref q_8, .ref q_9, .ref q_10, .ref q_11, .ref q_12, .ref q_13, .int 0, .int 0, .int 0, .int 0, .int 0, .int 0, .int 0])), (q_1, .inl (ty 0, 6, .inl (fun _ => 0))), (q_2, .inl (ty 0, 6, .inl (fun _ => 0))), (q_3, .inl (ty 0, 504, .inl (fun _ => 0))), (q_4, .inl (ty 0, 504, .inl (fun _ => 0))), (q_5, .inl (ty 0, 504, .inl (fun _ => 0))), (q_6, .inl (ty 0, 100, .inl (fun _ => 0))), (q_7, .inl (ty 0, 0, .inl (fun _ => 0))), (q_8, .inl (ty 0, 0, .inl (fun _ => 0))), (q_9, .inl (ty 0, 0, .inl (fun _ => 0))), (q_10, .inl (ty 0, 0, .inl (fun _ => 0))), (q_11, .inl (ty 0, 0, .inl (fun _ => 0))), (q_12, .inl (ty 0, 0, .inl (fun _ => 0))), (q_13, .inl (ty 0, 0, .inl (fun _ => 0)))] H := hP
  have hD : va_D A [(h0, .inr (3, [.ref q_1, .ref q_2, .ref q_3, .ref q_4, .ref q_5, .ref q_6, .ref q_7, .ref q_8, .ref q_9, .ref q_10, .ref q_11, .ref q_12, .ref q_13, .int 0, .int 0, .int 0, .int 0, .int 0, .int 0, .int 0])), (q_1, .inl (ty 0, 6, .inl (fun _ => 0))), (q_2, .inl (ty 0, 6, .inl (fun _ => 0))), (q_3, .inl (ty 0, 504, .inl (fun _ => 0))), (q_4, .inl (ty 0, 504, .inl (fun _ => 0))), (q_5, .inl (ty 0, 504, .inl (fun _ => 0))), (q_6, .inl (ty 0, 100, .inl (fun _ => 0))), (q_7, .inl (ty 0, 0, .inl (fun _ => 0))), (q_8, .inl (ty 0, 0, .inl (fun _ => 0))), (q_9, .inl (ty 0, 0, .inl (fun _ => 0))), (q_10, .inl (ty 0, 0, .inl (fun _ => 0))), (q_11, .inl (ty 0, 0, .inl (fun _ => 0))), (q_12, .inl (ty 0, 0, .inl (fun _ => 0))), (q_13, .inl (ty 0, 0, .inl (fun _ => 0)))] := hD
  refine lv_aload_n hx hb dX3_init_104 rfl (lv_at hl 0 rfl) ?_
  refine lv_iconst (v := 0) hx hb dX3_init_105 (by decide) ?_
  refine va_put (D := D) (ci := 3) (v := .int 0) (ty := .int) (C := RX3) (T := TX3) (N := 20) hx hb hts (by decide +kernel) tyX3 tyX3_ok nmX3 hown hK hP hD hS 0 rfl rfl 13 (by decide) (hts (.fieldLink RX3 51 "TurnedFloors$Paper" "floors" "I") (by decide +kernel)) (fun _ h9 => h9) rfl (by decide +kernel) rfl rfl (Nat.le_of_ble_eq_true rfl) dX3_init_106 (fun H locs hP hD hS => ?_)
  have hP : va_P D vwCl [(h0, .inr (3, [.ref q_1, .ref q_2, .ref q_3, .ref q_4, .ref q_5, .ref q_6, .ref q_7, .ref q_8, .ref q_9, .ref q_10, .ref q_11, .ref q_12, .ref q_13, .int 0, .int 0, .int 0, .int 0, .int 0, .int 0, .int 0])), (q_1, .inl (ty 0, 6, .inl (fun _ => 0))), (q_2, .inl (ty 0, 6, .inl (fun _ => 0))), (q_3, .inl (ty 0, 504, .inl (fun _ => 0))), (q_4, .inl (ty 0, 504, .inl (fun _ => 0))), (q_5, .inl (ty 0, 504, .inl (fun _ => 0))), (q_6, .inl (ty 0, 100, .inl (fun _ => 0))), (q_7, .inl (ty 0, 0, .inl (fun _ => 0))), (q_8, .inl (ty 0, 0, .inl (fun _ => 0))), (q_9, .inl (ty 0, 0, .inl (fun _ => 0))), (q_10, .inl (ty 0, 0, .inl (fun _ => 0))), (q_11, .inl (ty 0, 0, .inl (fun _ => 0))), (q_12, .inl (ty 0, 0, .inl (fun _ => 0))), (q_13, .inl (ty 0, 0, .inl (fun _ => 0)))] H := hP
  have hD : va_D A [(h0, .inr (3, [.ref q_1, .ref q_2, .ref q_3, .ref q_4, .ref q_5, .ref q_6, .ref q_7, .ref q_8, .ref q_9, .ref q_10, .ref q_11, .ref q_12, .ref q_13, .int 0, .int 0, .int 0, .int 0, .int 0, .int 0, .int 0])), (q_1, .inl (ty 0, 6, .inl (fun _ => 0))), (q_2, .inl (ty 0, 6, .inl (fun _ => 0))), (q_3, .inl (ty 0, 504, .inl (fun _ => 0))), (q_4, .inl (ty 0, 504, .inl (fun _ => 0))), (q_5, .inl (ty 0, 504, .inl (fun _ => 0))), (q_6, .inl (ty 0, 100, .inl (fun _ => 0))), (q_7, .inl (ty 0, 0, .inl (fun _ => 0))), (q_8, .inl (ty 0, 0, .inl (fun _ => 0))), (q_9, .inl (ty 0, 0, .inl (fun _ => 0))), (q_10, .inl (ty 0, 0, .inl (fun _ => 0))), (q_11, .inl (ty 0, 0, .inl (fun _ => 0))), (q_12, .inl (ty 0, 0, .inl (fun _ => 0))), (q_13, .inl (ty 0, 0, .inl (fun _ => 0)))] := hD
  refine lv_aload_n hx hb dX3_init_109 rfl (lv_at hl 0 rfl) ?_
  refine lv_iconst (v := 0) hx hb dX3_init_110 (by decide) ?_
  refine va_put (D := D) (ci := 3) (v := .int 0) (ty := .int) (C := RX3) (T := TX3) (N := 20) hx hb hts (by decide +kernel) tyX3 tyX3_ok nmX3 hown hK hP hD hS 0 rfl rfl 14 (by decide) (hts (.fieldLink RX3 55 "TurnedFloors$Paper" "size" "I") (by decide +kernel)) (fun _ h9 => h9) rfl (by decide +kernel) rfl rfl (Nat.le_of_ble_eq_true rfl) dX3_init_111 (fun H locs hP hD hS => ?_)
  have hP : va_P D vwCl [(h0, .inr (3, [.ref q_1, .ref q_2, .ref q_3, .ref q_4, .ref q_5, .ref q_6, .ref q_7, .ref q_8, .ref q_9, .ref q_10, .ref q_11, .ref q_12, .ref q_13, .int 0, .int 0, .int 0, .int 0, .int 0, .int 0, .int 0])), (q_1, .inl (ty 0, 6, .inl (fun _ => 0))), (q_2, .inl (ty 0, 6, .inl (fun _ => 0))), (q_3, .inl (ty 0, 504, .inl (fun _ => 0))), (q_4, .inl (ty 0, 504, .inl (fun _ => 0))), (q_5, .inl (ty 0, 504, .inl (fun _ => 0))), (q_6, .inl (ty 0, 100, .inl (fun _ => 0))), (q_7, .inl (ty 0, 0, .inl (fun _ => 0))), (q_8, .inl (ty 0, 0, .inl (fun _ => 0))), (q_9, .inl (ty 0, 0, .inl (fun _ => 0))), (q_10, .inl (ty 0, 0, .inl (fun _ => 0))), (q_11, .inl (ty 0, 0, .inl (fun _ => 0))), (q_12, .inl (ty 0, 0, .inl (fun _ => 0))), (q_13, .inl (ty 0, 0, .inl (fun _ => 0)))] H := hP
  have hD : va_D A [(h0, .inr (3, [.ref q_1, .ref q_2, .ref q_3, .ref q_4, .ref q_5, .ref q_6, .ref q_7, .ref q_8, .ref q_9, .ref q_10, .ref q_11, .ref q_12, .ref q_13, .int 0, .int 0, .int 0, .int 0, .int 0, .int 0, .int 0])), (q_1, .inl (ty 0, 6, .inl (fun _ => 0))), (q_2, .inl (ty 0, 6, .inl (fun _ => 0))), (q_3, .inl (ty 0, 504, .inl (fun _ => 0))), (q_4, .inl (ty 0, 504, .inl (fun _ => 0))), (q_5, .inl (ty 0, 504, .inl (fun _ => 0))), (q_6, .inl (ty 0, 100, .inl (fun _ => 0))), (q_7, .inl (ty 0, 0, .inl (fun _ => 0))), (q_8, .inl (ty 0, 0, .inl (fun _ => 0))), (q_9, .inl (ty 0, 0, .inl (fun _ => 0))), (q_10, .inl (ty 0, 0, .inl (fun _ => 0))), (q_11, .inl (ty 0, 0, .inl (fun _ => 0))), (q_12, .inl (ty 0, 0, .inl (fun _ => 0))), (q_13, .inl (ty 0, 0, .inl (fun _ => 0)))] := hD
  refine lv_aload_n hx hb dX3_init_114 rfl (lv_at hl 0 rfl) ?_
  refine lv_iconst (v := 0) hx hb dX3_init_115 (by decide) ?_
  refine va_put (D := D) (ci := 3) (v := .int 0) (ty := .int) (C := RX3) (T := TX3) (N := 20) hx hb hts (by decide +kernel) tyX3 tyX3_ok nmX3 hown hK hP hD hS 0 rfl rfl 15 (by decide) (hts (.fieldLink RX3 58 "TurnedFloors$Paper" "start" "I") (by decide +kernel)) (fun _ h9 => h9) rfl (by decide +kernel) rfl rfl (Nat.le_of_ble_eq_true rfl) dX3_init_116 (fun H locs hP hD hS => ?_)
  have hP : va_P D vwCl [(h0, .inr (3, [.ref q_1, .ref q_2, .ref q_3, .ref q_4, .ref q_5, .ref q_6, .ref q_7, .ref q_8, .ref q_9, .ref q_10, .ref q_11, .ref q_12, .ref q_13, .int 0, .int 0, .int 0, .int 0, .int 0, .int 0, .int 0])), (q_1, .inl (ty 0, 6, .inl (fun _ => 0))), (q_2, .inl (ty 0, 6, .inl (fun _ => 0))), (q_3, .inl (ty 0, 504, .inl (fun _ => 0))), (q_4, .inl (ty 0, 504, .inl (fun _ => 0))), (q_5, .inl (ty 0, 504, .inl (fun _ => 0))), (q_6, .inl (ty 0, 100, .inl (fun _ => 0))), (q_7, .inl (ty 0, 0, .inl (fun _ => 0))), (q_8, .inl (ty 0, 0, .inl (fun _ => 0))), (q_9, .inl (ty 0, 0, .inl (fun _ => 0))), (q_10, .inl (ty 0, 0, .inl (fun _ => 0))), (q_11, .inl (ty 0, 0, .inl (fun _ => 0))), (q_12, .inl (ty 0, 0, .inl (fun _ => 0))), (q_13, .inl (ty 0, 0, .inl (fun _ => 0)))] H := hP
  have hD : va_D A [(h0, .inr (3, [.ref q_1, .ref q_2, .ref q_3, .ref q_4, .ref q_5, .ref q_6, .ref q_7, .ref q_8, .ref q_9, .ref q_10, .ref q_11, .ref q_12, .ref q_13, .int 0, .int 0, .int 0, .int 0, .int 0, .int 0, .int 0])), (q_1, .inl (ty 0, 6, .inl (fun _ => 0))), (q_2, .inl (ty 0, 6, .inl (fun _ => 0))), (q_3, .inl (ty 0, 504, .inl (fun _ => 0))), (q_4, .inl (ty 0, 504, .inl (fun _ => 0))), (q_5, .inl (ty 0, 504, .inl (fun _ => 0))), (q_6, .inl (ty 0, 100, .inl (fun _ => 0))), (q_7, .inl (ty 0, 0, .inl (fun _ => 0))), (q_8, .inl (ty 0, 0, .inl (fun _ => 0))), (q_9, .inl (ty 0, 0, .inl (fun _ => 0))), (q_10, .inl (ty 0, 0, .inl (fun _ => 0))), (q_11, .inl (ty 0, 0, .inl (fun _ => 0))), (q_12, .inl (ty 0, 0, .inl (fun _ => 0))), (q_13, .inl (ty 0, 0, .inl (fun _ => 0)))] := hD
  refine lv_aload_n hx hb dX3_init_119 rfl (lv_at hl 0 rfl) ?_
  refine lv_iconst (v := 0) hx hb dX3_init_120 (by decide) ?_
  refine va_put (D := D) (ci := 3) (v := .int 0) (ty := .int) (C := RX3) (T := TX3) (N := 20) hx hb hts (by decide +kernel) tyX3 tyX3_ok nmX3 hown hK hP hD hS 0 rfl rfl 16 (by decide) (hts (.fieldLink RX3 61 "TurnedFloors$Paper" "headsMatter" "I") (by decide +kernel)) (fun _ h9 => h9) rfl (by decide +kernel) rfl rfl (Nat.le_of_ble_eq_true rfl) dX3_init_121 (fun H locs hP hD hS => ?_)
  have hP : va_P D vwCl [(h0, .inr (3, [.ref q_1, .ref q_2, .ref q_3, .ref q_4, .ref q_5, .ref q_6, .ref q_7, .ref q_8, .ref q_9, .ref q_10, .ref q_11, .ref q_12, .ref q_13, .int 0, .int 0, .int 0, .int 0, .int 0, .int 0, .int 0])), (q_1, .inl (ty 0, 6, .inl (fun _ => 0))), (q_2, .inl (ty 0, 6, .inl (fun _ => 0))), (q_3, .inl (ty 0, 504, .inl (fun _ => 0))), (q_4, .inl (ty 0, 504, .inl (fun _ => 0))), (q_5, .inl (ty 0, 504, .inl (fun _ => 0))), (q_6, .inl (ty 0, 100, .inl (fun _ => 0))), (q_7, .inl (ty 0, 0, .inl (fun _ => 0))), (q_8, .inl (ty 0, 0, .inl (fun _ => 0))), (q_9, .inl (ty 0, 0, .inl (fun _ => 0))), (q_10, .inl (ty 0, 0, .inl (fun _ => 0))), (q_11, .inl (ty 0, 0, .inl (fun _ => 0))), (q_12, .inl (ty 0, 0, .inl (fun _ => 0))), (q_13, .inl (ty 0, 0, .inl (fun _ => 0)))] H := hP
  have hD : va_D A [(h0, .inr (3, [.ref q_1, .ref q_2, .ref q_3, .ref q_4, .ref q_5, .ref q_6, .ref q_7, .ref q_8, .ref q_9, .ref q_10, .ref q_11, .ref q_12, .ref q_13, .int 0, .int 0, .int 0, .int 0, .int 0, .int 0, .int 0])), (q_1, .inl (ty 0, 6, .inl (fun _ => 0))), (q_2, .inl (ty 0, 6, .inl (fun _ => 0))), (q_3, .inl (ty 0, 504, .inl (fun _ => 0))), (q_4, .inl (ty 0, 504, .inl (fun _ => 0))), (q_5, .inl (ty 0, 504, .inl (fun _ => 0))), (q_6, .inl (ty 0, 100, .inl (fun _ => 0))), (q_7, .inl (ty 0, 0, .inl (fun _ => 0))), (q_8, .inl (ty 0, 0, .inl (fun _ => 0))), (q_9, .inl (ty 0, 0, .inl (fun _ => 0))), (q_10, .inl (ty 0, 0, .inl (fun _ => 0))), (q_11, .inl (ty 0, 0, .inl (fun _ => 0))), (q_12, .inl (ty 0, 0, .inl (fun _ => 0))), (q_13, .inl (ty 0, 0, .inl (fun _ => 0)))] := hD
  refine lv_aload_n hx hb dX3_init_124 rfl (lv_at hl 0 rfl) ?_
  refine lv_iconst (v := (-1)) hx hb dX3_init_125 (by decide) ?_
  refine va_put (D := D) (ci := 3) (v := .int (-1)) (ty := .int) (C := RX3) (T := TX3) (N := 20) hx hb hts (by decide +kernel) tyX3 tyX3_ok nmX3 hown hK hP hD hS 0 rfl rfl 17 (by decide) (hts (.fieldLink RX3 64 "TurnedFloors$Paper" "measuredFloors" "I") (by decide +kernel)) (fun _ h9 => h9) rfl (by decide +kernel) rfl rfl (Nat.le_of_ble_eq_true rfl) dX3_init_126 (fun H locs hP hD hS => ?_)
  have hP : va_P D vwCl [(h0, .inr (3, [.ref q_1, .ref q_2, .ref q_3, .ref q_4, .ref q_5, .ref q_6, .ref q_7, .ref q_8, .ref q_9, .ref q_10, .ref q_11, .ref q_12, .ref q_13, .int 0, .int 0, .int 0, .int 0, .int (-1), .int 0, .int 0])), (q_1, .inl (ty 0, 6, .inl (fun _ => 0))), (q_2, .inl (ty 0, 6, .inl (fun _ => 0))), (q_3, .inl (ty 0, 504, .inl (fun _ => 0))), (q_4, .inl (ty 0, 504, .inl (fun _ => 0))), (q_5, .inl (ty 0, 504, .inl (fun _ => 0))), (q_6, .inl (ty 0, 100, .inl (fun _ => 0))), (q_7, .inl (ty 0, 0, .inl (fun _ => 0))), (q_8, .inl (ty 0, 0, .inl (fun _ => 0))), (q_9, .inl (ty 0, 0, .inl (fun _ => 0))), (q_10, .inl (ty 0, 0, .inl (fun _ => 0))), (q_11, .inl (ty 0, 0, .inl (fun _ => 0))), (q_12, .inl (ty 0, 0, .inl (fun _ => 0))), (q_13, .inl (ty 0, 0, .inl (fun _ => 0)))] H := hP
  have hD : va_D A [(h0, .inr (3, [.ref q_1, .ref q_2, .ref q_3, .ref q_4, .ref q_5, .ref q_6, .ref q_7, .ref q_8, .ref q_9, .ref q_10, .ref q_11, .ref q_12, .ref q_13, .int 0, .int 0, .int 0, .int 0, .int (-1), .int 0, .int 0])), (q_1, .inl (ty 0, 6, .inl (fun _ => 0))), (q_2, .inl (ty 0, 6, .inl (fun _ => 0))), (q_3, .inl (ty 0, 504, .inl (fun _ => 0))), (q_4, .inl (ty 0, 504, .inl (fun _ => 0))), (q_5, .inl (ty 0, 504, .inl (fun _ => 0))), (q_6, .inl (ty 0, 100, .inl (fun _ => 0))), (q_7, .inl (ty 0, 0, .inl (fun _ => 0))), (q_8, .inl (ty 0, 0, .inl (fun _ => 0))), (q_9, .inl (ty 0, 0, .inl (fun _ => 0))), (q_10, .inl (ty 0, 0, .inl (fun _ => 0))), (q_11, .inl (ty 0, 0, .inl (fun _ => 0))), (q_12, .inl (ty 0, 0, .inl (fun _ => 0))), (q_13, .inl (ty 0, 0, .inl (fun _ => 0)))] := hD
  refine lv_aload_n hx hb dX3_init_129 rfl (lv_at hl 0 rfl) ?_
  refine lv_iconst (v := (-1)) hx hb dX3_init_130 (by decide) ?_
  refine va_put (D := D) (ci := 3) (v := .int (-1)) (ty := .int) (C := RX3) (T := TX3) (N := 20) hx hb hts (by decide +kernel) tyX3 tyX3_ok nmX3 hown hK hP hD hS 0 rfl rfl 18 (by decide) (hts (.fieldLink RX3 67 "TurnedFloors$Paper" "measuredHeads" "I") (by decide +kernel)) (fun _ h9 => h9) rfl (by decide +kernel) rfl rfl (Nat.le_of_ble_eq_true rfl) dX3_init_131 (fun H locs hP hD hS => ?_)
  have hP : va_P D vwCl [(h0, .inr (3, [.ref q_1, .ref q_2, .ref q_3, .ref q_4, .ref q_5, .ref q_6, .ref q_7, .ref q_8, .ref q_9, .ref q_10, .ref q_11, .ref q_12, .ref q_13, .int 0, .int 0, .int 0, .int 0, .int (-1), .int (-1), .int 0])), (q_1, .inl (ty 0, 6, .inl (fun _ => 0))), (q_2, .inl (ty 0, 6, .inl (fun _ => 0))), (q_3, .inl (ty 0, 504, .inl (fun _ => 0))), (q_4, .inl (ty 0, 504, .inl (fun _ => 0))), (q_5, .inl (ty 0, 504, .inl (fun _ => 0))), (q_6, .inl (ty 0, 100, .inl (fun _ => 0))), (q_7, .inl (ty 0, 0, .inl (fun _ => 0))), (q_8, .inl (ty 0, 0, .inl (fun _ => 0))), (q_9, .inl (ty 0, 0, .inl (fun _ => 0))), (q_10, .inl (ty 0, 0, .inl (fun _ => 0))), (q_11, .inl (ty 0, 0, .inl (fun _ => 0))), (q_12, .inl (ty 0, 0, .inl (fun _ => 0))), (q_13, .inl (ty 0, 0, .inl (fun _ => 0)))] H := hP
  have hD : va_D A [(h0, .inr (3, [.ref q_1, .ref q_2, .ref q_3, .ref q_4, .ref q_5, .ref q_6, .ref q_7, .ref q_8, .ref q_9, .ref q_10, .ref q_11, .ref q_12, .ref q_13, .int 0, .int 0, .int 0, .int 0, .int (-1), .int (-1), .int 0])), (q_1, .inl (ty 0, 6, .inl (fun _ => 0))), (q_2, .inl (ty 0, 6, .inl (fun _ => 0))), (q_3, .inl (ty 0, 504, .inl (fun _ => 0))), (q_4, .inl (ty 0, 504, .inl (fun _ => 0))), (q_5, .inl (ty 0, 504, .inl (fun _ => 0))), (q_6, .inl (ty 0, 100, .inl (fun _ => 0))), (q_7, .inl (ty 0, 0, .inl (fun _ => 0))), (q_8, .inl (ty 0, 0, .inl (fun _ => 0))), (q_9, .inl (ty 0, 0, .inl (fun _ => 0))), (q_10, .inl (ty 0, 0, .inl (fun _ => 0))), (q_11, .inl (ty 0, 0, .inl (fun _ => 0))), (q_12, .inl (ty 0, 0, .inl (fun _ => 0))), (q_13, .inl (ty 0, 0, .inl (fun _ => 0)))] := hD
  refine lv_aload_n hx hb dX3_init_134 rfl (lv_at hl 0 rfl) ?_
  refine lv_iconst (v := 0) hx hb dX3_init_135 (by decide) ?_
  refine va_put (D := D) (ci := 3) (v := .int 0) (ty := .int) (C := RX3) (T := TX3) (N := 20) hx hb hts (by decide +kernel) tyX3 tyX3_ok nmX3 hown hK hP hD hS 0 rfl rfl 19 (by decide) (hts (.fieldLink RX3 70 "TurnedFloors$Paper" "visited" "I") (by decide +kernel)) (fun _ h9 => h9) rfl (by decide +kernel) rfl rfl (Nat.le_of_ble_eq_true rfl) dX3_init_136 (fun H locs hP hD hS => ?_)
  have hP : va_P D vwCl [(h0, .inr (3, [.ref q_1, .ref q_2, .ref q_3, .ref q_4, .ref q_5, .ref q_6, .ref q_7, .ref q_8, .ref q_9, .ref q_10, .ref q_11, .ref q_12, .ref q_13, .int 0, .int 0, .int 0, .int 0, .int (-1), .int (-1), .int 0])), (q_1, .inl (ty 0, 6, .inl (fun _ => 0))), (q_2, .inl (ty 0, 6, .inl (fun _ => 0))), (q_3, .inl (ty 0, 504, .inl (fun _ => 0))), (q_4, .inl (ty 0, 504, .inl (fun _ => 0))), (q_5, .inl (ty 0, 504, .inl (fun _ => 0))), (q_6, .inl (ty 0, 100, .inl (fun _ => 0))), (q_7, .inl (ty 0, 0, .inl (fun _ => 0))), (q_8, .inl (ty 0, 0, .inl (fun _ => 0))), (q_9, .inl (ty 0, 0, .inl (fun _ => 0))), (q_10, .inl (ty 0, 0, .inl (fun _ => 0))), (q_11, .inl (ty 0, 0, .inl (fun _ => 0))), (q_12, .inl (ty 0, 0, .inl (fun _ => 0))), (q_13, .inl (ty 0, 0, .inl (fun _ => 0)))] H := hP
  have hD : va_D A [(h0, .inr (3, [.ref q_1, .ref q_2, .ref q_3, .ref q_4, .ref q_5, .ref q_6, .ref q_7, .ref q_8, .ref q_9, .ref q_10, .ref q_11, .ref q_12, .ref q_13, .int 0, .int 0, .int 0, .int 0, .int (-1), .int (-1), .int 0])), (q_1, .inl (ty 0, 6, .inl (fun _ => 0))), (q_2, .inl (ty 0, 6, .inl (fun _ => 0))), (q_3, .inl (ty 0, 504, .inl (fun _ => 0))), (q_4, .inl (ty 0, 504, .inl (fun _ => 0))), (q_5, .inl (ty 0, 504, .inl (fun _ => 0))), (q_6, .inl (ty 0, 100, .inl (fun _ => 0))), (q_7, .inl (ty 0, 0, .inl (fun _ => 0))), (q_8, .inl (ty 0, 0, .inl (fun _ => 0))), (q_9, .inl (ty 0, 0, .inl (fun _ => 0))), (q_10, .inl (ty 0, 0, .inl (fun _ => 0))), (q_11, .inl (ty 0, 0, .inl (fun _ => 0))), (q_12, .inl (ty 0, 0, .inl (fun _ => 0))), (q_13, .inl (ty 0, 0, .inl (fun _ => 0)))] := hD
  refine W.widen (k := 13) (n := 1624) (Nat.le_of_ble_eq_true rfl) (Nat.le_of_ble_eq_true rfl) ?_
  exact kz_vret hx hb hr hlocks hP hK hD hS dX3_init_139 ⟨q_1, q_2, q_3, q_4, q_5, q_6, q_7, q_8, q_9, q_10, q_11, q_12, q_13, rfl⟩

set_option maxHeartbeats 4000000 in
set_option maxRecDepth 100000 in
theorem kX7_init_1 (l : Launch) (D : va_G) (ty : Nat → ClassId) (eo : Nat → Nat) (sz : Nat) (q_25 : Nat) : Met l yX7_init wsX7_init ({ frames := 1, cells := 6, slots := 460, locals := 20 }) (va_Pc [.ref q_25, .int 12, .int 400] (kz_pre D ty eo [(q_25, .inr (7, [.null, .null, .null, .null, .null, .null, .int 0, .int 0]))] sz)) (va_Qv (fun (u : va_W) => ∃ q_1 q_2 q_3 q_4 q_5 q_6 : Nat, [(q_25, .inr (7, [.ref q_1, .ref q_2, .ref q_3, .ref q_4, .ref q_5, .ref q_6, .int 0, .int 0])), (q_1, .inl (ty 0, 12, .inl (fun _ => 0))), (q_2, .inl (ty 0, 12, .inl (fun _ => 0))), (q_3, .inl (ty 0, 12, .inl (fun _ => 0))), (q_4, .inl (ty 0, 12, .inl (fun _ => 0))), (q_5, .inl (ty 0, 12, .inl (fun _ => 0))), (q_6, .inl (ty 0, 400, .inl (fun _ => 0)))] = u) (kz_B D ty (va_A [(q_25, .inr (7, [.null, .null, .null, .null, .null, .null, .int 0, .int 0]))] sz)) (va_A [(q_25, .inr (7, [.null, .null, .null, .null, .null, .null, .int 0, .int 0]))] sz)) 6 460 (va_A [(q_25, .inr (7, [.null, .null, .null, .null, .null, .null, .int 0, .int 0]))] sz) := by
  refine Met.ofW (cc := cX7_init) (maxL := 3) (ret := none) (by decide) rfl ?_
  intro p e s m args below meth c s₁ B hml hv
  obtain ⟨rfl, hsz, hP, hK, hD0, hN, hE⟩ := hv
  have hx := B.exec
  have hb := B.bytes
  have hr := B.returns
  have hts := atoms_spec (ws := wsX7_init) B.pre
  have hown : s.vm.findClass RX7 = some m.cls := findClass_of_methodNamed B.named
  have hlocks := B.notSynchronized
  have hin : meth.name = "<init>" := (name_of_methodNamed B.named B.method).1
  subst hsz
  have hD := hD0.self (sz := s.heap.size)
  generalize hAe : va_A [(q_25, .inr (7, [.null, .null, .null, .null, .null, .null, .int 0, .int 0]))] s.heap.size = A at hD hE ⊢
  have hA : ∀ q : Nat, s.heap.size ≤ q → A q := fun q h => by rw [← hAe]; exact Or.inr h
  have hS : va_S A s.heap s.heap [] := va_S.rf
  have hl := lv_entry ([.ref q_25, .int 12, .int 400]) (n := 3) (Nat.le_of_ble_eq_true rfl)
  rw [lg_entry_eq]
  generalize (lg_sl ([.ref q_25, .int 12, .int 400]) ++ List.replicate (3 - (lg_sl ([.ref q_25, .int 12, .int 400])).length) Slot.unset).toArray = ls at hl ⊢
  have hl : lv_has ls 3 [(0, .ref q_25), (1, .int 12), (2, .int 400)] := hl
  refine lv_aload_n hx hb dX7_init_0 rfl (lv_at hl 0 rfl) ?_
  refine W.objInit hx hb hown (hts (.methodLink RX7 1 objectInit) (by decide +kernel)) (hts (.instanceMethod objectInit) (by decide +kernel)) (hts (.code objectInit ⟨#[0xb1]⟩ 1 none) (by decide +kernel)) rfl (by rw [hml]; exact hl.1) rfl dX7_init_1 (Nat.le_of_ble_eq_true rfl) (Nat.le_of_ble_eq_true rfl) ?_
  refine W.eq (g2 := F0 m 4 ls []) rfl ?_
  refine lv_aload_n hx hb dX7_init_4 rfl (lv_at hl 0 rfl) ?_
  refine lv_iconst (v := 0) hx hb dX7_init_5 (by decide) ?_
  refine va_put (D := D) (ci := 7) (v := .int 0) (ty := .int) (C := RX7) (T := TX7) (N := 8) hx hb hts (by decide +kernel) tyX7 tyX7_ok nmX7 hown hK hP hD hS 0 rfl rfl 6 (by decide) (hts (.fieldLink RX7 7 "TurnedFloors$Text" "clauses" "I") (by decide +kernel)) (fun _ h9 => h9) rfl (by decide +kernel) rfl rfl (Nat.le_of_ble_eq_true rfl) dX7_init_6 (fun H locs hP hD hS => ?_)
  have hP : va_P D vwCl [(q_25, .inr (7, [.null, .null, .null, .null, .null, .null, .int 0, .int 0]))] H := hP
  have hD : va_D A [(q_25, .inr (7, [.null, .null, .null, .null, .null, .null, .int 0, .int 0]))] := hD
  refine lv_aload_n hx hb dX7_init_9 rfl (lv_at hl 0 rfl) ?_
  refine lv_iconst (v := 0) hx hb dX7_init_10 (by decide) ?_
  refine va_put (D := D) (ci := 7) (v := .int 0) (ty := .int) (C := RX7) (T := TX7) (N := 8) hx hb hts (by decide +kernel) tyX7 tyX7_ok nmX7 hown hK hP hD hS 0 rfl rfl 7 (by decide) (hts (.fieldLink RX7 13 "TurnedFloors$Text" "length" "I") (by decide +kernel)) (fun _ h9 => h9) rfl (by decide +kernel) rfl rfl (Nat.le_of_ble_eq_true rfl) dX7_init_11 (fun H locs hP hD hS => ?_)
  have hP : va_P D vwCl [(q_25, .inr (7, [.null, .null, .null, .null, .null, .null, .int 0, .int 0]))] H := hP
  have hD : va_D A [(q_25, .inr (7, [.null, .null, .null, .null, .null, .null, .int 0, .int 0]))] := hD
  refine lv_aload_n hx hb dX7_init_14 rfl (lv_at hl 0 rfl) ?_
  refine lv_iload_n hx hb dX7_init_15 rfl (lv_at hl 1 rfl) ?_
  refine va_newa (atype := .int) (ty := .int) (N' := 12) (a0 := (12, .inl (fun _ => 0))) hx hb (hts (.arrayClass .int) (by decide +kernel)) rfl hK hP hD hS hA (fun _ => rfl) (by decide) (by decide) (by decide) (Nat.le_of_ble_eq_true rfl) (Nat.le_of_ble_eq_true rfl) dX7_init_16 (fun q_1 cA H hK2 hP hD hS => ?_)
  obtain rfl : cA = ty 0 := kz_cA (t0 := 0) (t1 := 6) hK2 rfl rfl rfl
  have hP : va_P D vwCl [(q_25, .inr (7, [.null, .null, .null, .null, .null, .null, .int 0, .int 0])), (q_1, .inl (ty 0, 12, .inl (fun _ => 0)))] H := hP
  have hD : va_D A [(q_25, .inr (7, [.null, .null, .null, .null, .null, .null, .int 0, .int 0])), (q_1, .inl (ty 0, 12, .inl (fun _ => 0)))] := hD
  refine va_putF (D := D) (ci := 7) (v := .ref q_1) (ty := .array .int) (C := RX7) (T := TX7) (N := 8) hx hb hts (by decide +kernel) tyX7 tyX7_ok nmX7 hown hK hP hD hS 0 rfl rfl 0 (by decide) (hts (.fieldLink RX7 16 "TurnedFloors$Text" "kind" "[I") (by decide +kernel)) (fun _ h9 => h9) rfl hin rfl (by decide +kernel) rfl rfl (Nat.le_of_ble_eq_true rfl) dX7_init_18 (fun H locs hP hD hS => ?_)
  have hP : va_P D vwCl [(q_25, .inr (7, [.ref q_1, .null, .null, .null, .null, .null, .int 0, .int 0])), (q_1, .inl (ty 0, 12, .inl (fun _ => 0)))] H := hP
  have hD : va_D A [(q_25, .inr (7, [.ref q_1, .null, .null, .null, .null, .null, .int 0, .int 0])), (q_1, .inl (ty 0, 12, .inl (fun _ => 0)))] := hD
  refine lv_aload_n hx hb dX7_init_21 rfl (lv_at hl 0 rfl) ?_
  refine lv_iload_n hx hb dX7_init_22 rfl (lv_at hl 1 rfl) ?_
  refine va_newa (atype := .int) (ty := .int) (N' := 12) (a0 := (12, .inl (fun _ => 0))) hx hb (hts (.arrayClass .int) (by decide +kernel)) rfl hK hP hD hS hA (fun _ => rfl) (by decide) (by decide) (by decide) (Nat.le_of_ble_eq_true rfl) (Nat.le_of_ble_eq_true rfl) dX7_init_23 (fun q_2 cA H hK2 hP hD hS => ?_)
  obtain rfl : cA = ty 0 := kz_cA (t0 := 0) (t1 := 6) hK2 rfl rfl rfl
  have hP : va_P D vwCl [(q_25, .inr (7, [.ref q_1, .null, .null, .null, .null, .null, .int 0, .int 0])), (q_1, .inl (ty 0, 12, .inl (fun _ => 0))), (q_2, .inl (ty 0, 12, .inl (fun _ => 0)))] H := hP
  have hD : va_D A [(q_25, .inr (7, [.ref q_1, .null, .null, .null, .null, .null, .int 0, .int 0])), (q_1, .inl (ty 0, 12, .inl (fun _ => 0))), (q_2, .inl (ty 0, 12, .inl (fun _ => 0)))] := hD
  refine va_putF (D := D) (ci := 7) (v := .ref q_2) (ty := .array .int) (C := RX7) (T := TX7) (N := 8) hx hb hts (by decide +kernel) tyX7 tyX7_ok nmX7 hown hK hP hD hS 0 rfl rfl 1 (by decide) (hts (.fieldLink RX7 20 "TurnedFloors$Text" "times" "[I") (by decide +kernel)) (fun _ h9 => h9) rfl hin rfl (by decide +kernel) rfl rfl (Nat.le_of_ble_eq_true rfl) dX7_init_25 (fun H locs hP hD hS => ?_)
  have hP : va_P D vwCl [(q_25, .inr (7, [.ref q_1, .ref q_2, .null, .null, .null, .null, .int 0, .int 0])), (q_1, .inl (ty 0, 12, .inl (fun _ => 0))), (q_2, .inl (ty 0, 12, .inl (fun _ => 0)))] H := hP
  have hD : va_D A [(q_25, .inr (7, [.ref q_1, .ref q_2, .null, .null, .null, .null, .int 0, .int 0])), (q_1, .inl (ty 0, 12, .inl (fun _ => 0))), (q_2, .inl (ty 0, 12, .inl (fun _ => 0)))] := hD
  refine lv_aload_n hx hb dX7_init_28 rfl (lv_at hl 0 rfl) ?_
  refine lv_iload_n hx hb dX7_init_29 rfl (lv_at hl 1 rfl) ?_
  refine va_newa (atype := .int) (ty := .int) (N' := 12) (a0 := (12, .inl (fun _ => 0))) hx hb (hts (.arrayClass .int) (by decide +kernel)) rfl hK hP hD hS hA (fun _ => rfl) (by decide) (by decide) (by decide) (Nat.le_of_ble_eq_true rfl) (Nat.le_of_ble_eq_true rfl) dX7_init_30 (fun q_3 cA H hK2 hP hD hS => ?_)
  obtain rfl : cA = ty 0 := kz_cA (t0 := 0) (t1 := 6) hK2 rfl rfl rfl
  have hP : va_P D vwCl [(q_25, .inr (7, [.ref q_1, .ref q_2, .null, .null, .null, .null, .int 0, .int 0])), (q_1, .inl (ty 0, 12, .inl (fun _ => 0))), (q_2, .inl (ty 0, 12, .inl (fun _ => 0))), (q_3, .inl (ty 0, 12, .inl (fun _ => 0)))] H := hP
  have hD : va_D A [(q_25, .inr (7, [.ref q_1, .ref q_2, .null, .null, .null, .null, .int 0, .int 0])), (q_1, .inl (ty 0, 12, .inl (fun _ => 0))), (q_2, .inl (ty 0, 12, .inl (fun _ => 0))), (q_3, .inl (ty 0, 12, .inl (fun _ => 0)))] := hD
  refine va_putF (D := D) (ci := 7) (v := .ref q_3) (ty := .array .int) (C := RX7) (T := TX7) (N := 8) hx hb hts (by decide +kernel) tyX7 tyX7_ok nmX7 hown hK hP hD hS 0 rfl rfl 2 (by decide) (hts (.fieldLink RX7 23 "TurnedFloors$Text" "sumFrom" "[I") (by decide +kernel)) (fun _ h9 => h9) rfl hin rfl (by decide +kernel) rfl rfl (Nat.le_of_ble_eq_true rfl) dX7_init_32 (fun H locs hP hD hS => ?_)
  have hP : va_P D vwCl [(q_25, .inr (7, [.ref q_1, .ref q_2, .ref q_3, .null, .null, .null, .int 0, .int 0])), (q_1, .inl (ty 0, 12, .inl (fun _ => 0))), (q_2, .inl (ty 0, 12, .inl (fun _ => 0))), (q_3, .inl (ty 0, 12, .inl (fun _ => 0)))] H := hP
  have hD : va_D A [(q_25, .inr (7, [.ref q_1, .ref q_2, .ref q_3, .null, .null, .null, .int 0, .int 0])), (q_1, .inl (ty 0, 12, .inl (fun _ => 0))), (q_2, .inl (ty 0, 12, .inl (fun _ => 0))), (q_3, .inl (ty 0, 12, .inl (fun _ => 0)))] := hD
  refine lv_aload_n hx hb dX7_init_35 rfl (lv_at hl 0 rfl) ?_
  refine lv_iload_n hx hb dX7_init_36 rfl (lv_at hl 1 rfl) ?_
  refine va_newa (atype := .int) (ty := .int) (N' := 12) (a0 := (12, .inl (fun _ => 0))) hx hb (hts (.arrayClass .int) (by decide +kernel)) rfl hK hP hD hS hA (fun _ => rfl) (by decide) (by decide) (by decide) (Nat.le_of_ble_eq_true rfl) (Nat.le_of_ble_eq_true rfl) dX7_init_37 (fun q_4 cA H hK2 hP hD hS => ?_)
  obtain rfl : cA = ty 0 := kz_cA (t0 := 0) (t1 := 6) hK2 rfl rfl rfl
  have hP : va_P D vwCl [(q_25, .inr (7, [.ref q_1, .ref q_2, .ref q_3, .null, .null, .null, .int 0, .int 0])), (q_1, .inl (ty 0, 12, .inl (fun _ => 0))), (q_2, .inl (ty 0, 12, .inl (fun _ => 0))), (q_3, .inl (ty 0, 12, .inl (fun _ => 0))), (q_4, .inl (ty 0, 12, .inl (fun _ => 0)))] H := hP
  have hD : va_D A [(q_25, .inr (7, [.ref q_1, .ref q_2, .ref q_3, .null, .null, .null, .int 0, .int 0])), (q_1, .inl (ty 0, 12, .inl (fun _ => 0))), (q_2, .inl (ty 0, 12, .inl (fun _ => 0))), (q_3, .inl (ty 0, 12, .inl (fun _ => 0))), (q_4, .inl (ty 0, 12, .inl (fun _ => 0)))] := hD
  refine va_putF (D := D) (ci := 7) (v := .ref q_4) (ty := .array .int) (C := RX7) (T := TX7) (N := 8) hx hb hts (by decide +kernel) tyX7 tyX7_ok nmX7 hown hK hP hD hS 0 rfl rfl 3 (by decide) (hts (.fieldLink RX7 26 "TurnedFloors$Text" "testFrom" "[I") (by decide +kernel)) (fun _ h9 => h9) rfl hin rfl (by decide +kernel) rfl rfl (Nat.le_of_ble_eq_true rfl) dX7_init_39 (fun H locs hP hD hS => ?_)
  have hP : va_P D vwCl [(q_25, .inr (7, [.ref q_1, .ref q_2, .ref q_3, .ref q_4, .null, .null, .int 0, .int 0])), (q_1, .inl (ty 0, 12, .inl (fun _ => 0))), (q_2, .inl (ty 0, 12, .inl (fun _ => 0))), (q_3, .inl (ty 0, 12, .inl (fun _ => 0))), (q_4, .inl (ty 0, 12, .inl (fun _ => 0)))] H := hP
  have hD : va_D A [(q_25, .inr (7, [.ref q_1, .ref q_2, .ref q_3, .ref q_4, .null, .null, .int 0, .int 0])), (q_1, .inl (ty 0, 12, .inl (fun _ => 0))), (q_2, .inl (ty 0, 12, .inl (fun _ => 0))), (q_3, .inl (ty 0, 12, .inl (fun _ => 0))), (q_4, .inl (ty 0, 12, .inl (fun _ => 0)))] := hD
  refine lv_aload_n hx hb dX7_init_42 rfl (lv_at hl 0 rfl) ?_
  refine lv_iload_n hx hb dX7_init_43 rfl (lv_at hl 1 rfl) ?_
  refine va_newa (atype := .int) (ty := .int) (N' := 12) (a0 := (12, .inl (fun _ => 0))) hx hb (hts (.arrayClass .int) (by decide +kernel)) rfl hK hP hD hS hA (fun _ => rfl) (by decide) (by decide) (by decide) (Nat.le_of_ble_eq_true rfl) (Nat.le_of_ble_eq_true rfl) dX7_init_44 (fun q_5 cA H hK2 hP hD hS => ?_)
  obtain rfl : cA = ty 0 := kz_cA (t0 := 0) (t1 := 6) hK2 rfl rfl rfl
  have hP : va_P D vwCl [(q_25, .inr (7, [.ref q_1, .ref q_2, .ref q_3, .ref q_4, .null, .null, .int 0, .int 0])), (q_1, .inl (ty 0, 12, .inl (fun _ => 0))), (q_2, .inl (ty 0, 12, .inl (fun _ => 0))), (q_3, .inl (ty 0, 12, .inl (fun _ => 0))), (q_4, .inl (ty 0, 12, .inl (fun _ => 0))), (q_5, .inl (ty 0, 12, .inl (fun _ => 0)))] H := hP
  have hD : va_D A [(q_25, .inr (7, [.ref q_1, .ref q_2, .ref q_3, .ref q_4, .null, .null, .int 0, .int 0])), (q_1, .inl (ty 0, 12, .inl (fun _ => 0))), (q_2, .inl (ty 0, 12, .inl (fun _ => 0))), (q_3, .inl (ty 0, 12, .inl (fun _ => 0))), (q_4, .inl (ty 0, 12, .inl (fun _ => 0))), (q_5, .inl (ty 0, 12, .inl (fun _ => 0)))] := hD
  refine va_putF (D := D) (ci := 7) (v := .ref q_5) (ty := .array .int) (C := RX7) (T := TX7) (N := 8) hx hb hts (by decide +kernel) tyX7 tyX7_ok nmX7 hown hK hP hD hS 0 rfl rfl 4 (by decide) (hts (.fieldLink RX7 29 "TurnedFloors$Text" "testTo" "[I") (by decide +kernel)) (fun _ h9 => h9) rfl hin rfl (by decide +kernel) rfl rfl (Nat.le_of_ble_eq_true rfl) dX7_init_46 (fun H locs hP hD hS => ?_)
  have hP : va_P D vwCl [(q_25, .inr (7, [.ref q_1, .ref q_2, .ref q_3, .ref q_4, .ref q_5, .null, .int 0, .int 0])), (q_1, .inl (ty 0, 12, .inl (fun _ => 0))), (q_2, .inl (ty 0, 12, .inl (fun _ => 0))), (q_3, .inl (ty 0, 12, .inl (fun _ => 0))), (q_4, .inl (ty 0, 12, .inl (fun _ => 0))), (q_5, .inl (ty 0, 12, .inl (fun _ => 0)))] H := hP
  have hD : va_D A [(q_25, .inr (7, [.ref q_1, .ref q_2, .ref q_3, .ref q_4, .ref q_5, .null, .int 0, .int 0])), (q_1, .inl (ty 0, 12, .inl (fun _ => 0))), (q_2, .inl (ty 0, 12, .inl (fun _ => 0))), (q_3, .inl (ty 0, 12, .inl (fun _ => 0))), (q_4, .inl (ty 0, 12, .inl (fun _ => 0))), (q_5, .inl (ty 0, 12, .inl (fun _ => 0)))] := hD
  refine lv_aload_n hx hb dX7_init_49 rfl (lv_at hl 0 rfl) ?_
  refine lv_iload_n hx hb dX7_init_50 rfl (lv_at hl 2 rfl) ?_
  refine va_newa (atype := .int) (ty := .int) (N' := 400) (a0 := (400, .inl (fun _ => 0))) hx hb (hts (.arrayClass .int) (by decide +kernel)) rfl hK hP hD hS hA (fun _ => rfl) (by decide) (by decide) (by decide) (Nat.le_of_ble_eq_true rfl) (Nat.le_of_ble_eq_true rfl) dX7_init_51 (fun q_6 cA H hK2 hP hD hS => ?_)
  obtain rfl : cA = ty 0 := kz_cA (t0 := 0) (t1 := 6) hK2 rfl rfl rfl
  have hP : va_P D vwCl [(q_25, .inr (7, [.ref q_1, .ref q_2, .ref q_3, .ref q_4, .ref q_5, .null, .int 0, .int 0])), (q_1, .inl (ty 0, 12, .inl (fun _ => 0))), (q_2, .inl (ty 0, 12, .inl (fun _ => 0))), (q_3, .inl (ty 0, 12, .inl (fun _ => 0))), (q_4, .inl (ty 0, 12, .inl (fun _ => 0))), (q_5, .inl (ty 0, 12, .inl (fun _ => 0))), (q_6, .inl (ty 0, 400, .inl (fun _ => 0)))] H := hP
  have hD : va_D A [(q_25, .inr (7, [.ref q_1, .ref q_2, .ref q_3, .ref q_4, .ref q_5, .null, .int 0, .int 0])), (q_1, .inl (ty 0, 12, .inl (fun _ => 0))), (q_2, .inl (ty 0, 12, .inl (fun _ => 0))), (q_3, .inl (ty 0, 12, .inl (fun _ => 0))), (q_4, .inl (ty 0, 12, .inl (fun _ => 0))), (q_5, .inl (ty 0, 12, .inl (fun _ => 0))), (q_6, .inl (ty 0, 400, .inl (fun _ => 0)))] := hD
  refine va_putF (D := D) (ci := 7) (v := .ref q_6) (ty := .array .int) (C := RX7) (T := TX7) (N := 8) hx hb hts (by decide +kernel) tyX7 tyX7_ok nmX7 hown hK hP hD hS 0 rfl rfl 5 (by decide) (hts (.fieldLink RX7 32 "TurnedFloors$Text" "code" "[I") (by decide +kernel)) (fun _ h9 => h9) rfl hin rfl (by decide +kernel) rfl rfl (Nat.le_of_ble_eq_true rfl) dX7_init_53 (fun H locs hP hD hS => ?_)
  have hP : va_P D vwCl [(q_25, .inr (7, [.ref q_1, .ref q_2, .ref q_3, .ref q_4, .ref q_5, .ref q_6, .int 0, .int 0])), (q_1, .inl (ty 0, 12, .inl (fun _ => 0))), (q_2, .inl (ty 0, 12, .inl (fun _ => 0))), (q_3, .inl (ty 0, 12, .inl (fun _ => 0))), (q_4, .inl (ty 0, 12, .inl (fun _ => 0))), (q_5, .inl (ty 0, 12, .inl (fun _ => 0))), (q_6, .inl (ty 0, 400, .inl (fun _ => 0)))] H := hP
  have hD : va_D A [(q_25, .inr (7, [.ref q_1, .ref q_2, .ref q_3, .ref q_4, .ref q_5, .ref q_6, .int 0, .int 0])), (q_1, .inl (ty 0, 12, .inl (fun _ => 0))), (q_2, .inl (ty 0, 12, .inl (fun _ => 0))), (q_3, .inl (ty 0, 12, .inl (fun _ => 0))), (q_4, .inl (ty 0, 12, .inl (fun _ => 0))), (q_5, .inl (ty 0, 12, .inl (fun _ => 0))), (q_6, .inl (ty 0, 400, .inl (fun _ => 0)))] := hD
  refine W.widen (k := 6) (n := 460) (Nat.le_of_ble_eq_true rfl) (Nat.le_of_ble_eq_true rfl) ?_
  exact kz_vret hx hb hr hlocks hP hK hD hS dX7_init_56 ⟨q_1, q_2, q_3, q_4, q_5, q_6, rfl⟩
