set_option maxHeartbeats 4000000 in
set_option maxRecDepth 100000 in
theorem kcX10_init (l : Launch) (D : va_G) (ty : Nat → ClassId) (eo : Nat → Nat) (sz : Nat) (h0 : Nat) : Met l yX10_init wsX10_init ({ frames := 1, cells := 27, slots := 213951, locals := 20 }) (va_Pc [.ref h0] (kz_pre D ty eo [(h0, .inr (10, [.int 0, .null, .null, .null, .null, .null, .int 0, .null, .int 0, .int 0, .int 0, .null, .null, .int 0, .int 0, .null, .null, .null, .int 0, .int 0, .int 0, .int 0, .int 0, .int 0, .int 0, .int 0, .null, .int 0, .int 0, .null, .null, .null, .int 0, .null, .null, .null, .null, .int 0, .int 0, .null, .null, .null, .null, .null, .null, .null, .int 0, .int 0, .int 0, .int 0, .int 0, .int 0, .long 0, .null, .int 0, .int 0]))] sz)) (va_Qv (fun (u : va_W) => ∃ q_1 q_2 q_3 q_4 q_5 q_6 q_135 q_136 q_137 q_138 q_139 q_140 q_141 q_142 q_143 q_144 q_145 q_146 q_147 q_148 q_149 q_150 q_151 q_152 q_153 q_154 q_155 : Nat, ∃ f_134 : Nat → Int32, [(h0, .inr (10, [.int 0, .ref q_1, .ref q_2, .ref q_3, .ref q_4, .ref q_5, .int 0, .ref q_6, .int 0, .int 0, .int 0, .ref q_135, .ref q_136, .int 0, .int (-1), .ref q_137, .ref q_138, .ref q_139, .int 0, .int 0, .int 0, .int 0, .int 0, .int 0, .int 0, .int 0, .ref q_140, .int 0, .int 0, .ref q_141, .ref q_142, .ref q_143, .int 0, .ref q_144, .ref q_145, .ref q_146, .ref q_147, .int 0, .int 0, .ref q_148, .ref q_149, .ref q_150, .ref q_151, .ref q_152, .ref q_153, .ref q_154, .int (-1), .int 0, .int 0, .int 0, .int 0, .int 0, .long 0, .ref q_155, .int (-1), .int 0])), (q_1, .inl (ty 0, 7, .inl (fun _ => 0))), (q_2, .inl (ty 0, 5640, .inl (upd (upd (fun _ => 0) 26 1) 32 (-1)))), (q_3, .inl (ty 0, 11280, .inl (fun _ => 0))), (q_4, .inl (ty 2, 2, .inl (fun _ => 0))), (q_5, .inl (ty 0, 28, .inl (fun _ => 0))), (q_6, .inl (ty 3, 128, .inl f_134)), (q_135, .inl (ty 3, 400, .inl (fun _ => 0))), (q_136, .inl (ty 0, 5, .inl (fun _ => 0))), (q_137, .inl (ty 0, 401, .inl (fun _ => 0))), (q_138, .inl (ty 0, 401, .inl (fun _ => 0))), (q_139, .inl (ty 0, 401, .inl (fun _ => 0))), (q_140, .inl (ty 0, 9, .inl (fun _ => 0))), (q_141, .inl (ty 2, 6, .inl (fun _ => 0))), (q_142, .inl (ty 0, 240, .inl (fun _ => 0))), (q_143, .inl (ty 0, 240, .inl (fun _ => 0))), (q_144, .inl (ty 0, 4320, .inl (fun _ => 0))), (q_145, .inl (ty 0, 5040, .inl (fun _ => 0))), (q_146, .inl (ty 0, 448, .inl (fun _ => 0))), (q_147, .inl (ty 0, 6, .inl (fun _ => 0))), (q_148, .inl (ty 0, 588, .inl (fun _ => 0))), (q_149, .inl (ty 0, 46080, .inl (fun _ => 0))), (q_150, .inl (ty 0, 46080, .inl (fun _ => 0))), (q_151, .inl (ty 0, 46080, .inl (fun _ => 0))), (q_152, .inl (ty 2, 46080, .inl (fun _ => 0))), (q_153, .inl (ty 0, 6, .inl (fun _ => 0))), (q_154, .inl (ty 1, 21, .inr (.inl (fun _ => 0)))), (q_155, .inl (ty 0, 14, .inl (fun _ => 0)))] = u) (kz_B D ty (va_A [(h0, .inr (10, [.int 0, .null, .null, .null, .null, .null, .int 0, .null, .int 0, .int 0, .int 0, .null, .null, .int 0, .int 0, .null, .null, .null, .int 0, .int 0, .int 0, .int 0, .int 0, .int 0, .int 0, .int 0, .null, .int 0, .int 0, .null, .null, .null, .int 0, .null, .null, .null, .null, .int 0, .int 0, .null, .null, .null, .null, .null, .null, .null, .int 0, .int 0, .int 0, .int 0, .int 0, .int 0, .long 0, .null, .int 0, .int 0]))] sz)) (va_A [(h0, .inr (10, [.int 0, .null, .null, .null, .null, .null, .int 0, .null, .int 0, .int 0, .int 0, .null, .null, .int 0, .int 0, .null, .null, .null, .int 0, .int 0, .int 0, .int 0, .int 0, .int 0, .int 0, .int 0, .null, .int 0, .int 0, .null, .null, .null, .int 0, .null, .null, .null, .null, .int 0, .int 0, .null, .null, .null, .null, .null, .null, .null, .int 0, .int 0, .int 0, .int 0, .int 0, .int 0, .long 0, .null, .int 0, .int 0]))] sz)) 27 213951 (va_A [(h0, .inr (10, [.int 0, .null, .null, .null, .null, .null, .int 0, .null, .int 0, .int 0, .int 0, .null, .null, .int 0, .int 0, .null, .null, .null, .int 0, .int 0, .int 0, .int 0, .int 0, .int 0, .int 0, .int 0, .null, .int 0, .int 0, .null, .null, .null, .int 0, .null, .null, .null, .null, .int 0, .int 0, .null, .null, .null, .null, .null, .null, .null, .int 0, .int 0, .int 0, .int 0, .int 0, .int 0, .long 0, .null, .int 0, .int 0]))] sz) := by
  refine Met.ofW (cc := cX10_init) (maxL := 1) (ret := none) (by decide) rfl ?_
  intro p e s m args below meth c s₁ B hml hv
  obtain ⟨rfl, hsz, hP, hK, hD0, hN, hE⟩ := hv
  have hx := B.exec
  have hb := B.bytes
  have hr := B.returns
  have hts := atoms_spec (ws := wsX10_init) B.pre
  have hown : s.vm.findClass RX10 = some m.cls := findClass_of_methodNamed B.named
  have hlocks := B.notSynchronized
  have hin : meth.name = "<init>" := (name_of_methodNamed B.named B.method).1
  subst hsz
  have hD := hD0.self (sz := s.heap.size)
  generalize hAe : va_A [(h0, .inr (10, [.int 0, .null, .null, .null, .null, .null, .int 0, .null, .int 0, .int 0, .int 0, .null, .null, .int 0, .int 0, .null, .null, .null, .int 0, .int 0, .int 0, .int 0, .int 0, .int 0, .int 0, .int 0, .null, .int 0, .int 0, .null, .null, .null, .int 0, .null, .null, .null, .null, .int 0, .int 0, .null, .null, .null, .null, .null, .null, .null, .int 0, .int 0, .int 0, .int 0, .int 0, .int 0, .long 0, .null, .int 0, .int 0]))] s.heap.size = A at hD hE ⊢
  have hA : ∀ q : Nat, s.heap.size ≤ q → A q := fun q h => by rw [← hAe]; exact Or.inr h
  have hS : va_S A s.heap s.heap [] := va_S.rf
  have hl := lv_entry ([.ref h0]) (n := 1) (Nat.le_of_ble_eq_true rfl)
  rw [lg_entry_eq]
  generalize (lg_sl ([.ref h0]) ++ List.replicate (1 - (lg_sl ([.ref h0])).length) Slot.unset).toArray = ls at hl ⊢
  have hl : lv_has ls 1 [(0, .ref h0)] := hl
  refine lv_aload_n hx hb dX10_init_0 rfl (lv_at hl 0 rfl) ?_
  refine W.objInit hx hb hown (hts (.methodLink RX10 22 objectInit) (by decide +kernel)) (hts (.instanceMethod objectInit) (by decide +kernel)) (hts (.code objectInit ⟨#[0xb1]⟩ 1 none) (by decide +kernel)) rfl (by rw [hml]; exact hl.1) rfl dX10_init_1 (Nat.le_of_ble_eq_true rfl) (Nat.le_of_ble_eq_true rfl) ?_
  refine W.eq (g2 := F0 m 4 ls []) rfl ?_
  refine lv_aload_n hx hb dX10_init_4 rfl (lv_at hl 0 rfl) ?_
  refine lv_bipush (v := 7) hx hb dX10_init_5 (by decide) ?_
  refine va_newa (atype := .int) (ty := .int) (N' := 7) (a0 := (7, .inl (fun _ => 0))) hx hb (hts (.arrayClass .int) (by decide +kernel)) rfl hK hP hD hS hA (fun _ => rfl) (by decide) (by decide) (by decide) (Nat.le_of_ble_eq_true rfl) (Nat.le_of_ble_eq_true rfl) dX10_init_7 (fun q_1 cA H hK2 hp hd hs => ?_)
  obtain rfl : cA = ty 0 := kz_cA (t0 := 0) (t1 := 6) hK2 rfl rfl rfl
  refine kz_re (w2 := [(h0, .inr (10, [.int 0, .null, .null, .null, .null, .null, .int 0, .null, .int 0, .int 0, .int 0, .null, .null, .int 0, .int 0, .null, .null, .null, .int 0, .int 0, .int 0, .int 0, .int 0, .int 0, .int 0, .int 0, .null, .int 0, .int 0, .null, .null, .null, .int 0, .null, .null, .null, .null, .int 0, .int 0, .null, .null, .null, .null, .null, .null, .null, .int 0, .int 0, .int 0, .int 0, .int 0, .int 0, .long 0, .null, .int 0, .int 0])), (q_1, .inl (ty 0, 7, .inl (fun _ => 0)))]) hp hd hs rfl ?_
  clear hp hd hs hP hD hS
  intro hP hD hS
  refine va_putF (D := D) (ci := 10) (v := .ref q_1) (ty := .array .int) (C := RX10) (T := TX10) (N := 56) hx hb hts (by decide +kernel) tyX10 tyX10_ok nmX10 hown hK hP hD hS 0 rfl rfl 1 (by decide) (hts (.fieldLink RX10 7 "TurnedFloorsModel" "refused" "[I") (by decide +kernel)) (fun _ h9 => h9) rfl hin rfl (by decide +kernel) rfl rfl (Nat.le_of_ble_eq_true rfl) dX10_init_9 (fun H locs hp hd hs => ?_)
  refine kz_re (w2 := [(h0, .inr (10, [.int 0, .ref q_1, .null, .null, .null, .null, .int 0, .null, .int 0, .int 0, .int 0, .null, .null, .int 0, .int 0, .null, .null, .null, .int 0, .int 0, .int 0, .int 0, .int 0, .int 0, .int 0, .int 0, .null, .int 0, .int 0, .null, .null, .null, .int 0, .null, .null, .null, .null, .int 0, .int 0, .null, .null, .null, .null, .null, .null, .null, .int 0, .int 0, .int 0, .int 0, .int 0, .int 0, .long 0, .null, .int 0, .int 0])), (q_1, .inl (ty 0, 7, .inl (fun _ => 0)))]) hp hd hs rfl ?_
  clear hp hd hs hP hD hS
  intro hP hD hS
  refine lv_aload_n hx hb dX10_init_12 rfl (lv_at hl 0 rfl) ?_
  refine lv_sipush (v := 5640) hx hb dX10_init_13 (by decide) ?_
  refine va_newa (atype := .int) (ty := .int) (N' := 5640) (a0 := (5640, .inl (fun _ => 0))) hx hb (hts (.arrayClass .int) (by decide +kernel)) rfl hK hP hD hS hA (fun _ => rfl) (by decide) (by decide) (by decide) (Nat.le_of_ble_eq_true rfl) (Nat.le_of_ble_eq_true rfl) dX10_init_16 (fun q_2 cA H hK2 hp hd hs => ?_)
  obtain rfl : cA = ty 0 := kz_cA (t0 := 0) (t1 := 6) hK2 rfl rfl rfl
  refine kz_re (w2 := [(h0, .inr (10, [.int 0, .ref q_1, .null, .null, .null, .null, .int 0, .null, .int 0, .int 0, .int 0, .null, .null, .int 0, .int 0, .null, .null, .null, .int 0, .int 0, .int 0, .int 0, .int 0, .int 0, .int 0, .int 0, .null, .int 0, .int 0, .null, .null, .null, .int 0, .null, .null, .null, .null, .int 0, .int 0, .null, .null, .null, .null, .null, .null, .null, .int 0, .int 0, .int 0, .int 0, .int 0, .int 0, .long 0, .null, .int 0, .int 0])), (q_1, .inl (ty 0, 7, .inl (fun _ => 0))), (q_2, .inl (ty 0, 5640, .inl (fun _ => 0)))]) hp hd hs rfl ?_
  clear hp hd hs hP hD hS
  intro hP hD hS
  refine va_putF (D := D) (ci := 10) (v := .ref q_2) (ty := .array .int) (C := RX10) (T := TX10) (N := 56) hx hb hts (by decide +kernel) tyX10 tyX10_ok nmX10 hown hK hP hD hS 0 rfl rfl 2 (by decide) (hts (.fieldLink RX10 28 "TurnedFloorsModel" "kept" "[I") (by decide +kernel)) (fun _ h9 => h9) rfl hin rfl (by decide +kernel) rfl rfl (Nat.le_of_ble_eq_true rfl) dX10_init_18 (fun H locs hp hd hs => ?_)
  refine kz_re (w2 := [(h0, .inr (10, [.int 0, .ref q_1, .ref q_2, .null, .null, .null, .int 0, .null, .int 0, .int 0, .int 0, .null, .null, .int 0, .int 0, .null, .null, .null, .int 0, .int 0, .int 0, .int 0, .int 0, .int 0, .int 0, .int 0, .null, .int 0, .int 0, .null, .null, .null, .int 0, .null, .null, .null, .null, .int 0, .int 0, .null, .null, .null, .null, .null, .null, .null, .int 0, .int 0, .int 0, .int 0, .int 0, .int 0, .long 0, .null, .int 0, .int 0])), (q_1, .inl (ty 0, 7, .inl (fun _ => 0))), (q_2, .inl (ty 0, 5640, .inl (fun _ => 0)))]) hp hd hs rfl ?_
  clear hp hd hs hP hD hS
  intro hP hD hS
  refine lv_aload_n hx hb dX10_init_21 rfl (lv_at hl 0 rfl) ?_
  refine lv_sipush (v := 11280) hx hb dX10_init_22 (by decide) ?_
  refine va_newa (atype := .int) (ty := .int) (N' := 11280) (a0 := (11280, .inl (fun _ => 0))) hx hb (hts (.arrayClass .int) (by decide +kernel)) rfl hK hP hD hS hA (fun _ => rfl) (by decide) (by decide) (by decide) (Nat.le_of_ble_eq_true rfl) (Nat.le_of_ble_eq_true rfl) dX10_init_25 (fun q_3 cA H hK2 hp hd hs => ?_)
  obtain rfl : cA = ty 0 := kz_cA (t0 := 0) (t1 := 6) hK2 rfl rfl rfl
  refine kz_re (w2 := [(h0, .inr (10, [.int 0, .ref q_1, .ref q_2, .null, .null, .null, .int 0, .null, .int 0, .int 0, .int 0, .null, .null, .int 0, .int 0, .null, .null, .null, .int 0, .int 0, .int 0, .int 0, .int 0, .int 0, .int 0, .int 0, .null, .int 0, .int 0, .null, .null, .null, .int 0, .null, .null, .null, .null, .int 0, .int 0, .null, .null, .null, .null, .null, .null, .null, .int 0, .int 0, .int 0, .int 0, .int 0, .int 0, .long 0, .null, .int 0, .int 0])), (q_1, .inl (ty 0, 7, .inl (fun _ => 0))), (q_2, .inl (ty 0, 5640, .inl (fun _ => 0))), (q_3, .inl (ty 0, 11280, .inl (fun _ => 0)))]) hp hd hs rfl ?_
  clear hp hd hs hP hD hS
  intro hP hD hS
  refine va_putF (D := D) (ci := 10) (v := .ref q_3) (ty := .array .int) (C := RX10) (T := TX10) (N := 56) hx hb hts (by decide +kernel) tyX10 tyX10_ok nmX10 hown hK hP hD hS 0 rfl rfl 3 (by decide) (hts (.fieldLink RX10 31 "TurnedFloorsModel" "images" "[I") (by decide +kernel)) (fun _ h9 => h9) rfl hin rfl (by decide +kernel) rfl rfl (Nat.le_of_ble_eq_true rfl) dX10_init_27 (fun H locs hp hd hs => ?_)
  refine kz_re (w2 := [(h0, .inr (10, [.int 0, .ref q_1, .ref q_2, .ref q_3, .null, .null, .int 0, .null, .int 0, .int 0, .int 0, .null, .null, .int 0, .int 0, .null, .null, .null, .int 0, .int 0, .int 0, .int 0, .int 0, .int 0, .int 0, .int 0, .null, .int 0, .int 0, .null, .null, .null, .int 0, .null, .null, .null, .null, .int 0, .int 0, .null, .null, .null, .null, .null, .null, .null, .int 0, .int 0, .int 0, .int 0, .int 0, .int 0, .long 0, .null, .int 0, .int 0])), (q_1, .inl (ty 0, 7, .inl (fun _ => 0))), (q_2, .inl (ty 0, 5640, .inl (fun _ => 0))), (q_3, .inl (ty 0, 11280, .inl (fun _ => 0)))]) hp hd hs rfl ?_
  clear hp hd hs hP hD hS
  intro hP hD hS
  refine lv_aload_n hx hb dX10_init_30 rfl (lv_at hl 0 rfl) ?_
  refine lv_iconst (v := 2) hx hb dX10_init_31 (by decide) ?_
  refine va_newa (atype := .boolean) (ty := .boolean) (N' := 2) (a0 := (2, .inl (fun _ => 0))) hx hb (hts (.arrayClass .boolean) (by decide +kernel)) rfl hK hP hD hS hA (fun _ => rfl) (by decide) (by decide) (by decide) (Nat.le_of_ble_eq_true rfl) (Nat.le_of_ble_eq_true rfl) dX10_init_32 (fun q_4 cA H hK2 hp hd hs => ?_)
  obtain rfl : cA = ty 2 := kz_cA (t0 := 2) (t1 := 6) hK2 rfl rfl rfl
  refine kz_re (w2 := [(h0, .inr (10, [.int 0, .ref q_1, .ref q_2, .ref q_3, .null, .null, .int 0, .null, .int 0, .int 0, .int 0, .null, .null, .int 0, .int 0, .null, .null, .null, .int 0, .int 0, .int 0, .int 0, .int 0, .int 0, .int 0, .int 0, .null, .int 0, .int 0, .null, .null, .null, .int 0, .null, .null, .null, .null, .int 0, .int 0, .null, .null, .null, .null, .null, .null, .null, .int 0, .int 0, .int 0, .int 0, .int 0, .int 0, .long 0, .null, .int 0, .int 0])), (q_1, .inl (ty 0, 7, .inl (fun _ => 0))), (q_2, .inl (ty 0, 5640, .inl (fun _ => 0))), (q_3, .inl (ty 0, 11280, .inl (fun _ => 0))), (q_4, .inl (ty 2, 2, .inl (fun _ => 0)))]) hp hd hs rfl ?_
  clear hp hd hs hP hD hS
  intro hP hD hS
  refine va_putF (D := D) (ci := 10) (v := .ref q_4) (ty := .array .boolean) (C := RX10) (T := TX10) (N := 56) hx hb hts (by decide +kernel) tyX10 tyX10_ok nmX10 hown hK hP hD hS 0 rfl rfl 4 (by decide) (hts (.fieldLink RX10 34 "TurnedFloorsModel" "hasImage" "[Z") (by decide +kernel)) (fun _ h9 => h9) rfl hin rfl (by decide +kernel) rfl rfl (Nat.le_of_ble_eq_true rfl) dX10_init_34 (fun H locs hp hd hs => ?_)
  refine kz_re (w2 := [(h0, .inr (10, [.int 0, .ref q_1, .ref q_2, .ref q_3, .ref q_4, .null, .int 0, .null, .int 0, .int 0, .int 0, .null, .null, .int 0, .int 0, .null, .null, .null, .int 0, .int 0, .int 0, .int 0, .int 0, .int 0, .int 0, .int 0, .null, .int 0, .int 0, .null, .null, .null, .int 0, .null, .null, .null, .null, .int 0, .int 0, .null, .null, .null, .null, .null, .null, .null, .int 0, .int 0, .int 0, .int 0, .int 0, .int 0, .long 0, .null, .int 0, .int 0])), (q_1, .inl (ty 0, 7, .inl (fun _ => 0))), (q_2, .inl (ty 0, 5640, .inl (fun _ => 0))), (q_3, .inl (ty 0, 11280, .inl (fun _ => 0))), (q_4, .inl (ty 2, 2, .inl (fun _ => 0)))]) hp hd hs rfl ?_
  clear hp hd hs hP hD hS
  intro hP hD hS
  refine lv_aload_n hx hb dX10_init_37 rfl (lv_at hl 0 rfl) ?_
  refine lv_bipush (v := 28) hx hb dX10_init_38 (by decide) ?_
  refine va_newa (atype := .int) (ty := .int) (N' := 28) (a0 := (28, .inl (fun _ => 0))) hx hb (hts (.arrayClass .int) (by decide +kernel)) rfl hK hP hD hS hA (fun _ => rfl) (by decide) (by decide) (by decide) (Nat.le_of_ble_eq_true rfl) (Nat.le_of_ble_eq_true rfl) dX10_init_40 (fun q_5 cA H hK2 hp hd hs => ?_)
  obtain rfl : cA = ty 0 := kz_cA (t0 := 0) (t1 := 6) hK2 rfl rfl rfl
  refine kz_re (w2 := [(h0, .inr (10, [.int 0, .ref q_1, .ref q_2, .ref q_3, .ref q_4, .null, .int 0, .null, .int 0, .int 0, .int 0, .null, .null, .int 0, .int 0, .null, .null, .null, .int 0, .int 0, .int 0, .int 0, .int 0, .int 0, .int 0, .int 0, .null, .int 0, .int 0, .null, .null, .null, .int 0, .null, .null, .null, .null, .int 0, .int 0, .null, .null, .null, .null, .null, .null, .null, .int 0, .int 0, .int 0, .int 0, .int 0, .int 0, .long 0, .null, .int 0, .int 0])), (q_1, .inl (ty 0, 7, .inl (fun _ => 0))), (q_2, .inl (ty 0, 5640, .inl (fun _ => 0))), (q_3, .inl (ty 0, 11280, .inl (fun _ => 0))), (q_4, .inl (ty 2, 2, .inl (fun _ => 0))), (q_5, .inl (ty 0, 28, .inl (fun _ => 0)))]) hp hd hs rfl ?_
  clear hp hd hs hP hD hS
  intro hP hD hS
  refine va_putF (D := D) (ci := 10) (v := .ref q_5) (ty := .array .int) (C := RX10) (T := TX10) (N := 56) hx hb hts (by decide +kernel) tyX10 tyX10_ok nmX10 hown hK hP hD hS 0 rfl rfl 5 (by decide) (hts (.fieldLink RX10 38 "TurnedFloorsModel" "aside" "[I") (by decide +kernel)) (fun _ h9 => h9) rfl hin rfl (by decide +kernel) rfl rfl (Nat.le_of_ble_eq_true rfl) dX10_init_42 (fun H locs hp hd hs => ?_)
  refine kz_re (w2 := [(h0, .inr (10, [.int 0, .ref q_1, .ref q_2, .ref q_3, .ref q_4, .ref q_5, .int 0, .null, .int 0, .int 0, .int 0, .null, .null, .int 0, .int 0, .null, .null, .null, .int 0, .int 0, .int 0, .int 0, .int 0, .int 0, .int 0, .int 0, .null, .int 0, .int 0, .null, .null, .null, .int 0, .null, .null, .null, .null, .int 0, .int 0, .null, .null, .null, .null, .null, .null, .null, .int 0, .int 0, .int 0, .int 0, .int 0, .int 0, .long 0, .null, .int 0, .int 0])), (q_1, .inl (ty 0, 7, .inl (fun _ => 0))), (q_2, .inl (ty 0, 5640, .inl (fun _ => 0))), (q_3, .inl (ty 0, 11280, .inl (fun _ => 0))), (q_4, .inl (ty 2, 2, .inl (fun _ => 0))), (q_5, .inl (ty 0, 28, .inl (fun _ => 0)))]) hp hd hs rfl ?_
  clear hp hd hs hP hD hS
  intro hP hD hS
  refine lv_aload_n hx hb dX10_init_45 rfl (lv_at hl 0 rfl) ?_
  refine lv_sipush (v := 128) hx hb dX10_init_46 (by decide) ?_
  refine va_newa (atype := .byte) (ty := .byte) (N' := 128) (a0 := (128, .inl (fun _ => 0))) hx hb (hts (.arrayClass .byte) (by decide +kernel)) rfl hK hP hD hS hA (fun _ => rfl) (by decide) (by decide) (by decide) (Nat.le_of_ble_eq_true rfl) (Nat.le_of_ble_eq_true rfl) dX10_init_49 (fun q_6 cA H hK2 hp hd hs => ?_)
  obtain rfl : cA = ty 3 := kz_cA (t0 := 3) (t1 := 6) hK2 rfl rfl rfl
  refine kz_re (w2 := [(h0, .inr (10, [.int 0, .ref q_1, .ref q_2, .ref q_3, .ref q_4, .ref q_5, .int 0, .null, .int 0, .int 0, .int 0, .null, .null, .int 0, .int 0, .null, .null, .null, .int 0, .int 0, .int 0, .int 0, .int 0, .int 0, .int 0, .int 0, .null, .int 0, .int 0, .null, .null, .null, .int 0, .null, .null, .null, .null, .int 0, .int 0, .null, .null, .null, .null, .null, .null, .null, .int 0, .int 0, .int 0, .int 0, .int 0, .int 0, .long 0, .null, .int 0, .int 0])), (q_1, .inl (ty 0, 7, .inl (fun _ => 0))), (q_2, .inl (ty 0, 5640, .inl (fun _ => 0))), (q_3, .inl (ty 0, 11280, .inl (fun _ => 0))), (q_4, .inl (ty 2, 2, .inl (fun _ => 0))), (q_5, .inl (ty 0, 28, .inl (fun _ => 0))), (q_6, .inl (ty 3, 128, .inl (fun _ => 0)))]) hp hd hs rfl ?_
  clear hp hd hs hP hD hS
  intro hP hD hS
  refine lv_dup hx hb dX10_init_51 rfl ?_
  refine lv_iconst (v := 0) hx hb dX10_init_52 (by decide) ?_
  refine lv_bipush (v := 112) hx hb dX10_init_53 (by decide) ?_
  refine va_bast hx hb hK hP hD hS 6 3 rfl rfl (by simp only [vp_in]; decide) dX10_init_55 (fun H locs hp hd hs => ?_)
  obtain ⟨f_7, hf_7⟩ : ∃ f : Nat → Int32, upd (fun _ => 0) 0 112 = f := ⟨_, rfl⟩
  refine kz_re (w2 := [(h0, .inr (10, [.int 0, .ref q_1, .ref q_2, .ref q_3, .ref q_4, .ref q_5, .int 0, .null, .int 0, .int 0, .int 0, .null, .null, .int 0, .int 0, .null, .null, .null, .int 0, .int 0, .int 0, .int 0, .int 0, .int 0, .int 0, .int 0, .null, .int 0, .int 0, .null, .null, .null, .int 0, .null, .null, .null, .null, .int 0, .int 0, .null, .null, .null, .null, .null, .null, .null, .int 0, .int 0, .int 0, .int 0, .int 0, .int 0, .long 0, .null, .int 0, .int 0])), (q_1, .inl (ty 0, 7, .inl (fun _ => 0))), (q_2, .inl (ty 0, 5640, .inl (fun _ => 0))), (q_3, .inl (ty 0, 11280, .inl (fun _ => 0))), (q_4, .inl (ty 2, 2, .inl (fun _ => 0))), (q_5, .inl (ty 0, 28, .inl (fun _ => 0))), (q_6, .inl (ty 3, 128, .inl f_7))]) hp hd hs (by rw [← hf_7]; rfl) ?_
  clear hp hd hs hP hD hS
  intro hP hD hS
  clear hf_7
  refine lv_dup hx hb dX10_init_56 rfl ?_
  refine lv_iconst (v := 1) hx hb dX10_init_57 (by decide) ?_
  refine lv_bipush (v := 97) hx hb dX10_init_58 (by decide) ?_
  refine va_bast hx hb hK hP hD hS 6 3 rfl rfl (by simp only [vp_in]; decide) dX10_init_60 (fun H locs hp hd hs => ?_)
  obtain ⟨f_8, hf_8⟩ : ∃ f : Nat → Int32, upd f_7 1 97 = f := ⟨_, rfl⟩
  refine kz_re (w2 := [(h0, .inr (10, [.int 0, .ref q_1, .ref q_2, .ref q_3, .ref q_4, .ref q_5, .int 0, .null, .int 0, .int 0, .int 0, .null, .null, .int 0, .int 0, .null, .null, .null, .int 0, .int 0, .int 0, .int 0, .int 0, .int 0, .int 0, .int 0, .null, .int 0, .int 0, .null, .null, .null, .int 0, .null, .null, .null, .null, .int 0, .int 0, .null, .null, .null, .null, .null, .null, .null, .int 0, .int 0, .int 0, .int 0, .int 0, .int 0, .long 0, .null, .int 0, .int 0])), (q_1, .inl (ty 0, 7, .inl (fun _ => 0))), (q_2, .inl (ty 0, 5640, .inl (fun _ => 0))), (q_3, .inl (ty 0, 11280, .inl (fun _ => 0))), (q_4, .inl (ty 2, 2, .inl (fun _ => 0))), (q_5, .inl (ty 0, 28, .inl (fun _ => 0))), (q_6, .inl (ty 3, 128, .inl f_8))]) hp hd hs (by rw [← hf_8]; rfl) ?_
  clear hp hd hs hP hD hS
  intro hP hD hS
  clear hf_8
  refine lv_dup hx hb dX10_init_61 rfl ?_
  refine lv_iconst (v := 2) hx hb dX10_init_62 (by decide) ?_
  refine lv_bipush (v := 121) hx hb dX10_init_63 (by decide) ?_
  refine va_bast hx hb hK hP hD hS 6 3 rfl rfl (by simp only [vp_in]; decide) dX10_init_65 (fun H locs hp hd hs => ?_)
  obtain ⟨f_9, hf_9⟩ : ∃ f : Nat → Int32, upd f_8 2 121 = f := ⟨_, rfl⟩
  refine kz_re (w2 := [(h0, .inr (10, [.int 0, .ref q_1, .ref q_2, .ref q_3, .ref q_4, .ref q_5, .int 0, .null, .int 0, .int 0, .int 0, .null, .null, .int 0, .int 0, .null, .null, .null, .int 0, .int 0, .int 0, .int 0, .int 0, .int 0, .int 0, .int 0, .null, .int 0, .int 0, .null, .null, .null, .int 0, .null, .null, .null, .null, .int 0, .int 0, .null, .null, .null, .null, .null, .null, .null, .int 0, .int 0, .int 0, .int 0, .int 0, .int 0, .long 0, .null, .int 0, .int 0])), (q_1, .inl (ty 0, 7, .inl (fun _ => 0))), (q_2, .inl (ty 0, 5640, .inl (fun _ => 0))), (q_3, .inl (ty 0, 11280, .inl (fun _ => 0))), (q_4, .inl (ty 2, 2, .inl (fun _ => 0))), (q_5, .inl (ty 0, 28, .inl (fun _ => 0))), (q_6, .inl (ty 3, 128, .inl f_9))]) hp hd hs (by rw [← hf_9]; rfl) ?_
  clear hp hd hs hP hD hS
  intro hP hD hS
  clear hf_9
  refine lv_dup hx hb dX10_init_66 rfl ?_
  refine lv_iconst (v := 3) hx hb dX10_init_67 (by decide) ?_
  refine lv_bipush (v := 115) hx hb dX10_init_68 (by decide) ?_
  refine va_bast hx hb hK hP hD hS 6 3 rfl rfl (by simp only [vp_in]; decide) dX10_init_70 (fun H locs hp hd hs => ?_)
  obtain ⟨f_10, hf_10⟩ : ∃ f : Nat → Int32, upd f_9 3 115 = f := ⟨_, rfl⟩
  refine kz_re (w2 := [(h0, .inr (10, [.int 0, .ref q_1, .ref q_2, .ref q_3, .ref q_4, .ref q_5, .int 0, .null, .int 0, .int 0, .int 0, .null, .null, .int 0, .int 0, .null, .null, .null, .int 0, .int 0, .int 0, .int 0, .int 0, .int 0, .int 0, .int 0, .null, .int 0, .int 0, .null, .null, .null, .int 0, .null, .null, .null, .null, .int 0, .int 0, .null, .null, .null, .null, .null, .null, .null, .int 0, .int 0, .int 0, .int 0, .int 0, .int 0, .long 0, .null, .int 0, .int 0])), (q_1, .inl (ty 0, 7, .inl (fun _ => 0))), (q_2, .inl (ty 0, 5640, .inl (fun _ => 0))), (q_3, .inl (ty 0, 11280, .inl (fun _ => 0))), (q_4, .inl (ty 2, 2, .inl (fun _ => 0))), (q_5, .inl (ty 0, 28, .inl (fun _ => 0))), (q_6, .inl (ty 3, 128, .inl f_10))]) hp hd hs (by rw [← hf_10]; rfl) ?_
  clear hp hd hs hP hD hS
  intro hP hD hS
  clear hf_10
  refine lv_dup hx hb dX10_init_71 rfl ?_
  refine lv_iconst (v := 4) hx hb dX10_init_72 (by decide) ?_
  refine lv_bipush (v := 32) hx hb dX10_init_73 (by decide) ?_
  refine va_bast hx hb hK hP hD hS 6 3 rfl rfl (by simp only [vp_in]; decide) dX10_init_75 (fun H locs hp hd hs => ?_)
  obtain ⟨f_11, hf_11⟩ : ∃ f : Nat → Int32, upd f_10 4 32 = f := ⟨_, rfl⟩
  refine kz_re (w2 := [(h0, .inr (10, [.int 0, .ref q_1, .ref q_2, .ref q_3, .ref q_4, .ref q_5, .int 0, .null, .int 0, .int 0, .int 0, .null, .null, .int 0, .int 0, .null, .null, .null, .int 0, .int 0, .int 0, .int 0, .int 0, .int 0, .int 0, .int 0, .null, .int 0, .int 0, .null, .null, .null, .int 0, .null, .null, .null, .null, .int 0, .int 0, .null, .null, .null, .null, .null, .null, .null, .int 0, .int 0, .int 0, .int 0, .int 0, .int 0, .long 0, .null, .int 0, .int 0])), (q_1, .inl (ty 0, 7, .inl (fun _ => 0))), (q_2, .inl (ty 0, 5640, .inl (fun _ => 0))), (q_3, .inl (ty 0, 11280, .inl (fun _ => 0))), (q_4, .inl (ty 2, 2, .inl (fun _ => 0))), (q_5, .inl (ty 0, 28, .inl (fun _ => 0))), (q_6, .inl (ty 3, 128, .inl f_11))]) hp hd hs (by rw [← hf_11]; rfl) ?_
  clear hp hd hs hP hD hS
  intro hP hD hS
  clear hf_11
  refine lv_dup hx hb dX10_init_76 rfl ?_
  refine lv_iconst (v := 5) hx hb dX10_init_77 (by decide) ?_
  refine lv_bipush (v := 98) hx hb dX10_init_78 (by decide) ?_
  refine va_bast hx hb hK hP hD hS 6 3 rfl rfl (by simp only [vp_in]; decide) dX10_init_80 (fun H locs hp hd hs => ?_)
  obtain ⟨f_12, hf_12⟩ : ∃ f : Nat → Int32, upd f_11 5 98 = f := ⟨_, rfl⟩
  refine kz_re (w2 := [(h0, .inr (10, [.int 0, .ref q_1, .ref q_2, .ref q_3, .ref q_4, .ref q_5, .int 0, .null, .int 0, .int 0, .int 0, .null, .null, .int 0, .int 0, .null, .null, .null, .int 0, .int 0, .int 0, .int 0, .int 0, .int 0, .int 0, .int 0, .null, .int 0, .int 0, .null, .null, .null, .int 0, .null, .null, .null, .null, .int 0, .int 0, .null, .null, .null, .null, .null, .null, .null, .int 0, .int 0, .int 0, .int 0, .int 0, .int 0, .long 0, .null, .int 0, .int 0])), (q_1, .inl (ty 0, 7, .inl (fun _ => 0))), (q_2, .inl (ty 0, 5640, .inl (fun _ => 0))), (q_3, .inl (ty 0, 11280, .inl (fun _ => 0))), (q_4, .inl (ty 2, 2, .inl (fun _ => 0))), (q_5, .inl (ty 0, 28, .inl (fun _ => 0))), (q_6, .inl (ty 3, 128, .inl f_12))]) hp hd hs (by rw [← hf_12]; rfl) ?_
  clear hp hd hs hP hD hS
  intro hP hD hS
  clear hf_12
  refine lv_dup hx hb dX10_init_81 rfl ?_
  refine lv_bipush (v := 6) hx hb dX10_init_82 (by decide) ?_
  refine lv_bipush (v := 97) hx hb dX10_init_84 (by decide) ?_
  refine va_bast hx hb hK hP hD hS 6 3 rfl rfl (by simp only [vp_in]; decide) dX10_init_86 (fun H locs hp hd hs => ?_)
  obtain ⟨f_13, hf_13⟩ : ∃ f : Nat → Int32, upd f_12 6 97 = f := ⟨_, rfl⟩
  refine kz_re (w2 := [(h0, .inr (10, [.int 0, .ref q_1, .ref q_2, .ref q_3, .ref q_4, .ref q_5, .int 0, .null, .int 0, .int 0, .int 0, .null, .null, .int 0, .int 0, .null, .null, .null, .int 0, .int 0, .int 0, .int 0, .int 0, .int 0, .int 0, .int 0, .null, .int 0, .int 0, .null, .null, .null, .int 0, .null, .null, .null, .null, .int 0, .int 0, .null, .null, .null, .null, .null, .null, .null, .int 0, .int 0, .int 0, .int 0, .int 0, .int 0, .long 0, .null, .int 0, .int 0])), (q_1, .inl (ty 0, 7, .inl (fun _ => 0))), (q_2, .inl (ty 0, 5640, .inl (fun _ => 0))), (q_3, .inl (ty 0, 11280, .inl (fun _ => 0))), (q_4, .inl (ty 2, 2, .inl (fun _ => 0))), (q_5, .inl (ty 0, 28, .inl (fun _ => 0))), (q_6, .inl (ty 3, 128, .inl f_13))]) hp hd hs (by rw [← hf_13]; rfl) ?_
  clear hp hd hs hP hD hS
  intro hP hD hS
  clear hf_13
  refine lv_dup hx hb dX10_init_87 rfl ?_
  refine lv_bipush (v := 7) hx hb dX10_init_88 (by decide) ?_
  refine lv_bipush (v := 114) hx hb dX10_init_90 (by decide) ?_
  refine va_bast hx hb hK hP hD hS 6 3 rfl rfl (by simp only [vp_in]; decide) dX10_init_92 (fun H locs hp hd hs => ?_)
  obtain ⟨f_14, hf_14⟩ : ∃ f : Nat → Int32, upd f_13 7 114 = f := ⟨_, rfl⟩
  refine kz_re (w2 := [(h0, .inr (10, [.int 0, .ref q_1, .ref q_2, .ref q_3, .ref q_4, .ref q_5, .int 0, .null, .int 0, .int 0, .int 0, .null, .null, .int 0, .int 0, .null, .null, .null, .int 0, .int 0, .int 0, .int 0, .int 0, .int 0, .int 0, .int 0, .null, .int 0, .int 0, .null, .null, .null, .int 0, .null, .null, .null, .null, .int 0, .int 0, .null, .null, .null, .null, .null, .null, .null, .int 0, .int 0, .int 0, .int 0, .int 0, .int 0, .long 0, .null, .int 0, .int 0])), (q_1, .inl (ty 0, 7, .inl (fun _ => 0))), (q_2, .inl (ty 0, 5640, .inl (fun _ => 0))), (q_3, .inl (ty 0, 11280, .inl (fun _ => 0))), (q_4, .inl (ty 2, 2, .inl (fun _ => 0))), (q_5, .inl (ty 0, 28, .inl (fun _ => 0))), (q_6, .inl (ty 3, 128, .inl f_14))]) hp hd hs (by rw [← hf_14]; rfl) ?_
  clear hp hd hs hP hD hS
  intro hP hD hS
  clear hf_14
  refine lv_dup hx hb dX10_init_93 rfl ?_
  refine lv_bipush (v := 8) hx hb dX10_init_94 (by decide) ?_
  refine lv_bipush (v := 115) hx hb dX10_init_96 (by decide) ?_
  refine va_bast hx hb hK hP hD hS 6 3 rfl rfl (by simp only [vp_in]; decide) dX10_init_98 (fun H locs hp hd hs => ?_)
  obtain ⟨f_15, hf_15⟩ : ∃ f : Nat → Int32, upd f_14 8 115 = f := ⟨_, rfl⟩
  refine kz_re (w2 := [(h0, .inr (10, [.int 0, .ref q_1, .ref q_2, .ref q_3, .ref q_4, .ref q_5, .int 0, .null, .int 0, .int 0, .int 0, .null, .null, .int 0, .int 0, .null, .null, .null, .int 0, .int 0, .int 0, .int 0, .int 0, .int 0, .int 0, .int 0, .null, .int 0, .int 0, .null, .null, .null, .int 0, .null, .null, .null, .null, .int 0, .int 0, .null, .null, .null, .null, .null, .null, .null, .int 0, .int 0, .int 0, .int 0, .int 0, .int 0, .long 0, .null, .int 0, .int 0])), (q_1, .inl (ty 0, 7, .inl (fun _ => 0))), (q_2, .inl (ty 0, 5640, .inl (fun _ => 0))), (q_3, .inl (ty 0, 11280, .inl (fun _ => 0))), (q_4, .inl (ty 2, 2, .inl (fun _ => 0))), (q_5, .inl (ty 0, 28, .inl (fun _ => 0))), (q_6, .inl (ty 3, 128, .inl f_15))]) hp hd hs (by rw [← hf_15]; rfl) ?_
  clear hp hd hs hP hD hS
  intro hP hD hS
  clear hf_15
  refine lv_dup hx hb dX10_init_99 rfl ?_
  refine lv_bipush (v := 9) hx hb dX10_init_100 (by decide) ?_
  refine lv_bipush (v := 32) hx hb dX10_init_102 (by decide) ?_
  refine va_bast hx hb hK hP hD hS 6 3 rfl rfl (by simp only [vp_in]; decide) dX10_init_104 (fun H locs hp hd hs => ?_)
  obtain ⟨f_16, hf_16⟩ : ∃ f : Nat → Int32, upd f_15 9 32 = f := ⟨_, rfl⟩
  refine kz_re (w2 := [(h0, .inr (10, [.int 0, .ref q_1, .ref q_2, .ref q_3, .ref q_4, .ref q_5, .int 0, .null, .int 0, .int 0, .int 0, .null, .null, .int 0, .int 0, .null, .null, .null, .int 0, .int 0, .int 0, .int 0, .int 0, .int 0, .int 0, .int 0, .null, .int 0, .int 0, .null, .null, .null, .int 0, .null, .null, .null, .null, .int 0, .int 0, .null, .null, .null, .null, .null, .null, .null, .int 0, .int 0, .int 0, .int 0, .int 0, .int 0, .long 0, .null, .int 0, .int 0])), (q_1, .inl (ty 0, 7, .inl (fun _ => 0))), (q_2, .inl (ty 0, 5640, .inl (fun _ => 0))), (q_3, .inl (ty 0, 11280, .inl (fun _ => 0))), (q_4, .inl (ty 2, 2, .inl (fun _ => 0))), (q_5, .inl (ty 0, 28, .inl (fun _ => 0))), (q_6, .inl (ty 3, 128, .inl f_16))]) hp hd hs (by rw [← hf_16]; rfl) ?_
  clear hp hd hs hP hD hS
  intro hP hD hS
  clear hf_16
  refine lv_dup hx hb dX10_init_105 rfl ?_
  refine lv_bipush (v := 10) hx hb dX10_init_106 (by decide) ?_
  refine lv_bipush (v := 116) hx hb dX10_init_108 (by decide) ?_
  refine va_bast hx hb hK hP hD hS 6 3 rfl rfl (by simp only [vp_in]; decide) dX10_init_110 (fun H locs hp hd hs => ?_)
  obtain ⟨f_17, hf_17⟩ : ∃ f : Nat → Int32, upd f_16 10 116 = f := ⟨_, rfl⟩
  refine kz_re (w2 := [(h0, .inr (10, [.int 0, .ref q_1, .ref q_2, .ref q_3, .ref q_4, .ref q_5, .int 0, .null, .int 0, .int 0, .int 0, .null, .null, .int 0, .int 0, .null, .null, .null, .int 0, .int 0, .int 0, .int 0, .int 0, .int 0, .int 0, .int 0, .null, .int 0, .int 0, .null, .null, .null, .int 0, .null, .null, .null, .null, .int 0, .int 0, .null, .null, .null, .null, .null, .null, .null, .int 0, .int 0, .int 0, .int 0, .int 0, .int 0, .long 0, .null, .int 0, .int 0])), (q_1, .inl (ty 0, 7, .inl (fun _ => 0))), (q_2, .inl (ty 0, 5640, .inl (fun _ => 0))), (q_3, .inl (ty 0, 11280, .inl (fun _ => 0))), (q_4, .inl (ty 2, 2, .inl (fun _ => 0))), (q_5, .inl (ty 0, 28, .inl (fun _ => 0))), (q_6, .inl (ty 3, 128, .inl f_17))]) hp hd hs (by rw [← hf_17]; rfl) ?_
  clear hp hd hs hP hD hS
  intro hP hD hS
  clear hf_17
  refine lv_dup hx hb dX10_init_111 rfl ?_
  refine lv_bipush (v := 11) hx hb dX10_init_112 (by decide) ?_
  refine lv_bipush (v := 105) hx hb dX10_init_114 (by decide) ?_
  refine va_bast hx hb hK hP hD hS 6 3 rfl rfl (by simp only [vp_in]; decide) dX10_init_116 (fun H locs hp hd hs => ?_)
  obtain ⟨f_18, hf_18⟩ : ∃ f : Nat → Int32, upd f_17 11 105 = f := ⟨_, rfl⟩
  refine kz_re (w2 := [(h0, .inr (10, [.int 0, .ref q_1, .ref q_2, .ref q_3, .ref q_4, .ref q_5, .int 0, .null, .int 0, .int 0, .int 0, .null, .null, .int 0, .int 0, .null, .null, .null, .int 0, .int 0, .int 0, .int 0, .int 0, .int 0, .int 0, .int 0, .null, .int 0, .int 0, .null, .null, .null, .int 0, .null, .null, .null, .null, .int 0, .int 0, .null, .null, .null, .null, .null, .null, .null, .int 0, .int 0, .int 0, .int 0, .int 0, .int 0, .long 0, .null, .int 0, .int 0])), (q_1, .inl (ty 0, 7, .inl (fun _ => 0))), (q_2, .inl (ty 0, 5640, .inl (fun _ => 0))), (q_3, .inl (ty 0, 11280, .inl (fun _ => 0))), (q_4, .inl (ty 2, 2, .inl (fun _ => 0))), (q_5, .inl (ty 0, 28, .inl (fun _ => 0))), (q_6, .inl (ty 3, 128, .inl f_18))]) hp hd hs (by rw [← hf_18]; rfl) ?_
  clear hp hd hs hP hD hS
  intro hP hD hS
  clear hf_18
  refine lv_dup hx hb dX10_init_117 rfl ?_
  refine lv_bipush (v := 12) hx hb dX10_init_118 (by decide) ?_
  refine lv_bipush (v := 112) hx hb dX10_init_120 (by decide) ?_
  refine va_bast hx hb hK hP hD hS 6 3 rfl rfl (by simp only [vp_in]; decide) dX10_init_122 (fun H locs hp hd hs => ?_)
  obtain ⟨f_19, hf_19⟩ : ∃ f : Nat → Int32, upd f_18 12 112 = f := ⟨_, rfl⟩
  refine kz_re (w2 := [(h0, .inr (10, [.int 0, .ref q_1, .ref q_2, .ref q_3, .ref q_4, .ref q_5, .int 0, .null, .int 0, .int 0, .int 0, .null, .null, .int 0, .int 0, .null, .null, .null, .int 0, .int 0, .int 0, .int 0, .int 0, .int 0, .int 0, .int 0, .null, .int 0, .int 0, .null, .null, .null, .int 0, .null, .null, .null, .null, .int 0, .int 0, .null, .null, .null, .null, .null, .null, .null, .int 0, .int 0, .int 0, .int 0, .int 0, .int 0, .long 0, .null, .int 0, .int 0])), (q_1, .inl (ty 0, 7, .inl (fun _ => 0))), (q_2, .inl (ty 0, 5640, .inl (fun _ => 0))), (q_3, .inl (ty 0, 11280, .inl (fun _ => 0))), (q_4, .inl (ty 2, 2, .inl (fun _ => 0))), (q_5, .inl (ty 0, 28, .inl (fun _ => 0))), (q_6, .inl (ty 3, 128, .inl f_19))]) hp hd hs (by rw [← hf_19]; rfl) ?_
  clear hp hd hs hP hD hS
  intro hP hD hS
  clear hf_19
  refine lv_dup hx hb dX10_init_123 rfl ?_
  refine lv_bipush (v := 13) hx hb dX10_init_124 (by decide) ?_
  refine lv_bipush (v := 115) hx hb dX10_init_126 (by decide) ?_
  refine va_bast hx hb hK hP hD hS 6 3 rfl rfl (by simp only [vp_in]; decide) dX10_init_128 (fun H locs hp hd hs => ?_)
  obtain ⟨f_20, hf_20⟩ : ∃ f : Nat → Int32, upd f_19 13 115 = f := ⟨_, rfl⟩
  refine kz_re (w2 := [(h0, .inr (10, [.int 0, .ref q_1, .ref q_2, .ref q_3, .ref q_4, .ref q_5, .int 0, .null, .int 0, .int 0, .int 0, .null, .null, .int 0, .int 0, .null, .null, .null, .int 0, .int 0, .int 0, .int 0, .int 0, .int 0, .int 0, .int 0, .null, .int 0, .int 0, .null, .null, .null, .int 0, .null, .null, .null, .null, .int 0, .int 0, .null, .null, .null, .null, .null, .null, .null, .int 0, .int 0, .int 0, .int 0, .int 0, .int 0, .long 0, .null, .int 0, .int 0])), (q_1, .inl (ty 0, 7, .inl (fun _ => 0))), (q_2, .inl (ty 0, 5640, .inl (fun _ => 0))), (q_3, .inl (ty 0, 11280, .inl (fun _ => 0))), (q_4, .inl (ty 2, 2, .inl (fun _ => 0))), (q_5, .inl (ty 0, 28, .inl (fun _ => 0))), (q_6, .inl (ty 3, 128, .inl f_20))]) hp hd hs (by rw [← hf_20]; rfl) ?_
  clear hp hd hs hP hD hS
  intro hP hD hS
  clear hf_20
  refine lv_dup hx hb dX10_init_129 rfl ?_
  refine lv_bipush (v := 14) hx hb dX10_init_130 (by decide) ?_
  refine lv_bipush (v := 32) hx hb dX10_init_132 (by decide) ?_
  refine va_bast hx hb hK hP hD hS 6 3 rfl rfl (by simp only [vp_in]; decide) dX10_init_134 (fun H locs hp hd hs => ?_)
  obtain ⟨f_21, hf_21⟩ : ∃ f : Nat → Int32, upd f_20 14 32 = f := ⟨_, rfl⟩
  refine kz_re (w2 := [(h0, .inr (10, [.int 0, .ref q_1, .ref q_2, .ref q_3, .ref q_4, .ref q_5, .int 0, .null, .int 0, .int 0, .int 0, .null, .null, .int 0, .int 0, .null, .null, .null, .int 0, .int 0, .int 0, .int 0, .int 0, .int 0, .int 0, .int 0, .null, .int 0, .int 0, .null, .null, .null, .int 0, .null, .null, .null, .null, .int 0, .int 0, .null, .null, .null, .null, .null, .null, .null, .int 0, .int 0, .int 0, .int 0, .int 0, .int 0, .long 0, .null, .int 0, .int 0])), (q_1, .inl (ty 0, 7, .inl (fun _ => 0))), (q_2, .inl (ty 0, 5640, .inl (fun _ => 0))), (q_3, .inl (ty 0, 11280, .inl (fun _ => 0))), (q_4, .inl (ty 2, 2, .inl (fun _ => 0))), (q_5, .inl (ty 0, 28, .inl (fun _ => 0))), (q_6, .inl (ty 3, 128, .inl f_21))]) hp hd hs (by rw [← hf_21]; rfl) ?_
  clear hp hd hs hP hD hS
  intro hP hD hS
  clear hf_21
  refine lv_dup hx hb dX10_init_135 rfl ?_
  refine lv_bipush (v := 15) hx hb dX10_init_136 (by decide) ?_
  refine lv_bipush (v := 105) hx hb dX10_init_138 (by decide) ?_
  refine va_bast hx hb hK hP hD hS 6 3 rfl rfl (by simp only [vp_in]; decide) dX10_init_140 (fun H locs hp hd hs => ?_)
  obtain ⟨f_22, hf_22⟩ : ∃ f : Nat → Int32, upd f_21 15 105 = f := ⟨_, rfl⟩
  refine kz_re (w2 := [(h0, .inr (10, [.int 0, .ref q_1, .ref q_2, .ref q_3, .ref q_4, .ref q_5, .int 0, .null, .int 0, .int 0, .int 0, .null, .null, .int 0, .int 0, .null, .null, .null, .int 0, .int 0, .int 0, .int 0, .int 0, .int 0, .int 0, .int 0, .null, .int 0, .int 0, .null, .null, .null, .int 0, .null, .null, .null, .null, .int 0, .int 0, .null, .null, .null, .null, .null, .null, .null, .int 0, .int 0, .int 0, .int 0, .int 0, .int 0, .long 0, .null, .int 0, .int 0])), (q_1, .inl (ty 0, 7, .inl (fun _ => 0))), (q_2, .inl (ty 0, 5640, .inl (fun _ => 0))), (q_3, .inl (ty 0, 11280, .inl (fun _ => 0))), (q_4, .inl (ty 2, 2, .inl (fun _ => 0))), (q_5, .inl (ty 0, 28, .inl (fun _ => 0))), (q_6, .inl (ty 3, 128, .inl f_22))]) hp hd hs (by rw [← hf_22]; rfl) ?_
  clear hp hd hs hP hD hS
  intro hP hD hS
  clear hf_22
  refine lv_dup hx hb dX10_init_141 rfl ?_
  refine lv_bipush (v := 16) hx hb dX10_init_142 (by decide) ?_
  refine lv_bipush (v := 102) hx hb dX10_init_144 (by decide) ?_
  refine va_bast hx hb hK hP hD hS 6 3 rfl rfl (by simp only [vp_in]; decide) dX10_init_146 (fun H locs hp hd hs => ?_)
  obtain ⟨f_23, hf_23⟩ : ∃ f : Nat → Int32, upd f_22 16 102 = f := ⟨_, rfl⟩
  refine kz_re (w2 := [(h0, .inr (10, [.int 0, .ref q_1, .ref q_2, .ref q_3, .ref q_4, .ref q_5, .int 0, .null, .int 0, .int 0, .int 0, .null, .null, .int 0, .int 0, .null, .null, .null, .int 0, .int 0, .int 0, .int 0, .int 0, .int 0, .int 0, .int 0, .null, .int 0, .int 0, .null, .null, .null, .int 0, .null, .null, .null, .null, .int 0, .int 0, .null, .null, .null, .null, .null, .null, .null, .int 0, .int 0, .int 0, .int 0, .int 0, .int 0, .long 0, .null, .int 0, .int 0])), (q_1, .inl (ty 0, 7, .inl (fun _ => 0))), (q_2, .inl (ty 0, 5640, .inl (fun _ => 0))), (q_3, .inl (ty 0, 11280, .inl (fun _ => 0))), (q_4, .inl (ty 2, 2, .inl (fun _ => 0))), (q_5, .inl (ty 0, 28, .inl (fun _ => 0))), (q_6, .inl (ty 3, 128, .inl f_23))]) hp hd hs (by rw [← hf_23]; rfl) ?_
  clear hp hd hs hP hD hS
  intro hP hD hS
  clear hf_23
  refine lv_dup hx hb dX10_init_147 rfl ?_
  refine lv_bipush (v := 17) hx hb dX10_init_148 (by decide) ?_
  refine lv_bipush (v := 32) hx hb dX10_init_150 (by decide) ?_
  refine va_bast hx hb hK hP hD hS 6 3 rfl rfl (by simp only [vp_in]; decide) dX10_init_152 (fun H locs hp hd hs => ?_)
  obtain ⟨f_24, hf_24⟩ : ∃ f : Nat → Int32, upd f_23 17 32 = f := ⟨_, rfl⟩
  refine kz_re (w2 := [(h0, .inr (10, [.int 0, .ref q_1, .ref q_2, .ref q_3, .ref q_4, .ref q_5, .int 0, .null, .int 0, .int 0, .int 0, .null, .null, .int 0, .int 0, .null, .null, .null, .int 0, .int 0, .int 0, .int 0, .int 0, .int 0, .int 0, .int 0, .null, .int 0, .int 0, .null, .null, .null, .int 0, .null, .null, .null, .null, .int 0, .int 0, .null, .null, .null, .null, .null, .null, .null, .int 0, .int 0, .int 0, .int 0, .int 0, .int 0, .long 0, .null, .int 0, .int 0])), (q_1, .inl (ty 0, 7, .inl (fun _ => 0))), (q_2, .inl (ty 0, 5640, .inl (fun _ => 0))), (q_3, .inl (ty 0, 11280, .inl (fun _ => 0))), (q_4, .inl (ty 2, 2, .inl (fun _ => 0))), (q_5, .inl (ty 0, 28, .inl (fun _ => 0))), (q_6, .inl (ty 3, 128, .inl f_24))]) hp hd hs (by rw [← hf_24]; rfl) ?_
  clear hp hd hs hP hD hS
  intro hP hD hS
  clear hf_24
  refine lv_dup hx hb dX10_init_153 rfl ?_
  refine lv_bipush (v := 18) hx hb dX10_init_154 (by decide) ?_
  refine lv_bipush (v := 111) hx hb dX10_init_156 (by decide) ?_
  refine va_bast hx hb hK hP hD hS 6 3 rfl rfl (by simp only [vp_in]; decide) dX10_init_158 (fun H locs hp hd hs => ?_)
  obtain ⟨f_25, hf_25⟩ : ∃ f : Nat → Int32, upd f_24 18 111 = f := ⟨_, rfl⟩
  refine kz_re (w2 := [(h0, .inr (10, [.int 0, .ref q_1, .ref q_2, .ref q_3, .ref q_4, .ref q_5, .int 0, .null, .int 0, .int 0, .int 0, .null, .null, .int 0, .int 0, .null, .null, .null, .int 0, .int 0, .int 0, .int 0, .int 0, .int 0, .int 0, .int 0, .null, .int 0, .int 0, .null, .null, .null, .int 0, .null, .null, .null, .null, .int 0, .int 0, .null, .null, .null, .null, .null, .null, .null, .int 0, .int 0, .int 0, .int 0, .int 0, .int 0, .long 0, .null, .int 0, .int 0])), (q_1, .inl (ty 0, 7, .inl (fun _ => 0))), (q_2, .inl (ty 0, 5640, .inl (fun _ => 0))), (q_3, .inl (ty 0, 11280, .inl (fun _ => 0))), (q_4, .inl (ty 2, 2, .inl (fun _ => 0))), (q_5, .inl (ty 0, 28, .inl (fun _ => 0))), (q_6, .inl (ty 3, 128, .inl f_25))]) hp hd hs (by rw [← hf_25]; rfl) ?_
  clear hp hd hs hP hD hS
  intro hP hD hS
  clear hf_25
  refine lv_dup hx hb dX10_init_159 rfl ?_
  refine lv_bipush (v := 19) hx hb dX10_init_160 (by decide) ?_
  refine lv_bipush (v := 114) hx hb dX10_init_162 (by decide) ?_
  refine va_bast hx hb hK hP hD hS 6 3 rfl rfl (by simp only [vp_in]; decide) dX10_init_164 (fun H locs hp hd hs => ?_)
  obtain ⟨f_26, hf_26⟩ : ∃ f : Nat → Int32, upd f_25 19 114 = f := ⟨_, rfl⟩
  refine kz_re (w2 := [(h0, .inr (10, [.int 0, .ref q_1, .ref q_2, .ref q_3, .ref q_4, .ref q_5, .int 0, .null, .int 0, .int 0, .int 0, .null, .null, .int 0, .int 0, .null, .null, .null, .int 0, .int 0, .int 0, .int 0, .int 0, .int 0, .int 0, .int 0, .null, .int 0, .int 0, .null, .null, .null, .int 0, .null, .null, .null, .null, .int 0, .int 0, .null, .null, .null, .null, .null, .null, .null, .int 0, .int 0, .int 0, .int 0, .int 0, .int 0, .long 0, .null, .int 0, .int 0])), (q_1, .inl (ty 0, 7, .inl (fun _ => 0))), (q_2, .inl (ty 0, 5640, .inl (fun _ => 0))), (q_3, .inl (ty 0, 11280, .inl (fun _ => 0))), (q_4, .inl (ty 2, 2, .inl (fun _ => 0))), (q_5, .inl (ty 0, 28, .inl (fun _ => 0))), (q_6, .inl (ty 3, 128, .inl f_26))]) hp hd hs (by rw [← hf_26]; rfl) ?_
  clear hp hd hs hP hD hS
  intro hP hD hS
  clear hf_26
  refine lv_dup hx hb dX10_init_165 rfl ?_
  refine lv_bipush (v := 20) hx hb dX10_init_166 (by decide) ?_
  refine lv_bipush (v := 32) hx hb dX10_init_168 (by decide) ?_
  refine va_bast hx hb hK hP hD hS 6 3 rfl rfl (by simp only [vp_in]; decide) dX10_init_170 (fun H locs hp hd hs => ?_)
  obtain ⟨f_27, hf_27⟩ : ∃ f : Nat → Int32, upd f_26 20 32 = f := ⟨_, rfl⟩
  refine kz_re (w2 := [(h0, .inr (10, [.int 0, .ref q_1, .ref q_2, .ref q_3, .ref q_4, .ref q_5, .int 0, .null, .int 0, .int 0, .int 0, .null, .null, .int 0, .int 0, .null, .null, .null, .int 0, .int 0, .int 0, .int 0, .int 0, .int 0, .int 0, .int 0, .null, .int 0, .int 0, .null, .null, .null, .int 0, .null, .null, .null, .null, .int 0, .int 0, .null, .null, .null, .null, .null, .null, .null, .int 0, .int 0, .int 0, .int 0, .int 0, .int 0, .long 0, .null, .int 0, .int 0])), (q_1, .inl (ty 0, 7, .inl (fun _ => 0))), (q_2, .inl (ty 0, 5640, .inl (fun _ => 0))), (q_3, .inl (ty 0, 11280, .inl (fun _ => 0))), (q_4, .inl (ty 2, 2, .inl (fun _ => 0))), (q_5, .inl (ty 0, 28, .inl (fun _ => 0))), (q_6, .inl (ty 3, 128, .inl f_27))]) hp hd hs (by rw [← hf_27]; rfl) ?_
  clear hp hd hs hP hD hS
  intro hP hD hS
  clear hf_27
  refine lv_dup hx hb dX10_init_171 rfl ?_
  refine lv_bipush (v := 21) hx hb dX10_init_172 (by decide) ?_
  refine lv_bipush (v := 97) hx hb dX10_init_174 (by decide) ?_
  refine va_bast hx hb hK hP hD hS 6 3 rfl rfl (by simp only [vp_in]; decide) dX10_init_176 (fun H locs hp hd hs => ?_)
  obtain ⟨f_28, hf_28⟩ : ∃ f : Nat → Int32, upd f_27 21 97 = f := ⟨_, rfl⟩
  refine kz_re (w2 := [(h0, .inr (10, [.int 0, .ref q_1, .ref q_2, .ref q_3, .ref q_4, .ref q_5, .int 0, .null, .int 0, .int 0, .int 0, .null, .null, .int 0, .int 0, .null, .null, .null, .int 0, .int 0, .int 0, .int 0, .int 0, .int 0, .int 0, .int 0, .null, .int 0, .int 0, .null, .null, .null, .int 0, .null, .null, .null, .null, .int 0, .int 0, .null, .null, .null, .null, .null, .null, .null, .int 0, .int 0, .int 0, .int 0, .int 0, .int 0, .long 0, .null, .int 0, .int 0])), (q_1, .inl (ty 0, 7, .inl (fun _ => 0))), (q_2, .inl (ty 0, 5640, .inl (fun _ => 0))), (q_3, .inl (ty 0, 11280, .inl (fun _ => 0))), (q_4, .inl (ty 2, 2, .inl (fun _ => 0))), (q_5, .inl (ty 0, 28, .inl (fun _ => 0))), (q_6, .inl (ty 3, 128, .inl f_28))]) hp hd hs (by rw [← hf_28]; rfl) ?_
  clear hp hd hs hP hD hS
  intro hP hD hS
  clear hf_28
  refine lv_dup hx hb dX10_init_177 rfl ?_
  refine lv_bipush (v := 22) hx hb dX10_init_178 (by decide) ?_
  refine lv_bipush (v := 110) hx hb dX10_init_180 (by decide) ?_
  refine va_bast hx hb hK hP hD hS 6 3 rfl rfl (by simp only [vp_in]; decide) dX10_init_182 (fun H locs hp hd hs => ?_)
  obtain ⟨f_29, hf_29⟩ : ∃ f : Nat → Int32, upd f_28 22 110 = f := ⟨_, rfl⟩
  refine kz_re (w2 := [(h0, .inr (10, [.int 0, .ref q_1, .ref q_2, .ref q_3, .ref q_4, .ref q_5, .int 0, .null, .int 0, .int 0, .int 0, .null, .null, .int 0, .int 0, .null, .null, .null, .int 0, .int 0, .int 0, .int 0, .int 0, .int 0, .int 0, .int 0, .null, .int 0, .int 0, .null, .null, .null, .int 0, .null, .null, .null, .null, .int 0, .int 0, .null, .null, .null, .null, .null, .null, .null, .int 0, .int 0, .int 0, .int 0, .int 0, .int 0, .long 0, .null, .int 0, .int 0])), (q_1, .inl (ty 0, 7, .inl (fun _ => 0))), (q_2, .inl (ty 0, 5640, .inl (fun _ => 0))), (q_3, .inl (ty 0, 11280, .inl (fun _ => 0))), (q_4, .inl (ty 2, 2, .inl (fun _ => 0))), (q_5, .inl (ty 0, 28, .inl (fun _ => 0))), (q_6, .inl (ty 3, 128, .inl f_29))]) hp hd hs (by rw [← hf_29]; rfl) ?_
  clear hp hd hs hP hD hS
  intro hP hD hS
  clear hf_29
  refine lv_dup hx hb dX10_init_183 rfl ?_
  refine lv_bipush (v := 23) hx hb dX10_init_184 (by decide) ?_
  refine lv_bipush (v := 100) hx hb dX10_init_186 (by decide) ?_
  refine va_bast hx hb hK hP hD hS 6 3 rfl rfl (by simp only [vp_in]; decide) dX10_init_188 (fun H locs hp hd hs => ?_)
  obtain ⟨f_30, hf_30⟩ : ∃ f : Nat → Int32, upd f_29 23 100 = f := ⟨_, rfl⟩
  refine kz_re (w2 := [(h0, .inr (10, [.int 0, .ref q_1, .ref q_2, .ref q_3, .ref q_4, .ref q_5, .int 0, .null, .int 0, .int 0, .int 0, .null, .null, .int 0, .int 0, .null, .null, .null, .int 0, .int 0, .int 0, .int 0, .int 0, .int 0, .int 0, .int 0, .null, .int 0, .int 0, .null, .null, .null, .int 0, .null, .null, .null, .null, .int 0, .int 0, .null, .null, .null, .null, .null, .null, .null, .int 0, .int 0, .int 0, .int 0, .int 0, .int 0, .long 0, .null, .int 0, .int 0])), (q_1, .inl (ty 0, 7, .inl (fun _ => 0))), (q_2, .inl (ty 0, 5640, .inl (fun _ => 0))), (q_3, .inl (ty 0, 11280, .inl (fun _ => 0))), (q_4, .inl (ty 2, 2, .inl (fun _ => 0))), (q_5, .inl (ty 0, 28, .inl (fun _ => 0))), (q_6, .inl (ty 3, 128, .inl f_30))]) hp hd hs (by rw [← hf_30]; rfl) ?_
  clear hp hd hs hP hD hS
  intro hP hD hS
  clear hf_30
  refine lv_dup hx hb dX10_init_189 rfl ?_
  refine lv_bipush (v := 24) hx hb dX10_init_190 (by decide) ?_
  refine lv_bipush (v := 32) hx hb dX10_init_192 (by decide) ?_
  refine va_bast hx hb hK hP hD hS 6 3 rfl rfl (by simp only [vp_in]; decide) dX10_init_194 (fun H locs hp hd hs => ?_)
  obtain ⟨f_31, hf_31⟩ : ∃ f : Nat → Int32, upd f_30 24 32 = f := ⟨_, rfl⟩
  refine kz_re (w2 := [(h0, .inr (10, [.int 0, .ref q_1, .ref q_2, .ref q_3, .ref q_4, .ref q_5, .int 0, .null, .int 0, .int 0, .int 0, .null, .null, .int 0, .int 0, .null, .null, .null, .int 0, .int 0, .int 0, .int 0, .int 0, .int 0, .int 0, .int 0, .null, .int 0, .int 0, .null, .null, .null, .int 0, .null, .null, .null, .null, .int 0, .int 0, .null, .null, .null, .null, .null, .null, .null, .int 0, .int 0, .int 0, .int 0, .int 0, .int 0, .long 0, .null, .int 0, .int 0])), (q_1, .inl (ty 0, 7, .inl (fun _ => 0))), (q_2, .inl (ty 0, 5640, .inl (fun _ => 0))), (q_3, .inl (ty 0, 11280, .inl (fun _ => 0))), (q_4, .inl (ty 2, 2, .inl (fun _ => 0))), (q_5, .inl (ty 0, 28, .inl (fun _ => 0))), (q_6, .inl (ty 3, 128, .inl f_31))]) hp hd hs (by rw [← hf_31]; rfl) ?_
  clear hp hd hs hP hD hS
  intro hP hD hS
  clear hf_31
  refine lv_dup hx hb dX10_init_195 rfl ?_
  refine lv_bipush (v := 25) hx hb dX10_init_196 (by decide) ?_
  refine lv_bipush (v := 110) hx hb dX10_init_198 (by decide) ?_
  refine va_bast hx hb hK hP hD hS 6 3 rfl rfl (by simp only [vp_in]; decide) dX10_init_200 (fun H locs hp hd hs => ?_)
  obtain ⟨f_32, hf_32⟩ : ∃ f : Nat → Int32, upd f_31 25 110 = f := ⟨_, rfl⟩
  refine kz_re (w2 := [(h0, .inr (10, [.int 0, .ref q_1, .ref q_2, .ref q_3, .ref q_4, .ref q_5, .int 0, .null, .int 0, .int 0, .int 0, .null, .null, .int 0, .int 0, .null, .null, .null, .int 0, .int 0, .int 0, .int 0, .int 0, .int 0, .int 0, .int 0, .null, .int 0, .int 0, .null, .null, .null, .int 0, .null, .null, .null, .null, .int 0, .int 0, .null, .null, .null, .null, .null, .null, .null, .int 0, .int 0, .int 0, .int 0, .int 0, .int 0, .long 0, .null, .int 0, .int 0])), (q_1, .inl (ty 0, 7, .inl (fun _ => 0))), (q_2, .inl (ty 0, 5640, .inl (fun _ => 0))), (q_3, .inl (ty 0, 11280, .inl (fun _ => 0))), (q_4, .inl (ty 2, 2, .inl (fun _ => 0))), (q_5, .inl (ty 0, 28, .inl (fun _ => 0))), (q_6, .inl (ty 3, 128, .inl f_32))]) hp hd hs (by rw [← hf_32]; rfl) ?_
  clear hp hd hs hP hD hS
  intro hP hD hS
  clear hf_32
  refine lv_dup hx hb dX10_init_201 rfl ?_
  refine lv_bipush (v := 26) hx hb dX10_init_202 (by decide) ?_
  refine lv_bipush (v := 111) hx hb dX10_init_204 (by decide) ?_
  refine va_bast hx hb hK hP hD hS 6 3 rfl rfl (by simp only [vp_in]; decide) dX10_init_206 (fun H locs hp hd hs => ?_)
  obtain ⟨f_33, hf_33⟩ : ∃ f : Nat → Int32, upd f_32 26 111 = f := ⟨_, rfl⟩
  refine kz_re (w2 := [(h0, .inr (10, [.int 0, .ref q_1, .ref q_2, .ref q_3, .ref q_4, .ref q_5, .int 0, .null, .int 0, .int 0, .int 0, .null, .null, .int 0, .int 0, .null, .null, .null, .int 0, .int 0, .int 0, .int 0, .int 0, .int 0, .int 0, .int 0, .null, .int 0, .int 0, .null, .null, .null, .int 0, .null, .null, .null, .null, .int 0, .int 0, .null, .null, .null, .null, .null, .null, .null, .int 0, .int 0, .int 0, .int 0, .int 0, .int 0, .long 0, .null, .int 0, .int 0])), (q_1, .inl (ty 0, 7, .inl (fun _ => 0))), (q_2, .inl (ty 0, 5640, .inl (fun _ => 0))), (q_3, .inl (ty 0, 11280, .inl (fun _ => 0))), (q_4, .inl (ty 2, 2, .inl (fun _ => 0))), (q_5, .inl (ty 0, 28, .inl (fun _ => 0))), (q_6, .inl (ty 3, 128, .inl f_33))]) hp hd hs (by rw [← hf_33]; rfl) ?_
  clear hp hd hs hP hD hS
  intro hP hD hS
  clear hf_33
  refine lv_dup hx hb dX10_init_207 rfl ?_
  refine lv_bipush (v := 27) hx hb dX10_init_208 (by decide) ?_
  refine lv_bipush (v := 116) hx hb dX10_init_210 (by decide) ?_
  refine va_bast hx hb hK hP hD hS 6 3 rfl rfl (by simp only [vp_in]; decide) dX10_init_212 (fun H locs hp hd hs => ?_)
  obtain ⟨f_34, hf_34⟩ : ∃ f : Nat → Int32, upd f_33 27 116 = f := ⟨_, rfl⟩
  refine kz_re (w2 := [(h0, .inr (10, [.int 0, .ref q_1, .ref q_2, .ref q_3, .ref q_4, .ref q_5, .int 0, .null, .int 0, .int 0, .int 0, .null, .null, .int 0, .int 0, .null, .null, .null, .int 0, .int 0, .int 0, .int 0, .int 0, .int 0, .int 0, .int 0, .null, .int 0, .int 0, .null, .null, .null, .int 0, .null, .null, .null, .null, .int 0, .int 0, .null, .null, .null, .null, .null, .null, .null, .int 0, .int 0, .int 0, .int 0, .int 0, .int 0, .long 0, .null, .int 0, .int 0])), (q_1, .inl (ty 0, 7, .inl (fun _ => 0))), (q_2, .inl (ty 0, 5640, .inl (fun _ => 0))), (q_3, .inl (ty 0, 11280, .inl (fun _ => 0))), (q_4, .inl (ty 2, 2, .inl (fun _ => 0))), (q_5, .inl (ty 0, 28, .inl (fun _ => 0))), (q_6, .inl (ty 3, 128, .inl f_34))]) hp hd hs (by rw [← hf_34]; rfl) ?_
  clear hp hd hs hP hD hS
  intro hP hD hS
  clear hf_34
  refine lv_dup hx hb dX10_init_213 rfl ?_
  refine lv_bipush (v := 28) hx hb dX10_init_214 (by decide) ?_
  refine lv_bipush (v := 32) hx hb dX10_init_216 (by decide) ?_
  refine va_bast hx hb hK hP hD hS 6 3 rfl rfl (by simp only [vp_in]; decide) dX10_init_218 (fun H locs hp hd hs => ?_)
  obtain ⟨f_35, hf_35⟩ : ∃ f : Nat → Int32, upd f_34 28 32 = f := ⟨_, rfl⟩
  refine kz_re (w2 := [(h0, .inr (10, [.int 0, .ref q_1, .ref q_2, .ref q_3, .ref q_4, .ref q_5, .int 0, .null, .int 0, .int 0, .int 0, .null, .null, .int 0, .int 0, .null, .null, .null, .int 0, .int 0, .int 0, .int 0, .int 0, .int 0, .int 0, .int 0, .null, .int 0, .int 0, .null, .null, .null, .int 0, .null, .null, .null, .null, .int 0, .int 0, .null, .null, .null, .null, .null, .null, .null, .int 0, .int 0, .int 0, .int 0, .int 0, .int 0, .long 0, .null, .int 0, .int 0])), (q_1, .inl (ty 0, 7, .inl (fun _ => 0))), (q_2, .inl (ty 0, 5640, .inl (fun _ => 0))), (q_3, .inl (ty 0, 11280, .inl (fun _ => 0))), (q_4, .inl (ty 2, 2, .inl (fun _ => 0))), (q_5, .inl (ty 0, 28, .inl (fun _ => 0))), (q_6, .inl (ty 3, 128, .inl f_35))]) hp hd hs (by rw [← hf_35]; rfl) ?_
  clear hp hd hs hP hD hS
  intro hP hD hS
  clear hf_35
  refine lv_dup hx hb dX10_init_219 rfl ?_
  refine lv_bipush (v := 29) hx hb dX10_init_220 (by decide) ?_
  refine lv_bipush (v := 103) hx hb dX10_init_222 (by decide) ?_
  refine va_bast hx hb hK hP hD hS 6 3 rfl rfl (by simp only [vp_in]; decide) dX10_init_224 (fun H locs hp hd hs => ?_)
  obtain ⟨f_36, hf_36⟩ : ∃ f : Nat → Int32, upd f_35 29 103 = f := ⟨_, rfl⟩
  refine kz_re (w2 := [(h0, .inr (10, [.int 0, .ref q_1, .ref q_2, .ref q_3, .ref q_4, .ref q_5, .int 0, .null, .int 0, .int 0, .int 0, .null, .null, .int 0, .int 0, .null, .null, .null, .int 0, .int 0, .int 0, .int 0, .int 0, .int 0, .int 0, .int 0, .null, .int 0, .int 0, .null, .null, .null, .int 0, .null, .null, .null, .null, .int 0, .int 0, .null, .null, .null, .null, .null, .null, .null, .int 0, .int 0, .int 0, .int 0, .int 0, .int 0, .long 0, .null, .int 0, .int 0])), (q_1, .inl (ty 0, 7, .inl (fun _ => 0))), (q_2, .inl (ty 0, 5640, .inl (fun _ => 0))), (q_3, .inl (ty 0, 11280, .inl (fun _ => 0))), (q_4, .inl (ty 2, 2, .inl (fun _ => 0))), (q_5, .inl (ty 0, 28, .inl (fun _ => 0))), (q_6, .inl (ty 3, 128, .inl f_36))]) hp hd hs (by rw [← hf_36]; rfl) ?_
  clear hp hd hs hP hD hS
  intro hP hD hS
  clear hf_36
  refine lv_dup hx hb dX10_init_225 rfl ?_
  refine lv_bipush (v := 30) hx hb dX10_init_226 (by decide) ?_
  refine lv_bipush (v := 114) hx hb dX10_init_228 (by decide) ?_
  refine va_bast hx hb hK hP hD hS 6 3 rfl rfl (by simp only [vp_in]; decide) dX10_init_230 (fun H locs hp hd hs => ?_)
  obtain ⟨f_37, hf_37⟩ : ∃ f : Nat → Int32, upd f_36 30 114 = f := ⟨_, rfl⟩
  refine kz_re (w2 := [(h0, .inr (10, [.int 0, .ref q_1, .ref q_2, .ref q_3, .ref q_4, .ref q_5, .int 0, .null, .int 0, .int 0, .int 0, .null, .null, .int 0, .int 0, .null, .null, .null, .int 0, .int 0, .int 0, .int 0, .int 0, .int 0, .int 0, .int 0, .null, .int 0, .int 0, .null, .null, .null, .int 0, .null, .null, .null, .null, .int 0, .int 0, .null, .null, .null, .null, .null, .null, .null, .int 0, .int 0, .int 0, .int 0, .int 0, .int 0, .long 0, .null, .int 0, .int 0])), (q_1, .inl (ty 0, 7, .inl (fun _ => 0))), (q_2, .inl (ty 0, 5640, .inl (fun _ => 0))), (q_3, .inl (ty 0, 11280, .inl (fun _ => 0))), (q_4, .inl (ty 2, 2, .inl (fun _ => 0))), (q_5, .inl (ty 0, 28, .inl (fun _ => 0))), (q_6, .inl (ty 3, 128, .inl f_37))]) hp hd hs (by rw [← hf_37]; rfl) ?_
  clear hp hd hs hP hD hS
  intro hP hD hS
  clear hf_37
  refine lv_dup hx hb dX10_init_231 rfl ?_
  refine lv_bipush (v := 31) hx hb dX10_init_232 (by decide) ?_
  refine lv_bipush (v := 105) hx hb dX10_init_234 (by decide) ?_
  refine va_bast hx hb hK hP hD hS 6 3 rfl rfl (by simp only [vp_in]; decide) dX10_init_236 (fun H locs hp hd hs => ?_)
  obtain ⟨f_38, hf_38⟩ : ∃ f : Nat → Int32, upd f_37 31 105 = f := ⟨_, rfl⟩
  refine kz_re (w2 := [(h0, .inr (10, [.int 0, .ref q_1, .ref q_2, .ref q_3, .ref q_4, .ref q_5, .int 0, .null, .int 0, .int 0, .int 0, .null, .null, .int 0, .int 0, .null, .null, .null, .int 0, .int 0, .int 0, .int 0, .int 0, .int 0, .int 0, .int 0, .null, .int 0, .int 0, .null, .null, .null, .int 0, .null, .null, .null, .null, .int 0, .int 0, .null, .null, .null, .null, .null, .null, .null, .int 0, .int 0, .int 0, .int 0, .int 0, .int 0, .long 0, .null, .int 0, .int 0])), (q_1, .inl (ty 0, 7, .inl (fun _ => 0))), (q_2, .inl (ty 0, 5640, .inl (fun _ => 0))), (q_3, .inl (ty 0, 11280, .inl (fun _ => 0))), (q_4, .inl (ty 2, 2, .inl (fun _ => 0))), (q_5, .inl (ty 0, 28, .inl (fun _ => 0))), (q_6, .inl (ty 3, 128, .inl f_38))]) hp hd hs (by rw [← hf_38]; rfl) ?_
  clear hp hd hs hP hD hS
  intro hP hD hS
  clear hf_38
  refine lv_dup hx hb dX10_init_237 rfl ?_
  refine lv_bipush (v := 32) hx hb dX10_init_238 (by decide) ?_
  refine lv_bipush (v := 112) hx hb dX10_init_240 (by decide) ?_
  refine va_bast hx hb hK hP hD hS 6 3 rfl rfl (by simp only [vp_in]; decide) dX10_init_242 (fun H locs hp hd hs => ?_)
  obtain ⟨f_39, hf_39⟩ : ∃ f : Nat → Int32, upd f_38 32 112 = f := ⟨_, rfl⟩
  refine kz_re (w2 := [(h0, .inr (10, [.int 0, .ref q_1, .ref q_2, .ref q_3, .ref q_4, .ref q_5, .int 0, .null, .int 0, .int 0, .int 0, .null, .null, .int 0, .int 0, .null, .null, .null, .int 0, .int 0, .int 0, .int 0, .int 0, .int 0, .int 0, .int 0, .null, .int 0, .int 0, .null, .null, .null, .int 0, .null, .null, .null, .null, .int 0, .int 0, .null, .null, .null, .null, .null, .null, .null, .int 0, .int 0, .int 0, .int 0, .int 0, .int 0, .long 0, .null, .int 0, .int 0])), (q_1, .inl (ty 0, 7, .inl (fun _ => 0))), (q_2, .inl (ty 0, 5640, .inl (fun _ => 0))), (q_3, .inl (ty 0, 11280, .inl (fun _ => 0))), (q_4, .inl (ty 2, 2, .inl (fun _ => 0))), (q_5, .inl (ty 0, 28, .inl (fun _ => 0))), (q_6, .inl (ty 3, 128, .inl f_39))]) hp hd hs (by rw [← hf_39]; rfl) ?_
  clear hp hd hs hP hD hS
  intro hP hD hS
  clear hf_39
  refine lv_dup hx hb dX10_init_243 rfl ?_
  refine lv_bipush (v := 33) hx hb dX10_init_244 (by decide) ?_
  refine lv_bipush (v := 32) hx hb dX10_init_246 (by decide) ?_
  refine va_bast hx hb hK hP hD hS 6 3 rfl rfl (by simp only [vp_in]; decide) dX10_init_248 (fun H locs hp hd hs => ?_)
  obtain ⟨f_40, hf_40⟩ : ∃ f : Nat → Int32, upd f_39 33 32 = f := ⟨_, rfl⟩
  refine kz_re (w2 := [(h0, .inr (10, [.int 0, .ref q_1, .ref q_2, .ref q_3, .ref q_4, .ref q_5, .int 0, .null, .int 0, .int 0, .int 0, .null, .null, .int 0, .int 0, .null, .null, .null, .int 0, .int 0, .int 0, .int 0, .int 0, .int 0, .int 0, .int 0, .null, .int 0, .int 0, .null, .null, .null, .int 0, .null, .null, .null, .null, .int 0, .int 0, .null, .null, .null, .null, .null, .null, .null, .int 0, .int 0, .int 0, .int 0, .int 0, .int 0, .long 0, .null, .int 0, .int 0])), (q_1, .inl (ty 0, 7, .inl (fun _ => 0))), (q_2, .inl (ty 0, 5640, .inl (fun _ => 0))), (q_3, .inl (ty 0, 11280, .inl (fun _ => 0))), (q_4, .inl (ty 2, 2, .inl (fun _ => 0))), (q_5, .inl (ty 0, 28, .inl (fun _ => 0))), (q_6, .inl (ty 3, 128, .inl f_40))]) hp hd hs (by rw [← hf_40]; rfl) ?_
  clear hp hd hs hP hD hS
  intro hP hD hS
  clear hf_40
  refine lv_dup hx hb dX10_init_249 rfl ?_
  refine lv_bipush (v := 34) hx hb dX10_init_250 (by decide) ?_
  refine lv_bipush (v := 116) hx hb dX10_init_252 (by decide) ?_
  refine va_bast hx hb hK hP hD hS 6 3 rfl rfl (by simp only [vp_in]; decide) dX10_init_254 (fun H locs hp hd hs => ?_)
  obtain ⟨f_41, hf_41⟩ : ∃ f : Nat → Int32, upd f_40 34 116 = f := ⟨_, rfl⟩
  refine kz_re (w2 := [(h0, .inr (10, [.int 0, .ref q_1, .ref q_2, .ref q_3, .ref q_4, .ref q_5, .int 0, .null, .int 0, .int 0, .int 0, .null, .null, .int 0, .int 0, .null, .null, .null, .int 0, .int 0, .int 0, .int 0, .int 0, .int 0, .int 0, .int 0, .null, .int 0, .int 0, .null, .null, .null, .int 0, .null, .null, .null, .null, .int 0, .int 0, .null, .null, .null, .null, .null, .null, .null, .int 0, .int 0, .int 0, .int 0, .int 0, .int 0, .long 0, .null, .int 0, .int 0])), (q_1, .inl (ty 0, 7, .inl (fun _ => 0))), (q_2, .inl (ty 0, 5640, .inl (fun _ => 0))), (q_3, .inl (ty 0, 11280, .inl (fun _ => 0))), (q_4, .inl (ty 2, 2, .inl (fun _ => 0))), (q_5, .inl (ty 0, 28, .inl (fun _ => 0))), (q_6, .inl (ty 3, 128, .inl f_41))]) hp hd hs (by rw [← hf_41]; rfl) ?_
  clear hp hd hs hP hD hS
  intro hP hD hS
  clear hf_41
  refine lv_dup hx hb dX10_init_255 rfl ?_
  refine lv_bipush (v := 35) hx hb dX10_init_256 (by decide) ?_
  refine lv_bipush (v := 111) hx hb dX10_init_258 (by decide) ?_
  refine va_bast hx hb hK hP hD hS 6 3 rfl rfl (by simp only [vp_in]; decide) dX10_init_260 (fun H locs hp hd hs => ?_)
  obtain ⟨f_42, hf_42⟩ : ∃ f : Nat → Int32, upd f_41 35 111 = f := ⟨_, rfl⟩
  refine kz_re (w2 := [(h0, .inr (10, [.int 0, .ref q_1, .ref q_2, .ref q_3, .ref q_4, .ref q_5, .int 0, .null, .int 0, .int 0, .int 0, .null, .null, .int 0, .int 0, .null, .null, .null, .int 0, .int 0, .int 0, .int 0, .int 0, .int 0, .int 0, .int 0, .null, .int 0, .int 0, .null, .null, .null, .int 0, .null, .null, .null, .null, .int 0, .int 0, .null, .null, .null, .null, .null, .null, .null, .int 0, .int 0, .int 0, .int 0, .int 0, .int 0, .long 0, .null, .int 0, .int 0])), (q_1, .inl (ty 0, 7, .inl (fun _ => 0))), (q_2, .inl (ty 0, 5640, .inl (fun _ => 0))), (q_3, .inl (ty 0, 11280, .inl (fun _ => 0))), (q_4, .inl (ty 2, 2, .inl (fun _ => 0))), (q_5, .inl (ty 0, 28, .inl (fun _ => 0))), (q_6, .inl (ty 3, 128, .inl f_42))]) hp hd hs (by rw [← hf_42]; rfl) ?_
  clear hp hd hs hP hD hS
  intro hP hD hS
  clear hf_42
  refine lv_dup hx hb dX10_init_261 rfl ?_
  refine lv_bipush (v := 36) hx hb dX10_init_262 (by decide) ?_
  refine lv_bipush (v := 112) hx hb dX10_init_264 (by decide) ?_
  refine va_bast hx hb hK hP hD hS 6 3 rfl rfl (by simp only [vp_in]; decide) dX10_init_266 (fun H locs hp hd hs => ?_)
  obtain ⟨f_43, hf_43⟩ : ∃ f : Nat → Int32, upd f_42 36 112 = f := ⟨_, rfl⟩
  refine kz_re (w2 := [(h0, .inr (10, [.int 0, .ref q_1, .ref q_2, .ref q_3, .ref q_4, .ref q_5, .int 0, .null, .int 0, .int 0, .int 0, .null, .null, .int 0, .int 0, .null, .null, .null, .int 0, .int 0, .int 0, .int 0, .int 0, .int 0, .int 0, .int 0, .null, .int 0, .int 0, .null, .null, .null, .int 0, .null, .null, .null, .null, .int 0, .int 0, .null, .null, .null, .null, .null, .null, .null, .int 0, .int 0, .int 0, .int 0, .int 0, .int 0, .long 0, .null, .int 0, .int 0])), (q_1, .inl (ty 0, 7, .inl (fun _ => 0))), (q_2, .inl (ty 0, 5640, .inl (fun _ => 0))), (q_3, .inl (ty 0, 11280, .inl (fun _ => 0))), (q_4, .inl (ty 2, 2, .inl (fun _ => 0))), (q_5, .inl (ty 0, 28, .inl (fun _ => 0))), (q_6, .inl (ty 3, 128, .inl f_43))]) hp hd hs (by rw [← hf_43]; rfl) ?_
  clear hp hd hs hP hD hS
  intro hP hD hS
  clear hf_43
  refine lv_dup hx hb dX10_init_267 rfl ?_
  refine lv_bipush (v := 37) hx hb dX10_init_268 (by decide) ?_
  refine lv_bipush (v := 32) hx hb dX10_init_270 (by decide) ?_
  refine va_bast hx hb hK hP hD hS 6 3 rfl rfl (by simp only [vp_in]; decide) dX10_init_272 (fun H locs hp hd hs => ?_)
  obtain ⟨f_44, hf_44⟩ : ∃ f : Nat → Int32, upd f_43 37 32 = f := ⟨_, rfl⟩
  refine kz_re (w2 := [(h0, .inr (10, [.int 0, .ref q_1, .ref q_2, .ref q_3, .ref q_4, .ref q_5, .int 0, .null, .int 0, .int 0, .int 0, .null, .null, .int 0, .int 0, .null, .null, .null, .int 0, .int 0, .int 0, .int 0, .int 0, .int 0, .int 0, .int 0, .null, .int 0, .int 0, .null, .null, .null, .int 0, .null, .null, .null, .null, .int 0, .int 0, .null, .null, .null, .null, .null, .null, .null, .int 0, .int 0, .int 0, .int 0, .int 0, .int 0, .long 0, .null, .int 0, .int 0])), (q_1, .inl (ty 0, 7, .inl (fun _ => 0))), (q_2, .inl (ty 0, 5640, .inl (fun _ => 0))), (q_3, .inl (ty 0, 11280, .inl (fun _ => 0))), (q_4, .inl (ty 2, 2, .inl (fun _ => 0))), (q_5, .inl (ty 0, 28, .inl (fun _ => 0))), (q_6, .inl (ty 3, 128, .inl f_44))]) hp hd hs (by rw [← hf_44]; rfl) ?_
  clear hp hd hs hP hD hS
  intro hP hD hS
  clear hf_44
  refine lv_dup hx hb dX10_init_273 rfl ?_
  refine lv_bipush (v := 38) hx hb dX10_init_274 (by decide) ?_
  refine lv_bipush (v := 110) hx hb dX10_init_276 (by decide) ?_
  refine va_bast hx hb hK hP hD hS 6 3 rfl rfl (by simp only [vp_in]; decide) dX10_init_278 (fun H locs hp hd hs => ?_)
  obtain ⟨f_45, hf_45⟩ : ∃ f : Nat → Int32, upd f_44 38 110 = f := ⟨_, rfl⟩
  refine kz_re (w2 := [(h0, .inr (10, [.int 0, .ref q_1, .ref q_2, .ref q_3, .ref q_4, .ref q_5, .int 0, .null, .int 0, .int 0, .int 0, .null, .null, .int 0, .int 0, .null, .null, .null, .int 0, .int 0, .int 0, .int 0, .int 0, .int 0, .int 0, .int 0, .null, .int 0, .int 0, .null, .null, .null, .int 0, .null, .null, .null, .null, .int 0, .int 0, .null, .null, .null, .null, .null, .null, .null, .int 0, .int 0, .int 0, .int 0, .int 0, .int 0, .long 0, .null, .int 0, .int 0])), (q_1, .inl (ty 0, 7, .inl (fun _ => 0))), (q_2, .inl (ty 0, 5640, .inl (fun _ => 0))), (q_3, .inl (ty 0, 11280, .inl (fun _ => 0))), (q_4, .inl (ty 2, 2, .inl (fun _ => 0))), (q_5, .inl (ty 0, 28, .inl (fun _ => 0))), (q_6, .inl (ty 3, 128, .inl f_45))]) hp hd hs (by rw [← hf_45]; rfl) ?_
  clear hp hd hs hP hD hS
  intro hP hD hS
  clear hf_45
  refine lv_dup hx hb dX10_init_279 rfl ?_
  refine lv_bipush (v := 39) hx hb dX10_init_280 (by decide) ?_
  refine lv_bipush (v := 101) hx hb dX10_init_282 (by decide) ?_
  refine va_bast hx hb hK hP hD hS 6 3 rfl rfl (by simp only [vp_in]; decide) dX10_init_284 (fun H locs hp hd hs => ?_)
  obtain ⟨f_46, hf_46⟩ : ∃ f : Nat → Int32, upd f_45 39 101 = f := ⟨_, rfl⟩
  refine kz_re (w2 := [(h0, .inr (10, [.int 0, .ref q_1, .ref q_2, .ref q_3, .ref q_4, .ref q_5, .int 0, .null, .int 0, .int 0, .int 0, .null, .null, .int 0, .int 0, .null, .null, .null, .int 0, .int 0, .int 0, .int 0, .int 0, .int 0, .int 0, .int 0, .null, .int 0, .int 0, .null, .null, .null, .int 0, .null, .null, .null, .null, .int 0, .int 0, .null, .null, .null, .null, .null, .null, .null, .int 0, .int 0, .int 0, .int 0, .int 0, .int 0, .long 0, .null, .int 0, .int 0])), (q_1, .inl (ty 0, 7, .inl (fun _ => 0))), (q_2, .inl (ty 0, 5640, .inl (fun _ => 0))), (q_3, .inl (ty 0, 11280, .inl (fun _ => 0))), (q_4, .inl (ty 2, 2, .inl (fun _ => 0))), (q_5, .inl (ty 0, 28, .inl (fun _ => 0))), (q_6, .inl (ty 3, 128, .inl f_46))]) hp hd hs (by rw [← hf_46]; rfl) ?_
  clear hp hd hs hP hD hS
  intro hP hD hS
  clear hf_46
  refine lv_dup hx hb dX10_init_285 rfl ?_
  refine lv_bipush (v := 40) hx hb dX10_init_286 (by decide) ?_
  refine lv_bipush (v := 120) hx hb dX10_init_288 (by decide) ?_
  refine va_bast hx hb hK hP hD hS 6 3 rfl rfl (by simp only [vp_in]; decide) dX10_init_290 (fun H locs hp hd hs => ?_)
  obtain ⟨f_47, hf_47⟩ : ∃ f : Nat → Int32, upd f_46 40 120 = f := ⟨_, rfl⟩
  refine kz_re (w2 := [(h0, .inr (10, [.int 0, .ref q_1, .ref q_2, .ref q_3, .ref q_4, .ref q_5, .int 0, .null, .int 0, .int 0, .int 0, .null, .null, .int 0, .int 0, .null, .null, .null, .int 0, .int 0, .int 0, .int 0, .int 0, .int 0, .int 0, .int 0, .null, .int 0, .int 0, .null, .null, .null, .int 0, .null, .null, .null, .null, .int 0, .int 0, .null, .null, .null, .null, .null, .null, .null, .int 0, .int 0, .int 0, .int 0, .int 0, .int 0, .long 0, .null, .int 0, .int 0])), (q_1, .inl (ty 0, 7, .inl (fun _ => 0))), (q_2, .inl (ty 0, 5640, .inl (fun _ => 0))), (q_3, .inl (ty 0, 11280, .inl (fun _ => 0))), (q_4, .inl (ty 2, 2, .inl (fun _ => 0))), (q_5, .inl (ty 0, 28, .inl (fun _ => 0))), (q_6, .inl (ty 3, 128, .inl f_47))]) hp hd hs (by rw [← hf_47]; rfl) ?_
  clear hp hd hs hP hD hS
  intro hP hD hS
  clear hf_47
  refine lv_dup hx hb dX10_init_291 rfl ?_
  refine lv_bipush (v := 41) hx hb dX10_init_292 (by decide) ?_
  refine lv_bipush (v := 116) hx hb dX10_init_294 (by decide) ?_
  refine va_bast hx hb hK hP hD hS 6 3 rfl rfl (by simp only [vp_in]; decide) dX10_init_296 (fun H locs hp hd hs => ?_)
  obtain ⟨f_48, hf_48⟩ : ∃ f : Nat → Int32, upd f_47 41 116 = f := ⟨_, rfl⟩
  refine kz_re (w2 := [(h0, .inr (10, [.int 0, .ref q_1, .ref q_2, .ref q_3, .ref q_4, .ref q_5, .int 0, .null, .int 0, .int 0, .int 0, .null, .null, .int 0, .int 0, .null, .null, .null, .int 0, .int 0, .int 0, .int 0, .int 0, .int 0, .int 0, .int 0, .null, .int 0, .int 0, .null, .null, .null, .int 0, .null, .null, .null, .null, .int 0, .int 0, .null, .null, .null, .null, .null, .null, .null, .int 0, .int 0, .int 0, .int 0, .int 0, .int 0, .long 0, .null, .int 0, .int 0])), (q_1, .inl (ty 0, 7, .inl (fun _ => 0))), (q_2, .inl (ty 0, 5640, .inl (fun _ => 0))), (q_3, .inl (ty 0, 11280, .inl (fun _ => 0))), (q_4, .inl (ty 2, 2, .inl (fun _ => 0))), (q_5, .inl (ty 0, 28, .inl (fun _ => 0))), (q_6, .inl (ty 3, 128, .inl f_48))]) hp hd hs (by rw [← hf_48]; rfl) ?_
  clear hp hd hs hP hD hS
  intro hP hD hS
  clear hf_48
  refine lv_dup hx hb dX10_init_297 rfl ?_
  refine lv_bipush (v := 42) hx hb dX10_init_298 (by decide) ?_
  refine lv_bipush (v := 32) hx hb dX10_init_300 (by decide) ?_
  refine va_bast hx hb hK hP hD hS 6 3 rfl rfl (by simp only [vp_in]; decide) dX10_init_302 (fun H locs hp hd hs => ?_)
  obtain ⟨f_49, hf_49⟩ : ∃ f : Nat → Int32, upd f_48 42 32 = f := ⟨_, rfl⟩
  refine kz_re (w2 := [(h0, .inr (10, [.int 0, .ref q_1, .ref q_2, .ref q_3, .ref q_4, .ref q_5, .int 0, .null, .int 0, .int 0, .int 0, .null, .null, .int 0, .int 0, .null, .null, .null, .int 0, .int 0, .int 0, .int 0, .int 0, .int 0, .int 0, .int 0, .null, .int 0, .int 0, .null, .null, .null, .int 0, .null, .null, .null, .null, .int 0, .int 0, .null, .null, .null, .null, .null, .null, .null, .int 0, .int 0, .int 0, .int 0, .int 0, .int 0, .long 0, .null, .int 0, .int 0])), (q_1, .inl (ty 0, 7, .inl (fun _ => 0))), (q_2, .inl (ty 0, 5640, .inl (fun _ => 0))), (q_3, .inl (ty 0, 11280, .inl (fun _ => 0))), (q_4, .inl (ty 2, 2, .inl (fun _ => 0))), (q_5, .inl (ty 0, 28, .inl (fun _ => 0))), (q_6, .inl (ty 3, 128, .inl f_49))]) hp hd hs (by rw [← hf_49]; rfl) ?_
  clear hp hd hs hP hD hS
  intro hP hD hS
  clear hf_49
  refine lv_dup hx hb dX10_init_303 rfl ?_
  refine lv_bipush (v := 43) hx hb dX10_init_304 (by decide) ?_
  refine lv_bipush (v := 102) hx hb dX10_init_306 (by decide) ?_
  refine va_bast hx hb hK hP hD hS 6 3 rfl rfl (by simp only [vp_in]; decide) dX10_init_308 (fun H locs hp hd hs => ?_)
  obtain ⟨f_50, hf_50⟩ : ∃ f : Nat → Int32, upd f_49 43 102 = f := ⟨_, rfl⟩
  refine kz_re (w2 := [(h0, .inr (10, [.int 0, .ref q_1, .ref q_2, .ref q_3, .ref q_4, .ref q_5, .int 0, .null, .int 0, .int 0, .int 0, .null, .null, .int 0, .int 0, .null, .null, .null, .int 0, .int 0, .int 0, .int 0, .int 0, .int 0, .int 0, .int 0, .null, .int 0, .int 0, .null, .null, .null, .int 0, .null, .null, .null, .null, .int 0, .int 0, .null, .null, .null, .null, .null, .null, .null, .int 0, .int 0, .int 0, .int 0, .int 0, .int 0, .long 0, .null, .int 0, .int 0])), (q_1, .inl (ty 0, 7, .inl (fun _ => 0))), (q_2, .inl (ty 0, 5640, .inl (fun _ => 0))), (q_3, .inl (ty 0, 11280, .inl (fun _ => 0))), (q_4, .inl (ty 2, 2, .inl (fun _ => 0))), (q_5, .inl (ty 0, 28, .inl (fun _ => 0))), (q_6, .inl (ty 3, 128, .inl f_50))]) hp hd hs (by rw [← hf_50]; rfl) ?_
  clear hp hd hs hP hD hS
  intro hP hD hS
  clear hf_50
  refine lv_dup hx hb dX10_init_309 rfl ?_
  refine lv_bipush (v := 44) hx hb dX10_init_310 (by decide) ?_
  refine lv_bipush (v := 108) hx hb dX10_init_312 (by decide) ?_
  refine va_bast hx hb hK hP hD hS 6 3 rfl rfl (by simp only [vp_in]; decide) dX10_init_314 (fun H locs hp hd hs => ?_)
  obtain ⟨f_51, hf_51⟩ : ∃ f : Nat → Int32, upd f_50 44 108 = f := ⟨_, rfl⟩
  refine kz_re (w2 := [(h0, .inr (10, [.int 0, .ref q_1, .ref q_2, .ref q_3, .ref q_4, .ref q_5, .int 0, .null, .int 0, .int 0, .int 0, .null, .null, .int 0, .int 0, .null, .null, .null, .int 0, .int 0, .int 0, .int 0, .int 0, .int 0, .int 0, .int 0, .null, .int 0, .int 0, .null, .null, .null, .int 0, .null, .null, .null, .null, .int 0, .int 0, .null, .null, .null, .null, .null, .null, .null, .int 0, .int 0, .int 0, .int 0, .int 0, .int 0, .long 0, .null, .int 0, .int 0])), (q_1, .inl (ty 0, 7, .inl (fun _ => 0))), (q_2, .inl (ty 0, 5640, .inl (fun _ => 0))), (q_3, .inl (ty 0, 11280, .inl (fun _ => 0))), (q_4, .inl (ty 2, 2, .inl (fun _ => 0))), (q_5, .inl (ty 0, 28, .inl (fun _ => 0))), (q_6, .inl (ty 3, 128, .inl f_51))]) hp hd hs (by rw [← hf_51]; rfl) ?_
  clear hp hd hs hP hD hS
  intro hP hD hS
  clear hf_51
  refine lv_dup hx hb dX10_init_315 rfl ?_
  refine lv_bipush (v := 45) hx hb dX10_init_316 (by decide) ?_
  refine lv_bipush (v := 111) hx hb dX10_init_318 (by decide) ?_
  refine va_bast hx hb hK hP hD hS 6 3 rfl rfl (by simp only [vp_in]; decide) dX10_init_320 (fun H locs hp hd hs => ?_)
  obtain ⟨f_52, hf_52⟩ : ∃ f : Nat → Int32, upd f_51 45 111 = f := ⟨_, rfl⟩
  refine kz_re (w2 := [(h0, .inr (10, [.int 0, .ref q_1, .ref q_2, .ref q_3, .ref q_4, .ref q_5, .int 0, .null, .int 0, .int 0, .int 0, .null, .null, .int 0, .int 0, .null, .null, .null, .int 0, .int 0, .int 0, .int 0, .int 0, .int 0, .int 0, .int 0, .null, .int 0, .int 0, .null, .null, .null, .int 0, .null, .null, .null, .null, .int 0, .int 0, .null, .null, .null, .null, .null, .null, .null, .int 0, .int 0, .int 0, .int 0, .int 0, .int 0, .long 0, .null, .int 0, .int 0])), (q_1, .inl (ty 0, 7, .inl (fun _ => 0))), (q_2, .inl (ty 0, 5640, .inl (fun _ => 0))), (q_3, .inl (ty 0, 11280, .inl (fun _ => 0))), (q_4, .inl (ty 2, 2, .inl (fun _ => 0))), (q_5, .inl (ty 0, 28, .inl (fun _ => 0))), (q_6, .inl (ty 3, 128, .inl f_52))]) hp hd hs (by rw [← hf_52]; rfl) ?_
  clear hp hd hs hP hD hS
  intro hP hD hS
  clear hf_52
  refine lv_dup hx hb dX10_init_321 rfl ?_
  refine lv_bipush (v := 46) hx hb dX10_init_322 (by decide) ?_
  refine lv_bipush (v := 111) hx hb dX10_init_324 (by decide) ?_
  refine va_bast hx hb hK hP hD hS 6 3 rfl rfl (by simp only [vp_in]; decide) dX10_init_326 (fun H locs hp hd hs => ?_)
  obtain ⟨f_53, hf_53⟩ : ∃ f : Nat → Int32, upd f_52 46 111 = f := ⟨_, rfl⟩
  refine kz_re (w2 := [(h0, .inr (10, [.int 0, .ref q_1, .ref q_2, .ref q_3, .ref q_4, .ref q_5, .int 0, .null, .int 0, .int 0, .int 0, .null, .null, .int 0, .int 0, .null, .null, .null, .int 0, .int 0, .int 0, .int 0, .int 0, .int 0, .int 0, .int 0, .null, .int 0, .int 0, .null, .null, .null, .int 0, .null, .null, .null, .null, .int 0, .int 0, .null, .null, .null, .null, .null, .null, .null, .int 0, .int 0, .int 0, .int 0, .int 0, .int 0, .long 0, .null, .int 0, .int 0])), (q_1, .inl (ty 0, 7, .inl (fun _ => 0))), (q_2, .inl (ty 0, 5640, .inl (fun _ => 0))), (q_3, .inl (ty 0, 11280, .inl (fun _ => 0))), (q_4, .inl (ty 2, 2, .inl (fun _ => 0))), (q_5, .inl (ty 0, 28, .inl (fun _ => 0))), (q_6, .inl (ty 3, 128, .inl f_53))]) hp hd hs (by rw [← hf_53]; rfl) ?_
  clear hp hd hs hP hD hS
  intro hP hD hS
  clear hf_53
  refine lv_dup hx hb dX10_init_327 rfl ?_
  refine lv_bipush (v := 47) hx hb dX10_init_328 (by decide) ?_
  refine lv_bipush (v := 114) hx hb dX10_init_330 (by decide) ?_
  refine va_bast hx hb hK hP hD hS 6 3 rfl rfl (by simp only [vp_in]; decide) dX10_init_332 (fun H locs hp hd hs => ?_)
  obtain ⟨f_54, hf_54⟩ : ∃ f : Nat → Int32, upd f_53 47 114 = f := ⟨_, rfl⟩
  refine kz_re (w2 := [(h0, .inr (10, [.int 0, .ref q_1, .ref q_2, .ref q_3, .ref q_4, .ref q_5, .int 0, .null, .int 0, .int 0, .int 0, .null, .null, .int 0, .int 0, .null, .null, .null, .int 0, .int 0, .int 0, .int 0, .int 0, .int 0, .int 0, .int 0, .null, .int 0, .int 0, .null, .null, .null, .int 0, .null, .null, .null, .null, .int 0, .int 0, .null, .null, .null, .null, .null, .null, .null, .int 0, .int 0, .int 0, .int 0, .int 0, .int 0, .long 0, .null, .int 0, .int 0])), (q_1, .inl (ty 0, 7, .inl (fun _ => 0))), (q_2, .inl (ty 0, 5640, .inl (fun _ => 0))), (q_3, .inl (ty 0, 11280, .inl (fun _ => 0))), (q_4, .inl (ty 2, 2, .inl (fun _ => 0))), (q_5, .inl (ty 0, 28, .inl (fun _ => 0))), (q_6, .inl (ty 3, 128, .inl f_54))]) hp hd hs (by rw [← hf_54]; rfl) ?_
  clear hp hd hs hP hD hS
  intro hP hD hS
  clear hf_54
  refine lv_dup hx hb dX10_init_333 rfl ?_
  refine lv_bipush (v := 48) hx hb dX10_init_334 (by decide) ?_
  refine lv_bipush (v := 115) hx hb dX10_init_336 (by decide) ?_
  refine va_bast hx hb hK hP hD hS 6 3 rfl rfl (by simp only [vp_in]; decide) dX10_init_338 (fun H locs hp hd hs => ?_)
  obtain ⟨f_55, hf_55⟩ : ∃ f : Nat → Int32, upd f_54 48 115 = f := ⟨_, rfl⟩
  refine kz_re (w2 := [(h0, .inr (10, [.int 0, .ref q_1, .ref q_2, .ref q_3, .ref q_4, .ref q_5, .int 0, .null, .int 0, .int 0, .int 0, .null, .null, .int 0, .int 0, .null, .null, .null, .int 0, .int 0, .int 0, .int 0, .int 0, .int 0, .int 0, .int 0, .null, .int 0, .int 0, .null, .null, .null, .int 0, .null, .null, .null, .null, .int 0, .int 0, .null, .null, .null, .null, .null, .null, .null, .int 0, .int 0, .int 0, .int 0, .int 0, .int 0, .long 0, .null, .int 0, .int 0])), (q_1, .inl (ty 0, 7, .inl (fun _ => 0))), (q_2, .inl (ty 0, 5640, .inl (fun _ => 0))), (q_3, .inl (ty 0, 11280, .inl (fun _ => 0))), (q_4, .inl (ty 2, 2, .inl (fun _ => 0))), (q_5, .inl (ty 0, 28, .inl (fun _ => 0))), (q_6, .inl (ty 3, 128, .inl f_55))]) hp hd hs (by rw [← hf_55]; rfl) ?_
  clear hp hd hs hP hD hS
  intro hP hD hS
  clear hf_55
  refine lv_dup hx hb dX10_init_339 rfl ?_
  refine lv_bipush (v := 49) hx hb dX10_init_340 (by decide) ?_
  refine lv_bipush (v := 32) hx hb dX10_init_342 (by decide) ?_
  refine va_bast hx hb hK hP hD hS 6 3 rfl rfl (by simp only [vp_in]; decide) dX10_init_344 (fun H locs hp hd hs => ?_)
  obtain ⟨f_56, hf_56⟩ : ∃ f : Nat → Int32, upd f_55 49 32 = f := ⟨_, rfl⟩
  refine kz_re (w2 := [(h0, .inr (10, [.int 0, .ref q_1, .ref q_2, .ref q_3, .ref q_4, .ref q_5, .int 0, .null, .int 0, .int 0, .int 0, .null, .null, .int 0, .int 0, .null, .null, .null, .int 0, .int 0, .int 0, .int 0, .int 0, .int 0, .int 0, .int 0, .null, .int 0, .int 0, .null, .null, .null, .int 0, .null, .null, .null, .null, .int 0, .int 0, .null, .null, .null, .null, .null, .null, .null, .int 0, .int 0, .int 0, .int 0, .int 0, .int 0, .long 0, .null, .int 0, .int 0])), (q_1, .inl (ty 0, 7, .inl (fun _ => 0))), (q_2, .inl (ty 0, 5640, .inl (fun _ => 0))), (q_3, .inl (ty 0, 11280, .inl (fun _ => 0))), (q_4, .inl (ty 2, 2, .inl (fun _ => 0))), (q_5, .inl (ty 0, 28, .inl (fun _ => 0))), (q_6, .inl (ty 3, 128, .inl f_56))]) hp hd hs (by rw [← hf_56]; rfl) ?_
  clear hp hd hs hP hD hS
  intro hP hD hS
  clear hf_56
  refine lv_dup hx hb dX10_init_345 rfl ?_
  refine lv_bipush (v := 50) hx hb dX10_init_346 (by decide) ?_
  refine lv_bipush (v := 114) hx hb dX10_init_348 (by decide) ?_
  refine va_bast hx hb hK hP hD hS 6 3 rfl rfl (by simp only [vp_in]; decide) dX10_init_350 (fun H locs hp hd hs => ?_)
  obtain ⟨f_57, hf_57⟩ : ∃ f : Nat → Int32, upd f_56 50 114 = f := ⟨_, rfl⟩
  refine kz_re (w2 := [(h0, .inr (10, [.int 0, .ref q_1, .ref q_2, .ref q_3, .ref q_4, .ref q_5, .int 0, .null, .int 0, .int 0, .int 0, .null, .null, .int 0, .int 0, .null, .null, .null, .int 0, .int 0, .int 0, .int 0, .int 0, .int 0, .int 0, .int 0, .null, .int 0, .int 0, .null, .null, .null, .int 0, .null, .null, .null, .null, .int 0, .int 0, .null, .null, .null, .null, .null, .null, .null, .int 0, .int 0, .int 0, .int 0, .int 0, .int 0, .long 0, .null, .int 0, .int 0])), (q_1, .inl (ty 0, 7, .inl (fun _ => 0))), (q_2, .inl (ty 0, 5640, .inl (fun _ => 0))), (q_3, .inl (ty 0, 11280, .inl (fun _ => 0))), (q_4, .inl (ty 2, 2, .inl (fun _ => 0))), (q_5, .inl (ty 0, 28, .inl (fun _ => 0))), (q_6, .inl (ty 3, 128, .inl f_57))]) hp hd hs (by rw [← hf_57]; rfl) ?_
  clear hp hd hs hP hD hS
  intro hP hD hS
  clear hf_57
  refine lv_dup hx hb dX10_init_351 rfl ?_
  refine lv_bipush (v := 51) hx hb dX10_init_352 (by decide) ?_
  refine lv_bipush (v := 97) hx hb dX10_init_354 (by decide) ?_
  refine va_bast hx hb hK hP hD hS 6 3 rfl rfl (by simp only [vp_in]; decide) dX10_init_356 (fun H locs hp hd hs => ?_)
  obtain ⟨f_58, hf_58⟩ : ∃ f : Nat → Int32, upd f_57 51 97 = f := ⟨_, rfl⟩
  refine kz_re (w2 := [(h0, .inr (10, [.int 0, .ref q_1, .ref q_2, .ref q_3, .ref q_4, .ref q_5, .int 0, .null, .int 0, .int 0, .int 0, .null, .null, .int 0, .int 0, .null, .null, .null, .int 0, .int 0, .int 0, .int 0, .int 0, .int 0, .int 0, .int 0, .null, .int 0, .int 0, .null, .null, .null, .int 0, .null, .null, .null, .null, .int 0, .int 0, .null, .null, .null, .null, .null, .null, .null, .int 0, .int 0, .int 0, .int 0, .int 0, .int 0, .long 0, .null, .int 0, .int 0])), (q_1, .inl (ty 0, 7, .inl (fun _ => 0))), (q_2, .inl (ty 0, 5640, .inl (fun _ => 0))), (q_3, .inl (ty 0, 11280, .inl (fun _ => 0))), (q_4, .inl (ty 2, 2, .inl (fun _ => 0))), (q_5, .inl (ty 0, 28, .inl (fun _ => 0))), (q_6, .inl (ty 3, 128, .inl f_58))]) hp hd hs (by rw [← hf_58]; rfl) ?_
  clear hp hd hs hP hD hS
  intro hP hD hS
  clear hf_58
  refine lv_dup hx hb dX10_init_357 rfl ?_
  refine lv_bipush (v := 52) hx hb dX10_init_358 (by decide) ?_
  refine lv_bipush (v := 110) hx hb dX10_init_360 (by decide) ?_
  refine va_bast hx hb hK hP hD hS 6 3 rfl rfl (by simp only [vp_in]; decide) dX10_init_362 (fun H locs hp hd hs => ?_)
  obtain ⟨f_59, hf_59⟩ : ∃ f : Nat → Int32, upd f_58 52 110 = f := ⟨_, rfl⟩
  refine kz_re (w2 := [(h0, .inr (10, [.int 0, .ref q_1, .ref q_2, .ref q_3, .ref q_4, .ref q_5, .int 0, .null, .int 0, .int 0, .int 0, .null, .null, .int 0, .int 0, .null, .null, .null, .int 0, .int 0, .int 0, .int 0, .int 0, .int 0, .int 0, .int 0, .null, .int 0, .int 0, .null, .null, .null, .int 0, .null, .null, .null, .null, .int 0, .int 0, .null, .null, .null, .null, .null, .null, .null, .int 0, .int 0, .int 0, .int 0, .int 0, .int 0, .long 0, .null, .int 0, .int 0])), (q_1, .inl (ty 0, 7, .inl (fun _ => 0))), (q_2, .inl (ty 0, 5640, .inl (fun _ => 0))), (q_3, .inl (ty 0, 11280, .inl (fun _ => 0))), (q_4, .inl (ty 2, 2, .inl (fun _ => 0))), (q_5, .inl (ty 0, 28, .inl (fun _ => 0))), (q_6, .inl (ty 3, 128, .inl f_59))]) hp hd hs (by rw [← hf_59]; rfl) ?_
  clear hp hd hs hP hD hS
  intro hP hD hS
  clear hf_59
  refine lv_dup hx hb dX10_init_363 rfl ?_
  refine lv_bipush (v := 53) hx hb dX10_init_364 (by decide) ?_
  refine lv_bipush (v := 107) hx hb dX10_init_366 (by decide) ?_
  refine va_bast hx hb hK hP hD hS 6 3 rfl rfl (by simp only [vp_in]; decide) dX10_init_368 (fun H locs hp hd hs => ?_)
  obtain ⟨f_60, hf_60⟩ : ∃ f : Nat → Int32, upd f_59 53 107 = f := ⟨_, rfl⟩
  refine kz_re (w2 := [(h0, .inr (10, [.int 0, .ref q_1, .ref q_2, .ref q_3, .ref q_4, .ref q_5, .int 0, .null, .int 0, .int 0, .int 0, .null, .null, .int 0, .int 0, .null, .null, .null, .int 0, .int 0, .int 0, .int 0, .int 0, .int 0, .int 0, .int 0, .null, .int 0, .int 0, .null, .null, .null, .int 0, .null, .null, .null, .null, .int 0, .int 0, .null, .null, .null, .null, .null, .null, .null, .int 0, .int 0, .int 0, .int 0, .int 0, .int 0, .long 0, .null, .int 0, .int 0])), (q_1, .inl (ty 0, 7, .inl (fun _ => 0))), (q_2, .inl (ty 0, 5640, .inl (fun _ => 0))), (q_3, .inl (ty 0, 11280, .inl (fun _ => 0))), (q_4, .inl (ty 2, 2, .inl (fun _ => 0))), (q_5, .inl (ty 0, 28, .inl (fun _ => 0))), (q_6, .inl (ty 3, 128, .inl f_60))]) hp hd hs (by rw [← hf_60]; rfl) ?_
  clear hp hd hs hP hD hS
  intro hP hD hS
  clear hf_60
  refine lv_dup hx hb dX10_init_369 rfl ?_
  refine lv_bipush (v := 54) hx hb dX10_init_370 (by decide) ?_
  refine lv_bipush (v := 32) hx hb dX10_init_372 (by decide) ?_
  refine va_bast hx hb hK hP hD hS 6 3 rfl rfl (by simp only [vp_in]; decide) dX10_init_374 (fun H locs hp hd hs => ?_)
  obtain ⟨f_61, hf_61⟩ : ∃ f : Nat → Int32, upd f_60 54 32 = f := ⟨_, rfl⟩
  refine kz_re (w2 := [(h0, .inr (10, [.int 0, .ref q_1, .ref q_2, .ref q_3, .ref q_4, .ref q_5, .int 0, .null, .int 0, .int 0, .int 0, .null, .null, .int 0, .int 0, .null, .null, .null, .int 0, .int 0, .int 0, .int 0, .int 0, .int 0, .int 0, .int 0, .null, .int 0, .int 0, .null, .null, .null, .int 0, .null, .null, .null, .null, .int 0, .int 0, .null, .null, .null, .null, .null, .null, .null, .int 0, .int 0, .int 0, .int 0, .int 0, .int 0, .long 0, .null, .int 0, .int 0])), (q_1, .inl (ty 0, 7, .inl (fun _ => 0))), (q_2, .inl (ty 0, 5640, .inl (fun _ => 0))), (q_3, .inl (ty 0, 11280, .inl (fun _ => 0))), (q_4, .inl (ty 2, 2, .inl (fun _ => 0))), (q_5, .inl (ty 0, 28, .inl (fun _ => 0))), (q_6, .inl (ty 3, 128, .inl f_61))]) hp hd hs (by rw [← hf_61]; rfl) ?_
  clear hp hd hs hP hD hS
  intro hP hD hS
  clear hf_61
  refine lv_dup hx hb dX10_init_375 rfl ?_
  refine lv_bipush (v := 55) hx hb dX10_init_376 (by decide) ?_
  refine lv_bipush (v := 112) hx hb dX10_init_378 (by decide) ?_
  refine va_bast hx hb hK hP hD hS 6 3 rfl rfl (by simp only [vp_in]; decide) dX10_init_380 (fun H locs hp hd hs => ?_)
  obtain ⟨f_62, hf_62⟩ : ∃ f : Nat → Int32, upd f_61 55 112 = f := ⟨_, rfl⟩
  refine kz_re (w2 := [(h0, .inr (10, [.int 0, .ref q_1, .ref q_2, .ref q_3, .ref q_4, .ref q_5, .int 0, .null, .int 0, .int 0, .int 0, .null, .null, .int 0, .int 0, .null, .null, .null, .int 0, .int 0, .int 0, .int 0, .int 0, .int 0, .int 0, .int 0, .null, .int 0, .int 0, .null, .null, .null, .int 0, .null, .null, .null, .null, .int 0, .int 0, .null, .null, .null, .null, .null, .null, .null, .int 0, .int 0, .int 0, .int 0, .int 0, .int 0, .long 0, .null, .int 0, .int 0])), (q_1, .inl (ty 0, 7, .inl (fun _ => 0))), (q_2, .inl (ty 0, 5640, .inl (fun _ => 0))), (q_3, .inl (ty 0, 11280, .inl (fun _ => 0))), (q_4, .inl (ty 2, 2, .inl (fun _ => 0))), (q_5, .inl (ty 0, 28, .inl (fun _ => 0))), (q_6, .inl (ty 3, 128, .inl f_62))]) hp hd hs (by rw [← hf_62]; rfl) ?_
  clear hp hd hs hP hD hS
  intro hP hD hS
  clear hf_62
  refine lv_dup hx hb dX10_init_381 rfl ?_
  refine lv_bipush (v := 56) hx hb dX10_init_382 (by decide) ?_
  refine lv_bipush (v := 108) hx hb dX10_init_384 (by decide) ?_
  refine va_bast hx hb hK hP hD hS 6 3 rfl rfl (by simp only [vp_in]; decide) dX10_init_386 (fun H locs hp hd hs => ?_)
  obtain ⟨f_63, hf_63⟩ : ∃ f : Nat → Int32, upd f_62 56 108 = f := ⟨_, rfl⟩
  refine kz_re (w2 := [(h0, .inr (10, [.int 0, .ref q_1, .ref q_2, .ref q_3, .ref q_4, .ref q_5, .int 0, .null, .int 0, .int 0, .int 0, .null, .null, .int 0, .int 0, .null, .null, .null, .int 0, .int 0, .int 0, .int 0, .int 0, .int 0, .int 0, .int 0, .null, .int 0, .int 0, .null, .null, .null, .int 0, .null, .null, .null, .null, .int 0, .int 0, .null, .null, .null, .null, .null, .null, .null, .int 0, .int 0, .int 0, .int 0, .int 0, .int 0, .long 0, .null, .int 0, .int 0])), (q_1, .inl (ty 0, 7, .inl (fun _ => 0))), (q_2, .inl (ty 0, 5640, .inl (fun _ => 0))), (q_3, .inl (ty 0, 11280, .inl (fun _ => 0))), (q_4, .inl (ty 2, 2, .inl (fun _ => 0))), (q_5, .inl (ty 0, 28, .inl (fun _ => 0))), (q_6, .inl (ty 3, 128, .inl f_63))]) hp hd hs (by rw [← hf_63]; rfl) ?_
  clear hp hd hs hP hD hS
  intro hP hD hS
  clear hf_63
  refine lv_dup hx hb dX10_init_387 rfl ?_
  refine lv_bipush (v := 57) hx hb dX10_init_388 (by decide) ?_
  refine lv_bipush (v := 97) hx hb dX10_init_390 (by decide) ?_
  refine va_bast hx hb hK hP hD hS 6 3 rfl rfl (by simp only [vp_in]; decide) dX10_init_392 (fun H locs hp hd hs => ?_)
  obtain ⟨f_64, hf_64⟩ : ∃ f : Nat → Int32, upd f_63 57 97 = f := ⟨_, rfl⟩
  refine kz_re (w2 := [(h0, .inr (10, [.int 0, .ref q_1, .ref q_2, .ref q_3, .ref q_4, .ref q_5, .int 0, .null, .int 0, .int 0, .int 0, .null, .null, .int 0, .int 0, .null, .null, .null, .int 0, .int 0, .int 0, .int 0, .int 0, .int 0, .int 0, .int 0, .null, .int 0, .int 0, .null, .null, .null, .int 0, .null, .null, .null, .null, .int 0, .int 0, .null, .null, .null, .null, .null, .null, .null, .int 0, .int 0, .int 0, .int 0, .int 0, .int 0, .long 0, .null, .int 0, .int 0])), (q_1, .inl (ty 0, 7, .inl (fun _ => 0))), (q_2, .inl (ty 0, 5640, .inl (fun _ => 0))), (q_3, .inl (ty 0, 11280, .inl (fun _ => 0))), (q_4, .inl (ty 2, 2, .inl (fun _ => 0))), (q_5, .inl (ty 0, 28, .inl (fun _ => 0))), (q_6, .inl (ty 3, 128, .inl f_64))]) hp hd hs (by rw [← hf_64]; rfl) ?_
  clear hp hd hs hP hD hS
  intro hP hD hS
  clear hf_64
  refine lv_dup hx hb dX10_init_393 rfl ?_
  refine lv_bipush (v := 58) hx hb dX10_init_394 (by decide) ?_
  refine lv_bipush (v := 99) hx hb dX10_init_396 (by decide) ?_
  refine va_bast hx hb hK hP hD hS 6 3 rfl rfl (by simp only [vp_in]; decide) dX10_init_398 (fun H locs hp hd hs => ?_)
  obtain ⟨f_65, hf_65⟩ : ∃ f : Nat → Int32, upd f_64 58 99 = f := ⟨_, rfl⟩
  refine kz_re (w2 := [(h0, .inr (10, [.int 0, .ref q_1, .ref q_2, .ref q_3, .ref q_4, .ref q_5, .int 0, .null, .int 0, .int 0, .int 0, .null, .null, .int 0, .int 0, .null, .null, .null, .int 0, .int 0, .int 0, .int 0, .int 0, .int 0, .int 0, .int 0, .null, .int 0, .int 0, .null, .null, .null, .int 0, .null, .null, .null, .null, .int 0, .int 0, .null, .null, .null, .null, .null, .null, .null, .int 0, .int 0, .int 0, .int 0, .int 0, .int 0, .long 0, .null, .int 0, .int 0])), (q_1, .inl (ty 0, 7, .inl (fun _ => 0))), (q_2, .inl (ty 0, 5640, .inl (fun _ => 0))), (q_3, .inl (ty 0, 11280, .inl (fun _ => 0))), (q_4, .inl (ty 2, 2, .inl (fun _ => 0))), (q_5, .inl (ty 0, 28, .inl (fun _ => 0))), (q_6, .inl (ty 3, 128, .inl f_65))]) hp hd hs (by rw [← hf_65]; rfl) ?_
  clear hp hd hs hP hD hS
  intro hP hD hS
  clear hf_65
  refine lv_dup hx hb dX10_init_399 rfl ?_
  refine lv_bipush (v := 59) hx hb dX10_init_400 (by decide) ?_
  refine lv_bipush (v := 101) hx hb dX10_init_402 (by decide) ?_
  refine va_bast hx hb hK hP hD hS 6 3 rfl rfl (by simp only [vp_in]; decide) dX10_init_404 (fun H locs hp hd hs => ?_)
  obtain ⟨f_66, hf_66⟩ : ∃ f : Nat → Int32, upd f_65 59 101 = f := ⟨_, rfl⟩
  refine kz_re (w2 := [(h0, .inr (10, [.int 0, .ref q_1, .ref q_2, .ref q_3, .ref q_4, .ref q_5, .int 0, .null, .int 0, .int 0, .int 0, .null, .null, .int 0, .int 0, .null, .null, .null, .int 0, .int 0, .int 0, .int 0, .int 0, .int 0, .int 0, .int 0, .null, .int 0, .int 0, .null, .null, .null, .int 0, .null, .null, .null, .null, .int 0, .int 0, .null, .null, .null, .null, .null, .null, .null, .int 0, .int 0, .int 0, .int 0, .int 0, .int 0, .long 0, .null, .int 0, .int 0])), (q_1, .inl (ty 0, 7, .inl (fun _ => 0))), (q_2, .inl (ty 0, 5640, .inl (fun _ => 0))), (q_3, .inl (ty 0, 11280, .inl (fun _ => 0))), (q_4, .inl (ty 2, 2, .inl (fun _ => 0))), (q_5, .inl (ty 0, 28, .inl (fun _ => 0))), (q_6, .inl (ty 3, 128, .inl f_66))]) hp hd hs (by rw [← hf_66]; rfl) ?_
  clear hp hd hs hP hD hS
  intro hP hD hS
  clear hf_66
  refine lv_dup hx hb dX10_init_405 rfl ?_
  refine lv_bipush (v := 60) hx hb dX10_init_406 (by decide) ?_
  refine lv_bipush (v := 32) hx hb dX10_init_408 (by decide) ?_
  refine va_bast hx hb hK hP hD hS 6 3 rfl rfl (by simp only [vp_in]; decide) dX10_init_410 (fun H locs hp hd hs => ?_)
  obtain ⟨f_67, hf_67⟩ : ∃ f : Nat → Int32, upd f_66 60 32 = f := ⟨_, rfl⟩
  refine kz_re (w2 := [(h0, .inr (10, [.int 0, .ref q_1, .ref q_2, .ref q_3, .ref q_4, .ref q_5, .int 0, .null, .int 0, .int 0, .int 0, .null, .null, .int 0, .int 0, .null, .null, .null, .int 0, .int 0, .int 0, .int 0, .int 0, .int 0, .int 0, .int 0, .null, .int 0, .int 0, .null, .null, .null, .int 0, .null, .null, .null, .null, .int 0, .int 0, .null, .null, .null, .null, .null, .null, .null, .int 0, .int 0, .int 0, .int 0, .int 0, .int 0, .long 0, .null, .int 0, .int 0])), (q_1, .inl (ty 0, 7, .inl (fun _ => 0))), (q_2, .inl (ty 0, 5640, .inl (fun _ => 0))), (q_3, .inl (ty 0, 11280, .inl (fun _ => 0))), (q_4, .inl (ty 2, 2, .inl (fun _ => 0))), (q_5, .inl (ty 0, 28, .inl (fun _ => 0))), (q_6, .inl (ty 3, 128, .inl f_67))]) hp hd hs (by rw [← hf_67]; rfl) ?_
  clear hp hd hs hP hD hS
  intro hP hD hS
  clear hf_67
  refine lv_dup hx hb dX10_init_411 rfl ?_
  refine lv_bipush (v := 61) hx hb dX10_init_412 (by decide) ?_
  refine lv_bipush (v := 109) hx hb dX10_init_414 (by decide) ?_
  refine va_bast hx hb hK hP hD hS 6 3 rfl rfl (by simp only [vp_in]; decide) dX10_init_416 (fun H locs hp hd hs => ?_)
  obtain ⟨f_68, hf_68⟩ : ∃ f : Nat → Int32, upd f_67 61 109 = f := ⟨_, rfl⟩
  refine kz_re (w2 := [(h0, .inr (10, [.int 0, .ref q_1, .ref q_2, .ref q_3, .ref q_4, .ref q_5, .int 0, .null, .int 0, .int 0, .int 0, .null, .null, .int 0, .int 0, .null, .null, .null, .int 0, .int 0, .int 0, .int 0, .int 0, .int 0, .int 0, .int 0, .null, .int 0, .int 0, .null, .null, .null, .int 0, .null, .null, .null, .null, .int 0, .int 0, .null, .null, .null, .null, .null, .null, .null, .int 0, .int 0, .int 0, .int 0, .int 0, .int 0, .long 0, .null, .int 0, .int 0])), (q_1, .inl (ty 0, 7, .inl (fun _ => 0))), (q_2, .inl (ty 0, 5640, .inl (fun _ => 0))), (q_3, .inl (ty 0, 11280, .inl (fun _ => 0))), (q_4, .inl (ty 2, 2, .inl (fun _ => 0))), (q_5, .inl (ty 0, 28, .inl (fun _ => 0))), (q_6, .inl (ty 3, 128, .inl f_68))]) hp hd hs (by rw [← hf_68]; rfl) ?_
  clear hp hd hs hP hD hS
  intro hP hD hS
  clear hf_68
  refine lv_dup hx hb dX10_init_417 rfl ?_
  refine lv_bipush (v := 62) hx hb dX10_init_418 (by decide) ?_
  refine lv_bipush (v := 111) hx hb dX10_init_420 (by decide) ?_
  refine va_bast hx hb hK hP hD hS 6 3 rfl rfl (by simp only [vp_in]; decide) dX10_init_422 (fun H locs hp hd hs => ?_)
  obtain ⟨f_69, hf_69⟩ : ∃ f : Nat → Int32, upd f_68 62 111 = f := ⟨_, rfl⟩
  refine kz_re (w2 := [(h0, .inr (10, [.int 0, .ref q_1, .ref q_2, .ref q_3, .ref q_4, .ref q_5, .int 0, .null, .int 0, .int 0, .int 0, .null, .null, .int 0, .int 0, .null, .null, .null, .int 0, .int 0, .int 0, .int 0, .int 0, .int 0, .int 0, .int 0, .null, .int 0, .int 0, .null, .null, .null, .int 0, .null, .null, .null, .null, .int 0, .int 0, .null, .null, .null, .null, .null, .null, .null, .int 0, .int 0, .int 0, .int 0, .int 0, .int 0, .long 0, .null, .int 0, .int 0])), (q_1, .inl (ty 0, 7, .inl (fun _ => 0))), (q_2, .inl (ty 0, 5640, .inl (fun _ => 0))), (q_3, .inl (ty 0, 11280, .inl (fun _ => 0))), (q_4, .inl (ty 2, 2, .inl (fun _ => 0))), (q_5, .inl (ty 0, 28, .inl (fun _ => 0))), (q_6, .inl (ty 3, 128, .inl f_69))]) hp hd hs (by rw [← hf_69]; rfl) ?_
  clear hp hd hs hP hD hS
  intro hP hD hS
  clear hf_69
  refine lv_dup hx hb dX10_init_423 rfl ?_
  refine lv_bipush (v := 63) hx hb dX10_init_424 (by decide) ?_
  refine lv_bipush (v := 111) hx hb dX10_init_426 (by decide) ?_
  refine va_bast hx hb hK hP hD hS 6 3 rfl rfl (by simp only [vp_in]; decide) dX10_init_428 (fun H locs hp hd hs => ?_)
  obtain ⟨f_70, hf_70⟩ : ∃ f : Nat → Int32, upd f_69 63 111 = f := ⟨_, rfl⟩
  refine kz_re (w2 := [(h0, .inr (10, [.int 0, .ref q_1, .ref q_2, .ref q_3, .ref q_4, .ref q_5, .int 0, .null, .int 0, .int 0, .int 0, .null, .null, .int 0, .int 0, .null, .null, .null, .int 0, .int 0, .int 0, .int 0, .int 0, .int 0, .int 0, .int 0, .null, .int 0, .int 0, .null, .null, .null, .int 0, .null, .null, .null, .null, .int 0, .int 0, .null, .null, .null, .null, .null, .null, .null, .int 0, .int 0, .int 0, .int 0, .int 0, .int 0, .long 0, .null, .int 0, .int 0])), (q_1, .inl (ty 0, 7, .inl (fun _ => 0))), (q_2, .inl (ty 0, 5640, .inl (fun _ => 0))), (q_3, .inl (ty 0, 11280, .inl (fun _ => 0))), (q_4, .inl (ty 2, 2, .inl (fun _ => 0))), (q_5, .inl (ty 0, 28, .inl (fun _ => 0))), (q_6, .inl (ty 3, 128, .inl f_70))]) hp hd hs (by rw [← hf_70]; rfl) ?_
  clear hp hd hs hP hD hS
  intro hP hD hS
  clear hf_70
  refine lv_dup hx hb dX10_init_429 rfl ?_
  refine lv_bipush (v := 64) hx hb dX10_init_430 (by decide) ?_
  refine lv_bipush (v := 100) hx hb dX10_init_432 (by decide) ?_
  refine va_bast hx hb hK hP hD hS 6 3 rfl rfl (by simp only [vp_in]; decide) dX10_init_434 (fun H locs hp hd hs => ?_)
  obtain ⟨f_71, hf_71⟩ : ∃ f : Nat → Int32, upd f_70 64 100 = f := ⟨_, rfl⟩
  refine kz_re (w2 := [(h0, .inr (10, [.int 0, .ref q_1, .ref q_2, .ref q_3, .ref q_4, .ref q_5, .int 0, .null, .int 0, .int 0, .int 0, .null, .null, .int 0, .int 0, .null, .null, .null, .int 0, .int 0, .int 0, .int 0, .int 0, .int 0, .int 0, .int 0, .null, .int 0, .int 0, .null, .null, .null, .int 0, .null, .null, .null, .null, .int 0, .int 0, .null, .null, .null, .null, .null, .null, .null, .int 0, .int 0, .int 0, .int 0, .int 0, .int 0, .long 0, .null, .int 0, .int 0])), (q_1, .inl (ty 0, 7, .inl (fun _ => 0))), (q_2, .inl (ty 0, 5640, .inl (fun _ => 0))), (q_3, .inl (ty 0, 11280, .inl (fun _ => 0))), (q_4, .inl (ty 2, 2, .inl (fun _ => 0))), (q_5, .inl (ty 0, 28, .inl (fun _ => 0))), (q_6, .inl (ty 3, 128, .inl f_71))]) hp hd hs (by rw [← hf_71]; rfl) ?_
  clear hp hd hs hP hD hS
  intro hP hD hS
  clear hf_71
  refine lv_dup hx hb dX10_init_435 rfl ?_
  refine lv_bipush (v := 65) hx hb dX10_init_436 (by decide) ?_
  refine lv_bipush (v := 32) hx hb dX10_init_438 (by decide) ?_
  refine va_bast hx hb hK hP hD hS 6 3 rfl rfl (by simp only [vp_in]; decide) dX10_init_440 (fun H locs hp hd hs => ?_)
  obtain ⟨f_72, hf_72⟩ : ∃ f : Nat → Int32, upd f_71 65 32 = f := ⟨_, rfl⟩
  refine kz_re (w2 := [(h0, .inr (10, [.int 0, .ref q_1, .ref q_2, .ref q_3, .ref q_4, .ref q_5, .int 0, .null, .int 0, .int 0, .int 0, .null, .null, .int 0, .int 0, .null, .null, .null, .int 0, .int 0, .int 0, .int 0, .int 0, .int 0, .int 0, .int 0, .null, .int 0, .int 0, .null, .null, .null, .int 0, .null, .null, .null, .null, .int 0, .int 0, .null, .null, .null, .null, .null, .null, .null, .int 0, .int 0, .int 0, .int 0, .int 0, .int 0, .long 0, .null, .int 0, .int 0])), (q_1, .inl (ty 0, 7, .inl (fun _ => 0))), (q_2, .inl (ty 0, 5640, .inl (fun _ => 0))), (q_3, .inl (ty 0, 11280, .inl (fun _ => 0))), (q_4, .inl (ty 2, 2, .inl (fun _ => 0))), (q_5, .inl (ty 0, 28, .inl (fun _ => 0))), (q_6, .inl (ty 3, 128, .inl f_72))]) hp hd hs (by rw [← hf_72]; rfl) ?_
  clear hp hd hs hP hD hS
  intro hP hD hS
  clear hf_72
  refine lv_dup hx hb dX10_init_441 rfl ?_
  refine lv_bipush (v := 66) hx hb dX10_init_442 (by decide) ?_
  refine lv_bipush (v := 104) hx hb dX10_init_444 (by decide) ?_
  refine va_bast hx hb hK hP hD hS 6 3 rfl rfl (by simp only [vp_in]; decide) dX10_init_446 (fun H locs hp hd hs => ?_)
  obtain ⟨f_73, hf_73⟩ : ∃ f : Nat → Int32, upd f_72 66 104 = f := ⟨_, rfl⟩
  refine kz_re (w2 := [(h0, .inr (10, [.int 0, .ref q_1, .ref q_2, .ref q_3, .ref q_4, .ref q_5, .int 0, .null, .int 0, .int 0, .int 0, .null, .null, .int 0, .int 0, .null, .null, .null, .int 0, .int 0, .int 0, .int 0, .int 0, .int 0, .int 0, .int 0, .null, .int 0, .int 0, .null, .null, .null, .int 0, .null, .null, .null, .null, .int 0, .int 0, .null, .null, .null, .null, .null, .null, .null, .int 0, .int 0, .int 0, .int 0, .int 0, .int 0, .long 0, .null, .int 0, .int 0])), (q_1, .inl (ty 0, 7, .inl (fun _ => 0))), (q_2, .inl (ty 0, 5640, .inl (fun _ => 0))), (q_3, .inl (ty 0, 11280, .inl (fun _ => 0))), (q_4, .inl (ty 2, 2, .inl (fun _ => 0))), (q_5, .inl (ty 0, 28, .inl (fun _ => 0))), (q_6, .inl (ty 3, 128, .inl f_73))]) hp hd hs (by rw [← hf_73]; rfl) ?_
  clear hp hd hs hP hD hS
  intro hP hD hS
  clear hf_73
  refine lv_dup hx hb dX10_init_447 rfl ?_
  refine lv_bipush (v := 67) hx hb dX10_init_448 (by decide) ?_
  refine lv_bipush (v := 101) hx hb dX10_init_450 (by decide) ?_
  refine va_bast hx hb hK hP hD hS 6 3 rfl rfl (by simp only [vp_in]; decide) dX10_init_452 (fun H locs hp hd hs => ?_)
  obtain ⟨f_74, hf_74⟩ : ∃ f : Nat → Int32, upd f_73 67 101 = f := ⟨_, rfl⟩
  refine kz_re (w2 := [(h0, .inr (10, [.int 0, .ref q_1, .ref q_2, .ref q_3, .ref q_4, .ref q_5, .int 0, .null, .int 0, .int 0, .int 0, .null, .null, .int 0, .int 0, .null, .null, .null, .int 0, .int 0, .int 0, .int 0, .int 0, .int 0, .int 0, .int 0, .null, .int 0, .int 0, .null, .null, .null, .int 0, .null, .null, .null, .null, .int 0, .int 0, .null, .null, .null, .null, .null, .null, .null, .int 0, .int 0, .int 0, .int 0, .int 0, .int 0, .long 0, .null, .int 0, .int 0])), (q_1, .inl (ty 0, 7, .inl (fun _ => 0))), (q_2, .inl (ty 0, 5640, .inl (fun _ => 0))), (q_3, .inl (ty 0, 11280, .inl (fun _ => 0))), (q_4, .inl (ty 2, 2, .inl (fun _ => 0))), (q_5, .inl (ty 0, 28, .inl (fun _ => 0))), (q_6, .inl (ty 3, 128, .inl f_74))]) hp hd hs (by rw [← hf_74]; rfl) ?_
  clear hp hd hs hP hD hS
  intro hP hD hS
  clear hf_74
  refine lv_dup hx hb dX10_init_453 rfl ?_
  refine lv_bipush (v := 68) hx hb dX10_init_454 (by decide) ?_
  refine lv_bipush (v := 97) hx hb dX10_init_456 (by decide) ?_
  refine va_bast hx hb hK hP hD hS 6 3 rfl rfl (by simp only [vp_in]; decide) dX10_init_458 (fun H locs hp hd hs => ?_)
  obtain ⟨f_75, hf_75⟩ : ∃ f : Nat → Int32, upd f_74 68 97 = f := ⟨_, rfl⟩
  refine kz_re (w2 := [(h0, .inr (10, [.int 0, .ref q_1, .ref q_2, .ref q_3, .ref q_4, .ref q_5, .int 0, .null, .int 0, .int 0, .int 0, .null, .null, .int 0, .int 0, .null, .null, .null, .int 0, .int 0, .int 0, .int 0, .int 0, .int 0, .int 0, .int 0, .null, .int 0, .int 0, .null, .null, .null, .int 0, .null, .null, .null, .null, .int 0, .int 0, .null, .null, .null, .null, .null, .null, .null, .int 0, .int 0, .int 0, .int 0, .int 0, .int 0, .long 0, .null, .int 0, .int 0])), (q_1, .inl (ty 0, 7, .inl (fun _ => 0))), (q_2, .inl (ty 0, 5640, .inl (fun _ => 0))), (q_3, .inl (ty 0, 11280, .inl (fun _ => 0))), (q_4, .inl (ty 2, 2, .inl (fun _ => 0))), (q_5, .inl (ty 0, 28, .inl (fun _ => 0))), (q_6, .inl (ty 3, 128, .inl f_75))]) hp hd hs (by rw [← hf_75]; rfl) ?_
  clear hp hd hs hP hD hS
  intro hP hD hS
  clear hf_75
  refine lv_dup hx hb dX10_init_459 rfl ?_
  refine lv_bipush (v := 69) hx hb dX10_init_460 (by decide) ?_
  refine lv_bipush (v := 100) hx hb dX10_init_462 (by decide) ?_
  refine va_bast hx hb hK hP hD hS 6 3 rfl rfl (by simp only [vp_in]; decide) dX10_init_464 (fun H locs hp hd hs => ?_)
  obtain ⟨f_76, hf_76⟩ : ∃ f : Nat → Int32, upd f_75 69 100 = f := ⟨_, rfl⟩
  refine kz_re (w2 := [(h0, .inr (10, [.int 0, .ref q_1, .ref q_2, .ref q_3, .ref q_4, .ref q_5, .int 0, .null, .int 0, .int 0, .int 0, .null, .null, .int 0, .int 0, .null, .null, .null, .int 0, .int 0, .int 0, .int 0, .int 0, .int 0, .int 0, .int 0, .null, .int 0, .int 0, .null, .null, .null, .int 0, .null, .null, .null, .null, .int 0, .int 0, .null, .null, .null, .null, .null, .null, .null, .int 0, .int 0, .int 0, .int 0, .int 0, .int 0, .long 0, .null, .int 0, .int 0])), (q_1, .inl (ty 0, 7, .inl (fun _ => 0))), (q_2, .inl (ty 0, 5640, .inl (fun _ => 0))), (q_3, .inl (ty 0, 11280, .inl (fun _ => 0))), (q_4, .inl (ty 2, 2, .inl (fun _ => 0))), (q_5, .inl (ty 0, 28, .inl (fun _ => 0))), (q_6, .inl (ty 3, 128, .inl f_76))]) hp hd hs (by rw [← hf_76]; rfl) ?_
  clear hp hd hs hP hD hS
  intro hP hD hS
  clear hf_76
  refine lv_dup hx hb dX10_init_465 rfl ?_
  refine lv_bipush (v := 70) hx hb dX10_init_466 (by decide) ?_
  refine lv_bipush (v := 32) hx hb dX10_init_468 (by decide) ?_
  refine va_bast hx hb hK hP hD hS 6 3 rfl rfl (by simp only [vp_in]; decide) dX10_init_470 (fun H locs hp hd hs => ?_)
  obtain ⟨f_77, hf_77⟩ : ∃ f : Nat → Int32, upd f_76 70 32 = f := ⟨_, rfl⟩
  refine kz_re (w2 := [(h0, .inr (10, [.int 0, .ref q_1, .ref q_2, .ref q_3, .ref q_4, .ref q_5, .int 0, .null, .int 0, .int 0, .int 0, .null, .null, .int 0, .int 0, .null, .null, .null, .int 0, .int 0, .int 0, .int 0, .int 0, .int 0, .int 0, .int 0, .null, .int 0, .int 0, .null, .null, .null, .int 0, .null, .null, .null, .null, .int 0, .int 0, .null, .null, .null, .null, .null, .null, .null, .int 0, .int 0, .int 0, .int 0, .int 0, .int 0, .long 0, .null, .int 0, .int 0])), (q_1, .inl (ty 0, 7, .inl (fun _ => 0))), (q_2, .inl (ty 0, 5640, .inl (fun _ => 0))), (q_3, .inl (ty 0, 11280, .inl (fun _ => 0))), (q_4, .inl (ty 2, 2, .inl (fun _ => 0))), (q_5, .inl (ty 0, 28, .inl (fun _ => 0))), (q_6, .inl (ty 3, 128, .inl f_77))]) hp hd hs (by rw [← hf_77]; rfl) ?_
  clear hp hd hs hP hD hS
  intro hP hD hS
  clear hf_77
  refine lv_dup hx hb dX10_init_471 rfl ?_
  refine lv_bipush (v := 71) hx hb dX10_init_472 (by decide) ?_
  refine lv_bipush (v := 121) hx hb dX10_init_474 (by decide) ?_
  refine va_bast hx hb hK hP hD hS 6 3 rfl rfl (by simp only [vp_in]; decide) dX10_init_476 (fun H locs hp hd hs => ?_)
  obtain ⟨f_78, hf_78⟩ : ∃ f : Nat → Int32, upd f_77 71 121 = f := ⟨_, rfl⟩
  refine kz_re (w2 := [(h0, .inr (10, [.int 0, .ref q_1, .ref q_2, .ref q_3, .ref q_4, .ref q_5, .int 0, .null, .int 0, .int 0, .int 0, .null, .null, .int 0, .int 0, .null, .null, .null, .int 0, .int 0, .int 0, .int 0, .int 0, .int 0, .int 0, .int 0, .null, .int 0, .int 0, .null, .null, .null, .int 0, .null, .null, .null, .null, .int 0, .int 0, .null, .null, .null, .null, .null, .null, .null, .int 0, .int 0, .int 0, .int 0, .int 0, .int 0, .long 0, .null, .int 0, .int 0])), (q_1, .inl (ty 0, 7, .inl (fun _ => 0))), (q_2, .inl (ty 0, 5640, .inl (fun _ => 0))), (q_3, .inl (ty 0, 11280, .inl (fun _ => 0))), (q_4, .inl (ty 2, 2, .inl (fun _ => 0))), (q_5, .inl (ty 0, 28, .inl (fun _ => 0))), (q_6, .inl (ty 3, 128, .inl f_78))]) hp hd hs (by rw [← hf_78]; rfl) ?_
  clear hp hd hs hP hD hS
  intro hP hD hS
  clear hf_78
  refine lv_dup hx hb dX10_init_477 rfl ?_
  refine lv_bipush (v := 72) hx hb dX10_init_478 (by decide) ?_
  refine lv_bipush (v := 101) hx hb dX10_init_480 (by decide) ?_
  refine va_bast hx hb hK hP hD hS 6 3 rfl rfl (by simp only [vp_in]; decide) dX10_init_482 (fun H locs hp hd hs => ?_)
  obtain ⟨f_79, hf_79⟩ : ∃ f : Nat → Int32, upd f_78 72 101 = f := ⟨_, rfl⟩
  refine kz_re (w2 := [(h0, .inr (10, [.int 0, .ref q_1, .ref q_2, .ref q_3, .ref q_4, .ref q_5, .int 0, .null, .int 0, .int 0, .int 0, .null, .null, .int 0, .int 0, .null, .null, .null, .int 0, .int 0, .int 0, .int 0, .int 0, .int 0, .int 0, .int 0, .null, .int 0, .int 0, .null, .null, .null, .int 0, .null, .null, .null, .null, .int 0, .int 0, .null, .null, .null, .null, .null, .null, .null, .int 0, .int 0, .int 0, .int 0, .int 0, .int 0, .long 0, .null, .int 0, .int 0])), (q_1, .inl (ty 0, 7, .inl (fun _ => 0))), (q_2, .inl (ty 0, 5640, .inl (fun _ => 0))), (q_3, .inl (ty 0, 11280, .inl (fun _ => 0))), (q_4, .inl (ty 2, 2, .inl (fun _ => 0))), (q_5, .inl (ty 0, 28, .inl (fun _ => 0))), (q_6, .inl (ty 3, 128, .inl f_79))]) hp hd hs (by rw [← hf_79]; rfl) ?_
  clear hp hd hs hP hD hS
  intro hP hD hS
  clear hf_79
  refine lv_dup hx hb dX10_init_483 rfl ?_
  refine lv_bipush (v := 73) hx hb dX10_init_484 (by decide) ?_
  refine lv_bipush (v := 97) hx hb dX10_init_486 (by decide) ?_
  refine va_bast hx hb hK hP hD hS 6 3 rfl rfl (by simp only [vp_in]; decide) dX10_init_488 (fun H locs hp hd hs => ?_)
  obtain ⟨f_80, hf_80⟩ : ∃ f : Nat → Int32, upd f_79 73 97 = f := ⟨_, rfl⟩
  refine kz_re (w2 := [(h0, .inr (10, [.int 0, .ref q_1, .ref q_2, .ref q_3, .ref q_4, .ref q_5, .int 0, .null, .int 0, .int 0, .int 0, .null, .null, .int 0, .int 0, .null, .null, .null, .int 0, .int 0, .int 0, .int 0, .int 0, .int 0, .int 0, .int 0, .null, .int 0, .int 0, .null, .null, .null, .int 0, .null, .null, .null, .null, .int 0, .int 0, .null, .null, .null, .null, .null, .null, .null, .int 0, .int 0, .int 0, .int 0, .int 0, .int 0, .long 0, .null, .int 0, .int 0])), (q_1, .inl (ty 0, 7, .inl (fun _ => 0))), (q_2, .inl (ty 0, 5640, .inl (fun _ => 0))), (q_3, .inl (ty 0, 11280, .inl (fun _ => 0))), (q_4, .inl (ty 2, 2, .inl (fun _ => 0))), (q_5, .inl (ty 0, 28, .inl (fun _ => 0))), (q_6, .inl (ty 3, 128, .inl f_80))]) hp hd hs (by rw [← hf_80]; rfl) ?_
  clear hp hd hs hP hD hS
  intro hP hD hS
  clear hf_80
  refine lv_dup hx hb dX10_init_489 rfl ?_
  refine lv_bipush (v := 74) hx hb dX10_init_490 (by decide) ?_
  refine lv_bipush (v := 114) hx hb dX10_init_492 (by decide) ?_
  refine va_bast hx hb hK hP hD hS 6 3 rfl rfl (by simp only [vp_in]; decide) dX10_init_494 (fun H locs hp hd hs => ?_)
  obtain ⟨f_81, hf_81⟩ : ∃ f : Nat → Int32, upd f_80 74 114 = f := ⟨_, rfl⟩
  refine kz_re (w2 := [(h0, .inr (10, [.int 0, .ref q_1, .ref q_2, .ref q_3, .ref q_4, .ref q_5, .int 0, .null, .int 0, .int 0, .int 0, .null, .null, .int 0, .int 0, .null, .null, .null, .int 0, .int 0, .int 0, .int 0, .int 0, .int 0, .int 0, .int 0, .null, .int 0, .int 0, .null, .null, .null, .int 0, .null, .null, .null, .null, .int 0, .int 0, .null, .null, .null, .null, .null, .null, .null, .int 0, .int 0, .int 0, .int 0, .int 0, .int 0, .long 0, .null, .int 0, .int 0])), (q_1, .inl (ty 0, 7, .inl (fun _ => 0))), (q_2, .inl (ty 0, 5640, .inl (fun _ => 0))), (q_3, .inl (ty 0, 11280, .inl (fun _ => 0))), (q_4, .inl (ty 2, 2, .inl (fun _ => 0))), (q_5, .inl (ty 0, 28, .inl (fun _ => 0))), (q_6, .inl (ty 3, 128, .inl f_81))]) hp hd hs (by rw [← hf_81]; rfl) ?_
  clear hp hd hs hP hD hS
  intro hP hD hS
  clear hf_81
  refine lv_dup hx hb dX10_init_495 rfl ?_
  refine lv_bipush (v := 75) hx hb dX10_init_496 (by decide) ?_
  refine lv_bipush (v := 32) hx hb dX10_init_498 (by decide) ?_
  refine va_bast hx hb hK hP hD hS 6 3 rfl rfl (by simp only [vp_in]; decide) dX10_init_500 (fun H locs hp hd hs => ?_)
  obtain ⟨f_82, hf_82⟩ : ∃ f : Nat → Int32, upd f_81 75 32 = f := ⟨_, rfl⟩
  refine kz_re (w2 := [(h0, .inr (10, [.int 0, .ref q_1, .ref q_2, .ref q_3, .ref q_4, .ref q_5, .int 0, .null, .int 0, .int 0, .int 0, .null, .null, .int 0, .int 0, .null, .null, .null, .int 0, .int 0, .int 0, .int 0, .int 0, .int 0, .int 0, .int 0, .null, .int 0, .int 0, .null, .null, .null, .int 0, .null, .null, .null, .null, .int 0, .int 0, .null, .null, .null, .null, .null, .null, .null, .int 0, .int 0, .int 0, .int 0, .int 0, .int 0, .long 0, .null, .int 0, .int 0])), (q_1, .inl (ty 0, 7, .inl (fun _ => 0))), (q_2, .inl (ty 0, 5640, .inl (fun _ => 0))), (q_3, .inl (ty 0, 11280, .inl (fun _ => 0))), (q_4, .inl (ty 2, 2, .inl (fun _ => 0))), (q_5, .inl (ty 0, 28, .inl (fun _ => 0))), (q_6, .inl (ty 3, 128, .inl f_82))]) hp hd hs (by rw [← hf_82]; rfl) ?_
  clear hp hd hs hP hD hS
  intro hP hD hS
  clear hf_82
  refine lv_dup hx hb dX10_init_501 rfl ?_
  refine lv_bipush (v := 76) hx hb dX10_init_502 (by decide) ?_
  refine lv_bipush (v := 100) hx hb dX10_init_504 (by decide) ?_
  refine va_bast hx hb hK hP hD hS 6 3 rfl rfl (by simp only [vp_in]; decide) dX10_init_506 (fun H locs hp hd hs => ?_)
  obtain ⟨f_83, hf_83⟩ : ∃ f : Nat → Int32, upd f_82 76 100 = f := ⟨_, rfl⟩
  refine kz_re (w2 := [(h0, .inr (10, [.int 0, .ref q_1, .ref q_2, .ref q_3, .ref q_4, .ref q_5, .int 0, .null, .int 0, .int 0, .int 0, .null, .null, .int 0, .int 0, .null, .null, .null, .int 0, .int 0, .int 0, .int 0, .int 0, .int 0, .int 0, .int 0, .null, .int 0, .int 0, .null, .null, .null, .int 0, .null, .null, .null, .null, .int 0, .int 0, .null, .null, .null, .null, .null, .null, .null, .int 0, .int 0, .int 0, .int 0, .int 0, .int 0, .long 0, .null, .int 0, .int 0])), (q_1, .inl (ty 0, 7, .inl (fun _ => 0))), (q_2, .inl (ty 0, 5640, .inl (fun _ => 0))), (q_3, .inl (ty 0, 11280, .inl (fun _ => 0))), (q_4, .inl (ty 2, 2, .inl (fun _ => 0))), (q_5, .inl (ty 0, 28, .inl (fun _ => 0))), (q_6, .inl (ty 3, 128, .inl f_83))]) hp hd hs (by rw [← hf_83]; rfl) ?_
  clear hp hd hs hP hD hS
  intro hP hD hS
  clear hf_83
  refine lv_dup hx hb dX10_init_507 rfl ?_
  refine lv_bipush (v := 77) hx hb dX10_init_508 (by decide) ?_
  refine lv_bipush (v := 111) hx hb dX10_init_510 (by decide) ?_
  refine va_bast hx hb hK hP hD hS 6 3 rfl rfl (by simp only [vp_in]; decide) dX10_init_512 (fun H locs hp hd hs => ?_)
  obtain ⟨f_84, hf_84⟩ : ∃ f : Nat → Int32, upd f_83 77 111 = f := ⟨_, rfl⟩
  refine kz_re (w2 := [(h0, .inr (10, [.int 0, .ref q_1, .ref q_2, .ref q_3, .ref q_4, .ref q_5, .int 0, .null, .int 0, .int 0, .int 0, .null, .null, .int 0, .int 0, .null, .null, .null, .int 0, .int 0, .int 0, .int 0, .int 0, .int 0, .int 0, .int 0, .null, .int 0, .int 0, .null, .null, .null, .int 0, .null, .null, .null, .null, .int 0, .int 0, .null, .null, .null, .null, .null, .null, .null, .int 0, .int 0, .int 0, .int 0, .int 0, .int 0, .long 0, .null, .int 0, .int 0])), (q_1, .inl (ty 0, 7, .inl (fun _ => 0))), (q_2, .inl (ty 0, 5640, .inl (fun _ => 0))), (q_3, .inl (ty 0, 11280, .inl (fun _ => 0))), (q_4, .inl (ty 2, 2, .inl (fun _ => 0))), (q_5, .inl (ty 0, 28, .inl (fun _ => 0))), (q_6, .inl (ty 3, 128, .inl f_84))]) hp hd hs (by rw [← hf_84]; rfl) ?_
  clear hp hd hs hP hD hS
  intro hP hD hS
  clear hf_84
  refine lv_dup hx hb dX10_init_513 rfl ?_
  refine lv_bipush (v := 78) hx hb dX10_init_514 (by decide) ?_
  refine lv_bipush (v := 110) hx hb dX10_init_516 (by decide) ?_
  refine va_bast hx hb hK hP hD hS 6 3 rfl rfl (by simp only [vp_in]; decide) dX10_init_518 (fun H locs hp hd hs => ?_)
  obtain ⟨f_85, hf_85⟩ : ∃ f : Nat → Int32, upd f_84 78 110 = f := ⟨_, rfl⟩
  refine kz_re (w2 := [(h0, .inr (10, [.int 0, .ref q_1, .ref q_2, .ref q_3, .ref q_4, .ref q_5, .int 0, .null, .int 0, .int 0, .int 0, .null, .null, .int 0, .int 0, .null, .null, .null, .int 0, .int 0, .int 0, .int 0, .int 0, .int 0, .int 0, .int 0, .null, .int 0, .int 0, .null, .null, .null, .int 0, .null, .null, .null, .null, .int 0, .int 0, .null, .null, .null, .null, .null, .null, .null, .int 0, .int 0, .int 0, .int 0, .int 0, .int 0, .long 0, .null, .int 0, .int 0])), (q_1, .inl (ty 0, 7, .inl (fun _ => 0))), (q_2, .inl (ty 0, 5640, .inl (fun _ => 0))), (q_3, .inl (ty 0, 11280, .inl (fun _ => 0))), (q_4, .inl (ty 2, 2, .inl (fun _ => 0))), (q_5, .inl (ty 0, 28, .inl (fun _ => 0))), (q_6, .inl (ty 3, 128, .inl f_85))]) hp hd hs (by rw [← hf_85]; rfl) ?_
  clear hp hd hs hP hD hS
  intro hP hD hS
  clear hf_85
  refine lv_dup hx hb dX10_init_519 rfl ?_
  refine lv_bipush (v := 79) hx hb dX10_init_520 (by decide) ?_
  refine lv_bipush (v := 101) hx hb dX10_init_522 (by decide) ?_
  refine va_bast hx hb hK hP hD hS 6 3 rfl rfl (by simp only [vp_in]; decide) dX10_init_524 (fun H locs hp hd hs => ?_)
  obtain ⟨f_86, hf_86⟩ : ∃ f : Nat → Int32, upd f_85 79 101 = f := ⟨_, rfl⟩
  refine kz_re (w2 := [(h0, .inr (10, [.int 0, .ref q_1, .ref q_2, .ref q_3, .ref q_4, .ref q_5, .int 0, .null, .int 0, .int 0, .int 0, .null, .null, .int 0, .int 0, .null, .null, .null, .int 0, .int 0, .int 0, .int 0, .int 0, .int 0, .int 0, .int 0, .null, .int 0, .int 0, .null, .null, .null, .int 0, .null, .null, .null, .null, .int 0, .int 0, .null, .null, .null, .null, .null, .null, .null, .int 0, .int 0, .int 0, .int 0, .int 0, .int 0, .long 0, .null, .int 0, .int 0])), (q_1, .inl (ty 0, 7, .inl (fun _ => 0))), (q_2, .inl (ty 0, 5640, .inl (fun _ => 0))), (q_3, .inl (ty 0, 11280, .inl (fun _ => 0))), (q_4, .inl (ty 2, 2, .inl (fun _ => 0))), (q_5, .inl (ty 0, 28, .inl (fun _ => 0))), (q_6, .inl (ty 3, 128, .inl f_86))]) hp hd hs (by rw [← hf_86]; rfl) ?_
  clear hp hd hs hP hD hS
  intro hP hD hS
  clear hf_86
  refine lv_dup hx hb dX10_init_525 rfl ?_
  refine lv_bipush (v := 80) hx hb dX10_init_526 (by decide) ?_
  refine lv_bipush (v := 32) hx hb dX10_init_528 (by decide) ?_
  refine va_bast hx hb hK hP hD hS 6 3 rfl rfl (by simp only [vp_in]; decide) dX10_init_530 (fun H locs hp hd hs => ?_)
  obtain ⟨f_87, hf_87⟩ : ∃ f : Nat → Int32, upd f_86 80 32 = f := ⟨_, rfl⟩
  refine kz_re (w2 := [(h0, .inr (10, [.int 0, .ref q_1, .ref q_2, .ref q_3, .ref q_4, .ref q_5, .int 0, .null, .int 0, .int 0, .int 0, .null, .null, .int 0, .int 0, .null, .null, .null, .int 0, .int 0, .int 0, .int 0, .int 0, .int 0, .int 0, .int 0, .null, .int 0, .int 0, .null, .null, .null, .int 0, .null, .null, .null, .null, .int 0, .int 0, .null, .null, .null, .null, .null, .null, .null, .int 0, .int 0, .int 0, .int 0, .int 0, .int 0, .long 0, .null, .int 0, .int 0])), (q_1, .inl (ty 0, 7, .inl (fun _ => 0))), (q_2, .inl (ty 0, 5640, .inl (fun _ => 0))), (q_3, .inl (ty 0, 11280, .inl (fun _ => 0))), (q_4, .inl (ty 2, 2, .inl (fun _ => 0))), (q_5, .inl (ty 0, 28, .inl (fun _ => 0))), (q_6, .inl (ty 3, 128, .inl f_87))]) hp hd hs (by rw [← hf_87]; rfl) ?_
  clear hp hd hs hP hD hS
  intro hP hD hS
  clear hf_87
  refine lv_dup hx hb dX10_init_531 rfl ?_
  refine lv_bipush (v := 81) hx hb dX10_init_532 (by decide) ?_
  refine lv_bipush (v := 108) hx hb dX10_init_534 (by decide) ?_
  refine va_bast hx hb hK hP hD hS 6 3 rfl rfl (by simp only [vp_in]; decide) dX10_init_536 (fun H locs hp hd hs => ?_)
  obtain ⟨f_88, hf_88⟩ : ∃ f : Nat → Int32, upd f_87 81 108 = f := ⟨_, rfl⟩
  refine kz_re (w2 := [(h0, .inr (10, [.int 0, .ref q_1, .ref q_2, .ref q_3, .ref q_4, .ref q_5, .int 0, .null, .int 0, .int 0, .int 0, .null, .null, .int 0, .int 0, .null, .null, .null, .int 0, .int 0, .int 0, .int 0, .int 0, .int 0, .int 0, .int 0, .null, .int 0, .int 0, .null, .null, .null, .int 0, .null, .null, .null, .null, .int 0, .int 0, .null, .null, .null, .null, .null, .null, .null, .int 0, .int 0, .int 0, .int 0, .int 0, .int 0, .long 0, .null, .int 0, .int 0])), (q_1, .inl (ty 0, 7, .inl (fun _ => 0))), (q_2, .inl (ty 0, 5640, .inl (fun _ => 0))), (q_3, .inl (ty 0, 11280, .inl (fun _ => 0))), (q_4, .inl (ty 2, 2, .inl (fun _ => 0))), (q_5, .inl (ty 0, 28, .inl (fun _ => 0))), (q_6, .inl (ty 3, 128, .inl f_88))]) hp hd hs (by rw [← hf_88]; rfl) ?_
  clear hp hd hs hP hD hS
  intro hP hD hS
  clear hf_88
  refine lv_dup hx hb dX10_init_537 rfl ?_
  refine lv_bipush (v := 82) hx hb dX10_init_538 (by decide) ?_
  refine lv_bipush (v := 97) hx hb dX10_init_540 (by decide) ?_
  refine va_bast hx hb hK hP hD hS 6 3 rfl rfl (by simp only [vp_in]; decide) dX10_init_542 (fun H locs hp hd hs => ?_)
  obtain ⟨f_89, hf_89⟩ : ∃ f : Nat → Int32, upd f_88 82 97 = f := ⟨_, rfl⟩
  refine kz_re (w2 := [(h0, .inr (10, [.int 0, .ref q_1, .ref q_2, .ref q_3, .ref q_4, .ref q_5, .int 0, .null, .int 0, .int 0, .int 0, .null, .null, .int 0, .int 0, .null, .null, .null, .int 0, .int 0, .int 0, .int 0, .int 0, .int 0, .int 0, .int 0, .null, .int 0, .int 0, .null, .null, .null, .int 0, .null, .null, .null, .null, .int 0, .int 0, .null, .null, .null, .null, .null, .null, .null, .int 0, .int 0, .int 0, .int 0, .int 0, .int 0, .long 0, .null, .int 0, .int 0])), (q_1, .inl (ty 0, 7, .inl (fun _ => 0))), (q_2, .inl (ty 0, 5640, .inl (fun _ => 0))), (q_3, .inl (ty 0, 11280, .inl (fun _ => 0))), (q_4, .inl (ty 2, 2, .inl (fun _ => 0))), (q_5, .inl (ty 0, 28, .inl (fun _ => 0))), (q_6, .inl (ty 3, 128, .inl f_89))]) hp hd hs (by rw [← hf_89]; rfl) ?_
  clear hp hd hs hP hD hS
  intro hP hD hS
  clear hf_89
  refine lv_dup hx hb dX10_init_543 rfl ?_
  refine lv_bipush (v := 83) hx hb dX10_init_544 (by decide) ?_
  refine lv_bipush (v := 116) hx hb dX10_init_546 (by decide) ?_
  refine va_bast hx hb hK hP hD hS 6 3 rfl rfl (by simp only [vp_in]; decide) dX10_init_548 (fun H locs hp hd hs => ?_)
  obtain ⟨f_90, hf_90⟩ : ∃ f : Nat → Int32, upd f_89 83 116 = f := ⟨_, rfl⟩
  refine kz_re (w2 := [(h0, .inr (10, [.int 0, .ref q_1, .ref q_2, .ref q_3, .ref q_4, .ref q_5, .int 0, .null, .int 0, .int 0, .int 0, .null, .null, .int 0, .int 0, .null, .null, .null, .int 0, .int 0, .int 0, .int 0, .int 0, .int 0, .int 0, .int 0, .null, .int 0, .int 0, .null, .null, .null, .int 0, .null, .null, .null, .null, .int 0, .int 0, .null, .null, .null, .null, .null, .null, .null, .int 0, .int 0, .int 0, .int 0, .int 0, .int 0, .long 0, .null, .int 0, .int 0])), (q_1, .inl (ty 0, 7, .inl (fun _ => 0))), (q_2, .inl (ty 0, 5640, .inl (fun _ => 0))), (q_3, .inl (ty 0, 11280, .inl (fun _ => 0))), (q_4, .inl (ty 2, 2, .inl (fun _ => 0))), (q_5, .inl (ty 0, 28, .inl (fun _ => 0))), (q_6, .inl (ty 3, 128, .inl f_90))]) hp hd hs (by rw [← hf_90]; rfl) ?_
  clear hp hd hs hP hD hS
  intro hP hD hS
  clear hf_90
  refine lv_dup hx hb dX10_init_549 rfl ?_
  refine lv_bipush (v := 84) hx hb dX10_init_550 (by decide) ?_
  refine lv_bipush (v := 101) hx hb dX10_init_552 (by decide) ?_
  refine va_bast hx hb hK hP hD hS 6 3 rfl rfl (by simp only [vp_in]; decide) dX10_init_554 (fun H locs hp hd hs => ?_)
  obtain ⟨f_91, hf_91⟩ : ∃ f : Nat → Int32, upd f_90 84 101 = f := ⟨_, rfl⟩
  refine kz_re (w2 := [(h0, .inr (10, [.int 0, .ref q_1, .ref q_2, .ref q_3, .ref q_4, .ref q_5, .int 0, .null, .int 0, .int 0, .int 0, .null, .null, .int 0, .int 0, .null, .null, .null, .int 0, .int 0, .int 0, .int 0, .int 0, .int 0, .int 0, .int 0, .null, .int 0, .int 0, .null, .null, .null, .int 0, .null, .null, .null, .null, .int 0, .int 0, .null, .null, .null, .null, .null, .null, .null, .int 0, .int 0, .int 0, .int 0, .int 0, .int 0, .long 0, .null, .int 0, .int 0])), (q_1, .inl (ty 0, 7, .inl (fun _ => 0))), (q_2, .inl (ty 0, 5640, .inl (fun _ => 0))), (q_3, .inl (ty 0, 11280, .inl (fun _ => 0))), (q_4, .inl (ty 2, 2, .inl (fun _ => 0))), (q_5, .inl (ty 0, 28, .inl (fun _ => 0))), (q_6, .inl (ty 3, 128, .inl f_91))]) hp hd hs (by rw [← hf_91]; rfl) ?_
  clear hp hd hs hP hD hS
  intro hP hD hS
  clear hf_91
  refine lv_dup hx hb dX10_init_555 rfl ?_
  refine lv_bipush (v := 85) hx hb dX10_init_556 (by decide) ?_
  refine lv_bipush (v := 115) hx hb dX10_init_558 (by decide) ?_
  refine va_bast hx hb hK hP hD hS 6 3 rfl rfl (by simp only [vp_in]; decide) dX10_init_560 (fun H locs hp hd hs => ?_)
  obtain ⟨f_92, hf_92⟩ : ∃ f : Nat → Int32, upd f_91 85 115 = f := ⟨_, rfl⟩
  refine kz_re (w2 := [(h0, .inr (10, [.int 0, .ref q_1, .ref q_2, .ref q_3, .ref q_4, .ref q_5, .int 0, .null, .int 0, .int 0, .int 0, .null, .null, .int 0, .int 0, .null, .null, .null, .int 0, .int 0, .int 0, .int 0, .int 0, .int 0, .int 0, .int 0, .null, .int 0, .int 0, .null, .null, .null, .int 0, .null, .null, .null, .null, .int 0, .int 0, .null, .null, .null, .null, .null, .null, .null, .int 0, .int 0, .int 0, .int 0, .int 0, .int 0, .long 0, .null, .int 0, .int 0])), (q_1, .inl (ty 0, 7, .inl (fun _ => 0))), (q_2, .inl (ty 0, 5640, .inl (fun _ => 0))), (q_3, .inl (ty 0, 11280, .inl (fun _ => 0))), (q_4, .inl (ty 2, 2, .inl (fun _ => 0))), (q_5, .inl (ty 0, 28, .inl (fun _ => 0))), (q_6, .inl (ty 3, 128, .inl f_92))]) hp hd hs (by rw [← hf_92]; rfl) ?_
  clear hp hd hs hP hD hS
  intro hP hD hS
  clear hf_92
  refine lv_dup hx hb dX10_init_561 rfl ?_
  refine lv_bipush (v := 86) hx hb dX10_init_562 (by decide) ?_
  refine lv_bipush (v := 116) hx hb dX10_init_564 (by decide) ?_
  refine va_bast hx hb hK hP hD hS 6 3 rfl rfl (by simp only [vp_in]; decide) dX10_init_566 (fun H locs hp hd hs => ?_)
  obtain ⟨f_93, hf_93⟩ : ∃ f : Nat → Int32, upd f_92 86 116 = f := ⟨_, rfl⟩
  refine kz_re (w2 := [(h0, .inr (10, [.int 0, .ref q_1, .ref q_2, .ref q_3, .ref q_4, .ref q_5, .int 0, .null, .int 0, .int 0, .int 0, .null, .null, .int 0, .int 0, .null, .null, .null, .int 0, .int 0, .int 0, .int 0, .int 0, .int 0, .int 0, .int 0, .null, .int 0, .int 0, .null, .null, .null, .int 0, .null, .null, .null, .null, .int 0, .int 0, .null, .null, .null, .null, .null, .null, .null, .int 0, .int 0, .int 0, .int 0, .int 0, .int 0, .long 0, .null, .int 0, .int 0])), (q_1, .inl (ty 0, 7, .inl (fun _ => 0))), (q_2, .inl (ty 0, 5640, .inl (fun _ => 0))), (q_3, .inl (ty 0, 11280, .inl (fun _ => 0))), (q_4, .inl (ty 2, 2, .inl (fun _ => 0))), (q_5, .inl (ty 0, 28, .inl (fun _ => 0))), (q_6, .inl (ty 3, 128, .inl f_93))]) hp hd hs (by rw [← hf_93]; rfl) ?_
  clear hp hd hs hP hD hS
  intro hP hD hS
  clear hf_93
  refine lv_dup hx hb dX10_init_567 rfl ?_
  refine lv_bipush (v := 87) hx hb dX10_init_568 (by decide) ?_
  refine lv_bipush (v := 32) hx hb dX10_init_570 (by decide) ?_
  refine va_bast hx hb hK hP hD hS 6 3 rfl rfl (by simp only [vp_in]; decide) dX10_init_572 (fun H locs hp hd hs => ?_)
  obtain ⟨f_94, hf_94⟩ : ∃ f : Nat → Int32, upd f_93 87 32 = f := ⟨_, rfl⟩
  refine kz_re (w2 := [(h0, .inr (10, [.int 0, .ref q_1, .ref q_2, .ref q_3, .ref q_4, .ref q_5, .int 0, .null, .int 0, .int 0, .int 0, .null, .null, .int 0, .int 0, .null, .null, .null, .int 0, .int 0, .int 0, .int 0, .int 0, .int 0, .int 0, .int 0, .null, .int 0, .int 0, .null, .null, .null, .int 0, .null, .null, .null, .null, .int 0, .int 0, .null, .null, .null, .null, .null, .null, .null, .int 0, .int 0, .int 0, .int 0, .int 0, .int 0, .long 0, .null, .int 0, .int 0])), (q_1, .inl (ty 0, 7, .inl (fun _ => 0))), (q_2, .inl (ty 0, 5640, .inl (fun _ => 0))), (q_3, .inl (ty 0, 11280, .inl (fun _ => 0))), (q_4, .inl (ty 2, 2, .inl (fun _ => 0))), (q_5, .inl (ty 0, 28, .inl (fun _ => 0))), (q_6, .inl (ty 3, 128, .inl f_94))]) hp hd hs (by rw [← hf_94]; rfl) ?_
  clear hp hd hs hP hD hS
  intro hP hD hS
  clear hf_94
  refine lv_dup hx hb dX10_init_573 rfl ?_
  refine lv_bipush (v := 88) hx hb dX10_init_574 (by decide) ?_
  refine lv_bipush (v := 112) hx hb dX10_init_576 (by decide) ?_
  refine va_bast hx hb hK hP hD hS 6 3 rfl rfl (by simp only [vp_in]; decide) dX10_init_578 (fun H locs hp hd hs => ?_)
  obtain ⟨f_95, hf_95⟩ : ∃ f : Nat → Int32, upd f_94 88 112 = f := ⟨_, rfl⟩
  refine kz_re (w2 := [(h0, .inr (10, [.int 0, .ref q_1, .ref q_2, .ref q_3, .ref q_4, .ref q_5, .int 0, .null, .int 0, .int 0, .int 0, .null, .null, .int 0, .int 0, .null, .null, .null, .int 0, .int 0, .int 0, .int 0, .int 0, .int 0, .int 0, .int 0, .null, .int 0, .int 0, .null, .null, .null, .int 0, .null, .null, .null, .null, .int 0, .int 0, .null, .null, .null, .null, .null, .null, .null, .int 0, .int 0, .int 0, .int 0, .int 0, .int 0, .long 0, .null, .int 0, .int 0])), (q_1, .inl (ty 0, 7, .inl (fun _ => 0))), (q_2, .inl (ty 0, 5640, .inl (fun _ => 0))), (q_3, .inl (ty 0, 11280, .inl (fun _ => 0))), (q_4, .inl (ty 2, 2, .inl (fun _ => 0))), (q_5, .inl (ty 0, 28, .inl (fun _ => 0))), (q_6, .inl (ty 3, 128, .inl f_95))]) hp hd hs (by rw [← hf_95]; rfl) ?_
  clear hp hd hs hP hD hS
  intro hP hD hS
  clear hf_95
  refine lv_dup hx hb dX10_init_579 rfl ?_
  refine lv_bipush (v := 89) hx hb dX10_init_580 (by decide) ?_
  refine lv_bipush (v := 97) hx hb dX10_init_582 (by decide) ?_
  refine va_bast hx hb hK hP hD hS 6 3 rfl rfl (by simp only [vp_in]; decide) dX10_init_584 (fun H locs hp hd hs => ?_)
  obtain ⟨f_96, hf_96⟩ : ∃ f : Nat → Int32, upd f_95 89 97 = f := ⟨_, rfl⟩
  refine kz_re (w2 := [(h0, .inr (10, [.int 0, .ref q_1, .ref q_2, .ref q_3, .ref q_4, .ref q_5, .int 0, .null, .int 0, .int 0, .int 0, .null, .null, .int 0, .int 0, .null, .null, .null, .int 0, .int 0, .int 0, .int 0, .int 0, .int 0, .int 0, .int 0, .null, .int 0, .int 0, .null, .null, .null, .int 0, .null, .null, .null, .null, .int 0, .int 0, .null, .null, .null, .null, .null, .null, .null, .int 0, .int 0, .int 0, .int 0, .int 0, .int 0, .long 0, .null, .int 0, .int 0])), (q_1, .inl (ty 0, 7, .inl (fun _ => 0))), (q_2, .inl (ty 0, 5640, .inl (fun _ => 0))), (q_3, .inl (ty 0, 11280, .inl (fun _ => 0))), (q_4, .inl (ty 2, 2, .inl (fun _ => 0))), (q_5, .inl (ty 0, 28, .inl (fun _ => 0))), (q_6, .inl (ty 3, 128, .inl f_96))]) hp hd hs (by rw [← hf_96]; rfl) ?_
  clear hp hd hs hP hD hS
  intro hP hD hS
  clear hf_96
  refine lv_dup hx hb dX10_init_585 rfl ?_
  refine lv_bipush (v := 90) hx hb dX10_init_586 (by decide) ?_
  refine lv_bipush (v := 105) hx hb dX10_init_588 (by decide) ?_
  refine va_bast hx hb hK hP hD hS 6 3 rfl rfl (by simp only [vp_in]; decide) dX10_init_590 (fun H locs hp hd hs => ?_)
  obtain ⟨f_97, hf_97⟩ : ∃ f : Nat → Int32, upd f_96 90 105 = f := ⟨_, rfl⟩
  refine kz_re (w2 := [(h0, .inr (10, [.int 0, .ref q_1, .ref q_2, .ref q_3, .ref q_4, .ref q_5, .int 0, .null, .int 0, .int 0, .int 0, .null, .null, .int 0, .int 0, .null, .null, .null, .int 0, .int 0, .int 0, .int 0, .int 0, .int 0, .int 0, .int 0, .null, .int 0, .int 0, .null, .null, .null, .int 0, .null, .null, .null, .null, .int 0, .int 0, .null, .null, .null, .null, .null, .null, .null, .int 0, .int 0, .int 0, .int 0, .int 0, .int 0, .long 0, .null, .int 0, .int 0])), (q_1, .inl (ty 0, 7, .inl (fun _ => 0))), (q_2, .inl (ty 0, 5640, .inl (fun _ => 0))), (q_3, .inl (ty 0, 11280, .inl (fun _ => 0))), (q_4, .inl (ty 2, 2, .inl (fun _ => 0))), (q_5, .inl (ty 0, 28, .inl (fun _ => 0))), (q_6, .inl (ty 3, 128, .inl f_97))]) hp hd hs (by rw [← hf_97]; rfl) ?_
  clear hp hd hs hP hD hS
  intro hP hD hS
  clear hf_97
  refine lv_dup hx hb dX10_init_591 rfl ?_
  refine lv_bipush (v := 91) hx hb dX10_init_592 (by decide) ?_
  refine lv_bipush (v := 100) hx hb dX10_init_594 (by decide) ?_
  refine va_bast hx hb hK hP hD hS 6 3 rfl rfl (by simp only [vp_in]; decide) dX10_init_596 (fun H locs hp hd hs => ?_)
  obtain ⟨f_98, hf_98⟩ : ∃ f : Nat → Int32, upd f_97 91 100 = f := ⟨_, rfl⟩
  refine kz_re (w2 := [(h0, .inr (10, [.int 0, .ref q_1, .ref q_2, .ref q_3, .ref q_4, .ref q_5, .int 0, .null, .int 0, .int 0, .int 0, .null, .null, .int 0, .int 0, .null, .null, .null, .int 0, .int 0, .int 0, .int 0, .int 0, .int 0, .int 0, .int 0, .null, .int 0, .int 0, .null, .null, .null, .int 0, .null, .null, .null, .null, .int 0, .int 0, .null, .null, .null, .null, .null, .null, .null, .int 0, .int 0, .int 0, .int 0, .int 0, .int 0, .long 0, .null, .int 0, .int 0])), (q_1, .inl (ty 0, 7, .inl (fun _ => 0))), (q_2, .inl (ty 0, 5640, .inl (fun _ => 0))), (q_3, .inl (ty 0, 11280, .inl (fun _ => 0))), (q_4, .inl (ty 2, 2, .inl (fun _ => 0))), (q_5, .inl (ty 0, 28, .inl (fun _ => 0))), (q_6, .inl (ty 3, 128, .inl f_98))]) hp hd hs (by rw [← hf_98]; rfl) ?_
  clear hp hd hs hP hD hS
  intro hP hD hS
  clear hf_98
  refine lv_dup hx hb dX10_init_597 rfl ?_
  refine lv_bipush (v := 92) hx hb dX10_init_598 (by decide) ?_
  refine lv_bipush (v := 32) hx hb dX10_init_600 (by decide) ?_
  refine va_bast hx hb hK hP hD hS 6 3 rfl rfl (by simp only [vp_in]; decide) dX10_init_602 (fun H locs hp hd hs => ?_)
  obtain ⟨f_99, hf_99⟩ : ∃ f : Nat → Int32, upd f_98 92 32 = f := ⟨_, rfl⟩
  refine kz_re (w2 := [(h0, .inr (10, [.int 0, .ref q_1, .ref q_2, .ref q_3, .ref q_4, .ref q_5, .int 0, .null, .int 0, .int 0, .int 0, .null, .null, .int 0, .int 0, .null, .null, .null, .int 0, .int 0, .int 0, .int 0, .int 0, .int 0, .int 0, .int 0, .null, .int 0, .int 0, .null, .null, .null, .int 0, .null, .null, .null, .null, .int 0, .int 0, .null, .null, .null, .null, .null, .null, .null, .int 0, .int 0, .int 0, .int 0, .int 0, .int 0, .long 0, .null, .int 0, .int 0])), (q_1, .inl (ty 0, 7, .inl (fun _ => 0))), (q_2, .inl (ty 0, 5640, .inl (fun _ => 0))), (q_3, .inl (ty 0, 11280, .inl (fun _ => 0))), (q_4, .inl (ty 2, 2, .inl (fun _ => 0))), (q_5, .inl (ty 0, 28, .inl (fun _ => 0))), (q_6, .inl (ty 3, 128, .inl f_99))]) hp hd hs (by rw [← hf_99]; rfl) ?_
  clear hp hd hs hP hD hS
  intro hP hD hS
  clear hf_99
  refine lv_dup hx hb dX10_init_603 rfl ?_
  refine lv_bipush (v := 93) hx hb dX10_init_604 (by decide) ?_
  refine lv_bipush (v := 103) hx hb dX10_init_606 (by decide) ?_
  refine va_bast hx hb hK hP hD hS 6 3 rfl rfl (by simp only [vp_in]; decide) dX10_init_608 (fun H locs hp hd hs => ?_)
  obtain ⟨f_100, hf_100⟩ : ∃ f : Nat → Int32, upd f_99 93 103 = f := ⟨_, rfl⟩
  refine kz_re (w2 := [(h0, .inr (10, [.int 0, .ref q_1, .ref q_2, .ref q_3, .ref q_4, .ref q_5, .int 0, .null, .int 0, .int 0, .int 0, .null, .null, .int 0, .int 0, .null, .null, .null, .int 0, .int 0, .int 0, .int 0, .int 0, .int 0, .int 0, .int 0, .null, .int 0, .int 0, .null, .null, .null, .int 0, .null, .null, .null, .null, .int 0, .int 0, .null, .null, .null, .null, .null, .null, .null, .int 0, .int 0, .int 0, .int 0, .int 0, .int 0, .long 0, .null, .int 0, .int 0])), (q_1, .inl (ty 0, 7, .inl (fun _ => 0))), (q_2, .inl (ty 0, 5640, .inl (fun _ => 0))), (q_3, .inl (ty 0, 11280, .inl (fun _ => 0))), (q_4, .inl (ty 2, 2, .inl (fun _ => 0))), (q_5, .inl (ty 0, 28, .inl (fun _ => 0))), (q_6, .inl (ty 3, 128, .inl f_100))]) hp hd hs (by rw [← hf_100]; rfl) ?_
  clear hp hd hs hP hD hS
  intro hP hD hS
  clear hf_100
  refine lv_dup hx hb dX10_init_609 rfl ?_
  refine lv_bipush (v := 94) hx hb dX10_init_610 (by decide) ?_
  refine lv_bipush (v := 97) hx hb dX10_init_612 (by decide) ?_
  refine va_bast hx hb hK hP hD hS 6 3 rfl rfl (by simp only [vp_in]; decide) dX10_init_614 (fun H locs hp hd hs => ?_)
  obtain ⟨f_101, hf_101⟩ : ∃ f : Nat → Int32, upd f_100 94 97 = f := ⟨_, rfl⟩
  refine kz_re (w2 := [(h0, .inr (10, [.int 0, .ref q_1, .ref q_2, .ref q_3, .ref q_4, .ref q_5, .int 0, .null, .int 0, .int 0, .int 0, .null, .null, .int 0, .int 0, .null, .null, .null, .int 0, .int 0, .int 0, .int 0, .int 0, .int 0, .int 0, .int 0, .null, .int 0, .int 0, .null, .null, .null, .int 0, .null, .null, .null, .null, .int 0, .int 0, .null, .null, .null, .null, .null, .null, .null, .int 0, .int 0, .int 0, .int 0, .int 0, .int 0, .long 0, .null, .int 0, .int 0])), (q_1, .inl (ty 0, 7, .inl (fun _ => 0))), (q_2, .inl (ty 0, 5640, .inl (fun _ => 0))), (q_3, .inl (ty 0, 11280, .inl (fun _ => 0))), (q_4, .inl (ty 2, 2, .inl (fun _ => 0))), (q_5, .inl (ty 0, 28, .inl (fun _ => 0))), (q_6, .inl (ty 3, 128, .inl f_101))]) hp hd hs (by rw [← hf_101]; rfl) ?_
  clear hp hd hs hP hD hS
  intro hP hD hS
  clear hf_101
  refine lv_dup hx hb dX10_init_615 rfl ?_
  refine lv_bipush (v := 95) hx hb dX10_init_616 (by decide) ?_
  refine lv_bipush (v := 112) hx hb dX10_init_618 (by decide) ?_
  refine va_bast hx hb hK hP hD hS 6 3 rfl rfl (by simp only [vp_in]; decide) dX10_init_620 (fun H locs hp hd hs => ?_)
  obtain ⟨f_102, hf_102⟩ : ∃ f : Nat → Int32, upd f_101 95 112 = f := ⟨_, rfl⟩
  refine kz_re (w2 := [(h0, .inr (10, [.int 0, .ref q_1, .ref q_2, .ref q_3, .ref q_4, .ref q_5, .int 0, .null, .int 0, .int 0, .int 0, .null, .null, .int 0, .int 0, .null, .null, .null, .int 0, .int 0, .int 0, .int 0, .int 0, .int 0, .int 0, .int 0, .null, .int 0, .int 0, .null, .null, .null, .int 0, .null, .null, .null, .null, .int 0, .int 0, .null, .null, .null, .null, .null, .null, .null, .int 0, .int 0, .int 0, .int 0, .int 0, .int 0, .long 0, .null, .int 0, .int 0])), (q_1, .inl (ty 0, 7, .inl (fun _ => 0))), (q_2, .inl (ty 0, 5640, .inl (fun _ => 0))), (q_3, .inl (ty 0, 11280, .inl (fun _ => 0))), (q_4, .inl (ty 2, 2, .inl (fun _ => 0))), (q_5, .inl (ty 0, 28, .inl (fun _ => 0))), (q_6, .inl (ty 3, 128, .inl f_102))]) hp hd hs (by rw [← hf_102]; rfl) ?_
  clear hp hd hs hP hD hS
  intro hP hD hS
  clear hf_102
  refine lv_dup hx hb dX10_init_621 rfl ?_
  refine lv_bipush (v := 96) hx hb dX10_init_622 (by decide) ?_
  refine lv_bipush (v := 115) hx hb dX10_init_624 (by decide) ?_
  refine va_bast hx hb hK hP hD hS 6 3 rfl rfl (by simp only [vp_in]; decide) dX10_init_626 (fun H locs hp hd hs => ?_)
  obtain ⟨f_103, hf_103⟩ : ∃ f : Nat → Int32, upd f_102 96 115 = f := ⟨_, rfl⟩
  refine kz_re (w2 := [(h0, .inr (10, [.int 0, .ref q_1, .ref q_2, .ref q_3, .ref q_4, .ref q_5, .int 0, .null, .int 0, .int 0, .int 0, .null, .null, .int 0, .int 0, .null, .null, .null, .int 0, .int 0, .int 0, .int 0, .int 0, .int 0, .int 0, .int 0, .null, .int 0, .int 0, .null, .null, .null, .int 0, .null, .null, .null, .null, .int 0, .int 0, .null, .null, .null, .null, .null, .null, .null, .int 0, .int 0, .int 0, .int 0, .int 0, .int 0, .long 0, .null, .int 0, .int 0])), (q_1, .inl (ty 0, 7, .inl (fun _ => 0))), (q_2, .inl (ty 0, 5640, .inl (fun _ => 0))), (q_3, .inl (ty 0, 11280, .inl (fun _ => 0))), (q_4, .inl (ty 2, 2, .inl (fun _ => 0))), (q_5, .inl (ty 0, 28, .inl (fun _ => 0))), (q_6, .inl (ty 3, 128, .inl f_103))]) hp hd hs (by rw [← hf_103]; rfl) ?_
  clear hp hd hs hP hD hS
  intro hP hD hS
  clear hf_103
  refine lv_dup hx hb dX10_init_627 rfl ?_
  refine lv_bipush (v := 97) hx hb dX10_init_628 (by decide) ?_
  refine lv_bipush (v := 32) hx hb dX10_init_630 (by decide) ?_
  refine va_bast hx hb hK hP hD hS 6 3 rfl rfl (by simp only [vp_in]; decide) dX10_init_632 (fun H locs hp hd hs => ?_)
  obtain ⟨f_104, hf_104⟩ : ∃ f : Nat → Int32, upd f_103 97 32 = f := ⟨_, rfl⟩
  refine kz_re (w2 := [(h0, .inr (10, [.int 0, .ref q_1, .ref q_2, .ref q_3, .ref q_4, .ref q_5, .int 0, .null, .int 0, .int 0, .int 0, .null, .null, .int 0, .int 0, .null, .null, .null, .int 0, .int 0, .int 0, .int 0, .int 0, .int 0, .int 0, .int 0, .null, .int 0, .int 0, .null, .null, .null, .int 0, .null, .null, .null, .null, .int 0, .int 0, .null, .null, .null, .null, .null, .null, .null, .int 0, .int 0, .int 0, .int 0, .int 0, .int 0, .long 0, .null, .int 0, .int 0])), (q_1, .inl (ty 0, 7, .inl (fun _ => 0))), (q_2, .inl (ty 0, 5640, .inl (fun _ => 0))), (q_3, .inl (ty 0, 11280, .inl (fun _ => 0))), (q_4, .inl (ty 2, 2, .inl (fun _ => 0))), (q_5, .inl (ty 0, 28, .inl (fun _ => 0))), (q_6, .inl (ty 3, 128, .inl f_104))]) hp hd hs (by rw [← hf_104]; rfl) ?_
  clear hp hd hs hP hD hS
  intro hP hD hS
  clear hf_104
  refine lv_dup hx hb dX10_init_633 rfl ?_
  refine lv_bipush (v := 98) hx hb dX10_init_634 (by decide) ?_
  refine lv_bipush (v := 97) hx hb dX10_init_636 (by decide) ?_
  refine va_bast hx hb hK hP hD hS 6 3 rfl rfl (by simp only [vp_in]; decide) dX10_init_638 (fun H locs hp hd hs => ?_)
  obtain ⟨f_105, hf_105⟩ : ∃ f : Nat → Int32, upd f_104 98 97 = f := ⟨_, rfl⟩
  refine kz_re (w2 := [(h0, .inr (10, [.int 0, .ref q_1, .ref q_2, .ref q_3, .ref q_4, .ref q_5, .int 0, .null, .int 0, .int 0, .int 0, .null, .null, .int 0, .int 0, .null, .null, .null, .int 0, .int 0, .int 0, .int 0, .int 0, .int 0, .int 0, .int 0, .null, .int 0, .int 0, .null, .null, .null, .int 0, .null, .null, .null, .null, .int 0, .int 0, .null, .null, .null, .null, .null, .null, .null, .int 0, .int 0, .int 0, .int 0, .int 0, .int 0, .long 0, .null, .int 0, .int 0])), (q_1, .inl (ty 0, 7, .inl (fun _ => 0))), (q_2, .inl (ty 0, 5640, .inl (fun _ => 0))), (q_3, .inl (ty 0, 11280, .inl (fun _ => 0))), (q_4, .inl (ty 2, 2, .inl (fun _ => 0))), (q_5, .inl (ty 0, 28, .inl (fun _ => 0))), (q_6, .inl (ty 3, 128, .inl f_105))]) hp hd hs (by rw [← hf_105]; rfl) ?_
  clear hp hd hs hP hD hS
  intro hP hD hS
  clear hf_105
  refine lv_dup hx hb dX10_init_639 rfl ?_
  refine lv_bipush (v := 99) hx hb dX10_init_640 (by decide) ?_
  refine lv_bipush (v := 116) hx hb dX10_init_642 (by decide) ?_
  refine va_bast hx hb hK hP hD hS 6 3 rfl rfl (by simp only [vp_in]; decide) dX10_init_644 (fun H locs hp hd hs => ?_)
  obtain ⟨f_106, hf_106⟩ : ∃ f : Nat → Int32, upd f_105 99 116 = f := ⟨_, rfl⟩
  refine kz_re (w2 := [(h0, .inr (10, [.int 0, .ref q_1, .ref q_2, .ref q_3, .ref q_4, .ref q_5, .int 0, .null, .int 0, .int 0, .int 0, .null, .null, .int 0, .int 0, .null, .null, .null, .int 0, .int 0, .int 0, .int 0, .int 0, .int 0, .int 0, .int 0, .null, .int 0, .int 0, .null, .null, .null, .int 0, .null, .null, .null, .null, .int 0, .int 0, .null, .null, .null, .null, .null, .null, .null, .int 0, .int 0, .int 0, .int 0, .int 0, .int 0, .long 0, .null, .int 0, .int 0])), (q_1, .inl (ty 0, 7, .inl (fun _ => 0))), (q_2, .inl (ty 0, 5640, .inl (fun _ => 0))), (q_3, .inl (ty 0, 11280, .inl (fun _ => 0))), (q_4, .inl (ty 2, 2, .inl (fun _ => 0))), (q_5, .inl (ty 0, 28, .inl (fun _ => 0))), (q_6, .inl (ty 3, 128, .inl f_106))]) hp hd hs (by rw [← hf_106]; rfl) ?_
  clear hp hd hs hP hD hS
  intro hP hD hS
  clear hf_106
  refine lv_dup hx hb dX10_init_645 rfl ?_
  refine lv_bipush (v := 100) hx hb dX10_init_646 (by decide) ?_
  refine lv_bipush (v := 32) hx hb dX10_init_648 (by decide) ?_
  refine va_bast hx hb hK hP hD hS 6 3 rfl rfl (by simp only [vp_in]; decide) dX10_init_650 (fun H locs hp hd hs => ?_)
  obtain ⟨f_107, hf_107⟩ : ∃ f : Nat → Int32, upd f_106 100 32 = f := ⟨_, rfl⟩
  refine kz_re (w2 := [(h0, .inr (10, [.int 0, .ref q_1, .ref q_2, .ref q_3, .ref q_4, .ref q_5, .int 0, .null, .int 0, .int 0, .int 0, .null, .null, .int 0, .int 0, .null, .null, .null, .int 0, .int 0, .int 0, .int 0, .int 0, .int 0, .int 0, .int 0, .null, .int 0, .int 0, .null, .null, .null, .int 0, .null, .null, .null, .null, .int 0, .int 0, .null, .null, .null, .null, .null, .null, .null, .int 0, .int 0, .int 0, .int 0, .int 0, .int 0, .long 0, .null, .int 0, .int 0])), (q_1, .inl (ty 0, 7, .inl (fun _ => 0))), (q_2, .inl (ty 0, 5640, .inl (fun _ => 0))), (q_3, .inl (ty 0, 11280, .inl (fun _ => 0))), (q_4, .inl (ty 2, 2, .inl (fun _ => 0))), (q_5, .inl (ty 0, 28, .inl (fun _ => 0))), (q_6, .inl (ty 3, 128, .inl f_107))]) hp hd hs (by rw [← hf_107]; rfl) ?_
  clear hp hd hs hP hD hS
  intro hP hD hS
  clear hf_107
  refine lv_dup hx hb dX10_init_651 rfl ?_
  refine lv_bipush (v := 101) hx hb dX10_init_652 (by decide) ?_
  refine lv_bipush (v := 116) hx hb dX10_init_654 (by decide) ?_
  refine va_bast hx hb hK hP hD hS 6 3 rfl rfl (by simp only [vp_in]; decide) dX10_init_656 (fun H locs hp hd hs => ?_)
  obtain ⟨f_108, hf_108⟩ : ∃ f : Nat → Int32, upd f_107 101 116 = f := ⟨_, rfl⟩
  refine kz_re (w2 := [(h0, .inr (10, [.int 0, .ref q_1, .ref q_2, .ref q_3, .ref q_4, .ref q_5, .int 0, .null, .int 0, .int 0, .int 0, .null, .null, .int 0, .int 0, .null, .null, .null, .int 0, .int 0, .int 0, .int 0, .int 0, .int 0, .int 0, .int 0, .null, .int 0, .int 0, .null, .null, .null, .int 0, .null, .null, .null, .null, .int 0, .int 0, .null, .null, .null, .null, .null, .null, .null, .int 0, .int 0, .int 0, .int 0, .int 0, .int 0, .long 0, .null, .int 0, .int 0])), (q_1, .inl (ty 0, 7, .inl (fun _ => 0))), (q_2, .inl (ty 0, 5640, .inl (fun _ => 0))), (q_3, .inl (ty 0, 11280, .inl (fun _ => 0))), (q_4, .inl (ty 2, 2, .inl (fun _ => 0))), (q_5, .inl (ty 0, 28, .inl (fun _ => 0))), (q_6, .inl (ty 3, 128, .inl f_108))]) hp hd hs (by rw [← hf_108]; rfl) ?_
  clear hp hd hs hP hD hS
  intro hP hD hS
  clear hf_108
  refine lv_dup hx hb dX10_init_657 rfl ?_
  refine lv_bipush (v := 102) hx hb dX10_init_658 (by decide) ?_
  refine lv_bipush (v := 117) hx hb dX10_init_660 (by decide) ?_
  refine va_bast hx hb hK hP hD hS 6 3 rfl rfl (by simp only [vp_in]; decide) dX10_init_662 (fun H locs hp hd hs => ?_)
  obtain ⟨f_109, hf_109⟩ : ∃ f : Nat → Int32, upd f_108 102 117 = f := ⟨_, rfl⟩
  refine kz_re (w2 := [(h0, .inr (10, [.int 0, .ref q_1, .ref q_2, .ref q_3, .ref q_4, .ref q_5, .int 0, .null, .int 0, .int 0, .int 0, .null, .null, .int 0, .int 0, .null, .null, .null, .int 0, .int 0, .int 0, .int 0, .int 0, .int 0, .int 0, .int 0, .null, .int 0, .int 0, .null, .null, .null, .int 0, .null, .null, .null, .null, .int 0, .int 0, .null, .null, .null, .null, .null, .null, .null, .int 0, .int 0, .int 0, .int 0, .int 0, .int 0, .long 0, .null, .int 0, .int 0])), (q_1, .inl (ty 0, 7, .inl (fun _ => 0))), (q_2, .inl (ty 0, 5640, .inl (fun _ => 0))), (q_3, .inl (ty 0, 11280, .inl (fun _ => 0))), (q_4, .inl (ty 2, 2, .inl (fun _ => 0))), (q_5, .inl (ty 0, 28, .inl (fun _ => 0))), (q_6, .inl (ty 3, 128, .inl f_109))]) hp hd hs (by rw [← hf_109]; rfl) ?_
  clear hp hd hs hP hD hS
  intro hP hD hS
  clear hf_109
  refine lv_dup hx hb dX10_init_663 rfl ?_
  refine lv_bipush (v := 103) hx hb dX10_init_664 (by decide) ?_
  refine lv_bipush (v := 114) hx hb dX10_init_666 (by decide) ?_
  refine va_bast hx hb hK hP hD hS 6 3 rfl rfl (by simp only [vp_in]; decide) dX10_init_668 (fun H locs hp hd hs => ?_)
  obtain ⟨f_110, hf_110⟩ : ∃ f : Nat → Int32, upd f_109 103 114 = f := ⟨_, rfl⟩
  refine kz_re (w2 := [(h0, .inr (10, [.int 0, .ref q_1, .ref q_2, .ref q_3, .ref q_4, .ref q_5, .int 0, .null, .int 0, .int 0, .int 0, .null, .null, .int 0, .int 0, .null, .null, .null, .int 0, .int 0, .int 0, .int 0, .int 0, .int 0, .int 0, .int 0, .null, .int 0, .int 0, .null, .null, .null, .int 0, .null, .null, .null, .null, .int 0, .int 0, .null, .null, .null, .null, .null, .null, .null, .int 0, .int 0, .int 0, .int 0, .int 0, .int 0, .long 0, .null, .int 0, .int 0])), (q_1, .inl (ty 0, 7, .inl (fun _ => 0))), (q_2, .inl (ty 0, 5640, .inl (fun _ => 0))), (q_3, .inl (ty 0, 11280, .inl (fun _ => 0))), (q_4, .inl (ty 2, 2, .inl (fun _ => 0))), (q_5, .inl (ty 0, 28, .inl (fun _ => 0))), (q_6, .inl (ty 3, 128, .inl f_110))]) hp hd hs (by rw [← hf_110]; rfl) ?_
  clear hp hd hs hP hD hS
  intro hP hD hS
  clear hf_110
  refine lv_dup hx hb dX10_init_669 rfl ?_
  refine lv_bipush (v := 104) hx hb dX10_init_670 (by decide) ?_
  refine lv_bipush (v := 110) hx hb dX10_init_672 (by decide) ?_
  refine va_bast hx hb hK hP hD hS 6 3 rfl rfl (by simp only [vp_in]; decide) dX10_init_674 (fun H locs hp hd hs => ?_)
  obtain ⟨f_111, hf_111⟩ : ∃ f : Nat → Int32, upd f_110 104 110 = f := ⟨_, rfl⟩
  refine kz_re (w2 := [(h0, .inr (10, [.int 0, .ref q_1, .ref q_2, .ref q_3, .ref q_4, .ref q_5, .int 0, .null, .int 0, .int 0, .int 0, .null, .null, .int 0, .int 0, .null, .null, .null, .int 0, .int 0, .int 0, .int 0, .int 0, .int 0, .int 0, .int 0, .null, .int 0, .int 0, .null, .null, .null, .int 0, .null, .null, .null, .null, .int 0, .int 0, .null, .null, .null, .null, .null, .null, .null, .int 0, .int 0, .int 0, .int 0, .int 0, .int 0, .long 0, .null, .int 0, .int 0])), (q_1, .inl (ty 0, 7, .inl (fun _ => 0))), (q_2, .inl (ty 0, 5640, .inl (fun _ => 0))), (q_3, .inl (ty 0, 11280, .inl (fun _ => 0))), (q_4, .inl (ty 2, 2, .inl (fun _ => 0))), (q_5, .inl (ty 0, 28, .inl (fun _ => 0))), (q_6, .inl (ty 3, 128, .inl f_111))]) hp hd hs (by rw [← hf_111]; rfl) ?_
  clear hp hd hs hP hD hS
  intro hP hD hS
  clear hf_111
  refine lv_dup hx hb dX10_init_675 rfl ?_
  refine lv_bipush (v := 105) hx hb dX10_init_676 (by decide) ?_
  refine lv_bipush (v := 32) hx hb dX10_init_678 (by decide) ?_
  refine va_bast hx hb hK hP hD hS 6 3 rfl rfl (by simp only [vp_in]; decide) dX10_init_680 (fun H locs hp hd hs => ?_)
  obtain ⟨f_112, hf_112⟩ : ∃ f : Nat → Int32, upd f_111 105 32 = f := ⟨_, rfl⟩
  refine kz_re (w2 := [(h0, .inr (10, [.int 0, .ref q_1, .ref q_2, .ref q_3, .ref q_4, .ref q_5, .int 0, .null, .int 0, .int 0, .int 0, .null, .null, .int 0, .int 0, .null, .null, .null, .int 0, .int 0, .int 0, .int 0, .int 0, .int 0, .int 0, .int 0, .null, .int 0, .int 0, .null, .null, .null, .int 0, .null, .null, .null, .null, .int 0, .int 0, .null, .null, .null, .null, .null, .null, .null, .int 0, .int 0, .int 0, .int 0, .int 0, .int 0, .long 0, .null, .int 0, .int 0])), (q_1, .inl (ty 0, 7, .inl (fun _ => 0))), (q_2, .inl (ty 0, 5640, .inl (fun _ => 0))), (q_3, .inl (ty 0, 11280, .inl (fun _ => 0))), (q_4, .inl (ty 2, 2, .inl (fun _ => 0))), (q_5, .inl (ty 0, 28, .inl (fun _ => 0))), (q_6, .inl (ty 3, 128, .inl f_112))]) hp hd hs (by rw [← hf_112]; rfl) ?_
  clear hp hd hs hP hD hS
  intro hP hD hS
  clear hf_112
  refine lv_dup hx hb dX10_init_681 rfl ?_
  refine lv_bipush (v := 106) hx hb dX10_init_682 (by decide) ?_
  refine lv_bipush (v := 114) hx hb dX10_init_684 (by decide) ?_
  refine va_bast hx hb hK hP hD hS 6 3 rfl rfl (by simp only [vp_in]; decide) dX10_init_686 (fun H locs hp hd hs => ?_)
  obtain ⟨f_113, hf_113⟩ : ∃ f : Nat → Int32, upd f_112 106 114 = f := ⟨_, rfl⟩
  refine kz_re (w2 := [(h0, .inr (10, [.int 0, .ref q_1, .ref q_2, .ref q_3, .ref q_4, .ref q_5, .int 0, .null, .int 0, .int 0, .int 0, .null, .null, .int 0, .int 0, .null, .null, .null, .int 0, .int 0, .int 0, .int 0, .int 0, .int 0, .int 0, .int 0, .null, .int 0, .int 0, .null, .null, .null, .int 0, .null, .null, .null, .null, .int 0, .int 0, .null, .null, .null, .null, .null, .null, .null, .int 0, .int 0, .int 0, .int 0, .int 0, .int 0, .long 0, .null, .int 0, .int 0])), (q_1, .inl (ty 0, 7, .inl (fun _ => 0))), (q_2, .inl (ty 0, 5640, .inl (fun _ => 0))), (q_3, .inl (ty 0, 11280, .inl (fun _ => 0))), (q_4, .inl (ty 2, 2, .inl (fun _ => 0))), (q_5, .inl (ty 0, 28, .inl (fun _ => 0))), (q_6, .inl (ty 3, 128, .inl f_113))]) hp hd hs (by rw [← hf_113]; rfl) ?_
  clear hp hd hs hP hD hS
  intro hP hD hS
  clear hf_113
  refine lv_dup hx hb dX10_init_687 rfl ?_
  refine lv_bipush (v := 107) hx hb dX10_init_688 (by decide) ?_
  refine lv_bipush (v := 105) hx hb dX10_init_690 (by decide) ?_
  refine va_bast hx hb hK hP hD hS 6 3 rfl rfl (by simp only [vp_in]; decide) dX10_init_692 (fun H locs hp hd hs => ?_)
  obtain ⟨f_114, hf_114⟩ : ∃ f : Nat → Int32, upd f_113 107 105 = f := ⟨_, rfl⟩
  refine kz_re (w2 := [(h0, .inr (10, [.int 0, .ref q_1, .ref q_2, .ref q_3, .ref q_4, .ref q_5, .int 0, .null, .int 0, .int 0, .int 0, .null, .null, .int 0, .int 0, .null, .null, .null, .int 0, .int 0, .int 0, .int 0, .int 0, .int 0, .int 0, .int 0, .null, .int 0, .int 0, .null, .null, .null, .int 0, .null, .null, .null, .null, .int 0, .int 0, .null, .null, .null, .null, .null, .null, .null, .int 0, .int 0, .int 0, .int 0, .int 0, .int 0, .long 0, .null, .int 0, .int 0])), (q_1, .inl (ty 0, 7, .inl (fun _ => 0))), (q_2, .inl (ty 0, 5640, .inl (fun _ => 0))), (q_3, .inl (ty 0, 11280, .inl (fun _ => 0))), (q_4, .inl (ty 2, 2, .inl (fun _ => 0))), (q_5, .inl (ty 0, 28, .inl (fun _ => 0))), (q_6, .inl (ty 3, 128, .inl f_114))]) hp hd hs (by rw [← hf_114]; rfl) ?_
  clear hp hd hs hP hD hS
  intro hP hD hS
  clear hf_114
  refine lv_dup hx hb dX10_init_693 rfl ?_
  refine lv_bipush (v := 108) hx hb dX10_init_694 (by decide) ?_
  refine lv_bipush (v := 103) hx hb dX10_init_696 (by decide) ?_
  refine va_bast hx hb hK hP hD hS 6 3 rfl rfl (by simp only [vp_in]; decide) dX10_init_698 (fun H locs hp hd hs => ?_)
  obtain ⟨f_115, hf_115⟩ : ∃ f : Nat → Int32, upd f_114 108 103 = f := ⟨_, rfl⟩
  refine kz_re (w2 := [(h0, .inr (10, [.int 0, .ref q_1, .ref q_2, .ref q_3, .ref q_4, .ref q_5, .int 0, .null, .int 0, .int 0, .int 0, .null, .null, .int 0, .int 0, .null, .null, .null, .int 0, .int 0, .int 0, .int 0, .int 0, .int 0, .int 0, .int 0, .null, .int 0, .int 0, .null, .null, .null, .int 0, .null, .null, .null, .null, .int 0, .int 0, .null, .null, .null, .null, .null, .null, .null, .int 0, .int 0, .int 0, .int 0, .int 0, .int 0, .long 0, .null, .int 0, .int 0])), (q_1, .inl (ty 0, 7, .inl (fun _ => 0))), (q_2, .inl (ty 0, 5640, .inl (fun _ => 0))), (q_3, .inl (ty 0, 11280, .inl (fun _ => 0))), (q_4, .inl (ty 2, 2, .inl (fun _ => 0))), (q_5, .inl (ty 0, 28, .inl (fun _ => 0))), (q_6, .inl (ty 3, 128, .inl f_115))]) hp hd hs (by rw [← hf_115]; rfl) ?_
  clear hp hd hs hP hD hS
  intro hP hD hS
  clear hf_115
  refine lv_dup hx hb dX10_init_699 rfl ?_
  refine lv_bipush (v := 109) hx hb dX10_init_700 (by decide) ?_
  refine lv_bipush (v := 104) hx hb dX10_init_702 (by decide) ?_
  refine va_bast hx hb hK hP hD hS 6 3 rfl rfl (by simp only [vp_in]; decide) dX10_init_704 (fun H locs hp hd hs => ?_)
  obtain ⟨f_116, hf_116⟩ : ∃ f : Nat → Int32, upd f_115 109 104 = f := ⟨_, rfl⟩
  refine kz_re (w2 := [(h0, .inr (10, [.int 0, .ref q_1, .ref q_2, .ref q_3, .ref q_4, .ref q_5, .int 0, .null, .int 0, .int 0, .int 0, .null, .null, .int 0, .int 0, .null, .null, .null, .int 0, .int 0, .int 0, .int 0, .int 0, .int 0, .int 0, .int 0, .null, .int 0, .int 0, .null, .null, .null, .int 0, .null, .null, .null, .null, .int 0, .int 0, .null, .null, .null, .null, .null, .null, .null, .int 0, .int 0, .int 0, .int 0, .int 0, .int 0, .long 0, .null, .int 0, .int 0])), (q_1, .inl (ty 0, 7, .inl (fun _ => 0))), (q_2, .inl (ty 0, 5640, .inl (fun _ => 0))), (q_3, .inl (ty 0, 11280, .inl (fun _ => 0))), (q_4, .inl (ty 2, 2, .inl (fun _ => 0))), (q_5, .inl (ty 0, 28, .inl (fun _ => 0))), (q_6, .inl (ty 3, 128, .inl f_116))]) hp hd hs (by rw [← hf_116]; rfl) ?_
  clear hp hd hs hP hD hS
  intro hP hD hS
  clear hf_116
  refine lv_dup hx hb dX10_init_705 rfl ?_
  refine lv_bipush (v := 110) hx hb dX10_init_706 (by decide) ?_
  refine lv_bipush (v := 116) hx hb dX10_init_708 (by decide) ?_
  refine va_bast hx hb hK hP hD hS 6 3 rfl rfl (by simp only [vp_in]; decide) dX10_init_710 (fun H locs hp hd hs => ?_)
  obtain ⟨f_117, hf_117⟩ : ∃ f : Nat → Int32, upd f_116 110 116 = f := ⟨_, rfl⟩
  refine kz_re (w2 := [(h0, .inr (10, [.int 0, .ref q_1, .ref q_2, .ref q_3, .ref q_4, .ref q_5, .int 0, .null, .int 0, .int 0, .int 0, .null, .null, .int 0, .int 0, .null, .null, .null, .int 0, .int 0, .int 0, .int 0, .int 0, .int 0, .int 0, .int 0, .null, .int 0, .int 0, .null, .null, .null, .int 0, .null, .null, .null, .null, .int 0, .int 0, .null, .null, .null, .null, .null, .null, .null, .int 0, .int 0, .int 0, .int 0, .int 0, .int 0, .long 0, .null, .int 0, .int 0])), (q_1, .inl (ty 0, 7, .inl (fun _ => 0))), (q_2, .inl (ty 0, 5640, .inl (fun _ => 0))), (q_3, .inl (ty 0, 11280, .inl (fun _ => 0))), (q_4, .inl (ty 2, 2, .inl (fun _ => 0))), (q_5, .inl (ty 0, 28, .inl (fun _ => 0))), (q_6, .inl (ty 3, 128, .inl f_117))]) hp hd hs (by rw [← hf_117]; rfl) ?_
  clear hp hd hs hP hD hS
  intro hP hD hS
  clear hf_117
  refine lv_dup hx hb dX10_init_711 rfl ?_
  refine lv_bipush (v := 111) hx hb dX10_init_712 (by decide) ?_
  refine lv_bipush (v := 32) hx hb dX10_init_714 (by decide) ?_
  refine va_bast hx hb hK hP hD hS 6 3 rfl rfl (by simp only [vp_in]; decide) dX10_init_716 (fun H locs hp hd hs => ?_)
  obtain ⟨f_118, hf_118⟩ : ∃ f : Nat → Int32, upd f_117 111 32 = f := ⟨_, rfl⟩
  refine kz_re (w2 := [(h0, .inr (10, [.int 0, .ref q_1, .ref q_2, .ref q_3, .ref q_4, .ref q_5, .int 0, .null, .int 0, .int 0, .int 0, .null, .null, .int 0, .int 0, .null, .null, .null, .int 0, .int 0, .int 0, .int 0, .int 0, .int 0, .int 0, .int 0, .null, .int 0, .int 0, .null, .null, .null, .int 0, .null, .null, .null, .null, .int 0, .int 0, .null, .null, .null, .null, .null, .null, .null, .int 0, .int 0, .int 0, .int 0, .int 0, .int 0, .long 0, .null, .int 0, .int 0])), (q_1, .inl (ty 0, 7, .inl (fun _ => 0))), (q_2, .inl (ty 0, 5640, .inl (fun _ => 0))), (q_3, .inl (ty 0, 11280, .inl (fun _ => 0))), (q_4, .inl (ty 2, 2, .inl (fun _ => 0))), (q_5, .inl (ty 0, 28, .inl (fun _ => 0))), (q_6, .inl (ty 3, 128, .inl f_118))]) hp hd hs (by rw [← hf_118]; rfl) ?_
  clear hp hd hs hP hD hS
  intro hP hD hS
  clear hf_118
  refine lv_dup hx hb dX10_init_717 rfl ?_
  refine lv_bipush (v := 112) hx hb dX10_init_718 (by decide) ?_
  refine lv_bipush (v := 115) hx hb dX10_init_720 (by decide) ?_
  refine va_bast hx hb hK hP hD hS 6 3 rfl rfl (by simp only [vp_in]; decide) dX10_init_722 (fun H locs hp hd hs => ?_)
  obtain ⟨f_119, hf_119⟩ : ∃ f : Nat → Int32, upd f_118 112 115 = f := ⟨_, rfl⟩
  refine kz_re (w2 := [(h0, .inr (10, [.int 0, .ref q_1, .ref q_2, .ref q_3, .ref q_4, .ref q_5, .int 0, .null, .int 0, .int 0, .int 0, .null, .null, .int 0, .int 0, .null, .null, .null, .int 0, .int 0, .int 0, .int 0, .int 0, .int 0, .int 0, .int 0, .null, .int 0, .int 0, .null, .null, .null, .int 0, .null, .null, .null, .null, .int 0, .int 0, .null, .null, .null, .null, .null, .null, .null, .int 0, .int 0, .int 0, .int 0, .int 0, .int 0, .long 0, .null, .int 0, .int 0])), (q_1, .inl (ty 0, 7, .inl (fun _ => 0))), (q_2, .inl (ty 0, 5640, .inl (fun _ => 0))), (q_3, .inl (ty 0, 11280, .inl (fun _ => 0))), (q_4, .inl (ty 2, 2, .inl (fun _ => 0))), (q_5, .inl (ty 0, 28, .inl (fun _ => 0))), (q_6, .inl (ty 3, 128, .inl f_119))]) hp hd hs (by rw [← hf_119]; rfl) ?_
  clear hp hd hs hP hD hS
  intro hP hD hS
  clear hf_119
  refine lv_dup hx hb dX10_init_723 rfl ?_
  refine lv_bipush (v := 113) hx hb dX10_init_724 (by decide) ?_
  refine lv_bipush (v := 119) hx hb dX10_init_726 (by decide) ?_
  refine va_bast hx hb hK hP hD hS 6 3 rfl rfl (by simp only [vp_in]; decide) dX10_init_728 (fun H locs hp hd hs => ?_)
  obtain ⟨f_120, hf_120⟩ : ∃ f : Nat → Int32, upd f_119 113 119 = f := ⟨_, rfl⟩
  refine kz_re (w2 := [(h0, .inr (10, [.int 0, .ref q_1, .ref q_2, .ref q_3, .ref q_4, .ref q_5, .int 0, .null, .int 0, .int 0, .int 0, .null, .null, .int 0, .int 0, .null, .null, .null, .int 0, .int 0, .int 0, .int 0, .int 0, .int 0, .int 0, .int 0, .null, .int 0, .int 0, .null, .null, .null, .int 0, .null, .null, .null, .null, .int 0, .int 0, .null, .null, .null, .null, .null, .null, .null, .int 0, .int 0, .int 0, .int 0, .int 0, .int 0, .long 0, .null, .int 0, .int 0])), (q_1, .inl (ty 0, 7, .inl (fun _ => 0))), (q_2, .inl (ty 0, 5640, .inl (fun _ => 0))), (q_3, .inl (ty 0, 11280, .inl (fun _ => 0))), (q_4, .inl (ty 2, 2, .inl (fun _ => 0))), (q_5, .inl (ty 0, 28, .inl (fun _ => 0))), (q_6, .inl (ty 3, 128, .inl f_120))]) hp hd hs (by rw [← hf_120]; rfl) ?_
  clear hp hd hs hP hD hS
  intro hP hD hS
  clear hf_120
  refine lv_dup hx hb dX10_init_729 rfl ?_
  refine lv_bipush (v := 114) hx hb dX10_init_730 (by decide) ?_
  refine lv_bipush (v := 97) hx hb dX10_init_732 (by decide) ?_
  refine va_bast hx hb hK hP hD hS 6 3 rfl rfl (by simp only [vp_in]; decide) dX10_init_734 (fun H locs hp hd hs => ?_)
  obtain ⟨f_121, hf_121⟩ : ∃ f : Nat → Int32, upd f_120 114 97 = f := ⟨_, rfl⟩
  refine kz_re (w2 := [(h0, .inr (10, [.int 0, .ref q_1, .ref q_2, .ref q_3, .ref q_4, .ref q_5, .int 0, .null, .int 0, .int 0, .int 0, .null, .null, .int 0, .int 0, .null, .null, .null, .int 0, .int 0, .int 0, .int 0, .int 0, .int 0, .int 0, .int 0, .null, .int 0, .int 0, .null, .null, .null, .int 0, .null, .null, .null, .null, .int 0, .int 0, .null, .null, .null, .null, .null, .null, .null, .int 0, .int 0, .int 0, .int 0, .int 0, .int 0, .long 0, .null, .int 0, .int 0])), (q_1, .inl (ty 0, 7, .inl (fun _ => 0))), (q_2, .inl (ty 0, 5640, .inl (fun _ => 0))), (q_3, .inl (ty 0, 11280, .inl (fun _ => 0))), (q_4, .inl (ty 2, 2, .inl (fun _ => 0))), (q_5, .inl (ty 0, 28, .inl (fun _ => 0))), (q_6, .inl (ty 3, 128, .inl f_121))]) hp hd hs (by rw [← hf_121]; rfl) ?_
  clear hp hd hs hP hD hS
  intro hP hD hS
  clear hf_121
  refine lv_dup hx hb dX10_init_735 rfl ?_
  refine lv_bipush (v := 115) hx hb dX10_init_736 (by decide) ?_
  refine lv_bipush (v := 112) hx hb dX10_init_738 (by decide) ?_
  refine va_bast hx hb hK hP hD hS 6 3 rfl rfl (by simp only [vp_in]; decide) dX10_init_740 (fun H locs hp hd hs => ?_)
  obtain ⟨f_122, hf_122⟩ : ∃ f : Nat → Int32, upd f_121 115 112 = f := ⟨_, rfl⟩
  refine kz_re (w2 := [(h0, .inr (10, [.int 0, .ref q_1, .ref q_2, .ref q_3, .ref q_4, .ref q_5, .int 0, .null, .int 0, .int 0, .int 0, .null, .null, .int 0, .int 0, .null, .null, .null, .int 0, .int 0, .int 0, .int 0, .int 0, .int 0, .int 0, .int 0, .null, .int 0, .int 0, .null, .null, .null, .int 0, .null, .null, .null, .null, .int 0, .int 0, .null, .null, .null, .null, .null, .null, .null, .int 0, .int 0, .int 0, .int 0, .int 0, .int 0, .long 0, .null, .int 0, .int 0])), (q_1, .inl (ty 0, 7, .inl (fun _ => 0))), (q_2, .inl (ty 0, 5640, .inl (fun _ => 0))), (q_3, .inl (ty 0, 11280, .inl (fun _ => 0))), (q_4, .inl (ty 2, 2, .inl (fun _ => 0))), (q_5, .inl (ty 0, 28, .inl (fun _ => 0))), (q_6, .inl (ty 3, 128, .inl f_122))]) hp hd hs (by rw [← hf_122]; rfl) ?_
  clear hp hd hs hP hD hS
  intro hP hD hS
  clear hf_122
  refine lv_dup hx hb dX10_init_741 rfl ?_
  refine lv_bipush (v := 116) hx hb dX10_init_742 (by decide) ?_
  refine lv_bipush (v := 32) hx hb dX10_init_744 (by decide) ?_
  refine va_bast hx hb hK hP hD hS 6 3 rfl rfl (by simp only [vp_in]; decide) dX10_init_746 (fun H locs hp hd hs => ?_)
  obtain ⟨f_123, hf_123⟩ : ∃ f : Nat → Int32, upd f_122 116 32 = f := ⟨_, rfl⟩
  refine kz_re (w2 := [(h0, .inr (10, [.int 0, .ref q_1, .ref q_2, .ref q_3, .ref q_4, .ref q_5, .int 0, .null, .int 0, .int 0, .int 0, .null, .null, .int 0, .int 0, .null, .null, .null, .int 0, .int 0, .int 0, .int 0, .int 0, .int 0, .int 0, .int 0, .null, .int 0, .int 0, .null, .null, .null, .int 0, .null, .null, .null, .null, .int 0, .int 0, .null, .null, .null, .null, .null, .null, .null, .int 0, .int 0, .int 0, .int 0, .int 0, .int 0, .long 0, .null, .int 0, .int 0])), (q_1, .inl (ty 0, 7, .inl (fun _ => 0))), (q_2, .inl (ty 0, 5640, .inl (fun _ => 0))), (q_3, .inl (ty 0, 11280, .inl (fun _ => 0))), (q_4, .inl (ty 2, 2, .inl (fun _ => 0))), (q_5, .inl (ty 0, 28, .inl (fun _ => 0))), (q_6, .inl (ty 3, 128, .inl f_123))]) hp hd hs (by rw [← hf_123]; rfl) ?_
  clear hp hd hs hP hD hS
  intro hP hD hS
  clear hf_123
  refine lv_dup hx hb dX10_init_747 rfl ?_
  refine lv_bipush (v := 117) hx hb dX10_init_748 (by decide) ?_
  refine lv_bipush (v := 112) hx hb dX10_init_750 (by decide) ?_
  refine va_bast hx hb hK hP hD hS 6 3 rfl rfl (by simp only [vp_in]; decide) dX10_init_752 (fun H locs hp hd hs => ?_)
  obtain ⟨f_124, hf_124⟩ : ∃ f : Nat → Int32, upd f_123 117 112 = f := ⟨_, rfl⟩
  refine kz_re (w2 := [(h0, .inr (10, [.int 0, .ref q_1, .ref q_2, .ref q_3, .ref q_4, .ref q_5, .int 0, .null, .int 0, .int 0, .int 0, .null, .null, .int 0, .int 0, .null, .null, .null, .int 0, .int 0, .int 0, .int 0, .int 0, .int 0, .int 0, .int 0, .null, .int 0, .int 0, .null, .null, .null, .int 0, .null, .null, .null, .null, .int 0, .int 0, .null, .null, .null, .null, .null, .null, .null, .int 0, .int 0, .int 0, .int 0, .int 0, .int 0, .long 0, .null, .int 0, .int 0])), (q_1, .inl (ty 0, 7, .inl (fun _ => 0))), (q_2, .inl (ty 0, 5640, .inl (fun _ => 0))), (q_3, .inl (ty 0, 11280, .inl (fun _ => 0))), (q_4, .inl (ty 2, 2, .inl (fun _ => 0))), (q_5, .inl (ty 0, 28, .inl (fun _ => 0))), (q_6, .inl (ty 3, 128, .inl f_124))]) hp hd hs (by rw [← hf_124]; rfl) ?_
  clear hp hd hs hP hD hS
  intro hP hD hS
  clear hf_124
  refine lv_dup hx hb dX10_init_753 rfl ?_
  refine lv_bipush (v := 118) hx hb dX10_init_754 (by decide) ?_
  refine lv_bipush (v := 97) hx hb dX10_init_756 (by decide) ?_
  refine va_bast hx hb hK hP hD hS 6 3 rfl rfl (by simp only [vp_in]; decide) dX10_init_758 (fun H locs hp hd hs => ?_)
  obtain ⟨f_125, hf_125⟩ : ∃ f : Nat → Int32, upd f_124 118 97 = f := ⟨_, rfl⟩
  refine kz_re (w2 := [(h0, .inr (10, [.int 0, .ref q_1, .ref q_2, .ref q_3, .ref q_4, .ref q_5, .int 0, .null, .int 0, .int 0, .int 0, .null, .null, .int 0, .int 0, .null, .null, .null, .int 0, .int 0, .int 0, .int 0, .int 0, .int 0, .int 0, .int 0, .null, .int 0, .int 0, .null, .null, .null, .int 0, .null, .null, .null, .null, .int 0, .int 0, .null, .null, .null, .null, .null, .null, .null, .int 0, .int 0, .int 0, .int 0, .int 0, .int 0, .long 0, .null, .int 0, .int 0])), (q_1, .inl (ty 0, 7, .inl (fun _ => 0))), (q_2, .inl (ty 0, 5640, .inl (fun _ => 0))), (q_3, .inl (ty 0, 11280, .inl (fun _ => 0))), (q_4, .inl (ty 2, 2, .inl (fun _ => 0))), (q_5, .inl (ty 0, 28, .inl (fun _ => 0))), (q_6, .inl (ty 3, 128, .inl f_125))]) hp hd hs (by rw [← hf_125]; rfl) ?_
  clear hp hd hs hP hD hS
  intro hP hD hS
  clear hf_125
  refine lv_dup hx hb dX10_init_759 rfl ?_
  refine lv_bipush (v := 119) hx hb dX10_init_760 (by decide) ?_
  refine lv_bipush (v := 115) hx hb dX10_init_762 (by decide) ?_
  refine va_bast hx hb hK hP hD hS 6 3 rfl rfl (by simp only [vp_in]; decide) dX10_init_764 (fun H locs hp hd hs => ?_)
  obtain ⟨f_126, hf_126⟩ : ∃ f : Nat → Int32, upd f_125 119 115 = f := ⟨_, rfl⟩
  refine kz_re (w2 := [(h0, .inr (10, [.int 0, .ref q_1, .ref q_2, .ref q_3, .ref q_4, .ref q_5, .int 0, .null, .int 0, .int 0, .int 0, .null, .null, .int 0, .int 0, .null, .null, .null, .int 0, .int 0, .int 0, .int 0, .int 0, .int 0, .int 0, .int 0, .null, .int 0, .int 0, .null, .null, .null, .int 0, .null, .null, .null, .null, .int 0, .int 0, .null, .null, .null, .null, .null, .null, .null, .int 0, .int 0, .int 0, .int 0, .int 0, .int 0, .long 0, .null, .int 0, .int 0])), (q_1, .inl (ty 0, 7, .inl (fun _ => 0))), (q_2, .inl (ty 0, 5640, .inl (fun _ => 0))), (q_3, .inl (ty 0, 11280, .inl (fun _ => 0))), (q_4, .inl (ty 2, 2, .inl (fun _ => 0))), (q_5, .inl (ty 0, 28, .inl (fun _ => 0))), (q_6, .inl (ty 3, 128, .inl f_126))]) hp hd hs (by rw [← hf_126]; rfl) ?_
  clear hp hd hs hP hD hS
  intro hP hD hS
  clear hf_126
  refine lv_dup hx hb dX10_init_765 rfl ?_
  refine lv_bipush (v := 120) hx hb dX10_init_766 (by decide) ?_
  refine lv_bipush (v := 115) hx hb dX10_init_768 (by decide) ?_
  refine va_bast hx hb hK hP hD hS 6 3 rfl rfl (by simp only [vp_in]; decide) dX10_init_770 (fun H locs hp hd hs => ?_)
  obtain ⟨f_127, hf_127⟩ : ∃ f : Nat → Int32, upd f_126 120 115 = f := ⟨_, rfl⟩
  refine kz_re (w2 := [(h0, .inr (10, [.int 0, .ref q_1, .ref q_2, .ref q_3, .ref q_4, .ref q_5, .int 0, .null, .int 0, .int 0, .int 0, .null, .null, .int 0, .int 0, .null, .null, .null, .int 0, .int 0, .int 0, .int 0, .int 0, .int 0, .int 0, .int 0, .null, .int 0, .int 0, .null, .null, .null, .int 0, .null, .null, .null, .null, .int 0, .int 0, .null, .null, .null, .null, .null, .null, .null, .int 0, .int 0, .int 0, .int 0, .int 0, .int 0, .long 0, .null, .int 0, .int 0])), (q_1, .inl (ty 0, 7, .inl (fun _ => 0))), (q_2, .inl (ty 0, 5640, .inl (fun _ => 0))), (q_3, .inl (ty 0, 11280, .inl (fun _ => 0))), (q_4, .inl (ty 2, 2, .inl (fun _ => 0))), (q_5, .inl (ty 0, 28, .inl (fun _ => 0))), (q_6, .inl (ty 3, 128, .inl f_127))]) hp hd hs (by rw [← hf_127]; rfl) ?_
  clear hp hd hs hP hD hS
  intro hP hD hS
  clear hf_127
  refine lv_dup hx hb dX10_init_771 rfl ?_
  refine lv_bipush (v := 121) hx hb dX10_init_772 (by decide) ?_
  refine lv_bipush (v := 32) hx hb dX10_init_774 (by decide) ?_
  refine va_bast hx hb hK hP hD hS 6 3 rfl rfl (by simp only [vp_in]; decide) dX10_init_776 (fun H locs hp hd hs => ?_)
  obtain ⟨f_128, hf_128⟩ : ∃ f : Nat → Int32, upd f_127 121 32 = f := ⟨_, rfl⟩
  refine kz_re (w2 := [(h0, .inr (10, [.int 0, .ref q_1, .ref q_2, .ref q_3, .ref q_4, .ref q_5, .int 0, .null, .int 0, .int 0, .int 0, .null, .null, .int 0, .int 0, .null, .null, .null, .int 0, .int 0, .int 0, .int 0, .int 0, .int 0, .int 0, .int 0, .null, .int 0, .int 0, .null, .null, .null, .int 0, .null, .null, .null, .null, .int 0, .int 0, .null, .null, .null, .null, .null, .null, .null, .int 0, .int 0, .int 0, .int 0, .int 0, .int 0, .long 0, .null, .int 0, .int 0])), (q_1, .inl (ty 0, 7, .inl (fun _ => 0))), (q_2, .inl (ty 0, 5640, .inl (fun _ => 0))), (q_3, .inl (ty 0, 11280, .inl (fun _ => 0))), (q_4, .inl (ty 2, 2, .inl (fun _ => 0))), (q_5, .inl (ty 0, 28, .inl (fun _ => 0))), (q_6, .inl (ty 3, 128, .inl f_128))]) hp hd hs (by rw [← hf_128]; rfl) ?_
  clear hp hd hs hP hD hS
  intro hP hD hS
  clear hf_128
  refine lv_dup hx hb dX10_init_777 rfl ?_
  refine lv_bipush (v := 122) hx hb dX10_init_778 (by decide) ?_
  refine lv_bipush (v := 116) hx hb dX10_init_780 (by decide) ?_
  refine va_bast hx hb hK hP hD hS 6 3 rfl rfl (by simp only [vp_in]; decide) dX10_init_782 (fun H locs hp hd hs => ?_)
  obtain ⟨f_129, hf_129⟩ : ∃ f : Nat → Int32, upd f_128 122 116 = f := ⟨_, rfl⟩
  refine kz_re (w2 := [(h0, .inr (10, [.int 0, .ref q_1, .ref q_2, .ref q_3, .ref q_4, .ref q_5, .int 0, .null, .int 0, .int 0, .int 0, .null, .null, .int 0, .int 0, .null, .null, .null, .int 0, .int 0, .int 0, .int 0, .int 0, .int 0, .int 0, .int 0, .null, .int 0, .int 0, .null, .null, .null, .int 0, .null, .null, .null, .null, .int 0, .int 0, .null, .null, .null, .null, .null, .null, .null, .int 0, .int 0, .int 0, .int 0, .int 0, .int 0, .long 0, .null, .int 0, .int 0])), (q_1, .inl (ty 0, 7, .inl (fun _ => 0))), (q_2, .inl (ty 0, 5640, .inl (fun _ => 0))), (q_3, .inl (ty 0, 11280, .inl (fun _ => 0))), (q_4, .inl (ty 2, 2, .inl (fun _ => 0))), (q_5, .inl (ty 0, 28, .inl (fun _ => 0))), (q_6, .inl (ty 3, 128, .inl f_129))]) hp hd hs (by rw [← hf_129]; rfl) ?_
  clear hp hd hs hP hD hS
  intro hP hD hS
  clear hf_129
  refine lv_dup hx hb dX10_init_783 rfl ?_
  refine lv_bipush (v := 123) hx hb dX10_init_784 (by decide) ?_
  refine lv_bipush (v := 105) hx hb dX10_init_786 (by decide) ?_
  refine va_bast hx hb hK hP hD hS 6 3 rfl rfl (by simp only [vp_in]; decide) dX10_init_788 (fun H locs hp hd hs => ?_)
  obtain ⟨f_130, hf_130⟩ : ∃ f : Nat → Int32, upd f_129 123 105 = f := ⟨_, rfl⟩
  refine kz_re (w2 := [(h0, .inr (10, [.int 0, .ref q_1, .ref q_2, .ref q_3, .ref q_4, .ref q_5, .int 0, .null, .int 0, .int 0, .int 0, .null, .null, .int 0, .int 0, .null, .null, .null, .int 0, .int 0, .int 0, .int 0, .int 0, .int 0, .int 0, .int 0, .null, .int 0, .int 0, .null, .null, .null, .int 0, .null, .null, .null, .null, .int 0, .int 0, .null, .null, .null, .null, .null, .null, .null, .int 0, .int 0, .int 0, .int 0, .int 0, .int 0, .long 0, .null, .int 0, .int 0])), (q_1, .inl (ty 0, 7, .inl (fun _ => 0))), (q_2, .inl (ty 0, 5640, .inl (fun _ => 0))), (q_3, .inl (ty 0, 11280, .inl (fun _ => 0))), (q_4, .inl (ty 2, 2, .inl (fun _ => 0))), (q_5, .inl (ty 0, 28, .inl (fun _ => 0))), (q_6, .inl (ty 3, 128, .inl f_130))]) hp hd hs (by rw [← hf_130]; rfl) ?_
  clear hp hd hs hP hD hS
  intro hP hD hS
  clear hf_130
  refine lv_dup hx hb dX10_init_789 rfl ?_
  refine lv_bipush (v := 124) hx hb dX10_init_790 (by decide) ?_
  refine lv_bipush (v := 109) hx hb dX10_init_792 (by decide) ?_
  refine va_bast hx hb hK hP hD hS 6 3 rfl rfl (by simp only [vp_in]; decide) dX10_init_794 (fun H locs hp hd hs => ?_)
  obtain ⟨f_131, hf_131⟩ : ∃ f : Nat → Int32, upd f_130 124 109 = f := ⟨_, rfl⟩
  refine kz_re (w2 := [(h0, .inr (10, [.int 0, .ref q_1, .ref q_2, .ref q_3, .ref q_4, .ref q_5, .int 0, .null, .int 0, .int 0, .int 0, .null, .null, .int 0, .int 0, .null, .null, .null, .int 0, .int 0, .int 0, .int 0, .int 0, .int 0, .int 0, .int 0, .null, .int 0, .int 0, .null, .null, .null, .int 0, .null, .null, .null, .null, .int 0, .int 0, .null, .null, .null, .null, .null, .null, .null, .int 0, .int 0, .int 0, .int 0, .int 0, .int 0, .long 0, .null, .int 0, .int 0])), (q_1, .inl (ty 0, 7, .inl (fun _ => 0))), (q_2, .inl (ty 0, 5640, .inl (fun _ => 0))), (q_3, .inl (ty 0, 11280, .inl (fun _ => 0))), (q_4, .inl (ty 2, 2, .inl (fun _ => 0))), (q_5, .inl (ty 0, 28, .inl (fun _ => 0))), (q_6, .inl (ty 3, 128, .inl f_131))]) hp hd hs (by rw [← hf_131]; rfl) ?_
  clear hp hd hs hP hD hS
  intro hP hD hS
  clear hf_131
  refine lv_dup hx hb dX10_init_795 rfl ?_
  refine lv_bipush (v := 125) hx hb dX10_init_796 (by decide) ?_
  refine lv_bipush (v := 101) hx hb dX10_init_798 (by decide) ?_
  refine va_bast hx hb hK hP hD hS 6 3 rfl rfl (by simp only [vp_in]; decide) dX10_init_800 (fun H locs hp hd hs => ?_)
  obtain ⟨f_132, hf_132⟩ : ∃ f : Nat → Int32, upd f_131 125 101 = f := ⟨_, rfl⟩
  refine kz_re (w2 := [(h0, .inr (10, [.int 0, .ref q_1, .ref q_2, .ref q_3, .ref q_4, .ref q_5, .int 0, .null, .int 0, .int 0, .int 0, .null, .null, .int 0, .int 0, .null, .null, .null, .int 0, .int 0, .int 0, .int 0, .int 0, .int 0, .int 0, .int 0, .null, .int 0, .int 0, .null, .null, .null, .int 0, .null, .null, .null, .null, .int 0, .int 0, .null, .null, .null, .null, .null, .null, .null, .int 0, .int 0, .int 0, .int 0, .int 0, .int 0, .long 0, .null, .int 0, .int 0])), (q_1, .inl (ty 0, 7, .inl (fun _ => 0))), (q_2, .inl (ty 0, 5640, .inl (fun _ => 0))), (q_3, .inl (ty 0, 11280, .inl (fun _ => 0))), (q_4, .inl (ty 2, 2, .inl (fun _ => 0))), (q_5, .inl (ty 0, 28, .inl (fun _ => 0))), (q_6, .inl (ty 3, 128, .inl f_132))]) hp hd hs (by rw [← hf_132]; rfl) ?_
  clear hp hd hs hP hD hS
  intro hP hD hS
  clear hf_132
  refine lv_dup hx hb dX10_init_801 rfl ?_
  refine lv_bipush (v := 126) hx hb dX10_init_802 (by decide) ?_
  refine lv_bipush (v := 115) hx hb dX10_init_804 (by decide) ?_
  refine va_bast hx hb hK hP hD hS 6 3 rfl rfl (by simp only [vp_in]; decide) dX10_init_806 (fun H locs hp hd hs => ?_)
  obtain ⟨f_133, hf_133⟩ : ∃ f : Nat → Int32, upd f_132 126 115 = f := ⟨_, rfl⟩
  refine kz_re (w2 := [(h0, .inr (10, [.int 0, .ref q_1, .ref q_2, .ref q_3, .ref q_4, .ref q_5, .int 0, .null, .int 0, .int 0, .int 0, .null, .null, .int 0, .int 0, .null, .null, .null, .int 0, .int 0, .int 0, .int 0, .int 0, .int 0, .int 0, .int 0, .null, .int 0, .int 0, .null, .null, .null, .int 0, .null, .null, .null, .null, .int 0, .int 0, .null, .null, .null, .null, .null, .null, .null, .int 0, .int 0, .int 0, .int 0, .int 0, .int 0, .long 0, .null, .int 0, .int 0])), (q_1, .inl (ty 0, 7, .inl (fun _ => 0))), (q_2, .inl (ty 0, 5640, .inl (fun _ => 0))), (q_3, .inl (ty 0, 11280, .inl (fun _ => 0))), (q_4, .inl (ty 2, 2, .inl (fun _ => 0))), (q_5, .inl (ty 0, 28, .inl (fun _ => 0))), (q_6, .inl (ty 3, 128, .inl f_133))]) hp hd hs (by rw [← hf_133]; rfl) ?_
  clear hp hd hs hP hD hS
  intro hP hD hS
  clear hf_133
  refine lv_dup hx hb dX10_init_807 rfl ?_
  refine lv_bipush (v := 127) hx hb dX10_init_808 (by decide) ?_
  refine lv_bipush (v := 32) hx hb dX10_init_810 (by decide) ?_
  refine va_bast hx hb hK hP hD hS 6 3 rfl rfl (by simp only [vp_in]; decide) dX10_init_812 (fun H locs hp hd hs => ?_)
  obtain ⟨f_134, hf_134⟩ : ∃ f : Nat → Int32, upd f_133 127 32 = f := ⟨_, rfl⟩
  refine kz_re (w2 := [(h0, .inr (10, [.int 0, .ref q_1, .ref q_2, .ref q_3, .ref q_4, .ref q_5, .int 0, .null, .int 0, .int 0, .int 0, .null, .null, .int 0, .int 0, .null, .null, .null, .int 0, .int 0, .int 0, .int 0, .int 0, .int 0, .int 0, .int 0, .null, .int 0, .int 0, .null, .null, .null, .int 0, .null, .null, .null, .null, .int 0, .int 0, .null, .null, .null, .null, .null, .null, .null, .int 0, .int 0, .int 0, .int 0, .int 0, .int 0, .long 0, .null, .int 0, .int 0])), (q_1, .inl (ty 0, 7, .inl (fun _ => 0))), (q_2, .inl (ty 0, 5640, .inl (fun _ => 0))), (q_3, .inl (ty 0, 11280, .inl (fun _ => 0))), (q_4, .inl (ty 2, 2, .inl (fun _ => 0))), (q_5, .inl (ty 0, 28, .inl (fun _ => 0))), (q_6, .inl (ty 3, 128, .inl f_134))]) hp hd hs (by rw [← hf_134]; rfl) ?_
  clear hp hd hs hP hD hS
  intro hP hD hS
  clear hf_134
  refine va_putF (D := D) (ci := 10) (v := .ref q_6) (ty := .array .byte) (C := RX10) (T := TX10) (N := 56) hx hb hts (by decide +kernel) tyX10 tyX10_ok nmX10 hown hK hP hD hS 0 rfl rfl 7 (by decide) (hts (.fieldLink RX10 41 "TurnedFloorsModel" "words" "[B") (by decide +kernel)) (fun _ h9 => h9) rfl hin rfl (by decide +kernel) rfl rfl (Nat.le_of_ble_eq_true rfl) dX10_init_813 (fun H locs hp hd hs => ?_)
  refine kz_re (w2 := [(h0, .inr (10, [.int 0, .ref q_1, .ref q_2, .ref q_3, .ref q_4, .ref q_5, .int 0, .ref q_6, .int 0, .int 0, .int 0, .null, .null, .int 0, .int 0, .null, .null, .null, .int 0, .int 0, .int 0, .int 0, .int 0, .int 0, .int 0, .int 0, .null, .int 0, .int 0, .null, .null, .null, .int 0, .null, .null, .null, .null, .int 0, .int 0, .null, .null, .null, .null, .null, .null, .null, .int 0, .int 0, .int 0, .int 0, .int 0, .int 0, .long 0, .null, .int 0, .int 0])), (q_1, .inl (ty 0, 7, .inl (fun _ => 0))), (q_2, .inl (ty 0, 5640, .inl (fun _ => 0))), (q_3, .inl (ty 0, 11280, .inl (fun _ => 0))), (q_4, .inl (ty 2, 2, .inl (fun _ => 0))), (q_5, .inl (ty 0, 28, .inl (fun _ => 0))), (q_6, .inl (ty 3, 128, .inl f_134))]) hp hd hs rfl ?_
  clear hp hd hs hP hD hS
  intro hP hD hS
  refine lv_aload_n hx hb dX10_init_816 rfl (lv_at hl 0 rfl) ?_
  refine lv_sipush (v := 400) hx hb dX10_init_817 (by decide) ?_
  refine va_newa (atype := .byte) (ty := .byte) (N' := 400) (a0 := (400, .inl (fun _ => 0))) hx hb (hts (.arrayClass .byte) (by decide +kernel)) rfl hK hP hD hS hA (fun _ => rfl) (by decide) (by decide) (by decide) (Nat.le_of_ble_eq_true rfl) (Nat.le_of_ble_eq_true rfl) dX10_init_820 (fun q_135 cA H hK2 hp hd hs => ?_)
  obtain rfl : cA = ty 3 := kz_cA (t0 := 3) (t1 := 6) hK2 rfl rfl rfl
  refine kz_re (w2 := [(h0, .inr (10, [.int 0, .ref q_1, .ref q_2, .ref q_3, .ref q_4, .ref q_5, .int 0, .ref q_6, .int 0, .int 0, .int 0, .null, .null, .int 0, .int 0, .null, .null, .null, .int 0, .int 0, .int 0, .int 0, .int 0, .int 0, .int 0, .int 0, .null, .int 0, .int 0, .null, .null, .null, .int 0, .null, .null, .null, .null, .int 0, .int 0, .null, .null, .null, .null, .null, .null, .null, .int 0, .int 0, .int 0, .int 0, .int 0, .int 0, .long 0, .null, .int 0, .int 0])), (q_1, .inl (ty 0, 7, .inl (fun _ => 0))), (q_2, .inl (ty 0, 5640, .inl (fun _ => 0))), (q_3, .inl (ty 0, 11280, .inl (fun _ => 0))), (q_4, .inl (ty 2, 2, .inl (fun _ => 0))), (q_5, .inl (ty 0, 28, .inl (fun _ => 0))), (q_6, .inl (ty 3, 128, .inl f_134)), (q_135, .inl (ty 3, 400, .inl (fun _ => 0)))]) hp hd hs rfl ?_
  clear hp hd hs hP hD hS
  intro hP hD hS
  refine va_putF (D := D) (ci := 10) (v := .ref q_135) (ty := .array .byte) (C := RX10) (T := TX10) (N := 56) hx hb hts (by decide +kernel) tyX10 tyX10_ok nmX10 hown hK hP hD hS 0 rfl rfl 11 (by decide) (hts (.fieldLink RX10 45 "TurnedFloorsModel" "tape" "[B") (by decide +kernel)) (fun _ h9 => h9) rfl hin rfl (by decide +kernel) rfl rfl (Nat.le_of_ble_eq_true rfl) dX10_init_822 (fun H locs hp hd hs => ?_)
  refine kz_re (w2 := [(h0, .inr (10, [.int 0, .ref q_1, .ref q_2, .ref q_3, .ref q_4, .ref q_5, .int 0, .ref q_6, .int 0, .int 0, .int 0, .ref q_135, .null, .int 0, .int 0, .null, .null, .null, .int 0, .int 0, .int 0, .int 0, .int 0, .int 0, .int 0, .int 0, .null, .int 0, .int 0, .null, .null, .null, .int 0, .null, .null, .null, .null, .int 0, .int 0, .null, .null, .null, .null, .null, .null, .null, .int 0, .int 0, .int 0, .int 0, .int 0, .int 0, .long 0, .null, .int 0, .int 0])), (q_1, .inl (ty 0, 7, .inl (fun _ => 0))), (q_2, .inl (ty 0, 5640, .inl (fun _ => 0))), (q_3, .inl (ty 0, 11280, .inl (fun _ => 0))), (q_4, .inl (ty 2, 2, .inl (fun _ => 0))), (q_5, .inl (ty 0, 28, .inl (fun _ => 0))), (q_6, .inl (ty 3, 128, .inl f_134)), (q_135, .inl (ty 3, 400, .inl (fun _ => 0)))]) hp hd hs rfl ?_
  clear hp hd hs hP hD hS
  intro hP hD hS
  refine lv_aload_n hx hb dX10_init_825 rfl (lv_at hl 0 rfl) ?_
  refine lv_iconst (v := 5) hx hb dX10_init_826 (by decide) ?_
  refine va_newa (atype := .int) (ty := .int) (N' := 5) (a0 := (5, .inl (fun _ => 0))) hx hb (hts (.arrayClass .int) (by decide +kernel)) rfl hK hP hD hS hA (fun _ => rfl) (by decide) (by decide) (by decide) (Nat.le_of_ble_eq_true rfl) (Nat.le_of_ble_eq_true rfl) dX10_init_827 (fun q_136 cA H hK2 hp hd hs => ?_)
  obtain rfl : cA = ty 0 := kz_cA (t0 := 0) (t1 := 6) hK2 rfl rfl rfl
  refine kz_re (w2 := [(h0, .inr (10, [.int 0, .ref q_1, .ref q_2, .ref q_3, .ref q_4, .ref q_5, .int 0, .ref q_6, .int 0, .int 0, .int 0, .ref q_135, .null, .int 0, .int 0, .null, .null, .null, .int 0, .int 0, .int 0, .int 0, .int 0, .int 0, .int 0, .int 0, .null, .int 0, .int 0, .null, .null, .null, .int 0, .null, .null, .null, .null, .int 0, .int 0, .null, .null, .null, .null, .null, .null, .null, .int 0, .int 0, .int 0, .int 0, .int 0, .int 0, .long 0, .null, .int 0, .int 0])), (q_1, .inl (ty 0, 7, .inl (fun _ => 0))), (q_2, .inl (ty 0, 5640, .inl (fun _ => 0))), (q_3, .inl (ty 0, 11280, .inl (fun _ => 0))), (q_4, .inl (ty 2, 2, .inl (fun _ => 0))), (q_5, .inl (ty 0, 28, .inl (fun _ => 0))), (q_6, .inl (ty 3, 128, .inl f_134)), (q_135, .inl (ty 3, 400, .inl (fun _ => 0))), (q_136, .inl (ty 0, 5, .inl (fun _ => 0)))]) hp hd hs rfl ?_
  clear hp hd hs hP hD hS
  intro hP hD hS
  refine va_putF (D := D) (ci := 10) (v := .ref q_136) (ty := .array .int) (C := RX10) (T := TX10) (N := 56) hx hb hts (by decide +kernel) tyX10 tyX10_ok nmX10 hown hK hP hD hS 0 rfl rfl 12 (by decide) (hts (.fieldLink RX10 48 "TurnedFloorsModel" "five" "[I") (by decide +kernel)) (fun _ h9 => h9) rfl hin rfl (by decide +kernel) rfl rfl (Nat.le_of_ble_eq_true rfl) dX10_init_829 (fun H locs hp hd hs => ?_)
  refine kz_re (w2 := [(h0, .inr (10, [.int 0, .ref q_1, .ref q_2, .ref q_3, .ref q_4, .ref q_5, .int 0, .ref q_6, .int 0, .int 0, .int 0, .ref q_135, .ref q_136, .int 0, .int 0, .null, .null, .null, .int 0, .int 0, .int 0, .int 0, .int 0, .int 0, .int 0, .int 0, .null, .int 0, .int 0, .null, .null, .null, .int 0, .null, .null, .null, .null, .int 0, .int 0, .null, .null, .null, .null, .null, .null, .null, .int 0, .int 0, .int 0, .int 0, .int 0, .int 0, .long 0, .null, .int 0, .int 0])), (q_1, .inl (ty 0, 7, .inl (fun _ => 0))), (q_2, .inl (ty 0, 5640, .inl (fun _ => 0))), (q_3, .inl (ty 0, 11280, .inl (fun _ => 0))), (q_4, .inl (ty 2, 2, .inl (fun _ => 0))), (q_5, .inl (ty 0, 28, .inl (fun _ => 0))), (q_6, .inl (ty 3, 128, .inl f_134)), (q_135, .inl (ty 3, 400, .inl (fun _ => 0))), (q_136, .inl (ty 0, 5, .inl (fun _ => 0)))]) hp hd hs rfl ?_
  clear hp hd hs hP hD hS
  intro hP hD hS
  refine lv_aload_n hx hb dX10_init_832 rfl (lv_at hl 0 rfl) ?_
  refine lv_iconst (v := (-1)) hx hb dX10_init_833 (by decide) ?_
  refine va_put (D := D) (ci := 10) (v := .int (-1)) (ty := .int) (C := RX10) (T := TX10) (N := 56) hx hb hts (by decide +kernel) tyX10 tyX10_ok nmX10 hown hK hP hD hS 0 rfl rfl 14 (by decide) (hts (.fieldLink RX10 51 "TurnedFloorsModel" "fault" "I") (by decide +kernel)) (fun _ h9 => h9) rfl (by decide +kernel) rfl rfl (Nat.le_of_ble_eq_true rfl) dX10_init_834 (fun H locs hp hd hs => ?_)
  refine kz_re (w2 := [(h0, .inr (10, [.int 0, .ref q_1, .ref q_2, .ref q_3, .ref q_4, .ref q_5, .int 0, .ref q_6, .int 0, .int 0, .int 0, .ref q_135, .ref q_136, .int 0, .int (-1), .null, .null, .null, .int 0, .int 0, .int 0, .int 0, .int 0, .int 0, .int 0, .int 0, .null, .int 0, .int 0, .null, .null, .null, .int 0, .null, .null, .null, .null, .int 0, .int 0, .null, .null, .null, .null, .null, .null, .null, .int 0, .int 0, .int 0, .int 0, .int 0, .int 0, .long 0, .null, .int 0, .int 0])), (q_1, .inl (ty 0, 7, .inl (fun _ => 0))), (q_2, .inl (ty 0, 5640, .inl (fun _ => 0))), (q_3, .inl (ty 0, 11280, .inl (fun _ => 0))), (q_4, .inl (ty 2, 2, .inl (fun _ => 0))), (q_5, .inl (ty 0, 28, .inl (fun _ => 0))), (q_6, .inl (ty 3, 128, .inl f_134)), (q_135, .inl (ty 3, 400, .inl (fun _ => 0))), (q_136, .inl (ty 0, 5, .inl (fun _ => 0)))]) hp hd hs rfl ?_
  clear hp hd hs hP hD hS
  intro hP hD hS
  refine lv_aload_n hx hb dX10_init_837 rfl (lv_at hl 0 rfl) ?_
  refine lv_sipush (v := 401) hx hb dX10_init_838 (by decide) ?_
  refine va_newa (atype := .int) (ty := .int) (N' := 401) (a0 := (401, .inl (fun _ => 0))) hx hb (hts (.arrayClass .int) (by decide +kernel)) rfl hK hP hD hS hA (fun _ => rfl) (by decide) (by decide) (by decide) (Nat.le_of_ble_eq_true rfl) (Nat.le_of_ble_eq_true rfl) dX10_init_841 (fun q_137 cA H hK2 hp hd hs => ?_)
  obtain rfl : cA = ty 0 := kz_cA (t0 := 0) (t1 := 6) hK2 rfl rfl rfl
  refine kz_re (w2 := [(h0, .inr (10, [.int 0, .ref q_1, .ref q_2, .ref q_3, .ref q_4, .ref q_5, .int 0, .ref q_6, .int 0, .int 0, .int 0, .ref q_135, .ref q_136, .int 0, .int (-1), .null, .null, .null, .int 0, .int 0, .int 0, .int 0, .int 0, .int 0, .int 0, .int 0, .null, .int 0, .int 0, .null, .null, .null, .int 0, .null, .null, .null, .null, .int 0, .int 0, .null, .null, .null, .null, .null, .null, .null, .int 0, .int 0, .int 0, .int 0, .int 0, .int 0, .long 0, .null, .int 0, .int 0])), (q_1, .inl (ty 0, 7, .inl (fun _ => 0))), (q_2, .inl (ty 0, 5640, .inl (fun _ => 0))), (q_3, .inl (ty 0, 11280, .inl (fun _ => 0))), (q_4, .inl (ty 2, 2, .inl (fun _ => 0))), (q_5, .inl (ty 0, 28, .inl (fun _ => 0))), (q_6, .inl (ty 3, 128, .inl f_134)), (q_135, .inl (ty 3, 400, .inl (fun _ => 0))), (q_136, .inl (ty 0, 5, .inl (fun _ => 0))), (q_137, .inl (ty 0, 401, .inl (fun _ => 0)))]) hp hd hs rfl ?_
  clear hp hd hs hP hD hS
  intro hP hD hS
  refine va_putF (D := D) (ci := 10) (v := .ref q_137) (ty := .array .int) (C := RX10) (T := TX10) (N := 56) hx hb hts (by decide +kernel) tyX10 tyX10_ok nmX10 hown hK hP hD hS 0 rfl rfl 15 (by decide) (hts (.fieldLink RX10 54 "TurnedFloorsModel" "code" "[I") (by decide +kernel)) (fun _ h9 => h9) rfl hin rfl (by decide +kernel) rfl rfl (Nat.le_of_ble_eq_true rfl) dX10_init_843 (fun H locs hp hd hs => ?_)
  refine kz_re (w2 := [(h0, .inr (10, [.int 0, .ref q_1, .ref q_2, .ref q_3, .ref q_4, .ref q_5, .int 0, .ref q_6, .int 0, .int 0, .int 0, .ref q_135, .ref q_136, .int 0, .int (-1), .ref q_137, .null, .null, .int 0, .int 0, .int 0, .int 0, .int 0, .int 0, .int 0, .int 0, .null, .int 0, .int 0, .null, .null, .null, .int 0, .null, .null, .null, .null, .int 0, .int 0, .null, .null, .null, .null, .null, .null, .null, .int 0, .int 0, .int 0, .int 0, .int 0, .int 0, .long 0, .null, .int 0, .int 0])), (q_1, .inl (ty 0, 7, .inl (fun _ => 0))), (q_2, .inl (ty 0, 5640, .inl (fun _ => 0))), (q_3, .inl (ty 0, 11280, .inl (fun _ => 0))), (q_4, .inl (ty 2, 2, .inl (fun _ => 0))), (q_5, .inl (ty 0, 28, .inl (fun _ => 0))), (q_6, .inl (ty 3, 128, .inl f_134)), (q_135, .inl (ty 3, 400, .inl (fun _ => 0))), (q_136, .inl (ty 0, 5, .inl (fun _ => 0))), (q_137, .inl (ty 0, 401, .inl (fun _ => 0)))]) hp hd hs rfl ?_
  clear hp hd hs hP hD hS
  intro hP hD hS
  refine lv_aload_n hx hb dX10_init_846 rfl (lv_at hl 0 rfl) ?_
  refine lv_sipush (v := 401) hx hb dX10_init_847 (by decide) ?_
  refine va_newa (atype := .int) (ty := .int) (N' := 401) (a0 := (401, .inl (fun _ => 0))) hx hb (hts (.arrayClass .int) (by decide +kernel)) rfl hK hP hD hS hA (fun _ => rfl) (by decide) (by decide) (by decide) (Nat.le_of_ble_eq_true rfl) (Nat.le_of_ble_eq_true rfl) dX10_init_850 (fun q_138 cA H hK2 hp hd hs => ?_)
  obtain rfl : cA = ty 0 := kz_cA (t0 := 0) (t1 := 6) hK2 rfl rfl rfl
  refine kz_re (w2 := [(h0, .inr (10, [.int 0, .ref q_1, .ref q_2, .ref q_3, .ref q_4, .ref q_5, .int 0, .ref q_6, .int 0, .int 0, .int 0, .ref q_135, .ref q_136, .int 0, .int (-1), .ref q_137, .null, .null, .int 0, .int 0, .int 0, .int 0, .int 0, .int 0, .int 0, .int 0, .null, .int 0, .int 0, .null, .null, .null, .int 0, .null, .null, .null, .null, .int 0, .int 0, .null, .null, .null, .null, .null, .null, .null, .int 0, .int 0, .int 0, .int 0, .int 0, .int 0, .long 0, .null, .int 0, .int 0])), (q_1, .inl (ty 0, 7, .inl (fun _ => 0))), (q_2, .inl (ty 0, 5640, .inl (fun _ => 0))), (q_3, .inl (ty 0, 11280, .inl (fun _ => 0))), (q_4, .inl (ty 2, 2, .inl (fun _ => 0))), (q_5, .inl (ty 0, 28, .inl (fun _ => 0))), (q_6, .inl (ty 3, 128, .inl f_134)), (q_135, .inl (ty 3, 400, .inl (fun _ => 0))), (q_136, .inl (ty 0, 5, .inl (fun _ => 0))), (q_137, .inl (ty 0, 401, .inl (fun _ => 0))), (q_138, .inl (ty 0, 401, .inl (fun _ => 0)))]) hp hd hs rfl ?_
  clear hp hd hs hP hD hS
  intro hP hD hS
  refine va_putF (D := D) (ci := 10) (v := .ref q_138) (ty := .array .int) (C := RX10) (T := TX10) (N := 56) hx hb hts (by decide +kernel) tyX10 tyX10_ok nmX10 hown hK hP hD hS 0 rfl rfl 16 (by decide) (hts (.fieldLink RX10 57 "TurnedFloorsModel" "value" "[I") (by decide +kernel)) (fun _ h9 => h9) rfl hin rfl (by decide +kernel) rfl rfl (Nat.le_of_ble_eq_true rfl) dX10_init_852 (fun H locs hp hd hs => ?_)
  refine kz_re (w2 := [(h0, .inr (10, [.int 0, .ref q_1, .ref q_2, .ref q_3, .ref q_4, .ref q_5, .int 0, .ref q_6, .int 0, .int 0, .int 0, .ref q_135, .ref q_136, .int 0, .int (-1), .ref q_137, .ref q_138, .null, .int 0, .int 0, .int 0, .int 0, .int 0, .int 0, .int 0, .int 0, .null, .int 0, .int 0, .null, .null, .null, .int 0, .null, .null, .null, .null, .int 0, .int 0, .null, .null, .null, .null, .null, .null, .null, .int 0, .int 0, .int 0, .int 0, .int 0, .int 0, .long 0, .null, .int 0, .int 0])), (q_1, .inl (ty 0, 7, .inl (fun _ => 0))), (q_2, .inl (ty 0, 5640, .inl (fun _ => 0))), (q_3, .inl (ty 0, 11280, .inl (fun _ => 0))), (q_4, .inl (ty 2, 2, .inl (fun _ => 0))), (q_5, .inl (ty 0, 28, .inl (fun _ => 0))), (q_6, .inl (ty 3, 128, .inl f_134)), (q_135, .inl (ty 3, 400, .inl (fun _ => 0))), (q_136, .inl (ty 0, 5, .inl (fun _ => 0))), (q_137, .inl (ty 0, 401, .inl (fun _ => 0))), (q_138, .inl (ty 0, 401, .inl (fun _ => 0)))]) hp hd hs rfl ?_
  clear hp hd hs hP hD hS
  intro hP hD hS
  refine lv_aload_n hx hb dX10_init_855 rfl (lv_at hl 0 rfl) ?_
  refine lv_sipush (v := 401) hx hb dX10_init_856 (by decide) ?_
  refine va_newa (atype := .int) (ty := .int) (N' := 401) (a0 := (401, .inl (fun _ => 0))) hx hb (hts (.arrayClass .int) (by decide +kernel)) rfl hK hP hD hS hA (fun _ => rfl) (by decide) (by decide) (by decide) (Nat.le_of_ble_eq_true rfl) (Nat.le_of_ble_eq_true rfl) dX10_init_859 (fun q_139 cA H hK2 hp hd hs => ?_)
  obtain rfl : cA = ty 0 := kz_cA (t0 := 0) (t1 := 6) hK2 rfl rfl rfl
  refine kz_re (w2 := [(h0, .inr (10, [.int 0, .ref q_1, .ref q_2, .ref q_3, .ref q_4, .ref q_5, .int 0, .ref q_6, .int 0, .int 0, .int 0, .ref q_135, .ref q_136, .int 0, .int (-1), .ref q_137, .ref q_138, .null, .int 0, .int 0, .int 0, .int 0, .int 0, .int 0, .int 0, .int 0, .null, .int 0, .int 0, .null, .null, .null, .int 0, .null, .null, .null, .null, .int 0, .int 0, .null, .null, .null, .null, .null, .null, .null, .int 0, .int 0, .int 0, .int 0, .int 0, .int 0, .long 0, .null, .int 0, .int 0])), (q_1, .inl (ty 0, 7, .inl (fun _ => 0))), (q_2, .inl (ty 0, 5640, .inl (fun _ => 0))), (q_3, .inl (ty 0, 11280, .inl (fun _ => 0))), (q_4, .inl (ty 2, 2, .inl (fun _ => 0))), (q_5, .inl (ty 0, 28, .inl (fun _ => 0))), (q_6, .inl (ty 3, 128, .inl f_134)), (q_135, .inl (ty 3, 400, .inl (fun _ => 0))), (q_136, .inl (ty 0, 5, .inl (fun _ => 0))), (q_137, .inl (ty 0, 401, .inl (fun _ => 0))), (q_138, .inl (ty 0, 401, .inl (fun _ => 0))), (q_139, .inl (ty 0, 401, .inl (fun _ => 0)))]) hp hd hs rfl ?_
  clear hp hd hs hP hD hS
  intro hP hD hS
  refine va_putF (D := D) (ci := 10) (v := .ref q_139) (ty := .array .int) (C := RX10) (T := TX10) (N := 56) hx hb hts (by decide +kernel) tyX10 tyX10_ok nmX10 hown hK hP hD hS 0 rfl rfl 17 (by decide) (hts (.fieldLink RX10 60 "TurnedFloorsModel" "placed" "[I") (by decide +kernel)) (fun _ h9 => h9) rfl hin rfl (by decide +kernel) rfl rfl (Nat.le_of_ble_eq_true rfl) dX10_init_861 (fun H locs hp hd hs => ?_)
  refine kz_re (w2 := [(h0, .inr (10, [.int 0, .ref q_1, .ref q_2, .ref q_3, .ref q_4, .ref q_5, .int 0, .ref q_6, .int 0, .int 0, .int 0, .ref q_135, .ref q_136, .int 0, .int (-1), .ref q_137, .ref q_138, .ref q_139, .int 0, .int 0, .int 0, .int 0, .int 0, .int 0, .int 0, .int 0, .null, .int 0, .int 0, .null, .null, .null, .int 0, .null, .null, .null, .null, .int 0, .int 0, .null, .null, .null, .null, .null, .null, .null, .int 0, .int 0, .int 0, .int 0, .int 0, .int 0, .long 0, .null, .int 0, .int 0])), (q_1, .inl (ty 0, 7, .inl (fun _ => 0))), (q_2, .inl (ty 0, 5640, .inl (fun _ => 0))), (q_3, .inl (ty 0, 11280, .inl (fun _ => 0))), (q_4, .inl (ty 2, 2, .inl (fun _ => 0))), (q_5, .inl (ty 0, 28, .inl (fun _ => 0))), (q_6, .inl (ty 3, 128, .inl f_134)), (q_135, .inl (ty 3, 400, .inl (fun _ => 0))), (q_136, .inl (ty 0, 5, .inl (fun _ => 0))), (q_137, .inl (ty 0, 401, .inl (fun _ => 0))), (q_138, .inl (ty 0, 401, .inl (fun _ => 0))), (q_139, .inl (ty 0, 401, .inl (fun _ => 0)))]) hp hd hs rfl ?_
  clear hp hd hs hP hD hS
  intro hP hD hS
  refine lv_aload_n hx hb dX10_init_864 rfl (lv_at hl 0 rfl) ?_
  refine lv_bipush (v := 9) hx hb dX10_init_865 (by decide) ?_
  refine va_newa (atype := .int) (ty := .int) (N' := 9) (a0 := (9, .inl (fun _ => 0))) hx hb (hts (.arrayClass .int) (by decide +kernel)) rfl hK hP hD hS hA (fun _ => rfl) (by decide) (by decide) (by decide) (Nat.le_of_ble_eq_true rfl) (Nat.le_of_ble_eq_true rfl) dX10_init_867 (fun q_140 cA H hK2 hp hd hs => ?_)
  obtain rfl : cA = ty 0 := kz_cA (t0 := 0) (t1 := 6) hK2 rfl rfl rfl
  refine kz_re (w2 := [(h0, .inr (10, [.int 0, .ref q_1, .ref q_2, .ref q_3, .ref q_4, .ref q_5, .int 0, .ref q_6, .int 0, .int 0, .int 0, .ref q_135, .ref q_136, .int 0, .int (-1), .ref q_137, .ref q_138, .ref q_139, .int 0, .int 0, .int 0, .int 0, .int 0, .int 0, .int 0, .int 0, .null, .int 0, .int 0, .null, .null, .null, .int 0, .null, .null, .null, .null, .int 0, .int 0, .null, .null, .null, .null, .null, .null, .null, .int 0, .int 0, .int 0, .int 0, .int 0, .int 0, .long 0, .null, .int 0, .int 0])), (q_1, .inl (ty 0, 7, .inl (fun _ => 0))), (q_2, .inl (ty 0, 5640, .inl (fun _ => 0))), (q_3, .inl (ty 0, 11280, .inl (fun _ => 0))), (q_4, .inl (ty 2, 2, .inl (fun _ => 0))), (q_5, .inl (ty 0, 28, .inl (fun _ => 0))), (q_6, .inl (ty 3, 128, .inl f_134)), (q_135, .inl (ty 3, 400, .inl (fun _ => 0))), (q_136, .inl (ty 0, 5, .inl (fun _ => 0))), (q_137, .inl (ty 0, 401, .inl (fun _ => 0))), (q_138, .inl (ty 0, 401, .inl (fun _ => 0))), (q_139, .inl (ty 0, 401, .inl (fun _ => 0))), (q_140, .inl (ty 0, 9, .inl (fun _ => 0)))]) hp hd hs rfl ?_
  clear hp hd hs hP hD hS
  intro hP hD hS
  refine va_putF (D := D) (ci := 10) (v := .ref q_140) (ty := .array .int) (C := RX10) (T := TX10) (N := 56) hx hb hts (by decide +kernel) tyX10 tyX10_ok nmX10 hown hK hP hD hS 0 rfl rfl 26 (by decide) (hts (.fieldLink RX10 63 "TurnedFloorsModel" "asked" "[I") (by decide +kernel)) (fun _ h9 => h9) rfl hin rfl (by decide +kernel) rfl rfl (Nat.le_of_ble_eq_true rfl) dX10_init_869 (fun H locs hp hd hs => ?_)
  refine kz_re (w2 := [(h0, .inr (10, [.int 0, .ref q_1, .ref q_2, .ref q_3, .ref q_4, .ref q_5, .int 0, .ref q_6, .int 0, .int 0, .int 0, .ref q_135, .ref q_136, .int 0, .int (-1), .ref q_137, .ref q_138, .ref q_139, .int 0, .int 0, .int 0, .int 0, .int 0, .int 0, .int 0, .int 0, .ref q_140, .int 0, .int 0, .null, .null, .null, .int 0, .null, .null, .null, .null, .int 0, .int 0, .null, .null, .null, .null, .null, .null, .null, .int 0, .int 0, .int 0, .int 0, .int 0, .int 0, .long 0, .null, .int 0, .int 0])), (q_1, .inl (ty 0, 7, .inl (fun _ => 0))), (q_2, .inl (ty 0, 5640, .inl (fun _ => 0))), (q_3, .inl (ty 0, 11280, .inl (fun _ => 0))), (q_4, .inl (ty 2, 2, .inl (fun _ => 0))), (q_5, .inl (ty 0, 28, .inl (fun _ => 0))), (q_6, .inl (ty 3, 128, .inl f_134)), (q_135, .inl (ty 3, 400, .inl (fun _ => 0))), (q_136, .inl (ty 0, 5, .inl (fun _ => 0))), (q_137, .inl (ty 0, 401, .inl (fun _ => 0))), (q_138, .inl (ty 0, 401, .inl (fun _ => 0))), (q_139, .inl (ty 0, 401, .inl (fun _ => 0))), (q_140, .inl (ty 0, 9, .inl (fun _ => 0)))]) hp hd hs rfl ?_
  clear hp hd hs hP hD hS
  intro hP hD hS
  refine lv_aload_n hx hb dX10_init_872 rfl (lv_at hl 0 rfl) ?_
  refine lv_bipush (v := 6) hx hb dX10_init_873 (by decide) ?_
  refine va_newa (atype := .boolean) (ty := .boolean) (N' := 6) (a0 := (6, .inl (fun _ => 0))) hx hb (hts (.arrayClass .boolean) (by decide +kernel)) rfl hK hP hD hS hA (fun _ => rfl) (by decide) (by decide) (by decide) (Nat.le_of_ble_eq_true rfl) (Nat.le_of_ble_eq_true rfl) dX10_init_875 (fun q_141 cA H hK2 hp hd hs => ?_)
  obtain rfl : cA = ty 2 := kz_cA (t0 := 2) (t1 := 6) hK2 rfl rfl rfl
  refine kz_re (w2 := [(h0, .inr (10, [.int 0, .ref q_1, .ref q_2, .ref q_3, .ref q_4, .ref q_5, .int 0, .ref q_6, .int 0, .int 0, .int 0, .ref q_135, .ref q_136, .int 0, .int (-1), .ref q_137, .ref q_138, .ref q_139, .int 0, .int 0, .int 0, .int 0, .int 0, .int 0, .int 0, .int 0, .ref q_140, .int 0, .int 0, .null, .null, .null, .int 0, .null, .null, .null, .null, .int 0, .int 0, .null, .null, .null, .null, .null, .null, .null, .int 0, .int 0, .int 0, .int 0, .int 0, .int 0, .long 0, .null, .int 0, .int 0])), (q_1, .inl (ty 0, 7, .inl (fun _ => 0))), (q_2, .inl (ty 0, 5640, .inl (fun _ => 0))), (q_3, .inl (ty 0, 11280, .inl (fun _ => 0))), (q_4, .inl (ty 2, 2, .inl (fun _ => 0))), (q_5, .inl (ty 0, 28, .inl (fun _ => 0))), (q_6, .inl (ty 3, 128, .inl f_134)), (q_135, .inl (ty 3, 400, .inl (fun _ => 0))), (q_136, .inl (ty 0, 5, .inl (fun _ => 0))), (q_137, .inl (ty 0, 401, .inl (fun _ => 0))), (q_138, .inl (ty 0, 401, .inl (fun _ => 0))), (q_139, .inl (ty 0, 401, .inl (fun _ => 0))), (q_140, .inl (ty 0, 9, .inl (fun _ => 0))), (q_141, .inl (ty 2, 6, .inl (fun _ => 0)))]) hp hd hs rfl ?_
  clear hp hd hs hP hD hS
  intro hP hD hS
  refine va_putF (D := D) (ci := 10) (v := .ref q_141) (ty := .array .boolean) (C := RX10) (T := TX10) (N := 56) hx hb hts (by decide +kernel) tyX10 tyX10_ok nmX10 hown hK hP hD hS 0 rfl rfl 29 (by decide) (hts (.fieldLink RX10 66 "TurnedFloorsModel" "tipping" "[Z") (by decide +kernel)) (fun _ h9 => h9) rfl hin rfl (by decide +kernel) rfl rfl (Nat.le_of_ble_eq_true rfl) dX10_init_877 (fun H locs hp hd hs => ?_)
  refine kz_re (w2 := [(h0, .inr (10, [.int 0, .ref q_1, .ref q_2, .ref q_3, .ref q_4, .ref q_5, .int 0, .ref q_6, .int 0, .int 0, .int 0, .ref q_135, .ref q_136, .int 0, .int (-1), .ref q_137, .ref q_138, .ref q_139, .int 0, .int 0, .int 0, .int 0, .int 0, .int 0, .int 0, .int 0, .ref q_140, .int 0, .int 0, .ref q_141, .null, .null, .int 0, .null, .null, .null, .null, .int 0, .int 0, .null, .null, .null, .null, .null, .null, .null, .int 0, .int 0, .int 0, .int 0, .int 0, .int 0, .long 0, .null, .int 0, .int 0])), (q_1, .inl (ty 0, 7, .inl (fun _ => 0))), (q_2, .inl (ty 0, 5640, .inl (fun _ => 0))), (q_3, .inl (ty 0, 11280, .inl (fun _ => 0))), (q_4, .inl (ty 2, 2, .inl (fun _ => 0))), (q_5, .inl (ty 0, 28, .inl (fun _ => 0))), (q_6, .inl (ty 3, 128, .inl f_134)), (q_135, .inl (ty 3, 400, .inl (fun _ => 0))), (q_136, .inl (ty 0, 5, .inl (fun _ => 0))), (q_137, .inl (ty 0, 401, .inl (fun _ => 0))), (q_138, .inl (ty 0, 401, .inl (fun _ => 0))), (q_139, .inl (ty 0, 401, .inl (fun _ => 0))), (q_140, .inl (ty 0, 9, .inl (fun _ => 0))), (q_141, .inl (ty 2, 6, .inl (fun _ => 0)))]) hp hd hs rfl ?_
  clear hp hd hs hP hD hS
  intro hP hD hS
  refine lv_aload_n hx hb dX10_init_880 rfl (lv_at hl 0 rfl) ?_
  refine lv_sipush (v := 240) hx hb dX10_init_881 (by decide) ?_
  refine va_newa (atype := .int) (ty := .int) (N' := 240) (a0 := (240, .inl (fun _ => 0))) hx hb (hts (.arrayClass .int) (by decide +kernel)) rfl hK hP hD hS hA (fun _ => rfl) (by decide) (by decide) (by decide) (Nat.le_of_ble_eq_true rfl) (Nat.le_of_ble_eq_true rfl) dX10_init_884 (fun q_142 cA H hK2 hp hd hs => ?_)
  obtain rfl : cA = ty 0 := kz_cA (t0 := 0) (t1 := 6) hK2 rfl rfl rfl
  refine kz_re (w2 := [(h0, .inr (10, [.int 0, .ref q_1, .ref q_2, .ref q_3, .ref q_4, .ref q_5, .int 0, .ref q_6, .int 0, .int 0, .int 0, .ref q_135, .ref q_136, .int 0, .int (-1), .ref q_137, .ref q_138, .ref q_139, .int 0, .int 0, .int 0, .int 0, .int 0, .int 0, .int 0, .int 0, .ref q_140, .int 0, .int 0, .ref q_141, .null, .null, .int 0, .null, .null, .null, .null, .int 0, .int 0, .null, .null, .null, .null, .null, .null, .null, .int 0, .int 0, .int 0, .int 0, .int 0, .int 0, .long 0, .null, .int 0, .int 0])), (q_1, .inl (ty 0, 7, .inl (fun _ => 0))), (q_2, .inl (ty 0, 5640, .inl (fun _ => 0))), (q_3, .inl (ty 0, 11280, .inl (fun _ => 0))), (q_4, .inl (ty 2, 2, .inl (fun _ => 0))), (q_5, .inl (ty 0, 28, .inl (fun _ => 0))), (q_6, .inl (ty 3, 128, .inl f_134)), (q_135, .inl (ty 3, 400, .inl (fun _ => 0))), (q_136, .inl (ty 0, 5, .inl (fun _ => 0))), (q_137, .inl (ty 0, 401, .inl (fun _ => 0))), (q_138, .inl (ty 0, 401, .inl (fun _ => 0))), (q_139, .inl (ty 0, 401, .inl (fun _ => 0))), (q_140, .inl (ty 0, 9, .inl (fun _ => 0))), (q_141, .inl (ty 2, 6, .inl (fun _ => 0))), (q_142, .inl (ty 0, 240, .inl (fun _ => 0)))]) hp hd hs rfl ?_
  clear hp hd hs hP hD hS
  intro hP hD hS
  refine va_putF (D := D) (ci := 10) (v := .ref q_142) (ty := .array .int) (C := RX10) (T := TX10) (N := 56) hx hb hts (by decide +kernel) tyX10 tyX10_ok nmX10 hown hK hP hD hS 0 rfl rfl 30 (by decide) (hts (.fieldLink RX10 69 "TurnedFloorsModel" "left0" "[I") (by decide +kernel)) (fun _ h9 => h9) rfl hin rfl (by decide +kernel) rfl rfl (Nat.le_of_ble_eq_true rfl) dX10_init_886 (fun H locs hp hd hs => ?_)
  refine kz_re (w2 := [(h0, .inr (10, [.int 0, .ref q_1, .ref q_2, .ref q_3, .ref q_4, .ref q_5, .int 0, .ref q_6, .int 0, .int 0, .int 0, .ref q_135, .ref q_136, .int 0, .int (-1), .ref q_137, .ref q_138, .ref q_139, .int 0, .int 0, .int 0, .int 0, .int 0, .int 0, .int 0, .int 0, .ref q_140, .int 0, .int 0, .ref q_141, .ref q_142, .null, .int 0, .null, .null, .null, .null, .int 0, .int 0, .null, .null, .null, .null, .null, .null, .null, .int 0, .int 0, .int 0, .int 0, .int 0, .int 0, .long 0, .null, .int 0, .int 0])), (q_1, .inl (ty 0, 7, .inl (fun _ => 0))), (q_2, .inl (ty 0, 5640, .inl (fun _ => 0))), (q_3, .inl (ty 0, 11280, .inl (fun _ => 0))), (q_4, .inl (ty 2, 2, .inl (fun _ => 0))), (q_5, .inl (ty 0, 28, .inl (fun _ => 0))), (q_6, .inl (ty 3, 128, .inl f_134)), (q_135, .inl (ty 3, 400, .inl (fun _ => 0))), (q_136, .inl (ty 0, 5, .inl (fun _ => 0))), (q_137, .inl (ty 0, 401, .inl (fun _ => 0))), (q_138, .inl (ty 0, 401, .inl (fun _ => 0))), (q_139, .inl (ty 0, 401, .inl (fun _ => 0))), (q_140, .inl (ty 0, 9, .inl (fun _ => 0))), (q_141, .inl (ty 2, 6, .inl (fun _ => 0))), (q_142, .inl (ty 0, 240, .inl (fun _ => 0)))]) hp hd hs rfl ?_
  clear hp hd hs hP hD hS
  intro hP hD hS
  refine lv_aload_n hx hb dX10_init_889 rfl (lv_at hl 0 rfl) ?_
  refine lv_sipush (v := 240) hx hb dX10_init_890 (by decide) ?_
  refine va_newa (atype := .int) (ty := .int) (N' := 240) (a0 := (240, .inl (fun _ => 0))) hx hb (hts (.arrayClass .int) (by decide +kernel)) rfl hK hP hD hS hA (fun _ => rfl) (by decide) (by decide) (by decide) (Nat.le_of_ble_eq_true rfl) (Nat.le_of_ble_eq_true rfl) dX10_init_893 (fun q_143 cA H hK2 hp hd hs => ?_)
  obtain rfl : cA = ty 0 := kz_cA (t0 := 0) (t1 := 6) hK2 rfl rfl rfl
  refine kz_re (w2 := [(h0, .inr (10, [.int 0, .ref q_1, .ref q_2, .ref q_3, .ref q_4, .ref q_5, .int 0, .ref q_6, .int 0, .int 0, .int 0, .ref q_135, .ref q_136, .int 0, .int (-1), .ref q_137, .ref q_138, .ref q_139, .int 0, .int 0, .int 0, .int 0, .int 0, .int 0, .int 0, .int 0, .ref q_140, .int 0, .int 0, .ref q_141, .ref q_142, .null, .int 0, .null, .null, .null, .null, .int 0, .int 0, .null, .null, .null, .null, .null, .null, .null, .int 0, .int 0, .int 0, .int 0, .int 0, .int 0, .long 0, .null, .int 0, .int 0])), (q_1, .inl (ty 0, 7, .inl (fun _ => 0))), (q_2, .inl (ty 0, 5640, .inl (fun _ => 0))), (q_3, .inl (ty 0, 11280, .inl (fun _ => 0))), (q_4, .inl (ty 2, 2, .inl (fun _ => 0))), (q_5, .inl (ty 0, 28, .inl (fun _ => 0))), (q_6, .inl (ty 3, 128, .inl f_134)), (q_135, .inl (ty 3, 400, .inl (fun _ => 0))), (q_136, .inl (ty 0, 5, .inl (fun _ => 0))), (q_137, .inl (ty 0, 401, .inl (fun _ => 0))), (q_138, .inl (ty 0, 401, .inl (fun _ => 0))), (q_139, .inl (ty 0, 401, .inl (fun _ => 0))), (q_140, .inl (ty 0, 9, .inl (fun _ => 0))), (q_141, .inl (ty 2, 6, .inl (fun _ => 0))), (q_142, .inl (ty 0, 240, .inl (fun _ => 0))), (q_143, .inl (ty 0, 240, .inl (fun _ => 0)))]) hp hd hs rfl ?_
  clear hp hd hs hP hD hS
  intro hP hD hS
  refine va_putF (D := D) (ci := 10) (v := .ref q_143) (ty := .array .int) (C := RX10) (T := TX10) (N := 56) hx hb hts (by decide +kernel) tyX10 tyX10_ok nmX10 hown hK hP hD hS 0 rfl rfl 31 (by decide) (hts (.fieldLink RX10 72 "TurnedFloorsModel" "leftAhead" "[I") (by decide +kernel)) (fun _ h9 => h9) rfl hin rfl (by decide +kernel) rfl rfl (Nat.le_of_ble_eq_true rfl) dX10_init_895 (fun H locs hp hd hs => ?_)
  refine kz_re (w2 := [(h0, .inr (10, [.int 0, .ref q_1, .ref q_2, .ref q_3, .ref q_4, .ref q_5, .int 0, .ref q_6, .int 0, .int 0, .int 0, .ref q_135, .ref q_136, .int 0, .int (-1), .ref q_137, .ref q_138, .ref q_139, .int 0, .int 0, .int 0, .int 0, .int 0, .int 0, .int 0, .int 0, .ref q_140, .int 0, .int 0, .ref q_141, .ref q_142, .ref q_143, .int 0, .null, .null, .null, .null, .int 0, .int 0, .null, .null, .null, .null, .null, .null, .null, .int 0, .int 0, .int 0, .int 0, .int 0, .int 0, .long 0, .null, .int 0, .int 0])), (q_1, .inl (ty 0, 7, .inl (fun _ => 0))), (q_2, .inl (ty 0, 5640, .inl (fun _ => 0))), (q_3, .inl (ty 0, 11280, .inl (fun _ => 0))), (q_4, .inl (ty 2, 2, .inl (fun _ => 0))), (q_5, .inl (ty 0, 28, .inl (fun _ => 0))), (q_6, .inl (ty 3, 128, .inl f_134)), (q_135, .inl (ty 3, 400, .inl (fun _ => 0))), (q_136, .inl (ty 0, 5, .inl (fun _ => 0))), (q_137, .inl (ty 0, 401, .inl (fun _ => 0))), (q_138, .inl (ty 0, 401, .inl (fun _ => 0))), (q_139, .inl (ty 0, 401, .inl (fun _ => 0))), (q_140, .inl (ty 0, 9, .inl (fun _ => 0))), (q_141, .inl (ty 2, 6, .inl (fun _ => 0))), (q_142, .inl (ty 0, 240, .inl (fun _ => 0))), (q_143, .inl (ty 0, 240, .inl (fun _ => 0)))]) hp hd hs rfl ?_
  clear hp hd hs hP hD hS
  intro hP hD hS
  refine lv_aload_n hx hb dX10_init_898 rfl (lv_at hl 0 rfl) ?_
  refine lv_sipush (v := 4320) hx hb dX10_init_899 (by decide) ?_
  refine va_newa (atype := .int) (ty := .int) (N' := 4320) (a0 := (4320, .inl (fun _ => 0))) hx hb (hts (.arrayClass .int) (by decide +kernel)) rfl hK hP hD hS hA (fun _ => rfl) (by decide) (by decide) (by decide) (Nat.le_of_ble_eq_true rfl) (Nat.le_of_ble_eq_true rfl) dX10_init_902 (fun q_144 cA H hK2 hp hd hs => ?_)
  obtain rfl : cA = ty 0 := kz_cA (t0 := 0) (t1 := 6) hK2 rfl rfl rfl
  refine kz_re (w2 := [(h0, .inr (10, [.int 0, .ref q_1, .ref q_2, .ref q_3, .ref q_4, .ref q_5, .int 0, .ref q_6, .int 0, .int 0, .int 0, .ref q_135, .ref q_136, .int 0, .int (-1), .ref q_137, .ref q_138, .ref q_139, .int 0, .int 0, .int 0, .int 0, .int 0, .int 0, .int 0, .int 0, .ref q_140, .int 0, .int 0, .ref q_141, .ref q_142, .ref q_143, .int 0, .null, .null, .null, .null, .int 0, .int 0, .null, .null, .null, .null, .null, .null, .null, .int 0, .int 0, .int 0, .int 0, .int 0, .int 0, .long 0, .null, .int 0, .int 0])), (q_1, .inl (ty 0, 7, .inl (fun _ => 0))), (q_2, .inl (ty 0, 5640, .inl (fun _ => 0))), (q_3, .inl (ty 0, 11280, .inl (fun _ => 0))), (q_4, .inl (ty 2, 2, .inl (fun _ => 0))), (q_5, .inl (ty 0, 28, .inl (fun _ => 0))), (q_6, .inl (ty 3, 128, .inl f_134)), (q_135, .inl (ty 3, 400, .inl (fun _ => 0))), (q_136, .inl (ty 0, 5, .inl (fun _ => 0))), (q_137, .inl (ty 0, 401, .inl (fun _ => 0))), (q_138, .inl (ty 0, 401, .inl (fun _ => 0))), (q_139, .inl (ty 0, 401, .inl (fun _ => 0))), (q_140, .inl (ty 0, 9, .inl (fun _ => 0))), (q_141, .inl (ty 2, 6, .inl (fun _ => 0))), (q_142, .inl (ty 0, 240, .inl (fun _ => 0))), (q_143, .inl (ty 0, 240, .inl (fun _ => 0))), (q_144, .inl (ty 0, 4320, .inl (fun _ => 0)))]) hp hd hs rfl ?_
  clear hp hd hs hP hD hS
  intro hP hD hS
  refine va_putF (D := D) (ci := 10) (v := .ref q_144) (ty := .array .int) (C := RX10) (T := TX10) (N := 56) hx hb hts (by decide +kernel) tyX10 tyX10_ok nmX10 hown hK hP hD hS 0 rfl rfl 33 (by decide) (hts (.fieldLink RX10 75 "TurnedFloorsModel" "rankAt" "[I") (by decide +kernel)) (fun _ h9 => h9) rfl hin rfl (by decide +kernel) rfl rfl (Nat.le_of_ble_eq_true rfl) dX10_init_904 (fun H locs hp hd hs => ?_)
  refine kz_re (w2 := [(h0, .inr (10, [.int 0, .ref q_1, .ref q_2, .ref q_3, .ref q_4, .ref q_5, .int 0, .ref q_6, .int 0, .int 0, .int 0, .ref q_135, .ref q_136, .int 0, .int (-1), .ref q_137, .ref q_138, .ref q_139, .int 0, .int 0, .int 0, .int 0, .int 0, .int 0, .int 0, .int 0, .ref q_140, .int 0, .int 0, .ref q_141, .ref q_142, .ref q_143, .int 0, .ref q_144, .null, .null, .null, .int 0, .int 0, .null, .null, .null, .null, .null, .null, .null, .int 0, .int 0, .int 0, .int 0, .int 0, .int 0, .long 0, .null, .int 0, .int 0])), (q_1, .inl (ty 0, 7, .inl (fun _ => 0))), (q_2, .inl (ty 0, 5640, .inl (fun _ => 0))), (q_3, .inl (ty 0, 11280, .inl (fun _ => 0))), (q_4, .inl (ty 2, 2, .inl (fun _ => 0))), (q_5, .inl (ty 0, 28, .inl (fun _ => 0))), (q_6, .inl (ty 3, 128, .inl f_134)), (q_135, .inl (ty 3, 400, .inl (fun _ => 0))), (q_136, .inl (ty 0, 5, .inl (fun _ => 0))), (q_137, .inl (ty 0, 401, .inl (fun _ => 0))), (q_138, .inl (ty 0, 401, .inl (fun _ => 0))), (q_139, .inl (ty 0, 401, .inl (fun _ => 0))), (q_140, .inl (ty 0, 9, .inl (fun _ => 0))), (q_141, .inl (ty 2, 6, .inl (fun _ => 0))), (q_142, .inl (ty 0, 240, .inl (fun _ => 0))), (q_143, .inl (ty 0, 240, .inl (fun _ => 0))), (q_144, .inl (ty 0, 4320, .inl (fun _ => 0)))]) hp hd hs rfl ?_
  clear hp hd hs hP hD hS
  intro hP hD hS
  refine lv_aload_n hx hb dX10_init_907 rfl (lv_at hl 0 rfl) ?_
  refine lv_sipush (v := 5040) hx hb dX10_init_908 (by decide) ?_
  refine va_newa (atype := .int) (ty := .int) (N' := 5040) (a0 := (5040, .inl (fun _ => 0))) hx hb (hts (.arrayClass .int) (by decide +kernel)) rfl hK hP hD hS hA (fun _ => rfl) (by decide) (by decide) (by decide) (Nat.le_of_ble_eq_true rfl) (Nat.le_of_ble_eq_true rfl) dX10_init_911 (fun q_145 cA H hK2 hp hd hs => ?_)
  obtain rfl : cA = ty 0 := kz_cA (t0 := 0) (t1 := 6) hK2 rfl rfl rfl
  refine kz_re (w2 := [(h0, .inr (10, [.int 0, .ref q_1, .ref q_2, .ref q_3, .ref q_4, .ref q_5, .int 0, .ref q_6, .int 0, .int 0, .int 0, .ref q_135, .ref q_136, .int 0, .int (-1), .ref q_137, .ref q_138, .ref q_139, .int 0, .int 0, .int 0, .int 0, .int 0, .int 0, .int 0, .int 0, .ref q_140, .int 0, .int 0, .ref q_141, .ref q_142, .ref q_143, .int 0, .ref q_144, .null, .null, .null, .int 0, .int 0, .null, .null, .null, .null, .null, .null, .null, .int 0, .int 0, .int 0, .int 0, .int 0, .int 0, .long 0, .null, .int 0, .int 0])), (q_1, .inl (ty 0, 7, .inl (fun _ => 0))), (q_2, .inl (ty 0, 5640, .inl (fun _ => 0))), (q_3, .inl (ty 0, 11280, .inl (fun _ => 0))), (q_4, .inl (ty 2, 2, .inl (fun _ => 0))), (q_5, .inl (ty 0, 28, .inl (fun _ => 0))), (q_6, .inl (ty 3, 128, .inl f_134)), (q_135, .inl (ty 3, 400, .inl (fun _ => 0))), (q_136, .inl (ty 0, 5, .inl (fun _ => 0))), (q_137, .inl (ty 0, 401, .inl (fun _ => 0))), (q_138, .inl (ty 0, 401, .inl (fun _ => 0))), (q_139, .inl (ty 0, 401, .inl (fun _ => 0))), (q_140, .inl (ty 0, 9, .inl (fun _ => 0))), (q_141, .inl (ty 2, 6, .inl (fun _ => 0))), (q_142, .inl (ty 0, 240, .inl (fun _ => 0))), (q_143, .inl (ty 0, 240, .inl (fun _ => 0))), (q_144, .inl (ty 0, 4320, .inl (fun _ => 0))), (q_145, .inl (ty 0, 5040, .inl (fun _ => 0)))]) hp hd hs rfl ?_
  clear hp hd hs hP hD hS
  intro hP hD hS
  refine va_putF (D := D) (ci := 10) (v := .ref q_145) (ty := .array .int) (C := RX10) (T := TX10) (N := 56) hx hb hts (by decide +kernel) tyX10 tyX10_ok nmX10 hown hK hP hD hS 0 rfl rfl 34 (by decide) (hts (.fieldLink RX10 78 "TurnedFloorsModel" "orderBy" "[I") (by decide +kernel)) (fun _ h9 => h9) rfl hin rfl (by decide +kernel) rfl rfl (Nat.le_of_ble_eq_true rfl) dX10_init_913 (fun H locs hp hd hs => ?_)
  refine kz_re (w2 := [(h0, .inr (10, [.int 0, .ref q_1, .ref q_2, .ref q_3, .ref q_4, .ref q_5, .int 0, .ref q_6, .int 0, .int 0, .int 0, .ref q_135, .ref q_136, .int 0, .int (-1), .ref q_137, .ref q_138, .ref q_139, .int 0, .int 0, .int 0, .int 0, .int 0, .int 0, .int 0, .int 0, .ref q_140, .int 0, .int 0, .ref q_141, .ref q_142, .ref q_143, .int 0, .ref q_144, .ref q_145, .null, .null, .int 0, .int 0, .null, .null, .null, .null, .null, .null, .null, .int 0, .int 0, .int 0, .int 0, .int 0, .int 0, .long 0, .null, .int 0, .int 0])), (q_1, .inl (ty 0, 7, .inl (fun _ => 0))), (q_2, .inl (ty 0, 5640, .inl (fun _ => 0))), (q_3, .inl (ty 0, 11280, .inl (fun _ => 0))), (q_4, .inl (ty 2, 2, .inl (fun _ => 0))), (q_5, .inl (ty 0, 28, .inl (fun _ => 0))), (q_6, .inl (ty 3, 128, .inl f_134)), (q_135, .inl (ty 3, 400, .inl (fun _ => 0))), (q_136, .inl (ty 0, 5, .inl (fun _ => 0))), (q_137, .inl (ty 0, 401, .inl (fun _ => 0))), (q_138, .inl (ty 0, 401, .inl (fun _ => 0))), (q_139, .inl (ty 0, 401, .inl (fun _ => 0))), (q_140, .inl (ty 0, 9, .inl (fun _ => 0))), (q_141, .inl (ty 2, 6, .inl (fun _ => 0))), (q_142, .inl (ty 0, 240, .inl (fun _ => 0))), (q_143, .inl (ty 0, 240, .inl (fun _ => 0))), (q_144, .inl (ty 0, 4320, .inl (fun _ => 0))), (q_145, .inl (ty 0, 5040, .inl (fun _ => 0)))]) hp hd hs rfl ?_
  clear hp hd hs hP hD hS
  intro hP hD hS
  refine lv_aload_n hx hb dX10_init_916 rfl (lv_at hl 0 rfl) ?_
  refine lv_sipush (v := 448) hx hb dX10_init_917 (by decide) ?_
  refine va_newa (atype := .int) (ty := .int) (N' := 448) (a0 := (448, .inl (fun _ => 0))) hx hb (hts (.arrayClass .int) (by decide +kernel)) rfl hK hP hD hS hA (fun _ => rfl) (by decide) (by decide) (by decide) (Nat.le_of_ble_eq_true rfl) (Nat.le_of_ble_eq_true rfl) dX10_init_920 (fun q_146 cA H hK2 hp hd hs => ?_)
  obtain rfl : cA = ty 0 := kz_cA (t0 := 0) (t1 := 6) hK2 rfl rfl rfl
  refine kz_re (w2 := [(h0, .inr (10, [.int 0, .ref q_1, .ref q_2, .ref q_3, .ref q_4, .ref q_5, .int 0, .ref q_6, .int 0, .int 0, .int 0, .ref q_135, .ref q_136, .int 0, .int (-1), .ref q_137, .ref q_138, .ref q_139, .int 0, .int 0, .int 0, .int 0, .int 0, .int 0, .int 0, .int 0, .ref q_140, .int 0, .int 0, .ref q_141, .ref q_142, .ref q_143, .int 0, .ref q_144, .ref q_145, .null, .null, .int 0, .int 0, .null, .null, .null, .null, .null, .null, .null, .int 0, .int 0, .int 0, .int 0, .int 0, .int 0, .long 0, .null, .int 0, .int 0])), (q_1, .inl (ty 0, 7, .inl (fun _ => 0))), (q_2, .inl (ty 0, 5640, .inl (fun _ => 0))), (q_3, .inl (ty 0, 11280, .inl (fun _ => 0))), (q_4, .inl (ty 2, 2, .inl (fun _ => 0))), (q_5, .inl (ty 0, 28, .inl (fun _ => 0))), (q_6, .inl (ty 3, 128, .inl f_134)), (q_135, .inl (ty 3, 400, .inl (fun _ => 0))), (q_136, .inl (ty 0, 5, .inl (fun _ => 0))), (q_137, .inl (ty 0, 401, .inl (fun _ => 0))), (q_138, .inl (ty 0, 401, .inl (fun _ => 0))), (q_139, .inl (ty 0, 401, .inl (fun _ => 0))), (q_140, .inl (ty 0, 9, .inl (fun _ => 0))), (q_141, .inl (ty 2, 6, .inl (fun _ => 0))), (q_142, .inl (ty 0, 240, .inl (fun _ => 0))), (q_143, .inl (ty 0, 240, .inl (fun _ => 0))), (q_144, .inl (ty 0, 4320, .inl (fun _ => 0))), (q_145, .inl (ty 0, 5040, .inl (fun _ => 0))), (q_146, .inl (ty 0, 448, .inl (fun _ => 0)))]) hp hd hs rfl ?_
  clear hp hd hs hP hD hS
  intro hP hD hS
  refine va_putF (D := D) (ci := 10) (v := .ref q_146) (ty := .array .int) (C := RX10) (T := TX10) (N := 56) hx hb hts (by decide +kernel) tyX10 tyX10_ok nmX10 hown hK hP hD hS 0 rfl rfl 35 (by decide) (hts (.fieldLink RX10 81 "TurnedFloorsModel" "headsBy" "[I") (by decide +kernel)) (fun _ h9 => h9) rfl hin rfl (by decide +kernel) rfl rfl (Nat.le_of_ble_eq_true rfl) dX10_init_922 (fun H locs hp hd hs => ?_)
  refine kz_re (w2 := [(h0, .inr (10, [.int 0, .ref q_1, .ref q_2, .ref q_3, .ref q_4, .ref q_5, .int 0, .ref q_6, .int 0, .int 0, .int 0, .ref q_135, .ref q_136, .int 0, .int (-1), .ref q_137, .ref q_138, .ref q_139, .int 0, .int 0, .int 0, .int 0, .int 0, .int 0, .int 0, .int 0, .ref q_140, .int 0, .int 0, .ref q_141, .ref q_142, .ref q_143, .int 0, .ref q_144, .ref q_145, .ref q_146, .null, .int 0, .int 0, .null, .null, .null, .null, .null, .null, .null, .int 0, .int 0, .int 0, .int 0, .int 0, .int 0, .long 0, .null, .int 0, .int 0])), (q_1, .inl (ty 0, 7, .inl (fun _ => 0))), (q_2, .inl (ty 0, 5640, .inl (fun _ => 0))), (q_3, .inl (ty 0, 11280, .inl (fun _ => 0))), (q_4, .inl (ty 2, 2, .inl (fun _ => 0))), (q_5, .inl (ty 0, 28, .inl (fun _ => 0))), (q_6, .inl (ty 3, 128, .inl f_134)), (q_135, .inl (ty 3, 400, .inl (fun _ => 0))), (q_136, .inl (ty 0, 5, .inl (fun _ => 0))), (q_137, .inl (ty 0, 401, .inl (fun _ => 0))), (q_138, .inl (ty 0, 401, .inl (fun _ => 0))), (q_139, .inl (ty 0, 401, .inl (fun _ => 0))), (q_140, .inl (ty 0, 9, .inl (fun _ => 0))), (q_141, .inl (ty 2, 6, .inl (fun _ => 0))), (q_142, .inl (ty 0, 240, .inl (fun _ => 0))), (q_143, .inl (ty 0, 240, .inl (fun _ => 0))), (q_144, .inl (ty 0, 4320, .inl (fun _ => 0))), (q_145, .inl (ty 0, 5040, .inl (fun _ => 0))), (q_146, .inl (ty 0, 448, .inl (fun _ => 0)))]) hp hd hs rfl ?_
  clear hp hd hs hP hD hS
  intro hP hD hS
  refine lv_aload_n hx hb dX10_init_925 rfl (lv_at hl 0 rfl) ?_
  refine lv_bipush (v := 6) hx hb dX10_init_926 (by decide) ?_
  refine va_newa (atype := .int) (ty := .int) (N' := 6) (a0 := (6, .inl (fun _ => 0))) hx hb (hts (.arrayClass .int) (by decide +kernel)) rfl hK hP hD hS hA (fun _ => rfl) (by decide) (by decide) (by decide) (Nat.le_of_ble_eq_true rfl) (Nat.le_of_ble_eq_true rfl) dX10_init_928 (fun q_147 cA H hK2 hp hd hs => ?_)
  obtain rfl : cA = ty 0 := kz_cA (t0 := 0) (t1 := 6) hK2 rfl rfl rfl
  refine kz_re (w2 := [(h0, .inr (10, [.int 0, .ref q_1, .ref q_2, .ref q_3, .ref q_4, .ref q_5, .int 0, .ref q_6, .int 0, .int 0, .int 0, .ref q_135, .ref q_136, .int 0, .int (-1), .ref q_137, .ref q_138, .ref q_139, .int 0, .int 0, .int 0, .int 0, .int 0, .int 0, .int 0, .int 0, .ref q_140, .int 0, .int 0, .ref q_141, .ref q_142, .ref q_143, .int 0, .ref q_144, .ref q_145, .ref q_146, .null, .int 0, .int 0, .null, .null, .null, .null, .null, .null, .null, .int 0, .int 0, .int 0, .int 0, .int 0, .int 0, .long 0, .null, .int 0, .int 0])), (q_1, .inl (ty 0, 7, .inl (fun _ => 0))), (q_2, .inl (ty 0, 5640, .inl (fun _ => 0))), (q_3, .inl (ty 0, 11280, .inl (fun _ => 0))), (q_4, .inl (ty 2, 2, .inl (fun _ => 0))), (q_5, .inl (ty 0, 28, .inl (fun _ => 0))), (q_6, .inl (ty 3, 128, .inl f_134)), (q_135, .inl (ty 3, 400, .inl (fun _ => 0))), (q_136, .inl (ty 0, 5, .inl (fun _ => 0))), (q_137, .inl (ty 0, 401, .inl (fun _ => 0))), (q_138, .inl (ty 0, 401, .inl (fun _ => 0))), (q_139, .inl (ty 0, 401, .inl (fun _ => 0))), (q_140, .inl (ty 0, 9, .inl (fun _ => 0))), (q_141, .inl (ty 2, 6, .inl (fun _ => 0))), (q_142, .inl (ty 0, 240, .inl (fun _ => 0))), (q_143, .inl (ty 0, 240, .inl (fun _ => 0))), (q_144, .inl (ty 0, 4320, .inl (fun _ => 0))), (q_145, .inl (ty 0, 5040, .inl (fun _ => 0))), (q_146, .inl (ty 0, 448, .inl (fun _ => 0))), (q_147, .inl (ty 0, 6, .inl (fun _ => 0)))]) hp hd hs rfl ?_
  clear hp hd hs hP hD hS
  intro hP hD hS
  refine va_putF (D := D) (ci := 10) (v := .ref q_147) (ty := .array .int) (C := RX10) (T := TX10) (N := 56) hx hb hts (by decide +kernel) tyX10 tyX10_ok nmX10 hown hK hP hD hS 0 rfl rfl 36 (by decide) (hts (.fieldLink RX10 84 "TurnedFloorsModel" "line" "[I") (by decide +kernel)) (fun _ h9 => h9) rfl hin rfl (by decide +kernel) rfl rfl (Nat.le_of_ble_eq_true rfl) dX10_init_930 (fun H locs hp hd hs => ?_)
  refine kz_re (w2 := [(h0, .inr (10, [.int 0, .ref q_1, .ref q_2, .ref q_3, .ref q_4, .ref q_5, .int 0, .ref q_6, .int 0, .int 0, .int 0, .ref q_135, .ref q_136, .int 0, .int (-1), .ref q_137, .ref q_138, .ref q_139, .int 0, .int 0, .int 0, .int 0, .int 0, .int 0, .int 0, .int 0, .ref q_140, .int 0, .int 0, .ref q_141, .ref q_142, .ref q_143, .int 0, .ref q_144, .ref q_145, .ref q_146, .ref q_147, .int 0, .int 0, .null, .null, .null, .null, .null, .null, .null, .int 0, .int 0, .int 0, .int 0, .int 0, .int 0, .long 0, .null, .int 0, .int 0])), (q_1, .inl (ty 0, 7, .inl (fun _ => 0))), (q_2, .inl (ty 0, 5640, .inl (fun _ => 0))), (q_3, .inl (ty 0, 11280, .inl (fun _ => 0))), (q_4, .inl (ty 2, 2, .inl (fun _ => 0))), (q_5, .inl (ty 0, 28, .inl (fun _ => 0))), (q_6, .inl (ty 3, 128, .inl f_134)), (q_135, .inl (ty 3, 400, .inl (fun _ => 0))), (q_136, .inl (ty 0, 5, .inl (fun _ => 0))), (q_137, .inl (ty 0, 401, .inl (fun _ => 0))), (q_138, .inl (ty 0, 401, .inl (fun _ => 0))), (q_139, .inl (ty 0, 401, .inl (fun _ => 0))), (q_140, .inl (ty 0, 9, .inl (fun _ => 0))), (q_141, .inl (ty 2, 6, .inl (fun _ => 0))), (q_142, .inl (ty 0, 240, .inl (fun _ => 0))), (q_143, .inl (ty 0, 240, .inl (fun _ => 0))), (q_144, .inl (ty 0, 4320, .inl (fun _ => 0))), (q_145, .inl (ty 0, 5040, .inl (fun _ => 0))), (q_146, .inl (ty 0, 448, .inl (fun _ => 0))), (q_147, .inl (ty 0, 6, .inl (fun _ => 0)))]) hp hd hs rfl ?_
  clear hp hd hs hP hD hS
  intro hP hD hS
  refine lv_aload_n hx hb dX10_init_933 rfl (lv_at hl 0 rfl) ?_
  refine lv_sipush (v := 588) hx hb dX10_init_934 (by decide) ?_
  refine va_newa (atype := .int) (ty := .int) (N' := 588) (a0 := (588, .inl (fun _ => 0))) hx hb (hts (.arrayClass .int) (by decide +kernel)) rfl hK hP hD hS hA (fun _ => rfl) (by decide) (by decide) (by decide) (Nat.le_of_ble_eq_true rfl) (Nat.le_of_ble_eq_true rfl) dX10_init_937 (fun q_148 cA H hK2 hp hd hs => ?_)
  obtain rfl : cA = ty 0 := kz_cA (t0 := 0) (t1 := 6) hK2 rfl rfl rfl
  refine kz_re (w2 := [(h0, .inr (10, [.int 0, .ref q_1, .ref q_2, .ref q_3, .ref q_4, .ref q_5, .int 0, .ref q_6, .int 0, .int 0, .int 0, .ref q_135, .ref q_136, .int 0, .int (-1), .ref q_137, .ref q_138, .ref q_139, .int 0, .int 0, .int 0, .int 0, .int 0, .int 0, .int 0, .int 0, .ref q_140, .int 0, .int 0, .ref q_141, .ref q_142, .ref q_143, .int 0, .ref q_144, .ref q_145, .ref q_146, .ref q_147, .int 0, .int 0, .null, .null, .null, .null, .null, .null, .null, .int 0, .int 0, .int 0, .int 0, .int 0, .int 0, .long 0, .null, .int 0, .int 0])), (q_1, .inl (ty 0, 7, .inl (fun _ => 0))), (q_2, .inl (ty 0, 5640, .inl (fun _ => 0))), (q_3, .inl (ty 0, 11280, .inl (fun _ => 0))), (q_4, .inl (ty 2, 2, .inl (fun _ => 0))), (q_5, .inl (ty 0, 28, .inl (fun _ => 0))), (q_6, .inl (ty 3, 128, .inl f_134)), (q_135, .inl (ty 3, 400, .inl (fun _ => 0))), (q_136, .inl (ty 0, 5, .inl (fun _ => 0))), (q_137, .inl (ty 0, 401, .inl (fun _ => 0))), (q_138, .inl (ty 0, 401, .inl (fun _ => 0))), (q_139, .inl (ty 0, 401, .inl (fun _ => 0))), (q_140, .inl (ty 0, 9, .inl (fun _ => 0))), (q_141, .inl (ty 2, 6, .inl (fun _ => 0))), (q_142, .inl (ty 0, 240, .inl (fun _ => 0))), (q_143, .inl (ty 0, 240, .inl (fun _ => 0))), (q_144, .inl (ty 0, 4320, .inl (fun _ => 0))), (q_145, .inl (ty 0, 5040, .inl (fun _ => 0))), (q_146, .inl (ty 0, 448, .inl (fun _ => 0))), (q_147, .inl (ty 0, 6, .inl (fun _ => 0))), (q_148, .inl (ty 0, 588, .inl (fun _ => 0)))]) hp hd hs rfl ?_
  clear hp hd hs hP hD hS
  intro hP hD hS
  refine va_putF (D := D) (ci := 10) (v := .ref q_148) (ty := .array .int) (C := RX10) (T := TX10) (N := 56) hx hb hts (by decide +kernel) tyX10 tyX10_ok nmX10 hown hK hP hD hS 0 rfl rfl 39 (by decide) (hts (.fieldLink RX10 87 "TurnedFloorsModel" "price" "[I") (by decide +kernel)) (fun _ h9 => h9) rfl hin rfl (by decide +kernel) rfl rfl (Nat.le_of_ble_eq_true rfl) dX10_init_939 (fun H locs hp hd hs => ?_)
  refine kz_re (w2 := [(h0, .inr (10, [.int 0, .ref q_1, .ref q_2, .ref q_3, .ref q_4, .ref q_5, .int 0, .ref q_6, .int 0, .int 0, .int 0, .ref q_135, .ref q_136, .int 0, .int (-1), .ref q_137, .ref q_138, .ref q_139, .int 0, .int 0, .int 0, .int 0, .int 0, .int 0, .int 0, .int 0, .ref q_140, .int 0, .int 0, .ref q_141, .ref q_142, .ref q_143, .int 0, .ref q_144, .ref q_145, .ref q_146, .ref q_147, .int 0, .int 0, .ref q_148, .null, .null, .null, .null, .null, .null, .int 0, .int 0, .int 0, .int 0, .int 0, .int 0, .long 0, .null, .int 0, .int 0])), (q_1, .inl (ty 0, 7, .inl (fun _ => 0))), (q_2, .inl (ty 0, 5640, .inl (fun _ => 0))), (q_3, .inl (ty 0, 11280, .inl (fun _ => 0))), (q_4, .inl (ty 2, 2, .inl (fun _ => 0))), (q_5, .inl (ty 0, 28, .inl (fun _ => 0))), (q_6, .inl (ty 3, 128, .inl f_134)), (q_135, .inl (ty 3, 400, .inl (fun _ => 0))), (q_136, .inl (ty 0, 5, .inl (fun _ => 0))), (q_137, .inl (ty 0, 401, .inl (fun _ => 0))), (q_138, .inl (ty 0, 401, .inl (fun _ => 0))), (q_139, .inl (ty 0, 401, .inl (fun _ => 0))), (q_140, .inl (ty 0, 9, .inl (fun _ => 0))), (q_141, .inl (ty 2, 6, .inl (fun _ => 0))), (q_142, .inl (ty 0, 240, .inl (fun _ => 0))), (q_143, .inl (ty 0, 240, .inl (fun _ => 0))), (q_144, .inl (ty 0, 4320, .inl (fun _ => 0))), (q_145, .inl (ty 0, 5040, .inl (fun _ => 0))), (q_146, .inl (ty 0, 448, .inl (fun _ => 0))), (q_147, .inl (ty 0, 6, .inl (fun _ => 0))), (q_148, .inl (ty 0, 588, .inl (fun _ => 0)))]) hp hd hs rfl ?_
  clear hp hd hs hP hD hS
  intro hP hD hS
  refine lv_aload_n hx hb dX10_init_942 rfl (lv_at hl 0 rfl) ?_
  refine lv_ldc (v := 46080) hx hb hown (hts (.constant RX10 90 46080) (by decide +kernel)) dX10_init_943 ?_
  refine va_newa (atype := .int) (ty := .int) (N' := 46080) (a0 := (46080, .inl (fun _ => 0))) hx hb (hts (.arrayClass .int) (by decide +kernel)) rfl hK hP hD hS hA (fun _ => rfl) (by decide) (by decide) (by decide) (Nat.le_of_ble_eq_true rfl) (Nat.le_of_ble_eq_true rfl) dX10_init_945 (fun q_149 cA H hK2 hp hd hs => ?_)
  obtain rfl : cA = ty 0 := kz_cA (t0 := 0) (t1 := 6) hK2 rfl rfl rfl
  refine kz_re (w2 := [(h0, .inr (10, [.int 0, .ref q_1, .ref q_2, .ref q_3, .ref q_4, .ref q_5, .int 0, .ref q_6, .int 0, .int 0, .int 0, .ref q_135, .ref q_136, .int 0, .int (-1), .ref q_137, .ref q_138, .ref q_139, .int 0, .int 0, .int 0, .int 0, .int 0, .int 0, .int 0, .int 0, .ref q_140, .int 0, .int 0, .ref q_141, .ref q_142, .ref q_143, .int 0, .ref q_144, .ref q_145, .ref q_146, .ref q_147, .int 0, .int 0, .ref q_148, .null, .null, .null, .null, .null, .null, .int 0, .int 0, .int 0, .int 0, .int 0, .int 0, .long 0, .null, .int 0, .int 0])), (q_1, .inl (ty 0, 7, .inl (fun _ => 0))), (q_2, .inl (ty 0, 5640, .inl (fun _ => 0))), (q_3, .inl (ty 0, 11280, .inl (fun _ => 0))), (q_4, .inl (ty 2, 2, .inl (fun _ => 0))), (q_5, .inl (ty 0, 28, .inl (fun _ => 0))), (q_6, .inl (ty 3, 128, .inl f_134)), (q_135, .inl (ty 3, 400, .inl (fun _ => 0))), (q_136, .inl (ty 0, 5, .inl (fun _ => 0))), (q_137, .inl (ty 0, 401, .inl (fun _ => 0))), (q_138, .inl (ty 0, 401, .inl (fun _ => 0))), (q_139, .inl (ty 0, 401, .inl (fun _ => 0))), (q_140, .inl (ty 0, 9, .inl (fun _ => 0))), (q_141, .inl (ty 2, 6, .inl (fun _ => 0))), (q_142, .inl (ty 0, 240, .inl (fun _ => 0))), (q_143, .inl (ty 0, 240, .inl (fun _ => 0))), (q_144, .inl (ty 0, 4320, .inl (fun _ => 0))), (q_145, .inl (ty 0, 5040, .inl (fun _ => 0))), (q_146, .inl (ty 0, 448, .inl (fun _ => 0))), (q_147, .inl (ty 0, 6, .inl (fun _ => 0))), (q_148, .inl (ty 0, 588, .inl (fun _ => 0))), (q_149, .inl (ty 0, 46080, .inl (fun _ => 0)))]) hp hd hs rfl ?_
  clear hp hd hs hP hD hS
  intro hP hD hS
  refine va_putF (D := D) (ci := 10) (v := .ref q_149) (ty := .array .int) (C := RX10) (T := TX10) (N := 56) hx hb hts (by decide +kernel) tyX10 tyX10_ok nmX10 hown hK hP hD hS 0 rfl rfl 40 (by decide) (hts (.fieldLink RX10 91 "TurnedFloorsModel" "dist" "[I") (by decide +kernel)) (fun _ h9 => h9) rfl hin rfl (by decide +kernel) rfl rfl (Nat.le_of_ble_eq_true rfl) dX10_init_947 (fun H locs hp hd hs => ?_)
  refine kz_re (w2 := [(h0, .inr (10, [.int 0, .ref q_1, .ref q_2, .ref q_3, .ref q_4, .ref q_5, .int 0, .ref q_6, .int 0, .int 0, .int 0, .ref q_135, .ref q_136, .int 0, .int (-1), .ref q_137, .ref q_138, .ref q_139, .int 0, .int 0, .int 0, .int 0, .int 0, .int 0, .int 0, .int 0, .ref q_140, .int 0, .int 0, .ref q_141, .ref q_142, .ref q_143, .int 0, .ref q_144, .ref q_145, .ref q_146, .ref q_147, .int 0, .int 0, .ref q_148, .ref q_149, .null, .null, .null, .null, .null, .int 0, .int 0, .int 0, .int 0, .int 0, .int 0, .long 0, .null, .int 0, .int 0])), (q_1, .inl (ty 0, 7, .inl (fun _ => 0))), (q_2, .inl (ty 0, 5640, .inl (fun _ => 0))), (q_3, .inl (ty 0, 11280, .inl (fun _ => 0))), (q_4, .inl (ty 2, 2, .inl (fun _ => 0))), (q_5, .inl (ty 0, 28, .inl (fun _ => 0))), (q_6, .inl (ty 3, 128, .inl f_134)), (q_135, .inl (ty 3, 400, .inl (fun _ => 0))), (q_136, .inl (ty 0, 5, .inl (fun _ => 0))), (q_137, .inl (ty 0, 401, .inl (fun _ => 0))), (q_138, .inl (ty 0, 401, .inl (fun _ => 0))), (q_139, .inl (ty 0, 401, .inl (fun _ => 0))), (q_140, .inl (ty 0, 9, .inl (fun _ => 0))), (q_141, .inl (ty 2, 6, .inl (fun _ => 0))), (q_142, .inl (ty 0, 240, .inl (fun _ => 0))), (q_143, .inl (ty 0, 240, .inl (fun _ => 0))), (q_144, .inl (ty 0, 4320, .inl (fun _ => 0))), (q_145, .inl (ty 0, 5040, .inl (fun _ => 0))), (q_146, .inl (ty 0, 448, .inl (fun _ => 0))), (q_147, .inl (ty 0, 6, .inl (fun _ => 0))), (q_148, .inl (ty 0, 588, .inl (fun _ => 0))), (q_149, .inl (ty 0, 46080, .inl (fun _ => 0)))]) hp hd hs rfl ?_
  clear hp hd hs hP hD hS
  intro hP hD hS
  refine lv_aload_n hx hb dX10_init_950 rfl (lv_at hl 0 rfl) ?_
  refine lv_ldc (v := 46080) hx hb hown (hts (.constant RX10 90 46080) (by decide +kernel)) dX10_init_951 ?_
  refine va_newa (atype := .int) (ty := .int) (N' := 46080) (a0 := (46080, .inl (fun _ => 0))) hx hb (hts (.arrayClass .int) (by decide +kernel)) rfl hK hP hD hS hA (fun _ => rfl) (by decide) (by decide) (by decide) (Nat.le_of_ble_eq_true rfl) (Nat.le_of_ble_eq_true rfl) dX10_init_953 (fun q_150 cA H hK2 hp hd hs => ?_)
  obtain rfl : cA = ty 0 := kz_cA (t0 := 0) (t1 := 6) hK2 rfl rfl rfl
  refine kz_re (w2 := [(h0, .inr (10, [.int 0, .ref q_1, .ref q_2, .ref q_3, .ref q_4, .ref q_5, .int 0, .ref q_6, .int 0, .int 0, .int 0, .ref q_135, .ref q_136, .int 0, .int (-1), .ref q_137, .ref q_138, .ref q_139, .int 0, .int 0, .int 0, .int 0, .int 0, .int 0, .int 0, .int 0, .ref q_140, .int 0, .int 0, .ref q_141, .ref q_142, .ref q_143, .int 0, .ref q_144, .ref q_145, .ref q_146, .ref q_147, .int 0, .int 0, .ref q_148, .ref q_149, .null, .null, .null, .null, .null, .int 0, .int 0, .int 0, .int 0, .int 0, .int 0, .long 0, .null, .int 0, .int 0])), (q_1, .inl (ty 0, 7, .inl (fun _ => 0))), (q_2, .inl (ty 0, 5640, .inl (fun _ => 0))), (q_3, .inl (ty 0, 11280, .inl (fun _ => 0))), (q_4, .inl (ty 2, 2, .inl (fun _ => 0))), (q_5, .inl (ty 0, 28, .inl (fun _ => 0))), (q_6, .inl (ty 3, 128, .inl f_134)), (q_135, .inl (ty 3, 400, .inl (fun _ => 0))), (q_136, .inl (ty 0, 5, .inl (fun _ => 0))), (q_137, .inl (ty 0, 401, .inl (fun _ => 0))), (q_138, .inl (ty 0, 401, .inl (fun _ => 0))), (q_139, .inl (ty 0, 401, .inl (fun _ => 0))), (q_140, .inl (ty 0, 9, .inl (fun _ => 0))), (q_141, .inl (ty 2, 6, .inl (fun _ => 0))), (q_142, .inl (ty 0, 240, .inl (fun _ => 0))), (q_143, .inl (ty 0, 240, .inl (fun _ => 0))), (q_144, .inl (ty 0, 4320, .inl (fun _ => 0))), (q_145, .inl (ty 0, 5040, .inl (fun _ => 0))), (q_146, .inl (ty 0, 448, .inl (fun _ => 0))), (q_147, .inl (ty 0, 6, .inl (fun _ => 0))), (q_148, .inl (ty 0, 588, .inl (fun _ => 0))), (q_149, .inl (ty 0, 46080, .inl (fun _ => 0))), (q_150, .inl (ty 0, 46080, .inl (fun _ => 0)))]) hp hd hs rfl ?_
  clear hp hd hs hP hD hS
  intro hP hD hS
  refine va_putF (D := D) (ci := 10) (v := .ref q_150) (ty := .array .int) (C := RX10) (T := TX10) (N := 56) hx hb hts (by decide +kernel) tyX10 tyX10_ok nmX10 hown hK hP hD hS 0 rfl rfl 41 (by decide) (hts (.fieldLink RX10 94 "TurnedFloorsModel" "rowMany" "[I") (by decide +kernel)) (fun _ h9 => h9) rfl hin rfl (by decide +kernel) rfl rfl (Nat.le_of_ble_eq_true rfl) dX10_init_955 (fun H locs hp hd hs => ?_)
  refine kz_re (w2 := [(h0, .inr (10, [.int 0, .ref q_1, .ref q_2, .ref q_3, .ref q_4, .ref q_5, .int 0, .ref q_6, .int 0, .int 0, .int 0, .ref q_135, .ref q_136, .int 0, .int (-1), .ref q_137, .ref q_138, .ref q_139, .int 0, .int 0, .int 0, .int 0, .int 0, .int 0, .int 0, .int 0, .ref q_140, .int 0, .int 0, .ref q_141, .ref q_142, .ref q_143, .int 0, .ref q_144, .ref q_145, .ref q_146, .ref q_147, .int 0, .int 0, .ref q_148, .ref q_149, .ref q_150, .null, .null, .null, .null, .int 0, .int 0, .int 0, .int 0, .int 0, .int 0, .long 0, .null, .int 0, .int 0])), (q_1, .inl (ty 0, 7, .inl (fun _ => 0))), (q_2, .inl (ty 0, 5640, .inl (fun _ => 0))), (q_3, .inl (ty 0, 11280, .inl (fun _ => 0))), (q_4, .inl (ty 2, 2, .inl (fun _ => 0))), (q_5, .inl (ty 0, 28, .inl (fun _ => 0))), (q_6, .inl (ty 3, 128, .inl f_134)), (q_135, .inl (ty 3, 400, .inl (fun _ => 0))), (q_136, .inl (ty 0, 5, .inl (fun _ => 0))), (q_137, .inl (ty 0, 401, .inl (fun _ => 0))), (q_138, .inl (ty 0, 401, .inl (fun _ => 0))), (q_139, .inl (ty 0, 401, .inl (fun _ => 0))), (q_140, .inl (ty 0, 9, .inl (fun _ => 0))), (q_141, .inl (ty 2, 6, .inl (fun _ => 0))), (q_142, .inl (ty 0, 240, .inl (fun _ => 0))), (q_143, .inl (ty 0, 240, .inl (fun _ => 0))), (q_144, .inl (ty 0, 4320, .inl (fun _ => 0))), (q_145, .inl (ty 0, 5040, .inl (fun _ => 0))), (q_146, .inl (ty 0, 448, .inl (fun _ => 0))), (q_147, .inl (ty 0, 6, .inl (fun _ => 0))), (q_148, .inl (ty 0, 588, .inl (fun _ => 0))), (q_149, .inl (ty 0, 46080, .inl (fun _ => 0))), (q_150, .inl (ty 0, 46080, .inl (fun _ => 0)))]) hp hd hs rfl ?_
  clear hp hd hs hP hD hS
  intro hP hD hS
  refine lv_aload_n hx hb dX10_init_958 rfl (lv_at hl 0 rfl) ?_
  refine lv_ldc (v := 46080) hx hb hown (hts (.constant RX10 90 46080) (by decide +kernel)) dX10_init_959 ?_
  refine va_newa (atype := .int) (ty := .int) (N' := 46080) (a0 := (46080, .inl (fun _ => 0))) hx hb (hts (.arrayClass .int) (by decide +kernel)) rfl hK hP hD hS hA (fun _ => rfl) (by decide) (by decide) (by decide) (Nat.le_of_ble_eq_true rfl) (Nat.le_of_ble_eq_true rfl) dX10_init_961 (fun q_151 cA H hK2 hp hd hs => ?_)
  obtain rfl : cA = ty 0 := kz_cA (t0 := 0) (t1 := 6) hK2 rfl rfl rfl
  refine kz_re (w2 := [(h0, .inr (10, [.int 0, .ref q_1, .ref q_2, .ref q_3, .ref q_4, .ref q_5, .int 0, .ref q_6, .int 0, .int 0, .int 0, .ref q_135, .ref q_136, .int 0, .int (-1), .ref q_137, .ref q_138, .ref q_139, .int 0, .int 0, .int 0, .int 0, .int 0, .int 0, .int 0, .int 0, .ref q_140, .int 0, .int 0, .ref q_141, .ref q_142, .ref q_143, .int 0, .ref q_144, .ref q_145, .ref q_146, .ref q_147, .int 0, .int 0, .ref q_148, .ref q_149, .ref q_150, .null, .null, .null, .null, .int 0, .int 0, .int 0, .int 0, .int 0, .int 0, .long 0, .null, .int 0, .int 0])), (q_1, .inl (ty 0, 7, .inl (fun _ => 0))), (q_2, .inl (ty 0, 5640, .inl (fun _ => 0))), (q_3, .inl (ty 0, 11280, .inl (fun _ => 0))), (q_4, .inl (ty 2, 2, .inl (fun _ => 0))), (q_5, .inl (ty 0, 28, .inl (fun _ => 0))), (q_6, .inl (ty 3, 128, .inl f_134)), (q_135, .inl (ty 3, 400, .inl (fun _ => 0))), (q_136, .inl (ty 0, 5, .inl (fun _ => 0))), (q_137, .inl (ty 0, 401, .inl (fun _ => 0))), (q_138, .inl (ty 0, 401, .inl (fun _ => 0))), (q_139, .inl (ty 0, 401, .inl (fun _ => 0))), (q_140, .inl (ty 0, 9, .inl (fun _ => 0))), (q_141, .inl (ty 2, 6, .inl (fun _ => 0))), (q_142, .inl (ty 0, 240, .inl (fun _ => 0))), (q_143, .inl (ty 0, 240, .inl (fun _ => 0))), (q_144, .inl (ty 0, 4320, .inl (fun _ => 0))), (q_145, .inl (ty 0, 5040, .inl (fun _ => 0))), (q_146, .inl (ty 0, 448, .inl (fun _ => 0))), (q_147, .inl (ty 0, 6, .inl (fun _ => 0))), (q_148, .inl (ty 0, 588, .inl (fun _ => 0))), (q_149, .inl (ty 0, 46080, .inl (fun _ => 0))), (q_150, .inl (ty 0, 46080, .inl (fun _ => 0))), (q_151, .inl (ty 0, 46080, .inl (fun _ => 0)))]) hp hd hs rfl ?_
  clear hp hd hs hP hD hS
  intro hP hD hS
  refine va_putF (D := D) (ci := 10) (v := .ref q_151) (ty := .array .int) (C := RX10) (T := TX10) (N := 56) hx hb hts (by decide +kernel) tyX10 tyX10_ok nmX10 hown hK hP hD hS 0 rfl rfl 42 (by decide) (hts (.fieldLink RX10 97 "TurnedFloorsModel" "queue" "[I") (by decide +kernel)) (fun _ h9 => h9) rfl hin rfl (by decide +kernel) rfl rfl (Nat.le_of_ble_eq_true rfl) dX10_init_963 (fun H locs hp hd hs => ?_)
  refine kz_re (w2 := [(h0, .inr (10, [.int 0, .ref q_1, .ref q_2, .ref q_3, .ref q_4, .ref q_5, .int 0, .ref q_6, .int 0, .int 0, .int 0, .ref q_135, .ref q_136, .int 0, .int (-1), .ref q_137, .ref q_138, .ref q_139, .int 0, .int 0, .int 0, .int 0, .int 0, .int 0, .int 0, .int 0, .ref q_140, .int 0, .int 0, .ref q_141, .ref q_142, .ref q_143, .int 0, .ref q_144, .ref q_145, .ref q_146, .ref q_147, .int 0, .int 0, .ref q_148, .ref q_149, .ref q_150, .ref q_151, .null, .null, .null, .int 0, .int 0, .int 0, .int 0, .int 0, .int 0, .long 0, .null, .int 0, .int 0])), (q_1, .inl (ty 0, 7, .inl (fun _ => 0))), (q_2, .inl (ty 0, 5640, .inl (fun _ => 0))), (q_3, .inl (ty 0, 11280, .inl (fun _ => 0))), (q_4, .inl (ty 2, 2, .inl (fun _ => 0))), (q_5, .inl (ty 0, 28, .inl (fun _ => 0))), (q_6, .inl (ty 3, 128, .inl f_134)), (q_135, .inl (ty 3, 400, .inl (fun _ => 0))), (q_136, .inl (ty 0, 5, .inl (fun _ => 0))), (q_137, .inl (ty 0, 401, .inl (fun _ => 0))), (q_138, .inl (ty 0, 401, .inl (fun _ => 0))), (q_139, .inl (ty 0, 401, .inl (fun _ => 0))), (q_140, .inl (ty 0, 9, .inl (fun _ => 0))), (q_141, .inl (ty 2, 6, .inl (fun _ => 0))), (q_142, .inl (ty 0, 240, .inl (fun _ => 0))), (q_143, .inl (ty 0, 240, .inl (fun _ => 0))), (q_144, .inl (ty 0, 4320, .inl (fun _ => 0))), (q_145, .inl (ty 0, 5040, .inl (fun _ => 0))), (q_146, .inl (ty 0, 448, .inl (fun _ => 0))), (q_147, .inl (ty 0, 6, .inl (fun _ => 0))), (q_148, .inl (ty 0, 588, .inl (fun _ => 0))), (q_149, .inl (ty 0, 46080, .inl (fun _ => 0))), (q_150, .inl (ty 0, 46080, .inl (fun _ => 0))), (q_151, .inl (ty 0, 46080, .inl (fun _ => 0)))]) hp hd hs rfl ?_
  clear hp hd hs hP hD hS
  intro hP hD hS
  refine lv_aload_n hx hb dX10_init_966 rfl (lv_at hl 0 rfl) ?_
  refine lv_ldc (v := 46080) hx hb hown (hts (.constant RX10 90 46080) (by decide +kernel)) dX10_init_967 ?_
  refine va_newa (atype := .boolean) (ty := .boolean) (N' := 46080) (a0 := (46080, .inl (fun _ => 0))) hx hb (hts (.arrayClass .boolean) (by decide +kernel)) rfl hK hP hD hS hA (fun _ => rfl) (by decide) (by decide) (by decide) (Nat.le_of_ble_eq_true rfl) (Nat.le_of_ble_eq_true rfl) dX10_init_969 (fun q_152 cA H hK2 hp hd hs => ?_)
  obtain rfl : cA = ty 2 := kz_cA (t0 := 2) (t1 := 6) hK2 rfl rfl rfl
  refine kz_re (w2 := [(h0, .inr (10, [.int 0, .ref q_1, .ref q_2, .ref q_3, .ref q_4, .ref q_5, .int 0, .ref q_6, .int 0, .int 0, .int 0, .ref q_135, .ref q_136, .int 0, .int (-1), .ref q_137, .ref q_138, .ref q_139, .int 0, .int 0, .int 0, .int 0, .int 0, .int 0, .int 0, .int 0, .ref q_140, .int 0, .int 0, .ref q_141, .ref q_142, .ref q_143, .int 0, .ref q_144, .ref q_145, .ref q_146, .ref q_147, .int 0, .int 0, .ref q_148, .ref q_149, .ref q_150, .ref q_151, .null, .null, .null, .int 0, .int 0, .int 0, .int 0, .int 0, .int 0, .long 0, .null, .int 0, .int 0])), (q_1, .inl (ty 0, 7, .inl (fun _ => 0))), (q_2, .inl (ty 0, 5640, .inl (fun _ => 0))), (q_3, .inl (ty 0, 11280, .inl (fun _ => 0))), (q_4, .inl (ty 2, 2, .inl (fun _ => 0))), (q_5, .inl (ty 0, 28, .inl (fun _ => 0))), (q_6, .inl (ty 3, 128, .inl f_134)), (q_135, .inl (ty 3, 400, .inl (fun _ => 0))), (q_136, .inl (ty 0, 5, .inl (fun _ => 0))), (q_137, .inl (ty 0, 401, .inl (fun _ => 0))), (q_138, .inl (ty 0, 401, .inl (fun _ => 0))), (q_139, .inl (ty 0, 401, .inl (fun _ => 0))), (q_140, .inl (ty 0, 9, .inl (fun _ => 0))), (q_141, .inl (ty 2, 6, .inl (fun _ => 0))), (q_142, .inl (ty 0, 240, .inl (fun _ => 0))), (q_143, .inl (ty 0, 240, .inl (fun _ => 0))), (q_144, .inl (ty 0, 4320, .inl (fun _ => 0))), (q_145, .inl (ty 0, 5040, .inl (fun _ => 0))), (q_146, .inl (ty 0, 448, .inl (fun _ => 0))), (q_147, .inl (ty 0, 6, .inl (fun _ => 0))), (q_148, .inl (ty 0, 588, .inl (fun _ => 0))), (q_149, .inl (ty 0, 46080, .inl (fun _ => 0))), (q_150, .inl (ty 0, 46080, .inl (fun _ => 0))), (q_151, .inl (ty 0, 46080, .inl (fun _ => 0))), (q_152, .inl (ty 2, 46080, .inl (fun _ => 0)))]) hp hd hs rfl ?_
  clear hp hd hs hP hD hS
  intro hP hD hS
  refine va_putF (D := D) (ci := 10) (v := .ref q_152) (ty := .array .boolean) (C := RX10) (T := TX10) (N := 56) hx hb hts (by decide +kernel) tyX10 tyX10_ok nmX10 hown hK hP hD hS 0 rfl rfl 43 (by decide) (hts (.fieldLink RX10 100 "TurnedFloorsModel" "waits" "[Z") (by decide +kernel)) (fun _ h9 => h9) rfl hin rfl (by decide +kernel) rfl rfl (Nat.le_of_ble_eq_true rfl) dX10_init_971 (fun H locs hp hd hs => ?_)
  refine kz_re (w2 := [(h0, .inr (10, [.int 0, .ref q_1, .ref q_2, .ref q_3, .ref q_4, .ref q_5, .int 0, .ref q_6, .int 0, .int 0, .int 0, .ref q_135, .ref q_136, .int 0, .int (-1), .ref q_137, .ref q_138, .ref q_139, .int 0, .int 0, .int 0, .int 0, .int 0, .int 0, .int 0, .int 0, .ref q_140, .int 0, .int 0, .ref q_141, .ref q_142, .ref q_143, .int 0, .ref q_144, .ref q_145, .ref q_146, .ref q_147, .int 0, .int 0, .ref q_148, .ref q_149, .ref q_150, .ref q_151, .ref q_152, .null, .null, .int 0, .int 0, .int 0, .int 0, .int 0, .int 0, .long 0, .null, .int 0, .int 0])), (q_1, .inl (ty 0, 7, .inl (fun _ => 0))), (q_2, .inl (ty 0, 5640, .inl (fun _ => 0))), (q_3, .inl (ty 0, 11280, .inl (fun _ => 0))), (q_4, .inl (ty 2, 2, .inl (fun _ => 0))), (q_5, .inl (ty 0, 28, .inl (fun _ => 0))), (q_6, .inl (ty 3, 128, .inl f_134)), (q_135, .inl (ty 3, 400, .inl (fun _ => 0))), (q_136, .inl (ty 0, 5, .inl (fun _ => 0))), (q_137, .inl (ty 0, 401, .inl (fun _ => 0))), (q_138, .inl (ty 0, 401, .inl (fun _ => 0))), (q_139, .inl (ty 0, 401, .inl (fun _ => 0))), (q_140, .inl (ty 0, 9, .inl (fun _ => 0))), (q_141, .inl (ty 2, 6, .inl (fun _ => 0))), (q_142, .inl (ty 0, 240, .inl (fun _ => 0))), (q_143, .inl (ty 0, 240, .inl (fun _ => 0))), (q_144, .inl (ty 0, 4320, .inl (fun _ => 0))), (q_145, .inl (ty 0, 5040, .inl (fun _ => 0))), (q_146, .inl (ty 0, 448, .inl (fun _ => 0))), (q_147, .inl (ty 0, 6, .inl (fun _ => 0))), (q_148, .inl (ty 0, 588, .inl (fun _ => 0))), (q_149, .inl (ty 0, 46080, .inl (fun _ => 0))), (q_150, .inl (ty 0, 46080, .inl (fun _ => 0))), (q_151, .inl (ty 0, 46080, .inl (fun _ => 0))), (q_152, .inl (ty 2, 46080, .inl (fun _ => 0)))]) hp hd hs rfl ?_
  clear hp hd hs hP hD hS
  intro hP hD hS
  refine lv_aload_n hx hb dX10_init_974 rfl (lv_at hl 0 rfl) ?_
  refine lv_bipush (v := 6) hx hb dX10_init_975 (by decide) ?_
  refine va_newa (atype := .int) (ty := .int) (N' := 6) (a0 := (6, .inl (fun _ => 0))) hx hb (hts (.arrayClass .int) (by decide +kernel)) rfl hK hP hD hS hA (fun _ => rfl) (by decide) (by decide) (by decide) (Nat.le_of_ble_eq_true rfl) (Nat.le_of_ble_eq_true rfl) dX10_init_977 (fun q_153 cA H hK2 hp hd hs => ?_)
  obtain rfl : cA = ty 0 := kz_cA (t0 := 0) (t1 := 6) hK2 rfl rfl rfl
  refine kz_re (w2 := [(h0, .inr (10, [.int 0, .ref q_1, .ref q_2, .ref q_3, .ref q_4, .ref q_5, .int 0, .ref q_6, .int 0, .int 0, .int 0, .ref q_135, .ref q_136, .int 0, .int (-1), .ref q_137, .ref q_138, .ref q_139, .int 0, .int 0, .int 0, .int 0, .int 0, .int 0, .int 0, .int 0, .ref q_140, .int 0, .int 0, .ref q_141, .ref q_142, .ref q_143, .int 0, .ref q_144, .ref q_145, .ref q_146, .ref q_147, .int 0, .int 0, .ref q_148, .ref q_149, .ref q_150, .ref q_151, .ref q_152, .null, .null, .int 0, .int 0, .int 0, .int 0, .int 0, .int 0, .long 0, .null, .int 0, .int 0])), (q_1, .inl (ty 0, 7, .inl (fun _ => 0))), (q_2, .inl (ty 0, 5640, .inl (fun _ => 0))), (q_3, .inl (ty 0, 11280, .inl (fun _ => 0))), (q_4, .inl (ty 2, 2, .inl (fun _ => 0))), (q_5, .inl (ty 0, 28, .inl (fun _ => 0))), (q_6, .inl (ty 3, 128, .inl f_134)), (q_135, .inl (ty 3, 400, .inl (fun _ => 0))), (q_136, .inl (ty 0, 5, .inl (fun _ => 0))), (q_137, .inl (ty 0, 401, .inl (fun _ => 0))), (q_138, .inl (ty 0, 401, .inl (fun _ => 0))), (q_139, .inl (ty 0, 401, .inl (fun _ => 0))), (q_140, .inl (ty 0, 9, .inl (fun _ => 0))), (q_141, .inl (ty 2, 6, .inl (fun _ => 0))), (q_142, .inl (ty 0, 240, .inl (fun _ => 0))), (q_143, .inl (ty 0, 240, .inl (fun _ => 0))), (q_144, .inl (ty 0, 4320, .inl (fun _ => 0))), (q_145, .inl (ty 0, 5040, .inl (fun _ => 0))), (q_146, .inl (ty 0, 448, .inl (fun _ => 0))), (q_147, .inl (ty 0, 6, .inl (fun _ => 0))), (q_148, .inl (ty 0, 588, .inl (fun _ => 0))), (q_149, .inl (ty 0, 46080, .inl (fun _ => 0))), (q_150, .inl (ty 0, 46080, .inl (fun _ => 0))), (q_151, .inl (ty 0, 46080, .inl (fun _ => 0))), (q_152, .inl (ty 2, 46080, .inl (fun _ => 0))), (q_153, .inl (ty 0, 6, .inl (fun _ => 0)))]) hp hd hs rfl ?_
  clear hp hd hs hP hD hS
  intro hP hD hS
  refine va_putF (D := D) (ci := 10) (v := .ref q_153) (ty := .array .int) (C := RX10) (T := TX10) (N := 56) hx hb hts (by decide +kernel) tyX10 tyX10_ok nmX10 hown hK hP hD hS 0 rfl rfl 44 (by decide) (hts (.fieldLink RX10 103 "TurnedFloorsModel" "alike" "[I") (by decide +kernel)) (fun _ h9 => h9) rfl hin rfl (by decide +kernel) rfl rfl (Nat.le_of_ble_eq_true rfl) dX10_init_979 (fun H locs hp hd hs => ?_)
  refine kz_re (w2 := [(h0, .inr (10, [.int 0, .ref q_1, .ref q_2, .ref q_3, .ref q_4, .ref q_5, .int 0, .ref q_6, .int 0, .int 0, .int 0, .ref q_135, .ref q_136, .int 0, .int (-1), .ref q_137, .ref q_138, .ref q_139, .int 0, .int 0, .int 0, .int 0, .int 0, .int 0, .int 0, .int 0, .ref q_140, .int 0, .int 0, .ref q_141, .ref q_142, .ref q_143, .int 0, .ref q_144, .ref q_145, .ref q_146, .ref q_147, .int 0, .int 0, .ref q_148, .ref q_149, .ref q_150, .ref q_151, .ref q_152, .ref q_153, .null, .int 0, .int 0, .int 0, .int 0, .int 0, .int 0, .long 0, .null, .int 0, .int 0])), (q_1, .inl (ty 0, 7, .inl (fun _ => 0))), (q_2, .inl (ty 0, 5640, .inl (fun _ => 0))), (q_3, .inl (ty 0, 11280, .inl (fun _ => 0))), (q_4, .inl (ty 2, 2, .inl (fun _ => 0))), (q_5, .inl (ty 0, 28, .inl (fun _ => 0))), (q_6, .inl (ty 3, 128, .inl f_134)), (q_135, .inl (ty 3, 400, .inl (fun _ => 0))), (q_136, .inl (ty 0, 5, .inl (fun _ => 0))), (q_137, .inl (ty 0, 401, .inl (fun _ => 0))), (q_138, .inl (ty 0, 401, .inl (fun _ => 0))), (q_139, .inl (ty 0, 401, .inl (fun _ => 0))), (q_140, .inl (ty 0, 9, .inl (fun _ => 0))), (q_141, .inl (ty 2, 6, .inl (fun _ => 0))), (q_142, .inl (ty 0, 240, .inl (fun _ => 0))), (q_143, .inl (ty 0, 240, .inl (fun _ => 0))), (q_144, .inl (ty 0, 4320, .inl (fun _ => 0))), (q_145, .inl (ty 0, 5040, .inl (fun _ => 0))), (q_146, .inl (ty 0, 448, .inl (fun _ => 0))), (q_147, .inl (ty 0, 6, .inl (fun _ => 0))), (q_148, .inl (ty 0, 588, .inl (fun _ => 0))), (q_149, .inl (ty 0, 46080, .inl (fun _ => 0))), (q_150, .inl (ty 0, 46080, .inl (fun _ => 0))), (q_151, .inl (ty 0, 46080, .inl (fun _ => 0))), (q_152, .inl (ty 2, 46080, .inl (fun _ => 0))), (q_153, .inl (ty 0, 6, .inl (fun _ => 0)))]) hp hd hs rfl ?_
  clear hp hd hs hP hD hS
  intro hP hD hS
  refine lv_aload_n hx hb dX10_init_982 rfl (lv_at hl 0 rfl) ?_
  refine lv_bipush (v := 21) hx hb dX10_init_983 (by decide) ?_
  refine va_newa (atype := .long) (ty := .long) (N' := 21) (a0 := (21, .inr (.inl (fun _ => 0)))) hx hb (hts (.arrayClass .long) (by decide +kernel)) rfl hK hP hD hS hA (fun _ => rfl) (by decide) (by decide) (by decide) (Nat.le_of_ble_eq_true rfl) (Nat.le_of_ble_eq_true rfl) dX10_init_985 (fun q_154 cA H hK2 hp hd hs => ?_)
  obtain rfl : cA = ty 1 := kz_cA (t0 := 1) (t1 := 6) hK2 rfl rfl rfl
  refine kz_re (w2 := [(h0, .inr (10, [.int 0, .ref q_1, .ref q_2, .ref q_3, .ref q_4, .ref q_5, .int 0, .ref q_6, .int 0, .int 0, .int 0, .ref q_135, .ref q_136, .int 0, .int (-1), .ref q_137, .ref q_138, .ref q_139, .int 0, .int 0, .int 0, .int 0, .int 0, .int 0, .int 0, .int 0, .ref q_140, .int 0, .int 0, .ref q_141, .ref q_142, .ref q_143, .int 0, .ref q_144, .ref q_145, .ref q_146, .ref q_147, .int 0, .int 0, .ref q_148, .ref q_149, .ref q_150, .ref q_151, .ref q_152, .ref q_153, .null, .int 0, .int 0, .int 0, .int 0, .int 0, .int 0, .long 0, .null, .int 0, .int 0])), (q_1, .inl (ty 0, 7, .inl (fun _ => 0))), (q_2, .inl (ty 0, 5640, .inl (fun _ => 0))), (q_3, .inl (ty 0, 11280, .inl (fun _ => 0))), (q_4, .inl (ty 2, 2, .inl (fun _ => 0))), (q_5, .inl (ty 0, 28, .inl (fun _ => 0))), (q_6, .inl (ty 3, 128, .inl f_134)), (q_135, .inl (ty 3, 400, .inl (fun _ => 0))), (q_136, .inl (ty 0, 5, .inl (fun _ => 0))), (q_137, .inl (ty 0, 401, .inl (fun _ => 0))), (q_138, .inl (ty 0, 401, .inl (fun _ => 0))), (q_139, .inl (ty 0, 401, .inl (fun _ => 0))), (q_140, .inl (ty 0, 9, .inl (fun _ => 0))), (q_141, .inl (ty 2, 6, .inl (fun _ => 0))), (q_142, .inl (ty 0, 240, .inl (fun _ => 0))), (q_143, .inl (ty 0, 240, .inl (fun _ => 0))), (q_144, .inl (ty 0, 4320, .inl (fun _ => 0))), (q_145, .inl (ty 0, 5040, .inl (fun _ => 0))), (q_146, .inl (ty 0, 448, .inl (fun _ => 0))), (q_147, .inl (ty 0, 6, .inl (fun _ => 0))), (q_148, .inl (ty 0, 588, .inl (fun _ => 0))), (q_149, .inl (ty 0, 46080, .inl (fun _ => 0))), (q_150, .inl (ty 0, 46080, .inl (fun _ => 0))), (q_151, .inl (ty 0, 46080, .inl (fun _ => 0))), (q_152, .inl (ty 2, 46080, .inl (fun _ => 0))), (q_153, .inl (ty 0, 6, .inl (fun _ => 0))), (q_154, .inl (ty 1, 21, .inr (.inl (fun _ => 0))))]) hp hd hs rfl ?_
  clear hp hd hs hP hD hS
  intro hP hD hS
  refine va_putF (D := D) (ci := 10) (v := .ref q_154) (ty := .array .long) (C := RX10) (T := TX10) (N := 56) hx hb hts (by decide +kernel) tyX10 tyX10_ok nmX10 hown hK hP hD hS 0 rfl rfl 45 (by decide) (hts (.fieldLink RX10 106 "TurnedFloorsModel" "shares" "[J") (by decide +kernel)) (fun _ h9 => h9) rfl hin rfl (by decide +kernel) rfl rfl (Nat.le_of_ble_eq_true rfl) dX10_init_987 (fun H locs hp hd hs => ?_)
  refine kz_re (w2 := [(h0, .inr (10, [.int 0, .ref q_1, .ref q_2, .ref q_3, .ref q_4, .ref q_5, .int 0, .ref q_6, .int 0, .int 0, .int 0, .ref q_135, .ref q_136, .int 0, .int (-1), .ref q_137, .ref q_138, .ref q_139, .int 0, .int 0, .int 0, .int 0, .int 0, .int 0, .int 0, .int 0, .ref q_140, .int 0, .int 0, .ref q_141, .ref q_142, .ref q_143, .int 0, .ref q_144, .ref q_145, .ref q_146, .ref q_147, .int 0, .int 0, .ref q_148, .ref q_149, .ref q_150, .ref q_151, .ref q_152, .ref q_153, .ref q_154, .int 0, .int 0, .int 0, .int 0, .int 0, .int 0, .long 0, .null, .int 0, .int 0])), (q_1, .inl (ty 0, 7, .inl (fun _ => 0))), (q_2, .inl (ty 0, 5640, .inl (fun _ => 0))), (q_3, .inl (ty 0, 11280, .inl (fun _ => 0))), (q_4, .inl (ty 2, 2, .inl (fun _ => 0))), (q_5, .inl (ty 0, 28, .inl (fun _ => 0))), (q_6, .inl (ty 3, 128, .inl f_134)), (q_135, .inl (ty 3, 400, .inl (fun _ => 0))), (q_136, .inl (ty 0, 5, .inl (fun _ => 0))), (q_137, .inl (ty 0, 401, .inl (fun _ => 0))), (q_138, .inl (ty 0, 401, .inl (fun _ => 0))), (q_139, .inl (ty 0, 401, .inl (fun _ => 0))), (q_140, .inl (ty 0, 9, .inl (fun _ => 0))), (q_141, .inl (ty 2, 6, .inl (fun _ => 0))), (q_142, .inl (ty 0, 240, .inl (fun _ => 0))), (q_143, .inl (ty 0, 240, .inl (fun _ => 0))), (q_144, .inl (ty 0, 4320, .inl (fun _ => 0))), (q_145, .inl (ty 0, 5040, .inl (fun _ => 0))), (q_146, .inl (ty 0, 448, .inl (fun _ => 0))), (q_147, .inl (ty 0, 6, .inl (fun _ => 0))), (q_148, .inl (ty 0, 588, .inl (fun _ => 0))), (q_149, .inl (ty 0, 46080, .inl (fun _ => 0))), (q_150, .inl (ty 0, 46080, .inl (fun _ => 0))), (q_151, .inl (ty 0, 46080, .inl (fun _ => 0))), (q_152, .inl (ty 2, 46080, .inl (fun _ => 0))), (q_153, .inl (ty 0, 6, .inl (fun _ => 0))), (q_154, .inl (ty 1, 21, .inr (.inl (fun _ => 0))))]) hp hd hs rfl ?_
  clear hp hd hs hP hD hS
  intro hP hD hS
  refine lv_aload_n hx hb dX10_init_990 rfl (lv_at hl 0 rfl) ?_
  refine lv_iconst (v := (-1)) hx hb dX10_init_991 (by decide) ?_
  refine va_put (D := D) (ci := 10) (v := .int (-1)) (ty := .int) (C := RX10) (T := TX10) (N := 56) hx hb hts (by decide +kernel) tyX10 tyX10_ok nmX10 hown hK hP hD hS 0 rfl rfl 46 (by decide) (hts (.fieldLink RX10 110 "TurnedFloorsModel" "stopped0" "I") (by decide +kernel)) (fun _ h9 => h9) rfl (by decide +kernel) rfl rfl (Nat.le_of_ble_eq_true rfl) dX10_init_992 (fun H locs hp hd hs => ?_)
  refine kz_re (w2 := [(h0, .inr (10, [.int 0, .ref q_1, .ref q_2, .ref q_3, .ref q_4, .ref q_5, .int 0, .ref q_6, .int 0, .int 0, .int 0, .ref q_135, .ref q_136, .int 0, .int (-1), .ref q_137, .ref q_138, .ref q_139, .int 0, .int 0, .int 0, .int 0, .int 0, .int 0, .int 0, .int 0, .ref q_140, .int 0, .int 0, .ref q_141, .ref q_142, .ref q_143, .int 0, .ref q_144, .ref q_145, .ref q_146, .ref q_147, .int 0, .int 0, .ref q_148, .ref q_149, .ref q_150, .ref q_151, .ref q_152, .ref q_153, .ref q_154, .int (-1), .int 0, .int 0, .int 0, .int 0, .int 0, .long 0, .null, .int 0, .int 0])), (q_1, .inl (ty 0, 7, .inl (fun _ => 0))), (q_2, .inl (ty 0, 5640, .inl (fun _ => 0))), (q_3, .inl (ty 0, 11280, .inl (fun _ => 0))), (q_4, .inl (ty 2, 2, .inl (fun _ => 0))), (q_5, .inl (ty 0, 28, .inl (fun _ => 0))), (q_6, .inl (ty 3, 128, .inl f_134)), (q_135, .inl (ty 3, 400, .inl (fun _ => 0))), (q_136, .inl (ty 0, 5, .inl (fun _ => 0))), (q_137, .inl (ty 0, 401, .inl (fun _ => 0))), (q_138, .inl (ty 0, 401, .inl (fun _ => 0))), (q_139, .inl (ty 0, 401, .inl (fun _ => 0))), (q_140, .inl (ty 0, 9, .inl (fun _ => 0))), (q_141, .inl (ty 2, 6, .inl (fun _ => 0))), (q_142, .inl (ty 0, 240, .inl (fun _ => 0))), (q_143, .inl (ty 0, 240, .inl (fun _ => 0))), (q_144, .inl (ty 0, 4320, .inl (fun _ => 0))), (q_145, .inl (ty 0, 5040, .inl (fun _ => 0))), (q_146, .inl (ty 0, 448, .inl (fun _ => 0))), (q_147, .inl (ty 0, 6, .inl (fun _ => 0))), (q_148, .inl (ty 0, 588, .inl (fun _ => 0))), (q_149, .inl (ty 0, 46080, .inl (fun _ => 0))), (q_150, .inl (ty 0, 46080, .inl (fun _ => 0))), (q_151, .inl (ty 0, 46080, .inl (fun _ => 0))), (q_152, .inl (ty 2, 46080, .inl (fun _ => 0))), (q_153, .inl (ty 0, 6, .inl (fun _ => 0))), (q_154, .inl (ty 1, 21, .inr (.inl (fun _ => 0))))]) hp hd hs rfl ?_
  clear hp hd hs hP hD hS
  intro hP hD hS
  refine lv_aload_n hx hb dX10_init_995 rfl (lv_at hl 0 rfl) ?_
  refine lv_bipush (v := 14) hx hb dX10_init_996 (by decide) ?_
  refine va_newa (atype := .int) (ty := .int) (N' := 14) (a0 := (14, .inl (fun _ => 0))) hx hb (hts (.arrayClass .int) (by decide +kernel)) rfl hK hP hD hS hA (fun _ => rfl) (by decide) (by decide) (by decide) (Nat.le_of_ble_eq_true rfl) (Nat.le_of_ble_eq_true rfl) dX10_init_998 (fun q_155 cA H hK2 hp hd hs => ?_)
  obtain rfl : cA = ty 0 := kz_cA (t0 := 0) (t1 := 6) hK2 rfl rfl rfl
  refine kz_re (w2 := [(h0, .inr (10, [.int 0, .ref q_1, .ref q_2, .ref q_3, .ref q_4, .ref q_5, .int 0, .ref q_6, .int 0, .int 0, .int 0, .ref q_135, .ref q_136, .int 0, .int (-1), .ref q_137, .ref q_138, .ref q_139, .int 0, .int 0, .int 0, .int 0, .int 0, .int 0, .int 0, .int 0, .ref q_140, .int 0, .int 0, .ref q_141, .ref q_142, .ref q_143, .int 0, .ref q_144, .ref q_145, .ref q_146, .ref q_147, .int 0, .int 0, .ref q_148, .ref q_149, .ref q_150, .ref q_151, .ref q_152, .ref q_153, .ref q_154, .int (-1), .int 0, .int 0, .int 0, .int 0, .int 0, .long 0, .null, .int 0, .int 0])), (q_1, .inl (ty 0, 7, .inl (fun _ => 0))), (q_2, .inl (ty 0, 5640, .inl (fun _ => 0))), (q_3, .inl (ty 0, 11280, .inl (fun _ => 0))), (q_4, .inl (ty 2, 2, .inl (fun _ => 0))), (q_5, .inl (ty 0, 28, .inl (fun _ => 0))), (q_6, .inl (ty 3, 128, .inl f_134)), (q_135, .inl (ty 3, 400, .inl (fun _ => 0))), (q_136, .inl (ty 0, 5, .inl (fun _ => 0))), (q_137, .inl (ty 0, 401, .inl (fun _ => 0))), (q_138, .inl (ty 0, 401, .inl (fun _ => 0))), (q_139, .inl (ty 0, 401, .inl (fun _ => 0))), (q_140, .inl (ty 0, 9, .inl (fun _ => 0))), (q_141, .inl (ty 2, 6, .inl (fun _ => 0))), (q_142, .inl (ty 0, 240, .inl (fun _ => 0))), (q_143, .inl (ty 0, 240, .inl (fun _ => 0))), (q_144, .inl (ty 0, 4320, .inl (fun _ => 0))), (q_145, .inl (ty 0, 5040, .inl (fun _ => 0))), (q_146, .inl (ty 0, 448, .inl (fun _ => 0))), (q_147, .inl (ty 0, 6, .inl (fun _ => 0))), (q_148, .inl (ty 0, 588, .inl (fun _ => 0))), (q_149, .inl (ty 0, 46080, .inl (fun _ => 0))), (q_150, .inl (ty 0, 46080, .inl (fun _ => 0))), (q_151, .inl (ty 0, 46080, .inl (fun _ => 0))), (q_152, .inl (ty 2, 46080, .inl (fun _ => 0))), (q_153, .inl (ty 0, 6, .inl (fun _ => 0))), (q_154, .inl (ty 1, 21, .inr (.inl (fun _ => 0)))), (q_155, .inl (ty 0, 14, .inl (fun _ => 0)))]) hp hd hs rfl ?_
  clear hp hd hs hP hD hS
  intro hP hD hS
  refine va_putF (D := D) (ci := 10) (v := .ref q_155) (ty := .array .int) (C := RX10) (T := TX10) (N := 56) hx hb hts (by decide +kernel) tyX10 tyX10_ok nmX10 hown hK hP hD hS 0 rfl rfl 53 (by decide) (hts (.fieldLink RX10 113 "TurnedFloorsModel" "drawnMoved" "[I") (by decide +kernel)) (fun _ h9 => h9) rfl hin rfl (by decide +kernel) rfl rfl (Nat.le_of_ble_eq_true rfl) dX10_init_1000 (fun H locs hp hd hs => ?_)
  refine kz_re (w2 := [(h0, .inr (10, [.int 0, .ref q_1, .ref q_2, .ref q_3, .ref q_4, .ref q_5, .int 0, .ref q_6, .int 0, .int 0, .int 0, .ref q_135, .ref q_136, .int 0, .int (-1), .ref q_137, .ref q_138, .ref q_139, .int 0, .int 0, .int 0, .int 0, .int 0, .int 0, .int 0, .int 0, .ref q_140, .int 0, .int 0, .ref q_141, .ref q_142, .ref q_143, .int 0, .ref q_144, .ref q_145, .ref q_146, .ref q_147, .int 0, .int 0, .ref q_148, .ref q_149, .ref q_150, .ref q_151, .ref q_152, .ref q_153, .ref q_154, .int (-1), .int 0, .int 0, .int 0, .int 0, .int 0, .long 0, .ref q_155, .int 0, .int 0])), (q_1, .inl (ty 0, 7, .inl (fun _ => 0))), (q_2, .inl (ty 0, 5640, .inl (fun _ => 0))), (q_3, .inl (ty 0, 11280, .inl (fun _ => 0))), (q_4, .inl (ty 2, 2, .inl (fun _ => 0))), (q_5, .inl (ty 0, 28, .inl (fun _ => 0))), (q_6, .inl (ty 3, 128, .inl f_134)), (q_135, .inl (ty 3, 400, .inl (fun _ => 0))), (q_136, .inl (ty 0, 5, .inl (fun _ => 0))), (q_137, .inl (ty 0, 401, .inl (fun _ => 0))), (q_138, .inl (ty 0, 401, .inl (fun _ => 0))), (q_139, .inl (ty 0, 401, .inl (fun _ => 0))), (q_140, .inl (ty 0, 9, .inl (fun _ => 0))), (q_141, .inl (ty 2, 6, .inl (fun _ => 0))), (q_142, .inl (ty 0, 240, .inl (fun _ => 0))), (q_143, .inl (ty 0, 240, .inl (fun _ => 0))), (q_144, .inl (ty 0, 4320, .inl (fun _ => 0))), (q_145, .inl (ty 0, 5040, .inl (fun _ => 0))), (q_146, .inl (ty 0, 448, .inl (fun _ => 0))), (q_147, .inl (ty 0, 6, .inl (fun _ => 0))), (q_148, .inl (ty 0, 588, .inl (fun _ => 0))), (q_149, .inl (ty 0, 46080, .inl (fun _ => 0))), (q_150, .inl (ty 0, 46080, .inl (fun _ => 0))), (q_151, .inl (ty 0, 46080, .inl (fun _ => 0))), (q_152, .inl (ty 2, 46080, .inl (fun _ => 0))), (q_153, .inl (ty 0, 6, .inl (fun _ => 0))), (q_154, .inl (ty 1, 21, .inr (.inl (fun _ => 0)))), (q_155, .inl (ty 0, 14, .inl (fun _ => 0)))]) hp hd hs rfl ?_
  clear hp hd hs hP hD hS
  intro hP hD hS
  refine lv_aload_n hx hb dX10_init_1003 rfl (lv_at hl 0 rfl) ?_
  refine lv_iconst (v := (-1)) hx hb dX10_init_1004 (by decide) ?_
  refine va_put (D := D) (ci := 10) (v := .int (-1)) (ty := .int) (C := RX10) (T := TX10) (N := 56) hx hb hts (by decide +kernel) tyX10 tyX10_ok nmX10 hown hK hP hD hS 0 rfl rfl 54 (by decide) (hts (.fieldLink RX10 116 "TurnedFloorsModel" "drawnMany" "I") (by decide +kernel)) (fun _ h9 => h9) rfl (by decide +kernel) rfl rfl (Nat.le_of_ble_eq_true rfl) dX10_init_1005 (fun H locs hp hd hs => ?_)
  refine kz_re (w2 := [(h0, .inr (10, [.int 0, .ref q_1, .ref q_2, .ref q_3, .ref q_4, .ref q_5, .int 0, .ref q_6, .int 0, .int 0, .int 0, .ref q_135, .ref q_136, .int 0, .int (-1), .ref q_137, .ref q_138, .ref q_139, .int 0, .int 0, .int 0, .int 0, .int 0, .int 0, .int 0, .int 0, .ref q_140, .int 0, .int 0, .ref q_141, .ref q_142, .ref q_143, .int 0, .ref q_144, .ref q_145, .ref q_146, .ref q_147, .int 0, .int 0, .ref q_148, .ref q_149, .ref q_150, .ref q_151, .ref q_152, .ref q_153, .ref q_154, .int (-1), .int 0, .int 0, .int 0, .int 0, .int 0, .long 0, .ref q_155, .int (-1), .int 0])), (q_1, .inl (ty 0, 7, .inl (fun _ => 0))), (q_2, .inl (ty 0, 5640, .inl (fun _ => 0))), (q_3, .inl (ty 0, 11280, .inl (fun _ => 0))), (q_4, .inl (ty 2, 2, .inl (fun _ => 0))), (q_5, .inl (ty 0, 28, .inl (fun _ => 0))), (q_6, .inl (ty 3, 128, .inl f_134)), (q_135, .inl (ty 3, 400, .inl (fun _ => 0))), (q_136, .inl (ty 0, 5, .inl (fun _ => 0))), (q_137, .inl (ty 0, 401, .inl (fun _ => 0))), (q_138, .inl (ty 0, 401, .inl (fun _ => 0))), (q_139, .inl (ty 0, 401, .inl (fun _ => 0))), (q_140, .inl (ty 0, 9, .inl (fun _ => 0))), (q_141, .inl (ty 2, 6, .inl (fun _ => 0))), (q_142, .inl (ty 0, 240, .inl (fun _ => 0))), (q_143, .inl (ty 0, 240, .inl (fun _ => 0))), (q_144, .inl (ty 0, 4320, .inl (fun _ => 0))), (q_145, .inl (ty 0, 5040, .inl (fun _ => 0))), (q_146, .inl (ty 0, 448, .inl (fun _ => 0))), (q_147, .inl (ty 0, 6, .inl (fun _ => 0))), (q_148, .inl (ty 0, 588, .inl (fun _ => 0))), (q_149, .inl (ty 0, 46080, .inl (fun _ => 0))), (q_150, .inl (ty 0, 46080, .inl (fun _ => 0))), (q_151, .inl (ty 0, 46080, .inl (fun _ => 0))), (q_152, .inl (ty 2, 46080, .inl (fun _ => 0))), (q_153, .inl (ty 0, 6, .inl (fun _ => 0))), (q_154, .inl (ty 1, 21, .inr (.inl (fun _ => 0)))), (q_155, .inl (ty 0, 14, .inl (fun _ => 0)))]) hp hd hs rfl ?_
  clear hp hd hs hP hD hS
  intro hP hD hS
  refine lv_aload_n hx hb dX10_init_1008 rfl (lv_at hl 0 rfl) ?_
  refine va_get (D := D) (ci := 10) (v := .ref q_2) (C := RX10) (T := TX10) (N := 56) hx hb hts (by decide +kernel) hown hK hP 0 rfl rfl 2 (by decide) (hts (.fieldLink RX10 28 "TurnedFloorsModel" "kept" "[I") (by decide +kernel)) (fun _ h9 => h9) rfl dX10_init_1009 ?_
  refine lv_bipush (v := 26) hx hb dX10_init_1012 (by decide) ?_
  refine lv_iconst (v := 1) hx hb dX10_init_1014 (by decide) ?_
  refine va_iast hx hb hK hP hD hS 2 0 rfl rfl (by simp only [vp_in]; decide) dX10_init_1015 (fun H locs hp hd hs => ?_)
  refine kz_re (w2 := [(h0, .inr (10, [.int 0, .ref q_1, .ref q_2, .ref q_3, .ref q_4, .ref q_5, .int 0, .ref q_6, .int 0, .int 0, .int 0, .ref q_135, .ref q_136, .int 0, .int (-1), .ref q_137, .ref q_138, .ref q_139, .int 0, .int 0, .int 0, .int 0, .int 0, .int 0, .int 0, .int 0, .ref q_140, .int 0, .int 0, .ref q_141, .ref q_142, .ref q_143, .int 0, .ref q_144, .ref q_145, .ref q_146, .ref q_147, .int 0, .int 0, .ref q_148, .ref q_149, .ref q_150, .ref q_151, .ref q_152, .ref q_153, .ref q_154, .int (-1), .int 0, .int 0, .int 0, .int 0, .int 0, .long 0, .ref q_155, .int (-1), .int 0])), (q_1, .inl (ty 0, 7, .inl (fun _ => 0))), (q_2, .inl (ty 0, 5640, .inl (upd (fun _ => 0) 26 1))), (q_3, .inl (ty 0, 11280, .inl (fun _ => 0))), (q_4, .inl (ty 2, 2, .inl (fun _ => 0))), (q_5, .inl (ty 0, 28, .inl (fun _ => 0))), (q_6, .inl (ty 3, 128, .inl f_134)), (q_135, .inl (ty 3, 400, .inl (fun _ => 0))), (q_136, .inl (ty 0, 5, .inl (fun _ => 0))), (q_137, .inl (ty 0, 401, .inl (fun _ => 0))), (q_138, .inl (ty 0, 401, .inl (fun _ => 0))), (q_139, .inl (ty 0, 401, .inl (fun _ => 0))), (q_140, .inl (ty 0, 9, .inl (fun _ => 0))), (q_141, .inl (ty 2, 6, .inl (fun _ => 0))), (q_142, .inl (ty 0, 240, .inl (fun _ => 0))), (q_143, .inl (ty 0, 240, .inl (fun _ => 0))), (q_144, .inl (ty 0, 4320, .inl (fun _ => 0))), (q_145, .inl (ty 0, 5040, .inl (fun _ => 0))), (q_146, .inl (ty 0, 448, .inl (fun _ => 0))), (q_147, .inl (ty 0, 6, .inl (fun _ => 0))), (q_148, .inl (ty 0, 588, .inl (fun _ => 0))), (q_149, .inl (ty 0, 46080, .inl (fun _ => 0))), (q_150, .inl (ty 0, 46080, .inl (fun _ => 0))), (q_151, .inl (ty 0, 46080, .inl (fun _ => 0))), (q_152, .inl (ty 2, 46080, .inl (fun _ => 0))), (q_153, .inl (ty 0, 6, .inl (fun _ => 0))), (q_154, .inl (ty 1, 21, .inr (.inl (fun _ => 0)))), (q_155, .inl (ty 0, 14, .inl (fun _ => 0)))]) hp hd hs rfl ?_
  clear hp hd hs hP hD hS
  intro hP hD hS
  refine lv_aload_n hx hb dX10_init_1016 rfl (lv_at hl 0 rfl) ?_
  refine va_get (D := D) (ci := 10) (v := .ref q_2) (C := RX10) (T := TX10) (N := 56) hx hb hts (by decide +kernel) hown hK hP 0 rfl rfl 2 (by decide) (hts (.fieldLink RX10 28 "TurnedFloorsModel" "kept" "[I") (by decide +kernel)) (fun _ h9 => h9) rfl dX10_init_1017 ?_
  refine lv_bipush (v := 32) hx hb dX10_init_1020 (by decide) ?_
  refine lv_iconst (v := (-1)) hx hb dX10_init_1022 (by decide) ?_
  refine va_iast hx hb hK hP hD hS 2 0 rfl rfl (by simp only [vp_in]; decide) dX10_init_1023 (fun H locs hp hd hs => ?_)
  refine kz_re (w2 := [(h0, .inr (10, [.int 0, .ref q_1, .ref q_2, .ref q_3, .ref q_4, .ref q_5, .int 0, .ref q_6, .int 0, .int 0, .int 0, .ref q_135, .ref q_136, .int 0, .int (-1), .ref q_137, .ref q_138, .ref q_139, .int 0, .int 0, .int 0, .int 0, .int 0, .int 0, .int 0, .int 0, .ref q_140, .int 0, .int 0, .ref q_141, .ref q_142, .ref q_143, .int 0, .ref q_144, .ref q_145, .ref q_146, .ref q_147, .int 0, .int 0, .ref q_148, .ref q_149, .ref q_150, .ref q_151, .ref q_152, .ref q_153, .ref q_154, .int (-1), .int 0, .int 0, .int 0, .int 0, .int 0, .long 0, .ref q_155, .int (-1), .int 0])), (q_1, .inl (ty 0, 7, .inl (fun _ => 0))), (q_2, .inl (ty 0, 5640, .inl (upd (upd (fun _ => 0) 26 1) 32 (-1)))), (q_3, .inl (ty 0, 11280, .inl (fun _ => 0))), (q_4, .inl (ty 2, 2, .inl (fun _ => 0))), (q_5, .inl (ty 0, 28, .inl (fun _ => 0))), (q_6, .inl (ty 3, 128, .inl f_134)), (q_135, .inl (ty 3, 400, .inl (fun _ => 0))), (q_136, .inl (ty 0, 5, .inl (fun _ => 0))), (q_137, .inl (ty 0, 401, .inl (fun _ => 0))), (q_138, .inl (ty 0, 401, .inl (fun _ => 0))), (q_139, .inl (ty 0, 401, .inl (fun _ => 0))), (q_140, .inl (ty 0, 9, .inl (fun _ => 0))), (q_141, .inl (ty 2, 6, .inl (fun _ => 0))), (q_142, .inl (ty 0, 240, .inl (fun _ => 0))), (q_143, .inl (ty 0, 240, .inl (fun _ => 0))), (q_144, .inl (ty 0, 4320, .inl (fun _ => 0))), (q_145, .inl (ty 0, 5040, .inl (fun _ => 0))), (q_146, .inl (ty 0, 448, .inl (fun _ => 0))), (q_147, .inl (ty 0, 6, .inl (fun _ => 0))), (q_148, .inl (ty 0, 588, .inl (fun _ => 0))), (q_149, .inl (ty 0, 46080, .inl (fun _ => 0))), (q_150, .inl (ty 0, 46080, .inl (fun _ => 0))), (q_151, .inl (ty 0, 46080, .inl (fun _ => 0))), (q_152, .inl (ty 2, 46080, .inl (fun _ => 0))), (q_153, .inl (ty 0, 6, .inl (fun _ => 0))), (q_154, .inl (ty 1, 21, .inr (.inl (fun _ => 0)))), (q_155, .inl (ty 0, 14, .inl (fun _ => 0)))]) hp hd hs rfl ?_
  clear hp hd hs hP hD hS
  intro hP hD hS
  refine W.widen (k := 27) (n := 213951) (Nat.le_of_ble_eq_true rfl) (Nat.le_of_ble_eq_true rfl) ?_
  exact kz_vret hx hb hr hlocks hP hK hD hS dX10_init_1024 ⟨q_1, q_2, q_3, q_4, q_5, q_6, q_135, q_136, q_137, q_138, q_139, q_140, q_141, q_142, q_143, q_144, q_145, q_146, q_147, q_148, q_149, q_150, q_151, q_152, q_153, q_154, q_155, f_134, rfl⟩
