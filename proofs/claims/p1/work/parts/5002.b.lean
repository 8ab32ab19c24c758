set_option maxHeartbeats 4000000 in
set_option maxRecDepth 100000 in
theorem kX4_read_14 (l : Launch) (D : va_G) (ty : Nat → ClassId) (eo : Nat → Nat) (sz : Nat) (x_reader x_tape x_draft x_draft_kind x_draft_times x_draft_sumFrom x_draft_testFrom x_draft_testTo x_draft_code : Nat) : Met l yX4_read wsX4_read ({ frames := 4, cells := 0, slots := 0, locals := 85 }) (va_Pc [.ref x_reader, .ref x_tape, .int 0, .int 0, .ref x_draft] (kz_pre D ty eo [(x_reader, .inr (4, [.null, .int 0, .int 0, .null, .int 0, .int 0, .int 0, .int 0, .int 0, .int 0, .int (-1)])), (x_tape, .inl (ty 0, 400, .inl (fun _ => 0))), (x_draft, .inr (7, [.ref x_draft_kind, .ref x_draft_times, .ref x_draft_sumFrom, .ref x_draft_testFrom, .ref x_draft_testTo, .ref x_draft_code, .int 0, .int 0]))] sz)) (va_Qi (fun (r : Int32) (u : va_W) => 0 = r ∧ [(x_tape, .inl (ty 0, 400, .inl (fun _ => 0))), (x_draft, .inr (7, [.ref x_draft_kind, .ref x_draft_times, .ref x_draft_sumFrom, .ref x_draft_testFrom, .ref x_draft_testTo, .ref x_draft_code, .int 0, .int 0])), (x_reader, .inr (4, [.ref x_tape, .int 0, .int 0, .ref x_draft, .int 0, .int 0, .int 0, .int 0, .int 0, .int 0, .int 0]))] = u) (kz_B D ty (va_A [(x_reader, .inr (4, [.null, .int 0, .int 0, .null, .int 0, .int 0, .int 0, .int 0, .int 0, .int 0, .int (-1)])), (x_tape, .inl (ty 0, 400, .inl (fun _ => 0))), (x_draft, .inr (7, [.ref x_draft_kind, .ref x_draft_times, .ref x_draft_sumFrom, .ref x_draft_testFrom, .ref x_draft_testTo, .ref x_draft_code, .int 0, .int 0]))] sz)) (va_A [(x_reader, .inr (4, [.null, .int 0, .int 0, .null, .int 0, .int 0, .int 0, .int 0, .int 0, .int 0, .int (-1)])), (x_tape, .inl (ty 0, 400, .inl (fun _ => 0))), (x_draft, .inr (7, [.ref x_draft_kind, .ref x_draft_times, .ref x_draft_sumFrom, .ref x_draft_testFrom, .ref x_draft_testTo, .ref x_draft_code, .int 0, .int 0]))] sz)) 0 0 (va_A [(x_reader, .inr (4, [.null, .int 0, .int 0, .null, .int 0, .int 0, .int 0, .int 0, .int 0, .int 0, .int (-1)])), (x_tape, .inl (ty 0, 400, .inl (fun _ => 0))), (x_draft, .inr (7, [.ref x_draft_kind, .ref x_draft_times, .ref x_draft_sumFrom, .ref x_draft_testFrom, .ref x_draft_testTo, .ref x_draft_code, .int 0, .int 0]))] sz) := by
  refine Met.ofW (cc := cX4_read) (maxL := 6) (ret := (some .int)) (by decide) rfl ?_
  intro p e s m args below meth c s₁ B hml hv
  obtain ⟨rfl, hsz, hP, hK, hD0, hN, hE⟩ := hv
  have hx := B.exec
  have hb := B.bytes
  have hr := B.returns
  have hts := atoms_spec (ws := wsX4_read) B.pre
  have hown : s.vm.findClass RX4 = some m.cls := findClass_of_methodNamed B.named
  have hlocks := B.notSynchronized
  subst hsz
  have hD := hD0.self (sz := s.heap.size)
  generalize hAe : va_A [(x_reader, .inr (4, [.null, .int 0, .int 0, .null, .int 0, .int 0, .int 0, .int 0, .int 0, .int 0, .int (-1)])), (x_tape, .inl (ty 0, 400, .inl (fun _ => 0))), (x_draft, .inr (7, [.ref x_draft_kind, .ref x_draft_times, .ref x_draft_sumFrom, .ref x_draft_testFrom, .ref x_draft_testTo, .ref x_draft_code, .int 0, .int 0]))] s.heap.size = A at hD hE ⊢
  have hA : ∀ q : Nat, s.heap.size ≤ q → A q := fun q h => by rw [← hAe]; exact Or.inr h
  have hS : va_S A s.heap s.heap [] := va_S.rf
  have hl := lv_entry ([.ref x_reader, .ref x_tape, .int 0, .int 0, .ref x_draft]) (n := 6) (Nat.le_of_ble_eq_true rfl)
  rw [lg_entry_eq]
  generalize (lg_sl ([.ref x_reader, .ref x_tape, .int 0, .int 0, .ref x_draft]) ++ List.replicate (6 - (lg_sl ([.ref x_reader, .ref x_tape, .int 0, .int 0, .ref x_draft])).length) Slot.unset).toArray = ls at hl ⊢
  have hl : lv_has ls 6 [(0, .ref x_reader), (1, .ref x_tape), (2, .int 0), (3, .int 0), (4, .ref x_draft)] := hl
  refine lv_aload_n hx hb dX4_read_0 rfl (lv_at hl 0 rfl) ?_
  refine lv_aload_n hx hb dX4_read_1 rfl (lv_at hl 1 rfl) ?_
  refine va_put (D := D) (ci := 4) (v := .ref x_tape) (ty := .array .int) (C := RX4) (T := TX4) (N := 11) hx hb hts (by decide +kernel) tyX4 tyX4_ok nmX4 hown hK hP hD hS 0 rfl rfl 0 (by decide) (hts (.fieldLink RX4 9 "TurnedFloors$Reader" "bytes" "[I") (by decide +kernel)) (fun _ h9 => h9) rfl (by decide +kernel) rfl rfl (Nat.le_of_ble_eq_true rfl) dX4_read_2 (fun H locs hP hD hS => ?_)
  have hP : va_P D vwCl [(x_reader, .inr (4, [.ref x_tape, .int 0, .int 0, .null, .int 0, .int 0, .int 0, .int 0, .int 0, .int 0, .int (-1)])), (x_tape, .inl (ty 0, 400, .inl (fun _ => 0))), (x_draft, .inr (7, [.ref x_draft_kind, .ref x_draft_times, .ref x_draft_sumFrom, .ref x_draft_testFrom, .ref x_draft_testTo, .ref x_draft_code, .int 0, .int 0]))] H := hP
  have hD : va_D A [(x_reader, .inr (4, [.ref x_tape, .int 0, .int 0, .null, .int 0, .int 0, .int 0, .int 0, .int 0, .int 0, .int (-1)])), (x_tape, .inl (ty 0, 400, .inl (fun _ => 0))), (x_draft, .inr (7, [.ref x_draft_kind, .ref x_draft_times, .ref x_draft_sumFrom, .ref x_draft_testFrom, .ref x_draft_testTo, .ref x_draft_code, .int 0, .int 0]))] := hD
  refine lv_aload_n hx hb dX4_read_5 rfl (lv_at hl 0 rfl) ?_
  refine lv_iload_n hx hb dX4_read_6 rfl (lv_at hl 2 rfl) ?_
  refine lv_aload_n hx hb dX4_read_7 rfl (lv_at hl 1 rfl) ?_
  refine va_alen (v := 400) hx hb hK hP 1 0 rfl rfl (by decide +kernel) dX4_read_8 ?_
  refine va_mmin hx hb (hml.trans hl.1.symm) hown (hts (.methodLink RX4 48 Lib.Math.min.name) (by decide +kernel)) (hts (.static Lib.Math.min.name) (by decide +kernel)) (hts (.initialized "java/lang/Math") (by decide +kernel)) (hts (.code Lib.Math.min.name Lib.Math.min.code 2 (some .int)) (by decide +kernel)) (Nat.le_of_ble_eq_true rfl) (Nat.le_of_ble_eq_true rfl) (Nat.le_of_ble_eq_true rfl) (Nat.le_of_ble_eq_true rfl) dX4_read_9 ?_
  refine lv_topi (fun z_1 ez_1 => ?_)
  obtain rfl : z_1 = 0 := ez_1.trans (by first | rfl | decide +kernel)
  refine va_put (D := D) (ci := 4) (v := .int 0) (ty := .int) (C := RX4) (T := TX4) (N := 11) hx hb hts (by decide +kernel) tyX4 tyX4_ok nmX4 hown hK hP hD hS 0 rfl rfl 1 (by decide) (hts (.fieldLink RX4 15 "TurnedFloors$Reader" "length" "I") (by decide +kernel)) (fun _ h9 => h9) rfl (by decide +kernel) rfl rfl (Nat.le_of_ble_eq_true rfl) dX4_read_12 (fun H locs hP hD hS => ?_)
  have hP : va_P D vwCl [(x_reader, .inr (4, [.ref x_tape, .int 0, .int 0, .null, .int 0, .int 0, .int 0, .int 0, .int 0, .int 0, .int (-1)])), (x_tape, .inl (ty 0, 400, .inl (fun _ => 0))), (x_draft, .inr (7, [.ref x_draft_kind, .ref x_draft_times, .ref x_draft_sumFrom, .ref x_draft_testFrom, .ref x_draft_testTo, .ref x_draft_code, .int 0, .int 0]))] H := hP
  have hD : va_D A [(x_reader, .inr (4, [.ref x_tape, .int 0, .int 0, .null, .int 0, .int 0, .int 0, .int 0, .int 0, .int 0, .int (-1)])), (x_tape, .inl (ty 0, 400, .inl (fun _ => 0))), (x_draft, .inr (7, [.ref x_draft_kind, .ref x_draft_times, .ref x_draft_sumFrom, .ref x_draft_testFrom, .ref x_draft_testTo, .ref x_draft_code, .int 0, .int 0]))] := hD
  refine lv_aload_n hx hb dX4_read_15 rfl (lv_at hl 0 rfl) ?_
  refine lv_iload_n hx hb dX4_read_16 rfl (lv_at hl 3 rfl) ?_
  refine va_put (D := D) (ci := 4) (v := .int 0) (ty := .boolean) (C := RX4) (T := TX4) (N := 11) hx hb hts (by decide +kernel) tyX4 tyX4_ok nmX4 hown hK hP hD hS 0 rfl rfl 2 (by decide) (hts (.fieldLink RX4 19 "TurnedFloors$Reader" "ofOrders" "Z") (by decide +kernel)) (fun _ h9 => h9) rfl (by decide +kernel) rfl rfl (Nat.le_of_ble_eq_true rfl) dX4_read_17 (fun H locs hP hD hS => ?_)
  have hP : va_P D vwCl [(x_reader, .inr (4, [.ref x_tape, .int 0, .int 0, .null, .int 0, .int 0, .int 0, .int 0, .int 0, .int 0, .int (-1)])), (x_tape, .inl (ty 0, 400, .inl (fun _ => 0))), (x_draft, .inr (7, [.ref x_draft_kind, .ref x_draft_times, .ref x_draft_sumFrom, .ref x_draft_testFrom, .ref x_draft_testTo, .ref x_draft_code, .int 0, .int 0]))] H := hP
  have hD : va_D A [(x_reader, .inr (4, [.ref x_tape, .int 0, .int 0, .null, .int 0, .int 0, .int 0, .int 0, .int 0, .int 0, .int (-1)])), (x_tape, .inl (ty 0, 400, .inl (fun _ => 0))), (x_draft, .inr (7, [.ref x_draft_kind, .ref x_draft_times, .ref x_draft_sumFrom, .ref x_draft_testFrom, .ref x_draft_testTo, .ref x_draft_code, .int 0, .int 0]))] := hD
  refine lv_aload_n hx hb dX4_read_20 rfl (lv_at hl 0 rfl) ?_
  refine lv_aload hx hb dX4_read_21 (lv_at hl 4 rfl) ?_
  refine va_put (D := D) (ci := 4) (v := .ref x_draft) (ty := .object "TurnedFloors$Text") (C := RX4) (T := TX4) (N := 11) hx hb hts (by decide +kernel) tyX4 tyX4_ok nmX4 hown hK hP hD hS 0 rfl rfl 3 (by decide) (hts (.fieldLink RX4 23 "TurnedFloors$Reader" "text" "LTurnedFloors$Text;") (by decide +kernel)) (fun _ h9 => h9) rfl (by decide +kernel) rfl rfl (Nat.le_of_ble_eq_true rfl) dX4_read_23 (fun H locs hP hD hS => ?_)
  have hP : va_P D vwCl [(x_reader, .inr (4, [.ref x_tape, .int 0, .int 0, .ref x_draft, .int 0, .int 0, .int 0, .int 0, .int 0, .int 0, .int (-1)])), (x_tape, .inl (ty 0, 400, .inl (fun _ => 0))), (x_draft, .inr (7, [.ref x_draft_kind, .ref x_draft_times, .ref x_draft_sumFrom, .ref x_draft_testFrom, .ref x_draft_testTo, .ref x_draft_code, .int 0, .int 0]))] H := hP
  have hD : va_D A [(x_reader, .inr (4, [.ref x_tape, .int 0, .int 0, .ref x_draft, .int 0, .int 0, .int 0, .int 0, .int 0, .int 0, .int (-1)])), (x_tape, .inl (ty 0, 400, .inl (fun _ => 0))), (x_draft, .inr (7, [.ref x_draft_kind, .ref x_draft_times, .ref x_draft_sumFrom, .ref x_draft_testFrom, .ref x_draft_testTo, .ref x_draft_code, .int 0, .int 0]))] := hD
  refine lv_aload_n hx hb dX4_read_26 rfl (lv_at hl 0 rfl) ?_
  refine va_get (D := D) (ci := 4) (v := .ref x_draft) (C := RX4) (T := TX4) (N := 11) hx hb hts (by decide +kernel) hown hK hP 0 rfl rfl 3 (by decide) (hts (.fieldLink RX4 23 "TurnedFloors$Reader" "text" "LTurnedFloors$Text;") (by decide +kernel)) (fun _ h9 => h9) rfl dX4_read_27 ?_
  refine kz_kv (wc := [(x_draft, .inr (7, [.ref x_draft_kind, .ref x_draft_times, .ref x_draft_sumFrom, .ref x_draft_testFrom, .ref x_draft_testTo, .ref x_draft_code, .int 0, .int 0]))]) (wr := [(x_reader, .inr (4, [.ref x_tape, .int 0, .int 0, .ref x_draft, .int 0, .int 0, .int 0, .int 0, .int 0, .int 0, .int (-1)])), (x_tape, .inl (ty 0, 400, .inl (fun _ => 0)))]) (va_runV (As := []) (rest := []) ⟨hx, hb, hml, hown, hts⟩ (kcX7_clear l D ty eo _ x_draft (.ref x_draft_kind) (.ref x_draft_times) (.ref x_draft_sumFrom) (.ref x_draft_testFrom) (.ref x_draft_testTo) (.ref x_draft_code) (.int 0) (.int 0)) (cwV 0 hts gX4_read_X7_clear rfl rfl rfl (by decide +kernel) ⟨Nat.le_of_ble_eq_true rfl, Nat.le_of_ble_eq_true rfl⟩) (kz_preV (ci := 7) (q0 := 2) hK hN hE hP hD hS hA rfl rfl [2] (by decide) rfl) rfl rfl hl.1 rfl (lv_room (Nat.le_of_ble_eq_true rfl)) dX4_read_30 ⟨Nat.le_of_ble_eq_true rfl, Nat.le_of_ble_eq_true rfl⟩) hP hD hS hA [2] [0, 1] rfl rfl (by decide) (by decide) (fun u H locs hw hP hD hS => ?_)
  obtain rfl := hw
  have hP : va_P D vwCl [(x_reader, .inr (4, [.ref x_tape, .int 0, .int 0, .ref x_draft, .int 0, .int 0, .int 0, .int 0, .int 0, .int 0, .int (-1)])), (x_tape, .inl (ty 0, 400, .inl (fun _ => 0))), (x_draft, .inr (7, [.ref x_draft_kind, .ref x_draft_times, .ref x_draft_sumFrom, .ref x_draft_testFrom, .ref x_draft_testTo, .ref x_draft_code, .int 0, .int 0]))] H := hP
  have hD : va_D A [(x_reader, .inr (4, [.ref x_tape, .int 0, .int 0, .ref x_draft, .int 0, .int 0, .int 0, .int 0, .int 0, .int 0, .int (-1)])), (x_tape, .inl (ty 0, 400, .inl (fun _ => 0))), (x_draft, .inr (7, [.ref x_draft_kind, .ref x_draft_times, .ref x_draft_sumFrom, .ref x_draft_testFrom, .ref x_draft_testTo, .ref x_draft_code, .int 0, .int 0]))] := hD
  refine lv_aload_n hx hb dX4_read_33 rfl (lv_at hl 0 rfl) ?_
  refine lv_iconst (v := 0) hx hb dX4_read_34 (by decide) ?_
  refine va_put (D := D) (ci := 4) (v := .int 0) (ty := .int) (C := RX4) (T := TX4) (N := 11) hx hb hts (by decide +kernel) tyX4 tyX4_ok nmX4 hown hK hP hD hS 0 rfl rfl 6 (by decide) (hts (.fieldLink RX4 33 "TurnedFloors$Reader" "stop" "I") (by decide +kernel)) (fun _ h9 => h9) rfl (by decide +kernel) rfl rfl (Nat.le_of_ble_eq_true rfl) dX4_read_35 (fun H locs hP hD hS => ?_)
  have hP : va_P D vwCl [(x_reader, .inr (4, [.ref x_tape, .int 0, .int 0, .ref x_draft, .int 0, .int 0, .int 0, .int 0, .int 0, .int 0, .int (-1)])), (x_tape, .inl (ty 0, 400, .inl (fun _ => 0))), (x_draft, .inr (7, [.ref x_draft_kind, .ref x_draft_times, .ref x_draft_sumFrom, .ref x_draft_testFrom, .ref x_draft_testTo, .ref x_draft_code, .int 0, .int 0]))] H := hP
  have hD : va_D A [(x_reader, .inr (4, [.ref x_tape, .int 0, .int 0, .ref x_draft, .int 0, .int 0, .int 0, .int 0, .int 0, .int 0, .int (-1)])), (x_tape, .inl (ty 0, 400, .inl (fun _ => 0))), (x_draft, .inr (7, [.ref x_draft_kind, .ref x_draft_times, .ref x_draft_sumFrom, .ref x_draft_testFrom, .ref x_draft_testTo, .ref x_draft_code, .int 0, .int 0]))] := hD
  refine lv_aload_n hx hb dX4_read_38 rfl (lv_at hl 0 rfl) ?_
  refine lv_iconst (v := 0) hx hb dX4_read_39 (by decide) ?_
  refine va_put (D := D) (ci := 4) (v := .int 0) (ty := .int) (C := RX4) (T := TX4) (N := 11) hx hb hts (by decide +kernel) tyX4 tyX4_ok nmX4 hown hK hP hD hS 0 rfl rfl 8 (by decide) (hts (.fieldLink RX4 39 "TurnedFloors$Reader" "parts" "I") (by decide +kernel)) (fun _ h9 => h9) rfl (by decide +kernel) rfl rfl (Nat.le_of_ble_eq_true rfl) dX4_read_40 (fun H locs hP hD hS => ?_)
  have hP : va_P D vwCl [(x_reader, .inr (4, [.ref x_tape, .int 0, .int 0, .ref x_draft, .int 0, .int 0, .int 0, .int 0, .int 0, .int 0, .int (-1)])), (x_tape, .inl (ty 0, 400, .inl (fun _ => 0))), (x_draft, .inr (7, [.ref x_draft_kind, .ref x_draft_times, .ref x_draft_sumFrom, .ref x_draft_testFrom, .ref x_draft_testTo, .ref x_draft_code, .int 0, .int 0]))] H := hP
  have hD : va_D A [(x_reader, .inr (4, [.ref x_tape, .int 0, .int 0, .ref x_draft, .int 0, .int 0, .int 0, .int 0, .int 0, .int 0, .int (-1)])), (x_tape, .inl (ty 0, 400, .inl (fun _ => 0))), (x_draft, .inr (7, [.ref x_draft_kind, .ref x_draft_times, .ref x_draft_sumFrom, .ref x_draft_testFrom, .ref x_draft_testTo, .ref x_draft_code, .int 0, .int 0]))] := hD
  refine lv_aload_n hx hb dX4_read_43 rfl (lv_at hl 0 rfl) ?_
  refine lv_iconst (v := 0) hx hb dX4_read_44 (by decide) ?_
  refine va_put (D := D) (ci := 4) (v := .int 0) (ty := .int) (C := RX4) (T := TX4) (N := 11) hx hb hts (by decide +kernel) tyX4 tyX4_ok nmX4 hown hK hP hD hS 0 rfl rfl 9 (by decide) (hts (.fieldLink RX4 42 "TurnedFloors$Reader" "open" "I") (by decide +kernel)) (fun _ h9 => h9) rfl (by decide +kernel) rfl rfl (Nat.le_of_ble_eq_true rfl) dX4_read_45 (fun H locs hP hD hS => ?_)
  have hP : va_P D vwCl [(x_reader, .inr (4, [.ref x_tape, .int 0, .int 0, .ref x_draft, .int 0, .int 0, .int 0, .int 0, .int 0, .int 0, .int (-1)])), (x_tape, .inl (ty 0, 400, .inl (fun _ => 0))), (x_draft, .inr (7, [.ref x_draft_kind, .ref x_draft_times, .ref x_draft_sumFrom, .ref x_draft_testFrom, .ref x_draft_testTo, .ref x_draft_code, .int 0, .int 0]))] H := hP
  have hD : va_D A [(x_reader, .inr (4, [.ref x_tape, .int 0, .int 0, .ref x_draft, .int 0, .int 0, .int 0, .int 0, .int 0, .int 0, .int (-1)])), (x_tape, .inl (ty 0, 400, .inl (fun _ => 0))), (x_draft, .inr (7, [.ref x_draft_kind, .ref x_draft_times, .ref x_draft_sumFrom, .ref x_draft_testFrom, .ref x_draft_testTo, .ref x_draft_code, .int 0, .int 0]))] := hD
  refine lv_aload_n hx hb dX4_read_48 rfl (lv_at hl 0 rfl) ?_
  refine lv_iconst (v := (-1)) hx hb dX4_read_49 (by decide) ?_
  refine va_put (D := D) (ci := 4) (v := .int (-1)) (ty := .int) (C := RX4) (T := TX4) (N := 11) hx hb hts (by decide +kernel) tyX4 tyX4_ok nmX4 hown hK hP hD hS 0 rfl rfl 10 (by decide) (hts (.fieldLink RX4 45 "TurnedFloors$Reader" "faultAt" "I") (by decide +kernel)) (fun _ h9 => h9) rfl (by decide +kernel) rfl rfl (Nat.le_of_ble_eq_true rfl) dX4_read_50 (fun H locs hP hD hS => ?_)
  have hP : va_P D vwCl [(x_reader, .inr (4, [.ref x_tape, .int 0, .int 0, .ref x_draft, .int 0, .int 0, .int 0, .int 0, .int 0, .int 0, .int (-1)])), (x_tape, .inl (ty 0, 400, .inl (fun _ => 0))), (x_draft, .inr (7, [.ref x_draft_kind, .ref x_draft_times, .ref x_draft_sumFrom, .ref x_draft_testFrom, .ref x_draft_testTo, .ref x_draft_code, .int 0, .int 0]))] H := hP
  have hD : va_D A [(x_reader, .inr (4, [.ref x_tape, .int 0, .int 0, .ref x_draft, .int 0, .int 0, .int 0, .int 0, .int 0, .int 0, .int (-1)])), (x_tape, .inl (ty 0, 400, .inl (fun _ => 0))), (x_draft, .inr (7, [.ref x_draft_kind, .ref x_draft_times, .ref x_draft_sumFrom, .ref x_draft_testFrom, .ref x_draft_testTo, .ref x_draft_code, .int 0, .int 0]))] := hD
  refine lv_aload_n hx hb dX4_read_53 rfl (lv_at hl 0 rfl) ?_
  refine kz_kv (wc := [(x_reader, .inr (4, [.ref x_tape, .int 0, .int 0, .ref x_draft, .int 0, .int 0, .int 0, .int 0, .int 0, .int 0, .int (-1)]))]) (wr := [(x_tape, .inl (ty 0, 400, .inl (fun _ => 0))), (x_draft, .inr (7, [.ref x_draft_kind, .ref x_draft_times, .ref x_draft_sumFrom, .ref x_draft_testFrom, .ref x_draft_testTo, .ref x_draft_code, .int 0, .int 0]))]) (va_runV (As := []) (rest := []) ⟨hx, hb, hml, hown, hts⟩ (kX4_step_15 l D ty eo _ x_reader x_tape x_draft) (cwV 0 hts gX4_read_X4_step rfl rfl rfl (by decide +kernel) ⟨Nat.le_of_ble_eq_true rfl, Nat.le_of_ble_eq_true rfl⟩) (kz_preV (ci := 4) (q0 := 0) hK hN hE hP hD hS hA rfl rfl [0] (by decide) rfl) rfl rfl hl.1 rfl (lv_room (Nat.le_of_ble_eq_true rfl)) dX4_read_54 ⟨Nat.le_of_ble_eq_true rfl, Nat.le_of_ble_eq_true rfl⟩) hP hD hS hA [0] [1, 2] rfl rfl (by decide) (by decide) (fun u H locs hw hP hD hS => ?_)
  obtain rfl := hw
  have hP : va_P D vwCl [(x_tape, .inl (ty 0, 400, .inl (fun _ => 0))), (x_draft, .inr (7, [.ref x_draft_kind, .ref x_draft_times, .ref x_draft_sumFrom, .ref x_draft_testFrom, .ref x_draft_testTo, .ref x_draft_code, .int 0, .int 0])), (x_reader, .inr (4, [.ref x_tape, .int 0, .int 0, .ref x_draft, .int 0, .int 0, .int 0, .int 0, .int 0, .int 0, .int (-1)]))] H := hP
  have hD : va_D A [(x_tape, .inl (ty 0, 400, .inl (fun _ => 0))), (x_draft, .inr (7, [.ref x_draft_kind, .ref x_draft_times, .ref x_draft_sumFrom, .ref x_draft_testFrom, .ref x_draft_testTo, .ref x_draft_code, .int 0, .int 0])), (x_reader, .inr (4, [.ref x_tape, .int 0, .int 0, .ref x_draft, .int 0, .int 0, .int 0, .int 0, .int 0, .int 0, .int (-1)]))] := hD
  refine lv_iconst (v := 0) hx hb dX4_read_57 (by decide) ?_
  refine lv_istore (lv' := [(5, .int 0), (0, .ref x_reader), (1, .ref x_tape), (2, .int 0), (3, .int 0), (4, .ref x_draft)]) hx hb dX4_read_58 hl (by decide) rfl (fun ls hl => ?_)
  refine lv_iload hx hb dX4_read_60 (lv_at hl 0 rfl) ?_
  refine lv_bipush (v := 12) hx hb dX4_read_62 (by decide) ?_
  refine lv_icmp_gt (tgt := 122) hx hb dX4_read_64 (by decide) (fun h => absurd h (by decide)) (fun _ => ?_)
  refine lv_aload_n hx hb dX4_read_67 rfl (lv_at hl 1 rfl) ?_
  refine va_get (D := D) (ci := 4) (v := .int (-1)) (C := RX4) (T := TX4) (N := 11) hx hb hts (by decide +kernel) hown hK hP 2 rfl rfl 10 (by decide) (hts (.fieldLink RX4 45 "TurnedFloors$Reader" "faultAt" "I") (by decide +kernel)) (fun _ h9 => h9) rfl dX4_read_68 ?_
  refine lv_iconst (v := (-1)) hx hb dX4_read_71 (by decide) ?_
  refine lv_icmp_ne (tgt := 122) hx hb dX4_read_72 (by decide) (fun h => absurd (by decide) h) (fun _ => ?_)
  refine lv_iload hx hb dX4_read_75 (lv_at hl 0 rfl) ?_
  refine lv_bipush (v := 12) hx hb dX4_read_77 (by decide) ?_
  refine lv_icmp_ne (tgt := 89) hx hb dX4_read_79 (by decide) (fun _ => ?_) (fun h => absurd h (by decide))
  refine lv_aload_n hx hb dX4_read_89 rfl (lv_at hl 1 rfl) ?_
  refine kz_kv (wc := [(x_reader, .inr (4, [.ref x_tape, .int 0, .int 0, .ref x_draft, .int 0, .int 0, .int 0, .int 0, .int 0, .int 0, .int (-1)]))]) (wr := [(x_tape, .inl (ty 0, 400, .inl (fun _ => 0))), (x_draft, .inr (7, [.ref x_draft_kind, .ref x_draft_times, .ref x_draft_sumFrom, .ref x_draft_testFrom, .ref x_draft_testTo, .ref x_draft_code, .int 0, .int 0]))]) (va_runV (As := []) (rest := []) ⟨hx, hb, hml, hown, hts⟩ (kX4_readClause_23 l D ty eo _ x_reader x_tape x_draft) (cwV 0 hts gX4_read_X4_readClause rfl rfl rfl (by decide +kernel) ⟨Nat.le_of_ble_eq_true rfl, Nat.le_of_ble_eq_true rfl⟩) (kz_preV (ci := 4) (q0 := 2) hK hN hE hP hD hS hA rfl rfl [2] (by decide) rfl) rfl rfl hl.1 rfl (lv_room (Nat.le_of_ble_eq_true rfl)) dX4_read_90 ⟨Nat.le_of_ble_eq_true rfl, Nat.le_of_ble_eq_true rfl⟩) hP hD hS hA [2] [0, 1] rfl rfl (by decide) (by decide) (fun u H locs hw hP hD hS => ?_)
  obtain rfl := hw
  have hP : va_P D vwCl [(x_tape, .inl (ty 0, 400, .inl (fun _ => 0))), (x_draft, .inr (7, [.ref x_draft_kind, .ref x_draft_times, .ref x_draft_sumFrom, .ref x_draft_testFrom, .ref x_draft_testTo, .ref x_draft_code, .int 0, .int 0])), (x_reader, .inr (4, [.ref x_tape, .int 0, .int 0, .ref x_draft, .int 0, .int 0, .int 0, .int 0, .int 0, .int 0, .int 0]))] H := hP
  have hD : va_D A [(x_tape, .inl (ty 0, 400, .inl (fun _ => 0))), (x_draft, .inr (7, [.ref x_draft_kind, .ref x_draft_times, .ref x_draft_sumFrom, .ref x_draft_testFrom, .ref x_draft_testTo, .ref x_draft_code, .int 0, .int 0])), (x_reader, .inr (4, [.ref x_tape, .int 0, .int 0, .ref x_draft, .int 0, .int 0, .int 0, .int 0, .int 0, .int 0, .int 0]))] := hD
  refine lv_aload_n hx hb dX4_read_93 rfl (lv_at hl 1 rfl) ?_
  refine va_get (D := D) (ci := 4) (v := .int 0) (C := RX4) (T := TX4) (N := 11) hx hb hts (by decide +kernel) hown hK hP 2 rfl rfl 10 (by decide) (hts (.fieldLink RX4 45 "TurnedFloors$Reader" "faultAt" "I") (by decide +kernel)) (fun _ h9 => h9) rfl dX4_read_94 ?_
  refine lv_iconst (v := (-1)) hx hb dX4_read_97 (by decide) ?_
  refine lv_icmp_ne (tgt := 110) hx hb dX4_read_98 (by decide) (fun _ => ?_) (fun h => absurd h (by decide))
  refine lv_aload_n hx hb dX4_read_110 rfl (lv_at hl 1 rfl) ?_
  refine lv_bipush (v := 59) hx hb dX4_read_111 (by decide) ?_
  refine kz_kv (wc := [(x_reader, .inr (4, [.ref x_tape, .int 0, .int 0, .ref x_draft, .int 0, .int 0, .int 0, .int 0, .int 0, .int 0, .int 0]))]) (wr := [(x_tape, .inl (ty 0, 400, .inl (fun _ => 0))), (x_draft, .inr (7, [.ref x_draft_kind, .ref x_draft_times, .ref x_draft_sumFrom, .ref x_draft_testFrom, .ref x_draft_testTo, .ref x_draft_code, .int 0, .int 0]))]) (va_runV (As := [.int 59]) (rest := []) ⟨hx, hb, hml, hown, hts⟩ (kX4_expectSign_26 l D ty eo _ x_reader x_tape x_draft) (cwV 1 hts gX4_read_X4_expectSign rfl rfl rfl (by decide +kernel) ⟨Nat.le_of_ble_eq_true rfl, Nat.le_of_ble_eq_true rfl⟩) (kz_preV (ci := 4) (q0 := 2) hK hN hE hP hD hS hA rfl rfl [2] (by decide) rfl) rfl rfl hl.1 rfl (lv_room (Nat.le_of_ble_eq_true rfl)) dX4_read_113 ⟨Nat.le_of_ble_eq_true rfl, Nat.le_of_ble_eq_true rfl⟩) hP hD hS hA [2] [0, 1] rfl rfl (by decide) (by decide) (fun u H locs hw hP hD hS => ?_)
  obtain rfl := hw
  have hP : va_P D vwCl [(x_tape, .inl (ty 0, 400, .inl (fun _ => 0))), (x_draft, .inr (7, [.ref x_draft_kind, .ref x_draft_times, .ref x_draft_sumFrom, .ref x_draft_testFrom, .ref x_draft_testTo, .ref x_draft_code, .int 0, .int 0])), (x_reader, .inr (4, [.ref x_tape, .int 0, .int 0, .ref x_draft, .int 0, .int 0, .int 0, .int 0, .int 0, .int 0, .int 0]))] H := hP
  have hD : va_D A [(x_tape, .inl (ty 0, 400, .inl (fun _ => 0))), (x_draft, .inr (7, [.ref x_draft_kind, .ref x_draft_times, .ref x_draft_sumFrom, .ref x_draft_testFrom, .ref x_draft_testTo, .ref x_draft_code, .int 0, .int 0])), (x_reader, .inr (4, [.ref x_tape, .int 0, .int 0, .ref x_draft, .int 0, .int 0, .int 0, .int 0, .int 0, .int 0, .int 0]))] := hD
  refine lv_iinc (v := 1) (lv' := [(5, .int 1), (0, .ref x_reader), (1, .ref x_tape), (2, .int 0), (3, .int 0), (4, .ref x_draft)]) hx hb dX4_read_116 hl (k := 0) rfl (by decide) (by decide) rfl (fun ls hl => ?_)
  refine lv_goto (tgt := 60) hx hb dX4_read_119 (by decide) ?_
  refine lv_iload hx hb dX4_read_60 (lv_at hl 0 rfl) ?_
  refine lv_bipush (v := 12) hx hb dX4_read_62 (by decide) ?_
  refine lv_icmp_gt (tgt := 122) hx hb dX4_read_64 (by decide) (fun h => absurd h (by decide)) (fun _ => ?_)
  refine lv_aload_n hx hb dX4_read_67 rfl (lv_at hl 1 rfl) ?_
  refine va_get (D := D) (ci := 4) (v := .int 0) (C := RX4) (T := TX4) (N := 11) hx hb hts (by decide +kernel) hown hK hP 2 rfl rfl 10 (by decide) (hts (.fieldLink RX4 45 "TurnedFloors$Reader" "faultAt" "I") (by decide +kernel)) (fun _ h9 => h9) rfl dX4_read_68 ?_
  refine lv_iconst (v := (-1)) hx hb dX4_read_71 (by decide) ?_
  refine lv_icmp_ne (tgt := 122) hx hb dX4_read_72 (by decide) (fun _ => ?_) (fun h => absurd h (by decide))
  refine lv_aload_n hx hb dX4_read_122 rfl (lv_at hl 1 rfl) ?_
  refine va_get (D := D) (ci := 4) (v := .int 0) (C := RX4) (T := TX4) (N := 11) hx hb hts (by decide +kernel) hown hK hP 2 rfl rfl 10 (by decide) (hts (.fieldLink RX4 45 "TurnedFloors$Reader" "faultAt" "I") (by decide +kernel)) (fun _ h9 => h9) rfl dX4_read_123 ?_
  exact kz_iret hx hb hr hlocks hP hK hD hS dX4_read_126 ⟨rfl, rfl⟩

set_option maxHeartbeats 4000000 in
set_option maxRecDepth 100000 in
theorem kX9_refuse_28 (l : Launch) (D : va_G) (ty : Nat → ClassId) (eo : Nat → Nat) (sz : Nat) (x x_state x_images x_kept x_history x_drawnTower x_machine x_judge x_runner x_reader x_draft x_paper x_tape x_chances x_refusals : Nat) : Met l yX9_refuse wsX9_refuse ({ frames := 0, cells := 0, slots := 0, locals := 0 }) (va_Pc [.ref x, .int (-6)] (kz_pre D ty eo [(x, .inr (9, [.ref x_state, .ref x_images, .ref x_kept, .ref x_history, .ref x_drawnTower, .ref x_machine, .ref x_judge, .ref x_runner, .ref x_reader, .ref x_draft, .ref x_paper, .ref x_tape, .int 0, .int 0, .int 0, .int (-1), .ref x_chances, .ref x_refusals, .int 0])), (x_refusals, .inl (ty 0, 7, .inl (fun _ => 0)))] sz)) (va_Qi (fun (r : Int32) (u : va_W) => (-6) = r ∧ [(x, .inr (9, [.ref x_state, .ref x_images, .ref x_kept, .ref x_history, .ref x_drawnTower, .ref x_machine, .ref x_judge, .ref x_runner, .ref x_reader, .ref x_draft, .ref x_paper, .ref x_tape, .int 0, .int 0, .int 0, .int (-1), .ref x_chances, .ref x_refusals, .int (-6)])), (x_refusals, .inl (ty 0, 7, .inl (upd (fun _ => 0) 6 1)))] = u) (kz_B D ty (va_A [(x, .inr (9, [.ref x_state, .ref x_images, .ref x_kept, .ref x_history, .ref x_drawnTower, .ref x_machine, .ref x_judge, .ref x_runner, .ref x_reader, .ref x_draft, .ref x_paper, .ref x_tape, .int 0, .int 0, .int 0, .int (-1), .ref x_chances, .ref x_refusals, .int 0])), (x_refusals, .inl (ty 0, 7, .inl (fun _ => 0)))] sz)) (va_A [(x, .inr (9, [.ref x_state, .ref x_images, .ref x_kept, .ref x_history, .ref x_drawnTower, .ref x_machine, .ref x_judge, .ref x_runner, .ref x_reader, .ref x_draft, .ref x_paper, .ref x_tape, .int 0, .int 0, .int 0, .int (-1), .ref x_chances, .ref x_refusals, .int 0])), (x_refusals, .inl (ty 0, 7, .inl (fun _ => 0)))] sz)) 0 0 (va_A [(x, .inr (9, [.ref x_state, .ref x_images, .ref x_kept, .ref x_history, .ref x_drawnTower, .ref x_machine, .ref x_judge, .ref x_runner, .ref x_reader, .ref x_draft, .ref x_paper, .ref x_tape, .int 0, .int 0, .int 0, .int (-1), .ref x_chances, .ref x_refusals, .int 0])), (x_refusals, .inl (ty 0, 7, .inl (fun _ => 0)))] sz) := by
  refine Met.ofW (cc := cX9_refuse) (maxL := 2) (ret := (some .int)) (by decide) rfl ?_
  intro p e s m args below meth c s₁ B hml hv
  obtain ⟨rfl, hsz, hP, hK, hD0, hN, hE⟩ := hv
  have hx := B.exec
  have hb := B.bytes
  have hr := B.returns
  have hts := atoms_spec (ws := wsX9_refuse) B.pre
  have hown : s.vm.findClass RX9 = some m.cls := findClass_of_methodNamed B.named
  have hlocks := B.notSynchronized
  subst hsz
  have hD := hD0.self (sz := s.heap.size)
  generalize hAe : va_A [(x, .inr (9, [.ref x_state, .ref x_images, .ref x_kept, .ref x_history, .ref x_drawnTower, .ref x_machine, .ref x_judge, .ref x_runner, .ref x_reader, .ref x_draft, .ref x_paper, .ref x_tape, .int 0, .int 0, .int 0, .int (-1), .ref x_chances, .ref x_refusals, .int 0])), (x_refusals, .inl (ty 0, 7, .inl (fun _ => 0)))] s.heap.size = A at hD hE ⊢
  have hA : ∀ q : Nat, s.heap.size ≤ q → A q := fun q h => by rw [← hAe]; exact Or.inr h
  have hS : va_S A s.heap s.heap [] := va_S.rf
  have hl := lv_entry ([.ref x, .int (-6)]) (n := 2) (Nat.le_of_ble_eq_true rfl)
  rw [lg_entry_eq]
  generalize (lg_sl ([.ref x, .int (-6)]) ++ List.replicate (2 - (lg_sl ([.ref x, .int (-6)])).length) Slot.unset).toArray = ls at hl ⊢
  have hl : lv_has ls 2 [(0, .ref x), (1, .int (-6))] := hl
  refine lv_aload_n hx hb dX9_refuse_0 rfl (lv_at hl 0 rfl) ?_
  refine lv_iload_n hx hb dX9_refuse_1 rfl (lv_at hl 1 rfl) ?_
  refine va_put (D := D) (ci := 9) (v := .int (-6)) (ty := .int) (C := RX9) (T := TX9) (N := 19) hx hb hts (by decide +kernel) tyX9 tyX9_ok nmX9 hown hK hP hD hS 0 rfl rfl 18 (by decide) (hts (.fieldLink RX9 108 "TurnedFloors" "latestStatus" "I") (by decide +kernel)) (fun _ h9 => h9) rfl (by decide +kernel) rfl rfl (Nat.le_of_ble_eq_true rfl) dX9_refuse_2 (fun H locs hP hD hS => ?_)
  have hP : va_P D vwCl [(x, .inr (9, [.ref x_state, .ref x_images, .ref x_kept, .ref x_history, .ref x_drawnTower, .ref x_machine, .ref x_judge, .ref x_runner, .ref x_reader, .ref x_draft, .ref x_paper, .ref x_tape, .int 0, .int 0, .int 0, .int (-1), .ref x_chances, .ref x_refusals, .int (-6)])), (x_refusals, .inl (ty 0, 7, .inl (fun _ => 0)))] H := hP
  have hD : va_D A [(x, .inr (9, [.ref x_state, .ref x_images, .ref x_kept, .ref x_history, .ref x_drawnTower, .ref x_machine, .ref x_judge, .ref x_runner, .ref x_reader, .ref x_draft, .ref x_paper, .ref x_tape, .int 0, .int 0, .int 0, .int (-1), .ref x_chances, .ref x_refusals, .int (-6)])), (x_refusals, .inl (ty 0, 7, .inl (fun _ => 0)))] := hD
  refine lv_iload_n hx hb dX9_refuse_5 rfl (lv_at hl 1 rfl) ?_
  refine lv_if_ge (tgt := 26) hx hb dX9_refuse_6 (by decide) (fun h => absurd h (by decide)) (fun _ => ?_)
  refine lv_iload_n hx hb dX9_refuse_9 rfl (lv_at hl 1 rfl) ?_
  refine lv_bipush (v := (-6)) hx hb dX9_refuse_10 (by decide) ?_
  refine lv_icmp_lt (tgt := 26) hx hb dX9_refuse_12 (by decide) (fun h => absurd h (by decide)) (fun _ => ?_)
  refine lv_aload_n hx hb dX9_refuse_15 rfl (lv_at hl 0 rfl) ?_
  refine va_get (D := D) (ci := 9) (v := .ref x_refusals) (C := RX9) (T := TX9) (N := 19) hx hb hts (by decide +kernel) hown hK hP 0 rfl rfl 17 (by decide) (hts (.fieldLink RX9 105 "TurnedFloors" "refusals" "[I") (by decide +kernel)) (fun _ h9 => h9) rfl dX9_refuse_16 ?_
  refine lv_iload_n hx hb dX9_refuse_19 rfl (lv_at hl 1 rfl) ?_
  refine lv_ineg hx hb dX9_refuse_20 ?_
  refine lv_topi (fun z_1 ez_1 => ?_)
  obtain rfl : z_1 = 6 := ez_1.trans (by first | rfl | decide +kernel)
  refine lv_dup2_11 hx hb dX9_refuse_21 rfl rfl ?_
  refine va_iald hx hb hK hP 1 0 rfl rfl (by simp only [vp_in]; decide) dX9_refuse_22 ?_
  refine lv_topi (fun z_2 ez_2 => ?_)
  obtain rfl : z_2 = 0 := ez_2.trans (by first | rfl | decide +kernel)
  refine lv_iconst (v := 1) hx hb dX9_refuse_23 (by decide) ?_
  refine lv_iadd hx hb dX9_refuse_24 ?_
  refine lv_topi (fun z_3 ez_3 => ?_)
  obtain rfl : z_3 = 1 := ez_3.trans (by first | rfl | decide +kernel)
  refine va_iast hx hb hK hP hD hS 1 0 rfl rfl (by simp only [vp_in]; decide) dX9_refuse_25 (fun H locs hP hD hS => ?_)
  have hP : va_P D vwCl [(x, .inr (9, [.ref x_state, .ref x_images, .ref x_kept, .ref x_history, .ref x_drawnTower, .ref x_machine, .ref x_judge, .ref x_runner, .ref x_reader, .ref x_draft, .ref x_paper, .ref x_tape, .int 0, .int 0, .int 0, .int (-1), .ref x_chances, .ref x_refusals, .int (-6)])), (x_refusals, .inl (ty 0, 7, .inl (upd (fun _ => 0) 6 1)))] H := hP
  have hD : va_D A [(x, .inr (9, [.ref x_state, .ref x_images, .ref x_kept, .ref x_history, .ref x_drawnTower, .ref x_machine, .ref x_judge, .ref x_runner, .ref x_reader, .ref x_draft, .ref x_paper, .ref x_tape, .int 0, .int 0, .int 0, .int (-1), .ref x_chances, .ref x_refusals, .int (-6)])), (x_refusals, .inl (ty 0, 7, .inl (upd (fun _ => 0) 6 1)))] := hD
  refine lv_iload_n hx hb dX9_refuse_26 rfl (lv_at hl 1 rfl) ?_
  exact kz_iret hx hb hr hlocks hP hK hD hS dX9_refuse_27 ⟨rfl, rfl⟩

set_option maxHeartbeats 4000000 in
set_option maxRecDepth 100000 in
theorem fX9_law (l : Launch) (D : va_G) (ty : Nat → ClassId) (eo : Nat → Nat) (sz : Nat) (x x_state x_images x_kept x_history x_drawnTower x_machine x_judge x_runner x_reader x_draft x_paper x_tape x_chances x_refusals x_state_tower x_state_seenPlace x_state_seenRank x_state_laws x_draft_kind x_draft_times x_draft_sumFrom x_draft_testFrom x_draft_testTo x_draft_code : Nat) : Met l yX9_law wsX9_law ({ frames := 5, cells := 0, slots := 0, locals := 110 }) (va_Pc [.ref x] (kz_pre D ty eo [(x, .inr (9, [.ref x_state, .ref x_images, .ref x_kept, .ref x_history, .ref x_drawnTower, .ref x_machine, .ref x_judge, .ref x_runner, .ref x_reader, .ref x_draft, .ref x_paper, .ref x_tape, .int 0, .int (-1), .int 0, .int (-1), .ref x_chances, .ref x_refusals, .int 0])), (x_state, .inr (6, [.ref x_state_tower, .int 1, .int 0, .int 0, .ref x_state_seenPlace, .ref x_state_seenRank, .int 0, .ref x_state_laws, .int 0, .int (-1)])), (x_reader, .inr (4, [.null, .int 0, .int 0, .null, .int 0, .int 0, .int 0, .int 0, .int 0, .int 0, .int (-1)])), (x_tape, .inl (ty 0, 400, .inl (fun _ => 0))), (x_draft, .inr (7, [.ref x_draft_kind, .ref x_draft_times, .ref x_draft_sumFrom, .ref x_draft_testFrom, .ref x_draft_testTo, .ref x_draft_code, .int 0, .int 0])), (x_refusals, .inl (ty 0, 7, .inl (fun _ => 0)))] sz)) (va_Qi (fun (r : Int32) (u : va_W) => (-6) = r ∧ [(x_state, .inr (6, [.ref x_state_tower, .int 1, .int 0, .int 0, .ref x_state_seenPlace, .ref x_state_seenRank, .int 0, .ref x_state_laws, .int 0, .int (-1)])), (x_tape, .inl (ty 0, 400, .inl (fun _ => 0))), (x_draft, .inr (7, [.ref x_draft_kind, .ref x_draft_times, .ref x_draft_sumFrom, .ref x_draft_testFrom, .ref x_draft_testTo, .ref x_draft_code, .int 0, .int 0])), (x_reader, .inr (4, [.ref x_tape, .int 0, .int 0, .ref x_draft, .int 0, .int 0, .int 0, .int 0, .int 0, .int 0, .int 0])), (x, .inr (9, [.ref x_state, .ref x_images, .ref x_kept, .ref x_history, .ref x_drawnTower, .ref x_machine, .ref x_judge, .ref x_runner, .ref x_reader, .ref x_draft, .ref x_paper, .ref x_tape, .int 0, .int 0, .int 0, .int (-1), .ref x_chances, .ref x_refusals, .int (-6)])), (x_refusals, .inl (ty 0, 7, .inl (upd (fun _ => 0) 6 1)))] = u) (kz_B D ty (va_A [(x, .inr (9, [.ref x_state, .ref x_images, .ref x_kept, .ref x_history, .ref x_drawnTower, .ref x_machine, .ref x_judge, .ref x_runner, .ref x_reader, .ref x_draft, .ref x_paper, .ref x_tape, .int 0, .int (-1), .int 0, .int (-1), .ref x_chances, .ref x_refusals, .int 0])), (x_state, .inr (6, [.ref x_state_tower, .int 1, .int 0, .int 0, .ref x_state_seenPlace, .ref x_state_seenRank, .int 0, .ref x_state_laws, .int 0, .int (-1)])), (x_reader, .inr (4, [.null, .int 0, .int 0, .null, .int 0, .int 0, .int 0, .int 0, .int 0, .int 0, .int (-1)])), (x_tape, .inl (ty 0, 400, .inl (fun _ => 0))), (x_draft, .inr (7, [.ref x_draft_kind, .ref x_draft_times, .ref x_draft_sumFrom, .ref x_draft_testFrom, .ref x_draft_testTo, .ref x_draft_code, .int 0, .int 0])), (x_refusals, .inl (ty 0, 7, .inl (fun _ => 0)))] sz)) (va_A [(x, .inr (9, [.ref x_state, .ref x_images, .ref x_kept, .ref x_history, .ref x_drawnTower, .ref x_machine, .ref x_judge, .ref x_runner, .ref x_reader, .ref x_draft, .ref x_paper, .ref x_tape, .int 0, .int (-1), .int 0, .int (-1), .ref x_chances, .ref x_refusals, .int 0])), (x_state, .inr (6, [.ref x_state_tower, .int 1, .int 0, .int 0, .ref x_state_seenPlace, .ref x_state_seenRank, .int 0, .ref x_state_laws, .int 0, .int (-1)])), (x_reader, .inr (4, [.null, .int 0, .int 0, .null, .int 0, .int 0, .int 0, .int 0, .int 0, .int 0, .int (-1)])), (x_tape, .inl (ty 0, 400, .inl (fun _ => 0))), (x_draft, .inr (7, [.ref x_draft_kind, .ref x_draft_times, .ref x_draft_sumFrom, .ref x_draft_testFrom, .ref x_draft_testTo, .ref x_draft_code, .int 0, .int 0])), (x_refusals, .inl (ty 0, 7, .inl (fun _ => 0)))] sz)) 0 0 (va_A [(x, .inr (9, [.ref x_state, .ref x_images, .ref x_kept, .ref x_history, .ref x_drawnTower, .ref x_machine, .ref x_judge, .ref x_runner, .ref x_reader, .ref x_draft, .ref x_paper, .ref x_tape, .int 0, .int (-1), .int 0, .int (-1), .ref x_chances, .ref x_refusals, .int 0])), (x_state, .inr (6, [.ref x_state_tower, .int 1, .int 0, .int 0, .ref x_state_seenPlace, .ref x_state_seenRank, .int 0, .ref x_state_laws, .int 0, .int (-1)])), (x_reader, .inr (4, [.null, .int 0, .int 0, .null, .int 0, .int 0, .int 0, .int 0, .int 0, .int 0, .int (-1)])), (x_tape, .inl (ty 0, 400, .inl (fun _ => 0))), (x_draft, .inr (7, [.ref x_draft_kind, .ref x_draft_times, .ref x_draft_sumFrom, .ref x_draft_testFrom, .ref x_draft_testTo, .ref x_draft_code, .int 0, .int 0])), (x_refusals, .inl (ty 0, 7, .inl (fun _ => 0)))] sz) := by
  refine Met.ofW (cc := cX9_law) (maxL := 2) (ret := (some .int)) (by decide) rfl ?_
  intro p e s m args below meth c s₁ B hml hv
  obtain ⟨rfl, hsz, hP, hK, hD0, hN, hE⟩ := hv
  have hx := B.exec
  have hb := B.bytes
  have hr := B.returns
  have hts := atoms_spec (ws := wsX9_law) B.pre
  have hown : s.vm.findClass RX9 = some m.cls := findClass_of_methodNamed B.named
  have hlocks := B.notSynchronized
  subst hsz
  have hD := hD0.self (sz := s.heap.size)
  generalize hAe : va_A [(x, .inr (9, [.ref x_state, .ref x_images, .ref x_kept, .ref x_history, .ref x_drawnTower, .ref x_machine, .ref x_judge, .ref x_runner, .ref x_reader, .ref x_draft, .ref x_paper, .ref x_tape, .int 0, .int (-1), .int 0, .int (-1), .ref x_chances, .ref x_refusals, .int 0])), (x_state, .inr (6, [.ref x_state_tower, .int 1, .int 0, .int 0, .ref x_state_seenPlace, .ref x_state_seenRank, .int 0, .ref x_state_laws, .int 0, .int (-1)])), (x_reader, .inr (4, [.null, .int 0, .int 0, .null, .int 0, .int 0, .int 0, .int 0, .int 0, .int 0, .int (-1)])), (x_tape, .inl (ty 0, 400, .inl (fun _ => 0))), (x_draft, .inr (7, [.ref x_draft_kind, .ref x_draft_times, .ref x_draft_sumFrom, .ref x_draft_testFrom, .ref x_draft_testTo, .ref x_draft_code, .int 0, .int 0])), (x_refusals, .inl (ty 0, 7, .inl (fun _ => 0)))] s.heap.size = A at hD hE ⊢
  have hA : ∀ q : Nat, s.heap.size ≤ q → A q := fun q h => by rw [← hAe]; exact Or.inr h
  have hS : va_S A s.heap s.heap [] := va_S.rf
  have hl := lv_entry ([.ref x]) (n := 2) (Nat.le_of_ble_eq_true rfl)
  rw [lg_entry_eq]
  generalize (lg_sl ([.ref x]) ++ List.replicate (2 - (lg_sl ([.ref x])).length) Slot.unset).toArray = ls at hl ⊢
  have hl : lv_has ls 2 [(0, .ref x)] := hl
  refine lv_aload_n hx hb dX9_law_0 rfl (lv_at hl 0 rfl) ?_
  refine va_get (D := D) (ci := 9) (v := .int 0) (C := RX9) (T := TX9) (N := 19) hx hb hts (by decide +kernel) hown hK hP 0 rfl rfl 12 (by decide) (hts (.fieldLink RX9 88 "TurnedFloors" "tapeLength" "I") (by decide +kernel)) (fun _ h9 => h9) rfl dX9_law_1 ?_
  refine lv_istore_n (lv' := [(1, .int 0), (0, .ref x)]) hx hb dX9_law_4 rfl hl (by decide) rfl (fun ls hl => ?_)
  refine lv_aload_n hx hb dX9_law_5 rfl (lv_at hl 1 rfl) ?_
  refine lv_iconst (v := 0) hx hb dX9_law_6 (by decide) ?_
  refine va_put (D := D) (ci := 9) (v := .int 0) (ty := .int) (C := RX9) (T := TX9) (N := 19) hx hb hts (by decide +kernel) tyX9 tyX9_ok nmX9 hown hK hP hD hS 0 rfl rfl 12 (by decide) (hts (.fieldLink RX9 88 "TurnedFloors" "tapeLength" "I") (by decide +kernel)) (fun _ h9 => h9) rfl (by decide +kernel) rfl rfl (Nat.le_of_ble_eq_true rfl) dX9_law_7 (fun H locs hP hD hS => ?_)
  have hP : va_P D vwCl [(x, .inr (9, [.ref x_state, .ref x_images, .ref x_kept, .ref x_history, .ref x_drawnTower, .ref x_machine, .ref x_judge, .ref x_runner, .ref x_reader, .ref x_draft, .ref x_paper, .ref x_tape, .int 0, .int (-1), .int 0, .int (-1), .ref x_chances, .ref x_refusals, .int 0])), (x_state, .inr (6, [.ref x_state_tower, .int 1, .int 0, .int 0, .ref x_state_seenPlace, .ref x_state_seenRank, .int 0, .ref x_state_laws, .int 0, .int (-1)])), (x_reader, .inr (4, [.null, .int 0, .int 0, .null, .int 0, .int 0, .int 0, .int 0, .int 0, .int 0, .int (-1)])), (x_tape, .inl (ty 0, 400, .inl (fun _ => 0))), (x_draft, .inr (7, [.ref x_draft_kind, .ref x_draft_times, .ref x_draft_sumFrom, .ref x_draft_testFrom, .ref x_draft_testTo, .ref x_draft_code, .int 0, .int 0])), (x_refusals, .inl (ty 0, 7, .inl (fun _ => 0)))] H := hP
  have hD : va_D A [(x, .inr (9, [.ref x_state, .ref x_images, .ref x_kept, .ref x_history, .ref x_drawnTower, .ref x_machine, .ref x_judge, .ref x_runner, .ref x_reader, .ref x_draft, .ref x_paper, .ref x_tape, .int 0, .int (-1), .int 0, .int (-1), .ref x_chances, .ref x_refusals, .int 0])), (x_state, .inr (6, [.ref x_state_tower, .int 1, .int 0, .int 0, .ref x_state_seenPlace, .ref x_state_seenRank, .int 0, .ref x_state_laws, .int 0, .int (-1)])), (x_reader, .inr (4, [.null, .int 0, .int 0, .null, .int 0, .int 0, .int 0, .int 0, .int 0, .int 0, .int (-1)])), (x_tape, .inl (ty 0, 400, .inl (fun _ => 0))), (x_draft, .inr (7, [.ref x_draft_kind, .ref x_draft_times, .ref x_draft_sumFrom, .ref x_draft_testFrom, .ref x_draft_testTo, .ref x_draft_code, .int 0, .int 0])), (x_refusals, .inl (ty 0, 7, .inl (fun _ => 0)))] := hD
  refine lv_aload_n hx hb dX9_law_10 rfl (lv_at hl 1 rfl) ?_
  refine va_get (D := D) (ci := 9) (v := .ref x_state) (C := RX9) (T := TX9) (N := 19) hx hb hts (by decide +kernel) hown hK hP 0 rfl rfl 0 (by decide) (hts (.fieldLink RX9 10 "TurnedFloors" "state" "LTurnedFloors$State;") (by decide +kernel)) (fun _ h9 => h9) rfl dX9_law_11 ?_
  refine va_getN (D := D) (ci := 6) (v := .int 0) (C := RX6) (T := TX6) (N := 10) hx hb hts (by decide +kernel) hown hK hP 1 rfl rfl 8 (by decide) (hN.use (.fieldLinkNest "TurnedFloors" 183 "TurnedFloors$State" "lawCount" "I" "TurnedFloors") (by decide +kernel)) (fun _ h9 => h9) rfl dX9_law_14 ?_
  refine lv_bipush (v := 6) hx hb dX9_law_17 (by decide) ?_
  refine lv_icmp_lt (tgt := 29) hx hb dX9_law_19 (by decide) (fun _ => ?_) (fun h => absurd (by decide) h)
  refine lv_aload_n hx hb dX9_law_29 rfl (lv_at hl 1 rfl) ?_
  refine lv_aload_n hx hb dX9_law_30 rfl (lv_at hl 1 rfl) ?_
  refine va_get (D := D) (ci := 9) (v := .ref x_reader) (C := RX9) (T := TX9) (N := 19) hx hb hts (by decide +kernel) hown hK hP 0 rfl rfl 8 (by decide) (hts (.fieldLink RX9 64 "TurnedFloors" "reader" "LTurnedFloors$Reader;") (by decide +kernel)) (fun _ h9 => h9) rfl dX9_law_31 ?_
  refine lv_aload_n hx hb dX9_law_34 rfl (lv_at hl 1 rfl) ?_
  refine va_get (D := D) (ci := 9) (v := .ref x_tape) (C := RX9) (T := TX9) (N := 19) hx hb hts (by decide +kernel) hown hK hP 0 rfl rfl 11 (by decide) (hts (.fieldLink RX9 84 "TurnedFloors" "tape" "[I") (by decide +kernel)) (fun _ h9 => h9) rfl dX9_law_35 ?_
  refine lv_iload_n hx hb dX9_law_38 rfl (lv_at hl 0 rfl) ?_
  refine lv_iconst (v := 0) hx hb dX9_law_39 (by decide) ?_
  refine lv_aload_n hx hb dX9_law_40 rfl (lv_at hl 1 rfl) ?_
  refine va_get (D := D) (ci := 9) (v := .ref x_draft) (C := RX9) (T := TX9) (N := 19) hx hb hts (by decide +kernel) hown hK hP 0 rfl rfl 9 (by decide) (hts (.fieldLink RX9 73 "TurnedFloors" "draft" "LTurnedFloors$Text;") (by decide +kernel)) (fun _ h9 => h9) rfl dX9_law_41 ?_
  refine kz_ki (wc := [(x_reader, .inr (4, [.null, .int 0, .int 0, .null, .int 0, .int 0, .int 0, .int 0, .int 0, .int 0, .int (-1)])), (x_tape, .inl (ty 0, 400, .inl (fun _ => 0))), (x_draft, .inr (7, [.ref x_draft_kind, .ref x_draft_times, .ref x_draft_sumFrom, .ref x_draft_testFrom, .ref x_draft_testTo, .ref x_draft_code, .int 0, .int 0]))]) (wr := [(x, .inr (9, [.ref x_state, .ref x_images, .ref x_kept, .ref x_history, .ref x_drawnTower, .ref x_machine, .ref x_judge, .ref x_runner, .ref x_reader, .ref x_draft, .ref x_paper, .ref x_tape, .int 0, .int (-1), .int 0, .int (-1), .ref x_chances, .ref x_refusals, .int 0])), (x_state, .inr (6, [.ref x_state_tower, .int 1, .int 0, .int 0, .ref x_state_seenPlace, .ref x_state_seenRank, .int 0, .ref x_state_laws, .int 0, .int (-1)])), (x_refusals, .inl (ty 0, 7, .inl (fun _ => 0)))]) (va_runV (As := [.ref x_tape, .int 0, .int 0, .ref x_draft]) (rest := [.ref x]) ⟨hx, hb, hml, hown, hts⟩ (kX4_read_14 l D ty eo _ x_reader x_tape x_draft x_draft_kind x_draft_times x_draft_sumFrom x_draft_testFrom x_draft_testTo x_draft_code) (cwV 4 hts gX9_law_X4_read rfl rfl rfl (by decide +kernel) ⟨Nat.le_of_ble_eq_true rfl, Nat.le_of_ble_eq_true rfl⟩) (kz_preV (ci := 4) (q0 := 2) hK hN hE hP hD hS hA rfl rfl [2, 3, 4] (by decide) rfl) rfl rfl hl.1 rfl (lv_room (Nat.le_of_ble_eq_true rfl)) dX9_law_44 ⟨Nat.le_of_ble_eq_true rfl, Nat.le_of_ble_eq_true rfl⟩) hP hD hS hA [2, 3, 4] [0, 1, 5] rfl rfl (by decide) (by decide) (fun r u H locs hw hP hD hS => ?_)
  obtain ⟨rfl, rfl⟩ := hw
  have hP : va_P D vwCl [(x, .inr (9, [.ref x_state, .ref x_images, .ref x_kept, .ref x_history, .ref x_drawnTower, .ref x_machine, .ref x_judge, .ref x_runner, .ref x_reader, .ref x_draft, .ref x_paper, .ref x_tape, .int 0, .int (-1), .int 0, .int (-1), .ref x_chances, .ref x_refusals, .int 0])), (x_state, .inr (6, [.ref x_state_tower, .int 1, .int 0, .int 0, .ref x_state_seenPlace, .ref x_state_seenRank, .int 0, .ref x_state_laws, .int 0, .int (-1)])), (x_refusals, .inl (ty 0, 7, .inl (fun _ => 0))), (x_tape, .inl (ty 0, 400, .inl (fun _ => 0))), (x_draft, .inr (7, [.ref x_draft_kind, .ref x_draft_times, .ref x_draft_sumFrom, .ref x_draft_testFrom, .ref x_draft_testTo, .ref x_draft_code, .int 0, .int 0])), (x_reader, .inr (4, [.ref x_tape, .int 0, .int 0, .ref x_draft, .int 0, .int 0, .int 0, .int 0, .int 0, .int 0, .int 0]))] H := hP
  have hD : va_D A [(x, .inr (9, [.ref x_state, .ref x_images, .ref x_kept, .ref x_history, .ref x_drawnTower, .ref x_machine, .ref x_judge, .ref x_runner, .ref x_reader, .ref x_draft, .ref x_paper, .ref x_tape, .int 0, .int (-1), .int 0, .int (-1), .ref x_chances, .ref x_refusals, .int 0])), (x_state, .inr (6, [.ref x_state_tower, .int 1, .int 0, .int 0, .ref x_state_seenPlace, .ref x_state_seenRank, .int 0, .ref x_state_laws, .int 0, .int (-1)])), (x_refusals, .inl (ty 0, 7, .inl (fun _ => 0))), (x_tape, .inl (ty 0, 400, .inl (fun _ => 0))), (x_draft, .inr (7, [.ref x_draft_kind, .ref x_draft_times, .ref x_draft_sumFrom, .ref x_draft_testFrom, .ref x_draft_testTo, .ref x_draft_code, .int 0, .int 0])), (x_reader, .inr (4, [.ref x_tape, .int 0, .int 0, .ref x_draft, .int 0, .int 0, .int 0, .int 0, .int 0, .int 0, .int 0]))] := hD
  refine va_put (D := D) (ci := 9) (v := .int 0) (ty := .int) (C := RX9) (T := TX9) (N := 19) hx hb hts (by decide +kernel) tyX9 tyX9_ok nmX9 hown hK hP hD hS 0 rfl rfl 13 (by decide) (hts (.fieldLink RX9 92 "TurnedFloors" "faultPlace" "I") (by decide +kernel)) (fun _ h9 => h9) rfl (by decide +kernel) rfl rfl (Nat.le_of_ble_eq_true rfl) dX9_law_47 (fun H locs hP hD hS => ?_)
  have hP : va_P D vwCl [(x, .inr (9, [.ref x_state, .ref x_images, .ref x_kept, .ref x_history, .ref x_drawnTower, .ref x_machine, .ref x_judge, .ref x_runner, .ref x_reader, .ref x_draft, .ref x_paper, .ref x_tape, .int 0, .int 0, .int 0, .int (-1), .ref x_chances, .ref x_refusals, .int 0])), (x_state, .inr (6, [.ref x_state_tower, .int 1, .int 0, .int 0, .ref x_state_seenPlace, .ref x_state_seenRank, .int 0, .ref x_state_laws, .int 0, .int (-1)])), (x_refusals, .inl (ty 0, 7, .inl (fun _ => 0))), (x_tape, .inl (ty 0, 400, .inl (fun _ => 0))), (x_draft, .inr (7, [.ref x_draft_kind, .ref x_draft_times, .ref x_draft_sumFrom, .ref x_draft_testFrom, .ref x_draft_testTo, .ref x_draft_code, .int 0, .int 0])), (x_reader, .inr (4, [.ref x_tape, .int 0, .int 0, .ref x_draft, .int 0, .int 0, .int 0, .int 0, .int 0, .int 0, .int 0]))] H := hP
  have hD : va_D A [(x, .inr (9, [.ref x_state, .ref x_images, .ref x_kept, .ref x_history, .ref x_drawnTower, .ref x_machine, .ref x_judge, .ref x_runner, .ref x_reader, .ref x_draft, .ref x_paper, .ref x_tape, .int 0, .int 0, .int 0, .int (-1), .ref x_chances, .ref x_refusals, .int 0])), (x_state, .inr (6, [.ref x_state_tower, .int 1, .int 0, .int 0, .ref x_state_seenPlace, .ref x_state_seenRank, .int 0, .ref x_state_laws, .int 0, .int (-1)])), (x_refusals, .inl (ty 0, 7, .inl (fun _ => 0))), (x_tape, .inl (ty 0, 400, .inl (fun _ => 0))), (x_draft, .inr (7, [.ref x_draft_kind, .ref x_draft_times, .ref x_draft_sumFrom, .ref x_draft_testFrom, .ref x_draft_testTo, .ref x_draft_code, .int 0, .int 0])), (x_reader, .inr (4, [.ref x_tape, .int 0, .int 0, .ref x_draft, .int 0, .int 0, .int 0, .int 0, .int 0, .int 0, .int 0]))] := hD
  refine lv_aload_n hx hb dX9_law_50 rfl (lv_at hl 1 rfl) ?_
  refine va_get (D := D) (ci := 9) (v := .int 0) (C := RX9) (T := TX9) (N := 19) hx hb hts (by decide +kernel) hown hK hP 0 rfl rfl 13 (by decide) (hts (.fieldLink RX9 92 "TurnedFloors" "faultPlace" "I") (by decide +kernel)) (fun _ h9 => h9) rfl dX9_law_51 ?_
  refine lv_iconst (v := (-1)) hx hb dX9_law_54 (by decide) ?_
  refine lv_icmp_eq (tgt := 65) hx hb dX9_law_55 (by decide) (fun h => absurd h (by decide)) (fun _ => ?_)
  refine lv_aload_n hx hb dX9_law_58 rfl (lv_at hl 1 rfl) ?_
  refine lv_bipush (v := (-6)) hx hb dX9_law_59 (by decide) ?_
  refine kz_ki (wc := [(x, .inr (9, [.ref x_state, .ref x_images, .ref x_kept, .ref x_history, .ref x_drawnTower, .ref x_machine, .ref x_judge, .ref x_runner, .ref x_reader, .ref x_draft, .ref x_paper, .ref x_tape, .int 0, .int 0, .int 0, .int (-1), .ref x_chances, .ref x_refusals, .int 0])), (x_refusals, .inl (ty 0, 7, .inl (fun _ => 0)))]) (wr := [(x_state, .inr (6, [.ref x_state_tower, .int 1, .int 0, .int 0, .ref x_state_seenPlace, .ref x_state_seenRank, .int 0, .ref x_state_laws, .int 0, .int (-1)])), (x_tape, .inl (ty 0, 400, .inl (fun _ => 0))), (x_draft, .inr (7, [.ref x_draft_kind, .ref x_draft_times, .ref x_draft_sumFrom, .ref x_draft_testFrom, .ref x_draft_testTo, .ref x_draft_code, .int 0, .int 0])), (x_reader, .inr (4, [.ref x_tape, .int 0, .int 0, .ref x_draft, .int 0, .int 0, .int 0, .int 0, .int 0, .int 0, .int 0]))]) (va_runV (As := [.int (-6)]) (rest := []) ⟨hx, hb, hml, hown, hts⟩ (kX9_refuse_28 l D ty eo _ x x_state x_images x_kept x_history x_drawnTower x_machine x_judge x_runner x_reader x_draft x_paper x_tape x_chances x_refusals) (cwV 1 hts gX9_law_X9_refuse rfl rfl rfl (by decide +kernel) ⟨Nat.le_of_ble_eq_true rfl, Nat.le_of_ble_eq_true rfl⟩) (kz_preV (ci := 9) (q0 := 0) hK hN hE hP hD hS hA rfl rfl [0, 2] (by decide) rfl) rfl rfl hl.1 rfl (lv_room (Nat.le_of_ble_eq_true rfl)) dX9_law_61 ⟨Nat.le_of_ble_eq_true rfl, Nat.le_of_ble_eq_true rfl⟩) hP hD hS hA [0, 2] [1, 3, 4, 5] rfl rfl (by decide) (by decide) (fun r u H locs hw hP hD hS => ?_)
  obtain ⟨rfl, rfl⟩ := hw
  have hP : va_P D vwCl [(x_state, .inr (6, [.ref x_state_tower, .int 1, .int 0, .int 0, .ref x_state_seenPlace, .ref x_state_seenRank, .int 0, .ref x_state_laws, .int 0, .int (-1)])), (x_tape, .inl (ty 0, 400, .inl (fun _ => 0))), (x_draft, .inr (7, [.ref x_draft_kind, .ref x_draft_times, .ref x_draft_sumFrom, .ref x_draft_testFrom, .ref x_draft_testTo, .ref x_draft_code, .int 0, .int 0])), (x_reader, .inr (4, [.ref x_tape, .int 0, .int 0, .ref x_draft, .int 0, .int 0, .int 0, .int 0, .int 0, .int 0, .int 0])), (x, .inr (9, [.ref x_state, .ref x_images, .ref x_kept, .ref x_history, .ref x_drawnTower, .ref x_machine, .ref x_judge, .ref x_runner, .ref x_reader, .ref x_draft, .ref x_paper, .ref x_tape, .int 0, .int 0, .int 0, .int (-1), .ref x_chances, .ref x_refusals, .int (-6)])), (x_refusals, .inl (ty 0, 7, .inl (upd (fun _ => 0) 6 1)))] H := hP
  have hD : va_D A [(x_state, .inr (6, [.ref x_state_tower, .int 1, .int 0, .int 0, .ref x_state_seenPlace, .ref x_state_seenRank, .int 0, .ref x_state_laws, .int 0, .int (-1)])), (x_tape, .inl (ty 0, 400, .inl (fun _ => 0))), (x_draft, .inr (7, [.ref x_draft_kind, .ref x_draft_times, .ref x_draft_sumFrom, .ref x_draft_testFrom, .ref x_draft_testTo, .ref x_draft_code, .int 0, .int 0])), (x_reader, .inr (4, [.ref x_tape, .int 0, .int 0, .ref x_draft, .int 0, .int 0, .int 0, .int 0, .int 0, .int 0, .int 0])), (x, .inr (9, [.ref x_state, .ref x_images, .ref x_kept, .ref x_history, .ref x_drawnTower, .ref x_machine, .ref x_judge, .ref x_runner, .ref x_reader, .ref x_draft, .ref x_paper, .ref x_tape, .int 0, .int 0, .int 0, .int (-1), .ref x_chances, .ref x_refusals, .int (-6)])), (x_refusals, .inl (ty 0, 7, .inl (upd (fun _ => 0) 6 1)))] := hD
  exact kz_iret hx hb hr hlocks hP hK hD hS dX9_law_64 ⟨rfl, rfl⟩

set_option maxHeartbeats 4000000 in
set_option maxRecDepth 100000 in
theorem kX4_step_30 (l : Launch) (D : va_G) (ty : Nat → ClassId) (eo : Nat → Nat) (sz : Nat) (x_reader x_tape x_draft : Nat) : Met l yX4_step wsX4_step ({ frames := 0, cells := 0, slots := 0, locals := 0 }) (va_Pc [.ref x_reader] (kz_pre D ty eo [(x_reader, .inr (4, [.ref x_tape, .int 0, .int 1, .ref x_draft, .int 0, .int 0, .int 0, .int 0, .int 0, .int 0, .int (-1)]))] sz)) (va_Qv (fun (u : va_W) => [(x_reader, .inr (4, [.ref x_tape, .int 0, .int 1, .ref x_draft, .int 0, .int 0, .int 0, .int 0, .int 0, .int 0, .int (-1)]))] = u) (kz_B D ty (va_A [(x_reader, .inr (4, [.ref x_tape, .int 0, .int 1, .ref x_draft, .int 0, .int 0, .int 0, .int 0, .int 0, .int 0, .int (-1)]))] sz)) (va_A [(x_reader, .inr (4, [.ref x_tape, .int 0, .int 1, .ref x_draft, .int 0, .int 0, .int 0, .int 0, .int 0, .int 0, .int (-1)]))] sz)) 0 0 (va_A [(x_reader, .inr (4, [.ref x_tape, .int 0, .int 1, .ref x_draft, .int 0, .int 0, .int 0, .int 0, .int 0, .int 0, .int (-1)]))] sz) := by
  refine Met.ofW (cc := cX4_step) (maxL := 2) (ret := none) (by decide) rfl ?_
  intro p e s m args below meth c s₁ B hml hv
  obtain ⟨rfl, hsz, hP, hK, hD0, hN, hE⟩ := hv
  have hx := B.exec
  have hb := B.bytes
  have hr := B.returns
  have hts := atoms_spec (ws := wsX4_step) B.pre
  have hown : s.vm.findClass RX4 = some m.cls := findClass_of_methodNamed B.named
  have hlocks := B.notSynchronized
  subst hsz
  have hD := hD0.self (sz := s.heap.size)
  generalize hAe : va_A [(x_reader, .inr (4, [.ref x_tape, .int 0, .int 1, .ref x_draft, .int 0, .int 0, .int 0, .int 0, .int 0, .int 0, .int (-1)]))] s.heap.size = A at hD hE ⊢
  have hA : ∀ q : Nat, s.heap.size ≤ q → A q := fun q h => by rw [← hAe]; exact Or.inr h
  have hS : va_S A s.heap s.heap [] := va_S.rf
  have hl := lv_entry ([.ref x_reader]) (n := 2) (Nat.le_of_ble_eq_true rfl)
  rw [lg_entry_eq]
  generalize (lg_sl ([.ref x_reader]) ++ List.replicate (2 - (lg_sl ([.ref x_reader])).length) Slot.unset).toArray = ls at hl ⊢
  have hl : lv_has ls 2 [(0, .ref x_reader)] := hl
  refine lv_aload_n hx hb dX4_step_0 rfl (lv_at hl 0 rfl) ?_
  refine va_get (D := D) (ci := 4) (v := .int (-1)) (C := RX4) (T := TX4) (N := 11) hx hb hts (by decide +kernel) hown hK hP 0 rfl rfl 10 (by decide) (hts (.fieldLink RX4 45 "TurnedFloors$Reader" "faultAt" "I") (by decide +kernel)) (fun _ h9 => h9) rfl dX4_step_1 ?_
  refine lv_iconst (v := (-1)) hx hb dX4_step_4 (by decide) ?_
  refine lv_icmp_eq (tgt := 9) hx hb dX4_step_5 (by decide) (fun _ => ?_) (fun h => absurd (by decide) h)
  refine lv_aload_n hx hb dX4_step_9 rfl (lv_at hl 0 rfl) ?_
  refine lv_aload_n hx hb dX4_step_10 rfl (lv_at hl 0 rfl) ?_
  refine va_get (D := D) (ci := 4) (v := .int 0) (C := RX4) (T := TX4) (N := 11) hx hb hts (by decide +kernel) hown hK hP 0 rfl rfl 6 (by decide) (hts (.fieldLink RX4 33 "TurnedFloors$Reader" "stop" "I") (by decide +kernel)) (fun _ h9 => h9) rfl dX4_step_11 ?_
  refine va_put (D := D) (ci := 4) (v := .int 0) (ty := .int) (C := RX4) (T := TX4) (N := 11) hx hb hts (by decide +kernel) tyX4 tyX4_ok nmX4 hown hK hP hD hS 0 rfl rfl 5 (by decide) (hts (.fieldLink RX4 30 "TurnedFloors$Reader" "start" "I") (by decide +kernel)) (fun _ h9 => h9) rfl (by decide +kernel) rfl rfl (Nat.le_of_ble_eq_true rfl) dX4_step_14 (fun H locs hP hD hS => ?_)
  have hP : va_P D vwCl [(x_reader, .inr (4, [.ref x_tape, .int 0, .int 1, .ref x_draft, .int 0, .int 0, .int 0, .int 0, .int 0, .int 0, .int (-1)]))] H := hP
  have hD : va_D A [(x_reader, .inr (4, [.ref x_tape, .int 0, .int 1, .ref x_draft, .int 0, .int 0, .int 0, .int 0, .int 0, .int 0, .int (-1)]))] := hD
  refine lv_aload_n hx hb dX4_step_17 rfl (lv_at hl 0 rfl) ?_
  refine va_get (D := D) (ci := 4) (v := .int 0) (C := RX4) (T := TX4) (N := 11) hx hb hts (by decide +kernel) hown hK hP 0 rfl rfl 5 (by decide) (hts (.fieldLink RX4 30 "TurnedFloors$Reader" "start" "I") (by decide +kernel)) (fun _ h9 => h9) rfl dX4_step_18 ?_
  refine lv_aload_n hx hb dX4_step_21 rfl (lv_at hl 0 rfl) ?_
  refine va_get (D := D) (ci := 4) (v := .int 0) (C := RX4) (T := TX4) (N := 11) hx hb hts (by decide +kernel) hown hK hP 0 rfl rfl 1 (by decide) (hts (.fieldLink RX4 15 "TurnedFloors$Reader" "length" "I") (by decide +kernel)) (fun _ h9 => h9) rfl dX4_step_22 ?_
  refine lv_icmp_ge (tgt := 55) hx hb dX4_step_25 (by decide) (fun _ => ?_) (fun h => absurd (by decide) h)
  refine lv_aload_n hx hb dX4_step_55 rfl (lv_at hl 0 rfl) ?_
  refine lv_aload_n hx hb dX4_step_56 rfl (lv_at hl 0 rfl) ?_
  refine va_get (D := D) (ci := 4) (v := .int 0) (C := RX4) (T := TX4) (N := 11) hx hb hts (by decide +kernel) hown hK hP 0 rfl rfl 5 (by decide) (hts (.fieldLink RX4 30 "TurnedFloors$Reader" "start" "I") (by decide +kernel)) (fun _ h9 => h9) rfl dX4_step_57 ?_
  refine va_put (D := D) (ci := 4) (v := .int 0) (ty := .int) (C := RX4) (T := TX4) (N := 11) hx hb hts (by decide +kernel) tyX4 tyX4_ok nmX4 hown hK hP hD hS 0 rfl rfl 6 (by decide) (hts (.fieldLink RX4 33 "TurnedFloors$Reader" "stop" "I") (by decide +kernel)) (fun _ h9 => h9) rfl (by decide +kernel) rfl rfl (Nat.le_of_ble_eq_true rfl) dX4_step_60 (fun H locs hP hD hS => ?_)
  have hP : va_P D vwCl [(x_reader, .inr (4, [.ref x_tape, .int 0, .int 1, .ref x_draft, .int 0, .int 0, .int 0, .int 0, .int 0, .int 0, .int (-1)]))] H := hP
  have hD : va_D A [(x_reader, .inr (4, [.ref x_tape, .int 0, .int 1, .ref x_draft, .int 0, .int 0, .int 0, .int 0, .int 0, .int 0, .int (-1)]))] := hD
  refine lv_aload_n hx hb dX4_step_63 rfl (lv_at hl 0 rfl) ?_
  refine lv_iconst (v := 0) hx hb dX4_step_64 (by decide) ?_
  refine va_put (D := D) (ci := 4) (v := .int 0) (ty := .int) (C := RX4) (T := TX4) (N := 11) hx hb hts (by decide +kernel) tyX4 tyX4_ok nmX4 hown hK hP hD hS 0 rfl rfl 7 (by decide) (hts (.fieldLink RX4 36 "TurnedFloors$Reader" "number" "I") (by decide +kernel)) (fun _ h9 => h9) rfl (by decide +kernel) rfl rfl (Nat.le_of_ble_eq_true rfl) dX4_step_65 (fun H locs hP hD hS => ?_)
  have hP : va_P D vwCl [(x_reader, .inr (4, [.ref x_tape, .int 0, .int 1, .ref x_draft, .int 0, .int 0, .int 0, .int 0, .int 0, .int 0, .int (-1)]))] H := hP
  have hD : va_D A [(x_reader, .inr (4, [.ref x_tape, .int 0, .int 1, .ref x_draft, .int 0, .int 0, .int 0, .int 0, .int 0, .int 0, .int (-1)]))] := hD
  refine lv_aload_n hx hb dX4_step_68 rfl (lv_at hl 0 rfl) ?_
  refine lv_iconst (v := 0) hx hb dX4_step_69 (by decide) ?_
  refine va_put (D := D) (ci := 4) (v := .int 0) (ty := .int) (C := RX4) (T := TX4) (N := 11) hx hb hts (by decide +kernel) tyX4 tyX4_ok nmX4 hown hK hP hD hS 0 rfl rfl 4 (by decide) (hts (.fieldLink RX4 27 "TurnedFloors$Reader" "token" "I") (by decide +kernel)) (fun _ h9 => h9) rfl (by decide +kernel) rfl rfl (Nat.le_of_ble_eq_true rfl) dX4_step_70 (fun H locs hP hD hS => ?_)
  have hP : va_P D vwCl [(x_reader, .inr (4, [.ref x_tape, .int 0, .int 1, .ref x_draft, .int 0, .int 0, .int 0, .int 0, .int 0, .int 0, .int (-1)]))] H := hP
  have hD : va_D A [(x_reader, .inr (4, [.ref x_tape, .int 0, .int 1, .ref x_draft, .int 0, .int 0, .int 0, .int 0, .int 0, .int 0, .int (-1)]))] := hD
  refine lv_aload_n hx hb dX4_step_73 rfl (lv_at hl 0 rfl) ?_
  refine va_get (D := D) (ci := 4) (v := .int 0) (C := RX4) (T := TX4) (N := 11) hx hb hts (by decide +kernel) hown hK hP 0 rfl rfl 5 (by decide) (hts (.fieldLink RX4 30 "TurnedFloors$Reader" "start" "I") (by decide +kernel)) (fun _ h9 => h9) rfl dX4_step_74 ?_
  refine lv_aload_n hx hb dX4_step_77 rfl (lv_at hl 0 rfl) ?_
  refine va_get (D := D) (ci := 4) (v := .int 0) (C := RX4) (T := TX4) (N := 11) hx hb hts (by decide +kernel) hown hK hP 0 rfl rfl 1 (by decide) (hts (.fieldLink RX4 15 "TurnedFloors$Reader" "length" "I") (by decide +kernel)) (fun _ h9 => h9) rfl dX4_step_78 ?_
  refine lv_icmp_lt (tgt := 85) hx hb dX4_step_81 (by decide) (fun h => absurd h (by decide)) (fun _ => ?_)
  exact kz_vret hx hb hr hlocks hP hK hD hS dX4_step_84 rfl

set_option maxHeartbeats 4000000 in
set_option maxRecDepth 100000 in
theorem kJ0_coder_7d493_34 (l : Launch) (D : va_G) (ty : Nat → ClassId) (eo : Nat → Nat) (sz : Nat)  : Met l yJ0_coder_7d493 wsJ0_coder_7d493 ({ frames := 0, cells := 0, slots := 0, locals := 0 }) (va_Pc [.ref (eo (1 + 0))] (kz_pre D ty eo [] sz)) (va_Qi (fun (r : Int32) (u : va_W) => 0 = r ∧ [] = u) (kz_B D ty (va_A [] sz)) (va_A [] sz)) 0 0 (va_A [] sz) := by
  refine Met.ofW (cc := cJ0_coder_7d493) (maxL := 1) (ret := (some .byte)) (by decide) rfl ?_
  intro p e s m args below meth c s₁ B hml hv
  obtain ⟨rfl, hsz, hP, hK, hD0, hN, hE⟩ := hv
  have hx := B.exec
  have hb := B.bytes
  have hr := B.returns
  have hts := atoms_spec (ws := wsJ0_coder_7d493) B.pre
  have hown : s.vm.findClass RJ0 = some m.cls := findClass_of_methodNamed B.named
  have hlocks := B.notSynchronized
  subst hsz
  have hD := hD0.self (sz := s.heap.size)
  generalize hAe : va_A [] s.heap.size = A at hD hE ⊢
  have hA : ∀ q : Nat, s.heap.size ≤ q → A q := fun q h => by rw [← hAe]; exact Or.inr h
  have hS : va_S A s.heap s.heap [] := va_S.rf
  have hl := lv_entry ([.ref (eo (1 + 0))]) (n := 1) (Nat.le_of_ble_eq_true rfl)
  rw [lg_entry_eq]
  generalize (lg_sl ([.ref (eo (1 + 0))]) ++ List.replicate (1 - (lg_sl ([.ref (eo (1 + 0))])).length) Slot.unset).toArray = ls at hl ⊢
  have hl : lv_has ls 1 [(0, .ref (eo (1 + 0)))] := hl
  refine va_gets hx hb hE.2.2.1 hS hown (hts (.fieldLink RJ0 38 "java/lang/String" "COMPACT_STRINGS" "Z") (by decide +kernel)) (fun _ h9 => h9) dJ0_coder_7d493_0 ?_
  refine lv_if_eq (tgt := 13) hx hb dJ0_coder_7d493_3 (by decide) (fun h => absurd h (by decide)) (fun _ => ?_)
  refine lv_aload_n hx hb dJ0_coder_7d493_6 rfl (lv_at hl 0 rfl) ?_
  refine vk_getf (v := .int 0) hx hb (hE.2.2.2.1.1 0 (by decide)).2.1 hS hown (hts (.fieldLink RJ0 15 "java/lang/String" "coder" "B") (by decide +kernel)) (fun _ h9 => h9) dJ0_coder_7d493_7 ?_
  refine lv_goto (tgt := 14) hx hb dJ0_coder_7d493_10 (by decide) ?_
  exact kz_zret hx hb hr hlocks rfl hP hK hD hS dJ0_coder_7d493_14 ⟨rfl, rfl⟩

set_option maxHeartbeats 4000000 in
set_option maxRecDepth 100000 in
theorem kJ0_length_8abf5_33 (l : Launch) (D : va_G) (ty : Nat → ClassId) (eo : Nat → Nat) (sz : Nat)  : Met l yJ0_length_8abf5 wsJ0_length_8abf5 ({ frames := 1, cells := 0, slots := 0, locals := 20 }) (va_Pc [.ref (eo (1 + 0))] (kz_pre D ty eo [] sz)) (va_Qi (fun (r : Int32) (u : va_W) => 21 = r ∧ [] = u) (kz_B D ty (va_A [] sz)) (va_A [] sz)) 0 0 (va_A [] sz) := by
  refine Met.ofW (cc := cJ0_length_8abf5) (maxL := 1) (ret := (some .int)) (by decide) rfl ?_
  intro p e s m args below meth c s₁ B hml hv
  obtain ⟨rfl, hsz, hP, hK, hD0, hN, hE⟩ := hv
  have hx := B.exec
  have hb := B.bytes
  have hr := B.returns
  have hts := atoms_spec (ws := wsJ0_length_8abf5) B.pre
  have hown : s.vm.findClass RJ0 = some m.cls := findClass_of_methodNamed B.named
  have hlocks := B.notSynchronized
  subst hsz
  have hD := hD0.self (sz := s.heap.size)
  generalize hAe : va_A [] s.heap.size = A at hD hE ⊢
  have hA : ∀ q : Nat, s.heap.size ≤ q → A q := fun q h => by rw [← hAe]; exact Or.inr h
  have hS : va_S A s.heap s.heap [] := va_S.rf
  have hl := lv_entry ([.ref (eo (1 + 0))]) (n := 1) (Nat.le_of_ble_eq_true rfl)
  rw [lg_entry_eq]
  generalize (lg_sl ([.ref (eo (1 + 0))]) ++ List.replicate (1 - (lg_sl ([.ref (eo (1 + 0))])).length) Slot.unset).toArray = ls at hl ⊢
  have hl : lv_has ls 1 [(0, .ref (eo (1 + 0)))] := hl
  refine lv_aload_n hx hb dJ0_length_8abf5_0 rfl (lv_at hl 0 rfl) ?_
  refine vk_getf (v := .ref (eo (20 + 0))) hx hb (hE.2.2.2.1.1 0 (by decide)).2.2.1 hS hown (hts (.fieldLink RJ0 9 "java/lang/String" "value" "[B") (by decide +kernel)) (fun _ h9 => h9) dJ0_length_8abf5_1 ?_
  refine va_tlen (v := 21) hx hb (hE.2.2.2.1.1 0 (by decide)).2.2.2 hS (by decide) dJ0_length_8abf5_4 ?_
  refine lv_aload_n hx hb dJ0_length_8abf5_5 rfl (lv_at hl 0 rfl) ?_
  refine kz_ki (wc := []) (wr := []) (va_runV (As := []) (rest := [.int 21]) ⟨hx, hb, hml, hown, hts⟩ (kJ0_coder_7d493_34 l D ty eo _ ) (cwV 0 hts gJ0_length_8abf5_J0_coder_7d493 rfl rfl rfl (by decide +kernel) ⟨Nat.le_of_ble_eq_true rfl, Nat.le_of_ble_eq_true rfl⟩) (kz_preT hK hN hE hP hD hS hA 0 (by decide) [] (by decide) rfl) rfl rfl hl.1 rfl (lv_room (Nat.le_of_ble_eq_true rfl)) dJ0_length_8abf5_6 ⟨Nat.le_of_ble_eq_true rfl, Nat.le_of_ble_eq_true rfl⟩) hP hD hS hA [] [] rfl rfl (by decide) (by decide) (fun r u H locs hw hP hD hS => ?_)
  obtain ⟨rfl, rfl⟩ := hw
  have hP : va_P D vwCl [] H := hP
  have hD : va_D A [] := hD
  refine lv_ishr hx hb dJ0_length_8abf5_9 ?_
  refine lv_topi (fun z_1 ez_1 => ?_)
  obtain rfl : z_1 = 21 := ez_1.trans (by first | rfl | decide +kernel)
  exact kz_iret hx hb hr hlocks hP hK hD hS dJ0_length_8abf5_10 ⟨rfl, rfl⟩

set_option maxHeartbeats 4000000 in
set_option maxRecDepth 100000 in
theorem kX4_wordIn_32 (l : Launch) (D : va_G) (ty : Nat → ClassId) (eo : Nat → Nat) (sz : Nat) (x_reader x_tape x_draft : Nat) : Met l yX4_wordIn wsX4_wordIn ({ frames := 2, cells := 0, slots := 0, locals := 40 }) (va_Pc [.ref x_reader, .ref (eo (1 + 0))] (kz_pre D ty eo [(x_reader, .inr (4, [.ref x_tape, .int 0, .int 1, .ref x_draft, .int 0, .int 0, .int 0, .int 0, .int 0, .int 0, .int (-1)]))] sz)) (va_Qi (fun (r : Int32) (u : va_W) => (-1) = r ∧ [(x_reader, .inr (4, [.ref x_tape, .int 0, .int 1, .ref x_draft, .int 0, .int 0, .int 0, .int 0, .int 0, .int 0, .int (-1)]))] = u) (kz_B D ty (va_A [(x_reader, .inr (4, [.ref x_tape, .int 0, .int 1, .ref x_draft, .int 0, .int 0, .int 0, .int 0, .int 0, .int 0, .int (-1)]))] sz)) (va_A [(x_reader, .inr (4, [.ref x_tape, .int 0, .int 1, .ref x_draft, .int 0, .int 0, .int 0, .int 0, .int 0, .int 0, .int (-1)]))] sz)) 0 0 (va_A [(x_reader, .inr (4, [.ref x_tape, .int 0, .int 1, .ref x_draft, .int 0, .int 0, .int 0, .int 0, .int 0, .int 0, .int (-1)]))] sz) := by
  refine Met.ofW (cc := cX4_wordIn) (maxL := 5) (ret := (some .int)) (by decide) rfl ?_
  intro p e s m args below meth c s₁ B hml hv
  obtain ⟨rfl, hsz, hP, hK, hD0, hN, hE⟩ := hv
  have hx := B.exec
  have hb := B.bytes
  have hr := B.returns
  have hts := atoms_spec (ws := wsX4_wordIn) B.pre
  have hown : s.vm.findClass RX4 = some m.cls := findClass_of_methodNamed B.named
  have hlocks := B.notSynchronized
  subst hsz
  have hD := hD0.self (sz := s.heap.size)
  generalize hAe : va_A [(x_reader, .inr (4, [.ref x_tape, .int 0, .int 1, .ref x_draft, .int 0, .int 0, .int 0, .int 0, .int 0, .int 0, .int (-1)]))] s.heap.size = A at hD hE ⊢
  have hA : ∀ q : Nat, s.heap.size ≤ q → A q := fun q h => by rw [← hAe]; exact Or.inr h
  have hS : va_S A s.heap s.heap [] := va_S.rf
  have hl := lv_entry ([.ref x_reader, .ref (eo (1 + 0))]) (n := 5) (Nat.le_of_ble_eq_true rfl)
  rw [lg_entry_eq]
  generalize (lg_sl ([.ref x_reader, .ref (eo (1 + 0))]) ++ List.replicate (5 - (lg_sl ([.ref x_reader, .ref (eo (1 + 0))])).length) Slot.unset).toArray = ls at hl ⊢
  have hl : lv_has ls 5 [(0, .ref x_reader), (1, .ref (eo (1 + 0)))] := hl
  refine lv_iconst (v := 0) hx hb dX4_wordIn_0 (by decide) ?_
  refine lv_istore_n (lv' := [(2, .int 0), (0, .ref x_reader), (1, .ref (eo (1 + 0)))]) hx hb dX4_wordIn_1 rfl hl (by decide) rfl (fun ls hl => ?_)
  refine lv_iconst (v := 0) hx hb dX4_wordIn_2 (by decide) ?_
  refine lv_istore_n (lv' := [(3, .int 0), (2, .int 0), (0, .ref x_reader), (1, .ref (eo (1 + 0)))]) hx hb dX4_wordIn_3 rfl hl (by decide) rfl (fun ls hl => ?_)
  refine lv_iconst (v := 0) hx hb dX4_wordIn_4 (by decide) ?_
  refine lv_istore (lv' := [(4, .int 0), (3, .int 0), (2, .int 0), (0, .ref x_reader), (1, .ref (eo (1 + 0)))]) hx hb dX4_wordIn_5 hl (by decide) rfl (fun ls hl => ?_)
  refine lv_iload hx hb dX4_wordIn_7 (lv_at hl 0 rfl) ?_
  refine lv_aload_n hx hb dX4_wordIn_9 rfl (lv_at hl 4 rfl) ?_
  refine kz_ki (wc := []) (wr := [(x_reader, .inr (4, [.ref x_tape, .int 0, .int 1, .ref x_draft, .int 0, .int 0, .int 0, .int 0, .int 0, .int 0, .int (-1)]))]) (va_runV (As := []) (rest := [.int 0]) ⟨hx, hb, hml, hown, hts⟩ (kJ0_length_8abf5_33 l D ty eo _ ) (cwV 0 hts gX4_wordIn_J0_length_8abf5 rfl rfl rfl (by decide +kernel) ⟨Nat.le_of_ble_eq_true rfl, Nat.le_of_ble_eq_true rfl⟩) (kz_preT hK hN hE hP hD hS hA 0 (by decide) [] (by decide) rfl) rfl rfl hl.1 rfl (lv_room (Nat.le_of_ble_eq_true rfl)) dX4_wordIn_10 ⟨Nat.le_of_ble_eq_true rfl, Nat.le_of_ble_eq_true rfl⟩) hP hD hS hA [] [0] rfl rfl (by decide) (by decide) (fun r u H locs hw hP hD hS => ?_)
  obtain ⟨rfl, rfl⟩ := hw
  have hP : va_P D vwCl [(x_reader, .inr (4, [.ref x_tape, .int 0, .int 1, .ref x_draft, .int 0, .int 0, .int 0, .int 0, .int 0, .int 0, .int (-1)]))] H := hP
  have hD : va_D A [(x_reader, .inr (4, [.ref x_tape, .int 0, .int 1, .ref x_draft, .int 0, .int 0, .int 0, .int 0, .int 0, .int 0, .int (-1)]))] := hD
  refine lv_icmp_ge (tgt := 62) hx hb dX4_wordIn_13 (by decide) (fun h => absurd h (by decide)) (fun _ => ?_)
  refine lv_aload_n hx hb dX4_wordIn_16 rfl (lv_at hl 3 rfl) ?_
  refine va_get (D := D) (ci := 4) (v := .int 0) (C := RX4) (T := TX4) (N := 11) hx hb hts (by decide +kernel) hown hK hP 0 rfl rfl 4 (by decide) (hts (.fieldLink RX4 27 "TurnedFloors$Reader" "token" "I") (by decide +kernel)) (fun _ h9 => h9) rfl dX4_wordIn_17 ?_
  refine lv_iconst (v := 1) hx hb dX4_wordIn_20 (by decide) ?_
  refine lv_icmp_ne (tgt := 62) hx hb dX4_wordIn_21 (by decide) (fun _ => ?_) (fun h => absurd h (by decide))
  refine lv_iconst (v := (-1)) hx hb dX4_wordIn_62 (by decide) ?_
  exact kz_iret hx hb hr hlocks hP hK hD hS dX4_wordIn_63 ⟨rfl, rfl⟩

set_option maxHeartbeats 4000000 in
set_option maxRecDepth 100000 in
theorem kX4_readClause_31 (l : Launch) (D : va_G) (ty : Nat → ClassId) (eo : Nat → Nat) (sz : Nat) (x_reader x_tape x_draft : Nat) : Met l yX4_readClause wsX4_readClause ({ frames := 3, cells := 0, slots := 0, locals := 64 }) (va_Pc [.ref x_reader] (kz_pre D ty eo [(x_reader, .inr (4, [.ref x_tape, .int 0, .int 1, .ref x_draft, .int 0, .int 0, .int 0, .int 0, .int 0, .int 0, .int (-1)]))] sz)) (va_Qv (fun (u : va_W) => [(x_reader, .inr (4, [.ref x_tape, .int 0, .int 1, .ref x_draft, .int 0, .int 0, .int 0, .int 0, .int 0, .int 0, .int 0]))] = u) (kz_B D ty (va_A [(x_reader, .inr (4, [.ref x_tape, .int 0, .int 1, .ref x_draft, .int 0, .int 0, .int 0, .int 0, .int 0, .int 0, .int (-1)]))] sz)) (va_A [(x_reader, .inr (4, [.ref x_tape, .int 0, .int 1, .ref x_draft, .int 0, .int 0, .int 0, .int 0, .int 0, .int 0, .int (-1)]))] sz)) 0 0 (va_A [(x_reader, .inr (4, [.ref x_tape, .int 0, .int 1, .ref x_draft, .int 0, .int 0, .int 0, .int 0, .int 0, .int 0, .int (-1)]))] sz) := by
  refine Met.ofW (cc := cX4_readClause) (maxL := 2) (ret := none) (by decide) rfl ?_
  intro p e s m args below meth c s₁ B hml hv
  obtain ⟨rfl, hsz, hP, hK, hD0, hN, hE⟩ := hv
  have hx := B.exec
  have hb := B.bytes
  have hr := B.returns
  have hts := atoms_spec (ws := wsX4_readClause) B.pre
  have hown : s.vm.findClass RX4 = some m.cls := findClass_of_methodNamed B.named
  have hlocks := B.notSynchronized
  subst hsz
  have hD := hD0.self (sz := s.heap.size)
  generalize hAe : va_A [(x_reader, .inr (4, [.ref x_tape, .int 0, .int 1, .ref x_draft, .int 0, .int 0, .int 0, .int 0, .int 0, .int 0, .int (-1)]))] s.heap.size = A at hD hE ⊢
  have hA : ∀ q : Nat, s.heap.size ≤ q → A q := fun q h => by rw [← hAe]; exact Or.inr h
  have hS : va_S A s.heap s.heap [] := va_S.rf
  have hl := lv_entry ([.ref x_reader]) (n := 2) (Nat.le_of_ble_eq_true rfl)
  rw [lg_entry_eq]
  generalize (lg_sl ([.ref x_reader]) ++ List.replicate (2 - (lg_sl ([.ref x_reader])).length) Slot.unset).toArray = ls at hl ⊢
  have hl : lv_has ls 2 [(0, .ref x_reader)] := hl
  refine lv_aload_n hx hb dX4_readClause_0 rfl (lv_at hl 0 rfl) ?_
  refine lv_aload_n hx hb dX4_readClause_1 rfl (lv_at hl 0 rfl) ?_
  refine va_get (D := D) (ci := 4) (v := .int 1) (C := RX4) (T := TX4) (N := 11) hx hb hts (by decide +kernel) hown hK hP 0 rfl rfl 2 (by decide) (hts (.fieldLink RX4 19 "TurnedFloors$Reader" "ofOrders" "Z") (by decide +kernel)) (fun _ h9 => h9) rfl dX4_readClause_2 ?_
  refine lv_if_eq (tgt := 13) hx hb dX4_readClause_5 (by decide) (fun h => absurd h (by decide)) (fun _ => ?_)
  refine va_ldcS hx hb hown (hE.2.2.2.2 0 (by decide)) dX4_readClause_8 ?_
  refine lv_goto (tgt := 15) hx hb dX4_readClause_10 (by decide) ?_
  refine kz_ki (wc := [(x_reader, .inr (4, [.ref x_tape, .int 0, .int 1, .ref x_draft, .int 0, .int 0, .int 0, .int 0, .int 0, .int 0, .int (-1)]))]) (wr := []) (va_runV (As := [.ref (eo (1 + 0))]) (rest := []) ⟨hx, hb, hml, hown, hts⟩ (kX4_wordIn_32 l D ty eo _ x_reader x_tape x_draft) (cwV 1 hts gX4_readClause_X4_wordIn rfl rfl rfl (by decide +kernel) ⟨Nat.le_of_ble_eq_true rfl, Nat.le_of_ble_eq_true rfl⟩) (kz_preV (ci := 4) (q0 := 0) hK hN hE hP hD hS hA rfl rfl [0] (by decide) rfl) rfl rfl hl.1 rfl (lv_room (Nat.le_of_ble_eq_true rfl)) dX4_readClause_15 ⟨Nat.le_of_ble_eq_true rfl, Nat.le_of_ble_eq_true rfl⟩) hP hD hS hA [0] [] rfl rfl (by decide) (by decide) (fun r u H locs hw hP hD hS => ?_)
  obtain ⟨rfl, rfl⟩ := hw
  have hP : va_P D vwCl [(x_reader, .inr (4, [.ref x_tape, .int 0, .int 1, .ref x_draft, .int 0, .int 0, .int 0, .int 0, .int 0, .int 0, .int (-1)]))] H := hP
  have hD : va_D A [(x_reader, .inr (4, [.ref x_tape, .int 0, .int 1, .ref x_draft, .int 0, .int 0, .int 0, .int 0, .int 0, .int 0, .int (-1)]))] := hD
  refine lv_istore_n (lv' := [(1, .int (-1)), (0, .ref x_reader)]) hx hb dX4_readClause_18 rfl hl (by decide) rfl (fun ls hl => ?_)
  refine lv_iload_n hx hb dX4_readClause_19 rfl (lv_at hl 0 rfl) ?_
  refine lv_iconst (v := (-1)) hx hb dX4_readClause_20 (by decide) ?_
  refine lv_icmp_ne (tgt := 29) hx hb dX4_readClause_21 (by decide) (fun h => absurd (by decide) h) (fun _ => ?_)
  refine lv_aload_n hx hb dX4_readClause_24 rfl (lv_at hl 1 rfl) ?_
  refine kz_kv (wc := [(x_reader, .inr (4, [.ref x_tape, .int 0, .int 1, .ref x_draft, .int 0, .int 0, .int 0, .int 0, .int 0, .int 0, .int (-1)]))]) (wr := []) (va_runV (As := []) (rest := []) ⟨hx, hb, hml, hown, hts⟩ (kcX4_fail l D ty eo _ x_reader (.ref x_tape) (.int 0) (.int 1) (.ref x_draft) (.int 0) (.int 0) (.int 0) (.int 0) (.int 0) (-1) 0) (cwV 0 hts gX4_readClause_X4_fail rfl rfl rfl (by decide +kernel) ⟨Nat.le_of_ble_eq_true rfl, Nat.le_of_ble_eq_true rfl⟩) (kz_preV (ci := 4) (q0 := 0) hK hN hE hP hD hS hA rfl rfl [0] (by decide) rfl) rfl rfl hl.1 rfl (lv_room (Nat.le_of_ble_eq_true rfl)) dX4_readClause_25 ⟨Nat.le_of_ble_eq_true rfl, Nat.le_of_ble_eq_true rfl⟩) hP hD hS hA [0] [] rfl rfl (by decide) (by decide) (fun u H locs hw hP hD hS => ?_)
  rcases hw with ⟨c_1, rfl⟩ | ⟨c_2, rfl⟩
  · exact absurd c_1 (by decide)
  · have hP : va_P D vwCl [(x_reader, .inr (4, [.ref x_tape, .int 0, .int 1, .ref x_draft, .int 0, .int 0, .int 0, .int 0, .int 0, .int 0, .int 0]))] H := hP
    have hD : va_D A [(x_reader, .inr (4, [.ref x_tape, .int 0, .int 1, .ref x_draft, .int 0, .int 0, .int 0, .int 0, .int 0, .int 0, .int 0]))] := hD
    exact kz_vret hx hb hr hlocks hP hK hD hS dX4_readClause_28 rfl

set_option maxHeartbeats 4000000 in
set_option maxRecDepth 100000 in
theorem kX4_isSign_36 (l : Launch) (D : va_G) (ty : Nat → ClassId) (eo : Nat → Nat) (sz : Nat) (x_reader x_tape x_draft : Nat) : Met l yX4_isSign wsX4_isSign ({ frames := 0, cells := 0, slots := 0, locals := 0 }) (va_Pc [.ref x_reader, .int 59] (kz_pre D ty eo [(x_reader, .inr (4, [.ref x_tape, .int 0, .int 1, .ref x_draft, .int 0, .int 0, .int 0, .int 0, .int 0, .int 0, .int 0]))] sz)) (va_Qi (fun (r : Int32) (u : va_W) => 0 = r ∧ [(x_reader, .inr (4, [.ref x_tape, .int 0, .int 1, .ref x_draft, .int 0, .int 0, .int 0, .int 0, .int 0, .int 0, .int 0]))] = u) (kz_B D ty (va_A [(x_reader, .inr (4, [.ref x_tape, .int 0, .int 1, .ref x_draft, .int 0, .int 0, .int 0, .int 0, .int 0, .int 0, .int 0]))] sz)) (va_A [(x_reader, .inr (4, [.ref x_tape, .int 0, .int 1, .ref x_draft, .int 0, .int 0, .int 0, .int 0, .int 0, .int 0, .int 0]))] sz)) 0 0 (va_A [(x_reader, .inr (4, [.ref x_tape, .int 0, .int 1, .ref x_draft, .int 0, .int 0, .int 0, .int 0, .int 0, .int 0, .int 0]))] sz) := by
  refine Met.ofW (cc := cX4_isSign) (maxL := 2) (ret := (some .boolean)) (by decide) rfl ?_
  intro p e s m args below meth c s₁ B hml hv
  obtain ⟨rfl, hsz, hP, hK, hD0, hN, hE⟩ := hv
  have hx := B.exec
  have hb := B.bytes
  have hr := B.returns
  have hts := atoms_spec (ws := wsX4_isSign) B.pre
  have hown : s.vm.findClass RX4 = some m.cls := findClass_of_methodNamed B.named
  have hlocks := B.notSynchronized
  subst hsz
  have hD := hD0.self (sz := s.heap.size)
  generalize hAe : va_A [(x_reader, .inr (4, [.ref x_tape, .int 0, .int 1, .ref x_draft, .int 0, .int 0, .int 0, .int 0, .int 0, .int 0, .int 0]))] s.heap.size = A at hD hE ⊢
  have hA : ∀ q : Nat, s.heap.size ≤ q → A q := fun q h => by rw [← hAe]; exact Or.inr h
  have hS : va_S A s.heap s.heap [] := va_S.rf
  have hl := lv_entry ([.ref x_reader, .int 59]) (n := 2) (Nat.le_of_ble_eq_true rfl)
  rw [lg_entry_eq]
  generalize (lg_sl ([.ref x_reader, .int 59]) ++ List.replicate (2 - (lg_sl ([.ref x_reader, .int 59])).length) Slot.unset).toArray = ls at hl ⊢
  have hl : lv_has ls 2 [(0, .ref x_reader), (1, .int 59)] := hl
  refine lv_aload_n hx hb dX4_isSign_0 rfl (lv_at hl 0 rfl) ?_
  refine va_get (D := D) (ci := 4) (v := .int 0) (C := RX4) (T := TX4) (N := 11) hx hb hts (by decide +kernel) hown hK hP 0 rfl rfl 4 (by decide) (hts (.fieldLink RX4 27 "TurnedFloors$Reader" "token" "I") (by decide +kernel)) (fun _ h9 => h9) rfl dX4_isSign_1 ?_
  refine lv_iconst (v := 3) hx hb dX4_isSign_4 (by decide) ?_
  refine lv_icmp_ne (tgt := 36) hx hb dX4_isSign_5 (by decide) (fun _ => ?_) (fun h => absurd h (by decide))
  refine lv_iconst (v := 0) hx hb dX4_isSign_36 (by decide) ?_
  exact kz_zret hx hb hr hlocks rfl hP hK hD hS dX4_isSign_37 ⟨rfl, rfl⟩

set_option maxHeartbeats 4000000 in
set_option maxRecDepth 100000 in
theorem kX4_expectSign_35 (l : Launch) (D : va_G) (ty : Nat → ClassId) (eo : Nat → Nat) (sz : Nat) (x_reader x_tape x_draft : Nat) : Met l yX4_expectSign wsX4_expectSign ({ frames := 1, cells := 0, slots := 0, locals := 21 }) (va_Pc [.ref x_reader, .int 59] (kz_pre D ty eo [(x_reader, .inr (4, [.ref x_tape, .int 0, .int 1, .ref x_draft, .int 0, .int 0, .int 0, .int 0, .int 0, .int 0, .int 0]))] sz)) (va_Qv (fun (u : va_W) => [(x_reader, .inr (4, [.ref x_tape, .int 0, .int 1, .ref x_draft, .int 0, .int 0, .int 0, .int 0, .int 0, .int 0, .int 0]))] = u) (kz_B D ty (va_A [(x_reader, .inr (4, [.ref x_tape, .int 0, .int 1, .ref x_draft, .int 0, .int 0, .int 0, .int 0, .int 0, .int 0, .int 0]))] sz)) (va_A [(x_reader, .inr (4, [.ref x_tape, .int 0, .int 1, .ref x_draft, .int 0, .int 0, .int 0, .int 0, .int 0, .int 0, .int 0]))] sz)) 0 0 (va_A [(x_reader, .inr (4, [.ref x_tape, .int 0, .int 1, .ref x_draft, .int 0, .int 0, .int 0, .int 0, .int 0, .int 0, .int 0]))] sz) := by
  refine Met.ofW (cc := cX4_expectSign) (maxL := 2) (ret := none) (by decide) rfl ?_
  intro p e s m args below meth c s₁ B hml hv
  obtain ⟨rfl, hsz, hP, hK, hD0, hN, hE⟩ := hv
  have hx := B.exec
  have hb := B.bytes
  have hr := B.returns
  have hts := atoms_spec (ws := wsX4_expectSign) B.pre
  have hown : s.vm.findClass RX4 = some m.cls := findClass_of_methodNamed B.named
  have hlocks := B.notSynchronized
  subst hsz
  have hD := hD0.self (sz := s.heap.size)
  generalize hAe : va_A [(x_reader, .inr (4, [.ref x_tape, .int 0, .int 1, .ref x_draft, .int 0, .int 0, .int 0, .int 0, .int 0, .int 0, .int 0]))] s.heap.size = A at hD hE ⊢
  have hA : ∀ q : Nat, s.heap.size ≤ q → A q := fun q h => by rw [← hAe]; exact Or.inr h
  have hS : va_S A s.heap s.heap [] := va_S.rf
  have hl := lv_entry ([.ref x_reader, .int 59]) (n := 2) (Nat.le_of_ble_eq_true rfl)
  rw [lg_entry_eq]
  generalize (lg_sl ([.ref x_reader, .int 59]) ++ List.replicate (2 - (lg_sl ([.ref x_reader, .int 59])).length) Slot.unset).toArray = ls at hl ⊢
  have hl : lv_has ls 2 [(0, .ref x_reader), (1, .int 59)] := hl
  refine lv_aload_n hx hb dX4_expectSign_0 rfl (lv_at hl 0 rfl) ?_
  refine lv_iload_n hx hb dX4_expectSign_1 rfl (lv_at hl 1 rfl) ?_
  refine kz_ki (wc := [(x_reader, .inr (4, [.ref x_tape, .int 0, .int 1, .ref x_draft, .int 0, .int 0, .int 0, .int 0, .int 0, .int 0, .int 0]))]) (wr := []) (va_runV (As := [.int 59]) (rest := []) ⟨hx, hb, hml, hown, hts⟩ (kX4_isSign_36 l D ty eo _ x_reader x_tape x_draft) (cwV 1 hts gX4_expectSign_X4_isSign rfl rfl rfl (by decide +kernel) ⟨Nat.le_of_ble_eq_true rfl, Nat.le_of_ble_eq_true rfl⟩) (kz_preV (ci := 4) (q0 := 0) hK hN hE hP hD hS hA rfl rfl [0] (by decide) rfl) rfl rfl hl.1 rfl (lv_room (Nat.le_of_ble_eq_true rfl)) dX4_expectSign_2 ⟨Nat.le_of_ble_eq_true rfl, Nat.le_of_ble_eq_true rfl⟩) hP hD hS hA [0] [] rfl rfl (by decide) (by decide) (fun r u H locs hw hP hD hS => ?_)
  obtain ⟨rfl, rfl⟩ := hw
  have hP : va_P D vwCl [(x_reader, .inr (4, [.ref x_tape, .int 0, .int 1, .ref x_draft, .int 0, .int 0, .int 0, .int 0, .int 0, .int 0, .int 0]))] H := hP
  have hD : va_D A [(x_reader, .inr (4, [.ref x_tape, .int 0, .int 1, .ref x_draft, .int 0, .int 0, .int 0, .int 0, .int 0, .int 0, .int 0]))] := hD
  refine lv_if_eq (tgt := 15) hx hb dX4_expectSign_5 (by decide) (fun _ => ?_) (fun h => absurd (by decide) h)
  refine lv_aload_n hx hb dX4_expectSign_15 rfl (lv_at hl 0 rfl) ?_
  refine kz_kv (wc := [(x_reader, .inr (4, [.ref x_tape, .int 0, .int 1, .ref x_draft, .int 0, .int 0, .int 0, .int 0, .int 0, .int 0, .int 0]))]) (wr := []) (va_runV (As := []) (rest := []) ⟨hx, hb, hml, hown, hts⟩ (kcX4_fail l D ty eo _ x_reader (.ref x_tape) (.int 0) (.int 1) (.ref x_draft) (.int 0) (.int 0) (.int 0) (.int 0) (.int 0) 0 0) (cwV 0 hts gX4_expectSign_X4_fail rfl rfl rfl (by decide +kernel) ⟨Nat.le_of_ble_eq_true rfl, Nat.le_of_ble_eq_true rfl⟩) (kz_preV (ci := 4) (q0 := 0) hK hN hE hP hD hS hA rfl rfl [0] (by decide) rfl) rfl rfl hl.1 rfl (lv_room (Nat.le_of_ble_eq_true rfl)) dX4_expectSign_16 ⟨Nat.le_of_ble_eq_true rfl, Nat.le_of_ble_eq_true rfl⟩) hP hD hS hA [0] [] rfl rfl (by decide) (by decide) (fun u H locs hw hP hD hS => ?_)
  rcases hw with ⟨c_1, rfl⟩ | ⟨c_2, rfl⟩
  · have hP : va_P D vwCl [(x_reader, .inr (4, [.ref x_tape, .int 0, .int 1, .ref x_draft, .int 0, .int 0, .int 0, .int 0, .int 0, .int 0, .int 0]))] H := hP
    have hD : va_D A [(x_reader, .inr (4, [.ref x_tape, .int 0, .int 1, .ref x_draft, .int 0, .int 0, .int 0, .int 0, .int 0, .int 0, .int 0]))] := hD
    exact kz_vret hx hb hr hlocks hP hK hD hS dX4_expectSign_19 rfl
  · exact absurd c_2 (by decide)

set_option maxHeartbeats 4000000 in
set_option maxRecDepth 100000 in
theorem kX4_read_29 (l : Launch) (D : va_G) (ty : Nat → ClassId) (eo : Nat → Nat) (sz : Nat) (x_reader x_tape x_draft x_draft_kind x_draft_times x_draft_sumFrom x_draft_testFrom x_draft_testTo x_draft_code : Nat) : Met l yX4_read wsX4_read ({ frames := 4, cells := 0, slots := 0, locals := 85 }) (va_Pc [.ref x_reader, .ref x_tape, .int 0, .int 1, .ref x_draft] (kz_pre D ty eo [(x_reader, .inr (4, [.null, .int 0, .int 0, .null, .int 0, .int 0, .int 0, .int 0, .int 0, .int 0, .int (-1)])), (x_tape, .inl (ty 0, 400, .inl (fun _ => 0))), (x_draft, .inr (7, [.ref x_draft_kind, .ref x_draft_times, .ref x_draft_sumFrom, .ref x_draft_testFrom, .ref x_draft_testTo, .ref x_draft_code, .int 0, .int 0]))] sz)) (va_Qi (fun (r : Int32) (u : va_W) => 0 = r ∧ [(x_tape, .inl (ty 0, 400, .inl (fun _ => 0))), (x_draft, .inr (7, [.ref x_draft_kind, .ref x_draft_times, .ref x_draft_sumFrom, .ref x_draft_testFrom, .ref x_draft_testTo, .ref x_draft_code, .int 0, .int 0])), (x_reader, .inr (4, [.ref x_tape, .int 0, .int 1, .ref x_draft, .int 0, .int 0, .int 0, .int 0, .int 0, .int 0, .int 0]))] = u) (kz_B D ty (va_A [(x_reader, .inr (4, [.null, .int 0, .int 0, .null, .int 0, .int 0, .int 0, .int 0, .int 0, .int 0, .int (-1)])), (x_tape, .inl (ty 0, 400, .inl (fun _ => 0))), (x_draft, .inr (7, [.ref x_draft_kind, .ref x_draft_times, .ref x_draft_sumFrom, .ref x_draft_testFrom, .ref x_draft_testTo, .ref x_draft_code, .int 0, .int 0]))] sz)) (va_A [(x_reader, .inr (4, [.null, .int 0, .int 0, .null, .int 0, .int 0, .int 0, .int 0, .int 0, .int 0, .int (-1)])), (x_tape, .inl (ty 0, 400, .inl (fun _ => 0))), (x_draft, .inr (7, [.ref x_draft_kind, .ref x_draft_times, .ref x_draft_sumFrom, .ref x_draft_testFrom, .ref x_draft_testTo, .ref x_draft_code, .int 0, .int 0]))] sz)) 0 0 (va_A [(x_reader, .inr (4, [.null, .int 0, .int 0, .null, .int 0, .int 0, .int 0, .int 0, .int 0, .int 0, .int (-1)])), (x_tape, .inl (ty 0, 400, .inl (fun _ => 0))), (x_draft, .inr (7, [.ref x_draft_kind, .ref x_draft_times, .ref x_draft_sumFrom, .ref x_draft_testFrom, .ref x_draft_testTo, .ref x_draft_code, .int 0, .int 0]))] sz) := by
  refine Met.ofW (cc := cX4_read) (maxL := 6) (ret := (some .int)) (by decide) rfl ?_
  intro p e s m args below meth c s₁ B hml hv
  obtain ⟨rfl, hsz, hP, hK, hD0, hN, hE⟩ := hv
  have hx := B.exec
  have hb := B.bytes
  have hr := B.returns
  have hts := atoms_spec (ws := wsX4_read) B.pre
  have hown : s.vm.findClass RX4 = some m.cls := findClass_of_methodNamed B.named
  have hlocks := B.notSynchronized
  subst hsz
  have hD := hD0.self (sz := s.heap.size)
  generalize hAe : va_A [(x_reader, .inr (4, [.null, .int 0, .int 0, .null, .int 0, .int 0, .int 0, .int 0, .int 0, .int 0, .int (-1)])), (x_tape, .inl (ty 0, 400, .inl (fun _ => 0))), (x_draft, .inr (7, [.ref x_draft_kind, .ref x_draft_times, .ref x_draft_sumFrom, .ref x_draft_testFrom, .ref x_draft_testTo, .ref x_draft_code, .int 0, .int 0]))] s.heap.size = A at hD hE ⊢
  have hA : ∀ q : Nat, s.heap.size ≤ q → A q := fun q h => by rw [← hAe]; exact Or.inr h
  have hS : va_S A s.heap s.heap [] := va_S.rf
  have hl := lv_entry ([.ref x_reader, .ref x_tape, .int 0, .int 1, .ref x_draft]) (n := 6) (Nat.le_of_ble_eq_true rfl)
  rw [lg_entry_eq]
  generalize (lg_sl ([.ref x_reader, .ref x_tape, .int 0, .int 1, .ref x_draft]) ++ List.replicate (6 - (lg_sl ([.ref x_reader, .ref x_tape, .int 0, .int 1, .ref x_draft])).length) Slot.unset).toArray = ls at hl ⊢
  have hl : lv_has ls 6 [(0, .ref x_reader), (1, .ref x_tape), (2, .int 0), (3, .int 1), (4, .ref x_draft)] := hl
  refine lv_aload_n hx hb dX4_read_0 rfl (lv_at hl 0 rfl) ?_
  refine lv_aload_n hx hb dX4_read_1 rfl (lv_at hl 1 rfl) ?_
  refine va_put (D := D) (ci := 4) (v := .ref x_tape) (ty := .array .int) (C := RX4) (T := TX4) (N := 11) hx hb hts (by decide +kernel) tyX4 tyX4_ok nmX4 hown hK hP hD hS 0 rfl rfl 0 (by decide) (hts (.fieldLink RX4 9 "TurnedFloors$Reader" "bytes" "[I") (by decide +kernel)) (fun _ h9 => h9) rfl (by decide +kernel) rfl rfl (Nat.le_of_ble_eq_true rfl) dX4_read_2 (fun H locs hP hD hS => ?_)
  have hP : va_P D vwCl [(x_reader, .inr (4, [.ref x_tape, .int 0, .int 0, .null, .int 0, .int 0, .int 0, .int 0, .int 0, .int 0, .int (-1)])), (x_tape, .inl (ty 0, 400, .inl (fun _ => 0))), (x_draft, .inr (7, [.ref x_draft_kind, .ref x_draft_times, .ref x_draft_sumFrom, .ref x_draft_testFrom, .ref x_draft_testTo, .ref x_draft_code, .int 0, .int 0]))] H := hP
  have hD : va_D A [(x_reader, .inr (4, [.ref x_tape, .int 0, .int 0, .null, .int 0, .int 0, .int 0, .int 0, .int 0, .int 0, .int (-1)])), (x_tape, .inl (ty 0, 400, .inl (fun _ => 0))), (x_draft, .inr (7, [.ref x_draft_kind, .ref x_draft_times, .ref x_draft_sumFrom, .ref x_draft_testFrom, .ref x_draft_testTo, .ref x_draft_code, .int 0, .int 0]))] := hD
  refine lv_aload_n hx hb dX4_read_5 rfl (lv_at hl 0 rfl) ?_
  refine lv_iload_n hx hb dX4_read_6 rfl (lv_at hl 2 rfl) ?_
  refine lv_aload_n hx hb dX4_read_7 rfl (lv_at hl 1 rfl) ?_
  refine va_alen (v := 400) hx hb hK hP 1 0 rfl rfl (by decide +kernel) dX4_read_8 ?_
  refine va_mmin hx hb (hml.trans hl.1.symm) hown (hts (.methodLink RX4 48 Lib.Math.min.name) (by decide +kernel)) (hts (.static Lib.Math.min.name) (by decide +kernel)) (hts (.initialized "java/lang/Math") (by decide +kernel)) (hts (.code Lib.Math.min.name Lib.Math.min.code 2 (some .int)) (by decide +kernel)) (Nat.le_of_ble_eq_true rfl) (Nat.le_of_ble_eq_true rfl) (Nat.le_of_ble_eq_true rfl) (Nat.le_of_ble_eq_true rfl) dX4_read_9 ?_
  refine lv_topi (fun z_1 ez_1 => ?_)
  obtain rfl : z_1 = 0 := ez_1.trans (by first | rfl | decide +kernel)
  refine va_put (D := D) (ci := 4) (v := .int 0) (ty := .int) (C := RX4) (T := TX4) (N := 11) hx hb hts (by decide +kernel) tyX4 tyX4_ok nmX4 hown hK hP hD hS 0 rfl rfl 1 (by decide) (hts (.fieldLink RX4 15 "TurnedFloors$Reader" "length" "I") (by decide +kernel)) (fun _ h9 => h9) rfl (by decide +kernel) rfl rfl (Nat.le_of_ble_eq_true rfl) dX4_read_12 (fun H locs hP hD hS => ?_)
  have hP : va_P D vwCl [(x_reader, .inr (4, [.ref x_tape, .int 0, .int 0, .null, .int 0, .int 0, .int 0, .int 0, .int 0, .int 0, .int (-1)])), (x_tape, .inl (ty 0, 400, .inl (fun _ => 0))), (x_draft, .inr (7, [.ref x_draft_kind, .ref x_draft_times, .ref x_draft_sumFrom, .ref x_draft_testFrom, .ref x_draft_testTo, .ref x_draft_code, .int 0, .int 0]))] H := hP
  have hD : va_D A [(x_reader, .inr (4, [.ref x_tape, .int 0, .int 0, .null, .int 0, .int 0, .int 0, .int 0, .int 0, .int 0, .int (-1)])), (x_tape, .inl (ty 0, 400, .inl (fun _ => 0))), (x_draft, .inr (7, [.ref x_draft_kind, .ref x_draft_times, .ref x_draft_sumFrom, .ref x_draft_testFrom, .ref x_draft_testTo, .ref x_draft_code, .int 0, .int 0]))] := hD
  refine lv_aload_n hx hb dX4_read_15 rfl (lv_at hl 0 rfl) ?_
  refine lv_iload_n hx hb dX4_read_16 rfl (lv_at hl 3 rfl) ?_
  refine va_put (D := D) (ci := 4) (v := .int 1) (ty := .boolean) (C := RX4) (T := TX4) (N := 11) hx hb hts (by decide +kernel) tyX4 tyX4_ok nmX4 hown hK hP hD hS 0 rfl rfl 2 (by decide) (hts (.fieldLink RX4 19 "TurnedFloors$Reader" "ofOrders" "Z") (by decide +kernel)) (fun _ h9 => h9) rfl (by decide +kernel) rfl rfl (Nat.le_of_ble_eq_true rfl) dX4_read_17 (fun H locs hP hD hS => ?_)
  have hP : va_P D vwCl [(x_reader, .inr (4, [.ref x_tape, .int 0, .int 1, .null, .int 0, .int 0, .int 0, .int 0, .int 0, .int 0, .int (-1)])), (x_tape, .inl (ty 0, 400, .inl (fun _ => 0))), (x_draft, .inr (7, [.ref x_draft_kind, .ref x_draft_times, .ref x_draft_sumFrom, .ref x_draft_testFrom, .ref x_draft_testTo, .ref x_draft_code, .int 0, .int 0]))] H := hP
  have hD : va_D A [(x_reader, .inr (4, [.ref x_tape, .int 0, .int 1, .null, .int 0, .int 0, .int 0, .int 0, .int 0, .int 0, .int (-1)])), (x_tape, .inl (ty 0, 400, .inl (fun _ => 0))), (x_draft, .inr (7, [.ref x_draft_kind, .ref x_draft_times, .ref x_draft_sumFrom, .ref x_draft_testFrom, .ref x_draft_testTo, .ref x_draft_code, .int 0, .int 0]))] := hD
  refine lv_aload_n hx hb dX4_read_20 rfl (lv_at hl 0 rfl) ?_
  refine lv_aload hx hb dX4_read_21 (lv_at hl 4 rfl) ?_
  refine va_put (D := D) (ci := 4) (v := .ref x_draft) (ty := .object "TurnedFloors$Text") (C := RX4) (T := TX4) (N := 11) hx hb hts (by decide +kernel) tyX4 tyX4_ok nmX4 hown hK hP hD hS 0 rfl rfl 3 (by decide) (hts (.fieldLink RX4 23 "TurnedFloors$Reader" "text" "LTurnedFloors$Text;") (by decide +kernel)) (fun _ h9 => h9) rfl (by decide +kernel) rfl rfl (Nat.le_of_ble_eq_true rfl) dX4_read_23 (fun H locs hP hD hS => ?_)
  have hP : va_P D vwCl [(x_reader, .inr (4, [.ref x_tape, .int 0, .int 1, .ref x_draft, .int 0, .int 0, .int 0, .int 0, .int 0, .int 0, .int (-1)])), (x_tape, .inl (ty 0, 400, .inl (fun _ => 0))), (x_draft, .inr (7, [.ref x_draft_kind, .ref x_draft_times, .ref x_draft_sumFrom, .ref x_draft_testFrom, .ref x_draft_testTo, .ref x_draft_code, .int 0, .int 0]))] H := hP
  have hD : va_D A [(x_reader, .inr (4, [.ref x_tape, .int 0, .int 1, .ref x_draft, .int 0, .int 0, .int 0, .int 0, .int 0, .int 0, .int (-1)])), (x_tape, .inl (ty 0, 400, .inl (fun _ => 0))), (x_draft, .inr (7, [.ref x_draft_kind, .ref x_draft_times, .ref x_draft_sumFrom, .ref x_draft_testFrom, .ref x_draft_testTo, .ref x_draft_code, .int 0, .int 0]))] := hD
  refine lv_aload_n hx hb dX4_read_26 rfl (lv_at hl 0 rfl) ?_
  refine va_get (D := D) (ci := 4) (v := .ref x_draft) (C := RX4) (T := TX4) (N := 11) hx hb hts (by decide +kernel) hown hK hP 0 rfl rfl 3 (by decide) (hts (.fieldLink RX4 23 "TurnedFloors$Reader" "text" "LTurnedFloors$Text;") (by decide +kernel)) (fun _ h9 => h9) rfl dX4_read_27 ?_
  refine kz_kv (wc := [(x_draft, .inr (7, [.ref x_draft_kind, .ref x_draft_times, .ref x_draft_sumFrom, .ref x_draft_testFrom, .ref x_draft_testTo, .ref x_draft_code, .int 0, .int 0]))]) (wr := [(x_reader, .inr (4, [.ref x_tape, .int 0, .int 1, .ref x_draft, .int 0, .int 0, .int 0, .int 0, .int 0, .int 0, .int (-1)])), (x_tape, .inl (ty 0, 400, .inl (fun _ => 0)))]) (va_runV (As := []) (rest := []) ⟨hx, hb, hml, hown, hts⟩ (kcX7_clear l D ty eo _ x_draft (.ref x_draft_kind) (.ref x_draft_times) (.ref x_draft_sumFrom) (.ref x_draft_testFrom) (.ref x_draft_testTo) (.ref x_draft_code) (.int 0) (.int 0)) (cwV 0 hts gX4_read_X7_clear rfl rfl rfl (by decide +kernel) ⟨Nat.le_of_ble_eq_true rfl, Nat.le_of_ble_eq_true rfl⟩) (kz_preV (ci := 7) (q0 := 2) hK hN hE hP hD hS hA rfl rfl [2] (by decide) rfl) rfl rfl hl.1 rfl (lv_room (Nat.le_of_ble_eq_true rfl)) dX4_read_30 ⟨Nat.le_of_ble_eq_true rfl, Nat.le_of_ble_eq_true rfl⟩) hP hD hS hA [2] [0, 1] rfl rfl (by decide) (by decide) (fun u H locs hw hP hD hS => ?_)
  obtain rfl := hw
  have hP : va_P D vwCl [(x_reader, .inr (4, [.ref x_tape, .int 0, .int 1, .ref x_draft, .int 0, .int 0, .int 0, .int 0, .int 0, .int 0, .int (-1)])), (x_tape, .inl (ty 0, 400, .inl (fun _ => 0))), (x_draft, .inr (7, [.ref x_draft_kind, .ref x_draft_times, .ref x_draft_sumFrom, .ref x_draft_testFrom, .ref x_draft_testTo, .ref x_draft_code, .int 0, .int 0]))] H := hP
  have hD : va_D A [(x_reader, .inr (4, [.ref x_tape, .int 0, .int 1, .ref x_draft, .int 0, .int 0, .int 0, .int 0, .int 0, .int 0, .int (-1)])), (x_tape, .inl (ty 0, 400, .inl (fun _ => 0))), (x_draft, .inr (7, [.ref x_draft_kind, .ref x_draft_times, .ref x_draft_sumFrom, .ref x_draft_testFrom, .ref x_draft_testTo, .ref x_draft_code, .int 0, .int 0]))] := hD
  refine lv_aload_n hx hb dX4_read_33 rfl (lv_at hl 0 rfl) ?_
  refine lv_iconst (v := 0) hx hb dX4_read_34 (by decide) ?_
  refine va_put (D := D) (ci := 4) (v := .int 0) (ty := .int) (C := RX4) (T := TX4) (N := 11) hx hb hts (by decide +kernel) tyX4 tyX4_ok nmX4 hown hK hP hD hS 0 rfl rfl 6 (by decide) (hts (.fieldLink RX4 33 "TurnedFloors$Reader" "stop" "I") (by decide +kernel)) (fun _ h9 => h9) rfl (by decide +kernel) rfl rfl (Nat.le_of_ble_eq_true rfl) dX4_read_35 (fun H locs hP hD hS => ?_)
  have hP : va_P D vwCl [(x_reader, .inr (4, [.ref x_tape, .int 0, .int 1, .ref x_draft, .int 0, .int 0, .int 0, .int 0, .int 0, .int 0, .int (-1)])), (x_tape, .inl (ty 0, 400, .inl (fun _ => 0))), (x_draft, .inr (7, [.ref x_draft_kind, .ref x_draft_times, .ref x_draft_sumFrom, .ref x_draft_testFrom, .ref x_draft_testTo, .ref x_draft_code, .int 0, .int 0]))] H := hP
  have hD : va_D A [(x_reader, .inr (4, [.ref x_tape, .int 0, .int 1, .ref x_draft, .int 0, .int 0, .int 0, .int 0, .int 0, .int 0, .int (-1)])), (x_tape, .inl (ty 0, 400, .inl (fun _ => 0))), (x_draft, .inr (7, [.ref x_draft_kind, .ref x_draft_times, .ref x_draft_sumFrom, .ref x_draft_testFrom, .ref x_draft_testTo, .ref x_draft_code, .int 0, .int 0]))] := hD
  refine lv_aload_n hx hb dX4_read_38 rfl (lv_at hl 0 rfl) ?_
  refine lv_iconst (v := 0) hx hb dX4_read_39 (by decide) ?_
  refine va_put (D := D) (ci := 4) (v := .int 0) (ty := .int) (C := RX4) (T := TX4) (N := 11) hx hb hts (by decide +kernel) tyX4 tyX4_ok nmX4 hown hK hP hD hS 0 rfl rfl 8 (by decide) (hts (.fieldLink RX4 39 "TurnedFloors$Reader" "parts" "I") (by decide +kernel)) (fun _ h9 => h9) rfl (by decide +kernel) rfl rfl (Nat.le_of_ble_eq_true rfl) dX4_read_40 (fun H locs hP hD hS => ?_)
  have hP : va_P D vwCl [(x_reader, .inr (4, [.ref x_tape, .int 0, .int 1, .ref x_draft, .int 0, .int 0, .int 0, .int 0, .int 0, .int 0, .int (-1)])), (x_tape, .inl (ty 0, 400, .inl (fun _ => 0))), (x_draft, .inr (7, [.ref x_draft_kind, .ref x_draft_times, .ref x_draft_sumFrom, .ref x_draft_testFrom, .ref x_draft_testTo, .ref x_draft_code, .int 0, .int 0]))] H := hP
  have hD : va_D A [(x_reader, .inr (4, [.ref x_tape, .int 0, .int 1, .ref x_draft, .int 0, .int 0, .int 0, .int 0, .int 0, .int 0, .int (-1)])), (x_tape, .inl (ty 0, 400, .inl (fun _ => 0))), (x_draft, .inr (7, [.ref x_draft_kind, .ref x_draft_times, .ref x_draft_sumFrom, .ref x_draft_testFrom, .ref x_draft_testTo, .ref x_draft_code, .int 0, .int 0]))] := hD
  refine lv_aload_n hx hb dX4_read_43 rfl (lv_at hl 0 rfl) ?_
  refine lv_iconst (v := 0) hx hb dX4_read_44 (by decide) ?_
  refine va_put (D := D) (ci := 4) (v := .int 0) (ty := .int) (C := RX4) (T := TX4) (N := 11) hx hb hts (by decide +kernel) tyX4 tyX4_ok nmX4 hown hK hP hD hS 0 rfl rfl 9 (by decide) (hts (.fieldLink RX4 42 "TurnedFloors$Reader" "open" "I") (by decide +kernel)) (fun _ h9 => h9) rfl (by decide +kernel) rfl rfl (Nat.le_of_ble_eq_true rfl) dX4_read_45 (fun H locs hP hD hS => ?_)
  have hP : va_P D vwCl [(x_reader, .inr (4, [.ref x_tape, .int 0, .int 1, .ref x_draft, .int 0, .int 0, .int 0, .int 0, .int 0, .int 0, .int (-1)])), (x_tape, .inl (ty 0, 400, .inl (fun _ => 0))), (x_draft, .inr (7, [.ref x_draft_kind, .ref x_draft_times, .ref x_draft_sumFrom, .ref x_draft_testFrom, .ref x_draft_testTo, .ref x_draft_code, .int 0, .int 0]))] H := hP
  have hD : va_D A [(x_reader, .inr (4, [.ref x_tape, .int 0, .int 1, .ref x_draft, .int 0, .int 0, .int 0, .int 0, .int 0, .int 0, .int (-1)])), (x_tape, .inl (ty 0, 400, .inl (fun _ => 0))), (x_draft, .inr (7, [.ref x_draft_kind, .ref x_draft_times, .ref x_draft_sumFrom, .ref x_draft_testFrom, .ref x_draft_testTo, .ref x_draft_code, .int 0, .int 0]))] := hD
  refine lv_aload_n hx hb dX4_read_48 rfl (lv_at hl 0 rfl) ?_
  refine lv_iconst (v := (-1)) hx hb dX4_read_49 (by decide) ?_
  refine va_put (D := D) (ci := 4) (v := .int (-1)) (ty := .int) (C := RX4) (T := TX4) (N := 11) hx hb hts (by decide +kernel) tyX4 tyX4_ok nmX4 hown hK hP hD hS 0 rfl rfl 10 (by decide) (hts (.fieldLink RX4 45 "TurnedFloors$Reader" "faultAt" "I") (by decide +kernel)) (fun _ h9 => h9) rfl (by decide +kernel) rfl rfl (Nat.le_of_ble_eq_true rfl) dX4_read_50 (fun H locs hP hD hS => ?_)
  have hP : va_P D vwCl [(x_reader, .inr (4, [.ref x_tape, .int 0, .int 1, .ref x_draft, .int 0, .int 0, .int 0, .int 0, .int 0, .int 0, .int (-1)])), (x_tape, .inl (ty 0, 400, .inl (fun _ => 0))), (x_draft, .inr (7, [.ref x_draft_kind, .ref x_draft_times, .ref x_draft_sumFrom, .ref x_draft_testFrom, .ref x_draft_testTo, .ref x_draft_code, .int 0, .int 0]))] H := hP
  have hD : va_D A [(x_reader, .inr (4, [.ref x_tape, .int 0, .int 1, .ref x_draft, .int 0, .int 0, .int 0, .int 0, .int 0, .int 0, .int (-1)])), (x_tape, .inl (ty 0, 400, .inl (fun _ => 0))), (x_draft, .inr (7, [.ref x_draft_kind, .ref x_draft_times, .ref x_draft_sumFrom, .ref x_draft_testFrom, .ref x_draft_testTo, .ref x_draft_code, .int 0, .int 0]))] := hD
  refine lv_aload_n hx hb dX4_read_53 rfl (lv_at hl 0 rfl) ?_
  refine kz_kv (wc := [(x_reader, .inr (4, [.ref x_tape, .int 0, .int 1, .ref x_draft, .int 0, .int 0, .int 0, .int 0, .int 0, .int 0, .int (-1)]))]) (wr := [(x_tape, .inl (ty 0, 400, .inl (fun _ => 0))), (x_draft, .inr (7, [.ref x_draft_kind, .ref x_draft_times, .ref x_draft_sumFrom, .ref x_draft_testFrom, .ref x_draft_testTo, .ref x_draft_code, .int 0, .int 0]))]) (va_runV (As := []) (rest := []) ⟨hx, hb, hml, hown, hts⟩ (kX4_step_30 l D ty eo _ x_reader x_tape x_draft) (cwV 0 hts gX4_read_X4_step rfl rfl rfl (by decide +kernel) ⟨Nat.le_of_ble_eq_true rfl, Nat.le_of_ble_eq_true rfl⟩) (kz_preV (ci := 4) (q0 := 0) hK hN hE hP hD hS hA rfl rfl [0] (by decide) rfl) rfl rfl hl.1 rfl (lv_room (Nat.le_of_ble_eq_true rfl)) dX4_read_54 ⟨Nat.le_of_ble_eq_true rfl, Nat.le_of_ble_eq_true rfl⟩) hP hD hS hA [0] [1, 2] rfl rfl (by decide) (by decide) (fun u H locs hw hP hD hS => ?_)
  obtain rfl := hw
  have hP : va_P D vwCl [(x_tape, .inl (ty 0, 400, .inl (fun _ => 0))), (x_draft, .inr (7, [.ref x_draft_kind, .ref x_draft_times, .ref x_draft_sumFrom, .ref x_draft_testFrom, .ref x_draft_testTo, .ref x_draft_code, .int 0, .int 0])), (x_reader, .inr (4, [.ref x_tape, .int 0, .int 1, .ref x_draft, .int 0, .int 0, .int 0, .int 0, .int 0, .int 0, .int (-1)]))] H := hP
  have hD : va_D A [(x_tape, .inl (ty 0, 400, .inl (fun _ => 0))), (x_draft, .inr (7, [.ref x_draft_kind, .ref x_draft_times, .ref x_draft_sumFrom, .ref x_draft_testFrom, .ref x_draft_testTo, .ref x_draft_code, .int 0, .int 0])), (x_reader, .inr (4, [.ref x_tape, .int 0, .int 1, .ref x_draft, .int 0, .int 0, .int 0, .int 0, .int 0, .int 0, .int (-1)]))] := hD
  refine lv_iconst (v := 0) hx hb dX4_read_57 (by decide) ?_
  refine lv_istore (lv' := [(5, .int 0), (0, .ref x_reader), (1, .ref x_tape), (2, .int 0), (3, .int 1), (4, .ref x_draft)]) hx hb dX4_read_58 hl (by decide) rfl (fun ls hl => ?_)
  refine lv_iload hx hb dX4_read_60 (lv_at hl 0 rfl) ?_
  refine lv_bipush (v := 12) hx hb dX4_read_62 (by decide) ?_
  refine lv_icmp_gt (tgt := 122) hx hb dX4_read_64 (by decide) (fun h => absurd h (by decide)) (fun _ => ?_)
  refine lv_aload_n hx hb dX4_read_67 rfl (lv_at hl 1 rfl) ?_
  refine va_get (D := D) (ci := 4) (v := .int (-1)) (C := RX4) (T := TX4) (N := 11) hx hb hts (by decide +kernel) hown hK hP 2 rfl rfl 10 (by decide) (hts (.fieldLink RX4 45 "TurnedFloors$Reader" "faultAt" "I") (by decide +kernel)) (fun _ h9 => h9) rfl dX4_read_68 ?_
  refine lv_iconst (v := (-1)) hx hb dX4_read_71 (by decide) ?_
  refine lv_icmp_ne (tgt := 122) hx hb dX4_read_72 (by decide) (fun h => absurd (by decide) h) (fun _ => ?_)
  refine lv_iload hx hb dX4_read_75 (lv_at hl 0 rfl) ?_
  refine lv_bipush (v := 12) hx hb dX4_read_77 (by decide) ?_
  refine lv_icmp_ne (tgt := 89) hx hb dX4_read_79 (by decide) (fun _ => ?_) (fun h => absurd h (by decide))
  refine lv_aload_n hx hb dX4_read_89 rfl (lv_at hl 1 rfl) ?_
  refine kz_kv (wc := [(x_reader, .inr (4, [.ref x_tape, .int 0, .int 1, .ref x_draft, .int 0, .int 0, .int 0, .int 0, .int 0, .int 0, .int (-1)]))]) (wr := [(x_tape, .inl (ty 0, 400, .inl (fun _ => 0))), (x_draft, .inr (7, [.ref x_draft_kind, .ref x_draft_times, .ref x_draft_sumFrom, .ref x_draft_testFrom, .ref x_draft_testTo, .ref x_draft_code, .int 0, .int 0]))]) (va_runV (As := []) (rest := []) ⟨hx, hb, hml, hown, hts⟩ (kX4_readClause_31 l D ty eo _ x_reader x_tape x_draft) (cwV 0 hts gX4_read_X4_readClause rfl rfl rfl (by decide +kernel) ⟨Nat.le_of_ble_eq_true rfl, Nat.le_of_ble_eq_true rfl⟩) (kz_preV (ci := 4) (q0 := 2) hK hN hE hP hD hS hA rfl rfl [2] (by decide) rfl) rfl rfl hl.1 rfl (lv_room (Nat.le_of_ble_eq_true rfl)) dX4_read_90 ⟨Nat.le_of_ble_eq_true rfl, Nat.le_of_ble_eq_true rfl⟩) hP hD hS hA [2] [0, 1] rfl rfl (by decide) (by decide) (fun u H locs hw hP hD hS => ?_)
  obtain rfl := hw
  have hP : va_P D vwCl [(x_tape, .inl (ty 0, 400, .inl (fun _ => 0))), (x_draft, .inr (7, [.ref x_draft_kind, .ref x_draft_times, .ref x_draft_sumFrom, .ref x_draft_testFrom, .ref x_draft_testTo, .ref x_draft_code, .int 0, .int 0])), (x_reader, .inr (4, [.ref x_tape, .int 0, .int 1, .ref x_draft, .int 0, .int 0, .int 0, .int 0, .int 0, .int 0, .int 0]))] H := hP
  have hD : va_D A [(x_tape, .inl (ty 0, 400, .inl (fun _ => 0))), (x_draft, .inr (7, [.ref x_draft_kind, .ref x_draft_times, .ref x_draft_sumFrom, .ref x_draft_testFrom, .ref x_draft_testTo, .ref x_draft_code, .int 0, .int 0])), (x_reader, .inr (4, [.ref x_tape, .int 0, .int 1, .ref x_draft, .int 0, .int 0, .int 0, .int 0, .int 0, .int 0, .int 0]))] := hD
  refine lv_aload_n hx hb dX4_read_93 rfl (lv_at hl 1 rfl) ?_
  refine va_get (D := D) (ci := 4) (v := .int 0) (C := RX4) (T := TX4) (N := 11) hx hb hts (by decide +kernel) hown hK hP 2 rfl rfl 10 (by decide) (hts (.fieldLink RX4 45 "TurnedFloors$Reader" "faultAt" "I") (by decide +kernel)) (fun _ h9 => h9) rfl dX4_read_94 ?_
  refine lv_iconst (v := (-1)) hx hb dX4_read_97 (by decide) ?_
  refine lv_icmp_ne (tgt := 110) hx hb dX4_read_98 (by decide) (fun _ => ?_) (fun h => absurd h (by decide))
  refine lv_aload_n hx hb dX4_read_110 rfl (lv_at hl 1 rfl) ?_
  refine lv_bipush (v := 59) hx hb dX4_read_111 (by decide) ?_
  refine kz_kv (wc := [(x_reader, .inr (4, [.ref x_tape, .int 0, .int 1, .ref x_draft, .int 0, .int 0, .int 0, .int 0, .int 0, .int 0, .int 0]))]) (wr := [(x_tape, .inl (ty 0, 400, .inl (fun _ => 0))), (x_draft, .inr (7, [.ref x_draft_kind, .ref x_draft_times, .ref x_draft_sumFrom, .ref x_draft_testFrom, .ref x_draft_testTo, .ref x_draft_code, .int 0, .int 0]))]) (va_runV (As := [.int 59]) (rest := []) ⟨hx, hb, hml, hown, hts⟩ (kX4_expectSign_35 l D ty eo _ x_reader x_tape x_draft) (cwV 1 hts gX4_read_X4_expectSign rfl rfl rfl (by decide +kernel) ⟨Nat.le_of_ble_eq_true rfl, Nat.le_of_ble_eq_true rfl⟩) (kz_preV (ci := 4) (q0 := 2) hK hN hE hP hD hS hA rfl rfl [2] (by decide) rfl) rfl rfl hl.1 rfl (lv_room (Nat.le_of_ble_eq_true rfl)) dX4_read_113 ⟨Nat.le_of_ble_eq_true rfl, Nat.le_of_ble_eq_true rfl⟩) hP hD hS hA [2] [0, 1] rfl rfl (by decide) (by decide) (fun u H locs hw hP hD hS => ?_)
  obtain rfl := hw
  have hP : va_P D vwCl [(x_tape, .inl (ty 0, 400, .inl (fun _ => 0))), (x_draft, .inr (7, [.ref x_draft_kind, .ref x_draft_times, .ref x_draft_sumFrom, .ref x_draft_testFrom, .ref x_draft_testTo, .ref x_draft_code, .int 0, .int 0])), (x_reader, .inr (4, [.ref x_tape, .int 0, .int 1, .ref x_draft, .int 0, .int 0, .int 0, .int 0, .int 0, .int 0, .int 0]))] H := hP
  have hD : va_D A [(x_tape, .inl (ty 0, 400, .inl (fun _ => 0))), (x_draft, .inr (7, [.ref x_draft_kind, .ref x_draft_times, .ref x_draft_sumFrom, .ref x_draft_testFrom, .ref x_draft_testTo, .ref x_draft_code, .int 0, .int 0])), (x_reader, .inr (4, [.ref x_tape, .int 0, .int 1, .ref x_draft, .int 0, .int 0, .int 0, .int 0, .int 0, .int 0, .int 0]))] := hD
  refine lv_iinc (v := 1) (lv' := [(5, .int 1), (0, .ref x_reader), (1, .ref x_tape), (2, .int 0), (3, .int 1), (4, .ref x_draft)]) hx hb dX4_read_116 hl (k := 0) rfl (by decide) (by decide) rfl (fun ls hl => ?_)
  refine lv_goto (tgt := 60) hx hb dX4_read_119 (by decide) ?_
  refine lv_iload hx hb dX4_read_60 (lv_at hl 0 rfl) ?_
  refine lv_bipush (v := 12) hx hb dX4_read_62 (by decide) ?_
  refine lv_icmp_gt (tgt := 122) hx hb dX4_read_64 (by decide) (fun h => absurd h (by decide)) (fun _ => ?_)
  refine lv_aload_n hx hb dX4_read_67 rfl (lv_at hl 1 rfl) ?_
  refine va_get (D := D) (ci := 4) (v := .int 0) (C := RX4) (T := TX4) (N := 11) hx hb hts (by decide +kernel) hown hK hP 2 rfl rfl 10 (by decide) (hts (.fieldLink RX4 45 "TurnedFloors$Reader" "faultAt" "I") (by decide +kernel)) (fun _ h9 => h9) rfl dX4_read_68 ?_
  refine lv_iconst (v := (-1)) hx hb dX4_read_71 (by decide) ?_
  refine lv_icmp_ne (tgt := 122) hx hb dX4_read_72 (by decide) (fun _ => ?_) (fun h => absurd h (by decide))
  refine lv_aload_n hx hb dX4_read_122 rfl (lv_at hl 1 rfl) ?_
  refine va_get (D := D) (ci := 4) (v := .int 0) (C := RX4) (T := TX4) (N := 11) hx hb hts (by decide +kernel) hown hK hP 2 rfl rfl 10 (by decide) (hts (.fieldLink RX4 45 "TurnedFloors$Reader" "faultAt" "I") (by decide +kernel)) (fun _ h9 => h9) rfl dX4_read_123 ?_
  exact kz_iret hx hb hr hlocks hP hK hD hS dX4_read_126 ⟨rfl, rfl⟩

set_option maxHeartbeats 4000000 in
set_option maxRecDepth 100000 in
theorem fX9_orders (l : Launch) (D : va_G) (ty : Nat → ClassId) (eo : Nat → Nat) (sz : Nat) (x x_state x_images x_kept x_history x_drawnTower x_machine x_judge x_runner x_reader x_draft x_paper x_tape x_chances x_refusals x_draft_kind x_draft_times x_draft_sumFrom x_draft_testFrom x_draft_testTo x_draft_code : Nat) : Met l yX9_orders wsX9_orders ({ frames := 5, cells := 0, slots := 0, locals := 110 }) (va_Pc [.ref x] (kz_pre D ty eo [(x, .inr (9, [.ref x_state, .ref x_images, .ref x_kept, .ref x_history, .ref x_drawnTower, .ref x_machine, .ref x_judge, .ref x_runner, .ref x_reader, .ref x_draft, .ref x_paper, .ref x_tape, .int 0, .int (-1), .int 0, .int (-1), .ref x_chances, .ref x_refusals, .int 0])), (x_reader, .inr (4, [.null, .int 0, .int 0, .null, .int 0, .int 0, .int 0, .int 0, .int 0, .int 0, .int (-1)])), (x_tape, .inl (ty 0, 400, .inl (fun _ => 0))), (x_draft, .inr (7, [.ref x_draft_kind, .ref x_draft_times, .ref x_draft_sumFrom, .ref x_draft_testFrom, .ref x_draft_testTo, .ref x_draft_code, .int 0, .int 0])), (x_refusals, .inl (ty 0, 7, .inl (fun _ => 0)))] sz)) (va_Qi (fun (r : Int32) (u : va_W) => (-6) = r ∧ [(x_tape, .inl (ty 0, 400, .inl (fun _ => 0))), (x_draft, .inr (7, [.ref x_draft_kind, .ref x_draft_times, .ref x_draft_sumFrom, .ref x_draft_testFrom, .ref x_draft_testTo, .ref x_draft_code, .int 0, .int 0])), (x_reader, .inr (4, [.ref x_tape, .int 0, .int 1, .ref x_draft, .int 0, .int 0, .int 0, .int 0, .int 0, .int 0, .int 0])), (x, .inr (9, [.ref x_state, .ref x_images, .ref x_kept, .ref x_history, .ref x_drawnTower, .ref x_machine, .ref x_judge, .ref x_runner, .ref x_reader, .ref x_draft, .ref x_paper, .ref x_tape, .int 0, .int 0, .int 0, .int (-1), .ref x_chances, .ref x_refusals, .int (-6)])), (x_refusals, .inl (ty 0, 7, .inl (upd (fun _ => 0) 6 1)))] = u) (kz_B D ty (va_A [(x, .inr (9, [.ref x_state, .ref x_images, .ref x_kept, .ref x_history, .ref x_drawnTower, .ref x_machine, .ref x_judge, .ref x_runner, .ref x_reader, .ref x_draft, .ref x_paper, .ref x_tape, .int 0, .int (-1), .int 0, .int (-1), .ref x_chances, .ref x_refusals, .int 0])), (x_reader, .inr (4, [.null, .int 0, .int 0, .null, .int 0, .int 0, .int 0, .int 0, .int 0, .int 0, .int (-1)])), (x_tape, .inl (ty 0, 400, .inl (fun _ => 0))), (x_draft, .inr (7, [.ref x_draft_kind, .ref x_draft_times, .ref x_draft_sumFrom, .ref x_draft_testFrom, .ref x_draft_testTo, .ref x_draft_code, .int 0, .int 0])), (x_refusals, .inl (ty 0, 7, .inl (fun _ => 0)))] sz)) (va_A [(x, .inr (9, [.ref x_state, .ref x_images, .ref x_kept, .ref x_history, .ref x_drawnTower, .ref x_machine, .ref x_judge, .ref x_runner, .ref x_reader, .ref x_draft, .ref x_paper, .ref x_tape, .int 0, .int (-1), .int 0, .int (-1), .ref x_chances, .ref x_refusals, .int 0])), (x_reader, .inr (4, [.null, .int 0, .int 0, .null, .int 0, .int 0, .int 0, .int 0, .int 0, .int 0, .int (-1)])), (x_tape, .inl (ty 0, 400, .inl (fun _ => 0))), (x_draft, .inr (7, [.ref x_draft_kind, .ref x_draft_times, .ref x_draft_sumFrom, .ref x_draft_testFrom, .ref x_draft_testTo, .ref x_draft_code, .int 0, .int 0])), (x_refusals, .inl (ty 0, 7, .inl (fun _ => 0)))] sz)) 0 0 (va_A [(x, .inr (9, [.ref x_state, .ref x_images, .ref x_kept, .ref x_history, .ref x_drawnTower, .ref x_machine, .ref x_judge, .ref x_runner, .ref x_reader, .ref x_draft, .ref x_paper, .ref x_tape, .int 0, .int (-1), .int 0, .int (-1), .ref x_chances, .ref x_refusals, .int 0])), (x_reader, .inr (4, [.null, .int 0, .int 0, .null, .int 0, .int 0, .int 0, .int 0, .int 0, .int 0, .int (-1)])), (x_tape, .inl (ty 0, 400, .inl (fun _ => 0))), (x_draft, .inr (7, [.ref x_draft_kind, .ref x_draft_times, .ref x_draft_sumFrom, .ref x_draft_testFrom, .ref x_draft_testTo, .ref x_draft_code, .int 0, .int 0])), (x_refusals, .inl (ty 0, 7, .inl (fun _ => 0)))] sz) := by
  refine Met.ofW (cc := cX9_orders) (maxL := 2) (ret := (some .int)) (by decide) rfl ?_
  intro p e s m args below meth c s₁ B hml hv
  obtain ⟨rfl, hsz, hP, hK, hD0, hN, hE⟩ := hv
  have hx := B.exec
  have hb := B.bytes
  have hr := B.returns
  have hts := atoms_spec (ws := wsX9_orders) B.pre
  have hown : s.vm.findClass RX9 = some m.cls := findClass_of_methodNamed B.named
  have hlocks := B.notSynchronized
  subst hsz
  have hD := hD0.self (sz := s.heap.size)
  generalize hAe : va_A [(x, .inr (9, [.ref x_state, .ref x_images, .ref x_kept, .ref x_history, .ref x_drawnTower, .ref x_machine, .ref x_judge, .ref x_runner, .ref x_reader, .ref x_draft, .ref x_paper, .ref x_tape, .int 0, .int (-1), .int 0, .int (-1), .ref x_chances, .ref x_refusals, .int 0])), (x_reader, .inr (4, [.null, .int 0, .int 0, .null, .int 0, .int 0, .int 0, .int 0, .int 0, .int 0, .int (-1)])), (x_tape, .inl (ty 0, 400, .inl (fun _ => 0))), (x_draft, .inr (7, [.ref x_draft_kind, .ref x_draft_times, .ref x_draft_sumFrom, .ref x_draft_testFrom, .ref x_draft_testTo, .ref x_draft_code, .int 0, .int 0])), (x_refusals, .inl (ty 0, 7, .inl (fun _ => 0)))] s.heap.size = A at hD hE ⊢
  have hA : ∀ q : Nat, s.heap.size ≤ q → A q := fun q h => by rw [← hAe]; exact Or.inr h
  have hS : va_S A s.heap s.heap [] := va_S.rf
  have hl := lv_entry ([.ref x]) (n := 2) (Nat.le_of_ble_eq_true rfl)
  rw [lg_entry_eq]
  generalize (lg_sl ([.ref x]) ++ List.replicate (2 - (lg_sl ([.ref x])).length) Slot.unset).toArray = ls at hl ⊢
  have hl : lv_has ls 2 [(0, .ref x)] := hl
  refine lv_aload_n hx hb dX9_orders_0 rfl (lv_at hl 0 rfl) ?_
  refine va_get (D := D) (ci := 9) (v := .int 0) (C := RX9) (T := TX9) (N := 19) hx hb hts (by decide +kernel) hown hK hP 0 rfl rfl 12 (by decide) (hts (.fieldLink RX9 88 "TurnedFloors" "tapeLength" "I") (by decide +kernel)) (fun _ h9 => h9) rfl dX9_orders_1 ?_
  refine lv_istore_n (lv' := [(1, .int 0), (0, .ref x)]) hx hb dX9_orders_4 rfl hl (by decide) rfl (fun ls hl => ?_)
  refine lv_aload_n hx hb dX9_orders_5 rfl (lv_at hl 1 rfl) ?_
  refine lv_iconst (v := 0) hx hb dX9_orders_6 (by decide) ?_
  refine va_put (D := D) (ci := 9) (v := .int 0) (ty := .int) (C := RX9) (T := TX9) (N := 19) hx hb hts (by decide +kernel) tyX9 tyX9_ok nmX9 hown hK hP hD hS 0 rfl rfl 12 (by decide) (hts (.fieldLink RX9 88 "TurnedFloors" "tapeLength" "I") (by decide +kernel)) (fun _ h9 => h9) rfl (by decide +kernel) rfl rfl (Nat.le_of_ble_eq_true rfl) dX9_orders_7 (fun H locs hP hD hS => ?_)
  have hP : va_P D vwCl [(x, .inr (9, [.ref x_state, .ref x_images, .ref x_kept, .ref x_history, .ref x_drawnTower, .ref x_machine, .ref x_judge, .ref x_runner, .ref x_reader, .ref x_draft, .ref x_paper, .ref x_tape, .int 0, .int (-1), .int 0, .int (-1), .ref x_chances, .ref x_refusals, .int 0])), (x_reader, .inr (4, [.null, .int 0, .int 0, .null, .int 0, .int 0, .int 0, .int 0, .int 0, .int 0, .int (-1)])), (x_tape, .inl (ty 0, 400, .inl (fun _ => 0))), (x_draft, .inr (7, [.ref x_draft_kind, .ref x_draft_times, .ref x_draft_sumFrom, .ref x_draft_testFrom, .ref x_draft_testTo, .ref x_draft_code, .int 0, .int 0])), (x_refusals, .inl (ty 0, 7, .inl (fun _ => 0)))] H := hP
  have hD : va_D A [(x, .inr (9, [.ref x_state, .ref x_images, .ref x_kept, .ref x_history, .ref x_drawnTower, .ref x_machine, .ref x_judge, .ref x_runner, .ref x_reader, .ref x_draft, .ref x_paper, .ref x_tape, .int 0, .int (-1), .int 0, .int (-1), .ref x_chances, .ref x_refusals, .int 0])), (x_reader, .inr (4, [.null, .int 0, .int 0, .null, .int 0, .int 0, .int 0, .int 0, .int 0, .int 0, .int (-1)])), (x_tape, .inl (ty 0, 400, .inl (fun _ => 0))), (x_draft, .inr (7, [.ref x_draft_kind, .ref x_draft_times, .ref x_draft_sumFrom, .ref x_draft_testFrom, .ref x_draft_testTo, .ref x_draft_code, .int 0, .int 0])), (x_refusals, .inl (ty 0, 7, .inl (fun _ => 0)))] := hD
  refine lv_aload_n hx hb dX9_orders_10 rfl (lv_at hl 1 rfl) ?_
  refine lv_iconst (v := (-1)) hx hb dX9_orders_11 (by decide) ?_
  refine va_put (D := D) (ci := 9) (v := .int (-1)) (ty := .int) (C := RX9) (T := TX9) (N := 19) hx hb hts (by decide +kernel) tyX9 tyX9_ok nmX9 hown hK hP hD hS 0 rfl rfl 15 (by decide) (hts (.fieldLink RX9 98 "TurnedFloors" "stoppedClause" "I") (by decide +kernel)) (fun _ h9 => h9) rfl (by decide +kernel) rfl rfl (Nat.le_of_ble_eq_true rfl) dX9_orders_12 (fun H locs hP hD hS => ?_)
  have hP : va_P D vwCl [(x, .inr (9, [.ref x_state, .ref x_images, .ref x_kept, .ref x_history, .ref x_drawnTower, .ref x_machine, .ref x_judge, .ref x_runner, .ref x_reader, .ref x_draft, .ref x_paper, .ref x_tape, .int 0, .int (-1), .int 0, .int (-1), .ref x_chances, .ref x_refusals, .int 0])), (x_reader, .inr (4, [.null, .int 0, .int 0, .null, .int 0, .int 0, .int 0, .int 0, .int 0, .int 0, .int (-1)])), (x_tape, .inl (ty 0, 400, .inl (fun _ => 0))), (x_draft, .inr (7, [.ref x_draft_kind, .ref x_draft_times, .ref x_draft_sumFrom, .ref x_draft_testFrom, .ref x_draft_testTo, .ref x_draft_code, .int 0, .int 0])), (x_refusals, .inl (ty 0, 7, .inl (fun _ => 0)))] H := hP
  have hD : va_D A [(x, .inr (9, [.ref x_state, .ref x_images, .ref x_kept, .ref x_history, .ref x_drawnTower, .ref x_machine, .ref x_judge, .ref x_runner, .ref x_reader, .ref x_draft, .ref x_paper, .ref x_tape, .int 0, .int (-1), .int 0, .int (-1), .ref x_chances, .ref x_refusals, .int 0])), (x_reader, .inr (4, [.null, .int 0, .int 0, .null, .int 0, .int 0, .int 0, .int 0, .int 0, .int 0, .int (-1)])), (x_tape, .inl (ty 0, 400, .inl (fun _ => 0))), (x_draft, .inr (7, [.ref x_draft_kind, .ref x_draft_times, .ref x_draft_sumFrom, .ref x_draft_testFrom, .ref x_draft_testTo, .ref x_draft_code, .int 0, .int 0])), (x_refusals, .inl (ty 0, 7, .inl (fun _ => 0)))] := hD
  refine lv_aload_n hx hb dX9_orders_15 rfl (lv_at hl 1 rfl) ?_
  refine lv_aload_n hx hb dX9_orders_16 rfl (lv_at hl 1 rfl) ?_
  refine va_get (D := D) (ci := 9) (v := .ref x_reader) (C := RX9) (T := TX9) (N := 19) hx hb hts (by decide +kernel) hown hK hP 0 rfl rfl 8 (by decide) (hts (.fieldLink RX9 64 "TurnedFloors" "reader" "LTurnedFloors$Reader;") (by decide +kernel)) (fun _ h9 => h9) rfl dX9_orders_17 ?_
  refine lv_aload_n hx hb dX9_orders_20 rfl (lv_at hl 1 rfl) ?_
  refine va_get (D := D) (ci := 9) (v := .ref x_tape) (C := RX9) (T := TX9) (N := 19) hx hb hts (by decide +kernel) hown hK hP 0 rfl rfl 11 (by decide) (hts (.fieldLink RX9 84 "TurnedFloors" "tape" "[I") (by decide +kernel)) (fun _ h9 => h9) rfl dX9_orders_21 ?_
  refine lv_iload_n hx hb dX9_orders_24 rfl (lv_at hl 0 rfl) ?_
  refine lv_iconst (v := 1) hx hb dX9_orders_25 (by decide) ?_
  refine lv_aload_n hx hb dX9_orders_26 rfl (lv_at hl 1 rfl) ?_
  refine va_get (D := D) (ci := 9) (v := .ref x_draft) (C := RX9) (T := TX9) (N := 19) hx hb hts (by decide +kernel) hown hK hP 0 rfl rfl 9 (by decide) (hts (.fieldLink RX9 73 "TurnedFloors" "draft" "LTurnedFloors$Text;") (by decide +kernel)) (fun _ h9 => h9) rfl dX9_orders_27 ?_
  refine kz_ki (wc := [(x_reader, .inr (4, [.null, .int 0, .int 0, .null, .int 0, .int 0, .int 0, .int 0, .int 0, .int 0, .int (-1)])), (x_tape, .inl (ty 0, 400, .inl (fun _ => 0))), (x_draft, .inr (7, [.ref x_draft_kind, .ref x_draft_times, .ref x_draft_sumFrom, .ref x_draft_testFrom, .ref x_draft_testTo, .ref x_draft_code, .int 0, .int 0]))]) (wr := [(x, .inr (9, [.ref x_state, .ref x_images, .ref x_kept, .ref x_history, .ref x_drawnTower, .ref x_machine, .ref x_judge, .ref x_runner, .ref x_reader, .ref x_draft, .ref x_paper, .ref x_tape, .int 0, .int (-1), .int 0, .int (-1), .ref x_chances, .ref x_refusals, .int 0])), (x_refusals, .inl (ty 0, 7, .inl (fun _ => 0)))]) (va_runV (As := [.ref x_tape, .int 0, .int 1, .ref x_draft]) (rest := [.ref x]) ⟨hx, hb, hml, hown, hts⟩ (kX4_read_29 l D ty eo _ x_reader x_tape x_draft x_draft_kind x_draft_times x_draft_sumFrom x_draft_testFrom x_draft_testTo x_draft_code) (cwV 4 hts gX9_orders_X4_read rfl rfl rfl (by decide +kernel) ⟨Nat.le_of_ble_eq_true rfl, Nat.le_of_ble_eq_true rfl⟩) (kz_preV (ci := 4) (q0 := 1) hK hN hE hP hD hS hA rfl rfl [1, 2, 3] (by decide) rfl) rfl rfl hl.1 rfl (lv_room (Nat.le_of_ble_eq_true rfl)) dX9_orders_30 ⟨Nat.le_of_ble_eq_true rfl, Nat.le_of_ble_eq_true rfl⟩) hP hD hS hA [1, 2, 3] [0, 4] rfl rfl (by decide) (by decide) (fun r u H locs hw hP hD hS => ?_)
  obtain ⟨rfl, rfl⟩ := hw
  have hP : va_P D vwCl [(x, .inr (9, [.ref x_state, .ref x_images, .ref x_kept, .ref x_history, .ref x_drawnTower, .ref x_machine, .ref x_judge, .ref x_runner, .ref x_reader, .ref x_draft, .ref x_paper, .ref x_tape, .int 0, .int (-1), .int 0, .int (-1), .ref x_chances, .ref x_refusals, .int 0])), (x_refusals, .inl (ty 0, 7, .inl (fun _ => 0))), (x_tape, .inl (ty 0, 400, .inl (fun _ => 0))), (x_draft, .inr (7, [.ref x_draft_kind, .ref x_draft_times, .ref x_draft_sumFrom, .ref x_draft_testFrom, .ref x_draft_testTo, .ref x_draft_code, .int 0, .int 0])), (x_reader, .inr (4, [.ref x_tape, .int 0, .int 1, .ref x_draft, .int 0, .int 0, .int 0, .int 0, .int 0, .int 0, .int 0]))] H := hP
  have hD : va_D A [(x, .inr (9, [.ref x_state, .ref x_images, .ref x_kept, .ref x_history, .ref x_drawnTower, .ref x_machine, .ref x_judge, .ref x_runner, .ref x_reader, .ref x_draft, .ref x_paper, .ref x_tape, .int 0, .int (-1), .int 0, .int (-1), .ref x_chances, .ref x_refusals, .int 0])), (x_refusals, .inl (ty 0, 7, .inl (fun _ => 0))), (x_tape, .inl (ty 0, 400, .inl (fun _ => 0))), (x_draft, .inr (7, [.ref x_draft_kind, .ref x_draft_times, .ref x_draft_sumFrom, .ref x_draft_testFrom, .ref x_draft_testTo, .ref x_draft_code, .int 0, .int 0])), (x_reader, .inr (4, [.ref x_tape, .int 0, .int 1, .ref x_draft, .int 0, .int 0, .int 0, .int 0, .int 0, .int 0, .int 0]))] := hD
  refine va_put (D := D) (ci := 9) (v := .int 0) (ty := .int) (C := RX9) (T := TX9) (N := 19) hx hb hts (by decide +kernel) tyX9 tyX9_ok nmX9 hown hK hP hD hS 0 rfl rfl 13 (by decide) (hts (.fieldLink RX9 92 "TurnedFloors" "faultPlace" "I") (by decide +kernel)) (fun _ h9 => h9) rfl (by decide +kernel) rfl rfl (Nat.le_of_ble_eq_true rfl) dX9_orders_33 (fun H locs hP hD hS => ?_)
  have hP : va_P D vwCl [(x, .inr (9, [.ref x_state, .ref x_images, .ref x_kept, .ref x_history, .ref x_drawnTower, .ref x_machine, .ref x_judge, .ref x_runner, .ref x_reader, .ref x_draft, .ref x_paper, .ref x_tape, .int 0, .int 0, .int 0, .int (-1), .ref x_chances, .ref x_refusals, .int 0])), (x_refusals, .inl (ty 0, 7, .inl (fun _ => 0))), (x_tape, .inl (ty 0, 400, .inl (fun _ => 0))), (x_draft, .inr (7, [.ref x_draft_kind, .ref x_draft_times, .ref x_draft_sumFrom, .ref x_draft_testFrom, .ref x_draft_testTo, .ref x_draft_code, .int 0, .int 0])), (x_reader, .inr (4, [.ref x_tape, .int 0, .int 1, .ref x_draft, .int 0, .int 0, .int 0, .int 0, .int 0, .int 0, .int 0]))] H := hP
  have hD : va_D A [(x, .inr (9, [.ref x_state, .ref x_images, .ref x_kept, .ref x_history, .ref x_drawnTower, .ref x_machine, .ref x_judge, .ref x_runner, .ref x_reader, .ref x_draft, .ref x_paper, .ref x_tape, .int 0, .int 0, .int 0, .int (-1), .ref x_chances, .ref x_refusals, .int 0])), (x_refusals, .inl (ty 0, 7, .inl (fun _ => 0))), (x_tape, .inl (ty 0, 400, .inl (fun _ => 0))), (x_draft, .inr (7, [.ref x_draft_kind, .ref x_draft_times, .ref x_draft_sumFrom, .ref x_draft_testFrom, .ref x_draft_testTo, .ref x_draft_code, .int 0, .int 0])), (x_reader, .inr (4, [.ref x_tape, .int 0, .int 1, .ref x_draft, .int 0, .int 0, .int 0, .int 0, .int 0, .int 0, .int 0]))] := hD
  refine lv_aload_n hx hb dX9_orders_36 rfl (lv_at hl 1 rfl) ?_
  refine va_get (D := D) (ci := 9) (v := .int 0) (C := RX9) (T := TX9) (N := 19) hx hb hts (by decide +kernel) hown hK hP 0 rfl rfl 13 (by decide) (hts (.fieldLink RX9 92 "TurnedFloors" "faultPlace" "I") (by decide +kernel)) (fun _ h9 => h9) rfl dX9_orders_37 ?_
  refine lv_iconst (v := (-1)) hx hb dX9_orders_40 (by decide) ?_
  refine lv_icmp_eq (tgt := 51) hx hb dX9_orders_41 (by decide) (fun h => absurd h (by decide)) (fun _ => ?_)
  refine lv_aload_n hx hb dX9_orders_44 rfl (lv_at hl 1 rfl) ?_
  refine lv_bipush (v := (-6)) hx hb dX9_orders_45 (by decide) ?_
  refine kz_ki (wc := [(x, .inr (9, [.ref x_state, .ref x_images, .ref x_kept, .ref x_history, .ref x_drawnTower, .ref x_machine, .ref x_judge, .ref x_runner, .ref x_reader, .ref x_draft, .ref x_paper, .ref x_tape, .int 0, .int 0, .int 0, .int (-1), .ref x_chances, .ref x_refusals, .int 0])), (x_refusals, .inl (ty 0, 7, .inl (fun _ => 0)))]) (wr := [(x_tape, .inl (ty 0, 400, .inl (fun _ => 0))), (x_draft, .inr (7, [.ref x_draft_kind, .ref x_draft_times, .ref x_draft_sumFrom, .ref x_draft_testFrom, .ref x_draft_testTo, .ref x_draft_code, .int 0, .int 0])), (x_reader, .inr (4, [.ref x_tape, .int 0, .int 1, .ref x_draft, .int 0, .int 0, .int 0, .int 0, .int 0, .int 0, .int 0]))]) (va_runV (As := [.int (-6)]) (rest := []) ⟨hx, hb, hml, hown, hts⟩ (kX9_refuse_28 l D ty eo _ x x_state x_images x_kept x_history x_drawnTower x_machine x_judge x_runner x_reader x_draft x_paper x_tape x_chances x_refusals) (cwV 1 hts gX9_orders_X9_refuse rfl rfl rfl (by decide +kernel) ⟨Nat.le_of_ble_eq_true rfl, Nat.le_of_ble_eq_true rfl⟩) (kz_preV (ci := 9) (q0 := 0) hK hN hE hP hD hS hA rfl rfl [0, 1] (by decide) rfl) rfl rfl hl.1 rfl (lv_room (Nat.le_of_ble_eq_true rfl)) dX9_orders_47 ⟨Nat.le_of_ble_eq_true rfl, Nat.le_of_ble_eq_true rfl⟩) hP hD hS hA [0, 1] [2, 3, 4] rfl rfl (by decide) (by decide) (fun r u H locs hw hP hD hS => ?_)
  obtain ⟨rfl, rfl⟩ := hw
  have hP : va_P D vwCl [(x_tape, .inl (ty 0, 400, .inl (fun _ => 0))), (x_draft, .inr (7, [.ref x_draft_kind, .ref x_draft_times, .ref x_draft_sumFrom, .ref x_draft_testFrom, .ref x_draft_testTo, .ref x_draft_code, .int 0, .int 0])), (x_reader, .inr (4, [.ref x_tape, .int 0, .int 1, .ref x_draft, .int 0, .int 0, .int 0, .int 0, .int 0, .int 0, .int 0])), (x, .inr (9, [.ref x_state, .ref x_images, .ref x_kept, .ref x_history, .ref x_drawnTower, .ref x_machine, .ref x_judge, .ref x_runner, .ref x_reader, .ref x_draft, .ref x_paper, .ref x_tape, .int 0, .int 0, .int 0, .int (-1), .ref x_chances, .ref x_refusals, .int (-6)])), (x_refusals, .inl (ty 0, 7, .inl (upd (fun _ => 0) 6 1)))] H := hP
  have hD : va_D A [(x_tape, .inl (ty 0, 400, .inl (fun _ => 0))), (x_draft, .inr (7, [.ref x_draft_kind, .ref x_draft_times, .ref x_draft_sumFrom, .ref x_draft_testFrom, .ref x_draft_testTo, .ref x_draft_code, .int 0, .int 0])), (x_reader, .inr (4, [.ref x_tape, .int 0, .int 1, .ref x_draft, .int 0, .int 0, .int 0, .int 0, .int 0, .int 0, .int 0])), (x, .inr (9, [.ref x_state, .ref x_images, .ref x_kept, .ref x_history, .ref x_drawnTower, .ref x_machine, .ref x_judge, .ref x_runner, .ref x_reader, .ref x_draft, .ref x_paper, .ref x_tape, .int 0, .int 0, .int 0, .int (-1), .ref x_chances, .ref x_refusals, .int (-6)])), (x_refusals, .inl (ty 0, 7, .inl (upd (fun _ => 0) 6 1)))] := hD
  exact kz_iret hx hb hr hlocks hP hK hD hS dX9_orders_50 ⟨rfl, rfl⟩

set_option maxHeartbeats 4000000 in
set_option maxRecDepth 100000 in
theorem fX9_fault (l : Launch) (D : va_G) (ty : Nat → ClassId) (eo : Nat → Nat) (sz : Nat) (x x_state x_images x_kept x_history x_drawnTower x_machine x_judge x_runner x_reader x_draft x_paper x_tape x_chances x_refusals : Nat) : Met l yX9_fault wsX9_fault ({ frames := 0, cells := 0, slots := 0, locals := 0 }) (va_Pc [.ref x] (kz_pre D ty eo [(x, .inr (9, [.ref x_state, .ref x_images, .ref x_kept, .ref x_history, .ref x_drawnTower, .ref x_machine, .ref x_judge, .ref x_runner, .ref x_reader, .ref x_draft, .ref x_paper, .ref x_tape, .int 0, .int (-1), .int 0, .int (-1), .ref x_chances, .ref x_refusals, .int 0]))] sz)) (va_Qi (fun (r : Int32) (u : va_W) => (-1) = r ∧ [(x, .inr (9, [.ref x_state, .ref x_images, .ref x_kept, .ref x_history, .ref x_drawnTower, .ref x_machine, .ref x_judge, .ref x_runner, .ref x_reader, .ref x_draft, .ref x_paper, .ref x_tape, .int 0, .int (-1), .int 0, .int (-1), .ref x_chances, .ref x_refusals, .int 0]))] = u) (kz_B D ty (va_A [(x, .inr (9, [.ref x_state, .ref x_images, .ref x_kept, .ref x_history, .ref x_drawnTower, .ref x_machine, .ref x_judge, .ref x_runner, .ref x_reader, .ref x_draft, .ref x_paper, .ref x_tape, .int 0, .int (-1), .int 0, .int (-1), .ref x_chances, .ref x_refusals, .int 0]))] sz)) (va_A [(x, .inr (9, [.ref x_state, .ref x_images, .ref x_kept, .ref x_history, .ref x_drawnTower, .ref x_machine, .ref x_judge, .ref x_runner, .ref x_reader, .ref x_draft, .ref x_paper, .ref x_tape, .int 0, .int (-1), .int 0, .int (-1), .ref x_chances, .ref x_refusals, .int 0]))] sz)) 0 0 (va_A [(x, .inr (9, [.ref x_state, .ref x_images, .ref x_kept, .ref x_history, .ref x_drawnTower, .ref x_machine, .ref x_judge, .ref x_runner, .ref x_reader, .ref x_draft, .ref x_paper, .ref x_tape, .int 0, .int (-1), .int 0, .int (-1), .ref x_chances, .ref x_refusals, .int 0]))] sz) := by
  refine Met.ofW (cc := cX9_fault) (maxL := 1) (ret := (some .int)) (by decide) rfl ?_
  intro p e s m args below meth c s₁ B hml hv
  obtain ⟨rfl, hsz, hP, hK, hD0, hN, hE⟩ := hv
  have hx := B.exec
  have hb := B.bytes
  have hr := B.returns
  have hts := atoms_spec (ws := wsX9_fault) B.pre
  have hown : s.vm.findClass RX9 = some m.cls := findClass_of_methodNamed B.named
  have hlocks := B.notSynchronized
  subst hsz
  have hD := hD0.self (sz := s.heap.size)
  generalize hAe : va_A [(x, .inr (9, [.ref x_state, .ref x_images, .ref x_kept, .ref x_history, .ref x_drawnTower, .ref x_machine, .ref x_judge, .ref x_runner, .ref x_reader, .ref x_draft, .ref x_paper, .ref x_tape, .int 0, .int (-1), .int 0, .int (-1), .ref x_chances, .ref x_refusals, .int 0]))] s.heap.size = A at hD hE ⊢
  have hA : ∀ q : Nat, s.heap.size ≤ q → A q := fun q h => by rw [← hAe]; exact Or.inr h
  have hS : va_S A s.heap s.heap [] := va_S.rf
  have hl := lv_entry ([.ref x]) (n := 1) (Nat.le_of_ble_eq_true rfl)
  rw [lg_entry_eq]
  generalize (lg_sl ([.ref x]) ++ List.replicate (1 - (lg_sl ([.ref x])).length) Slot.unset).toArray = ls at hl ⊢
  have hl : lv_has ls 1 [(0, .ref x)] := hl
  refine lv_aload_n hx hb dX9_fault_0 rfl (lv_at hl 0 rfl) ?_
  refine va_get (D := D) (ci := 9) (v := .int (-1)) (C := RX9) (T := TX9) (N := 19) hx hb hts (by decide +kernel) hown hK hP 0 rfl rfl 13 (by decide) (hts (.fieldLink RX9 92 "TurnedFloors" "faultPlace" "I") (by decide +kernel)) (fun _ h9 => h9) rfl dX9_fault_1 ?_
  exact kz_iret hx hb hr hlocks hP hK hD hS dX9_fault_4 ⟨rfl, rfl⟩

set_option maxHeartbeats 4000000 in
set_option maxRecDepth 100000 in
theorem fX9_stopped (l : Launch) (D : va_G) (ty : Nat → ClassId) (eo : Nat → Nat) (sz : Nat) (x x_state x_images x_kept x_history x_drawnTower x_machine x_judge x_runner x_reader x_draft x_paper x_tape x_chances x_refusals : Nat) : Met l yX9_stopped wsX9_stopped ({ frames := 0, cells := 0, slots := 0, locals := 0 }) (va_Pc [.ref x] (kz_pre D ty eo [(x, .inr (9, [.ref x_state, .ref x_images, .ref x_kept, .ref x_history, .ref x_drawnTower, .ref x_machine, .ref x_judge, .ref x_runner, .ref x_reader, .ref x_draft, .ref x_paper, .ref x_tape, .int 0, .int (-1), .int 0, .int (-1), .ref x_chances, .ref x_refusals, .int 0]))] sz)) (va_Qi (fun (r : Int32) (u : va_W) => (-1) = r ∧ [(x, .inr (9, [.ref x_state, .ref x_images, .ref x_kept, .ref x_history, .ref x_drawnTower, .ref x_machine, .ref x_judge, .ref x_runner, .ref x_reader, .ref x_draft, .ref x_paper, .ref x_tape, .int 0, .int (-1), .int 0, .int (-1), .ref x_chances, .ref x_refusals, .int 0]))] = u) (kz_B D ty (va_A [(x, .inr (9, [.ref x_state, .ref x_images, .ref x_kept, .ref x_history, .ref x_drawnTower, .ref x_machine, .ref x_judge, .ref x_runner, .ref x_reader, .ref x_draft, .ref x_paper, .ref x_tape, .int 0, .int (-1), .int 0, .int (-1), .ref x_chances, .ref x_refusals, .int 0]))] sz)) (va_A [(x, .inr (9, [.ref x_state, .ref x_images, .ref x_kept, .ref x_history, .ref x_drawnTower, .ref x_machine, .ref x_judge, .ref x_runner, .ref x_reader, .ref x_draft, .ref x_paper, .ref x_tape, .int 0, .int (-1), .int 0, .int (-1), .ref x_chances, .ref x_refusals, .int 0]))] sz)) 0 0 (va_A [(x, .inr (9, [.ref x_state, .ref x_images, .ref x_kept, .ref x_history, .ref x_drawnTower, .ref x_machine, .ref x_judge, .ref x_runner, .ref x_reader, .ref x_draft, .ref x_paper, .ref x_tape, .int 0, .int (-1), .int 0, .int (-1), .ref x_chances, .ref x_refusals, .int 0]))] sz) := by
  refine Met.ofW (cc := cX9_stopped) (maxL := 1) (ret := (some .int)) (by decide) rfl ?_
  intro p e s m args below meth c s₁ B hml hv
  obtain ⟨rfl, hsz, hP, hK, hD0, hN, hE⟩ := hv
  have hx := B.exec
  have hb := B.bytes
  have hr := B.returns
  have hts := atoms_spec (ws := wsX9_stopped) B.pre
  have hown : s.vm.findClass RX9 = some m.cls := findClass_of_methodNamed B.named
  have hlocks := B.notSynchronized
  subst hsz
  have hD := hD0.self (sz := s.heap.size)
  generalize hAe : va_A [(x, .inr (9, [.ref x_state, .ref x_images, .ref x_kept, .ref x_history, .ref x_drawnTower, .ref x_machine, .ref x_judge, .ref x_runner, .ref x_reader, .ref x_draft, .ref x_paper, .ref x_tape, .int 0, .int (-1), .int 0, .int (-1), .ref x_chances, .ref x_refusals, .int 0]))] s.heap.size = A at hD hE ⊢
  have hA : ∀ q : Nat, s.heap.size ≤ q → A q := fun q h => by rw [← hAe]; exact Or.inr h
  have hS : va_S A s.heap s.heap [] := va_S.rf
  have hl := lv_entry ([.ref x]) (n := 1) (Nat.le_of_ble_eq_true rfl)
  rw [lg_entry_eq]
  generalize (lg_sl ([.ref x]) ++ List.replicate (1 - (lg_sl ([.ref x])).length) Slot.unset).toArray = ls at hl ⊢
  have hl : lv_has ls 1 [(0, .ref x)] := hl
  refine lv_aload_n hx hb dX9_stopped_0 rfl (lv_at hl 0 rfl) ?_
  refine va_get (D := D) (ci := 9) (v := .int (-1)) (C := RX9) (T := TX9) (N := 19) hx hb hts (by decide +kernel) hown hK hP 0 rfl rfl 15 (by decide) (hts (.fieldLink RX9 98 "TurnedFloors" "stoppedClause" "I") (by decide +kernel)) (fun _ h9 => h9) rfl dX9_stopped_1 ?_
  exact kz_iret hx hb hr hlocks hP hK hD hS dX9_stopped_4 ⟨rfl, rfl⟩

set_option maxHeartbeats 4000000 in
set_option maxRecDepth 100000 in
theorem kcX6_isLaw (l : Launch) (D : va_G) (ty : Nat → ClassId) (eo : Nat → Nat) (sz : Nat) (h0 : Nat) (h0_v0 h0_v1 h0_v2 h0_v3 h0_v4 h0_v5 h0_v6 h0_v7 h0_v9 : Value) (p1 h0_lawCount : Int32) : Met l yX6_isLaw wsX6_isLaw ({ frames := 0, cells := 0, slots := 0, locals := 0 }) (va_Pc [.ref h0, .int p1] (kz_pre D ty eo [(h0, .inr (6, [h0_v0, h0_v1, h0_v2, h0_v3, h0_v4, h0_v5, h0_v6, h0_v7, .int h0_lawCount, h0_v9]))] sz)) (va_Qi (fun (r : Int32) (u : va_W) => (p1 < 0 ∧ 0 = r ∧ [(h0, .inr (6, [h0_v0, h0_v1, h0_v2, h0_v3, h0_v4, h0_v5, h0_v6, h0_v7, .int h0_lawCount, h0_v9]))] = u) ∨ (¬ p1 < 0 ∧ h0_lawCount ≤ p1 ∧ 0 = r ∧ [(h0, .inr (6, [h0_v0, h0_v1, h0_v2, h0_v3, h0_v4, h0_v5, h0_v6, h0_v7, .int h0_lawCount, h0_v9]))] = u) ∨ (¬ p1 < 0 ∧ ¬ h0_lawCount ≤ p1 ∧ 1 = r ∧ [(h0, .inr (6, [h0_v0, h0_v1, h0_v2, h0_v3, h0_v4, h0_v5, h0_v6, h0_v7, .int h0_lawCount, h0_v9]))] = u)) (kz_B D ty (va_A [(h0, .inr (6, [h0_v0, h0_v1, h0_v2, h0_v3, h0_v4, h0_v5, h0_v6, h0_v7, .int h0_lawCount, h0_v9]))] sz)) (va_A [(h0, .inr (6, [h0_v0, h0_v1, h0_v2, h0_v3, h0_v4, h0_v5, h0_v6, h0_v7, .int h0_lawCount, h0_v9]))] sz)) 0 0 (va_A [(h0, .inr (6, [h0_v0, h0_v1, h0_v2, h0_v3, h0_v4, h0_v5, h0_v6, h0_v7, .int h0_lawCount, h0_v9]))] sz) := by
  refine Met.ofW (cc := cX6_isLaw) (maxL := 2) (ret := (some .boolean)) (by decide) rfl ?_
  intro p e s m args below meth c s₁ B hml hv
  obtain ⟨rfl, hsz, hP, hK, hD0, hN, hE⟩ := hv
  have hx := B.exec
  have hb := B.bytes
  have hr := B.returns
  have hts := atoms_spec (ws := wsX6_isLaw) B.pre
  have hown : s.vm.findClass RX6 = some m.cls := findClass_of_methodNamed B.named
  have hlocks := B.notSynchronized
  subst hsz
  have hD := hD0.self (sz := s.heap.size)
  generalize hAe : va_A [(h0, .inr (6, [h0_v0, h0_v1, h0_v2, h0_v3, h0_v4, h0_v5, h0_v6, h0_v7, .int h0_lawCount, h0_v9]))] s.heap.size = A at hD hE ⊢
  have hA : ∀ q : Nat, s.heap.size ≤ q → A q := fun q h => by rw [← hAe]; exact Or.inr h
  have hS : va_S A s.heap s.heap [] := va_S.rf
  have hl := lv_entry ([.ref h0, .int p1]) (n := 2) (Nat.le_of_ble_eq_true rfl)
  rw [lg_entry_eq]
  generalize (lg_sl ([.ref h0, .int p1]) ++ List.replicate (2 - (lg_sl ([.ref h0, .int p1])).length) Slot.unset).toArray = ls at hl ⊢
  have hl : lv_has ls 2 [(0, .ref h0), (1, .int p1)] := hl
  refine lv_iload_n hx hb dX6_isLaw_0 rfl (lv_at hl 1 rfl) ?_
  refine lv_if_lt (tgt := 16) hx hb dX6_isLaw_1 (by decide) (fun c_1 => ?_) (fun c_1 => ?_)
  · refine lv_iconst (v := 0) hx hb dX6_isLaw_16 (by decide) ?_
    exact kz_zret hx hb hr hlocks rfl hP hK hD hS dX6_isLaw_17 (Or.inl ⟨c_1, rfl, rfl⟩)
  · refine lv_iload_n hx hb dX6_isLaw_4 rfl (lv_at hl 1 rfl) ?_
    refine lv_aload_n hx hb dX6_isLaw_5 rfl (lv_at hl 0 rfl) ?_
    refine va_get (D := D) (ci := 6) (v := .int h0_lawCount) (C := RX6) (T := TX6) (N := 10) hx hb hts (by decide +kernel) hown hK hP 0 rfl rfl 8 (by decide) (hts (.fieldLink RX6 44 "TurnedFloors$State" "lawCount" "I") (by decide +kernel)) (fun _ h9 => h9) rfl dX6_isLaw_6 ?_
    refine lv_icmp_ge (tgt := 16) hx hb dX6_isLaw_9 (by decide) (fun c_2 => ?_) (fun c_2 => ?_)
    · refine lv_iconst (v := 0) hx hb dX6_isLaw_16 (by decide) ?_
      exact kz_zret hx hb hr hlocks rfl hP hK hD hS dX6_isLaw_17 (Or.inr (Or.inl ⟨c_1, c_2, rfl, rfl⟩))
    · refine lv_iconst (v := 1) hx hb dX6_isLaw_12 (by decide) ?_
      refine lv_goto (tgt := 17) hx hb dX6_isLaw_13 (by decide) ?_
      exact kz_zret hx hb hr hlocks rfl hP hK hD hS dX6_isLaw_17 (Or.inr (Or.inr ⟨c_1, c_2, rfl, rfl⟩))

set_option maxHeartbeats 4000000 in
set_option maxRecDepth 100000 in
theorem kX9_refuse_37 (l : Launch) (D : va_G) (ty : Nat → ClassId) (eo : Nat → Nat) (sz : Nat) (x x_state x_images x_kept x_history x_drawnTower x_machine x_judge x_runner x_reader x_draft x_paper x_tape x_chances x_refusals : Nat) : Met l yX9_refuse wsX9_refuse ({ frames := 0, cells := 0, slots := 0, locals := 0 }) (va_Pc [.ref x, .int (-2)] (kz_pre D ty eo [(x, .inr (9, [.ref x_state, .ref x_images, .ref x_kept, .ref x_history, .ref x_drawnTower, .ref x_machine, .ref x_judge, .ref x_runner, .ref x_reader, .ref x_draft, .ref x_paper, .ref x_tape, .int 0, .int (-1), .int 0, .int (-1), .ref x_chances, .ref x_refusals, .int 0])), (x_refusals, .inl (ty 0, 7, .inl (fun _ => 0)))] sz)) (va_Qi (fun (r : Int32) (u : va_W) => (-2) = r ∧ [(x, .inr (9, [.ref x_state, .ref x_images, .ref x_kept, .ref x_history, .ref x_drawnTower, .ref x_machine, .ref x_judge, .ref x_runner, .ref x_reader, .ref x_draft, .ref x_paper, .ref x_tape, .int 0, .int (-1), .int 0, .int (-1), .ref x_chances, .ref x_refusals, .int (-2)])), (x_refusals, .inl (ty 0, 7, .inl (upd (fun _ => 0) 2 1)))] = u) (kz_B D ty (va_A [(x, .inr (9, [.ref x_state, .ref x_images, .ref x_kept, .ref x_history, .ref x_drawnTower, .ref x_machine, .ref x_judge, .ref x_runner, .ref x_reader, .ref x_draft, .ref x_paper, .ref x_tape, .int 0, .int (-1), .int 0, .int (-1), .ref x_chances, .ref x_refusals, .int 0])), (x_refusals, .inl (ty 0, 7, .inl (fun _ => 0)))] sz)) (va_A [(x, .inr (9, [.ref x_state, .ref x_images, .ref x_kept, .ref x_history, .ref x_drawnTower, .ref x_machine, .ref x_judge, .ref x_runner, .ref x_reader, .ref x_draft, .ref x_paper, .ref x_tape, .int 0, .int (-1), .int 0, .int (-1), .ref x_chances, .ref x_refusals, .int 0])), (x_refusals, .inl (ty 0, 7, .inl (fun _ => 0)))] sz)) 0 0 (va_A [(x, .inr (9, [.ref x_state, .ref x_images, .ref x_kept, .ref x_history, .ref x_drawnTower, .ref x_machine, .ref x_judge, .ref x_runner, .ref x_reader, .ref x_draft, .ref x_paper, .ref x_tape, .int 0, .int (-1), .int 0, .int (-1), .ref x_chances, .ref x_refusals, .int 0])), (x_refusals, .inl (ty 0, 7, .inl (fun _ => 0)))] sz) := by
  refine Met.ofW (cc := cX9_refuse) (maxL := 2) (ret := (some .int)) (by decide) rfl ?_
  intro p e s m args below meth c s₁ B hml hv
  obtain ⟨rfl, hsz, hP, hK, hD0, hN, hE⟩ := hv
  have hx := B.exec
  have hb := B.bytes
  have hr := B.returns
  have hts := atoms_spec (ws := wsX9_refuse) B.pre
  have hown : s.vm.findClass RX9 = some m.cls := findClass_of_methodNamed B.named
  have hlocks := B.notSynchronized
  subst hsz
  have hD := hD0.self (sz := s.heap.size)
  generalize hAe : va_A [(x, .inr (9, [.ref x_state, .ref x_images, .ref x_kept, .ref x_history, .ref x_drawnTower, .ref x_machine, .ref x_judge, .ref x_runner, .ref x_reader, .ref x_draft, .ref x_paper, .ref x_tape, .int 0, .int (-1), .int 0, .int (-1), .ref x_chances, .ref x_refusals, .int 0])), (x_refusals, .inl (ty 0, 7, .inl (fun _ => 0)))] s.heap.size = A at hD hE ⊢
  have hA : ∀ q : Nat, s.heap.size ≤ q → A q := fun q h => by rw [← hAe]; exact Or.inr h
  have hS : va_S A s.heap s.heap [] := va_S.rf
  have hl := lv_entry ([.ref x, .int (-2)]) (n := 2) (Nat.le_of_ble_eq_true rfl)
  rw [lg_entry_eq]
  generalize (lg_sl ([.ref x, .int (-2)]) ++ List.replicate (2 - (lg_sl ([.ref x, .int (-2)])).length) Slot.unset).toArray = ls at hl ⊢
  have hl : lv_has ls 2 [(0, .ref x), (1, .int (-2))] := hl
  refine lv_aload_n hx hb dX9_refuse_0 rfl (lv_at hl 0 rfl) ?_
  refine lv_iload_n hx hb dX9_refuse_1 rfl (lv_at hl 1 rfl) ?_
  refine va_put (D := D) (ci := 9) (v := .int (-2)) (ty := .int) (C := RX9) (T := TX9) (N := 19) hx hb hts (by decide +kernel) tyX9 tyX9_ok nmX9 hown hK hP hD hS 0 rfl rfl 18 (by decide) (hts (.fieldLink RX9 108 "TurnedFloors" "latestStatus" "I") (by decide +kernel)) (fun _ h9 => h9) rfl (by decide +kernel) rfl rfl (Nat.le_of_ble_eq_true rfl) dX9_refuse_2 (fun H locs hP hD hS => ?_)
  have hP : va_P D vwCl [(x, .inr (9, [.ref x_state, .ref x_images, .ref x_kept, .ref x_history, .ref x_drawnTower, .ref x_machine, .ref x_judge, .ref x_runner, .ref x_reader, .ref x_draft, .ref x_paper, .ref x_tape, .int 0, .int (-1), .int 0, .int (-1), .ref x_chances, .ref x_refusals, .int (-2)])), (x_refusals, .inl (ty 0, 7, .inl (fun _ => 0)))] H := hP
  have hD : va_D A [(x, .inr (9, [.ref x_state, .ref x_images, .ref x_kept, .ref x_history, .ref x_drawnTower, .ref x_machine, .ref x_judge, .ref x_runner, .ref x_reader, .ref x_draft, .ref x_paper, .ref x_tape, .int 0, .int (-1), .int 0, .int (-1), .ref x_chances, .ref x_refusals, .int (-2)])), (x_refusals, .inl (ty 0, 7, .inl (fun _ => 0)))] := hD
  refine lv_iload_n hx hb dX9_refuse_5 rfl (lv_at hl 1 rfl) ?_
  refine lv_if_ge (tgt := 26) hx hb dX9_refuse_6 (by decide) (fun h => absurd h (by decide)) (fun _ => ?_)
  refine lv_iload_n hx hb dX9_refuse_9 rfl (lv_at hl 1 rfl) ?_
  refine lv_bipush (v := (-6)) hx hb dX9_refuse_10 (by decide) ?_
  refine lv_icmp_lt (tgt := 26) hx hb dX9_refuse_12 (by decide) (fun h => absurd h (by decide)) (fun _ => ?_)
  refine lv_aload_n hx hb dX9_refuse_15 rfl (lv_at hl 0 rfl) ?_
  refine va_get (D := D) (ci := 9) (v := .ref x_refusals) (C := RX9) (T := TX9) (N := 19) hx hb hts (by decide +kernel) hown hK hP 0 rfl rfl 17 (by decide) (hts (.fieldLink RX9 105 "TurnedFloors" "refusals" "[I") (by decide +kernel)) (fun _ h9 => h9) rfl dX9_refuse_16 ?_
  refine lv_iload_n hx hb dX9_refuse_19 rfl (lv_at hl 1 rfl) ?_
  refine lv_ineg hx hb dX9_refuse_20 ?_
  refine lv_topi (fun z_1 ez_1 => ?_)
  obtain rfl : z_1 = 2 := ez_1.trans (by first | rfl | decide +kernel)
  refine lv_dup2_11 hx hb dX9_refuse_21 rfl rfl ?_
  refine va_iald hx hb hK hP 1 0 rfl rfl (by simp only [vp_in]; decide) dX9_refuse_22 ?_
  refine lv_topi (fun z_2 ez_2 => ?_)
  obtain rfl : z_2 = 0 := ez_2.trans (by first | rfl | decide +kernel)
  refine lv_iconst (v := 1) hx hb dX9_refuse_23 (by decide) ?_
  refine lv_iadd hx hb dX9_refuse_24 ?_
  refine lv_topi (fun z_3 ez_3 => ?_)
  obtain rfl : z_3 = 1 := ez_3.trans (by first | rfl | decide +kernel)
  refine va_iast hx hb hK hP hD hS 1 0 rfl rfl (by simp only [vp_in]; decide) dX9_refuse_25 (fun H locs hP hD hS => ?_)
  have hP : va_P D vwCl [(x, .inr (9, [.ref x_state, .ref x_images, .ref x_kept, .ref x_history, .ref x_drawnTower, .ref x_machine, .ref x_judge, .ref x_runner, .ref x_reader, .ref x_draft, .ref x_paper, .ref x_tape, .int 0, .int (-1), .int 0, .int (-1), .ref x_chances, .ref x_refusals, .int (-2)])), (x_refusals, .inl (ty 0, 7, .inl (upd (fun _ => 0) 2 1)))] H := hP
  have hD : va_D A [(x, .inr (9, [.ref x_state, .ref x_images, .ref x_kept, .ref x_history, .ref x_drawnTower, .ref x_machine, .ref x_judge, .ref x_runner, .ref x_reader, .ref x_draft, .ref x_paper, .ref x_tape, .int 0, .int (-1), .int 0, .int (-1), .ref x_chances, .ref x_refusals, .int (-2)])), (x_refusals, .inl (ty 0, 7, .inl (upd (fun _ => 0) 2 1)))] := hD
  refine lv_iload_n hx hb dX9_refuse_26 rfl (lv_at hl 1 rfl) ?_
  exact kz_iret hx hb hr hlocks hP hK hD hS dX9_refuse_27 ⟨rfl, rfl⟩

set_option maxHeartbeats 4000000 in
set_option maxRecDepth 100000 in
theorem fX9_force (l : Launch) (D : va_G) (ty : Nat → ClassId) (eo : Nat → Nat) (sz : Nat) (x : Nat) (p1 : Int32) (x_state x_images x_kept x_history x_drawnTower x_machine x_judge x_runner x_reader x_draft x_paper x_tape x_chances x_refusals x_state_tower x_state_seenPlace x_state_seenRank x_state_laws : Nat) : Met l yX9_force wsX9_force ({ frames := 1, cells := 0, slots := 0, locals := 21 }) (va_Pc [.ref x, .int p1] (kz_pre D ty eo [(x, .inr (9, [.ref x_state, .ref x_images, .ref x_kept, .ref x_history, .ref x_drawnTower, .ref x_machine, .ref x_judge, .ref x_runner, .ref x_reader, .ref x_draft, .ref x_paper, .ref x_tape, .int 0, .int (-1), .int 0, .int (-1), .ref x_chances, .ref x_refusals, .int 0])), (x_state, .inr (6, [.ref x_state_tower, .int 1, .int 0, .int 0, .ref x_state_seenPlace, .ref x_state_seenRank, .int 0, .ref x_state_laws, .int 0, .int (-1)])), (x_refusals, .inl (ty 0, 7, .inl (fun _ => 0)))] sz)) (va_Qi (fun (r : Int32) (u : va_W) => (p1 = (-1) ∧ (-1) = r ∧ [(x_state, .inr (6, [.ref x_state_tower, .int 1, .int 0, .int 0, .ref x_state_seenPlace, .ref x_state_seenRank, .int 0, .ref x_state_laws, .int 0, .int (-1)])), (x_refusals, .inl (ty 0, 7, .inl (fun _ => 0))), (x, .inr (9, [.ref x_state, .ref x_images, .ref x_kept, .ref x_history, .ref x_drawnTower, .ref x_machine, .ref x_judge, .ref x_runner, .ref x_reader, .ref x_draft, .ref x_paper, .ref x_tape, .int 0, .int (-1), .int 0, .int (-1), .ref x_chances, .ref x_refusals, .int 0]))] = u) ∨ (¬ p1 = (-1) ∧ p1 < 0 ∧ (-2) = r ∧ [(x_state, .inr (6, [.ref x_state_tower, .int 1, .int 0, .int 0, .ref x_state_seenPlace, .ref x_state_seenRank, .int 0, .ref x_state_laws, .int 0, .int (-1)])), (x, .inr (9, [.ref x_state, .ref x_images, .ref x_kept, .ref x_history, .ref x_drawnTower, .ref x_machine, .ref x_judge, .ref x_runner, .ref x_reader, .ref x_draft, .ref x_paper, .ref x_tape, .int 0, .int (-1), .int 0, .int (-1), .ref x_chances, .ref x_refusals, .int (-2)])), (x_refusals, .inl (ty 0, 7, .inl (upd (fun _ => 0) 2 1)))] = u) ∨ (¬ p1 = (-1) ∧ ¬ p1 < 0 ∧ 0 ≤ p1 ∧ (-2) = r ∧ [(x_state, .inr (6, [.ref x_state_tower, .int 1, .int 0, .int 0, .ref x_state_seenPlace, .ref x_state_seenRank, .int 0, .ref x_state_laws, .int 0, .int (-1)])), (x, .inr (9, [.ref x_state, .ref x_images, .ref x_kept, .ref x_history, .ref x_drawnTower, .ref x_machine, .ref x_judge, .ref x_runner, .ref x_reader, .ref x_draft, .ref x_paper, .ref x_tape, .int 0, .int (-1), .int 0, .int (-1), .ref x_chances, .ref x_refusals, .int (-2)])), (x_refusals, .inl (ty 0, 7, .inl (upd (fun _ => 0) 2 1)))] = u)) (kz_B D ty (va_A [(x, .inr (9, [.ref x_state, .ref x_images, .ref x_kept, .ref x_history, .ref x_drawnTower, .ref x_machine, .ref x_judge, .ref x_runner, .ref x_reader, .ref x_draft, .ref x_paper, .ref x_tape, .int 0, .int (-1), .int 0, .int (-1), .ref x_chances, .ref x_refusals, .int 0])), (x_state, .inr (6, [.ref x_state_tower, .int 1, .int 0, .int 0, .ref x_state_seenPlace, .ref x_state_seenRank, .int 0, .ref x_state_laws, .int 0, .int (-1)])), (x_refusals, .inl (ty 0, 7, .inl (fun _ => 0)))] sz)) (va_A [(x, .inr (9, [.ref x_state, .ref x_images, .ref x_kept, .ref x_history, .ref x_drawnTower, .ref x_machine, .ref x_judge, .ref x_runner, .ref x_reader, .ref x_draft, .ref x_paper, .ref x_tape, .int 0, .int (-1), .int 0, .int (-1), .ref x_chances, .ref x_refusals, .int 0])), (x_state, .inr (6, [.ref x_state_tower, .int 1, .int 0, .int 0, .ref x_state_seenPlace, .ref x_state_seenRank, .int 0, .ref x_state_laws, .int 0, .int (-1)])), (x_refusals, .inl (ty 0, 7, .inl (fun _ => 0)))] sz)) 0 0 (va_A [(x, .inr (9, [.ref x_state, .ref x_images, .ref x_kept, .ref x_history, .ref x_drawnTower, .ref x_machine, .ref x_judge, .ref x_runner, .ref x_reader, .ref x_draft, .ref x_paper, .ref x_tape, .int 0, .int (-1), .int 0, .int (-1), .ref x_chances, .ref x_refusals, .int 0])), (x_state, .inr (6, [.ref x_state_tower, .int 1, .int 0, .int 0, .ref x_state_seenPlace, .ref x_state_seenRank, .int 0, .ref x_state_laws, .int 0, .int (-1)])), (x_refusals, .inl (ty 0, 7, .inl (fun _ => 0)))] sz) := by
  refine Met.ofW (cc := cX9_force) (maxL := 3) (ret := (some .int)) (by decide) rfl ?_
  intro p e s m args below meth c s₁ B hml hv
  obtain ⟨rfl, hsz, hP, hK, hD0, hN, hE⟩ := hv
  have hx := B.exec
  have hb := B.bytes
  have hr := B.returns
  have hts := atoms_spec (ws := wsX9_force) B.pre
  have hown : s.vm.findClass RX9 = some m.cls := findClass_of_methodNamed B.named
  have hlocks := B.notSynchronized
  subst hsz
  have hD := hD0.self (sz := s.heap.size)
  generalize hAe : va_A [(x, .inr (9, [.ref x_state, .ref x_images, .ref x_kept, .ref x_history, .ref x_drawnTower, .ref x_machine, .ref x_judge, .ref x_runner, .ref x_reader, .ref x_draft, .ref x_paper, .ref x_tape, .int 0, .int (-1), .int 0, .int (-1), .ref x_chances, .ref x_refusals, .int 0])), (x_state, .inr (6, [.ref x_state_tower, .int 1, .int 0, .int 0, .ref x_state_seenPlace, .ref x_state_seenRank, .int 0, .ref x_state_laws, .int 0, .int (-1)])), (x_refusals, .inl (ty 0, 7, .inl (fun _ => 0)))] s.heap.size = A at hD hE ⊢
  have hA : ∀ q : Nat, s.heap.size ≤ q → A q := fun q h => by rw [← hAe]; exact Or.inr h
  have hS : va_S A s.heap s.heap [] := va_S.rf
  have hl := lv_entry ([.ref x, .int p1]) (n := 3) (Nat.le_of_ble_eq_true rfl)
  rw [lg_entry_eq]
  generalize (lg_sl ([.ref x, .int p1]) ++ List.replicate (3 - (lg_sl ([.ref x, .int p1])).length) Slot.unset).toArray = ls at hl ⊢
  have hl : lv_has ls 3 [(0, .ref x), (1, .int p1)] := hl
  refine lv_iload_n hx hb dX9_force_0 rfl (lv_at hl 1 rfl) ?_
  refine lv_iconst (v := (-1)) hx hb dX9_force_1 (by decide) ?_
  refine lv_icmp_eq (tgt := 23) hx hb dX9_force_2 (by decide) (fun c_1 => ?_) (fun c_1 => ?_)
  · refine lv_aload_n hx hb dX9_force_23 rfl (lv_at hl 0 rfl) ?_
    refine va_get (D := D) (ci := 9) (v := .ref x_state) (C := RX9) (T := TX9) (N := 19) hx hb hts (by decide +kernel) hown hK hP 0 rfl rfl 0 (by decide) (hts (.fieldLink RX9 10 "TurnedFloors" "state" "LTurnedFloors$State;") (by decide +kernel)) (fun _ h9 => h9) rfl dX9_force_24 ?_
    refine va_getN (D := D) (ci := 6) (v := .int (-1)) (C := RX6) (T := TX6) (N := 10) hx hb hts (by decide +kernel) hown hK hP 1 rfl rfl 9 (by decide) (hN.use (.fieldLinkNest "TurnedFloors" 208 "TurnedFloors$State" "inForce" "I" "TurnedFloors") (by decide +kernel)) (fun _ h9 => h9) rfl dX9_force_27 ?_
    refine lv_istore_n (lv' := [(2, .int (-1)), (0, .ref x), (1, .int p1)]) hx hb dX9_force_30 rfl hl (by decide) rfl (fun ls hl => ?_)
    refine lv_aload_n hx hb dX9_force_31 rfl (lv_at hl 1 rfl) ?_
    refine va_get (D := D) (ci := 9) (v := .ref x_state) (C := RX9) (T := TX9) (N := 19) hx hb hts (by decide +kernel) hown hK hP 0 rfl rfl 0 (by decide) (hts (.fieldLink RX9 10 "TurnedFloors" "state" "LTurnedFloors$State;") (by decide +kernel)) (fun _ h9 => h9) rfl dX9_force_32 ?_
    refine lv_iload_n hx hb dX9_force_35 rfl (lv_at hl 2 rfl) ?_
    refine lv_topi (fun z_2 ez_2 => ?_)
    obtain rfl : z_2 = (-1) := ez_2.trans (by first | exact c_1 | (simp only [Int32.lt_iff_toInt_lt, Int32.le_iff_toInt_le, ← Int32.toInt_inj, Int32.reduceToInt] at c_1 ⊢; omega))
    refine va_putN (D := D) (ci := 6) (v := .int (-1)) (ty := .int) (C := RX6) (T := TX6) (N := 10) hx hb hts (by decide +kernel) tyX6 tyX6_ok nmX6 hown hK hP hD hS 1 rfl rfl 9 (by decide) (hN.use (.fieldLinkNest "TurnedFloors" 208 "TurnedFloors$State" "inForce" "I" "TurnedFloors") (by decide +kernel)) (fun _ h9 => h9) rfl (by decide +kernel) rfl rfl (Nat.le_of_ble_eq_true rfl) dX9_force_36 (fun H locs hP hD hS => ?_)
    have hP : va_P D vwCl [(x, .inr (9, [.ref x_state, .ref x_images, .ref x_kept, .ref x_history, .ref x_drawnTower, .ref x_machine, .ref x_judge, .ref x_runner, .ref x_reader, .ref x_draft, .ref x_paper, .ref x_tape, .int 0, .int (-1), .int 0, .int (-1), .ref x_chances, .ref x_refusals, .int 0])), (x_state, .inr (6, [.ref x_state_tower, .int 1, .int 0, .int 0, .ref x_state_seenPlace, .ref x_state_seenRank, .int 0, .ref x_state_laws, .int 0, .int (-1)])), (x_refusals, .inl (ty 0, 7, .inl (fun _ => 0)))] H := hP
    have hD : va_D A [(x, .inr (9, [.ref x_state, .ref x_images, .ref x_kept, .ref x_history, .ref x_drawnTower, .ref x_machine, .ref x_judge, .ref x_runner, .ref x_reader, .ref x_draft, .ref x_paper, .ref x_tape, .int 0, .int (-1), .int 0, .int (-1), .ref x_chances, .ref x_refusals, .int 0])), (x_state, .inr (6, [.ref x_state_tower, .int 1, .int 0, .int 0, .ref x_state_seenPlace, .ref x_state_seenRank, .int 0, .ref x_state_laws, .int 0, .int (-1)])), (x_refusals, .inl (ty 0, 7, .inl (fun _ => 0)))] := hD
    refine lv_aload_n hx hb dX9_force_39 rfl (lv_at hl 1 rfl) ?_
    refine lv_iload_n hx hb dX9_force_40 rfl (lv_at hl 0 rfl) ?_
    refine kz_ki (wc := [(x, .inr (9, [.ref x_state, .ref x_images, .ref x_kept, .ref x_history, .ref x_drawnTower, .ref x_machine, .ref x_judge, .ref x_runner, .ref x_reader, .ref x_draft, .ref x_paper, .ref x_tape, .int 0, .int (-1), .int 0, .int (-1), .ref x_chances, .ref x_refusals, .int 0]))]) (wr := [(x_state, .inr (6, [.ref x_state_tower, .int 1, .int 0, .int 0, .ref x_state_seenPlace, .ref x_state_seenRank, .int 0, .ref x_state_laws, .int 0, .int (-1)])), (x_refusals, .inl (ty 0, 7, .inl (fun _ => 0)))]) (va_runV (As := [.int (-1)]) (rest := []) ⟨hx, hb, hml, hown, hts⟩ (kcX9_accept l D ty eo _ x (.ref x_state) (.ref x_images) (.ref x_kept) (.ref x_history) (.ref x_drawnTower) (.ref x_machine) (.ref x_judge) (.ref x_runner) (.ref x_reader) (.ref x_draft) (.ref x_paper) (.ref x_tape) (.int 0) (.int (-1)) (.int 0) (.int (-1)) (.ref x_chances) (.ref x_refusals) (.int 0) (-1)) (cwV 1 hts gX9_force_X9_accept rfl rfl rfl (by decide +kernel) ⟨Nat.le_of_ble_eq_true rfl, Nat.le_of_ble_eq_true rfl⟩) (kz_preV (ci := 9) (q0 := 0) hK hN hE hP hD hS hA rfl rfl [0] (by decide) rfl) rfl rfl hl.1 rfl (lv_room (Nat.le_of_ble_eq_true rfl)) dX9_force_41 ⟨Nat.le_of_ble_eq_true rfl, Nat.le_of_ble_eq_true rfl⟩) hP hD hS hA [0] [1, 2] rfl rfl (by decide) (by decide) (fun r u H locs hw hP hD hS => ?_)
    obtain ⟨rfl, rfl⟩ := hw
    have hP : va_P D vwCl [(x_state, .inr (6, [.ref x_state_tower, .int 1, .int 0, .int 0, .ref x_state_seenPlace, .ref x_state_seenRank, .int 0, .ref x_state_laws, .int 0, .int (-1)])), (x_refusals, .inl (ty 0, 7, .inl (fun _ => 0))), (x, .inr (9, [.ref x_state, .ref x_images, .ref x_kept, .ref x_history, .ref x_drawnTower, .ref x_machine, .ref x_judge, .ref x_runner, .ref x_reader, .ref x_draft, .ref x_paper, .ref x_tape, .int 0, .int (-1), .int 0, .int (-1), .ref x_chances, .ref x_refusals, .int 0]))] H := hP
    have hD : va_D A [(x_state, .inr (6, [.ref x_state_tower, .int 1, .int 0, .int 0, .ref x_state_seenPlace, .ref x_state_seenRank, .int 0, .ref x_state_laws, .int 0, .int (-1)])), (x_refusals, .inl (ty 0, 7, .inl (fun _ => 0))), (x, .inr (9, [.ref x_state, .ref x_images, .ref x_kept, .ref x_history, .ref x_drawnTower, .ref x_machine, .ref x_judge, .ref x_runner, .ref x_reader, .ref x_draft, .ref x_paper, .ref x_tape, .int 0, .int (-1), .int 0, .int (-1), .ref x_chances, .ref x_refusals, .int 0]))] := hD
    exact kz_iret hx hb hr hlocks hP hK hD hS dX9_force_44 (Or.inl ⟨c_1, rfl, rfl⟩)
  · refine lv_aload_n hx hb dX9_force_5 rfl (lv_at hl 0 rfl) ?_
    refine va_get (D := D) (ci := 9) (v := .ref x_state) (C := RX9) (T := TX9) (N := 19) hx hb hts (by decide +kernel) hown hK hP 0 rfl rfl 0 (by decide) (hts (.fieldLink RX9 10 "TurnedFloors" "state" "LTurnedFloors$State;") (by decide +kernel)) (fun _ h9 => h9) rfl dX9_force_6 ?_
    refine lv_iload_n hx hb dX9_force_9 rfl (lv_at hl 1 rfl) ?_
    refine kz_ki (wc := [(x_state, .inr (6, [.ref x_state_tower, .int 1, .int 0, .int 0, .ref x_state_seenPlace, .ref x_state_seenRank, .int 0, .ref x_state_laws, .int 0, .int (-1)]))]) (wr := [(x, .inr (9, [.ref x_state, .ref x_images, .ref x_kept, .ref x_history, .ref x_drawnTower, .ref x_machine, .ref x_judge, .ref x_runner, .ref x_reader, .ref x_draft, .ref x_paper, .ref x_tape, .int 0, .int (-1), .int 0, .int (-1), .ref x_chances, .ref x_refusals, .int 0])), (x_refusals, .inl (ty 0, 7, .inl (fun _ => 0)))]) (va_runV (As := [.int p1]) (rest := []) ⟨hx, hb, hml, hown, hts⟩ (kcX6_isLaw l D ty eo _ x_state (.ref x_state_tower) (.int 1) (.int 0) (.int 0) (.ref x_state_seenPlace) (.ref x_state_seenRank) (.int 0) (.ref x_state_laws) (.int (-1)) p1 0) (cwV 1 hts gX9_force_X6_isLaw rfl rfl rfl (by decide +kernel) ⟨Nat.le_of_ble_eq_true rfl, Nat.le_of_ble_eq_true rfl⟩) (kz_preV (ci := 6) (q0 := 1) hK hN hE hP hD hS hA rfl rfl [1] (by decide) rfl) rfl rfl hl.1 rfl (lv_room (Nat.le_of_ble_eq_true rfl)) dX9_force_10 ⟨Nat.le_of_ble_eq_true rfl, Nat.le_of_ble_eq_true rfl⟩) hP hD hS hA [1] [0, 2] rfl rfl (by decide) (by decide) (fun r u H locs hw hP hD hS => ?_)
    rcases hw with ⟨c_3, rfl, rfl⟩ | ⟨c_4, c_5, rfl, rfl⟩ | ⟨c_6, c_7, rfl, rfl⟩
    · have hP : va_P D vwCl [(x, .inr (9, [.ref x_state, .ref x_images, .ref x_kept, .ref x_history, .ref x_drawnTower, .ref x_machine, .ref x_judge, .ref x_runner, .ref x_reader, .ref x_draft, .ref x_paper, .ref x_tape, .int 0, .int (-1), .int 0, .int (-1), .ref x_chances, .ref x_refusals, .int 0])), (x_refusals, .inl (ty 0, 7, .inl (fun _ => 0))), (x_state, .inr (6, [.ref x_state_tower, .int 1, .int 0, .int 0, .ref x_state_seenPlace, .ref x_state_seenRank, .int 0, .ref x_state_laws, .int 0, .int (-1)]))] H := hP
      have hD : va_D A [(x, .inr (9, [.ref x_state, .ref x_images, .ref x_kept, .ref x_history, .ref x_drawnTower, .ref x_machine, .ref x_judge, .ref x_runner, .ref x_reader, .ref x_draft, .ref x_paper, .ref x_tape, .int 0, .int (-1), .int 0, .int (-1), .ref x_chances, .ref x_refusals, .int 0])), (x_refusals, .inl (ty 0, 7, .inl (fun _ => 0))), (x_state, .inr (6, [.ref x_state_tower, .int 1, .int 0, .int 0, .ref x_state_seenPlace, .ref x_state_seenRank, .int 0, .ref x_state_laws, .int 0, .int (-1)]))] := hD
      refine lv_if_ne (tgt := 23) hx hb dX9_force_13 (by decide) (fun h => absurd (by decide) h) (fun _ => ?_)
      refine lv_aload_n hx hb dX9_force_16 rfl (lv_at hl 0 rfl) ?_
      refine lv_bipush (v := (-2)) hx hb dX9_force_17 (by decide) ?_
      refine kz_ki (wc := [(x, .inr (9, [.ref x_state, .ref x_images, .ref x_kept, .ref x_history, .ref x_drawnTower, .ref x_machine, .ref x_judge, .ref x_runner, .ref x_reader, .ref x_draft, .ref x_paper, .ref x_tape, .int 0, .int (-1), .int 0, .int (-1), .ref x_chances, .ref x_refusals, .int 0])), (x_refusals, .inl (ty 0, 7, .inl (fun _ => 0)))]) (wr := [(x_state, .inr (6, [.ref x_state_tower, .int 1, .int 0, .int 0, .ref x_state_seenPlace, .ref x_state_seenRank, .int 0, .ref x_state_laws, .int 0, .int (-1)]))]) (va_runV (As := [.int (-2)]) (rest := []) ⟨hx, hb, hml, hown, hts⟩ (kX9_refuse_37 l D ty eo _ x x_state x_images x_kept x_history x_drawnTower x_machine x_judge x_runner x_reader x_draft x_paper x_tape x_chances x_refusals) (cwV 1 hts gX9_force_X9_refuse rfl rfl rfl (by decide +kernel) ⟨Nat.le_of_ble_eq_true rfl, Nat.le_of_ble_eq_true rfl⟩) (kz_preV (ci := 9) (q0 := 0) hK hN hE hP hD hS hA rfl rfl [0, 1] (by decide) rfl) rfl rfl hl.1 rfl (lv_room (Nat.le_of_ble_eq_true rfl)) dX9_force_19 ⟨Nat.le_of_ble_eq_true rfl, Nat.le_of_ble_eq_true rfl⟩) hP hD hS hA [0, 1] [2] rfl rfl (by decide) (by decide) (fun r u H locs hw hP hD hS => ?_)
      obtain ⟨rfl, rfl⟩ := hw
      have hP : va_P D vwCl [(x_state, .inr (6, [.ref x_state_tower, .int 1, .int 0, .int 0, .ref x_state_seenPlace, .ref x_state_seenRank, .int 0, .ref x_state_laws, .int 0, .int (-1)])), (x, .inr (9, [.ref x_state, .ref x_images, .ref x_kept, .ref x_history, .ref x_drawnTower, .ref x_machine, .ref x_judge, .ref x_runner, .ref x_reader, .ref x_draft, .ref x_paper, .ref x_tape, .int 0, .int (-1), .int 0, .int (-1), .ref x_chances, .ref x_refusals, .int (-2)])), (x_refusals, .inl (ty 0, 7, .inl (upd (fun _ => 0) 2 1)))] H := hP
      have hD : va_D A [(x_state, .inr (6, [.ref x_state_tower, .int 1, .int 0, .int 0, .ref x_state_seenPlace, .ref x_state_seenRank, .int 0, .ref x_state_laws, .int 0, .int (-1)])), (x, .inr (9, [.ref x_state, .ref x_images, .ref x_kept, .ref x_history, .ref x_drawnTower, .ref x_machine, .ref x_judge, .ref x_runner, .ref x_reader, .ref x_draft, .ref x_paper, .ref x_tape, .int 0, .int (-1), .int 0, .int (-1), .ref x_chances, .ref x_refusals, .int (-2)])), (x_refusals, .inl (ty 0, 7, .inl (upd (fun _ => 0) 2 1)))] := hD
      exact kz_iret hx hb hr hlocks hP hK hD hS dX9_force_22 (Or.inr (Or.inl ⟨c_1, c_3, rfl, rfl⟩))
    · have hP : va_P D vwCl [(x, .inr (9, [.ref x_state, .ref x_images, .ref x_kept, .ref x_history, .ref x_drawnTower, .ref x_machine, .ref x_judge, .ref x_runner, .ref x_reader, .ref x_draft, .ref x_paper, .ref x_tape, .int 0, .int (-1), .int 0, .int (-1), .ref x_chances, .ref x_refusals, .int 0])), (x_refusals, .inl (ty 0, 7, .inl (fun _ => 0))), (x_state, .inr (6, [.ref x_state_tower, .int 1, .int 0, .int 0, .ref x_state_seenPlace, .ref x_state_seenRank, .int 0, .ref x_state_laws, .int 0, .int (-1)]))] H := hP
      have hD : va_D A [(x, .inr (9, [.ref x_state, .ref x_images, .ref x_kept, .ref x_history, .ref x_drawnTower, .ref x_machine, .ref x_judge, .ref x_runner, .ref x_reader, .ref x_draft, .ref x_paper, .ref x_tape, .int 0, .int (-1), .int 0, .int (-1), .ref x_chances, .ref x_refusals, .int 0])), (x_refusals, .inl (ty 0, 7, .inl (fun _ => 0))), (x_state, .inr (6, [.ref x_state_tower, .int 1, .int 0, .int 0, .ref x_state_seenPlace, .ref x_state_seenRank, .int 0, .ref x_state_laws, .int 0, .int (-1)]))] := hD
      refine lv_if_ne (tgt := 23) hx hb dX9_force_13 (by decide) (fun h => absurd (by decide) h) (fun _ => ?_)
      refine lv_aload_n hx hb dX9_force_16 rfl (lv_at hl 0 rfl) ?_
      refine lv_bipush (v := (-2)) hx hb dX9_force_17 (by decide) ?_
      refine kz_ki (wc := [(x, .inr (9, [.ref x_state, .ref x_images, .ref x_kept, .ref x_history, .ref x_drawnTower, .ref x_machine, .ref x_judge, .ref x_runner, .ref x_reader, .ref x_draft, .ref x_paper, .ref x_tape, .int 0, .int (-1), .int 0, .int (-1), .ref x_chances, .ref x_refusals, .int 0])), (x_refusals, .inl (ty 0, 7, .inl (fun _ => 0)))]) (wr := [(x_state, .inr (6, [.ref x_state_tower, .int 1, .int 0, .int 0, .ref x_state_seenPlace, .ref x_state_seenRank, .int 0, .ref x_state_laws, .int 0, .int (-1)]))]) (va_runV (As := [.int (-2)]) (rest := []) ⟨hx, hb, hml, hown, hts⟩ (kX9_refuse_37 l D ty eo _ x x_state x_images x_kept x_history x_drawnTower x_machine x_judge x_runner x_reader x_draft x_paper x_tape x_chances x_refusals) (cwV 1 hts gX9_force_X9_refuse rfl rfl rfl (by decide +kernel) ⟨Nat.le_of_ble_eq_true rfl, Nat.le_of_ble_eq_true rfl⟩) (kz_preV (ci := 9) (q0 := 0) hK hN hE hP hD hS hA rfl rfl [0, 1] (by decide) rfl) rfl rfl hl.1 rfl (lv_room (Nat.le_of_ble_eq_true rfl)) dX9_force_19 ⟨Nat.le_of_ble_eq_true rfl, Nat.le_of_ble_eq_true rfl⟩) hP hD hS hA [0, 1] [2] rfl rfl (by decide) (by decide) (fun r u H locs hw hP hD hS => ?_)
      obtain ⟨rfl, rfl⟩ := hw
      have hP : va_P D vwCl [(x_state, .inr (6, [.ref x_state_tower, .int 1, .int 0, .int 0, .ref x_state_seenPlace, .ref x_state_seenRank, .int 0, .ref x_state_laws, .int 0, .int (-1)])), (x, .inr (9, [.ref x_state, .ref x_images, .ref x_kept, .ref x_history, .ref x_drawnTower, .ref x_machine, .ref x_judge, .ref x_runner, .ref x_reader, .ref x_draft, .ref x_paper, .ref x_tape, .int 0, .int (-1), .int 0, .int (-1), .ref x_chances, .ref x_refusals, .int (-2)])), (x_refusals, .inl (ty 0, 7, .inl (upd (fun _ => 0) 2 1)))] H := hP
      have hD : va_D A [(x_state, .inr (6, [.ref x_state_tower, .int 1, .int 0, .int 0, .ref x_state_seenPlace, .ref x_state_seenRank, .int 0, .ref x_state_laws, .int 0, .int (-1)])), (x, .inr (9, [.ref x_state, .ref x_images, .ref x_kept, .ref x_history, .ref x_drawnTower, .ref x_machine, .ref x_judge, .ref x_runner, .ref x_reader, .ref x_draft, .ref x_paper, .ref x_tape, .int 0, .int (-1), .int 0, .int (-1), .ref x_chances, .ref x_refusals, .int (-2)])), (x_refusals, .inl (ty 0, 7, .inl (upd (fun _ => 0) 2 1)))] := hD
      exact kz_iret hx hb hr hlocks hP hK hD hS dX9_force_22 (Or.inr (Or.inr ⟨c_1, c_4, c_5, rfl, rfl⟩))
    · exact kz_false (by simp only [Int32.lt_iff_toInt_lt, Int32.le_iff_toInt_le, ← Int32.toInt_inj, Int32.reduceToInt] at c_1 c_6 c_7; omega)

set_option maxHeartbeats 4000000 in
set_option maxRecDepth 100000 in
theorem kX8_pack_40 (l : Launch) (D : va_G) (ty : Nat → ClassId) (eo : Nat → Nat) (sz : Nat) (x_state_tower x_state_tower_rank x_state_tower_head : Nat) : Met l yX8_pack wsX8_pack ({ frames := 0, cells := 0, slots := 0, locals := 0 }) (va_Pc [.ref x_state_tower] (kz_pre D ty eo [(x_state_tower, .inr (8, [.ref x_state_tower_rank, .ref x_state_tower_head, .int 0, .int 0, .int 0])), (x_state_tower_rank, .inl (ty 0, 6, .inl (fun _ => 0))), (x_state_tower_head, .inl (ty 0, 6, .inl (fun _ => 0)))] sz)) (va_Ql (fun (r : Int64) (u : va_W) => 0 = r ∧ [(x_state_tower, .inr (8, [.ref x_state_tower_rank, .ref x_state_tower_head, .int 0, .int 0, .int 0])), (x_state_tower_rank, .inl (ty 0, 6, .inl (fun _ => 0))), (x_state_tower_head, .inl (ty 0, 6, .inl (fun _ => 0)))] = u) (kz_B D ty (va_A [(x_state_tower, .inr (8, [.ref x_state_tower_rank, .ref x_state_tower_head, .int 0, .int 0, .int 0])), (x_state_tower_rank, .inl (ty 0, 6, .inl (fun _ => 0))), (x_state_tower_head, .inl (ty 0, 6, .inl (fun _ => 0)))] sz)) (va_A [(x_state_tower, .inr (8, [.ref x_state_tower_rank, .ref x_state_tower_head, .int 0, .int 0, .int 0])), (x_state_tower_rank, .inl (ty 0, 6, .inl (fun _ => 0))), (x_state_tower_head, .inl (ty 0, 6, .inl (fun _ => 0)))] sz)) 0 0 (va_A [(x_state_tower, .inr (8, [.ref x_state_tower_rank, .ref x_state_tower_head, .int 0, .int 0, .int 0])), (x_state_tower_rank, .inl (ty 0, 6, .inl (fun _ => 0))), (x_state_tower_head, .inl (ty 0, 6, .inl (fun _ => 0)))] sz) := by
  refine Met.ofW (cc := cX8_pack) (maxL := 4) (ret := (some .long)) (by decide) rfl ?_
  intro p e s m args below meth c s₁ B hml hv
  obtain ⟨rfl, hsz, hP, hK, hD0, hN, hE⟩ := hv
  have hx := B.exec
  have hb := B.bytes
  have hr := B.returns
  have hts := atoms_spec (ws := wsX8_pack) B.pre
  have hown : s.vm.findClass RX8 = some m.cls := findClass_of_methodNamed B.named
  have hlocks := B.notSynchronized
  subst hsz
  have hD := hD0.self (sz := s.heap.size)
  generalize hAe : va_A [(x_state_tower, .inr (8, [.ref x_state_tower_rank, .ref x_state_tower_head, .int 0, .int 0, .int 0])), (x_state_tower_rank, .inl (ty 0, 6, .inl (fun _ => 0))), (x_state_tower_head, .inl (ty 0, 6, .inl (fun _ => 0)))] s.heap.size = A at hD hE ⊢
  have hA : ∀ q : Nat, s.heap.size ≤ q → A q := fun q h => by rw [← hAe]; exact Or.inr h
  have hS : va_S A s.heap s.heap [] := va_S.rf
  have hl := lv_entry ([.ref x_state_tower]) (n := 4) (Nat.le_of_ble_eq_true rfl)
  rw [lg_entry_eq]
  generalize (lg_sl ([.ref x_state_tower]) ++ List.replicate (4 - (lg_sl ([.ref x_state_tower])).length) Slot.unset).toArray = ls at hl ⊢
  have hl : lv_has ls 4 [(0, .ref x_state_tower)] := hl
  refine lv_aload_n hx hb dX8_pack_0 rfl (lv_at hl 0 rfl) ?_
  refine va_get (D := D) (ci := 8) (v := .int 0) (C := RX8) (T := TX8) (N := 5) hx hb hts (by decide +kernel) hown hK hP 0 rfl rfl 2 (by decide) (hts (.fieldLink RX8 18 "TurnedFloors$Tower" "floors" "I") (by decide +kernel)) (fun _ h9 => h9) rfl dX8_pack_1 ?_
  refine lv_i2l (v := 0) hx hb dX8_pack_4 (by decide +kernel) ?_
  refine lv_lstore_n (lv' := [(1, .long 0), (0, .ref x_state_tower)]) hx hb dX8_pack_5 rfl hl (by decide) rfl (fun ls hl => ?_)
  refine lv_iconst (v := 0) hx hb dX8_pack_6 (by decide) ?_
  refine lv_istore_n (lv' := [(3, .int 0), (1, .long 0), (0, .ref x_state_tower)]) hx hb dX8_pack_7 rfl hl (by decide) rfl (fun ls hl => ?_)
  refine lv_iload_n hx hb dX8_pack_8 rfl (lv_at hl 0 rfl) ?_
  refine lv_bipush (v := 6) hx hb dX8_pack_9 (by decide) ?_
  refine lv_icmp_ge (tgt := 42) hx hb dX8_pack_11 (by decide) (fun h => absurd h (by decide)) (fun _ => ?_)
  refine lv_lload_n hx hb dX8_pack_14 rfl (lv_at hl 1 rfl) ?_
  refine lv_iconst (v := 4) hx hb dX8_pack_15 (by decide) ?_
  refine lv_lshl (v := 0) hx hb dX8_pack_16 (by decide +kernel) ?_
  refine lv_aload_n hx hb dX8_pack_17 rfl (lv_at hl 2 rfl) ?_
  refine va_get (D := D) (ci := 8) (v := .ref x_state_tower_rank) (C := RX8) (T := TX8) (N := 5) hx hb hts (by decide +kernel) hown hK hP 0 rfl rfl 0 (by decide) (hts (.fieldLink RX8 9 "TurnedFloors$Tower" "rank" "[I") (by decide +kernel)) (fun _ h9 => h9) rfl dX8_pack_18 ?_
  refine lv_iload_n hx hb dX8_pack_21 rfl (lv_at hl 0 rfl) ?_
  refine va_iald hx hb hK hP 1 0 rfl rfl (by simp only [vp_in]; decide) dX8_pack_22 ?_
  refine lv_topi (fun z_1 ez_1 => ?_)
  obtain rfl : z_1 = 0 := ez_1.trans (by first | rfl | decide +kernel)
  refine lv_iconst (v := 1) hx hb dX8_pack_23 (by decide) ?_
  refine lv_ishl hx hb dX8_pack_24 ?_
  refine lv_topi (fun z_2 ez_2 => ?_)
  obtain rfl : z_2 = 0 := ez_2.trans (by first | rfl | decide +kernel)
  refine lv_i2l (v := 0) hx hb dX8_pack_25 (by decide +kernel) ?_
  refine lv_lor hx hb dX8_pack_26 ?_
  refine lv_topl (fun z_3 ez_3 => ?_)
  obtain rfl : z_3 = 0 := ez_3.trans (by first | rfl | decide +kernel)
  refine lv_aload_n hx hb dX8_pack_27 rfl (lv_at hl 2 rfl) ?_
  refine va_get (D := D) (ci := 8) (v := .ref x_state_tower_head) (C := RX8) (T := TX8) (N := 5) hx hb hts (by decide +kernel) hown hK hP 0 rfl rfl 1 (by decide) (hts (.fieldLink RX8 15 "TurnedFloors$Tower" "head" "[I") (by decide +kernel)) (fun _ h9 => h9) rfl dX8_pack_28 ?_
  refine lv_iload_n hx hb dX8_pack_31 rfl (lv_at hl 0 rfl) ?_
  refine va_iald hx hb hK hP 2 0 rfl rfl (by simp only [vp_in]; decide) dX8_pack_32 ?_
  refine lv_topi (fun z_4 ez_4 => ?_)
  obtain rfl : z_4 = 0 := ez_4.trans (by first | rfl | decide +kernel)
  refine lv_i2l (v := 0) hx hb dX8_pack_33 (by decide +kernel) ?_
  refine lv_lor hx hb dX8_pack_34 ?_
  refine lv_topl (fun z_5 ez_5 => ?_)
  obtain rfl : z_5 = 0 := ez_5.trans (by first | rfl | decide +kernel)
  refine lv_lstore_n (lv' := [(1, .long 0), (3, .int 0), (0, .ref x_state_tower)]) hx hb dX8_pack_35 rfl hl (by decide) rfl (fun ls hl => ?_)
  refine lv_iinc (v := 1) (lv' := [(3, .int 1), (1, .long 0), (0, .ref x_state_tower)]) hx hb dX8_pack_36 hl (k := 1) rfl (by decide) (by decide) rfl (fun ls hl => ?_)
  refine lv_goto (tgt := 8) hx hb dX8_pack_39 (by decide) ?_
  refine lv_iload_n hx hb dX8_pack_8 rfl (lv_at hl 0 rfl) ?_
  refine lv_bipush (v := 6) hx hb dX8_pack_9 (by decide) ?_
  refine lv_icmp_ge (tgt := 42) hx hb dX8_pack_11 (by decide) (fun h => absurd h (by decide)) (fun _ => ?_)
  refine lv_lload_n hx hb dX8_pack_14 rfl (lv_at hl 1 rfl) ?_
  refine lv_iconst (v := 4) hx hb dX8_pack_15 (by decide) ?_
  refine lv_lshl (v := 0) hx hb dX8_pack_16 (by decide +kernel) ?_
  refine lv_aload_n hx hb dX8_pack_17 rfl (lv_at hl 2 rfl) ?_
  refine va_get (D := D) (ci := 8) (v := .ref x_state_tower_rank) (C := RX8) (T := TX8) (N := 5) hx hb hts (by decide +kernel) hown hK hP 0 rfl rfl 0 (by decide) (hts (.fieldLink RX8 9 "TurnedFloors$Tower" "rank" "[I") (by decide +kernel)) (fun _ h9 => h9) rfl dX8_pack_18 ?_
  refine lv_iload_n hx hb dX8_pack_21 rfl (lv_at hl 0 rfl) ?_
  refine va_iald hx hb hK hP 1 0 rfl rfl (by simp only [vp_in]; decide) dX8_pack_22 ?_
  refine lv_topi (fun z_6 ez_6 => ?_)
  obtain rfl : z_6 = 0 := ez_6.trans (by first | rfl | decide +kernel)
  refine lv_iconst (v := 1) hx hb dX8_pack_23 (by decide) ?_
  refine lv_ishl hx hb dX8_pack_24 ?_
  refine lv_topi (fun z_7 ez_7 => ?_)
  obtain rfl : z_7 = 0 := ez_7.trans (by first | rfl | decide +kernel)
  refine lv_i2l (v := 0) hx hb dX8_pack_25 (by decide +kernel) ?_
  refine lv_lor hx hb dX8_pack_26 ?_
  refine lv_topl (fun z_8 ez_8 => ?_)
  obtain rfl : z_8 = 0 := ez_8.trans (by first | rfl | decide +kernel)
  refine lv_aload_n hx hb dX8_pack_27 rfl (lv_at hl 2 rfl) ?_
  refine va_get (D := D) (ci := 8) (v := .ref x_state_tower_head) (C := RX8) (T := TX8) (N := 5) hx hb hts (by decide +kernel) hown hK hP 0 rfl rfl 1 (by decide) (hts (.fieldLink RX8 15 "TurnedFloors$Tower" "head" "[I") (by decide +kernel)) (fun _ h9 => h9) rfl dX8_pack_28 ?_
  refine lv_iload_n hx hb dX8_pack_31 rfl (lv_at hl 0 rfl) ?_
  refine va_iald hx hb hK hP 2 0 rfl rfl (by simp only [vp_in]; decide) dX8_pack_32 ?_
  refine lv_topi (fun z_9 ez_9 => ?_)
  obtain rfl : z_9 = 0 := ez_9.trans (by first | rfl | decide +kernel)
  refine lv_i2l (v := 0) hx hb dX8_pack_33 (by decide +kernel) ?_
  refine lv_lor hx hb dX8_pack_34 ?_
  refine lv_topl (fun z_10 ez_10 => ?_)
  obtain rfl : z_10 = 0 := ez_10.trans (by first | rfl | decide +kernel)
  refine lv_lstore_n (lv' := [(1, .long 0), (3, .int 1), (0, .ref x_state_tower)]) hx hb dX8_pack_35 rfl hl (by decide) rfl (fun ls hl => ?_)
  refine lv_iinc (v := 2) (lv' := [(3, .int 2), (1, .long 0), (0, .ref x_state_tower)]) hx hb dX8_pack_36 hl (k := 1) rfl (by decide) (by decide) rfl (fun ls hl => ?_)
  refine lv_goto (tgt := 8) hx hb dX8_pack_39 (by decide) ?_
  refine lv_iload_n hx hb dX8_pack_8 rfl (lv_at hl 0 rfl) ?_
  refine lv_bipush (v := 6) hx hb dX8_pack_9 (by decide) ?_
  refine lv_icmp_ge (tgt := 42) hx hb dX8_pack_11 (by decide) (fun h => absurd h (by decide)) (fun _ => ?_)
  refine lv_lload_n hx hb dX8_pack_14 rfl (lv_at hl 1 rfl) ?_
  refine lv_iconst (v := 4) hx hb dX8_pack_15 (by decide) ?_
  refine lv_lshl (v := 0) hx hb dX8_pack_16 (by decide +kernel) ?_
  refine lv_aload_n hx hb dX8_pack_17 rfl (lv_at hl 2 rfl) ?_
  refine va_get (D := D) (ci := 8) (v := .ref x_state_tower_rank) (C := RX8) (T := TX8) (N := 5) hx hb hts (by decide +kernel) hown hK hP 0 rfl rfl 0 (by decide) (hts (.fieldLink RX8 9 "TurnedFloors$Tower" "rank" "[I") (by decide +kernel)) (fun _ h9 => h9) rfl dX8_pack_18 ?_
  refine lv_iload_n hx hb dX8_pack_21 rfl (lv_at hl 0 rfl) ?_
  refine va_iald hx hb hK hP 1 0 rfl rfl (by simp only [vp_in]; decide) dX8_pack_22 ?_
  refine lv_topi (fun z_11 ez_11 => ?_)
  obtain rfl : z_11 = 0 := ez_11.trans (by first | rfl | decide +kernel)
  refine lv_iconst (v := 1) hx hb dX8_pack_23 (by decide) ?_
  refine lv_ishl hx hb dX8_pack_24 ?_
  refine lv_topi (fun z_12 ez_12 => ?_)
  obtain rfl : z_12 = 0 := ez_12.trans (by first | rfl | decide +kernel)
  refine lv_i2l (v := 0) hx hb dX8_pack_25 (by decide +kernel) ?_
  refine lv_lor hx hb dX8_pack_26 ?_
  refine lv_topl (fun z_13 ez_13 => ?_)
  obtain rfl : z_13 = 0 := ez_13.trans (by first | rfl | decide +kernel)
  refine lv_aload_n hx hb dX8_pack_27 rfl (lv_at hl 2 rfl) ?_
  refine va_get (D := D) (ci := 8) (v := .ref x_state_tower_head) (C := RX8) (T := TX8) (N := 5) hx hb hts (by decide +kernel) hown hK hP 0 rfl rfl 1 (by decide) (hts (.fieldLink RX8 15 "TurnedFloors$Tower" "head" "[I") (by decide +kernel)) (fun _ h9 => h9) rfl dX8_pack_28 ?_
  refine lv_iload_n hx hb dX8_pack_31 rfl (lv_at hl 0 rfl) ?_
  refine va_iald hx hb hK hP 2 0 rfl rfl (by simp only [vp_in]; decide) dX8_pack_32 ?_
  refine lv_topi (fun z_14 ez_14 => ?_)
  obtain rfl : z_14 = 0 := ez_14.trans (by first | rfl | decide +kernel)
  refine lv_i2l (v := 0) hx hb dX8_pack_33 (by decide +kernel) ?_
  refine lv_lor hx hb dX8_pack_34 ?_
  refine lv_topl (fun z_15 ez_15 => ?_)
  obtain rfl : z_15 = 0 := ez_15.trans (by first | rfl | decide +kernel)
  refine lv_lstore_n (lv' := [(1, .long 0), (3, .int 2), (0, .ref x_state_tower)]) hx hb dX8_pack_35 rfl hl (by decide) rfl (fun ls hl => ?_)
  refine lv_iinc (v := 3) (lv' := [(3, .int 3), (1, .long 0), (0, .ref x_state_tower)]) hx hb dX8_pack_36 hl (k := 1) rfl (by decide) (by decide) rfl (fun ls hl => ?_)
  refine lv_goto (tgt := 8) hx hb dX8_pack_39 (by decide) ?_
  refine lv_iload_n hx hb dX8_pack_8 rfl (lv_at hl 0 rfl) ?_
  refine lv_bipush (v := 6) hx hb dX8_pack_9 (by decide) ?_
  refine lv_icmp_ge (tgt := 42) hx hb dX8_pack_11 (by decide) (fun h => absurd h (by decide)) (fun _ => ?_)
  refine lv_lload_n hx hb dX8_pack_14 rfl (lv_at hl 1 rfl) ?_
  refine lv_iconst (v := 4) hx hb dX8_pack_15 (by decide) ?_
  refine lv_lshl (v := 0) hx hb dX8_pack_16 (by decide +kernel) ?_
  refine lv_aload_n hx hb dX8_pack_17 rfl (lv_at hl 2 rfl) ?_
  refine va_get (D := D) (ci := 8) (v := .ref x_state_tower_rank) (C := RX8) (T := TX8) (N := 5) hx hb hts (by decide +kernel) hown hK hP 0 rfl rfl 0 (by decide) (hts (.fieldLink RX8 9 "TurnedFloors$Tower" "rank" "[I") (by decide +kernel)) (fun _ h9 => h9) rfl dX8_pack_18 ?_
  refine lv_iload_n hx hb dX8_pack_21 rfl (lv_at hl 0 rfl) ?_
  refine va_iald hx hb hK hP 1 0 rfl rfl (by simp only [vp_in]; decide) dX8_pack_22 ?_
  refine lv_topi (fun z_16 ez_16 => ?_)
  obtain rfl : z_16 = 0 := ez_16.trans (by first | rfl | decide +kernel)
  refine lv_iconst (v := 1) hx hb dX8_pack_23 (by decide) ?_
  refine lv_ishl hx hb dX8_pack_24 ?_
  refine lv_topi (fun z_17 ez_17 => ?_)
  obtain rfl : z_17 = 0 := ez_17.trans (by first | rfl | decide +kernel)
  refine lv_i2l (v := 0) hx hb dX8_pack_25 (by decide +kernel) ?_
  refine lv_lor hx hb dX8_pack_26 ?_
  refine lv_topl (fun z_18 ez_18 => ?_)
  obtain rfl : z_18 = 0 := ez_18.trans (by first | rfl | decide +kernel)
  refine lv_aload_n hx hb dX8_pack_27 rfl (lv_at hl 2 rfl) ?_
  refine va_get (D := D) (ci := 8) (v := .ref x_state_tower_head) (C := RX8) (T := TX8) (N := 5) hx hb hts (by decide +kernel) hown hK hP 0 rfl rfl 1 (by decide) (hts (.fieldLink RX8 15 "TurnedFloors$Tower" "head" "[I") (by decide +kernel)) (fun _ h9 => h9) rfl dX8_pack_28 ?_
  refine lv_iload_n hx hb dX8_pack_31 rfl (lv_at hl 0 rfl) ?_
  refine va_iald hx hb hK hP 2 0 rfl rfl (by simp only [vp_in]; decide) dX8_pack_32 ?_
  refine lv_topi (fun z_19 ez_19 => ?_)
  obtain rfl : z_19 = 0 := ez_19.trans (by first | rfl | decide +kernel)
  refine lv_i2l (v := 0) hx hb dX8_pack_33 (by decide +kernel) ?_
  refine lv_lor hx hb dX8_pack_34 ?_
  refine lv_topl (fun z_20 ez_20 => ?_)
  obtain rfl : z_20 = 0 := ez_20.trans (by first | rfl | decide +kernel)
  refine lv_lstore_n (lv' := [(1, .long 0), (3, .int 3), (0, .ref x_state_tower)]) hx hb dX8_pack_35 rfl hl (by decide) rfl (fun ls hl => ?_)
  refine lv_iinc (v := 4) (lv' := [(3, .int 4), (1, .long 0), (0, .ref x_state_tower)]) hx hb dX8_pack_36 hl (k := 1) rfl (by decide) (by decide) rfl (fun ls hl => ?_)
  refine lv_goto (tgt := 8) hx hb dX8_pack_39 (by decide) ?_
  refine lv_iload_n hx hb dX8_pack_8 rfl (lv_at hl 0 rfl) ?_
  refine lv_bipush (v := 6) hx hb dX8_pack_9 (by decide) ?_
  refine lv_icmp_ge (tgt := 42) hx hb dX8_pack_11 (by decide) (fun h => absurd h (by decide)) (fun _ => ?_)
  refine lv_lload_n hx hb dX8_pack_14 rfl (lv_at hl 1 rfl) ?_
  refine lv_iconst (v := 4) hx hb dX8_pack_15 (by decide) ?_
  refine lv_lshl (v := 0) hx hb dX8_pack_16 (by decide +kernel) ?_
  refine lv_aload_n hx hb dX8_pack_17 rfl (lv_at hl 2 rfl) ?_
  refine va_get (D := D) (ci := 8) (v := .ref x_state_tower_rank) (C := RX8) (T := TX8) (N := 5) hx hb hts (by decide +kernel) hown hK hP 0 rfl rfl 0 (by decide) (hts (.fieldLink RX8 9 "TurnedFloors$Tower" "rank" "[I") (by decide +kernel)) (fun _ h9 => h9) rfl dX8_pack_18 ?_
  refine lv_iload_n hx hb dX8_pack_21 rfl (lv_at hl 0 rfl) ?_
  refine va_iald hx hb hK hP 1 0 rfl rfl (by simp only [vp_in]; decide) dX8_pack_22 ?_
  refine lv_topi (fun z_21 ez_21 => ?_)
  obtain rfl : z_21 = 0 := ez_21.trans (by first | rfl | decide +kernel)
  refine lv_iconst (v := 1) hx hb dX8_pack_23 (by decide) ?_
  refine lv_ishl hx hb dX8_pack_24 ?_
  refine lv_topi (fun z_22 ez_22 => ?_)
  obtain rfl : z_22 = 0 := ez_22.trans (by first | rfl | decide +kernel)
  refine lv_i2l (v := 0) hx hb dX8_pack_25 (by decide +kernel) ?_
  refine lv_lor hx hb dX8_pack_26 ?_
  refine lv_topl (fun z_23 ez_23 => ?_)
  obtain rfl : z_23 = 0 := ez_23.trans (by first | rfl | decide +kernel)
  refine lv_aload_n hx hb dX8_pack_27 rfl (lv_at hl 2 rfl) ?_
  refine va_get (D := D) (ci := 8) (v := .ref x_state_tower_head) (C := RX8) (T := TX8) (N := 5) hx hb hts (by decide +kernel) hown hK hP 0 rfl rfl 1 (by decide) (hts (.fieldLink RX8 15 "TurnedFloors$Tower" "head" "[I") (by decide +kernel)) (fun _ h9 => h9) rfl dX8_pack_28 ?_
  refine lv_iload_n hx hb dX8_pack_31 rfl (lv_at hl 0 rfl) ?_
  refine va_iald hx hb hK hP 2 0 rfl rfl (by simp only [vp_in]; decide) dX8_pack_32 ?_
  refine lv_topi (fun z_24 ez_24 => ?_)
  obtain rfl : z_24 = 0 := ez_24.trans (by first | rfl | decide +kernel)
  refine lv_i2l (v := 0) hx hb dX8_pack_33 (by decide +kernel) ?_
  refine lv_lor hx hb dX8_pack_34 ?_
  refine lv_topl (fun z_25 ez_25 => ?_)
  obtain rfl : z_25 = 0 := ez_25.trans (by first | rfl | decide +kernel)
  refine lv_lstore_n (lv' := [(1, .long 0), (3, .int 4), (0, .ref x_state_tower)]) hx hb dX8_pack_35 rfl hl (by decide) rfl (fun ls hl => ?_)
  refine lv_iinc (v := 5) (lv' := [(3, .int 5), (1, .long 0), (0, .ref x_state_tower)]) hx hb dX8_pack_36 hl (k := 1) rfl (by decide) (by decide) rfl (fun ls hl => ?_)
  refine lv_goto (tgt := 8) hx hb dX8_pack_39 (by decide) ?_
  refine lv_iload_n hx hb dX8_pack_8 rfl (lv_at hl 0 rfl) ?_
  refine lv_bipush (v := 6) hx hb dX8_pack_9 (by decide) ?_
  refine lv_icmp_ge (tgt := 42) hx hb dX8_pack_11 (by decide) (fun h => absurd h (by decide)) (fun _ => ?_)
  refine lv_lload_n hx hb dX8_pack_14 rfl (lv_at hl 1 rfl) ?_
  refine lv_iconst (v := 4) hx hb dX8_pack_15 (by decide) ?_
  refine lv_lshl (v := 0) hx hb dX8_pack_16 (by decide +kernel) ?_
  refine lv_aload_n hx hb dX8_pack_17 rfl (lv_at hl 2 rfl) ?_
  refine va_get (D := D) (ci := 8) (v := .ref x_state_tower_rank) (C := RX8) (T := TX8) (N := 5) hx hb hts (by decide +kernel) hown hK hP 0 rfl rfl 0 (by decide) (hts (.fieldLink RX8 9 "TurnedFloors$Tower" "rank" "[I") (by decide +kernel)) (fun _ h9 => h9) rfl dX8_pack_18 ?_
  refine lv_iload_n hx hb dX8_pack_21 rfl (lv_at hl 0 rfl) ?_
  refine va_iald hx hb hK hP 1 0 rfl rfl (by simp only [vp_in]; decide) dX8_pack_22 ?_
  refine lv_topi (fun z_26 ez_26 => ?_)
  obtain rfl : z_26 = 0 := ez_26.trans (by first | rfl | decide +kernel)
  refine lv_iconst (v := 1) hx hb dX8_pack_23 (by decide) ?_
  refine lv_ishl hx hb dX8_pack_24 ?_
  refine lv_topi (fun z_27 ez_27 => ?_)
  obtain rfl : z_27 = 0 := ez_27.trans (by first | rfl | decide +kernel)
  refine lv_i2l (v := 0) hx hb dX8_pack_25 (by decide +kernel) ?_
  refine lv_lor hx hb dX8_pack_26 ?_
  refine lv_topl (fun z_28 ez_28 => ?_)
  obtain rfl : z_28 = 0 := ez_28.trans (by first | rfl | decide +kernel)
  refine lv_aload_n hx hb dX8_pack_27 rfl (lv_at hl 2 rfl) ?_
  refine va_get (D := D) (ci := 8) (v := .ref x_state_tower_head) (C := RX8) (T := TX8) (N := 5) hx hb hts (by decide +kernel) hown hK hP 0 rfl rfl 1 (by decide) (hts (.fieldLink RX8 15 "TurnedFloors$Tower" "head" "[I") (by decide +kernel)) (fun _ h9 => h9) rfl dX8_pack_28 ?_
  refine lv_iload_n hx hb dX8_pack_31 rfl (lv_at hl 0 rfl) ?_
  refine va_iald hx hb hK hP 2 0 rfl rfl (by simp only [vp_in]; decide) dX8_pack_32 ?_
  refine lv_topi (fun z_29 ez_29 => ?_)
  obtain rfl : z_29 = 0 := ez_29.trans (by first | rfl | decide +kernel)
  refine lv_i2l (v := 0) hx hb dX8_pack_33 (by decide +kernel) ?_
  refine lv_lor hx hb dX8_pack_34 ?_
  refine lv_topl (fun z_30 ez_30 => ?_)
  obtain rfl : z_30 = 0 := ez_30.trans (by first | rfl | decide +kernel)
  refine lv_lstore_n (lv' := [(1, .long 0), (3, .int 5), (0, .ref x_state_tower)]) hx hb dX8_pack_35 rfl hl (by decide) rfl (fun ls hl => ?_)
  refine lv_iinc (v := 6) (lv' := [(3, .int 6), (1, .long 0), (0, .ref x_state_tower)]) hx hb dX8_pack_36 hl (k := 1) rfl (by decide) (by decide) rfl (fun ls hl => ?_)
  refine lv_goto (tgt := 8) hx hb dX8_pack_39 (by decide) ?_
  refine lv_iload_n hx hb dX8_pack_8 rfl (lv_at hl 0 rfl) ?_
  refine lv_bipush (v := 6) hx hb dX8_pack_9 (by decide) ?_
  refine lv_icmp_ge (tgt := 42) hx hb dX8_pack_11 (by decide) (fun _ => ?_) (fun h => absurd (by decide) h)
  refine lv_lload_n hx hb dX8_pack_42 rfl (lv_at hl 1 rfl) ?_
  refine lv_bipush (v := 14) hx hb dX8_pack_43 (by decide) ?_
  refine lv_lshl (v := 0) hx hb dX8_pack_45 (by decide +kernel) ?_
  refine lv_aload_n hx hb dX8_pack_46 rfl (lv_at hl 2 rfl) ?_
  refine va_get (D := D) (ci := 8) (v := .int 0) (C := RX8) (T := TX8) (N := 5) hx hb hts (by decide +kernel) hown hK hP 0 rfl rfl 3 (by decide) (hts (.fieldLink RX8 22 "TurnedFloors$Tower" "paid" "I") (by decide +kernel)) (fun _ h9 => h9) rfl dX8_pack_47 ?_
  refine lv_i2l (v := 0) hx hb dX8_pack_50 (by decide +kernel) ?_
  refine lv_lor hx hb dX8_pack_51 ?_
  refine lv_topl (fun z_31 ez_31 => ?_)
  obtain rfl : z_31 = 0 := ez_31.trans (by first | rfl | decide +kernel)
  refine lv_bipush (v := 10) hx hb dX8_pack_52 (by decide) ?_
  refine lv_lshl (v := 0) hx hb dX8_pack_54 (by decide +kernel) ?_
  refine lv_aload_n hx hb dX8_pack_55 rfl (lv_at hl 2 rfl) ?_
  refine va_get (D := D) (ci := 8) (v := .int 0) (C := RX8) (T := TX8) (N := 5) hx hb hts (by decide +kernel) hown hK hP 0 rfl rfl 4 (by decide) (hts (.fieldLink RX8 25 "TurnedFloors$Tower" "year" "I") (by decide +kernel)) (fun _ h9 => h9) rfl dX8_pack_56 ?_
  refine lv_i2l (v := 0) hx hb dX8_pack_59 (by decide +kernel) ?_
  refine lv_lor hx hb dX8_pack_60 ?_
  refine lv_topl (fun z_32 ez_32 => ?_)
  obtain rfl : z_32 = 0 := ez_32.trans (by first | rfl | decide +kernel)
  exact kz_lret hx hb hr hlocks hP hK hD hS dX8_pack_61 ⟨rfl, rfl⟩

set_option maxHeartbeats 4000000 in
set_option maxRecDepth 100000 in
theorem kX6_lawAt_43 (l : Launch) (D : va_G) (ty : Nat → ClassId) (eo : Nat → Nat) (sz : Nat) (x_state x_state_tower x_state_seenPlace x_state_seenRank x_state_laws : Nat) : Met l yX6_lawAt wsX6_lawAt ({ frames := 1, cells := 0, slots := 0, locals := 21 }) (va_Pc [.ref x_state, .int (-1)] (kz_pre D ty eo [(x_state, .inr (6, [.ref x_state_tower, .int 1, .int 0, .int 0, .ref x_state_seenPlace, .ref x_state_seenRank, .int 0, .ref x_state_laws, .int 0, .int (-1)]))] sz)) (kz_Q (fun (r : Value) (u : va_W) => .null = r ∧ [(x_state, .inr (6, [.ref x_state_tower, .int 1, .int 0, .int 0, .ref x_state_seenPlace, .ref x_state_seenRank, .int 0, .ref x_state_laws, .int 0, .int (-1)]))] = u) (kz_B D ty (va_A [(x_state, .inr (6, [.ref x_state_tower, .int 1, .int 0, .int 0, .ref x_state_seenPlace, .ref x_state_seenRank, .int 0, .ref x_state_laws, .int 0, .int (-1)]))] sz)) (va_A [(x_state, .inr (6, [.ref x_state_tower, .int 1, .int 0, .int 0, .ref x_state_seenPlace, .ref x_state_seenRank, .int 0, .ref x_state_laws, .int 0, .int (-1)]))] sz)) 0 0 (va_A [(x_state, .inr (6, [.ref x_state_tower, .int 1, .int 0, .int 0, .ref x_state_seenPlace, .ref x_state_seenRank, .int 0, .ref x_state_laws, .int 0, .int (-1)]))] sz) := by
  refine Met.ofW (cc := cX6_lawAt) (maxL := 2) (ret := (some (.object "TurnedFloors$Text"))) (by decide) rfl ?_
  intro p e s m args below meth c s₁ B hml hv
  obtain ⟨rfl, hsz, hP, hK, hD0, hN, hE⟩ := hv
  have hx := B.exec
  have hb := B.bytes
  have hr := B.returns
  have hts := atoms_spec (ws := wsX6_lawAt) B.pre
  have hown : s.vm.findClass RX6 = some m.cls := findClass_of_methodNamed B.named
  have hlocks := B.notSynchronized
  subst hsz
  have hD := hD0.self (sz := s.heap.size)
  generalize hAe : va_A [(x_state, .inr (6, [.ref x_state_tower, .int 1, .int 0, .int 0, .ref x_state_seenPlace, .ref x_state_seenRank, .int 0, .ref x_state_laws, .int 0, .int (-1)]))] s.heap.size = A at hD hE ⊢
  have hA : ∀ q : Nat, s.heap.size ≤ q → A q := fun q h => by rw [← hAe]; exact Or.inr h
  have hS : va_S A s.heap s.heap [] := va_S.rf
  have hl := lv_entry ([.ref x_state, .int (-1)]) (n := 2) (Nat.le_of_ble_eq_true rfl)
  rw [lg_entry_eq]
  generalize (lg_sl ([.ref x_state, .int (-1)]) ++ List.replicate (2 - (lg_sl ([.ref x_state, .int (-1)])).length) Slot.unset).toArray = ls at hl ⊢
  have hl : lv_has ls 2 [(0, .ref x_state), (1, .int (-1))] := hl
  refine lv_aload_n hx hb dX6_lawAt_0 rfl (lv_at hl 0 rfl) ?_
  refine lv_iload_n hx hb dX6_lawAt_1 rfl (lv_at hl 1 rfl) ?_
  refine kz_ki (wc := [(x_state, .inr (6, [.ref x_state_tower, .int 1, .int 0, .int 0, .ref x_state_seenPlace, .ref x_state_seenRank, .int 0, .ref x_state_laws, .int 0, .int (-1)]))]) (wr := []) (va_runV (As := [.int (-1)]) (rest := []) ⟨hx, hb, hml, hown, hts⟩ (kcX6_isLaw l D ty eo _ x_state (.ref x_state_tower) (.int 1) (.int 0) (.int 0) (.ref x_state_seenPlace) (.ref x_state_seenRank) (.int 0) (.ref x_state_laws) (.int (-1)) (-1) 0) (cwV 1 hts gX6_lawAt_X6_isLaw rfl rfl rfl (by decide +kernel) ⟨Nat.le_of_ble_eq_true rfl, Nat.le_of_ble_eq_true rfl⟩) (kz_preV (ci := 6) (q0 := 0) hK hN hE hP hD hS hA rfl rfl [0] (by decide) rfl) rfl rfl hl.1 rfl (lv_room (Nat.le_of_ble_eq_true rfl)) dX6_lawAt_2 ⟨Nat.le_of_ble_eq_true rfl, Nat.le_of_ble_eq_true rfl⟩) hP hD hS hA [0] [] rfl rfl (by decide) (by decide) (fun r u H locs hw hP hD hS => ?_)
  rcases hw with ⟨c_1, rfl, rfl⟩ | ⟨c_2, c_3, rfl, rfl⟩ | ⟨c_4, c_5, rfl, rfl⟩
  · have hP : va_P D vwCl [(x_state, .inr (6, [.ref x_state_tower, .int 1, .int 0, .int 0, .ref x_state_seenPlace, .ref x_state_seenRank, .int 0, .ref x_state_laws, .int 0, .int (-1)]))] H := hP
    have hD : va_D A [(x_state, .inr (6, [.ref x_state_tower, .int 1, .int 0, .int 0, .ref x_state_seenPlace, .ref x_state_seenRank, .int 0, .ref x_state_laws, .int 0, .int (-1)]))] := hD
    refine lv_if_eq (tgt := 17) hx hb dX6_lawAt_5 (by decide) (fun _ => ?_) (fun h => absurd (by decide) h)
    refine lv_null hx hb dX6_lawAt_17 ?_
    exact kz_aret hx hb hr (Or.inl ⟨_, rfl⟩) (Or.inl rfl) hlocks hP hK hD hS dX6_lawAt_18 ⟨rfl, rfl⟩
  · exact absurd c_2 (by decide)
  · exact absurd c_4 (by decide)

set_option maxHeartbeats 4000000 in
set_option maxRecDepth 100000 in
theorem kcX1_seat (l : Launch) (D : va_G) (ty : Nat → ClassId) (eo : Nat → Nat) (sz : Nat) (h0 : Nat) (h0_v0 h0_v2 : Value) (p1 : Nat) (p1_v0 p1_v1 p1_v2 p1_v3 p1_v4 p1_v5 p1_v6 p1_v7 : Value) (p2 : Int32) (h0_words : Nat) (h0_words_f : Nat → Int32) : Met l yX1_seat wsX1_seat ({ frames := 0, cells := 0, slots := 0, locals := 0 }) (va_Pc [.ref h0, .ref p1, .int p2] (kz_pre D ty eo [(h0, .inr (1, [h0_v0, .ref h0_words, h0_v2])), (p1, .inr (7, [p1_v0, p1_v1, p1_v2, p1_v3, p1_v4, p1_v5, p1_v6, p1_v7])), (h0_words, .inl (ty 0, 9, .inl h0_words_f))] sz)) (va_Qv (fun (u : va_W) => [(h0, .inr (1, [h0_v0, .ref h0_words, .ref p1])), (p1, .inr (7, [p1_v0, p1_v1, p1_v2, p1_v3, p1_v4, p1_v5, p1_v6, p1_v7])), (h0_words, .inl (ty 0, 9, .inl (upd h0_words_f 8 p2)))] = u) (kz_B D ty (va_A [(h0, .inr (1, [h0_v0, .ref h0_words, h0_v2])), (p1, .inr (7, [p1_v0, p1_v1, p1_v2, p1_v3, p1_v4, p1_v5, p1_v6, p1_v7])), (h0_words, .inl (ty 0, 9, .inl h0_words_f))] sz)) (va_A [(h0, .inr (1, [h0_v0, .ref h0_words, h0_v2])), (p1, .inr (7, [p1_v0, p1_v1, p1_v2, p1_v3, p1_v4, p1_v5, p1_v6, p1_v7])), (h0_words, .inl (ty 0, 9, .inl h0_words_f))] sz)) 0 0 (va_A [(h0, .inr (1, [h0_v0, .ref h0_words, h0_v2])), (p1, .inr (7, [p1_v0, p1_v1, p1_v2, p1_v3, p1_v4, p1_v5, p1_v6, p1_v7])), (h0_words, .inl (ty 0, 9, .inl h0_words_f))] sz) := by
  refine Met.ofW (cc := cX1_seat) (maxL := 3) (ret := none) (by decide) rfl ?_
  intro p e s m args below meth c s₁ B hml hv
  obtain ⟨rfl, hsz, hP, hK, hD0, hN, hE⟩ := hv
  have hx := B.exec
  have hb := B.bytes
  have hr := B.returns
  have hts := atoms_spec (ws := wsX1_seat) B.pre
  have hown : s.vm.findClass RX1 = some m.cls := findClass_of_methodNamed B.named
  have hlocks := B.notSynchronized
  subst hsz
  have hD := hD0.self (sz := s.heap.size)
  generalize hAe : va_A [(h0, .inr (1, [h0_v0, .ref h0_words, h0_v2])), (p1, .inr (7, [p1_v0, p1_v1, p1_v2, p1_v3, p1_v4, p1_v5, p1_v6, p1_v7])), (h0_words, .inl (ty 0, 9, .inl h0_words_f))] s.heap.size = A at hD hE ⊢
  have hA : ∀ q : Nat, s.heap.size ≤ q → A q := fun q h => by rw [← hAe]; exact Or.inr h
  have hS : va_S A s.heap s.heap [] := va_S.rf
  have hl := lv_entry ([.ref h0, .ref p1, .int p2]) (n := 3) (Nat.le_of_ble_eq_true rfl)
  rw [lg_entry_eq]
  generalize (lg_sl ([.ref h0, .ref p1, .int p2]) ++ List.replicate (3 - (lg_sl ([.ref h0, .ref p1, .int p2])).length) Slot.unset).toArray = ls at hl ⊢
  have hl : lv_has ls 3 [(0, .ref h0), (1, .ref p1), (2, .int p2)] := hl
  refine lv_aload_n hx hb dX1_seat_0 rfl (lv_at hl 0 rfl) ?_
  refine lv_aload_n hx hb dX1_seat_1 rfl (lv_at hl 1 rfl) ?_
  refine va_put (D := D) (ci := 1) (v := .ref p1) (ty := .object "TurnedFloors$Text") (C := RX1) (T := TX1) (N := 3) hx hb hts (by decide +kernel) tyX1 tyX1_ok nmX1 hown hK hP hD hS 0 rfl rfl 2 (by decide) (hts (.fieldLink RX1 15 "TurnedFloors$Judge" "law" "LTurnedFloors$Text;") (by decide +kernel)) (fun _ h9 => h9) rfl (by decide +kernel) rfl rfl (Nat.le_of_ble_eq_true rfl) dX1_seat_2 (fun H locs hP hD hS => ?_)
  have hP : va_P D vwCl [(h0, .inr (1, [h0_v0, .ref h0_words, .ref p1])), (p1, .inr (7, [p1_v0, p1_v1, p1_v2, p1_v3, p1_v4, p1_v5, p1_v6, p1_v7])), (h0_words, .inl (ty 0, 9, .inl h0_words_f))] H := hP
  have hD : va_D A [(h0, .inr (1, [h0_v0, .ref h0_words, .ref p1])), (p1, .inr (7, [p1_v0, p1_v1, p1_v2, p1_v3, p1_v4, p1_v5, p1_v6, p1_v7])), (h0_words, .inl (ty 0, 9, .inl h0_words_f))] := hD
  refine lv_aload_n hx hb dX1_seat_5 rfl (lv_at hl 0 rfl) ?_
  refine va_get (D := D) (ci := 1) (v := .ref h0_words) (C := RX1) (T := TX1) (N := 3) hx hb hts (by decide +kernel) hown hK hP 0 rfl rfl 1 (by decide) (hts (.fieldLink RX1 11 "TurnedFloors$Judge" "words" "[I") (by decide +kernel)) (fun _ h9 => h9) rfl dX1_seat_6 ?_
  refine lv_bipush (v := 8) hx hb dX1_seat_9 (by decide) ?_
  refine lv_iload_n hx hb dX1_seat_11 rfl (lv_at hl 2 rfl) ?_
  refine va_iast hx hb hK hP hD hS 2 0 rfl rfl (by simp only [vp_in]; decide) dX1_seat_12 (fun H locs hP hD hS => ?_)
  have hP : va_P D vwCl [(h0, .inr (1, [h0_v0, .ref h0_words, .ref p1])), (p1, .inr (7, [p1_v0, p1_v1, p1_v2, p1_v3, p1_v4, p1_v5, p1_v6, p1_v7])), (h0_words, .inl (ty 0, 9, .inl (upd h0_words_f 8 p2)))] H := hP
  have hD : va_D A [(h0, .inr (1, [h0_v0, .ref h0_words, .ref p1])), (p1, .inr (7, [p1_v0, p1_v1, p1_v2, p1_v3, p1_v4, p1_v5, p1_v6, p1_v7])), (h0_words, .inl (ty 0, 9, .inl (upd h0_words_f 8 p2)))] := hD
  exact kz_vret hx hb hr hlocks hP hK hD hS dX1_seat_13 rfl

set_option maxHeartbeats 4000000 in
set_option maxRecDepth 100000 in
theorem kX1_seat_44 (l : Launch) (D : va_G) (ty : Nat → ClassId) (eo : Nat → Nat) (sz : Nat) (x_judge x_machine x_judge_words : Nat) : Met l yX1_seat wsX1_seat ({ frames := 0, cells := 0, slots := 0, locals := 0 }) (va_Pc [.ref x_judge, .null, .int 0] (kz_pre D ty eo [(x_judge, .inr (1, [.ref x_machine, .ref x_judge_words, .null])), (x_judge_words, .inl (ty 0, 9, .inl (fun _ => 0)))] sz)) (va_Qv (fun (u : va_W) => [(x_judge, .inr (1, [.ref x_machine, .ref x_judge_words, .null])), (x_judge_words, .inl (ty 0, 9, .inl (upd (fun _ => 0) 8 0)))] = u) (kz_B D ty (va_A [(x_judge, .inr (1, [.ref x_machine, .ref x_judge_words, .null])), (x_judge_words, .inl (ty 0, 9, .inl (fun _ => 0)))] sz)) (va_A [(x_judge, .inr (1, [.ref x_machine, .ref x_judge_words, .null])), (x_judge_words, .inl (ty 0, 9, .inl (fun _ => 0)))] sz)) 0 0 (va_A [(x_judge, .inr (1, [.ref x_machine, .ref x_judge_words, .null])), (x_judge_words, .inl (ty 0, 9, .inl (fun _ => 0)))] sz) := by
  refine Met.ofW (cc := cX1_seat) (maxL := 3) (ret := none) (by decide) rfl ?_
  intro p e s m args below meth c s₁ B hml hv
  obtain ⟨rfl, hsz, hP, hK, hD0, hN, hE⟩ := hv
  have hx := B.exec
  have hb := B.bytes
  have hr := B.returns
  have hts := atoms_spec (ws := wsX1_seat) B.pre
  have hown : s.vm.findClass RX1 = some m.cls := findClass_of_methodNamed B.named
  have hlocks := B.notSynchronized
  subst hsz
  have hD := hD0.self (sz := s.heap.size)
  generalize hAe : va_A [(x_judge, .inr (1, [.ref x_machine, .ref x_judge_words, .null])), (x_judge_words, .inl (ty 0, 9, .inl (fun _ => 0)))] s.heap.size = A at hD hE ⊢
  have hA : ∀ q : Nat, s.heap.size ≤ q → A q := fun q h => by rw [← hAe]; exact Or.inr h
  have hS : va_S A s.heap s.heap [] := va_S.rf
  have hl := lv_entry ([.ref x_judge, .null, .int 0]) (n := 3) (Nat.le_of_ble_eq_true rfl)
  rw [lg_entry_eq]
  generalize (lg_sl ([.ref x_judge, .null, .int 0]) ++ List.replicate (3 - (lg_sl ([.ref x_judge, .null, .int 0])).length) Slot.unset).toArray = ls at hl ⊢
  have hl : lv_has ls 3 [(0, .ref x_judge), (1, .null), (2, .int 0)] := hl
  refine lv_aload_n hx hb dX1_seat_0 rfl (lv_at hl 0 rfl) ?_
  refine lv_aload_nN hx hb dX1_seat_1 rfl (lv_at hl 1 rfl) ?_
  refine va_put (D := D) (ci := 1) (v := .null) (ty := .object "TurnedFloors$Text") (C := RX1) (T := TX1) (N := 3) hx hb hts (by decide +kernel) tyX1 tyX1_ok nmX1 hown hK hP hD hS 0 rfl rfl 2 (by decide) (hts (.fieldLink RX1 15 "TurnedFloors$Judge" "law" "LTurnedFloors$Text;") (by decide +kernel)) (fun _ h9 => h9) rfl (by decide +kernel) rfl rfl (Nat.le_of_ble_eq_true rfl) dX1_seat_2 (fun H locs hP hD hS => ?_)
  have hP : va_P D vwCl [(x_judge, .inr (1, [.ref x_machine, .ref x_judge_words, .null])), (x_judge_words, .inl (ty 0, 9, .inl (fun _ => 0)))] H := hP
  have hD : va_D A [(x_judge, .inr (1, [.ref x_machine, .ref x_judge_words, .null])), (x_judge_words, .inl (ty 0, 9, .inl (fun _ => 0)))] := hD
  refine lv_aload_n hx hb dX1_seat_5 rfl (lv_at hl 0 rfl) ?_
  refine va_get (D := D) (ci := 1) (v := .ref x_judge_words) (C := RX1) (T := TX1) (N := 3) hx hb hts (by decide +kernel) hown hK hP 0 rfl rfl 1 (by decide) (hts (.fieldLink RX1 11 "TurnedFloors$Judge" "words" "[I") (by decide +kernel)) (fun _ h9 => h9) rfl dX1_seat_6 ?_
  refine lv_bipush (v := 8) hx hb dX1_seat_9 (by decide) ?_
  refine lv_iload_n hx hb dX1_seat_11 rfl (lv_at hl 2 rfl) ?_
  refine va_iast hx hb hK hP hD hS 1 0 rfl rfl (by simp only [vp_in]; decide) dX1_seat_12 (fun H locs hP hD hS => ?_)
  have hP : va_P D vwCl [(x_judge, .inr (1, [.ref x_machine, .ref x_judge_words, .null])), (x_judge_words, .inl (ty 0, 9, .inl (upd (fun _ => 0) 8 0)))] H := hP
  have hD : va_D A [(x_judge, .inr (1, [.ref x_machine, .ref x_judge_words, .null])), (x_judge_words, .inl (ty 0, 9, .inl (upd (fun _ => 0) 8 0)))] := hD
  exact kz_vret hx hb hr hlocks hP hK hD hS dX1_seat_13 rfl

set_option maxHeartbeats 4000000 in
set_option maxRecDepth 100000 in
theorem kX9_seated_42 (l : Launch) (D : va_G) (ty : Nat → ClassId) (eo : Nat → Nat) (sz : Nat) (x x_state x_images x_kept x_history x_drawnTower x_machine x_judge x_runner x_reader x_draft x_paper x_tape x_chances x_refusals x_state_tower x_state_seenPlace x_state_seenRank x_state_laws x_judge_words : Nat) : Met l yX9_seated wsX9_seated ({ frames := 2, cells := 0, slots := 0, locals := 42 }) (va_Pc [.ref x] (kz_pre D ty eo [(x, .inr (9, [.ref x_state, .ref x_images, .ref x_kept, .ref x_history, .ref x_drawnTower, .ref x_machine, .ref x_judge, .ref x_runner, .ref x_reader, .ref x_draft, .ref x_paper, .ref x_tape, .int 0, .int (-1), .int 0, .int (-1), .ref x_chances, .ref x_refusals, .int 0])), (x_state, .inr (6, [.ref x_state_tower, .int 1, .int 0, .int 0, .ref x_state_seenPlace, .ref x_state_seenRank, .int 0, .ref x_state_laws, .int 0, .int (-1)])), (x_judge, .inr (1, [.ref x_machine, .ref x_judge_words, .null])), (x_judge_words, .inl (ty 0, 9, .inl (fun _ => 0)))] sz)) (kz_Q (fun (r : Value) (u : va_W) => .ref x_judge = r ∧ [(x, .inr (9, [.ref x_state, .ref x_images, .ref x_kept, .ref x_history, .ref x_drawnTower, .ref x_machine, .ref x_judge, .ref x_runner, .ref x_reader, .ref x_draft, .ref x_paper, .ref x_tape, .int 0, .int (-1), .int 0, .int (-1), .ref x_chances, .ref x_refusals, .int 0])), (x_state, .inr (6, [.ref x_state_tower, .int 1, .int 0, .int 0, .ref x_state_seenPlace, .ref x_state_seenRank, .int 0, .ref x_state_laws, .int 0, .int (-1)])), (x_judge, .inr (1, [.ref x_machine, .ref x_judge_words, .null])), (x_judge_words, .inl (ty 0, 9, .inl (upd (fun _ => 0) 8 0)))] = u) (kz_B D ty (va_A [(x, .inr (9, [.ref x_state, .ref x_images, .ref x_kept, .ref x_history, .ref x_drawnTower, .ref x_machine, .ref x_judge, .ref x_runner, .ref x_reader, .ref x_draft, .ref x_paper, .ref x_tape, .int 0, .int (-1), .int 0, .int (-1), .ref x_chances, .ref x_refusals, .int 0])), (x_state, .inr (6, [.ref x_state_tower, .int 1, .int 0, .int 0, .ref x_state_seenPlace, .ref x_state_seenRank, .int 0, .ref x_state_laws, .int 0, .int (-1)])), (x_judge, .inr (1, [.ref x_machine, .ref x_judge_words, .null])), (x_judge_words, .inl (ty 0, 9, .inl (fun _ => 0)))] sz)) (va_A [(x, .inr (9, [.ref x_state, .ref x_images, .ref x_kept, .ref x_history, .ref x_drawnTower, .ref x_machine, .ref x_judge, .ref x_runner, .ref x_reader, .ref x_draft, .ref x_paper, .ref x_tape, .int 0, .int (-1), .int 0, .int (-1), .ref x_chances, .ref x_refusals, .int 0])), (x_state, .inr (6, [.ref x_state_tower, .int 1, .int 0, .int 0, .ref x_state_seenPlace, .ref x_state_seenRank, .int 0, .ref x_state_laws, .int 0, .int (-1)])), (x_judge, .inr (1, [.ref x_machine, .ref x_judge_words, .null])), (x_judge_words, .inl (ty 0, 9, .inl (fun _ => 0)))] sz)) 0 0 (va_A [(x, .inr (9, [.ref x_state, .ref x_images, .ref x_kept, .ref x_history, .ref x_drawnTower, .ref x_machine, .ref x_judge, .ref x_runner, .ref x_reader, .ref x_draft, .ref x_paper, .ref x_tape, .int 0, .int (-1), .int 0, .int (-1), .ref x_chances, .ref x_refusals, .int 0])), (x_state, .inr (6, [.ref x_state_tower, .int 1, .int 0, .int 0, .ref x_state_seenPlace, .ref x_state_seenRank, .int 0, .ref x_state_laws, .int 0, .int (-1)])), (x_judge, .inr (1, [.ref x_machine, .ref x_judge_words, .null])), (x_judge_words, .inl (ty 0, 9, .inl (fun _ => 0)))] sz) := by
  refine Met.ofW (cc := cX9_seated) (maxL := 1) (ret := (some (.object "TurnedFloors$Judge"))) (by decide) rfl ?_
  intro p e s m args below meth c s₁ B hml hv
  obtain ⟨rfl, hsz, hP, hK, hD0, hN, hE⟩ := hv
  have hx := B.exec
  have hb := B.bytes
  have hr := B.returns
  have hts := atoms_spec (ws := wsX9_seated) B.pre
  have hown : s.vm.findClass RX9 = some m.cls := findClass_of_methodNamed B.named
  have hlocks := B.notSynchronized
  subst hsz
  have hD := hD0.self (sz := s.heap.size)
  generalize hAe : va_A [(x, .inr (9, [.ref x_state, .ref x_images, .ref x_kept, .ref x_history, .ref x_drawnTower, .ref x_machine, .ref x_judge, .ref x_runner, .ref x_reader, .ref x_draft, .ref x_paper, .ref x_tape, .int 0, .int (-1), .int 0, .int (-1), .ref x_chances, .ref x_refusals, .int 0])), (x_state, .inr (6, [.ref x_state_tower, .int 1, .int 0, .int 0, .ref x_state_seenPlace, .ref x_state_seenRank, .int 0, .ref x_state_laws, .int 0, .int (-1)])), (x_judge, .inr (1, [.ref x_machine, .ref x_judge_words, .null])), (x_judge_words, .inl (ty 0, 9, .inl (fun _ => 0)))] s.heap.size = A at hD hE ⊢
  have hA : ∀ q : Nat, s.heap.size ≤ q → A q := fun q h => by rw [← hAe]; exact Or.inr h
  have hS : va_S A s.heap s.heap [] := va_S.rf
  have hl := lv_entry ([.ref x]) (n := 1) (Nat.le_of_ble_eq_true rfl)
  rw [lg_entry_eq]
  generalize (lg_sl ([.ref x]) ++ List.replicate (1 - (lg_sl ([.ref x])).length) Slot.unset).toArray = ls at hl ⊢
  have hl : lv_has ls 1 [(0, .ref x)] := hl
  refine lv_aload_n hx hb dX9_seated_0 rfl (lv_at hl 0 rfl) ?_
  refine va_get (D := D) (ci := 9) (v := .ref x_judge) (C := RX9) (T := TX9) (N := 19) hx hb hts (by decide +kernel) hown hK hP 0 rfl rfl 6 (by decide) (hts (.fieldLink RX9 50 "TurnedFloors" "judge" "LTurnedFloors$Judge;") (by decide +kernel)) (fun _ h9 => h9) rfl dX9_seated_1 ?_
  refine lv_aload_n hx hb dX9_seated_4 rfl (lv_at hl 0 rfl) ?_
  refine va_get (D := D) (ci := 9) (v := .ref x_state) (C := RX9) (T := TX9) (N := 19) hx hb hts (by decide +kernel) hown hK hP 0 rfl rfl 0 (by decide) (hts (.fieldLink RX9 10 "TurnedFloors" "state" "LTurnedFloors$State;") (by decide +kernel)) (fun _ h9 => h9) rfl dX9_seated_5 ?_
  refine lv_aload_n hx hb dX9_seated_8 rfl (lv_at hl 0 rfl) ?_
  refine va_get (D := D) (ci := 9) (v := .ref x_state) (C := RX9) (T := TX9) (N := 19) hx hb hts (by decide +kernel) hown hK hP 0 rfl rfl 0 (by decide) (hts (.fieldLink RX9 10 "TurnedFloors" "state" "LTurnedFloors$State;") (by decide +kernel)) (fun _ h9 => h9) rfl dX9_seated_9 ?_
  refine va_getN (D := D) (ci := 6) (v := .int (-1)) (C := RX6) (T := TX6) (N := 10) hx hb hts (by decide +kernel) hown hK hP 1 rfl rfl 9 (by decide) (hN.use (.fieldLinkNest "TurnedFloors" 208 "TurnedFloors$State" "inForce" "I" "TurnedFloors") (by decide +kernel)) (fun _ h9 => h9) rfl dX9_seated_12 ?_
  refine kz_kq (wc := [(x_state, .inr (6, [.ref x_state_tower, .int 1, .int 0, .int 0, .ref x_state_seenPlace, .ref x_state_seenRank, .int 0, .ref x_state_laws, .int 0, .int (-1)]))]) (wr := [(x, .inr (9, [.ref x_state, .ref x_images, .ref x_kept, .ref x_history, .ref x_drawnTower, .ref x_machine, .ref x_judge, .ref x_runner, .ref x_reader, .ref x_draft, .ref x_paper, .ref x_tape, .int 0, .int (-1), .int 0, .int (-1), .ref x_chances, .ref x_refusals, .int 0])), (x_judge, .inr (1, [.ref x_machine, .ref x_judge_words, .null])), (x_judge_words, .inl (ty 0, 9, .inl (fun _ => 0)))]) (va_runV (As := [.int (-1)]) (rest := [.ref x_judge]) ⟨hx, hb, hml, hown, hts⟩ (kX6_lawAt_43 l D ty eo _ x_state x_state_tower x_state_seenPlace x_state_seenRank x_state_laws) (cwV 1 hts gX9_seated_X6_lawAt rfl rfl rfl (by decide +kernel) ⟨Nat.le_of_ble_eq_true rfl, Nat.le_of_ble_eq_true rfl⟩) (kz_preV (ci := 6) (q0 := 1) hK hN hE hP hD hS hA rfl rfl [1] (by decide) rfl) rfl rfl hl.1 rfl (lv_room (Nat.le_of_ble_eq_true rfl)) dX9_seated_15 ⟨Nat.le_of_ble_eq_true rfl, Nat.le_of_ble_eq_true rfl⟩) hP hD hS hA [1] [0, 2, 3] rfl rfl (by decide) (by decide) (fun r u H locs hw hP hD hS => ?_)
  obtain ⟨rfl, rfl⟩ := hw
  have hP : va_P D vwCl [(x, .inr (9, [.ref x_state, .ref x_images, .ref x_kept, .ref x_history, .ref x_drawnTower, .ref x_machine, .ref x_judge, .ref x_runner, .ref x_reader, .ref x_draft, .ref x_paper, .ref x_tape, .int 0, .int (-1), .int 0, .int (-1), .ref x_chances, .ref x_refusals, .int 0])), (x_judge, .inr (1, [.ref x_machine, .ref x_judge_words, .null])), (x_judge_words, .inl (ty 0, 9, .inl (fun _ => 0))), (x_state, .inr (6, [.ref x_state_tower, .int 1, .int 0, .int 0, .ref x_state_seenPlace, .ref x_state_seenRank, .int 0, .ref x_state_laws, .int 0, .int (-1)]))] H := hP
  have hD : va_D A [(x, .inr (9, [.ref x_state, .ref x_images, .ref x_kept, .ref x_history, .ref x_drawnTower, .ref x_machine, .ref x_judge, .ref x_runner, .ref x_reader, .ref x_draft, .ref x_paper, .ref x_tape, .int 0, .int (-1), .int 0, .int (-1), .ref x_chances, .ref x_refusals, .int 0])), (x_judge, .inr (1, [.ref x_machine, .ref x_judge_words, .null])), (x_judge_words, .inl (ty 0, 9, .inl (fun _ => 0))), (x_state, .inr (6, [.ref x_state_tower, .int 1, .int 0, .int 0, .ref x_state_seenPlace, .ref x_state_seenRank, .int 0, .ref x_state_laws, .int 0, .int (-1)]))] := hD
  refine lv_aload_n hx hb dX9_seated_18 rfl (lv_at hl 0 rfl) ?_
  refine va_get (D := D) (ci := 9) (v := .ref x_state) (C := RX9) (T := TX9) (N := 19) hx hb hts (by decide +kernel) hown hK hP 0 rfl rfl 0 (by decide) (hts (.fieldLink RX9 10 "TurnedFloors" "state" "LTurnedFloors$State;") (by decide +kernel)) (fun _ h9 => h9) rfl dX9_seated_19 ?_
  refine va_getN (D := D) (ci := 6) (v := .int 0) (C := RX6) (T := TX6) (N := 10) hx hb hts (by decide +kernel) hown hK hP 3 rfl rfl 2 (by decide) (hN.use (.fieldLinkNest "TurnedFloors" 310 "TurnedFloors$State" "mood" "I" "TurnedFloors") (by decide +kernel)) (fun _ h9 => h9) rfl dX9_seated_22 ?_
  refine kz_kv (wc := [(x_judge, .inr (1, [.ref x_machine, .ref x_judge_words, .null])), (x_judge_words, .inl (ty 0, 9, .inl (fun _ => 0)))]) (wr := [(x, .inr (9, [.ref x_state, .ref x_images, .ref x_kept, .ref x_history, .ref x_drawnTower, .ref x_machine, .ref x_judge, .ref x_runner, .ref x_reader, .ref x_draft, .ref x_paper, .ref x_tape, .int 0, .int (-1), .int 0, .int (-1), .ref x_chances, .ref x_refusals, .int 0])), (x_state, .inr (6, [.ref x_state_tower, .int 1, .int 0, .int 0, .ref x_state_seenPlace, .ref x_state_seenRank, .int 0, .ref x_state_laws, .int 0, .int (-1)]))]) (va_runV (As := [.null, .int 0]) (rest := []) ⟨hx, hb, hml, hown, hts⟩ (kX1_seat_44 l D ty eo _ x_judge x_machine x_judge_words) (cwV 2 hts gX9_seated_X1_seat rfl rfl rfl (by decide +kernel) ⟨Nat.le_of_ble_eq_true rfl, Nat.le_of_ble_eq_true rfl⟩) (kz_preV (ci := 1) (q0 := 1) hK hN hE hP hD hS hA rfl rfl [1, 2] (by decide) rfl) rfl rfl hl.1 rfl (lv_room (Nat.le_of_ble_eq_true rfl)) dX9_seated_25 ⟨Nat.le_of_ble_eq_true rfl, Nat.le_of_ble_eq_true rfl⟩) hP hD hS hA [1, 2] [0, 3] rfl rfl (by decide) (by decide) (fun u H locs hw hP hD hS => ?_)
  obtain rfl := hw
  have hP : va_P D vwCl [(x, .inr (9, [.ref x_state, .ref x_images, .ref x_kept, .ref x_history, .ref x_drawnTower, .ref x_machine, .ref x_judge, .ref x_runner, .ref x_reader, .ref x_draft, .ref x_paper, .ref x_tape, .int 0, .int (-1), .int 0, .int (-1), .ref x_chances, .ref x_refusals, .int 0])), (x_state, .inr (6, [.ref x_state_tower, .int 1, .int 0, .int 0, .ref x_state_seenPlace, .ref x_state_seenRank, .int 0, .ref x_state_laws, .int 0, .int (-1)])), (x_judge, .inr (1, [.ref x_machine, .ref x_judge_words, .null])), (x_judge_words, .inl (ty 0, 9, .inl (upd (fun _ => 0) 8 0)))] H := hP
  have hD : va_D A [(x, .inr (9, [.ref x_state, .ref x_images, .ref x_kept, .ref x_history, .ref x_drawnTower, .ref x_machine, .ref x_judge, .ref x_runner, .ref x_reader, .ref x_draft, .ref x_paper, .ref x_tape, .int 0, .int (-1), .int 0, .int (-1), .ref x_chances, .ref x_refusals, .int 0])), (x_state, .inr (6, [.ref x_state_tower, .int 1, .int 0, .int 0, .ref x_state_seenPlace, .ref x_state_seenRank, .int 0, .ref x_state_laws, .int 0, .int (-1)])), (x_judge, .inr (1, [.ref x_machine, .ref x_judge_words, .null])), (x_judge_words, .inl (ty 0, 9, .inl (upd (fun _ => 0) 8 0)))] := hD
  refine lv_aload_n hx hb dX9_seated_28 rfl (lv_at hl 0 rfl) ?_
  refine va_get (D := D) (ci := 9) (v := .ref x_judge) (C := RX9) (T := TX9) (N := 19) hx hb hts (by decide +kernel) hown hK hP 0 rfl rfl 6 (by decide) (hts (.fieldLink RX9 50 "TurnedFloors" "judge" "LTurnedFloors$Judge;") (by decide +kernel)) (fun _ h9 => h9) rfl dX9_seated_29 ?_
  exact kz_aret hx hb hr (Or.inl ⟨_, rfl⟩) (Or.inr ⟨_, rfl⟩) hlocks hP hK hD hS dX9_seated_32 ⟨rfl, rfl⟩

set_option maxHeartbeats 4000000 in
set_option maxRecDepth 100000 in
theorem kcX1_setCommon (l : Launch) (D : va_G) (ty : Nat → ClassId) (eo : Nat → Nat) (sz : Nat) (h0 : Nat) (h0_v0 h0_v2 : Value) (p1 p2 : Int32) (h0_words : Nat) (h0_words_f : Nat → Int32) : Met l yX1_setCommon wsX1_setCommon ({ frames := 0, cells := 0, slots := 0, locals := 0 }) (va_Pc [.ref h0, .int p1, .int p2] (kz_pre D ty eo [(h0, .inr (1, [h0_v0, .ref h0_words, h0_v2])), (h0_words, .inl (ty 0, 9, .inl h0_words_f))] sz)) (va_Qv (fun (u : va_W) => [(h0, .inr (1, [h0_v0, .ref h0_words, h0_v2])), (h0_words, .inl (ty 0, 9, .inl (upd (upd h0_words_f 4 p1) 7 p2)))] = u) (kz_B D ty (va_A [(h0, .inr (1, [h0_v0, .ref h0_words, h0_v2])), (h0_words, .inl (ty 0, 9, .inl h0_words_f))] sz)) (va_A [(h0, .inr (1, [h0_v0, .ref h0_words, h0_v2])), (h0_words, .inl (ty 0, 9, .inl h0_words_f))] sz)) 0 0 (va_A [(h0, .inr (1, [h0_v0, .ref h0_words, h0_v2])), (h0_words, .inl (ty 0, 9, .inl h0_words_f))] sz) := by
  refine Met.ofW (cc := cX1_setCommon) (maxL := 3) (ret := none) (by decide) rfl ?_
  intro p e s m args below meth c s₁ B hml hv
  obtain ⟨rfl, hsz, hP, hK, hD0, hN, hE⟩ := hv
  have hx := B.exec
  have hb := B.bytes
  have hr := B.returns
  have hts := atoms_spec (ws := wsX1_setCommon) B.pre
  have hown : s.vm.findClass RX1 = some m.cls := findClass_of_methodNamed B.named
  have hlocks := B.notSynchronized
  subst hsz
  have hD := hD0.self (sz := s.heap.size)
  generalize hAe : va_A [(h0, .inr (1, [h0_v0, .ref h0_words, h0_v2])), (h0_words, .inl (ty 0, 9, .inl h0_words_f))] s.heap.size = A at hD hE ⊢
  have hA : ∀ q : Nat, s.heap.size ≤ q → A q := fun q h => by rw [← hAe]; exact Or.inr h
  have hS : va_S A s.heap s.heap [] := va_S.rf
  have hl := lv_entry ([.ref h0, .int p1, .int p2]) (n := 3) (Nat.le_of_ble_eq_true rfl)
  rw [lg_entry_eq]
  generalize (lg_sl ([.ref h0, .int p1, .int p2]) ++ List.replicate (3 - (lg_sl ([.ref h0, .int p1, .int p2])).length) Slot.unset).toArray = ls at hl ⊢
  have hl : lv_has ls 3 [(0, .ref h0), (1, .int p1), (2, .int p2)] := hl
  refine lv_aload_n hx hb dX1_setCommon_0 rfl (lv_at hl 0 rfl) ?_
  refine va_get (D := D) (ci := 1) (v := .ref h0_words) (C := RX1) (T := TX1) (N := 3) hx hb hts (by decide +kernel) hown hK hP 0 rfl rfl 1 (by decide) (hts (.fieldLink RX1 11 "TurnedFloors$Judge" "words" "[I") (by decide +kernel)) (fun _ h9 => h9) rfl dX1_setCommon_1 ?_
  refine lv_iconst (v := 4) hx hb dX1_setCommon_4 (by decide) ?_
  refine lv_iload_n hx hb dX1_setCommon_5 rfl (lv_at hl 1 rfl) ?_
  refine va_iast hx hb hK hP hD hS 1 0 rfl rfl (by simp only [vp_in]; decide) dX1_setCommon_6 (fun H locs hP hD hS => ?_)
  have hP : va_P D vwCl [(h0, .inr (1, [h0_v0, .ref h0_words, h0_v2])), (h0_words, .inl (ty 0, 9, .inl (upd h0_words_f 4 p1)))] H := hP
  have hD : va_D A [(h0, .inr (1, [h0_v0, .ref h0_words, h0_v2])), (h0_words, .inl (ty 0, 9, .inl (upd h0_words_f 4 p1)))] := hD
  refine lv_aload_n hx hb dX1_setCommon_7 rfl (lv_at hl 0 rfl) ?_
  refine va_get (D := D) (ci := 1) (v := .ref h0_words) (C := RX1) (T := TX1) (N := 3) hx hb hts (by decide +kernel) hown hK hP 0 rfl rfl 1 (by decide) (hts (.fieldLink RX1 11 "TurnedFloors$Judge" "words" "[I") (by decide +kernel)) (fun _ h9 => h9) rfl dX1_setCommon_8 ?_
  refine lv_bipush (v := 7) hx hb dX1_setCommon_11 (by decide) ?_
  refine lv_iload_n hx hb dX1_setCommon_13 rfl (lv_at hl 2 rfl) ?_
  refine va_iast hx hb hK hP hD hS 1 0 rfl rfl (by simp only [vp_in]; decide) dX1_setCommon_14 (fun H locs hP hD hS => ?_)
  have hP : va_P D vwCl [(h0, .inr (1, [h0_v0, .ref h0_words, h0_v2])), (h0_words, .inl (ty 0, 9, .inl (upd (upd h0_words_f 4 p1) 7 p2)))] H := hP
  have hD : va_D A [(h0, .inr (1, [h0_v0, .ref h0_words, h0_v2])), (h0_words, .inl (ty 0, 9, .inl (upd (upd h0_words_f 4 p1) 7 p2)))] := hD
  exact kz_vret hx hb hr hlocks hP hK hD hS dX1_setCommon_15 rfl

set_option maxHeartbeats 4000000 in
set_option maxRecDepth 100000 in
theorem kX8_tell_45 (l : Launch) (D : va_G) (ty : Nat → ClassId) (eo : Nat → Nat) (sz : Nat) (p1 p1_rank p1_head : Nat) (p1_floors : Int32) (p1_v3 : Value) (p1_year : Int32) (p1_rank_f : Nat → Int32) : Met l yX8_tell wsX8_tell ({ frames := 1, cells := 0, slots := 0, locals := 21 }) (va_Pc [.ref p1, .int 0, .int 0] (kz_pre D ty eo [(p1, .inr (8, [.ref p1_rank, .ref p1_head, .int p1_floors, p1_v3, .int p1_year])), (p1_rank, .inl (ty 0, 6, .inl p1_rank_f))] sz)) (va_Qi (fun (r : Int32) (u : va_W) => (p1_floors ≤ 0 ∧ (-1) = r ∧ [(p1_rank, .inl (ty 0, 6, .inl p1_rank_f)), (p1, .inr (8, [.ref p1_rank, .ref p1_head, .int p1_floors, p1_v3, .int p1_year]))] = u) ∨ (¬ p1_floors ≤ 0 ∧ (p1_rank_f 0) = r ∧ [(p1_rank, .inl (ty 0, 6, .inl p1_rank_f)), (p1, .inr (8, [.ref p1_rank, .ref p1_head, .int p1_floors, p1_v3, .int p1_year]))] = u)) (kz_B D ty (va_A [(p1, .inr (8, [.ref p1_rank, .ref p1_head, .int p1_floors, p1_v3, .int p1_year])), (p1_rank, .inl (ty 0, 6, .inl p1_rank_f))] sz)) (va_A [(p1, .inr (8, [.ref p1_rank, .ref p1_head, .int p1_floors, p1_v3, .int p1_year])), (p1_rank, .inl (ty 0, 6, .inl p1_rank_f))] sz)) 0 0 (va_A [(p1, .inr (8, [.ref p1_rank, .ref p1_head, .int p1_floors, p1_v3, .int p1_year])), (p1_rank, .inl (ty 0, 6, .inl p1_rank_f))] sz) := by
  refine Met.ofW (cc := cX8_tell) (maxL := 3) (ret := (some .int)) (by decide) rfl ?_
  intro p e s m args below meth c s₁ B hml hv
  obtain ⟨rfl, hsz, hP, hK, hD0, hN, hE⟩ := hv
  have hx := B.exec
  have hb := B.bytes
  have hr := B.returns
  have hts := atoms_spec (ws := wsX8_tell) B.pre
  have hown : s.vm.findClass RX8 = some m.cls := findClass_of_methodNamed B.named
  have hlocks := B.notSynchronized
  subst hsz
  have hD := hD0.self (sz := s.heap.size)
  generalize hAe : va_A [(p1, .inr (8, [.ref p1_rank, .ref p1_head, .int p1_floors, p1_v3, .int p1_year])), (p1_rank, .inl (ty 0, 6, .inl p1_rank_f))] s.heap.size = A at hD hE ⊢
  have hA : ∀ q : Nat, s.heap.size ≤ q → A q := fun q h => by rw [← hAe]; exact Or.inr h
  have hS : va_S A s.heap s.heap [] := va_S.rf
  have hl := lv_entry ([.ref p1, .int 0, .int 0]) (n := 3) (Nat.le_of_ble_eq_true rfl)
  rw [lg_entry_eq]
  generalize (lg_sl ([.ref p1, .int 0, .int 0]) ++ List.replicate (3 - (lg_sl ([.ref p1, .int 0, .int 0])).length) Slot.unset).toArray = ls at hl ⊢
  have hl : lv_has ls 3 [(0, .ref p1), (1, .int 0), (2, .int 0)] := hl
  refine lv_aload_n hx hb dX8_tell_0 rfl (lv_at hl 0 rfl) ?_
  refine lv_iload_n hx hb dX8_tell_1 rfl (lv_at hl 1 rfl) ?_
  refine kz_ki (wc := [(p1, .inr (8, [.ref p1_rank, .ref p1_head, .int p1_floors, p1_v3, .int p1_year]))]) (wr := [(p1_rank, .inl (ty 0, 6, .inl p1_rank_f))]) (va_runV (As := [.int 0]) (rest := []) ⟨hx, hb, hml, hown, hts⟩ (kcX8_isFloor l D ty eo _ p1 (.ref p1_rank) (.ref p1_head) p1_v3 (.int p1_year) 0 p1_floors) (cwV 1 hts gX8_tell_X8_isFloor rfl rfl rfl (by decide +kernel) ⟨Nat.le_of_ble_eq_true rfl, Nat.le_of_ble_eq_true rfl⟩) (kz_preV (ci := 8) (q0 := 0) hK hN hE hP hD hS hA rfl rfl [0] (by decide) rfl) rfl rfl hl.1 rfl (lv_room (Nat.le_of_ble_eq_true rfl)) dX8_tell_2 ⟨Nat.le_of_ble_eq_true rfl, Nat.le_of_ble_eq_true rfl⟩) hP hD hS hA [0] [1] rfl rfl (by decide) (by decide) (fun r u H locs hw hP hD hS => ?_)
  rcases hw with ⟨c_1, rfl, rfl⟩ | ⟨c_2, c_3, rfl, rfl⟩ | ⟨c_4, c_5, rfl, rfl⟩
  · exact absurd c_1 (by decide)
  · have hP : va_P D vwCl [(p1_rank, .inl (ty 0, 6, .inl p1_rank_f)), (p1, .inr (8, [.ref p1_rank, .ref p1_head, .int p1_floors, p1_v3, .int p1_year]))] H := hP
    have hD : va_D A [(p1_rank, .inl (ty 0, 6, .inl p1_rank_f)), (p1, .inr (8, [.ref p1_rank, .ref p1_head, .int p1_floors, p1_v3, .int p1_year]))] := hD
    refine lv_if_eq (tgt := 15) hx hb dX8_tell_5 (by decide) (fun _ => ?_) (fun h => absurd (by decide) h)
    refine lv_iconst (v := (-1)) hx hb dX8_tell_15 (by decide) ?_
    exact kz_iret hx hb hr hlocks hP hK hD hS dX8_tell_16 (Or.inl ⟨c_3, rfl, rfl⟩)
  · have hP : va_P D vwCl [(p1_rank, .inl (ty 0, 6, .inl p1_rank_f)), (p1, .inr (8, [.ref p1_rank, .ref p1_head, .int p1_floors, p1_v3, .int p1_year]))] H := hP
    have hD : va_D A [(p1_rank, .inl (ty 0, 6, .inl p1_rank_f)), (p1, .inr (8, [.ref p1_rank, .ref p1_head, .int p1_floors, p1_v3, .int p1_year]))] := hD
    refine lv_if_eq (tgt := 15) hx hb dX8_tell_5 (by decide) (fun h => absurd h (by decide)) (fun _ => ?_)
    refine lv_iload_n hx hb dX8_tell_8 rfl (lv_at hl 2 rfl) ?_
    refine kz_ki (wc := []) (wr := [(p1_rank, .inl (ty 0, 6, .inl p1_rank_f)), (p1, .inr (8, [.ref p1_rank, .ref p1_head, .int p1_floors, p1_v3, .int p1_year]))]) (va_runSN (As := [.int 0]) (rest := []) ⟨hx, hb, hml, hown, hts⟩ (kcX9_isBit l D ty eo _ 0) ⟨va_cnB 1 hts gX8_tell_X9_isBit_n32 rfl rfl rfl (hN.1 _ (by decide +kernel : (.methodLinkNest "TurnedFloors$Tower" 32 yX9_isBit "TurnedFloors" : Cond) ∈ kzN1)) (hts (.initialized RX9) (by decide +kernel)) (by decide +kernel) ⟨Nat.le_of_ble_eq_true rfl, Nat.le_of_ble_eq_true rfl⟩, hts (.static yX9_isBit) (by decide +kernel), trivial⟩ (kz_preS hK hN hE hP hD hS hA [] (by decide) rfl) rfl rfl hl.1 rfl (lv_room (Nat.le_of_ble_eq_true rfl)) dX8_tell_9 ⟨Nat.le_of_ble_eq_true rfl, Nat.le_of_ble_eq_true rfl⟩) hP hD hS hA [] [0, 1] rfl rfl (by decide) (by decide) (fun r u H locs hw hP hD hS => ?_)
    rcases hw with ⟨c_6, rfl, rfl⟩ | ⟨c_7, c_8, rfl, rfl⟩ | ⟨c_9, c_10, rfl, rfl⟩
    · have hP : va_P D vwCl [(p1_rank, .inl (ty 0, 6, .inl p1_rank_f)), (p1, .inr (8, [.ref p1_rank, .ref p1_head, .int p1_floors, p1_v3, .int p1_year]))] H := hP
      have hD : va_D A [(p1_rank, .inl (ty 0, 6, .inl p1_rank_f)), (p1, .inr (8, [.ref p1_rank, .ref p1_head, .int p1_floors, p1_v3, .int p1_year]))] := hD
      refine lv_if_ne (tgt := 17) hx hb dX8_tell_12 (by decide) (fun _ => ?_) (fun h => absurd h (by decide))
      refine lv_iload_n hx hb dX8_tell_17 rfl (lv_at hl 2 rfl) ?_
      refine lv_if_ne (tgt := 30) hx hb dX8_tell_18 (by decide) (fun h => absurd (by decide) h) (fun _ => ?_)
      refine lv_aload_n hx hb dX8_tell_21 rfl (lv_at hl 0 rfl) ?_
      refine va_get (D := D) (ci := 8) (v := .ref p1_rank) (C := RX8) (T := TX8) (N := 5) hx hb hts (by decide +kernel) hown hK hP 1 rfl rfl 0 (by decide) (hts (.fieldLink RX8 9 "TurnedFloors$Tower" "rank" "[I") (by decide +kernel)) (fun _ h9 => h9) rfl dX8_tell_22 ?_
      refine lv_iload_n hx hb dX8_tell_25 rfl (lv_at hl 1 rfl) ?_
      refine va_iald hx hb hK hP 0 0 rfl rfl (by simp only [vp_in]; decide) dX8_tell_26 ?_
      refine lv_topi (fun z_11 ez_11 => ?_)
      obtain rfl : z_11 = p1_rank_f 0 := ez_11.trans (by first | rfl | decide +kernel)
      refine lv_goto (tgt := 36) hx hb dX8_tell_27 (by decide) ?_
      exact kz_iret hx hb hr hlocks hP hK hD hS dX8_tell_36 (Or.inr ⟨c_5, rfl, rfl⟩)
    · exact absurd c_7 (by decide)
    · exact absurd c_9 (by decide)

set_option maxHeartbeats 4000000 in
set_option maxRecDepth 100000 in
theorem kX8_turnTop_57 (l : Launch) (D : va_G) (ty : Nat → ClassId) (eo : Nat → Nat) (sz : Nat) (x_state_tower : Nat) (a1 : Int32) (x_judge x_state_tower_rank x_state_tower_head : Nat) : Met l yX8_turnTop wsX8_turnTop ({ frames := 0, cells := 0, slots := 0, locals := 0 }) (va_Pc [.ref x_state_tower, .int a1, .ref x_judge] (kz_pre D ty eo [(x_state_tower, .inr (8, [.ref x_state_tower_rank, .ref x_state_tower_head, .int 0, .int 0, .int 0]))] sz)) (va_Qi (fun (r : Int32) (u : va_W) => (a1 < 1 ∧ (-1) = r ∧ [(x_state_tower, .inr (8, [.ref x_state_tower_rank, .ref x_state_tower_head, .int 0, .int 0, .int 0]))] = u) ∨ (¬ a1 < 1 ∧ a1 ≤ 6 ∧ (-3) = r ∧ [(x_state_tower, .inr (8, [.ref x_state_tower_rank, .ref x_state_tower_head, .int 0, .int 0, .int 0]))] = u) ∨ (¬ a1 < 1 ∧ ¬ a1 ≤ 6 ∧ (-1) = r ∧ [(x_state_tower, .inr (8, [.ref x_state_tower_rank, .ref x_state_tower_head, .int 0, .int 0, .int 0]))] = u)) (kz_B D ty (va_A [(x_state_tower, .inr (8, [.ref x_state_tower_rank, .ref x_state_tower_head, .int 0, .int 0, .int 0]))] sz)) (va_A [(x_state_tower, .inr (8, [.ref x_state_tower_rank, .ref x_state_tower_head, .int 0, .int 0, .int 0]))] sz)) 0 0 (va_A [(x_state_tower, .inr (8, [.ref x_state_tower_rank, .ref x_state_tower_head, .int 0, .int 0, .int 0]))] sz) := by
  refine Met.ofW (cc := cX8_turnTop) (maxL := 6) (ret := (some .int)) (by decide) rfl ?_
  intro p e s m args below meth c s₁ B hml hv
  obtain ⟨rfl, hsz, hP, hK, hD0, hN, hE⟩ := hv
  have hx := B.exec
  have hb := B.bytes
  have hr := B.returns
  have hts := atoms_spec (ws := wsX8_turnTop) B.pre
  have hown : s.vm.findClass RX8 = some m.cls := findClass_of_methodNamed B.named
  have hlocks := B.notSynchronized
  subst hsz
  have hD := hD0.self (sz := s.heap.size)
  generalize hAe : va_A [(x_state_tower, .inr (8, [.ref x_state_tower_rank, .ref x_state_tower_head, .int 0, .int 0, .int 0]))] s.heap.size = A at hD hE ⊢
  have hA : ∀ q : Nat, s.heap.size ≤ q → A q := fun q h => by rw [← hAe]; exact Or.inr h
  have hS : va_S A s.heap s.heap [] := va_S.rf
  have hl := lv_entry ([.ref x_state_tower, .int a1, .ref x_judge]) (n := 6) (Nat.le_of_ble_eq_true rfl)
  rw [lg_entry_eq]
  generalize (lg_sl ([.ref x_state_tower, .int a1, .ref x_judge]) ++ List.replicate (6 - (lg_sl ([.ref x_state_tower, .int a1, .ref x_judge])).length) Slot.unset).toArray = ls at hl ⊢
  have hl : lv_has ls 6 [(0, .ref x_state_tower), (1, .int a1), (2, .ref x_judge)] := hl
  refine lv_iload_n hx hb dX8_turnTop_0 rfl (lv_at hl 1 rfl) ?_
  refine lv_iconst (v := 1) hx hb dX8_turnTop_1 (by decide) ?_
  refine lv_icmp_lt (tgt := 11) hx hb dX8_turnTop_2 (by decide) (fun c_1 => ?_) (fun c_1 => ?_)
  · refine lv_iconst (v := (-1)) hx hb dX8_turnTop_11 (by decide) ?_
    exact kz_iret hx hb hr hlocks hP hK hD hS dX8_turnTop_12 (Or.inl ⟨c_1, rfl, rfl⟩)
  · refine lv_iload_n hx hb dX8_turnTop_5 rfl (lv_at hl 1 rfl) ?_
    refine lv_bipush (v := 6) hx hb dX8_turnTop_6 (by decide) ?_
    refine lv_icmp_le (tgt := 13) hx hb dX8_turnTop_8 (by decide) (fun c_2 => ?_) (fun c_2 => ?_)
    · refine lv_iload_n hx hb dX8_turnTop_13 rfl (lv_at hl 1 rfl) ?_
      refine lv_aload_n hx hb dX8_turnTop_14 rfl (lv_at hl 0 rfl) ?_
      refine va_get (D := D) (ci := 8) (v := .int 0) (C := RX8) (T := TX8) (N := 5) hx hb hts (by decide +kernel) hown hK hP 0 rfl rfl 2 (by decide) (hts (.fieldLink RX8 18 "TurnedFloors$Tower" "floors" "I") (by decide +kernel)) (fun _ h9 => h9) rfl dX8_turnTop_15 ?_
      refine lv_icmp_gt (tgt := 30) hx hb dX8_turnTop_18 (by decide) (fun _ => ?_) (fun h => kz_false (by simp only [Int32.lt_iff_toInt_lt, Int32.le_iff_toInt_le, ← Int32.toInt_inj, Int32.reduceToInt] at c_1 c_2 h; omega))
      refine lv_bipush (v := (-3)) hx hb dX8_turnTop_30 (by decide) ?_
      exact kz_iret hx hb hr hlocks hP hK hD hS dX8_turnTop_32 (Or.inr (Or.inl ⟨c_1, c_2, rfl, rfl⟩))
    · refine lv_iconst (v := (-1)) hx hb dX8_turnTop_11 (by decide) ?_
      exact kz_iret hx hb hr hlocks hP hK hD hS dX8_turnTop_12 (Or.inr (Or.inr ⟨c_1, c_2, rfl, rfl⟩))

set_option maxHeartbeats 4000000 in
set_option maxRecDepth 100000 in
theorem kX8_act_56 (l : Launch) (D : va_G) (ty : Nat → ClassId) (eo : Nat → Nat) (sz : Nat) (x_state_tower : Nat) (a2 : Int32) (x_judge x_state_tower_rank x_state_tower_head : Nat) : Met l yX8_act wsX8_act ({ frames := 1, cells := 0, slots := 0, locals := 25 }) (va_Pc [.ref x_state_tower, .int 0, .int a2, .ref x_judge] (kz_pre D ty eo [(x_state_tower, .inr (8, [.ref x_state_tower_rank, .ref x_state_tower_head, .int 0, .int 0, .int 0]))] sz)) (va_Qi (fun (r : Int32) (u : va_W) => (a2 < 1 ∧ (-1) = r ∧ [(x_state_tower, .inr (8, [.ref x_state_tower_rank, .ref x_state_tower_head, .int 0, .int 0, .int 0]))] = u) ∨ (¬ a2 < 1 ∧ a2 ≤ 6 ∧ (-3) = r ∧ [(x_state_tower, .inr (8, [.ref x_state_tower_rank, .ref x_state_tower_head, .int 0, .int 0, .int 0]))] = u) ∨ (¬ a2 < 1 ∧ ¬ a2 ≤ 6 ∧ (-1) = r ∧ [(x_state_tower, .inr (8, [.ref x_state_tower_rank, .ref x_state_tower_head, .int 0, .int 0, .int 0]))] = u)) (kz_B D ty (va_A [(x_state_tower, .inr (8, [.ref x_state_tower_rank, .ref x_state_tower_head, .int 0, .int 0, .int 0]))] sz)) (va_A [(x_state_tower, .inr (8, [.ref x_state_tower_rank, .ref x_state_tower_head, .int 0, .int 0, .int 0]))] sz)) 0 0 (va_A [(x_state_tower, .inr (8, [.ref x_state_tower_rank, .ref x_state_tower_head, .int 0, .int 0, .int 0]))] sz) := by
  refine Met.ofW (cc := cX8_act) (maxL := 4) (ret := (some .int)) (by decide) rfl ?_
  intro p e s m args below meth c s₁ B hml hv
  obtain ⟨rfl, hsz, hP, hK, hD0, hN, hE⟩ := hv
  have hx := B.exec
  have hb := B.bytes
  have hr := B.returns
  have hts := atoms_spec (ws := wsX8_act) B.pre
  have hown : s.vm.findClass RX8 = some m.cls := findClass_of_methodNamed B.named
  have hlocks := B.notSynchronized
  subst hsz
  have hD := hD0.self (sz := s.heap.size)
  generalize hAe : va_A [(x_state_tower, .inr (8, [.ref x_state_tower_rank, .ref x_state_tower_head, .int 0, .int 0, .int 0]))] s.heap.size = A at hD hE ⊢
  have hA : ∀ q : Nat, s.heap.size ≤ q → A q := fun q h => by rw [← hAe]; exact Or.inr h
  have hS : va_S A s.heap s.heap [] := va_S.rf
  have hl := lv_entry ([.ref x_state_tower, .int 0, .int a2, .ref x_judge]) (n := 4) (Nat.le_of_ble_eq_true rfl)
  rw [lg_entry_eq]
  generalize (lg_sl ([.ref x_state_tower, .int 0, .int a2, .ref x_judge]) ++ List.replicate (4 - (lg_sl ([.ref x_state_tower, .int 0, .int a2, .ref x_judge])).length) Slot.unset).toArray = ls at hl ⊢
  have hl : lv_has ls 4 [(0, .ref x_state_tower), (1, .int 0), (2, .int a2), (3, .ref x_judge)] := hl
  refine lv_iload_n hx hb dX8_act_0 rfl (lv_at hl 1 rfl) ?_
  refine lv_tableIn (off := 31) (tgt := 32) hx hb dX8_act_1 (by decide) (by decide) (by decide) (by decide) ?_
  refine lv_aload_n hx hb dX8_act_32 rfl (lv_at hl 0 rfl) ?_
  refine lv_iload_n hx hb dX8_act_33 rfl (lv_at hl 2 rfl) ?_
  refine lv_aload_n hx hb dX8_act_34 rfl (lv_at hl 3 rfl) ?_
  refine kz_ki (wc := [(x_state_tower, .inr (8, [.ref x_state_tower_rank, .ref x_state_tower_head, .int 0, .int 0, .int 0]))]) (wr := []) (va_runV (As := [.int a2, .ref x_judge]) (rest := []) ⟨hx, hb, hml, hown, hts⟩ (kX8_turnTop_57 l D ty eo _ x_state_tower a2 x_judge x_state_tower_rank x_state_tower_head) (cwV 2 hts gX8_act_X8_turnTop rfl rfl rfl (by decide +kernel) ⟨Nat.le_of_ble_eq_true rfl, Nat.le_of_ble_eq_true rfl⟩) (kz_preV (ci := 8) (q0 := 0) hK hN hE hP hD hS hA rfl rfl [0] (by decide) rfl) rfl rfl hl.1 rfl (lv_room (Nat.le_of_ble_eq_true rfl)) dX8_act_35 ⟨Nat.le_of_ble_eq_true rfl, Nat.le_of_ble_eq_true rfl⟩) hP hD hS hA [0] [] rfl rfl (by decide) (by decide) (fun r u H locs hw hP hD hS => ?_)
  rcases hw with ⟨c_1, rfl, rfl⟩ | ⟨c_2, c_3, rfl, rfl⟩ | ⟨c_4, c_5, rfl, rfl⟩
  · have hP : va_P D vwCl [(x_state_tower, .inr (8, [.ref x_state_tower_rank, .ref x_state_tower_head, .int 0, .int 0, .int 0]))] H := hP
    have hD : va_D A [(x_state_tower, .inr (8, [.ref x_state_tower_rank, .ref x_state_tower_head, .int 0, .int 0, .int 0]))] := hD
    exact kz_iret hx hb hr hlocks hP hK hD hS dX8_act_38 (Or.inl ⟨c_1, rfl, rfl⟩)
  · have hP : va_P D vwCl [(x_state_tower, .inr (8, [.ref x_state_tower_rank, .ref x_state_tower_head, .int 0, .int 0, .int 0]))] H := hP
    have hD : va_D A [(x_state_tower, .inr (8, [.ref x_state_tower_rank, .ref x_state_tower_head, .int 0, .int 0, .int 0]))] := hD
    exact kz_iret hx hb hr hlocks hP hK hD hS dX8_act_38 (Or.inr (Or.inl ⟨c_2, c_3, rfl, rfl⟩))
  · have hP : va_P D vwCl [(x_state_tower, .inr (8, [.ref x_state_tower_rank, .ref x_state_tower_head, .int 0, .int 0, .int 0]))] H := hP
    have hD : va_D A [(x_state_tower, .inr (8, [.ref x_state_tower_rank, .ref x_state_tower_head, .int 0, .int 0, .int 0]))] := hD
    exact kz_iret hx hb hr hlocks hP hK hD hS dX8_act_38 (Or.inr (Or.inr ⟨c_4, c_5, rfl, rfl⟩))

set_option maxHeartbeats 4000000 in
set_option maxRecDepth 100000 in
theorem kX9_refuse_58 (l : Launch) (D : va_G) (ty : Nat → ClassId) (eo : Nat → Nat) (sz : Nat) (x x_state x_images x_kept x_history x_drawnTower x_machine x_judge x_runner x_reader x_draft x_paper x_tape x_chances x_refusals : Nat) : Met l yX9_refuse wsX9_refuse ({ frames := 0, cells := 0, slots := 0, locals := 0 }) (va_Pc [.ref x, .int (-3)] (kz_pre D ty eo [(x, .inr (9, [.ref x_state, .ref x_images, .ref x_kept, .ref x_history, .ref x_drawnTower, .ref x_machine, .ref x_judge, .ref x_runner, .ref x_reader, .ref x_draft, .ref x_paper, .ref x_tape, .int 0, .int (-1), .int 0, .int (-1), .ref x_chances, .ref x_refusals, .int 0])), (x_refusals, .inl (ty 0, 7, .inl (fun _ => 0)))] sz)) (va_Qi (fun (r : Int32) (u : va_W) => (-3) = r ∧ [(x, .inr (9, [.ref x_state, .ref x_images, .ref x_kept, .ref x_history, .ref x_drawnTower, .ref x_machine, .ref x_judge, .ref x_runner, .ref x_reader, .ref x_draft, .ref x_paper, .ref x_tape, .int 0, .int (-1), .int 0, .int (-1), .ref x_chances, .ref x_refusals, .int (-3)])), (x_refusals, .inl (ty 0, 7, .inl (upd (fun _ => 0) 3 1)))] = u) (kz_B D ty (va_A [(x, .inr (9, [.ref x_state, .ref x_images, .ref x_kept, .ref x_history, .ref x_drawnTower, .ref x_machine, .ref x_judge, .ref x_runner, .ref x_reader, .ref x_draft, .ref x_paper, .ref x_tape, .int 0, .int (-1), .int 0, .int (-1), .ref x_chances, .ref x_refusals, .int 0])), (x_refusals, .inl (ty 0, 7, .inl (fun _ => 0)))] sz)) (va_A [(x, .inr (9, [.ref x_state, .ref x_images, .ref x_kept, .ref x_history, .ref x_drawnTower, .ref x_machine, .ref x_judge, .ref x_runner, .ref x_reader, .ref x_draft, .ref x_paper, .ref x_tape, .int 0, .int (-1), .int 0, .int (-1), .ref x_chances, .ref x_refusals, .int 0])), (x_refusals, .inl (ty 0, 7, .inl (fun _ => 0)))] sz)) 0 0 (va_A [(x, .inr (9, [.ref x_state, .ref x_images, .ref x_kept, .ref x_history, .ref x_drawnTower, .ref x_machine, .ref x_judge, .ref x_runner, .ref x_reader, .ref x_draft, .ref x_paper, .ref x_tape, .int 0, .int (-1), .int 0, .int (-1), .ref x_chances, .ref x_refusals, .int 0])), (x_refusals, .inl (ty 0, 7, .inl (fun _ => 0)))] sz) := by
  refine Met.ofW (cc := cX9_refuse) (maxL := 2) (ret := (some .int)) (by decide) rfl ?_
  intro p e s m args below meth c s₁ B hml hv
  obtain ⟨rfl, hsz, hP, hK, hD0, hN, hE⟩ := hv
  have hx := B.exec
  have hb := B.bytes
  have hr := B.returns
  have hts := atoms_spec (ws := wsX9_refuse) B.pre
  have hown : s.vm.findClass RX9 = some m.cls := findClass_of_methodNamed B.named
  have hlocks := B.notSynchronized
  subst hsz
  have hD := hD0.self (sz := s.heap.size)
  generalize hAe : va_A [(x, .inr (9, [.ref x_state, .ref x_images, .ref x_kept, .ref x_history, .ref x_drawnTower, .ref x_machine, .ref x_judge, .ref x_runner, .ref x_reader, .ref x_draft, .ref x_paper, .ref x_tape, .int 0, .int (-1), .int 0, .int (-1), .ref x_chances, .ref x_refusals, .int 0])), (x_refusals, .inl (ty 0, 7, .inl (fun _ => 0)))] s.heap.size = A at hD hE ⊢
  have hA : ∀ q : Nat, s.heap.size ≤ q → A q := fun q h => by rw [← hAe]; exact Or.inr h
  have hS : va_S A s.heap s.heap [] := va_S.rf
  have hl := lv_entry ([.ref x, .int (-3)]) (n := 2) (Nat.le_of_ble_eq_true rfl)
  rw [lg_entry_eq]
  generalize (lg_sl ([.ref x, .int (-3)]) ++ List.replicate (2 - (lg_sl ([.ref x, .int (-3)])).length) Slot.unset).toArray = ls at hl ⊢
  have hl : lv_has ls 2 [(0, .ref x), (1, .int (-3))] := hl
  refine lv_aload_n hx hb dX9_refuse_0 rfl (lv_at hl 0 rfl) ?_
  refine lv_iload_n hx hb dX9_refuse_1 rfl (lv_at hl 1 rfl) ?_
  refine va_put (D := D) (ci := 9) (v := .int (-3)) (ty := .int) (C := RX9) (T := TX9) (N := 19) hx hb hts (by decide +kernel) tyX9 tyX9_ok nmX9 hown hK hP hD hS 0 rfl rfl 18 (by decide) (hts (.fieldLink RX9 108 "TurnedFloors" "latestStatus" "I") (by decide +kernel)) (fun _ h9 => h9) rfl (by decide +kernel) rfl rfl (Nat.le_of_ble_eq_true rfl) dX9_refuse_2 (fun H locs hP hD hS => ?_)
  have hP : va_P D vwCl [(x, .inr (9, [.ref x_state, .ref x_images, .ref x_kept, .ref x_history, .ref x_drawnTower, .ref x_machine, .ref x_judge, .ref x_runner, .ref x_reader, .ref x_draft, .ref x_paper, .ref x_tape, .int 0, .int (-1), .int 0, .int (-1), .ref x_chances, .ref x_refusals, .int (-3)])), (x_refusals, .inl (ty 0, 7, .inl (fun _ => 0)))] H := hP
  have hD : va_D A [(x, .inr (9, [.ref x_state, .ref x_images, .ref x_kept, .ref x_history, .ref x_drawnTower, .ref x_machine, .ref x_judge, .ref x_runner, .ref x_reader, .ref x_draft, .ref x_paper, .ref x_tape, .int 0, .int (-1), .int 0, .int (-1), .ref x_chances, .ref x_refusals, .int (-3)])), (x_refusals, .inl (ty 0, 7, .inl (fun _ => 0)))] := hD
  refine lv_iload_n hx hb dX9_refuse_5 rfl (lv_at hl 1 rfl) ?_
  refine lv_if_ge (tgt := 26) hx hb dX9_refuse_6 (by decide) (fun h => absurd h (by decide)) (fun _ => ?_)
  refine lv_iload_n hx hb dX9_refuse_9 rfl (lv_at hl 1 rfl) ?_
  refine lv_bipush (v := (-6)) hx hb dX9_refuse_10 (by decide) ?_
  refine lv_icmp_lt (tgt := 26) hx hb dX9_refuse_12 (by decide) (fun h => absurd h (by decide)) (fun _ => ?_)
  refine lv_aload_n hx hb dX9_refuse_15 rfl (lv_at hl 0 rfl) ?_
  refine va_get (D := D) (ci := 9) (v := .ref x_refusals) (C := RX9) (T := TX9) (N := 19) hx hb hts (by decide +kernel) hown hK hP 0 rfl rfl 17 (by decide) (hts (.fieldLink RX9 105 "TurnedFloors" "refusals" "[I") (by decide +kernel)) (fun _ h9 => h9) rfl dX9_refuse_16 ?_
  refine lv_iload_n hx hb dX9_refuse_19 rfl (lv_at hl 1 rfl) ?_
  refine lv_ineg hx hb dX9_refuse_20 ?_
  refine lv_topi (fun z_1 ez_1 => ?_)
  obtain rfl : z_1 = 3 := ez_1.trans (by first | rfl | decide +kernel)
  refine lv_dup2_11 hx hb dX9_refuse_21 rfl rfl ?_
  refine va_iald hx hb hK hP 1 0 rfl rfl (by simp only [vp_in]; decide) dX9_refuse_22 ?_
  refine lv_topi (fun z_2 ez_2 => ?_)
  obtain rfl : z_2 = 0 := ez_2.trans (by first | rfl | decide +kernel)
  refine lv_iconst (v := 1) hx hb dX9_refuse_23 (by decide) ?_
  refine lv_iadd hx hb dX9_refuse_24 ?_
  refine lv_topi (fun z_3 ez_3 => ?_)
  obtain rfl : z_3 = 1 := ez_3.trans (by first | rfl | decide +kernel)
  refine va_iast hx hb hK hP hD hS 1 0 rfl rfl (by simp only [vp_in]; decide) dX9_refuse_25 (fun H locs hP hD hS => ?_)
  have hP : va_P D vwCl [(x, .inr (9, [.ref x_state, .ref x_images, .ref x_kept, .ref x_history, .ref x_drawnTower, .ref x_machine, .ref x_judge, .ref x_runner, .ref x_reader, .ref x_draft, .ref x_paper, .ref x_tape, .int 0, .int (-1), .int 0, .int (-1), .ref x_chances, .ref x_refusals, .int (-3)])), (x_refusals, .inl (ty 0, 7, .inl (upd (fun _ => 0) 3 1)))] H := hP
  have hD : va_D A [(x, .inr (9, [.ref x_state, .ref x_images, .ref x_kept, .ref x_history, .ref x_drawnTower, .ref x_machine, .ref x_judge, .ref x_runner, .ref x_reader, .ref x_draft, .ref x_paper, .ref x_tape, .int 0, .int (-1), .int 0, .int (-1), .ref x_chances, .ref x_refusals, .int (-3)])), (x_refusals, .inl (ty 0, 7, .inl (upd (fun _ => 0) 3 1)))] := hD
  refine lv_iload_n hx hb dX9_refuse_26 rfl (lv_at hl 1 rfl) ?_
  exact kz_iret hx hb hr hlocks hP hK hD hS dX9_refuse_27 ⟨rfl, rfl⟩

set_option maxHeartbeats 4000000 in
set_option maxRecDepth 100000 in
theorem kX9_move_39 (l : Launch) (D : va_G) (ty : Nat → ClassId) (eo : Nat → Nat) (sz : Nat) (x : Nat) (a2 : Int32) (x_state x_images x_kept x_history x_drawnTower x_machine x_judge x_runner x_reader x_draft x_paper x_tape x_chances x_refusals x_state_tower x_state_seenPlace x_state_seenRank x_state_laws x_state_tower_rank x_state_tower_head x_judge_words : Nat) : Met l yX9_move wsX9_move ({ frames := 3, cells := 0, slots := 0, locals := 62 }) (va_Pc [.ref x, .int 0, .int a2] (kz_pre D ty eo [(x, .inr (9, [.ref x_state, .ref x_images, .ref x_kept, .ref x_history, .ref x_drawnTower, .ref x_machine, .ref x_judge, .ref x_runner, .ref x_reader, .ref x_draft, .ref x_paper, .ref x_tape, .int 0, .int (-1), .int 0, .int (-1), .ref x_chances, .ref x_refusals, .int 0])), (x_state, .inr (6, [.ref x_state_tower, .int 1, .int 0, .int 0, .ref x_state_seenPlace, .ref x_state_seenRank, .int 0, .ref x_state_laws, .int 0, .int (-1)])), (x_state_tower, .inr (8, [.ref x_state_tower_rank, .ref x_state_tower_head, .int 0, .int 0, .int 0])), (x_state_tower_rank, .inl (ty 0, 6, .inl (fun _ => 0))), (x_state_tower_head, .inl (ty 0, 6, .inl (fun _ => 0))), (x_judge, .inr (1, [.ref x_machine, .ref x_judge_words, .null])), (x_judge_words, .inl (ty 0, 9, .inl (fun _ => 0))), (x_refusals, .inl (ty 0, 7, .inl (fun _ => 0)))] sz)) (va_Qi (fun (r : Int32) (u : va_W) => (a2 < 1 ∧ (-1) = r ∧ [(x_state_tower_rank, .inl (ty 0, 6, .inl (fun _ => 0))), (x_state_tower_head, .inl (ty 0, 6, .inl (fun _ => 0))), (x_state, .inr (6, [.ref x_state_tower, .int 1, .int 0, .int 0, .ref x_state_seenPlace, .ref x_state_seenRank, .int 0, .ref x_state_laws, .int 0, .int (-1)])), (x_judge, .inr (1, [.ref x_machine, .ref x_judge_words, .null])), (x_judge_words, .inl (ty 0, 9, .inl (upd (fun _ => 0) 8 0))), (x_state_tower, .inr (8, [.ref x_state_tower_rank, .ref x_state_tower_head, .int 0, .int 0, .int 0])), (x, .inr (9, [.ref x_state, .ref x_images, .ref x_kept, .ref x_history, .ref x_drawnTower, .ref x_machine, .ref x_judge, .ref x_runner, .ref x_reader, .ref x_draft, .ref x_paper, .ref x_tape, .int 0, .int (-1), .int 0, .int (-1), .ref x_chances, .ref x_refusals, .int (-1)])), (x_refusals, .inl (ty 0, 7, .inl (upd (fun _ => 0) 1 1)))] = u) ∨ (¬ a2 < 1 ∧ a2 ≤ 6 ∧ (-3) = r ∧ [(x_state_tower_rank, .inl (ty 0, 6, .inl (fun _ => 0))), (x_state_tower_head, .inl (ty 0, 6, .inl (fun _ => 0))), (x_state, .inr (6, [.ref x_state_tower, .int 1, .int 0, .int 0, .ref x_state_seenPlace, .ref x_state_seenRank, .int 0, .ref x_state_laws, .int 0, .int (-1)])), (x_judge, .inr (1, [.ref x_machine, .ref x_judge_words, .null])), (x_judge_words, .inl (ty 0, 9, .inl (upd (fun _ => 0) 8 0))), (x_state_tower, .inr (8, [.ref x_state_tower_rank, .ref x_state_tower_head, .int 0, .int 0, .int 0])), (x, .inr (9, [.ref x_state, .ref x_images, .ref x_kept, .ref x_history, .ref x_drawnTower, .ref x_machine, .ref x_judge, .ref x_runner, .ref x_reader, .ref x_draft, .ref x_paper, .ref x_tape, .int 0, .int (-1), .int 0, .int (-1), .ref x_chances, .ref x_refusals, .int (-3)])), (x_refusals, .inl (ty 0, 7, .inl (upd (fun _ => 0) 3 1)))] = u) ∨ (¬ a2 < 1 ∧ ¬ a2 ≤ 6 ∧ (-1) = r ∧ [(x_state_tower_rank, .inl (ty 0, 6, .inl (fun _ => 0))), (x_state_tower_head, .inl (ty 0, 6, .inl (fun _ => 0))), (x_state, .inr (6, [.ref x_state_tower, .int 1, .int 0, .int 0, .ref x_state_seenPlace, .ref x_state_seenRank, .int 0, .ref x_state_laws, .int 0, .int (-1)])), (x_judge, .inr (1, [.ref x_machine, .ref x_judge_words, .null])), (x_judge_words, .inl (ty 0, 9, .inl (upd (fun _ => 0) 8 0))), (x_state_tower, .inr (8, [.ref x_state_tower_rank, .ref x_state_tower_head, .int 0, .int 0, .int 0])), (x, .inr (9, [.ref x_state, .ref x_images, .ref x_kept, .ref x_history, .ref x_drawnTower, .ref x_machine, .ref x_judge, .ref x_runner, .ref x_reader, .ref x_draft, .ref x_paper, .ref x_tape, .int 0, .int (-1), .int 0, .int (-1), .ref x_chances, .ref x_refusals, .int (-1)])), (x_refusals, .inl (ty 0, 7, .inl (upd (fun _ => 0) 1 1)))] = u)) (kz_B D ty (va_A [(x, .inr (9, [.ref x_state, .ref x_images, .ref x_kept, .ref x_history, .ref x_drawnTower, .ref x_machine, .ref x_judge, .ref x_runner, .ref x_reader, .ref x_draft, .ref x_paper, .ref x_tape, .int 0, .int (-1), .int 0, .int (-1), .ref x_chances, .ref x_refusals, .int 0])), (x_state, .inr (6, [.ref x_state_tower, .int 1, .int 0, .int 0, .ref x_state_seenPlace, .ref x_state_seenRank, .int 0, .ref x_state_laws, .int 0, .int (-1)])), (x_state_tower, .inr (8, [.ref x_state_tower_rank, .ref x_state_tower_head, .int 0, .int 0, .int 0])), (x_state_tower_rank, .inl (ty 0, 6, .inl (fun _ => 0))), (x_state_tower_head, .inl (ty 0, 6, .inl (fun _ => 0))), (x_judge, .inr (1, [.ref x_machine, .ref x_judge_words, .null])), (x_judge_words, .inl (ty 0, 9, .inl (fun _ => 0))), (x_refusals, .inl (ty 0, 7, .inl (fun _ => 0)))] sz)) (va_A [(x, .inr (9, [.ref x_state, .ref x_images, .ref x_kept, .ref x_history, .ref x_drawnTower, .ref x_machine, .ref x_judge, .ref x_runner, .ref x_reader, .ref x_draft, .ref x_paper, .ref x_tape, .int 0, .int (-1), .int 0, .int (-1), .ref x_chances, .ref x_refusals, .int 0])), (x_state, .inr (6, [.ref x_state_tower, .int 1, .int 0, .int 0, .ref x_state_seenPlace, .ref x_state_seenRank, .int 0, .ref x_state_laws, .int 0, .int (-1)])), (x_state_tower, .inr (8, [.ref x_state_tower_rank, .ref x_state_tower_head, .int 0, .int 0, .int 0])), (x_state_tower_rank, .inl (ty 0, 6, .inl (fun _ => 0))), (x_state_tower_head, .inl (ty 0, 6, .inl (fun _ => 0))), (x_judge, .inr (1, [.ref x_machine, .ref x_judge_words, .null])), (x_judge_words, .inl (ty 0, 9, .inl (fun _ => 0))), (x_refusals, .inl (ty 0, 7, .inl (fun _ => 0)))] sz)) 0 0 (va_A [(x, .inr (9, [.ref x_state, .ref x_images, .ref x_kept, .ref x_history, .ref x_drawnTower, .ref x_machine, .ref x_judge, .ref x_runner, .ref x_reader, .ref x_draft, .ref x_paper, .ref x_tape, .int 0, .int (-1), .int 0, .int (-1), .ref x_chances, .ref x_refusals, .int 0])), (x_state, .inr (6, [.ref x_state_tower, .int 1, .int 0, .int 0, .ref x_state_seenPlace, .ref x_state_seenRank, .int 0, .ref x_state_laws, .int 0, .int (-1)])), (x_state_tower, .inr (8, [.ref x_state_tower_rank, .ref x_state_tower_head, .int 0, .int 0, .int 0])), (x_state_tower_rank, .inl (ty 0, 6, .inl (fun _ => 0))), (x_state_tower_head, .inl (ty 0, 6, .inl (fun _ => 0))), (x_judge, .inr (1, [.ref x_machine, .ref x_judge_words, .null])), (x_judge_words, .inl (ty 0, 9, .inl (fun _ => 0))), (x_refusals, .inl (ty 0, 7, .inl (fun _ => 0)))] sz) := by
  refine Met.ofW (cc := cX9_move) (maxL := 6) (ret := (some .int)) (by decide) rfl ?_
  intro p e s m args below meth c s₁ B hml hv
  obtain ⟨rfl, hsz, hP, hK, hD0, hN, hE⟩ := hv
  have hx := B.exec
  have hb := B.bytes
  have hr := B.returns
  have hts := atoms_spec (ws := wsX9_move) B.pre
  have hown : s.vm.findClass RX9 = some m.cls := findClass_of_methodNamed B.named
  have hlocks := B.notSynchronized
  subst hsz
  have hD := hD0.self (sz := s.heap.size)
  generalize hAe : va_A [(x, .inr (9, [.ref x_state, .ref x_images, .ref x_kept, .ref x_history, .ref x_drawnTower, .ref x_machine, .ref x_judge, .ref x_runner, .ref x_reader, .ref x_draft, .ref x_paper, .ref x_tape, .int 0, .int (-1), .int 0, .int (-1), .ref x_chances, .ref x_refusals, .int 0])), (x_state, .inr (6, [.ref x_state_tower, .int 1, .int 0, .int 0, .ref x_state_seenPlace, .ref x_state_seenRank, .int 0, .ref x_state_laws, .int 0, .int (-1)])), (x_state_tower, .inr (8, [.ref x_state_tower_rank, .ref x_state_tower_head, .int 0, .int 0, .int 0])), (x_state_tower_rank, .inl (ty 0, 6, .inl (fun _ => 0))), (x_state_tower_head, .inl (ty 0, 6, .inl (fun _ => 0))), (x_judge, .inr (1, [.ref x_machine, .ref x_judge_words, .null])), (x_judge_words, .inl (ty 0, 9, .inl (fun _ => 0))), (x_refusals, .inl (ty 0, 7, .inl (fun _ => 0)))] s.heap.size = A at hD hE ⊢
  have hA : ∀ q : Nat, s.heap.size ≤ q → A q := fun q h => by rw [← hAe]; exact Or.inr h
  have hS : va_S A s.heap s.heap [] := va_S.rf
  have hl := lv_entry ([.ref x, .int 0, .int a2]) (n := 6) (Nat.le_of_ble_eq_true rfl)
  rw [lg_entry_eq]
  generalize (lg_sl ([.ref x, .int 0, .int a2]) ++ List.replicate (6 - (lg_sl ([.ref x, .int 0, .int a2])).length) Slot.unset).toArray = ls at hl ⊢
  have hl : lv_has ls 6 [(0, .ref x), (1, .int 0), (2, .int a2)] := hl
  refine lv_aload_n hx hb dX9_move_0 rfl (lv_at hl 0 rfl) ?_
  refine va_get (D := D) (ci := 9) (v := .ref x_state) (C := RX9) (T := TX9) (N := 19) hx hb hts (by decide +kernel) hown hK hP 0 rfl rfl 0 (by decide) (hts (.fieldLink RX9 10 "TurnedFloors" "state" "LTurnedFloors$State;") (by decide +kernel)) (fun _ h9 => h9) rfl dX9_move_1 ?_
  refine va_getN (D := D) (ci := 6) (v := .ref x_state_tower) (C := RX6) (T := TX6) (N := 10) hx hb hts (by decide +kernel) hown hK hP 1 rfl rfl 0 (by decide) (hN.use (.fieldLinkNest "TurnedFloors" 122 "TurnedFloors$State" "tower" "LTurnedFloors$Tower;" "TurnedFloors") (by decide +kernel)) (fun _ h9 => h9) rfl dX9_move_4 ?_
  refine kz_kl (wc := [(x_state_tower, .inr (8, [.ref x_state_tower_rank, .ref x_state_tower_head, .int 0, .int 0, .int 0])), (x_state_tower_rank, .inl (ty 0, 6, .inl (fun _ => 0))), (x_state_tower_head, .inl (ty 0, 6, .inl (fun _ => 0)))]) (wr := [(x, .inr (9, [.ref x_state, .ref x_images, .ref x_kept, .ref x_history, .ref x_drawnTower, .ref x_machine, .ref x_judge, .ref x_runner, .ref x_reader, .ref x_draft, .ref x_paper, .ref x_tape, .int 0, .int (-1), .int 0, .int (-1), .ref x_chances, .ref x_refusals, .int 0])), (x_state, .inr (6, [.ref x_state_tower, .int 1, .int 0, .int 0, .ref x_state_seenPlace, .ref x_state_seenRank, .int 0, .ref x_state_laws, .int 0, .int (-1)])), (x_judge, .inr (1, [.ref x_machine, .ref x_judge_words, .null])), (x_judge_words, .inl (ty 0, 9, .inl (fun _ => 0))), (x_refusals, .inl (ty 0, 7, .inl (fun _ => 0)))]) (va_runV (As := []) (rest := []) ⟨hx, hb, hml, hown, hts⟩ (kX8_pack_40 l D ty eo _ x_state_tower x_state_tower_rank x_state_tower_head) (cwV 0 hts gX9_move_X8_pack rfl rfl rfl (by decide +kernel) ⟨Nat.le_of_ble_eq_true rfl, Nat.le_of_ble_eq_true rfl⟩) (kz_preV (ci := 8) (q0 := 2) hK hN hE hP hD hS hA rfl rfl [2, 3, 4] (by decide) rfl) rfl rfl hl.1 rfl (lv_room (Nat.le_of_ble_eq_true rfl)) dX9_move_7 ⟨Nat.le_of_ble_eq_true rfl, Nat.le_of_ble_eq_true rfl⟩) hP hD hS hA [2, 3, 4] [0, 1, 5, 6, 7] rfl rfl (by decide) (by decide) (fun r u H locs hw hP hD hS => ?_)
  obtain ⟨rfl, rfl⟩ := hw
  have hP : va_P D vwCl [(x, .inr (9, [.ref x_state, .ref x_images, .ref x_kept, .ref x_history, .ref x_drawnTower, .ref x_machine, .ref x_judge, .ref x_runner, .ref x_reader, .ref x_draft, .ref x_paper, .ref x_tape, .int 0, .int (-1), .int 0, .int (-1), .ref x_chances, .ref x_refusals, .int 0])), (x_state, .inr (6, [.ref x_state_tower, .int 1, .int 0, .int 0, .ref x_state_seenPlace, .ref x_state_seenRank, .int 0, .ref x_state_laws, .int 0, .int (-1)])), (x_judge, .inr (1, [.ref x_machine, .ref x_judge_words, .null])), (x_judge_words, .inl (ty 0, 9, .inl (fun _ => 0))), (x_refusals, .inl (ty 0, 7, .inl (fun _ => 0))), (x_state_tower, .inr (8, [.ref x_state_tower_rank, .ref x_state_tower_head, .int 0, .int 0, .int 0])), (x_state_tower_rank, .inl (ty 0, 6, .inl (fun _ => 0))), (x_state_tower_head, .inl (ty 0, 6, .inl (fun _ => 0)))] H := hP
  have hD : va_D A [(x, .inr (9, [.ref x_state, .ref x_images, .ref x_kept, .ref x_history, .ref x_drawnTower, .ref x_machine, .ref x_judge, .ref x_runner, .ref x_reader, .ref x_draft, .ref x_paper, .ref x_tape, .int 0, .int (-1), .int 0, .int (-1), .ref x_chances, .ref x_refusals, .int 0])), (x_state, .inr (6, [.ref x_state_tower, .int 1, .int 0, .int 0, .ref x_state_seenPlace, .ref x_state_seenRank, .int 0, .ref x_state_laws, .int 0, .int (-1)])), (x_judge, .inr (1, [.ref x_machine, .ref x_judge_words, .null])), (x_judge_words, .inl (ty 0, 9, .inl (fun _ => 0))), (x_refusals, .inl (ty 0, 7, .inl (fun _ => 0))), (x_state_tower, .inr (8, [.ref x_state_tower_rank, .ref x_state_tower_head, .int 0, .int 0, .int 0])), (x_state_tower_rank, .inl (ty 0, 6, .inl (fun _ => 0))), (x_state_tower_head, .inl (ty 0, 6, .inl (fun _ => 0)))] := hD
  refine lv_lstore_n (lv' := [(3, .long 0), (0, .ref x), (1, .int 0), (2, .int a2)]) hx hb dX9_move_10 rfl hl (by decide) rfl (fun ls hl => ?_)
  refine lv_aload_n hx hb dX9_move_11 rfl (lv_at hl 1 rfl) ?_
  refine va_get (D := D) (ci := 9) (v := .ref x_state) (C := RX9) (T := TX9) (N := 19) hx hb hts (by decide +kernel) hown hK hP 0 rfl rfl 0 (by decide) (hts (.fieldLink RX9 10 "TurnedFloors" "state" "LTurnedFloors$State;") (by decide +kernel)) (fun _ h9 => h9) rfl dX9_move_12 ?_
  refine va_getN (D := D) (ci := 6) (v := .ref x_state_tower) (C := RX6) (T := TX6) (N := 10) hx hb hts (by decide +kernel) hown hK hP 1 rfl rfl 0 (by decide) (hN.use (.fieldLinkNest "TurnedFloors" 122 "TurnedFloors$State" "tower" "LTurnedFloors$Tower;" "TurnedFloors") (by decide +kernel)) (fun _ h9 => h9) rfl dX9_move_15 ?_
  refine lv_iload_n hx hb dX9_move_18 rfl (lv_at hl 2 rfl) ?_
  refine lv_iload_n hx hb dX9_move_19 rfl (lv_at hl 3 rfl) ?_
  refine lv_aload_n hx hb dX9_move_20 rfl (lv_at hl 1 rfl) ?_
  refine kz_kq (wc := [(x, .inr (9, [.ref x_state, .ref x_images, .ref x_kept, .ref x_history, .ref x_drawnTower, .ref x_machine, .ref x_judge, .ref x_runner, .ref x_reader, .ref x_draft, .ref x_paper, .ref x_tape, .int 0, .int (-1), .int 0, .int (-1), .ref x_chances, .ref x_refusals, .int 0])), (x_state, .inr (6, [.ref x_state_tower, .int 1, .int 0, .int 0, .ref x_state_seenPlace, .ref x_state_seenRank, .int 0, .ref x_state_laws, .int 0, .int (-1)])), (x_judge, .inr (1, [.ref x_machine, .ref x_judge_words, .null])), (x_judge_words, .inl (ty 0, 9, .inl (fun _ => 0)))]) (wr := [(x_refusals, .inl (ty 0, 7, .inl (fun _ => 0))), (x_state_tower, .inr (8, [.ref x_state_tower_rank, .ref x_state_tower_head, .int 0, .int 0, .int 0])), (x_state_tower_rank, .inl (ty 0, 6, .inl (fun _ => 0))), (x_state_tower_head, .inl (ty 0, 6, .inl (fun _ => 0)))]) (va_runV (As := []) (rest := [.int a2, .int 0, .ref x_state_tower]) ⟨hx, hb, hml, hown, hts⟩ (kX9_seated_42 l D ty eo _ x x_state x_images x_kept x_history x_drawnTower x_machine x_judge x_runner x_reader x_draft x_paper x_tape x_chances x_refusals x_state_tower x_state_seenPlace x_state_seenRank x_state_laws x_judge_words) (cwV 0 hts gX9_move_X9_seated rfl rfl rfl (by decide +kernel) ⟨Nat.le_of_ble_eq_true rfl, Nat.le_of_ble_eq_true rfl⟩) (kz_preV (ci := 9) (q0 := 0) hK hN hE hP hD hS hA rfl rfl [0, 1, 2, 3] (by decide) rfl) rfl rfl hl.1 rfl (lv_room (Nat.le_of_ble_eq_true rfl)) dX9_move_21 ⟨Nat.le_of_ble_eq_true rfl, Nat.le_of_ble_eq_true rfl⟩) hP hD hS hA [0, 1, 2, 3] [4, 5, 6, 7] rfl rfl (by decide) (by decide) (fun r u H locs hw hP hD hS => ?_)
  obtain ⟨rfl, rfl⟩ := hw
  have hP : va_P D vwCl [(x_refusals, .inl (ty 0, 7, .inl (fun _ => 0))), (x_state_tower, .inr (8, [.ref x_state_tower_rank, .ref x_state_tower_head, .int 0, .int 0, .int 0])), (x_state_tower_rank, .inl (ty 0, 6, .inl (fun _ => 0))), (x_state_tower_head, .inl (ty 0, 6, .inl (fun _ => 0))), (x, .inr (9, [.ref x_state, .ref x_images, .ref x_kept, .ref x_history, .ref x_drawnTower, .ref x_machine, .ref x_judge, .ref x_runner, .ref x_reader, .ref x_draft, .ref x_paper, .ref x_tape, .int 0, .int (-1), .int 0, .int (-1), .ref x_chances, .ref x_refusals, .int 0])), (x_state, .inr (6, [.ref x_state_tower, .int 1, .int 0, .int 0, .ref x_state_seenPlace, .ref x_state_seenRank, .int 0, .ref x_state_laws, .int 0, .int (-1)])), (x_judge, .inr (1, [.ref x_machine, .ref x_judge_words, .null])), (x_judge_words, .inl (ty 0, 9, .inl (upd (fun _ => 0) 8 0)))] H := hP
  have hD : va_D A [(x_refusals, .inl (ty 0, 7, .inl (fun _ => 0))), (x_state_tower, .inr (8, [.ref x_state_tower_rank, .ref x_state_tower_head, .int 0, .int 0, .int 0])), (x_state_tower_rank, .inl (ty 0, 6, .inl (fun _ => 0))), (x_state_tower_head, .inl (ty 0, 6, .inl (fun _ => 0))), (x, .inr (9, [.ref x_state, .ref x_images, .ref x_kept, .ref x_history, .ref x_drawnTower, .ref x_machine, .ref x_judge, .ref x_runner, .ref x_reader, .ref x_draft, .ref x_paper, .ref x_tape, .int 0, .int (-1), .int 0, .int (-1), .ref x_chances, .ref x_refusals, .int 0])), (x_state, .inr (6, [.ref x_state_tower, .int 1, .int 0, .int 0, .ref x_state_seenPlace, .ref x_state_seenRank, .int 0, .ref x_state_laws, .int 0, .int (-1)])), (x_judge, .inr (1, [.ref x_machine, .ref x_judge_words, .null])), (x_judge_words, .inl (ty 0, 9, .inl (upd (fun _ => 0) 8 0)))] := hD
  refine kz_ki (wc := [(x_state_tower, .inr (8, [.ref x_state_tower_rank, .ref x_state_tower_head, .int 0, .int 0, .int 0]))]) (wr := [(x_refusals, .inl (ty 0, 7, .inl (fun _ => 0))), (x_state_tower_rank, .inl (ty 0, 6, .inl (fun _ => 0))), (x_state_tower_head, .inl (ty 0, 6, .inl (fun _ => 0))), (x, .inr (9, [.ref x_state, .ref x_images, .ref x_kept, .ref x_history, .ref x_drawnTower, .ref x_machine, .ref x_judge, .ref x_runner, .ref x_reader, .ref x_draft, .ref x_paper, .ref x_tape, .int 0, .int (-1), .int 0, .int (-1), .ref x_chances, .ref x_refusals, .int 0])), (x_state, .inr (6, [.ref x_state_tower, .int 1, .int 0, .int 0, .ref x_state_seenPlace, .ref x_state_seenRank, .int 0, .ref x_state_laws, .int 0, .int (-1)])), (x_judge, .inr (1, [.ref x_machine, .ref x_judge_words, .null])), (x_judge_words, .inl (ty 0, 9, .inl (upd (fun _ => 0) 8 0)))]) (va_runV (As := [.int 0, .int a2, .ref x_judge]) (rest := []) ⟨hx, hb, hml, hown, hts⟩ (kX8_act_56 l D ty eo _ x_state_tower a2 x_judge x_state_tower_rank x_state_tower_head) (cwV 3 hts gX9_move_X8_act rfl rfl rfl (by decide +kernel) ⟨Nat.le_of_ble_eq_true rfl, Nat.le_of_ble_eq_true rfl⟩) (kz_preV (ci := 8) (q0 := 1) hK hN hE hP hD hS hA rfl rfl [1] (by decide) rfl) rfl rfl hl.1 rfl (lv_room (Nat.le_of_ble_eq_true rfl)) dX9_move_24 ⟨Nat.le_of_ble_eq_true rfl, Nat.le_of_ble_eq_true rfl⟩) hP hD hS hA [1] [0, 2, 3, 4, 5, 6, 7] rfl rfl (by decide) (by decide) (fun r u H locs hw hP hD hS => ?_)
  rcases hw with ⟨c_1, rfl, rfl⟩ | ⟨c_2, c_3, rfl, rfl⟩ | ⟨c_4, c_5, rfl, rfl⟩
  · have hP : va_P D vwCl [(x_refusals, .inl (ty 0, 7, .inl (fun _ => 0))), (x_state_tower_rank, .inl (ty 0, 6, .inl (fun _ => 0))), (x_state_tower_head, .inl (ty 0, 6, .inl (fun _ => 0))), (x, .inr (9, [.ref x_state, .ref x_images, .ref x_kept, .ref x_history, .ref x_drawnTower, .ref x_machine, .ref x_judge, .ref x_runner, .ref x_reader, .ref x_draft, .ref x_paper, .ref x_tape, .int 0, .int (-1), .int 0, .int (-1), .ref x_chances, .ref x_refusals, .int 0])), (x_state, .inr (6, [.ref x_state_tower, .int 1, .int 0, .int 0, .ref x_state_seenPlace, .ref x_state_seenRank, .int 0, .ref x_state_laws, .int 0, .int (-1)])), (x_judge, .inr (1, [.ref x_machine, .ref x_judge_words, .null])), (x_judge_words, .inl (ty 0, 9, .inl (upd (fun _ => 0) 8 0))), (x_state_tower, .inr (8, [.ref x_state_tower_rank, .ref x_state_tower_head, .int 0, .int 0, .int 0]))] H := hP
    have hD : va_D A [(x_refusals, .inl (ty 0, 7, .inl (fun _ => 0))), (x_state_tower_rank, .inl (ty 0, 6, .inl (fun _ => 0))), (x_state_tower_head, .inl (ty 0, 6, .inl (fun _ => 0))), (x, .inr (9, [.ref x_state, .ref x_images, .ref x_kept, .ref x_history, .ref x_drawnTower, .ref x_machine, .ref x_judge, .ref x_runner, .ref x_reader, .ref x_draft, .ref x_paper, .ref x_tape, .int 0, .int (-1), .int 0, .int (-1), .ref x_chances, .ref x_refusals, .int 0])), (x_state, .inr (6, [.ref x_state_tower, .int 1, .int 0, .int 0, .ref x_state_seenPlace, .ref x_state_seenRank, .int 0, .ref x_state_laws, .int 0, .int (-1)])), (x_judge, .inr (1, [.ref x_machine, .ref x_judge_words, .null])), (x_judge_words, .inl (ty 0, 9, .inl (upd (fun _ => 0) 8 0))), (x_state_tower, .inr (8, [.ref x_state_tower_rank, .ref x_state_tower_head, .int 0, .int 0, .int 0]))] := hD
    refine lv_istore (lv' := [(5, .int (-1)), (3, .long 0), (0, .ref x), (1, .int 0), (2, .int a2)]) hx hb dX9_move_27 hl (by decide) rfl (fun ls hl => ?_)
    refine lv_iload hx hb dX9_move_29 (lv_at hl 0 rfl) ?_
    refine lv_if_ge (tgt := 41) hx hb dX9_move_31 (by decide) (fun h => absurd h (by decide)) (fun _ => ?_)
    refine lv_aload_n hx hb dX9_move_34 rfl (lv_at hl 2 rfl) ?_
    refine lv_iload hx hb dX9_move_35 (lv_at hl 0 rfl) ?_
    refine kz_ki (wc := [(x, .inr (9, [.ref x_state, .ref x_images, .ref x_kept, .ref x_history, .ref x_drawnTower, .ref x_machine, .ref x_judge, .ref x_runner, .ref x_reader, .ref x_draft, .ref x_paper, .ref x_tape, .int 0, .int (-1), .int 0, .int (-1), .ref x_chances, .ref x_refusals, .int 0])), (x_refusals, .inl (ty 0, 7, .inl (fun _ => 0)))]) (wr := [(x_state_tower_rank, .inl (ty 0, 6, .inl (fun _ => 0))), (x_state_tower_head, .inl (ty 0, 6, .inl (fun _ => 0))), (x_state, .inr (6, [.ref x_state_tower, .int 1, .int 0, .int 0, .ref x_state_seenPlace, .ref x_state_seenRank, .int 0, .ref x_state_laws, .int 0, .int (-1)])), (x_judge, .inr (1, [.ref x_machine, .ref x_judge_words, .null])), (x_judge_words, .inl (ty 0, 9, .inl (upd (fun _ => 0) 8 0))), (x_state_tower, .inr (8, [.ref x_state_tower_rank, .ref x_state_tower_head, .int 0, .int 0, .int 0]))]) (va_runV (As := [.int (-1)]) (rest := []) ⟨hx, hb, hml, hown, hts⟩ (kX9_refuse_2 l D ty eo _ x x_state x_images x_kept x_history x_drawnTower x_machine x_judge x_runner x_reader x_draft x_paper x_tape x_chances x_refusals) (cwV 1 hts gX9_move_X9_refuse rfl rfl rfl (by decide +kernel) ⟨Nat.le_of_ble_eq_true rfl, Nat.le_of_ble_eq_true rfl⟩) (kz_preV (ci := 9) (q0 := 3) hK hN hE hP hD hS hA rfl rfl [3, 0] (by decide) rfl) rfl rfl hl.1 rfl (lv_room (Nat.le_of_ble_eq_true rfl)) dX9_move_37 ⟨Nat.le_of_ble_eq_true rfl, Nat.le_of_ble_eq_true rfl⟩) hP hD hS hA [3, 0] [1, 2, 4, 5, 6, 7] rfl rfl (by decide) (by decide) (fun r u H locs hw hP hD hS => ?_)
    obtain ⟨rfl, rfl⟩ := hw
    have hP : va_P D vwCl [(x_state_tower_rank, .inl (ty 0, 6, .inl (fun _ => 0))), (x_state_tower_head, .inl (ty 0, 6, .inl (fun _ => 0))), (x_state, .inr (6, [.ref x_state_tower, .int 1, .int 0, .int 0, .ref x_state_seenPlace, .ref x_state_seenRank, .int 0, .ref x_state_laws, .int 0, .int (-1)])), (x_judge, .inr (1, [.ref x_machine, .ref x_judge_words, .null])), (x_judge_words, .inl (ty 0, 9, .inl (upd (fun _ => 0) 8 0))), (x_state_tower, .inr (8, [.ref x_state_tower_rank, .ref x_state_tower_head, .int 0, .int 0, .int 0])), (x, .inr (9, [.ref x_state, .ref x_images, .ref x_kept, .ref x_history, .ref x_drawnTower, .ref x_machine, .ref x_judge, .ref x_runner, .ref x_reader, .ref x_draft, .ref x_paper, .ref x_tape, .int 0, .int (-1), .int 0, .int (-1), .ref x_chances, .ref x_refusals, .int (-1)])), (x_refusals, .inl (ty 0, 7, .inl (upd (fun _ => 0) 1 1)))] H := hP
    have hD : va_D A [(x_state_tower_rank, .inl (ty 0, 6, .inl (fun _ => 0))), (x_state_tower_head, .inl (ty 0, 6, .inl (fun _ => 0))), (x_state, .inr (6, [.ref x_state_tower, .int 1, .int 0, .int 0, .ref x_state_seenPlace, .ref x_state_seenRank, .int 0, .ref x_state_laws, .int 0, .int (-1)])), (x_judge, .inr (1, [.ref x_machine, .ref x_judge_words, .null])), (x_judge_words, .inl (ty 0, 9, .inl (upd (fun _ => 0) 8 0))), (x_state_tower, .inr (8, [.ref x_state_tower_rank, .ref x_state_tower_head, .int 0, .int 0, .int 0])), (x, .inr (9, [.ref x_state, .ref x_images, .ref x_kept, .ref x_history, .ref x_drawnTower, .ref x_machine, .ref x_judge, .ref x_runner, .ref x_reader, .ref x_draft, .ref x_paper, .ref x_tape, .int 0, .int (-1), .int 0, .int (-1), .ref x_chances, .ref x_refusals, .int (-1)])), (x_refusals, .inl (ty 0, 7, .inl (upd (fun _ => 0) 1 1)))] := hD
    exact kz_iret hx hb hr hlocks hP hK hD hS dX9_move_40 (Or.inl ⟨c_1, rfl, rfl⟩)
  · have hP : va_P D vwCl [(x_refusals, .inl (ty 0, 7, .inl (fun _ => 0))), (x_state_tower_rank, .inl (ty 0, 6, .inl (fun _ => 0))), (x_state_tower_head, .inl (ty 0, 6, .inl (fun _ => 0))), (x, .inr (9, [.ref x_state, .ref x_images, .ref x_kept, .ref x_history, .ref x_drawnTower, .ref x_machine, .ref x_judge, .ref x_runner, .ref x_reader, .ref x_draft, .ref x_paper, .ref x_tape, .int 0, .int (-1), .int 0, .int (-1), .ref x_chances, .ref x_refusals, .int 0])), (x_state, .inr (6, [.ref x_state_tower, .int 1, .int 0, .int 0, .ref x_state_seenPlace, .ref x_state_seenRank, .int 0, .ref x_state_laws, .int 0, .int (-1)])), (x_judge, .inr (1, [.ref x_machine, .ref x_judge_words, .null])), (x_judge_words, .inl (ty 0, 9, .inl (upd (fun _ => 0) 8 0))), (x_state_tower, .inr (8, [.ref x_state_tower_rank, .ref x_state_tower_head, .int 0, .int 0, .int 0]))] H := hP
    have hD : va_D A [(x_refusals, .inl (ty 0, 7, .inl (fun _ => 0))), (x_state_tower_rank, .inl (ty 0, 6, .inl (fun _ => 0))), (x_state_tower_head, .inl (ty 0, 6, .inl (fun _ => 0))), (x, .inr (9, [.ref x_state, .ref x_images, .ref x_kept, .ref x_history, .ref x_drawnTower, .ref x_machine, .ref x_judge, .ref x_runner, .ref x_reader, .ref x_draft, .ref x_paper, .ref x_tape, .int 0, .int (-1), .int 0, .int (-1), .ref x_chances, .ref x_refusals, .int 0])), (x_state, .inr (6, [.ref x_state_tower, .int 1, .int 0, .int 0, .ref x_state_seenPlace, .ref x_state_seenRank, .int 0, .ref x_state_laws, .int 0, .int (-1)])), (x_judge, .inr (1, [.ref x_machine, .ref x_judge_words, .null])), (x_judge_words, .inl (ty 0, 9, .inl (upd (fun _ => 0) 8 0))), (x_state_tower, .inr (8, [.ref x_state_tower_rank, .ref x_state_tower_head, .int 0, .int 0, .int 0]))] := hD
    refine lv_istore (lv' := [(5, .int (-3)), (3, .long 0), (0, .ref x), (1, .int 0), (2, .int a2)]) hx hb dX9_move_27 hl (by decide) rfl (fun ls hl => ?_)
    refine lv_iload hx hb dX9_move_29 (lv_at hl 0 rfl) ?_
    refine lv_if_ge (tgt := 41) hx hb dX9_move_31 (by decide) (fun h => absurd h (by decide)) (fun _ => ?_)
    refine lv_aload_n hx hb dX9_move_34 rfl (lv_at hl 2 rfl) ?_
    refine lv_iload hx hb dX9_move_35 (lv_at hl 0 rfl) ?_
    refine kz_ki (wc := [(x, .inr (9, [.ref x_state, .ref x_images, .ref x_kept, .ref x_history, .ref x_drawnTower, .ref x_machine, .ref x_judge, .ref x_runner, .ref x_reader, .ref x_draft, .ref x_paper, .ref x_tape, .int 0, .int (-1), .int 0, .int (-1), .ref x_chances, .ref x_refusals, .int 0])), (x_refusals, .inl (ty 0, 7, .inl (fun _ => 0)))]) (wr := [(x_state_tower_rank, .inl (ty 0, 6, .inl (fun _ => 0))), (x_state_tower_head, .inl (ty 0, 6, .inl (fun _ => 0))), (x_state, .inr (6, [.ref x_state_tower, .int 1, .int 0, .int 0, .ref x_state_seenPlace, .ref x_state_seenRank, .int 0, .ref x_state_laws, .int 0, .int (-1)])), (x_judge, .inr (1, [.ref x_machine, .ref x_judge_words, .null])), (x_judge_words, .inl (ty 0, 9, .inl (upd (fun _ => 0) 8 0))), (x_state_tower, .inr (8, [.ref x_state_tower_rank, .ref x_state_tower_head, .int 0, .int 0, .int 0]))]) (va_runV (As := [.int (-3)]) (rest := []) ⟨hx, hb, hml, hown, hts⟩ (kX9_refuse_58 l D ty eo _ x x_state x_images x_kept x_history x_drawnTower x_machine x_judge x_runner x_reader x_draft x_paper x_tape x_chances x_refusals) (cwV 1 hts gX9_move_X9_refuse rfl rfl rfl (by decide +kernel) ⟨Nat.le_of_ble_eq_true rfl, Nat.le_of_ble_eq_true rfl⟩) (kz_preV (ci := 9) (q0 := 3) hK hN hE hP hD hS hA rfl rfl [3, 0] (by decide) rfl) rfl rfl hl.1 rfl (lv_room (Nat.le_of_ble_eq_true rfl)) dX9_move_37 ⟨Nat.le_of_ble_eq_true rfl, Nat.le_of_ble_eq_true rfl⟩) hP hD hS hA [3, 0] [1, 2, 4, 5, 6, 7] rfl rfl (by decide) (by decide) (fun r u H locs hw hP hD hS => ?_)
    obtain ⟨rfl, rfl⟩ := hw
    have hP : va_P D vwCl [(x_state_tower_rank, .inl (ty 0, 6, .inl (fun _ => 0))), (x_state_tower_head, .inl (ty 0, 6, .inl (fun _ => 0))), (x_state, .inr (6, [.ref x_state_tower, .int 1, .int 0, .int 0, .ref x_state_seenPlace, .ref x_state_seenRank, .int 0, .ref x_state_laws, .int 0, .int (-1)])), (x_judge, .inr (1, [.ref x_machine, .ref x_judge_words, .null])), (x_judge_words, .inl (ty 0, 9, .inl (upd (fun _ => 0) 8 0))), (x_state_tower, .inr (8, [.ref x_state_tower_rank, .ref x_state_tower_head, .int 0, .int 0, .int 0])), (x, .inr (9, [.ref x_state, .ref x_images, .ref x_kept, .ref x_history, .ref x_drawnTower, .ref x_machine, .ref x_judge, .ref x_runner, .ref x_reader, .ref x_draft, .ref x_paper, .ref x_tape, .int 0, .int (-1), .int 0, .int (-1), .ref x_chances, .ref x_refusals, .int (-3)])), (x_refusals, .inl (ty 0, 7, .inl (upd (fun _ => 0) 3 1)))] H := hP
    have hD : va_D A [(x_state_tower_rank, .inl (ty 0, 6, .inl (fun _ => 0))), (x_state_tower_head, .inl (ty 0, 6, .inl (fun _ => 0))), (x_state, .inr (6, [.ref x_state_tower, .int 1, .int 0, .int 0, .ref x_state_seenPlace, .ref x_state_seenRank, .int 0, .ref x_state_laws, .int 0, .int (-1)])), (x_judge, .inr (1, [.ref x_machine, .ref x_judge_words, .null])), (x_judge_words, .inl (ty 0, 9, .inl (upd (fun _ => 0) 8 0))), (x_state_tower, .inr (8, [.ref x_state_tower_rank, .ref x_state_tower_head, .int 0, .int 0, .int 0])), (x, .inr (9, [.ref x_state, .ref x_images, .ref x_kept, .ref x_history, .ref x_drawnTower, .ref x_machine, .ref x_judge, .ref x_runner, .ref x_reader, .ref x_draft, .ref x_paper, .ref x_tape, .int 0, .int (-1), .int 0, .int (-1), .ref x_chances, .ref x_refusals, .int (-3)])), (x_refusals, .inl (ty 0, 7, .inl (upd (fun _ => 0) 3 1)))] := hD
    exact kz_iret hx hb hr hlocks hP hK hD hS dX9_move_40 (Or.inr (Or.inl ⟨c_2, c_3, rfl, rfl⟩))
  · have hP : va_P D vwCl [(x_refusals, .inl (ty 0, 7, .inl (fun _ => 0))), (x_state_tower_rank, .inl (ty 0, 6, .inl (fun _ => 0))), (x_state_tower_head, .inl (ty 0, 6, .inl (fun _ => 0))), (x, .inr (9, [.ref x_state, .ref x_images, .ref x_kept, .ref x_history, .ref x_drawnTower, .ref x_machine, .ref x_judge, .ref x_runner, .ref x_reader, .ref x_draft, .ref x_paper, .ref x_tape, .int 0, .int (-1), .int 0, .int (-1), .ref x_chances, .ref x_refusals, .int 0])), (x_state, .inr (6, [.ref x_state_tower, .int 1, .int 0, .int 0, .ref x_state_seenPlace, .ref x_state_seenRank, .int 0, .ref x_state_laws, .int 0, .int (-1)])), (x_judge, .inr (1, [.ref x_machine, .ref x_judge_words, .null])), (x_judge_words, .inl (ty 0, 9, .inl (upd (fun _ => 0) 8 0))), (x_state_tower, .inr (8, [.ref x_state_tower_rank, .ref x_state_tower_head, .int 0, .int 0, .int 0]))] H := hP
    have hD : va_D A [(x_refusals, .inl (ty 0, 7, .inl (fun _ => 0))), (x_state_tower_rank, .inl (ty 0, 6, .inl (fun _ => 0))), (x_state_tower_head, .inl (ty 0, 6, .inl (fun _ => 0))), (x, .inr (9, [.ref x_state, .ref x_images, .ref x_kept, .ref x_history, .ref x_drawnTower, .ref x_machine, .ref x_judge, .ref x_runner, .ref x_reader, .ref x_draft, .ref x_paper, .ref x_tape, .int 0, .int (-1), .int 0, .int (-1), .ref x_chances, .ref x_refusals, .int 0])), (x_state, .inr (6, [.ref x_state_tower, .int 1, .int 0, .int 0, .ref x_state_seenPlace, .ref x_state_seenRank, .int 0, .ref x_state_laws, .int 0, .int (-1)])), (x_judge, .inr (1, [.ref x_machine, .ref x_judge_words, .null])), (x_judge_words, .inl (ty 0, 9, .inl (upd (fun _ => 0) 8 0))), (x_state_tower, .inr (8, [.ref x_state_tower_rank, .ref x_state_tower_head, .int 0, .int 0, .int 0]))] := hD
    refine lv_istore (lv' := [(5, .int (-1)), (3, .long 0), (0, .ref x), (1, .int 0), (2, .int a2)]) hx hb dX9_move_27 hl (by decide) rfl (fun ls hl => ?_)
    refine lv_iload hx hb dX9_move_29 (lv_at hl 0 rfl) ?_
    refine lv_if_ge (tgt := 41) hx hb dX9_move_31 (by decide) (fun h => absurd h (by decide)) (fun _ => ?_)
    refine lv_aload_n hx hb dX9_move_34 rfl (lv_at hl 2 rfl) ?_
    refine lv_iload hx hb dX9_move_35 (lv_at hl 0 rfl) ?_
    refine kz_ki (wc := [(x, .inr (9, [.ref x_state, .ref x_images, .ref x_kept, .ref x_history, .ref x_drawnTower, .ref x_machine, .ref x_judge, .ref x_runner, .ref x_reader, .ref x_draft, .ref x_paper, .ref x_tape, .int 0, .int (-1), .int 0, .int (-1), .ref x_chances, .ref x_refusals, .int 0])), (x_refusals, .inl (ty 0, 7, .inl (fun _ => 0)))]) (wr := [(x_state_tower_rank, .inl (ty 0, 6, .inl (fun _ => 0))), (x_state_tower_head, .inl (ty 0, 6, .inl (fun _ => 0))), (x_state, .inr (6, [.ref x_state_tower, .int 1, .int 0, .int 0, .ref x_state_seenPlace, .ref x_state_seenRank, .int 0, .ref x_state_laws, .int 0, .int (-1)])), (x_judge, .inr (1, [.ref x_machine, .ref x_judge_words, .null])), (x_judge_words, .inl (ty 0, 9, .inl (upd (fun _ => 0) 8 0))), (x_state_tower, .inr (8, [.ref x_state_tower_rank, .ref x_state_tower_head, .int 0, .int 0, .int 0]))]) (va_runV (As := [.int (-1)]) (rest := []) ⟨hx, hb, hml, hown, hts⟩ (kX9_refuse_2 l D ty eo _ x x_state x_images x_kept x_history x_drawnTower x_machine x_judge x_runner x_reader x_draft x_paper x_tape x_chances x_refusals) (cwV 1 hts gX9_move_X9_refuse rfl rfl rfl (by decide +kernel) ⟨Nat.le_of_ble_eq_true rfl, Nat.le_of_ble_eq_true rfl⟩) (kz_preV (ci := 9) (q0 := 3) hK hN hE hP hD hS hA rfl rfl [3, 0] (by decide) rfl) rfl rfl hl.1 rfl (lv_room (Nat.le_of_ble_eq_true rfl)) dX9_move_37 ⟨Nat.le_of_ble_eq_true rfl, Nat.le_of_ble_eq_true rfl⟩) hP hD hS hA [3, 0] [1, 2, 4, 5, 6, 7] rfl rfl (by decide) (by decide) (fun r u H locs hw hP hD hS => ?_)
    obtain ⟨rfl, rfl⟩ := hw
    have hP : va_P D vwCl [(x_state_tower_rank, .inl (ty 0, 6, .inl (fun _ => 0))), (x_state_tower_head, .inl (ty 0, 6, .inl (fun _ => 0))), (x_state, .inr (6, [.ref x_state_tower, .int 1, .int 0, .int 0, .ref x_state_seenPlace, .ref x_state_seenRank, .int 0, .ref x_state_laws, .int 0, .int (-1)])), (x_judge, .inr (1, [.ref x_machine, .ref x_judge_words, .null])), (x_judge_words, .inl (ty 0, 9, .inl (upd (fun _ => 0) 8 0))), (x_state_tower, .inr (8, [.ref x_state_tower_rank, .ref x_state_tower_head, .int 0, .int 0, .int 0])), (x, .inr (9, [.ref x_state, .ref x_images, .ref x_kept, .ref x_history, .ref x_drawnTower, .ref x_machine, .ref x_judge, .ref x_runner, .ref x_reader, .ref x_draft, .ref x_paper, .ref x_tape, .int 0, .int (-1), .int 0, .int (-1), .ref x_chances, .ref x_refusals, .int (-1)])), (x_refusals, .inl (ty 0, 7, .inl (upd (fun _ => 0) 1 1)))] H := hP
    have hD : va_D A [(x_state_tower_rank, .inl (ty 0, 6, .inl (fun _ => 0))), (x_state_tower_head, .inl (ty 0, 6, .inl (fun _ => 0))), (x_state, .inr (6, [.ref x_state_tower, .int 1, .int 0, .int 0, .ref x_state_seenPlace, .ref x_state_seenRank, .int 0, .ref x_state_laws, .int 0, .int (-1)])), (x_judge, .inr (1, [.ref x_machine, .ref x_judge_words, .null])), (x_judge_words, .inl (ty 0, 9, .inl (upd (fun _ => 0) 8 0))), (x_state_tower, .inr (8, [.ref x_state_tower_rank, .ref x_state_tower_head, .int 0, .int 0, .int 0])), (x, .inr (9, [.ref x_state, .ref x_images, .ref x_kept, .ref x_history, .ref x_drawnTower, .ref x_machine, .ref x_judge, .ref x_runner, .ref x_reader, .ref x_draft, .ref x_paper, .ref x_tape, .int 0, .int (-1), .int 0, .int (-1), .ref x_chances, .ref x_refusals, .int (-1)])), (x_refusals, .inl (ty 0, 7, .inl (upd (fun _ => 0) 1 1)))] := hD
    exact kz_iret hx hb hr hlocks hP hK hD hS dX9_move_40 (Or.inr (Or.inr ⟨c_4, c_5, rfl, rfl⟩))

set_option maxHeartbeats 4000000 in
set_option maxRecDepth 100000 in
theorem fX9_turn (l : Launch) (D : va_G) (ty : Nat → ClassId) (eo : Nat → Nat) (sz : Nat) (x : Nat) (p1 : Int32) (x_state x_images x_kept x_history x_drawnTower x_machine x_judge x_runner x_reader x_draft x_paper x_tape x_chances x_refusals x_state_tower x_state_seenPlace x_state_seenRank x_state_laws x_state_tower_rank x_state_tower_head x_judge_words : Nat) : Met l yX9_turn wsX9_turn ({ frames := 4, cells := 0, slots := 0, locals := 87 }) (va_Pc [.ref x, .int p1] (kz_pre D ty eo [(x, .inr (9, [.ref x_state, .ref x_images, .ref x_kept, .ref x_history, .ref x_drawnTower, .ref x_machine, .ref x_judge, .ref x_runner, .ref x_reader, .ref x_draft, .ref x_paper, .ref x_tape, .int 0, .int (-1), .int 0, .int (-1), .ref x_chances, .ref x_refusals, .int 0])), (x_state, .inr (6, [.ref x_state_tower, .int 1, .int 0, .int 0, .ref x_state_seenPlace, .ref x_state_seenRank, .int 0, .ref x_state_laws, .int 0, .int (-1)])), (x_state_tower, .inr (8, [.ref x_state_tower_rank, .ref x_state_tower_head, .int 0, .int 0, .int 0])), (x_state_tower_rank, .inl (ty 0, 6, .inl (fun _ => 0))), (x_state_tower_head, .inl (ty 0, 6, .inl (fun _ => 0))), (x_judge, .inr (1, [.ref x_machine, .ref x_judge_words, .null])), (x_judge_words, .inl (ty 0, 9, .inl (fun _ => 0))), (x_refusals, .inl (ty 0, 7, .inl (fun _ => 0)))] sz)) (va_Qi (fun (r : Int32) (u : va_W) => (p1 < 1 ∧ (-1) = r ∧ [(x_state_tower_rank, .inl (ty 0, 6, .inl (fun _ => 0))), (x_state_tower_head, .inl (ty 0, 6, .inl (fun _ => 0))), (x_state, .inr (6, [.ref x_state_tower, .int 1, .int 0, .int 0, .ref x_state_seenPlace, .ref x_state_seenRank, .int 0, .ref x_state_laws, .int 0, .int (-1)])), (x_judge, .inr (1, [.ref x_machine, .ref x_judge_words, .null])), (x_judge_words, .inl (ty 0, 9, .inl (upd (fun _ => 0) 8 0))), (x_state_tower, .inr (8, [.ref x_state_tower_rank, .ref x_state_tower_head, .int 0, .int 0, .int 0])), (x, .inr (9, [.ref x_state, .ref x_images, .ref x_kept, .ref x_history, .ref x_drawnTower, .ref x_machine, .ref x_judge, .ref x_runner, .ref x_reader, .ref x_draft, .ref x_paper, .ref x_tape, .int 0, .int (-1), .int 0, .int (-1), .ref x_chances, .ref x_refusals, .int (-1)])), (x_refusals, .inl (ty 0, 7, .inl (upd (fun _ => 0) 1 1)))] = u) ∨ (¬ p1 < 1 ∧ p1 ≤ 6 ∧ (-3) = r ∧ [(x_state_tower_rank, .inl (ty 0, 6, .inl (fun _ => 0))), (x_state_tower_head, .inl (ty 0, 6, .inl (fun _ => 0))), (x_state, .inr (6, [.ref x_state_tower, .int 1, .int 0, .int 0, .ref x_state_seenPlace, .ref x_state_seenRank, .int 0, .ref x_state_laws, .int 0, .int (-1)])), (x_judge, .inr (1, [.ref x_machine, .ref x_judge_words, .null])), (x_judge_words, .inl (ty 0, 9, .inl (upd (fun _ => 0) 8 0))), (x_state_tower, .inr (8, [.ref x_state_tower_rank, .ref x_state_tower_head, .int 0, .int 0, .int 0])), (x, .inr (9, [.ref x_state, .ref x_images, .ref x_kept, .ref x_history, .ref x_drawnTower, .ref x_machine, .ref x_judge, .ref x_runner, .ref x_reader, .ref x_draft, .ref x_paper, .ref x_tape, .int 0, .int (-1), .int 0, .int (-1), .ref x_chances, .ref x_refusals, .int (-3)])), (x_refusals, .inl (ty 0, 7, .inl (upd (fun _ => 0) 3 1)))] = u) ∨ (¬ p1 < 1 ∧ ¬ p1 ≤ 6 ∧ (-1) = r ∧ [(x_state_tower_rank, .inl (ty 0, 6, .inl (fun _ => 0))), (x_state_tower_head, .inl (ty 0, 6, .inl (fun _ => 0))), (x_state, .inr (6, [.ref x_state_tower, .int 1, .int 0, .int 0, .ref x_state_seenPlace, .ref x_state_seenRank, .int 0, .ref x_state_laws, .int 0, .int (-1)])), (x_judge, .inr (1, [.ref x_machine, .ref x_judge_words, .null])), (x_judge_words, .inl (ty 0, 9, .inl (upd (fun _ => 0) 8 0))), (x_state_tower, .inr (8, [.ref x_state_tower_rank, .ref x_state_tower_head, .int 0, .int 0, .int 0])), (x, .inr (9, [.ref x_state, .ref x_images, .ref x_kept, .ref x_history, .ref x_drawnTower, .ref x_machine, .ref x_judge, .ref x_runner, .ref x_reader, .ref x_draft, .ref x_paper, .ref x_tape, .int 0, .int (-1), .int 0, .int (-1), .ref x_chances, .ref x_refusals, .int (-1)])), (x_refusals, .inl (ty 0, 7, .inl (upd (fun _ => 0) 1 1)))] = u)) (kz_B D ty (va_A [(x, .inr (9, [.ref x_state, .ref x_images, .ref x_kept, .ref x_history, .ref x_drawnTower, .ref x_machine, .ref x_judge, .ref x_runner, .ref x_reader, .ref x_draft, .ref x_paper, .ref x_tape, .int 0, .int (-1), .int 0, .int (-1), .ref x_chances, .ref x_refusals, .int 0])), (x_state, .inr (6, [.ref x_state_tower, .int 1, .int 0, .int 0, .ref x_state_seenPlace, .ref x_state_seenRank, .int 0, .ref x_state_laws, .int 0, .int (-1)])), (x_state_tower, .inr (8, [.ref x_state_tower_rank, .ref x_state_tower_head, .int 0, .int 0, .int 0])), (x_state_tower_rank, .inl (ty 0, 6, .inl (fun _ => 0))), (x_state_tower_head, .inl (ty 0, 6, .inl (fun _ => 0))), (x_judge, .inr (1, [.ref x_machine, .ref x_judge_words, .null])), (x_judge_words, .inl (ty 0, 9, .inl (fun _ => 0))), (x_refusals, .inl (ty 0, 7, .inl (fun _ => 0)))] sz)) (va_A [(x, .inr (9, [.ref x_state, .ref x_images, .ref x_kept, .ref x_history, .ref x_drawnTower, .ref x_machine, .ref x_judge, .ref x_runner, .ref x_reader, .ref x_draft, .ref x_paper, .ref x_tape, .int 0, .int (-1), .int 0, .int (-1), .ref x_chances, .ref x_refusals, .int 0])), (x_state, .inr (6, [.ref x_state_tower, .int 1, .int 0, .int 0, .ref x_state_seenPlace, .ref x_state_seenRank, .int 0, .ref x_state_laws, .int 0, .int (-1)])), (x_state_tower, .inr (8, [.ref x_state_tower_rank, .ref x_state_tower_head, .int 0, .int 0, .int 0])), (x_state_tower_rank, .inl (ty 0, 6, .inl (fun _ => 0))), (x_state_tower_head, .inl (ty 0, 6, .inl (fun _ => 0))), (x_judge, .inr (1, [.ref x_machine, .ref x_judge_words, .null])), (x_judge_words, .inl (ty 0, 9, .inl (fun _ => 0))), (x_refusals, .inl (ty 0, 7, .inl (fun _ => 0)))] sz)) 0 0 (va_A [(x, .inr (9, [.ref x_state, .ref x_images, .ref x_kept, .ref x_history, .ref x_drawnTower, .ref x_machine, .ref x_judge, .ref x_runner, .ref x_reader, .ref x_draft, .ref x_paper, .ref x_tape, .int 0, .int (-1), .int 0, .int (-1), .ref x_chances, .ref x_refusals, .int 0])), (x_state, .inr (6, [.ref x_state_tower, .int 1, .int 0, .int 0, .ref x_state_seenPlace, .ref x_state_seenRank, .int 0, .ref x_state_laws, .int 0, .int (-1)])), (x_state_tower, .inr (8, [.ref x_state_tower_rank, .ref x_state_tower_head, .int 0, .int 0, .int 0])), (x_state_tower_rank, .inl (ty 0, 6, .inl (fun _ => 0))), (x_state_tower_head, .inl (ty 0, 6, .inl (fun _ => 0))), (x_judge, .inr (1, [.ref x_machine, .ref x_judge_words, .null])), (x_judge_words, .inl (ty 0, 9, .inl (fun _ => 0))), (x_refusals, .inl (ty 0, 7, .inl (fun _ => 0)))] sz) := by
  refine Met.ofW (cc := cX9_turn) (maxL := 2) (ret := (some .int)) (by decide) rfl ?_
  intro p e s m args below meth c s₁ B hml hv
  obtain ⟨rfl, hsz, hP, hK, hD0, hN, hE⟩ := hv
  have hx := B.exec
  have hb := B.bytes
  have hr := B.returns
  have hts := atoms_spec (ws := wsX9_turn) B.pre
  have hown : s.vm.findClass RX9 = some m.cls := findClass_of_methodNamed B.named
  have hlocks := B.notSynchronized
  subst hsz
  have hD := hD0.self (sz := s.heap.size)
  generalize hAe : va_A [(x, .inr (9, [.ref x_state, .ref x_images, .ref x_kept, .ref x_history, .ref x_drawnTower, .ref x_machine, .ref x_judge, .ref x_runner, .ref x_reader, .ref x_draft, .ref x_paper, .ref x_tape, .int 0, .int (-1), .int 0, .int (-1), .ref x_chances, .ref x_refusals, .int 0])), (x_state, .inr (6, [.ref x_state_tower, .int 1, .int 0, .int 0, .ref x_state_seenPlace, .ref x_state_seenRank, .int 0, .ref x_state_laws, .int 0, .int (-1)])), (x_state_tower, .inr (8, [.ref x_state_tower_rank, .ref x_state_tower_head, .int 0, .int 0, .int 0])), (x_state_tower_rank, .inl (ty 0, 6, .inl (fun _ => 0))), (x_state_tower_head, .inl (ty 0, 6, .inl (fun _ => 0))), (x_judge, .inr (1, [.ref x_machine, .ref x_judge_words, .null])), (x_judge_words, .inl (ty 0, 9, .inl (fun _ => 0))), (x_refusals, .inl (ty 0, 7, .inl (fun _ => 0)))] s.heap.size = A at hD hE ⊢
  have hA : ∀ q : Nat, s.heap.size ≤ q → A q := fun q h => by rw [← hAe]; exact Or.inr h
  have hS : va_S A s.heap s.heap [] := va_S.rf
  have hl := lv_entry ([.ref x, .int p1]) (n := 2) (Nat.le_of_ble_eq_true rfl)
  rw [lg_entry_eq]
  generalize (lg_sl ([.ref x, .int p1]) ++ List.replicate (2 - (lg_sl ([.ref x, .int p1])).length) Slot.unset).toArray = ls at hl ⊢
  have hl : lv_has ls 2 [(0, .ref x), (1, .int p1)] := hl
  refine lv_aload_n hx hb dX9_turn_0 rfl (lv_at hl 0 rfl) ?_
  refine lv_iconst (v := 0) hx hb dX9_turn_1 (by decide) ?_
  refine lv_iload_n hx hb dX9_turn_2 rfl (lv_at hl 1 rfl) ?_
  refine kz_ki (wc := [(x, .inr (9, [.ref x_state, .ref x_images, .ref x_kept, .ref x_history, .ref x_drawnTower, .ref x_machine, .ref x_judge, .ref x_runner, .ref x_reader, .ref x_draft, .ref x_paper, .ref x_tape, .int 0, .int (-1), .int 0, .int (-1), .ref x_chances, .ref x_refusals, .int 0])), (x_state, .inr (6, [.ref x_state_tower, .int 1, .int 0, .int 0, .ref x_state_seenPlace, .ref x_state_seenRank, .int 0, .ref x_state_laws, .int 0, .int (-1)])), (x_state_tower, .inr (8, [.ref x_state_tower_rank, .ref x_state_tower_head, .int 0, .int 0, .int 0])), (x_state_tower_rank, .inl (ty 0, 6, .inl (fun _ => 0))), (x_state_tower_head, .inl (ty 0, 6, .inl (fun _ => 0))), (x_judge, .inr (1, [.ref x_machine, .ref x_judge_words, .null])), (x_judge_words, .inl (ty 0, 9, .inl (fun _ => 0))), (x_refusals, .inl (ty 0, 7, .inl (fun _ => 0)))]) (wr := []) (va_runV (As := [.int 0, .int p1]) (rest := []) ⟨hx, hb, hml, hown, hts⟩ (kX9_move_39 l D ty eo _ x p1 x_state x_images x_kept x_history x_drawnTower x_machine x_judge x_runner x_reader x_draft x_paper x_tape x_chances x_refusals x_state_tower x_state_seenPlace x_state_seenRank x_state_laws x_state_tower_rank x_state_tower_head x_judge_words) (cwV 2 hts gX9_turn_X9_move rfl rfl rfl (by decide +kernel) ⟨Nat.le_of_ble_eq_true rfl, Nat.le_of_ble_eq_true rfl⟩) (kz_preV (ci := 9) (q0 := 0) hK hN hE hP hD hS hA rfl rfl [0, 1, 2, 3, 4, 5, 6, 7] (by decide) rfl) rfl rfl hl.1 rfl (lv_room (Nat.le_of_ble_eq_true rfl)) dX9_turn_3 ⟨Nat.le_of_ble_eq_true rfl, Nat.le_of_ble_eq_true rfl⟩) hP hD hS hA [0, 1, 2, 3, 4, 5, 6, 7] [] rfl rfl (by decide) (by decide) (fun r u H locs hw hP hD hS => ?_)
  rcases hw with ⟨c_1, rfl, rfl⟩ | ⟨c_2, c_3, rfl, rfl⟩ | ⟨c_4, c_5, rfl, rfl⟩
  · have hP : va_P D vwCl [(x_state_tower_rank, .inl (ty 0, 6, .inl (fun _ => 0))), (x_state_tower_head, .inl (ty 0, 6, .inl (fun _ => 0))), (x_state, .inr (6, [.ref x_state_tower, .int 1, .int 0, .int 0, .ref x_state_seenPlace, .ref x_state_seenRank, .int 0, .ref x_state_laws, .int 0, .int (-1)])), (x_judge, .inr (1, [.ref x_machine, .ref x_judge_words, .null])), (x_judge_words, .inl (ty 0, 9, .inl (upd (fun _ => 0) 8 0))), (x_state_tower, .inr (8, [.ref x_state_tower_rank, .ref x_state_tower_head, .int 0, .int 0, .int 0])), (x, .inr (9, [.ref x_state, .ref x_images, .ref x_kept, .ref x_history, .ref x_drawnTower, .ref x_machine, .ref x_judge, .ref x_runner, .ref x_reader, .ref x_draft, .ref x_paper, .ref x_tape, .int 0, .int (-1), .int 0, .int (-1), .ref x_chances, .ref x_refusals, .int (-1)])), (x_refusals, .inl (ty 0, 7, .inl (upd (fun _ => 0) 1 1)))] H := hP
    have hD : va_D A [(x_state_tower_rank, .inl (ty 0, 6, .inl (fun _ => 0))), (x_state_tower_head, .inl (ty 0, 6, .inl (fun _ => 0))), (x_state, .inr (6, [.ref x_state_tower, .int 1, .int 0, .int 0, .ref x_state_seenPlace, .ref x_state_seenRank, .int 0, .ref x_state_laws, .int 0, .int (-1)])), (x_judge, .inr (1, [.ref x_machine, .ref x_judge_words, .null])), (x_judge_words, .inl (ty 0, 9, .inl (upd (fun _ => 0) 8 0))), (x_state_tower, .inr (8, [.ref x_state_tower_rank, .ref x_state_tower_head, .int 0, .int 0, .int 0])), (x, .inr (9, [.ref x_state, .ref x_images, .ref x_kept, .ref x_history, .ref x_drawnTower, .ref x_machine, .ref x_judge, .ref x_runner, .ref x_reader, .ref x_draft, .ref x_paper, .ref x_tape, .int 0, .int (-1), .int 0, .int (-1), .ref x_chances, .ref x_refusals, .int (-1)])), (x_refusals, .inl (ty 0, 7, .inl (upd (fun _ => 0) 1 1)))] := hD
    exact kz_iret hx hb hr hlocks hP hK hD hS dX9_turn_6 (Or.inl ⟨c_1, rfl, rfl⟩)
  · have hP : va_P D vwCl [(x_state_tower_rank, .inl (ty 0, 6, .inl (fun _ => 0))), (x_state_tower_head, .inl (ty 0, 6, .inl (fun _ => 0))), (x_state, .inr (6, [.ref x_state_tower, .int 1, .int 0, .int 0, .ref x_state_seenPlace, .ref x_state_seenRank, .int 0, .ref x_state_laws, .int 0, .int (-1)])), (x_judge, .inr (1, [.ref x_machine, .ref x_judge_words, .null])), (x_judge_words, .inl (ty 0, 9, .inl (upd (fun _ => 0) 8 0))), (x_state_tower, .inr (8, [.ref x_state_tower_rank, .ref x_state_tower_head, .int 0, .int 0, .int 0])), (x, .inr (9, [.ref x_state, .ref x_images, .ref x_kept, .ref x_history, .ref x_drawnTower, .ref x_machine, .ref x_judge, .ref x_runner, .ref x_reader, .ref x_draft, .ref x_paper, .ref x_tape, .int 0, .int (-1), .int 0, .int (-1), .ref x_chances, .ref x_refusals, .int (-3)])), (x_refusals, .inl (ty 0, 7, .inl (upd (fun _ => 0) 3 1)))] H := hP
    have hD : va_D A [(x_state_tower_rank, .inl (ty 0, 6, .inl (fun _ => 0))), (x_state_tower_head, .inl (ty 0, 6, .inl (fun _ => 0))), (x_state, .inr (6, [.ref x_state_tower, .int 1, .int 0, .int 0, .ref x_state_seenPlace, .ref x_state_seenRank, .int 0, .ref x_state_laws, .int 0, .int (-1)])), (x_judge, .inr (1, [.ref x_machine, .ref x_judge_words, .null])), (x_judge_words, .inl (ty 0, 9, .inl (upd (fun _ => 0) 8 0))), (x_state_tower, .inr (8, [.ref x_state_tower_rank, .ref x_state_tower_head, .int 0, .int 0, .int 0])), (x, .inr (9, [.ref x_state, .ref x_images, .ref x_kept, .ref x_history, .ref x_drawnTower, .ref x_machine, .ref x_judge, .ref x_runner, .ref x_reader, .ref x_draft, .ref x_paper, .ref x_tape, .int 0, .int (-1), .int 0, .int (-1), .ref x_chances, .ref x_refusals, .int (-3)])), (x_refusals, .inl (ty 0, 7, .inl (upd (fun _ => 0) 3 1)))] := hD
    exact kz_iret hx hb hr hlocks hP hK hD hS dX9_turn_6 (Or.inr (Or.inl ⟨c_2, c_3, rfl, rfl⟩))
  · have hP : va_P D vwCl [(x_state_tower_rank, .inl (ty 0, 6, .inl (fun _ => 0))), (x_state_tower_head, .inl (ty 0, 6, .inl (fun _ => 0))), (x_state, .inr (6, [.ref x_state_tower, .int 1, .int 0, .int 0, .ref x_state_seenPlace, .ref x_state_seenRank, .int 0, .ref x_state_laws, .int 0, .int (-1)])), (x_judge, .inr (1, [.ref x_machine, .ref x_judge_words, .null])), (x_judge_words, .inl (ty 0, 9, .inl (upd (fun _ => 0) 8 0))), (x_state_tower, .inr (8, [.ref x_state_tower_rank, .ref x_state_tower_head, .int 0, .int 0, .int 0])), (x, .inr (9, [.ref x_state, .ref x_images, .ref x_kept, .ref x_history, .ref x_drawnTower, .ref x_machine, .ref x_judge, .ref x_runner, .ref x_reader, .ref x_draft, .ref x_paper, .ref x_tape, .int 0, .int (-1), .int 0, .int (-1), .ref x_chances, .ref x_refusals, .int (-1)])), (x_refusals, .inl (ty 0, 7, .inl (upd (fun _ => 0) 1 1)))] H := hP
    have hD : va_D A [(x_state_tower_rank, .inl (ty 0, 6, .inl (fun _ => 0))), (x_state_tower_head, .inl (ty 0, 6, .inl (fun _ => 0))), (x_state, .inr (6, [.ref x_state_tower, .int 1, .int 0, .int 0, .ref x_state_seenPlace, .ref x_state_seenRank, .int 0, .ref x_state_laws, .int 0, .int (-1)])), (x_judge, .inr (1, [.ref x_machine, .ref x_judge_words, .null])), (x_judge_words, .inl (ty 0, 9, .inl (upd (fun _ => 0) 8 0))), (x_state_tower, .inr (8, [.ref x_state_tower_rank, .ref x_state_tower_head, .int 0, .int 0, .int 0])), (x, .inr (9, [.ref x_state, .ref x_images, .ref x_kept, .ref x_history, .ref x_drawnTower, .ref x_machine, .ref x_judge, .ref x_runner, .ref x_reader, .ref x_draft, .ref x_paper, .ref x_tape, .int 0, .int (-1), .int 0, .int (-1), .ref x_chances, .ref x_refusals, .int (-1)])), (x_refusals, .inl (ty 0, 7, .inl (upd (fun _ => 0) 1 1)))] := hD
    exact kz_iret hx hb hr hlocks hP hK hD hS dX9_turn_6 (Or.inr (Or.inr ⟨c_4, c_5, rfl, rfl⟩))

set_option maxHeartbeats 4000000 in
set_option maxRecDepth 100000 in
theorem kcX8_rightAt (l : Launch) (D : va_G) (ty : Nat → ClassId) (eo : Nat → Nat) (sz : Nat) (h0 : Nat) (h0_v0 h0_v3 h0_v4 : Value) (p1 h0_floors : Int32) (h0_head : Nat) (h0_head_f : Nat → Int32) : Met l yX8_rightAt wsX8_rightAt ({ frames := 1, cells := 0, slots := 0, locals := 21 }) (va_Pc [.ref h0, .int p1] (kz_pre D ty eo [(h0, .inr (8, [h0_v0, .ref h0_head, .int h0_floors, h0_v3, h0_v4])), (h0_head, .inl (ty 0, 6, .inl h0_head_f))] sz)) (va_Qi (fun (r : Int32) (u : va_W) => (p1 < 0 ∧ (-1) = r ∧ [(h0, .inr (8, [h0_v0, .ref h0_head, .int h0_floors, h0_v3, h0_v4])), (h0_head, .inl (ty 0, 6, .inl h0_head_f))] = u) ∨ (¬ p1 < 0 ∧ p1 < 6 ∧ ¬ p1 < 0 ∧ h0_floors ≤ p1 ∧ (-3) = r ∧ [(h0_head, .inl (ty 0, 6, .inl h0_head_f)), (h0, .inr (8, [h0_v0, .ref h0_head, .int h0_floors, h0_v3, h0_v4]))] = u) ∨ (¬ p1 < 0 ∧ p1 < 6 ∧ ¬ p1 < 0 ∧ ¬ h0_floors ≤ p1 ∧ ((upd h0_head_f (Int32.toNatClampNeg p1) (1 - (h0_head_f (Int32.toNatClampNeg p1)))) (Int32.toNatClampNeg p1)) = r ∧ [(h0_head, .inl (ty 0, 6, .inl (upd h0_head_f (Int32.toNatClampNeg p1) (1 - (h0_head_f (Int32.toNatClampNeg p1)))))), (h0, .inr (8, [h0_v0, .ref h0_head, .int h0_floors, h0_v3, h0_v4]))] = u) ∨ (¬ p1 < 0 ∧ ¬ p1 < 6 ∧ (-1) = r ∧ [(h0, .inr (8, [h0_v0, .ref h0_head, .int h0_floors, h0_v3, h0_v4])), (h0_head, .inl (ty 0, 6, .inl h0_head_f))] = u)) (kz_B D ty (va_A [(h0, .inr (8, [h0_v0, .ref h0_head, .int h0_floors, h0_v3, h0_v4])), (h0_head, .inl (ty 0, 6, .inl h0_head_f))] sz)) (va_A [(h0, .inr (8, [h0_v0, .ref h0_head, .int h0_floors, h0_v3, h0_v4])), (h0_head, .inl (ty 0, 6, .inl h0_head_f))] sz)) 0 0 (va_A [(h0, .inr (8, [h0_v0, .ref h0_head, .int h0_floors, h0_v3, h0_v4])), (h0_head, .inl (ty 0, 6, .inl h0_head_f))] sz) := by
  refine Met.ofW (cc := cX8_rightAt) (maxL := 2) (ret := (some .int)) (by decide) rfl ?_
  intro p e s m args below meth c s₁ B hml hv
  obtain ⟨rfl, hsz, hP, hK, hD0, hN, hE⟩ := hv
  have hx := B.exec
  have hb := B.bytes
  have hr := B.returns
  have hts := atoms_spec (ws := wsX8_rightAt) B.pre
  have hown : s.vm.findClass RX8 = some m.cls := findClass_of_methodNamed B.named
  have hlocks := B.notSynchronized
  subst hsz
  have hD := hD0.self (sz := s.heap.size)
  generalize hAe : va_A [(h0, .inr (8, [h0_v0, .ref h0_head, .int h0_floors, h0_v3, h0_v4])), (h0_head, .inl (ty 0, 6, .inl h0_head_f))] s.heap.size = A at hD hE ⊢
  have hA : ∀ q : Nat, s.heap.size ≤ q → A q := fun q h => by rw [← hAe]; exact Or.inr h
  have hS : va_S A s.heap s.heap [] := va_S.rf
  have hl := lv_entry ([.ref h0, .int p1]) (n := 2) (Nat.le_of_ble_eq_true rfl)
  rw [lg_entry_eq]
  generalize (lg_sl ([.ref h0, .int p1]) ++ List.replicate (2 - (lg_sl ([.ref h0, .int p1])).length) Slot.unset).toArray = ls at hl ⊢
  have hl : lv_has ls 2 [(0, .ref h0), (1, .int p1)] := hl
  refine lv_iload_n hx hb dX8_rightAt_0 rfl (lv_at hl 1 rfl) ?_
  refine lv_if_lt (tgt := 10) hx hb dX8_rightAt_1 (by decide) (fun c_1 => ?_) (fun c_1 => ?_)
  · refine lv_iconst (v := (-1)) hx hb dX8_rightAt_10 (by decide) ?_
    exact kz_iret hx hb hr hlocks hP hK hD hS dX8_rightAt_11 (Or.inl ⟨c_1, rfl, rfl⟩)
  · refine lv_iload_n hx hb dX8_rightAt_4 rfl (lv_at hl 1 rfl) ?_
    refine lv_bipush (v := 6) hx hb dX8_rightAt_5 (by decide) ?_
    refine lv_icmp_lt (tgt := 12) hx hb dX8_rightAt_7 (by decide) (fun c_2 => ?_) (fun c_2 => ?_)
    · refine lv_aload_n hx hb dX8_rightAt_12 rfl (lv_at hl 0 rfl) ?_
      refine lv_iload_n hx hb dX8_rightAt_13 rfl (lv_at hl 1 rfl) ?_
      refine kz_ki (wc := [(h0, .inr (8, [h0_v0, .ref h0_head, .int h0_floors, h0_v3, h0_v4]))]) (wr := [(h0_head, .inl (ty 0, 6, .inl h0_head_f))]) (va_runV (As := [.int p1]) (rest := []) ⟨hx, hb, hml, hown, hts⟩ (kcX8_isFloor l D ty eo _ h0 h0_v0 (.ref h0_head) h0_v3 h0_v4 p1 h0_floors) (cwV 1 hts gX8_rightAt_X8_isFloor rfl rfl rfl (by decide +kernel) ⟨Nat.le_of_ble_eq_true rfl, Nat.le_of_ble_eq_true rfl⟩) (kz_preV (ci := 8) (q0 := 0) hK hN hE hP hD hS hA rfl rfl [0] (by decide) rfl) rfl rfl hl.1 rfl (lv_room (Nat.le_of_ble_eq_true rfl)) dX8_rightAt_14 ⟨Nat.le_of_ble_eq_true rfl, Nat.le_of_ble_eq_true rfl⟩) hP hD hS hA [0] [1] rfl rfl (by decide) (by decide) (fun r u H locs hw hP hD hS => ?_)
      rcases hw with ⟨c_3, rfl, rfl⟩ | ⟨c_4, c_5, rfl, rfl⟩ | ⟨c_6, c_7, rfl, rfl⟩
      · exact absurd c_3 c_1
      · have hP : va_P D vwCl [(h0_head, .inl (ty 0, 6, .inl h0_head_f)), (h0, .inr (8, [h0_v0, .ref h0_head, .int h0_floors, h0_v3, h0_v4]))] H := hP
        have hD : va_D A [(h0_head, .inl (ty 0, 6, .inl h0_head_f)), (h0, .inr (8, [h0_v0, .ref h0_head, .int h0_floors, h0_v3, h0_v4]))] := hD
        refine lv_if_ne (tgt := 23) hx hb dX8_rightAt_17 (by decide) (fun h => absurd (by decide) h) (fun _ => ?_)
        refine lv_bipush (v := (-3)) hx hb dX8_rightAt_20 (by decide) ?_
        exact kz_iret hx hb hr hlocks hP hK hD hS dX8_rightAt_22 (Or.inr (Or.inl ⟨c_1, c_2, c_4, c_5, rfl, rfl⟩))
      · have hP : va_P D vwCl [(h0_head, .inl (ty 0, 6, .inl h0_head_f)), (h0, .inr (8, [h0_v0, .ref h0_head, .int h0_floors, h0_v3, h0_v4]))] H := hP
        have hD : va_D A [(h0_head, .inl (ty 0, 6, .inl h0_head_f)), (h0, .inr (8, [h0_v0, .ref h0_head, .int h0_floors, h0_v3, h0_v4]))] := hD
        refine lv_if_ne (tgt := 23) hx hb dX8_rightAt_17 (by decide) (fun _ => ?_) (fun h => absurd h (by decide))
        refine lv_aload_n hx hb dX8_rightAt_23 rfl (lv_at hl 0 rfl) ?_
        refine va_get (D := D) (ci := 8) (v := .ref h0_head) (C := RX8) (T := TX8) (N := 5) hx hb hts (by decide +kernel) hown hK hP 1 rfl rfl 1 (by decide) (hts (.fieldLink RX8 15 "TurnedFloors$Tower" "head" "[I") (by decide +kernel)) (fun _ h9 => h9) rfl dX8_rightAt_24 ?_
        refine lv_iload_n hx hb dX8_rightAt_27 rfl (lv_at hl 1 rfl) ?_
        refine lv_iconst (v := 1) hx hb dX8_rightAt_28 (by decide) ?_
        refine lv_aload_n hx hb dX8_rightAt_29 rfl (lv_at hl 0 rfl) ?_
        refine va_get (D := D) (ci := 8) (v := .ref h0_head) (C := RX8) (T := TX8) (N := 5) hx hb hts (by decide +kernel) hown hK hP 1 rfl rfl 1 (by decide) (hts (.fieldLink RX8 15 "TurnedFloors$Tower" "head" "[I") (by decide +kernel)) (fun _ h9 => h9) rfl dX8_rightAt_30 ?_
        refine lv_iload_n hx hb dX8_rightAt_33 rfl (lv_at hl 1 rfl) ?_
        refine va_iald hx hb hK hP 0 0 rfl rfl (vp_in_iff.mpr (by simp only [Int32.lt_iff_toInt_lt, Int32.le_iff_toInt_le, ← Int32.toInt_inj, Int32.reduceToInt] at c_1 c_2 c_6 ⊢; omega)) dX8_rightAt_34 ?_
        refine lv_isub hx hb dX8_rightAt_35 ?_
        refine va_iast hx hb hK hP hD hS 0 0 rfl rfl (vp_in_iff.mpr (by simp only [Int32.lt_iff_toInt_lt, Int32.le_iff_toInt_le, ← Int32.toInt_inj, Int32.reduceToInt] at c_1 c_2 c_6 ⊢; omega)) dX8_rightAt_36 (fun H locs hP hD hS => ?_)
        have hP : va_P D vwCl [(h0_head, .inl (ty 0, 6, .inl (upd h0_head_f (Int32.toNatClampNeg p1) (1 - (h0_head_f (Int32.toNatClampNeg p1)))))), (h0, .inr (8, [h0_v0, .ref h0_head, .int h0_floors, h0_v3, h0_v4]))] H := hP
        have hD : va_D A [(h0_head, .inl (ty 0, 6, .inl (upd h0_head_f (Int32.toNatClampNeg p1) (1 - (h0_head_f (Int32.toNatClampNeg p1)))))), (h0, .inr (8, [h0_v0, .ref h0_head, .int h0_floors, h0_v3, h0_v4]))] := hD
        refine lv_aload_n hx hb dX8_rightAt_37 rfl (lv_at hl 0 rfl) ?_
        refine va_get (D := D) (ci := 8) (v := .ref h0_head) (C := RX8) (T := TX8) (N := 5) hx hb hts (by decide +kernel) hown hK hP 1 rfl rfl 1 (by decide) (hts (.fieldLink RX8 15 "TurnedFloors$Tower" "head" "[I") (by decide +kernel)) (fun _ h9 => h9) rfl dX8_rightAt_38 ?_
        refine lv_iload_n hx hb dX8_rightAt_41 rfl (lv_at hl 1 rfl) ?_
        refine va_iald hx hb hK hP 0 0 rfl rfl (vp_in_iff.mpr (by simp only [Int32.lt_iff_toInt_lt, Int32.le_iff_toInt_le, ← Int32.toInt_inj, Int32.reduceToInt] at c_1 c_2 c_6 ⊢; omega)) dX8_rightAt_42 ?_
        exact kz_iret hx hb hr hlocks hP hK hD hS dX8_rightAt_43 (Or.inr (Or.inr (Or.inl ⟨c_1, c_2, c_6, c_7, rfl, rfl⟩)))
    · refine lv_iconst (v := (-1)) hx hb dX8_rightAt_10 (by decide) ?_
      exact kz_iret hx hb hr hlocks hP hK hD hS dX8_rightAt_11 (Or.inr (Or.inr (Or.inr ⟨c_1, c_2, rfl, rfl⟩)))

set_option maxHeartbeats 4000000 in
set_option maxRecDepth 100000 in
theorem kX8_act_60 (l : Launch) (D : va_G) (ty : Nat → ClassId) (eo : Nat → Nat) (sz : Nat) (x_state_tower : Nat) (a2 : Int32) (x_judge x_state_tower_rank x_state_tower_head : Nat) : Met l yX8_act wsX8_act ({ frames := 2, cells := 0, slots := 0, locals := 42 }) (va_Pc [.ref x_state_tower, .int 1, .int a2, .ref x_judge] (kz_pre D ty eo [(x_state_tower, .inr (8, [.ref x_state_tower_rank, .ref x_state_tower_head, .int 0, .int 0, .int 0])), (x_state_tower_head, .inl (ty 0, 6, .inl (fun _ => 0)))] sz)) (va_Qi (fun (r : Int32) (u : va_W) => (a2 < 0 ∧ (-1) = r ∧ [(x_state_tower, .inr (8, [.ref x_state_tower_rank, .ref x_state_tower_head, .int 0, .int 0, .int 0])), (x_state_tower_head, .inl (ty 0, 6, .inl (fun _ => 0)))] = u) ∨ (¬ a2 < 0 ∧ a2 < 6 ∧ ¬ a2 < 0 ∧ 0 ≤ a2 ∧ (-3) = r ∧ [(x_state_tower_head, .inl (ty 0, 6, .inl (fun _ => 0))), (x_state_tower, .inr (8, [.ref x_state_tower_rank, .ref x_state_tower_head, .int 0, .int 0, .int 0]))] = u) ∨ (¬ a2 < 0 ∧ ¬ a2 < 6 ∧ (-1) = r ∧ [(x_state_tower, .inr (8, [.ref x_state_tower_rank, .ref x_state_tower_head, .int 0, .int 0, .int 0])), (x_state_tower_head, .inl (ty 0, 6, .inl (fun _ => 0)))] = u)) (kz_B D ty (va_A [(x_state_tower, .inr (8, [.ref x_state_tower_rank, .ref x_state_tower_head, .int 0, .int 0, .int 0])), (x_state_tower_head, .inl (ty 0, 6, .inl (fun _ => 0)))] sz)) (va_A [(x_state_tower, .inr (8, [.ref x_state_tower_rank, .ref x_state_tower_head, .int 0, .int 0, .int 0])), (x_state_tower_head, .inl (ty 0, 6, .inl (fun _ => 0)))] sz)) 0 0 (va_A [(x_state_tower, .inr (8, [.ref x_state_tower_rank, .ref x_state_tower_head, .int 0, .int 0, .int 0])), (x_state_tower_head, .inl (ty 0, 6, .inl (fun _ => 0)))] sz) := by
  refine Met.ofW (cc := cX8_act) (maxL := 4) (ret := (some .int)) (by decide) rfl ?_
  intro p e s m args below meth c s₁ B hml hv
  obtain ⟨rfl, hsz, hP, hK, hD0, hN, hE⟩ := hv
  have hx := B.exec
  have hb := B.bytes
  have hr := B.returns
  have hts := atoms_spec (ws := wsX8_act) B.pre
  have hown : s.vm.findClass RX8 = some m.cls := findClass_of_methodNamed B.named
  have hlocks := B.notSynchronized
  subst hsz
  have hD := hD0.self (sz := s.heap.size)
  generalize hAe : va_A [(x_state_tower, .inr (8, [.ref x_state_tower_rank, .ref x_state_tower_head, .int 0, .int 0, .int 0])), (x_state_tower_head, .inl (ty 0, 6, .inl (fun _ => 0)))] s.heap.size = A at hD hE ⊢
  have hA : ∀ q : Nat, s.heap.size ≤ q → A q := fun q h => by rw [← hAe]; exact Or.inr h
  have hS : va_S A s.heap s.heap [] := va_S.rf
  have hl := lv_entry ([.ref x_state_tower, .int 1, .int a2, .ref x_judge]) (n := 4) (Nat.le_of_ble_eq_true rfl)
  rw [lg_entry_eq]
  generalize (lg_sl ([.ref x_state_tower, .int 1, .int a2, .ref x_judge]) ++ List.replicate (4 - (lg_sl ([.ref x_state_tower, .int 1, .int a2, .ref x_judge])).length) Slot.unset).toArray = ls at hl ⊢
  have hl : lv_has ls 4 [(0, .ref x_state_tower), (1, .int 1), (2, .int a2), (3, .ref x_judge)] := hl
  refine lv_iload_n hx hb dX8_act_0 rfl (lv_at hl 1 rfl) ?_
  refine lv_tableIn (off := 38) (tgt := 39) hx hb dX8_act_1 (by decide) (by decide) (by decide) (by decide) ?_
  refine lv_aload_n hx hb dX8_act_39 rfl (lv_at hl 0 rfl) ?_
  refine lv_iload_n hx hb dX8_act_40 rfl (lv_at hl 2 rfl) ?_
  refine kz_ki (wc := [(x_state_tower, .inr (8, [.ref x_state_tower_rank, .ref x_state_tower_head, .int 0, .int 0, .int 0])), (x_state_tower_head, .inl (ty 0, 6, .inl (fun _ => 0)))]) (wr := []) (va_runV (As := [.int a2]) (rest := []) ⟨hx, hb, hml, hown, hts⟩ (kcX8_rightAt l D ty eo _ x_state_tower (.ref x_state_tower_rank) (.int 0) (.int 0) a2 0 x_state_tower_head (fun _ => 0)) (cwV 1 hts gX8_act_X8_rightAt rfl rfl rfl (by decide +kernel) ⟨Nat.le_of_ble_eq_true rfl, Nat.le_of_ble_eq_true rfl⟩) (kz_preV (ci := 8) (q0 := 0) hK hN hE hP hD hS hA rfl rfl [0, 1] (by decide) rfl) rfl rfl hl.1 rfl (lv_room (Nat.le_of_ble_eq_true rfl)) dX8_act_41 ⟨Nat.le_of_ble_eq_true rfl, Nat.le_of_ble_eq_true rfl⟩) hP hD hS hA [0, 1] [] rfl rfl (by decide) (by decide) (fun r u H locs hw hP hD hS => ?_)
  rcases hw with ⟨c_1, rfl, rfl⟩ | ⟨c_2, c_3, c_4, c_5, rfl, rfl⟩ | ⟨c_6, c_7, c_8, c_9, rfl, rfl⟩ | ⟨c_10, c_11, rfl, rfl⟩
  · have hP : va_P D vwCl [(x_state_tower, .inr (8, [.ref x_state_tower_rank, .ref x_state_tower_head, .int 0, .int 0, .int 0])), (x_state_tower_head, .inl (ty 0, 6, .inl (fun _ => 0)))] H := hP
    have hD : va_D A [(x_state_tower, .inr (8, [.ref x_state_tower_rank, .ref x_state_tower_head, .int 0, .int 0, .int 0])), (x_state_tower_head, .inl (ty 0, 6, .inl (fun _ => 0)))] := hD
    exact kz_iret hx hb hr hlocks hP hK hD hS dX8_act_44 (Or.inl ⟨c_1, rfl, rfl⟩)
  · have hP : va_P D vwCl [(x_state_tower_head, .inl (ty 0, 6, .inl (fun _ => 0))), (x_state_tower, .inr (8, [.ref x_state_tower_rank, .ref x_state_tower_head, .int 0, .int 0, .int 0]))] H := hP
    have hD : va_D A [(x_state_tower_head, .inl (ty 0, 6, .inl (fun _ => 0))), (x_state_tower, .inr (8, [.ref x_state_tower_rank, .ref x_state_tower_head, .int 0, .int 0, .int 0]))] := hD
    exact kz_iret hx hb hr hlocks hP hK hD hS dX8_act_44 (Or.inr (Or.inl ⟨c_2, c_3, c_4, c_5, rfl, rfl⟩))
  · exact kz_false (by simp only [Int32.lt_iff_toInt_lt, Int32.le_iff_toInt_le, ← Int32.toInt_inj, Int32.reduceToInt] at c_6 c_7 c_8 c_9; omega)
  · have hP : va_P D vwCl [(x_state_tower, .inr (8, [.ref x_state_tower_rank, .ref x_state_tower_head, .int 0, .int 0, .int 0])), (x_state_tower_head, .inl (ty 0, 6, .inl (fun _ => 0)))] H := hP
    have hD : va_D A [(x_state_tower, .inr (8, [.ref x_state_tower_rank, .ref x_state_tower_head, .int 0, .int 0, .int 0])), (x_state_tower_head, .inl (ty 0, 6, .inl (fun _ => 0)))] := hD
    exact kz_iret hx hb hr hlocks hP hK hD hS dX8_act_44 (Or.inr (Or.inr ⟨c_10, c_11, rfl, rfl⟩))
