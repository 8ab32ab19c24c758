set_option maxHeartbeats 4000000 in
set_option maxRecDepth 100000 in
theorem fX9_undo (l : Launch) (D : va_G) (ty : Nat → ClassId) (eo : Nat → Nat) (sz : Nat) (x x_state x_images x_kept x_history x_drawnTower x_machine x_judge x_runner x_reader x_draft x_paper x_tape x_chances x_refusals x_history_towers x_history_kinds x_history_markedTowers x_history_markedKinds : Nat) : Met l yX9_undo wsX9_undo ({ frames := 1, cells := 0, slots := 0, locals := 21 }) (va_Pc [.ref x] (kz_pre D ty eo [(x, .inr (9, [.ref x_state, .ref x_images, .ref x_kept, .ref x_history, .ref x_drawnTower, .ref x_machine, .ref x_judge, .ref x_runner, .ref x_reader, .ref x_draft, .ref x_paper, .ref x_tape, .int 0, .int (-1), .int 0, .int (-1), .ref x_chances, .ref x_refusals, .int 0])), (x_history, .inr (0, [.ref x_history_towers, .ref x_history_kinds, .int 0, .ref x_history_markedTowers, .ref x_history_markedKinds, .int 0])), (x_refusals, .inl (ty 0, 7, .inl (fun _ => 0)))] sz)) (va_Qi (fun (r : Int32) (u : va_W) => (-3) = r ∧ [(x_history, .inr (0, [.ref x_history_towers, .ref x_history_kinds, .int 0, .ref x_history_markedTowers, .ref x_history_markedKinds, .int 0])), (x, .inr (9, [.ref x_state, .ref x_images, .ref x_kept, .ref x_history, .ref x_drawnTower, .ref x_machine, .ref x_judge, .ref x_runner, .ref x_reader, .ref x_draft, .ref x_paper, .ref x_tape, .int 0, .int (-1), .int 0, .int (-1), .ref x_chances, .ref x_refusals, .int (-3)])), (x_refusals, .inl (ty 0, 7, .inl (upd (fun _ => 0) 3 1)))] = u) (kz_B D ty (va_A [(x, .inr (9, [.ref x_state, .ref x_images, .ref x_kept, .ref x_history, .ref x_drawnTower, .ref x_machine, .ref x_judge, .ref x_runner, .ref x_reader, .ref x_draft, .ref x_paper, .ref x_tape, .int 0, .int (-1), .int 0, .int (-1), .ref x_chances, .ref x_refusals, .int 0])), (x_history, .inr (0, [.ref x_history_towers, .ref x_history_kinds, .int 0, .ref x_history_markedTowers, .ref x_history_markedKinds, .int 0])), (x_refusals, .inl (ty 0, 7, .inl (fun _ => 0)))] sz)) (va_A [(x, .inr (9, [.ref x_state, .ref x_images, .ref x_kept, .ref x_history, .ref x_drawnTower, .ref x_machine, .ref x_judge, .ref x_runner, .ref x_reader, .ref x_draft, .ref x_paper, .ref x_tape, .int 0, .int (-1), .int 0, .int (-1), .ref x_chances, .ref x_refusals, .int 0])), (x_history, .inr (0, [.ref x_history_towers, .ref x_history_kinds, .int 0, .ref x_history_markedTowers, .ref x_history_markedKinds, .int 0])), (x_refusals, .inl (ty 0, 7, .inl (fun _ => 0)))] sz)) 0 0 (va_A [(x, .inr (9, [.ref x_state, .ref x_images, .ref x_kept, .ref x_history, .ref x_drawnTower, .ref x_machine, .ref x_judge, .ref x_runner, .ref x_reader, .ref x_draft, .ref x_paper, .ref x_tape, .int 0, .int (-1), .int 0, .int (-1), .ref x_chances, .ref x_refusals, .int 0])), (x_history, .inr (0, [.ref x_history_towers, .ref x_history_kinds, .int 0, .ref x_history_markedTowers, .ref x_history_markedKinds, .int 0])), (x_refusals, .inl (ty 0, 7, .inl (fun _ => 0)))] sz) := by
  refine Met.ofW (cc := cX9_undo) (maxL := 1) (ret := (some .int)) (by decide) rfl ?_
  intro p e s m args below meth c s₁ B hml hv
  obtain ⟨rfl, hsz, hP, hK, hD0, hN, hE⟩ := hv
  have hx := B.exec
  have hb := B.bytes
  have hr := B.returns
  have hts := atoms_spec (ws := wsX9_undo) B.pre
  have hown : s.vm.findClass RX9 = some m.cls := findClass_of_methodNamed B.named
  have hlocks := B.notSynchronized
  subst hsz
  have hD := hD0.self (sz := s.heap.size)
  generalize hAe : va_A [(x, .inr (9, [.ref x_state, .ref x_images, .ref x_kept, .ref x_history, .ref x_drawnTower, .ref x_machine, .ref x_judge, .ref x_runner, .ref x_reader, .ref x_draft, .ref x_paper, .ref x_tape, .int 0, .int (-1), .int 0, .int (-1), .ref x_chances, .ref x_refusals, .int 0])), (x_history, .inr (0, [.ref x_history_towers, .ref x_history_kinds, .int 0, .ref x_history_markedTowers, .ref x_history_markedKinds, .int 0])), (x_refusals, .inl (ty 0, 7, .inl (fun _ => 0)))] s.heap.size = A at hD hE ⊢
  have hA : ∀ q : Nat, s.heap.size ≤ q → A q := fun q h => by rw [← hAe]; exact Or.inr h
  have hS : va_S A s.heap s.heap [] := va_S.rf
  have hl := lv_entry ([.ref x]) (n := 1) (Nat.le_of_ble_eq_true rfl)
  rw [lg_entry_eq]
  generalize (lg_sl ([.ref x]) ++ List.replicate (1 - (lg_sl ([.ref x])).length) Slot.unset).toArray = ls at hl ⊢
  have hl : lv_has ls 1 [(0, .ref x)] := hl
  refine lv_aload_n hx hb dX9_undo_0 rfl (lv_at hl 0 rfl) ?_
  refine va_get (D := D) (ci := 9) (v := .ref x_history) (C := RX9) (T := TX9) (N := 19) hx hb hts (by decide +kernel) hown hK hP 0 rfl rfl 3 (by decide) (hts (.fieldLink RX9 27 "TurnedFloors" "history" "LTurnedFloors$History;") (by decide +kernel)) (fun _ h9 => h9) rfl dX9_undo_1 ?_
  refine va_getN (D := D) (ci := 0) (v := .int 0) (C := RX0) (T := TX0) (N := 6) hx hb hts (by decide +kernel) hown hK hP 1 rfl rfl 2 (by decide) (hN.use (.fieldLinkNest "TurnedFloors" 214 "TurnedFloors$History" "kept" "I" "TurnedFloors") (by decide +kernel)) (fun _ h9 => h9) rfl dX9_undo_4 ?_
  refine lv_if_gt (tgt := 17) hx hb dX9_undo_7 (by decide) (fun h => absurd h (by decide)) (fun _ => ?_)
  refine lv_aload_n hx hb dX9_undo_10 rfl (lv_at hl 0 rfl) ?_
  refine lv_bipush (v := (-3)) hx hb dX9_undo_11 (by decide) ?_
  refine kz_ki (wc := [(x, .inr (9, [.ref x_state, .ref x_images, .ref x_kept, .ref x_history, .ref x_drawnTower, .ref x_machine, .ref x_judge, .ref x_runner, .ref x_reader, .ref x_draft, .ref x_paper, .ref x_tape, .int 0, .int (-1), .int 0, .int (-1), .ref x_chances, .ref x_refusals, .int 0])), (x_refusals, .inl (ty 0, 7, .inl (fun _ => 0)))]) (wr := [(x_history, .inr (0, [.ref x_history_towers, .ref x_history_kinds, .int 0, .ref x_history_markedTowers, .ref x_history_markedKinds, .int 0]))]) (va_runV (As := [.int (-3)]) (rest := []) ⟨hx, hb, hml, hown, hts⟩ (kX9_refuse_58 l D ty eo _ x x_state x_images x_kept x_history x_drawnTower x_machine x_judge x_runner x_reader x_draft x_paper x_tape x_chances x_refusals) (cwV 1 hts gX9_undo_X9_refuse rfl rfl rfl (by decide +kernel) ⟨Nat.le_of_ble_eq_true rfl, Nat.le_of_ble_eq_true rfl⟩) (kz_preV (ci := 9) (q0 := 0) hK hN hE hP hD hS hA rfl rfl [0, 2] (by decide) rfl) rfl rfl hl.1 rfl (lv_room (Nat.le_of_ble_eq_true rfl)) dX9_undo_13 ⟨Nat.le_of_ble_eq_true rfl, Nat.le_of_ble_eq_true rfl⟩) hP hD hS hA [0, 2] [1] rfl rfl (by decide) (by decide) (fun r u H locs hw hp hd hs => ?_)
  obtain ⟨rfl, rfl⟩ := hw
  refine kz_re (w2 := [(x_history, .inr (0, [.ref x_history_towers, .ref x_history_kinds, .int 0, .ref x_history_markedTowers, .ref x_history_markedKinds, .int 0])), (x, .inr (9, [.ref x_state, .ref x_images, .ref x_kept, .ref x_history, .ref x_drawnTower, .ref x_machine, .ref x_judge, .ref x_runner, .ref x_reader, .ref x_draft, .ref x_paper, .ref x_tape, .int 0, .int (-1), .int 0, .int (-1), .ref x_chances, .ref x_refusals, .int (-3)])), (x_refusals, .inl (ty 0, 7, .inl (upd (fun _ => 0) 3 1)))]) hp hd hs rfl ?_
  clear hp hd hs hP hD hS
  intro hP hD hS
  exact kz_iret hx hb hr hlocks hP hK hD hS dX9_undo_16 ⟨rfl, rfl⟩

set_option maxHeartbeats 4000000 in
set_option maxRecDepth 100000 in
theorem kX3_setDigits_78 (l : Launch) (D : va_G) (ty : Nat → ClassId) (eo : Nat → Nat) (sz : Nat) (x_paper x_paper_ranks x_paper_digits x_paper_barred x_paper_pays x_paper_measuredBarred x_paper_buckets q_5 q_6 q_7 q_1 q_2 q_3 q_4 : Nat) : Met l yX3_setDigits wsX3_setDigits ({ frames := 1, cells := 0, slots := 0, locals := 20 }) (va_Pc [.ref x_paper, .int 0] (kz_pre D ty eo [(x_paper, .inr (3, [.ref x_paper_ranks, .ref x_paper_digits, .ref x_paper_barred, .ref x_paper_pays, .ref x_paper_measuredBarred, .ref x_paper_buckets, .ref q_5, .ref q_6, .ref q_7, .ref q_1, .ref q_2, .ref q_3, .ref q_4, .int 0, .int 1, .int 0, .int 0, .int (-1), .int (-1), .int 0])), (x_paper_digits, .inl (ty 0, 6, .inl (fun _ => 0)))] sz)) (va_Qv (fun (u : va_W) => [(x_paper, .inr (3, [.ref x_paper_ranks, .ref x_paper_digits, .ref x_paper_barred, .ref x_paper_pays, .ref x_paper_measuredBarred, .ref x_paper_buckets, .ref q_5, .ref q_6, .ref q_7, .ref q_1, .ref q_2, .ref q_3, .ref q_4, .int 0, .int 1, .int 0, .int 0, .int (-1), .int (-1), .int 0])), (x_paper_digits, .inl (ty 0, 6, .inl (upd (upd (upd (upd (upd (upd (upd (upd (upd (upd (upd (upd (upd (upd (upd (upd (upd (upd (upd (upd (upd (fun _ => 0) 0 0) 0 0) 1 1) 0 0) 1 1) 2 2) 0 0) 1 1) 2 2) 3 3) 0 0) 1 1) 2 2) 3 3) 4 4) 0 0) 1 1) 2 2) 3 3) 4 4) 5 5)))] = u) (kz_B D ty (va_A [(x_paper, .inr (3, [.ref x_paper_ranks, .ref x_paper_digits, .ref x_paper_barred, .ref x_paper_pays, .ref x_paper_measuredBarred, .ref x_paper_buckets, .ref q_5, .ref q_6, .ref q_7, .ref q_1, .ref q_2, .ref q_3, .ref q_4, .int 0, .int 1, .int 0, .int 0, .int (-1), .int (-1), .int 0])), (x_paper_digits, .inl (ty 0, 6, .inl (fun _ => 0)))] sz)) (va_A [(x_paper, .inr (3, [.ref x_paper_ranks, .ref x_paper_digits, .ref x_paper_barred, .ref x_paper_pays, .ref x_paper_measuredBarred, .ref x_paper_buckets, .ref q_5, .ref q_6, .ref q_7, .ref q_1, .ref q_2, .ref q_3, .ref q_4, .int 0, .int 1, .int 0, .int 0, .int (-1), .int (-1), .int 0])), (x_paper_digits, .inl (ty 0, 6, .inl (fun _ => 0)))] sz)) 0 0 (va_A [(x_paper, .inr (3, [.ref x_paper_ranks, .ref x_paper_digits, .ref x_paper_barred, .ref x_paper_pays, .ref x_paper_measuredBarred, .ref x_paper_buckets, .ref q_5, .ref q_6, .ref q_7, .ref q_1, .ref q_2, .ref q_3, .ref q_4, .int 0, .int 1, .int 0, .int 0, .int (-1), .int (-1), .int 0])), (x_paper_digits, .inl (ty 0, 6, .inl (fun _ => 0)))] sz) := by
  refine Met.ofW (cc := cX3_setDigits) (maxL := 5) (ret := none) (by decide) rfl ?_
  intro p e s m args below meth c s₁ B hml hv
  obtain ⟨rfl, hsz, hP, hK, hD0, hN, hE⟩ := hv
  have hx := B.exec
  have hb := B.bytes
  have hr := B.returns
  have hts := atoms_spec (ws := wsX3_setDigits) B.pre
  have hown : s.vm.findClass RX3 = some m.cls := findClass_of_methodNamed B.named
  have hlocks := B.notSynchronized
  subst hsz
  have hD := hD0.self (sz := s.heap.size)
  generalize hAe : va_A [(x_paper, .inr (3, [.ref x_paper_ranks, .ref x_paper_digits, .ref x_paper_barred, .ref x_paper_pays, .ref x_paper_measuredBarred, .ref x_paper_buckets, .ref q_5, .ref q_6, .ref q_7, .ref q_1, .ref q_2, .ref q_3, .ref q_4, .int 0, .int 1, .int 0, .int 0, .int (-1), .int (-1), .int 0])), (x_paper_digits, .inl (ty 0, 6, .inl (fun _ => 0)))] s.heap.size = A at hD hE ⊢
  have hA : ∀ q : Nat, s.heap.size ≤ q → A q := fun q h => by rw [← hAe]; exact Or.inr h
  have hS : va_S A s.heap s.heap [] := va_S.rf
  have hl := lv_entry ([.ref x_paper, .int 0]) (n := 5) (Nat.le_of_ble_eq_true rfl)
  rw [lg_entry_eq]
  generalize (lg_sl ([.ref x_paper, .int 0]) ++ List.replicate (5 - (lg_sl ([.ref x_paper, .int 0])).length) Slot.unset).toArray = ls at hl ⊢
  have hl : lv_has ls 5 [(0, .ref x_paper), (1, .int 0)] := hl
  refine lv_iconst (v := 0) hx hb dX3_setDigits_0 (by decide) ?_
  refine lv_istore_n (lv' := [(2, .int 0), (0, .ref x_paper), (1, .int 0)]) hx hb dX3_setDigits_1 rfl hl (by decide) rfl (fun ls hl => ?_)
  refine lv_iload_n hx hb dX3_setDigits_2 rfl (lv_at hl 0 rfl) ?_
  refine lv_bipush (v := 6) hx hb dX3_setDigits_3 (by decide) ?_
  refine lv_icmp_ge (tgt := 79) hx hb dX3_setDigits_5 (by decide) (fun h => absurd h (by decide)) (fun _ => ?_)
  refine lv_iload_n hx hb dX3_setDigits_8 rfl (lv_at hl 0 rfl) ?_
  refine lv_iload_n hx hb dX3_setDigits_9 rfl (lv_at hl 2 rfl) ?_
  refine va_gets hx hb hE.1 hS hown (hts (.fieldLink RX3 76 "TurnedFloors$Paper" "FACTORIALS" "[I") (by decide +kernel)) (fun _ h9 => h9) dX3_setDigits_10 ?_
  refine lv_iload_n hx hb dX3_setDigits_13 rfl (lv_at hl 0 rfl) ?_
  refine va_ti (v := .int 1) hx hb hE.2.1 hS (by simp only [vp_in]; decide) rfl dX3_setDigits_14 ?_
  refine lv_idiv hx hb dX3_setDigits_15 (by decide) ?_
  refine kz_topi 0 (by first | rfl | decide +kernel) ?_
  refine lv_iload_n hx hb dX3_setDigits_16 rfl (lv_at hl 0 rfl) ?_
  refine lv_iconst (v := 1) hx hb dX3_setDigits_17 (by decide) ?_
  refine lv_iadd hx hb dX3_setDigits_18 ?_
  refine kz_topi 1 (by first | rfl | decide +kernel) ?_
  refine lv_irem hx hb dX3_setDigits_19 (by decide) ?_
  refine kz_topi 0 (by first | rfl | decide +kernel) ?_
  refine lv_isub hx hb dX3_setDigits_20 ?_
  refine kz_topi 0 (by first | rfl | decide +kernel) ?_
  refine lv_istore_n (lv' := [(3, .int 0), (2, .int 0), (0, .ref x_paper), (1, .int 0)]) hx hb dX3_setDigits_21 rfl hl (by decide) rfl (fun ls hl => ?_)
  refine lv_iconst (v := 0) hx hb dX3_setDigits_22 (by decide) ?_
  refine lv_istore (lv' := [(4, .int 0), (3, .int 0), (2, .int 0), (0, .ref x_paper), (1, .int 0)]) hx hb dX3_setDigits_23 hl (by decide) rfl (fun ls hl => ?_)
  refine lv_iload hx hb dX3_setDigits_25 (lv_at hl 0 rfl) ?_
  refine lv_iload_n hx hb dX3_setDigits_27 rfl (lv_at hl 2 rfl) ?_
  refine lv_icmp_ge (tgt := 66) hx hb dX3_setDigits_28 (by decide) (fun _ => ?_) (fun h => absurd (by decide) h)
  refine lv_aload_n hx hb dX3_setDigits_66 rfl (lv_at hl 3 rfl) ?_
  refine va_get (D := D) (ci := 3) (v := .ref x_paper_digits) (C := RX3) (T := TX3) (N := 20) hx hb hts (by decide +kernel) hown hK hP 0 rfl rfl 1 (by decide) (hts (.fieldLink RX3 15 "TurnedFloors$Paper" "digits" "[I") (by decide +kernel)) (fun _ h9 => h9) rfl dX3_setDigits_67 ?_
  refine lv_iload_n hx hb dX3_setDigits_70 rfl (lv_at hl 2 rfl) ?_
  refine lv_iload_n hx hb dX3_setDigits_71 rfl (lv_at hl 1 rfl) ?_
  refine va_iast hx hb hK hP hD hS 1 0 rfl rfl (by simp only [vp_in]; decide) dX3_setDigits_72 (fun H locs hp hd hs => ?_)
  refine kz_re (w2 := [(x_paper, .inr (3, [.ref x_paper_ranks, .ref x_paper_digits, .ref x_paper_barred, .ref x_paper_pays, .ref x_paper_measuredBarred, .ref x_paper_buckets, .ref q_5, .ref q_6, .ref q_7, .ref q_1, .ref q_2, .ref q_3, .ref q_4, .int 0, .int 1, .int 0, .int 0, .int (-1), .int (-1), .int 0])), (x_paper_digits, .inl (ty 0, 6, .inl (upd (fun _ => 0) 0 0)))]) hp hd hs rfl ?_
  clear hp hd hs hP hD hS
  intro hP hD hS
  refine lv_iinc (v := 1) (lv' := [(2, .int 1), (4, .int 0), (3, .int 0), (0, .ref x_paper), (1, .int 0)]) hx hb dX3_setDigits_73 hl (k := 2) rfl (by decide) (by decide) rfl (fun ls hl => ?_)
  refine lv_goto (tgt := 2) hx hb dX3_setDigits_76 (by decide) ?_
  refine lv_iload_n hx hb dX3_setDigits_2 rfl (lv_at hl 0 rfl) ?_
  refine lv_bipush (v := 6) hx hb dX3_setDigits_3 (by decide) ?_
  refine lv_icmp_ge (tgt := 79) hx hb dX3_setDigits_5 (by decide) (fun h => absurd h (by decide)) (fun _ => ?_)
  refine lv_iload_n hx hb dX3_setDigits_8 rfl (lv_at hl 0 rfl) ?_
  refine lv_iload_n hx hb dX3_setDigits_9 rfl (lv_at hl 4 rfl) ?_
  refine va_gets hx hb hE.1 hS hown (hts (.fieldLink RX3 76 "TurnedFloors$Paper" "FACTORIALS" "[I") (by decide +kernel)) (fun _ h9 => h9) dX3_setDigits_10 ?_
  refine lv_iload_n hx hb dX3_setDigits_13 rfl (lv_at hl 0 rfl) ?_
  refine va_ti (v := .int 1) hx hb hE.2.1 hS (by simp only [vp_in]; decide) rfl dX3_setDigits_14 ?_
  refine lv_idiv hx hb dX3_setDigits_15 (by decide) ?_
  refine kz_topi 0 (by first | rfl | decide +kernel) ?_
  refine lv_iload_n hx hb dX3_setDigits_16 rfl (lv_at hl 0 rfl) ?_
  refine lv_iconst (v := 1) hx hb dX3_setDigits_17 (by decide) ?_
  refine lv_iadd hx hb dX3_setDigits_18 ?_
  refine kz_topi 2 (by first | rfl | decide +kernel) ?_
  refine lv_irem hx hb dX3_setDigits_19 (by decide) ?_
  refine kz_topi 0 (by first | rfl | decide +kernel) ?_
  refine lv_isub hx hb dX3_setDigits_20 ?_
  refine kz_topi 1 (by first | rfl | decide +kernel) ?_
  refine lv_istore_n (lv' := [(3, .int 1), (2, .int 1), (4, .int 0), (0, .ref x_paper), (1, .int 0)]) hx hb dX3_setDigits_21 rfl hl (by decide) rfl (fun ls hl => ?_)
  refine lv_iconst (v := 0) hx hb dX3_setDigits_22 (by decide) ?_
  refine lv_istore (lv' := [(4, .int 0), (3, .int 1), (2, .int 1), (0, .ref x_paper), (1, .int 0)]) hx hb dX3_setDigits_23 hl (by decide) rfl (fun ls hl => ?_)
  refine lv_iload hx hb dX3_setDigits_25 (lv_at hl 0 rfl) ?_
  refine lv_iload_n hx hb dX3_setDigits_27 rfl (lv_at hl 2 rfl) ?_
  refine lv_icmp_ge (tgt := 66) hx hb dX3_setDigits_28 (by decide) (fun h => absurd h (by decide)) (fun _ => ?_)
  refine lv_aload_n hx hb dX3_setDigits_31 rfl (lv_at hl 3 rfl) ?_
  refine va_get (D := D) (ci := 3) (v := .ref x_paper_digits) (C := RX3) (T := TX3) (N := 20) hx hb hts (by decide +kernel) hown hK hP 0 rfl rfl 1 (by decide) (hts (.fieldLink RX3 15 "TurnedFloors$Paper" "digits" "[I") (by decide +kernel)) (fun _ h9 => h9) rfl dX3_setDigits_32 ?_
  refine lv_iload hx hb dX3_setDigits_35 (lv_at hl 0 rfl) ?_
  refine lv_dup2_11 hx hb dX3_setDigits_37 rfl rfl ?_
  refine va_iald hx hb hK hP 1 0 rfl rfl (by simp only [vp_in]; decide) dX3_setDigits_38 ?_
  refine kz_topi 0 (by first | rfl | decide +kernel) ?_
  refine lv_aload_n hx hb dX3_setDigits_39 rfl (lv_at hl 3 rfl) ?_
  refine va_get (D := D) (ci := 3) (v := .ref x_paper_digits) (C := RX3) (T := TX3) (N := 20) hx hb hts (by decide +kernel) hown hK hP 0 rfl rfl 1 (by decide) (hts (.fieldLink RX3 15 "TurnedFloors$Paper" "digits" "[I") (by decide +kernel)) (fun _ h9 => h9) rfl dX3_setDigits_40 ?_
  refine lv_iload hx hb dX3_setDigits_43 (lv_at hl 0 rfl) ?_
  refine va_iald hx hb hK hP 1 0 rfl rfl (by simp only [vp_in]; decide) dX3_setDigits_45 ?_
  refine kz_topi 0 (by first | rfl | decide +kernel) ?_
  refine lv_iload_n hx hb dX3_setDigits_46 rfl (lv_at hl 1 rfl) ?_
  refine lv_icmp_lt (tgt := 54) hx hb dX3_setDigits_47 (by decide) (fun _ => ?_) (fun h => absurd (by decide) h)
  refine lv_iconst (v := 0) hx hb dX3_setDigits_54 (by decide) ?_
  refine kz_ki (wc := []) (wr := [(x_paper, .inr (3, [.ref x_paper_ranks, .ref x_paper_digits, .ref x_paper_barred, .ref x_paper_pays, .ref x_paper_measuredBarred, .ref x_paper_buckets, .ref q_5, .ref q_6, .ref q_7, .ref q_1, .ref q_2, .ref q_3, .ref q_4, .int 0, .int 1, .int 0, .int 0, .int (-1), .int (-1), .int 0])), (x_paper_digits, .inl (ty 0, 6, .inl (upd (fun _ => 0) 0 0)))]) (va_runSN (As := [.int 0]) (rest := [.int 0, .int 0, .ref x_paper_digits]) ⟨hx, hb, hml, hown, hts⟩ (kcX9_bit l D ty eo _ 0) ⟨va_cnB 1 hts gX3_setDigits_X9_bit_n133 rfl rfl rfl (hN.1 _ (by decide +kernel : (.methodLinkNest "TurnedFloors$Paper" 133 yX9_bit "TurnedFloors" : Cond) ∈ kzN1)) (hts (.initialized RX9) (by decide +kernel)) (by decide +kernel) ⟨Nat.le_of_ble_eq_true rfl, Nat.le_of_ble_eq_true rfl⟩, hts (.static yX9_bit) (by decide +kernel), trivial⟩ (kz_preS hK hN hE hP hD hS hA [] (by decide) rfl) rfl rfl hl.1 rfl (lv_room (Nat.le_of_ble_eq_true rfl)) dX3_setDigits_55 ⟨Nat.le_of_ble_eq_true rfl, Nat.le_of_ble_eq_true rfl⟩) hP hD hS hA [] [0, 1] rfl rfl (by decide) (by decide) (fun r u H locs hw hp hd hs => ?_)
  rcases hw with ⟨c_1, rfl, rfl⟩ | ⟨c_2, rfl, rfl⟩
  · refine kz_re (w2 := [(x_paper, .inr (3, [.ref x_paper_ranks, .ref x_paper_digits, .ref x_paper_barred, .ref x_paper_pays, .ref x_paper_measuredBarred, .ref x_paper_buckets, .ref q_5, .ref q_6, .ref q_7, .ref q_1, .ref q_2, .ref q_3, .ref q_4, .int 0, .int 1, .int 0, .int 0, .int (-1), .int (-1), .int 0])), (x_paper_digits, .inl (ty 0, 6, .inl (upd (fun _ => 0) 0 0)))]) hp hd hs rfl ?_
    clear hp hd hs hP hD hS
    intro hP hD hS
    refine lv_iadd hx hb dX3_setDigits_58 ?_
    refine kz_topi 0 (by first | rfl | decide +kernel) ?_
    refine va_iast hx hb hK hP hD hS 1 0 rfl rfl (by simp only [vp_in]; decide) dX3_setDigits_59 (fun H locs hp hd hs => ?_)
    refine kz_re (w2 := [(x_paper, .inr (3, [.ref x_paper_ranks, .ref x_paper_digits, .ref x_paper_barred, .ref x_paper_pays, .ref x_paper_measuredBarred, .ref x_paper_buckets, .ref q_5, .ref q_6, .ref q_7, .ref q_1, .ref q_2, .ref q_3, .ref q_4, .int 0, .int 1, .int 0, .int 0, .int (-1), .int (-1), .int 0])), (x_paper_digits, .inl (ty 0, 6, .inl (upd (upd (fun _ => 0) 0 0) 0 0)))]) hp hd hs rfl ?_
    clear hp hd hs hP hD hS
    intro hP hD hS
    refine lv_iinc (v := 1) (lv' := [(4, .int 1), (3, .int 1), (2, .int 1), (0, .ref x_paper), (1, .int 0)]) hx hb dX3_setDigits_60 hl (k := 0) rfl (by decide) (by decide) rfl (fun ls hl => ?_)
    refine lv_goto (tgt := 25) hx hb dX3_setDigits_63 (by decide) ?_
    refine lv_iload hx hb dX3_setDigits_25 (lv_at hl 0 rfl) ?_
    refine lv_iload_n hx hb dX3_setDigits_27 rfl (lv_at hl 2 rfl) ?_
    refine lv_icmp_ge (tgt := 66) hx hb dX3_setDigits_28 (by decide) (fun _ => ?_) (fun h => absurd (by decide) h)
    refine lv_aload_n hx hb dX3_setDigits_66 rfl (lv_at hl 3 rfl) ?_
    refine va_get (D := D) (ci := 3) (v := .ref x_paper_digits) (C := RX3) (T := TX3) (N := 20) hx hb hts (by decide +kernel) hown hK hP 0 rfl rfl 1 (by decide) (hts (.fieldLink RX3 15 "TurnedFloors$Paper" "digits" "[I") (by decide +kernel)) (fun _ h9 => h9) rfl dX3_setDigits_67 ?_
    refine lv_iload_n hx hb dX3_setDigits_70 rfl (lv_at hl 2 rfl) ?_
    refine lv_iload_n hx hb dX3_setDigits_71 rfl (lv_at hl 1 rfl) ?_
    refine va_iast hx hb hK hP hD hS 1 0 rfl rfl (by simp only [vp_in]; decide) dX3_setDigits_72 (fun H locs hp hd hs => ?_)
    refine kz_re (w2 := [(x_paper, .inr (3, [.ref x_paper_ranks, .ref x_paper_digits, .ref x_paper_barred, .ref x_paper_pays, .ref x_paper_measuredBarred, .ref x_paper_buckets, .ref q_5, .ref q_6, .ref q_7, .ref q_1, .ref q_2, .ref q_3, .ref q_4, .int 0, .int 1, .int 0, .int 0, .int (-1), .int (-1), .int 0])), (x_paper_digits, .inl (ty 0, 6, .inl (upd (upd (upd (fun _ => 0) 0 0) 0 0) 1 1)))]) hp hd hs rfl ?_
    clear hp hd hs hP hD hS
    intro hP hD hS
    refine lv_iinc (v := 2) (lv' := [(2, .int 2), (4, .int 1), (3, .int 1), (0, .ref x_paper), (1, .int 0)]) hx hb dX3_setDigits_73 hl (k := 2) rfl (by decide) (by decide) rfl (fun ls hl => ?_)
    refine lv_goto (tgt := 2) hx hb dX3_setDigits_76 (by decide) ?_
    refine lv_iload_n hx hb dX3_setDigits_2 rfl (lv_at hl 0 rfl) ?_
    refine lv_bipush (v := 6) hx hb dX3_setDigits_3 (by decide) ?_
    refine lv_icmp_ge (tgt := 79) hx hb dX3_setDigits_5 (by decide) (fun h => absurd h (by decide)) (fun _ => ?_)
    refine lv_iload_n hx hb dX3_setDigits_8 rfl (lv_at hl 0 rfl) ?_
    refine lv_iload_n hx hb dX3_setDigits_9 rfl (lv_at hl 4 rfl) ?_
    refine va_gets hx hb hE.1 hS hown (hts (.fieldLink RX3 76 "TurnedFloors$Paper" "FACTORIALS" "[I") (by decide +kernel)) (fun _ h9 => h9) dX3_setDigits_10 ?_
    refine lv_iload_n hx hb dX3_setDigits_13 rfl (lv_at hl 0 rfl) ?_
    refine va_ti (v := .int 2) hx hb hE.2.1 hS (by simp only [vp_in]; decide) rfl dX3_setDigits_14 ?_
    refine lv_idiv hx hb dX3_setDigits_15 (by decide) ?_
    refine kz_topi 0 (by first | rfl | decide +kernel) ?_
    refine lv_iload_n hx hb dX3_setDigits_16 rfl (lv_at hl 0 rfl) ?_
    refine lv_iconst (v := 1) hx hb dX3_setDigits_17 (by decide) ?_
    refine lv_iadd hx hb dX3_setDigits_18 ?_
    refine kz_topi 3 (by first | rfl | decide +kernel) ?_
    refine lv_irem hx hb dX3_setDigits_19 (by decide) ?_
    refine kz_topi 0 (by first | rfl | decide +kernel) ?_
    refine lv_isub hx hb dX3_setDigits_20 ?_
    refine kz_topi 2 (by first | rfl | decide +kernel) ?_
    refine lv_istore_n (lv' := [(3, .int 2), (2, .int 2), (4, .int 1), (0, .ref x_paper), (1, .int 0)]) hx hb dX3_setDigits_21 rfl hl (by decide) rfl (fun ls hl => ?_)
    refine lv_iconst (v := 0) hx hb dX3_setDigits_22 (by decide) ?_
    refine lv_istore (lv' := [(4, .int 0), (3, .int 2), (2, .int 2), (0, .ref x_paper), (1, .int 0)]) hx hb dX3_setDigits_23 hl (by decide) rfl (fun ls hl => ?_)
    refine lv_iload hx hb dX3_setDigits_25 (lv_at hl 0 rfl) ?_
    refine lv_iload_n hx hb dX3_setDigits_27 rfl (lv_at hl 2 rfl) ?_
    refine lv_icmp_ge (tgt := 66) hx hb dX3_setDigits_28 (by decide) (fun h => absurd h (by decide)) (fun _ => ?_)
    refine lv_aload_n hx hb dX3_setDigits_31 rfl (lv_at hl 3 rfl) ?_
    refine va_get (D := D) (ci := 3) (v := .ref x_paper_digits) (C := RX3) (T := TX3) (N := 20) hx hb hts (by decide +kernel) hown hK hP 0 rfl rfl 1 (by decide) (hts (.fieldLink RX3 15 "TurnedFloors$Paper" "digits" "[I") (by decide +kernel)) (fun _ h9 => h9) rfl dX3_setDigits_32 ?_
    refine lv_iload hx hb dX3_setDigits_35 (lv_at hl 0 rfl) ?_
    refine lv_dup2_11 hx hb dX3_setDigits_37 rfl rfl ?_
    refine va_iald hx hb hK hP 1 0 rfl rfl (by simp only [vp_in]; decide) dX3_setDigits_38 ?_
    refine kz_topi 0 (by first | rfl | decide +kernel) ?_
    refine lv_aload_n hx hb dX3_setDigits_39 rfl (lv_at hl 3 rfl) ?_
    refine va_get (D := D) (ci := 3) (v := .ref x_paper_digits) (C := RX3) (T := TX3) (N := 20) hx hb hts (by decide +kernel) hown hK hP 0 rfl rfl 1 (by decide) (hts (.fieldLink RX3 15 "TurnedFloors$Paper" "digits" "[I") (by decide +kernel)) (fun _ h9 => h9) rfl dX3_setDigits_40 ?_
    refine lv_iload hx hb dX3_setDigits_43 (lv_at hl 0 rfl) ?_
    refine va_iald hx hb hK hP 1 0 rfl rfl (by simp only [vp_in]; decide) dX3_setDigits_45 ?_
    refine kz_topi 0 (by first | rfl | decide +kernel) ?_
    refine lv_iload_n hx hb dX3_setDigits_46 rfl (lv_at hl 1 rfl) ?_
    refine lv_icmp_lt (tgt := 54) hx hb dX3_setDigits_47 (by decide) (fun _ => ?_) (fun h => absurd (by decide) h)
    refine lv_iconst (v := 0) hx hb dX3_setDigits_54 (by decide) ?_
    refine kz_ki (wc := []) (wr := [(x_paper, .inr (3, [.ref x_paper_ranks, .ref x_paper_digits, .ref x_paper_barred, .ref x_paper_pays, .ref x_paper_measuredBarred, .ref x_paper_buckets, .ref q_5, .ref q_6, .ref q_7, .ref q_1, .ref q_2, .ref q_3, .ref q_4, .int 0, .int 1, .int 0, .int 0, .int (-1), .int (-1), .int 0])), (x_paper_digits, .inl (ty 0, 6, .inl (upd (upd (upd (fun _ => 0) 0 0) 0 0) 1 1)))]) (va_runSN (As := [.int 0]) (rest := [.int 0, .int 0, .ref x_paper_digits]) ⟨hx, hb, hml, hown, hts⟩ (kcX9_bit l D ty eo _ 0) ⟨va_cnB 1 hts gX3_setDigits_X9_bit_n133 rfl rfl rfl (hN.1 _ (by decide +kernel : (.methodLinkNest "TurnedFloors$Paper" 133 yX9_bit "TurnedFloors" : Cond) ∈ kzN1)) (hts (.initialized RX9) (by decide +kernel)) (by decide +kernel) ⟨Nat.le_of_ble_eq_true rfl, Nat.le_of_ble_eq_true rfl⟩, hts (.static yX9_bit) (by decide +kernel), trivial⟩ (kz_preS hK hN hE hP hD hS hA [] (by decide) rfl) rfl rfl hl.1 rfl (lv_room (Nat.le_of_ble_eq_true rfl)) dX3_setDigits_55 ⟨Nat.le_of_ble_eq_true rfl, Nat.le_of_ble_eq_true rfl⟩) hP hD hS hA [] [0, 1] rfl rfl (by decide) (by decide) (fun r u H locs hw hp hd hs => ?_)
    rcases hw with ⟨c_3, rfl, rfl⟩ | ⟨c_4, rfl, rfl⟩
    · refine kz_re (w2 := [(x_paper, .inr (3, [.ref x_paper_ranks, .ref x_paper_digits, .ref x_paper_barred, .ref x_paper_pays, .ref x_paper_measuredBarred, .ref x_paper_buckets, .ref q_5, .ref q_6, .ref q_7, .ref q_1, .ref q_2, .ref q_3, .ref q_4, .int 0, .int 1, .int 0, .int 0, .int (-1), .int (-1), .int 0])), (x_paper_digits, .inl (ty 0, 6, .inl (upd (upd (upd (fun _ => 0) 0 0) 0 0) 1 1)))]) hp hd hs rfl ?_
      clear hp hd hs hP hD hS
      intro hP hD hS
      refine lv_iadd hx hb dX3_setDigits_58 ?_
      refine kz_topi 0 (by first | rfl | decide +kernel) ?_
      refine va_iast hx hb hK hP hD hS 1 0 rfl rfl (by simp only [vp_in]; decide) dX3_setDigits_59 (fun H locs hp hd hs => ?_)
      refine kz_re (w2 := [(x_paper, .inr (3, [.ref x_paper_ranks, .ref x_paper_digits, .ref x_paper_barred, .ref x_paper_pays, .ref x_paper_measuredBarred, .ref x_paper_buckets, .ref q_5, .ref q_6, .ref q_7, .ref q_1, .ref q_2, .ref q_3, .ref q_4, .int 0, .int 1, .int 0, .int 0, .int (-1), .int (-1), .int 0])), (x_paper_digits, .inl (ty 0, 6, .inl (upd (upd (upd (upd (fun _ => 0) 0 0) 0 0) 1 1) 0 0)))]) hp hd hs rfl ?_
      clear hp hd hs hP hD hS
      intro hP hD hS
      refine lv_iinc (v := 1) (lv' := [(4, .int 1), (3, .int 2), (2, .int 2), (0, .ref x_paper), (1, .int 0)]) hx hb dX3_setDigits_60 hl (k := 0) rfl (by decide) (by decide) rfl (fun ls hl => ?_)
      refine lv_goto (tgt := 25) hx hb dX3_setDigits_63 (by decide) ?_
      refine lv_iload hx hb dX3_setDigits_25 (lv_at hl 0 rfl) ?_
      refine lv_iload_n hx hb dX3_setDigits_27 rfl (lv_at hl 2 rfl) ?_
      refine lv_icmp_ge (tgt := 66) hx hb dX3_setDigits_28 (by decide) (fun h => absurd h (by decide)) (fun _ => ?_)
      refine lv_aload_n hx hb dX3_setDigits_31 rfl (lv_at hl 3 rfl) ?_
      refine va_get (D := D) (ci := 3) (v := .ref x_paper_digits) (C := RX3) (T := TX3) (N := 20) hx hb hts (by decide +kernel) hown hK hP 0 rfl rfl 1 (by decide) (hts (.fieldLink RX3 15 "TurnedFloors$Paper" "digits" "[I") (by decide +kernel)) (fun _ h9 => h9) rfl dX3_setDigits_32 ?_
      refine lv_iload hx hb dX3_setDigits_35 (lv_at hl 0 rfl) ?_
      refine lv_dup2_11 hx hb dX3_setDigits_37 rfl rfl ?_
      refine va_iald hx hb hK hP 1 0 rfl rfl (by simp only [vp_in]; decide) dX3_setDigits_38 ?_
      refine kz_topi 1 (by first | rfl | decide +kernel) ?_
      refine lv_aload_n hx hb dX3_setDigits_39 rfl (lv_at hl 3 rfl) ?_
      refine va_get (D := D) (ci := 3) (v := .ref x_paper_digits) (C := RX3) (T := TX3) (N := 20) hx hb hts (by decide +kernel) hown hK hP 0 rfl rfl 1 (by decide) (hts (.fieldLink RX3 15 "TurnedFloors$Paper" "digits" "[I") (by decide +kernel)) (fun _ h9 => h9) rfl dX3_setDigits_40 ?_
      refine lv_iload hx hb dX3_setDigits_43 (lv_at hl 0 rfl) ?_
      refine va_iald hx hb hK hP 1 0 rfl rfl (by simp only [vp_in]; decide) dX3_setDigits_45 ?_
      refine kz_topi 1 (by first | rfl | decide +kernel) ?_
      refine lv_iload_n hx hb dX3_setDigits_46 rfl (lv_at hl 1 rfl) ?_
      refine lv_icmp_lt (tgt := 54) hx hb dX3_setDigits_47 (by decide) (fun _ => ?_) (fun h => absurd (by decide) h)
      refine lv_iconst (v := 0) hx hb dX3_setDigits_54 (by decide) ?_
      refine kz_ki (wc := []) (wr := [(x_paper, .inr (3, [.ref x_paper_ranks, .ref x_paper_digits, .ref x_paper_barred, .ref x_paper_pays, .ref x_paper_measuredBarred, .ref x_paper_buckets, .ref q_5, .ref q_6, .ref q_7, .ref q_1, .ref q_2, .ref q_3, .ref q_4, .int 0, .int 1, .int 0, .int 0, .int (-1), .int (-1), .int 0])), (x_paper_digits, .inl (ty 0, 6, .inl (upd (upd (upd (upd (fun _ => 0) 0 0) 0 0) 1 1) 0 0)))]) (va_runSN (As := [.int 0]) (rest := [.int 1, .int 1, .ref x_paper_digits]) ⟨hx, hb, hml, hown, hts⟩ (kcX9_bit l D ty eo _ 0) ⟨va_cnB 1 hts gX3_setDigits_X9_bit_n133 rfl rfl rfl (hN.1 _ (by decide +kernel : (.methodLinkNest "TurnedFloors$Paper" 133 yX9_bit "TurnedFloors" : Cond) ∈ kzN1)) (hts (.initialized RX9) (by decide +kernel)) (by decide +kernel) ⟨Nat.le_of_ble_eq_true rfl, Nat.le_of_ble_eq_true rfl⟩, hts (.static yX9_bit) (by decide +kernel), trivial⟩ (kz_preS hK hN hE hP hD hS hA [] (by decide) rfl) rfl rfl hl.1 rfl (lv_room (Nat.le_of_ble_eq_true rfl)) dX3_setDigits_55 ⟨Nat.le_of_ble_eq_true rfl, Nat.le_of_ble_eq_true rfl⟩) hP hD hS hA [] [0, 1] rfl rfl (by decide) (by decide) (fun r u H locs hw hp hd hs => ?_)
      rcases hw with ⟨c_5, rfl, rfl⟩ | ⟨c_6, rfl, rfl⟩
      · refine kz_re (w2 := [(x_paper, .inr (3, [.ref x_paper_ranks, .ref x_paper_digits, .ref x_paper_barred, .ref x_paper_pays, .ref x_paper_measuredBarred, .ref x_paper_buckets, .ref q_5, .ref q_6, .ref q_7, .ref q_1, .ref q_2, .ref q_3, .ref q_4, .int 0, .int 1, .int 0, .int 0, .int (-1), .int (-1), .int 0])), (x_paper_digits, .inl (ty 0, 6, .inl (upd (upd (upd (upd (fun _ => 0) 0 0) 0 0) 1 1) 0 0)))]) hp hd hs rfl ?_
        clear hp hd hs hP hD hS
        intro hP hD hS
        refine lv_iadd hx hb dX3_setDigits_58 ?_
        refine kz_topi 1 (by first | rfl | decide +kernel) ?_
        refine va_iast hx hb hK hP hD hS 1 0 rfl rfl (by simp only [vp_in]; decide) dX3_setDigits_59 (fun H locs hp hd hs => ?_)
        refine kz_re (w2 := [(x_paper, .inr (3, [.ref x_paper_ranks, .ref x_paper_digits, .ref x_paper_barred, .ref x_paper_pays, .ref x_paper_measuredBarred, .ref x_paper_buckets, .ref q_5, .ref q_6, .ref q_7, .ref q_1, .ref q_2, .ref q_3, .ref q_4, .int 0, .int 1, .int 0, .int 0, .int (-1), .int (-1), .int 0])), (x_paper_digits, .inl (ty 0, 6, .inl (upd (upd (upd (upd (upd (fun _ => 0) 0 0) 0 0) 1 1) 0 0) 1 1)))]) hp hd hs rfl ?_
        clear hp hd hs hP hD hS
        intro hP hD hS
        refine lv_iinc (v := 2) (lv' := [(4, .int 2), (3, .int 2), (2, .int 2), (0, .ref x_paper), (1, .int 0)]) hx hb dX3_setDigits_60 hl (k := 0) rfl (by decide) (by decide) rfl (fun ls hl => ?_)
        refine lv_goto (tgt := 25) hx hb dX3_setDigits_63 (by decide) ?_
        refine lv_iload hx hb dX3_setDigits_25 (lv_at hl 0 rfl) ?_
        refine lv_iload_n hx hb dX3_setDigits_27 rfl (lv_at hl 2 rfl) ?_
        refine lv_icmp_ge (tgt := 66) hx hb dX3_setDigits_28 (by decide) (fun _ => ?_) (fun h => absurd (by decide) h)
        refine lv_aload_n hx hb dX3_setDigits_66 rfl (lv_at hl 3 rfl) ?_
        refine va_get (D := D) (ci := 3) (v := .ref x_paper_digits) (C := RX3) (T := TX3) (N := 20) hx hb hts (by decide +kernel) hown hK hP 0 rfl rfl 1 (by decide) (hts (.fieldLink RX3 15 "TurnedFloors$Paper" "digits" "[I") (by decide +kernel)) (fun _ h9 => h9) rfl dX3_setDigits_67 ?_
        refine lv_iload_n hx hb dX3_setDigits_70 rfl (lv_at hl 2 rfl) ?_
        refine lv_iload_n hx hb dX3_setDigits_71 rfl (lv_at hl 1 rfl) ?_
        refine va_iast hx hb hK hP hD hS 1 0 rfl rfl (by simp only [vp_in]; decide) dX3_setDigits_72 (fun H locs hp hd hs => ?_)
        refine kz_re (w2 := [(x_paper, .inr (3, [.ref x_paper_ranks, .ref x_paper_digits, .ref x_paper_barred, .ref x_paper_pays, .ref x_paper_measuredBarred, .ref x_paper_buckets, .ref q_5, .ref q_6, .ref q_7, .ref q_1, .ref q_2, .ref q_3, .ref q_4, .int 0, .int 1, .int 0, .int 0, .int (-1), .int (-1), .int 0])), (x_paper_digits, .inl (ty 0, 6, .inl (upd (upd (upd (upd (upd (upd (fun _ => 0) 0 0) 0 0) 1 1) 0 0) 1 1) 2 2)))]) hp hd hs rfl ?_
        clear hp hd hs hP hD hS
        intro hP hD hS
        refine lv_iinc (v := 3) (lv' := [(2, .int 3), (4, .int 2), (3, .int 2), (0, .ref x_paper), (1, .int 0)]) hx hb dX3_setDigits_73 hl (k := 2) rfl (by decide) (by decide) rfl (fun ls hl => ?_)
        refine lv_goto (tgt := 2) hx hb dX3_setDigits_76 (by decide) ?_
        refine lv_iload_n hx hb dX3_setDigits_2 rfl (lv_at hl 0 rfl) ?_
        refine lv_bipush (v := 6) hx hb dX3_setDigits_3 (by decide) ?_
        refine lv_icmp_ge (tgt := 79) hx hb dX3_setDigits_5 (by decide) (fun h => absurd h (by decide)) (fun _ => ?_)
        refine lv_iload_n hx hb dX3_setDigits_8 rfl (lv_at hl 0 rfl) ?_
        refine lv_iload_n hx hb dX3_setDigits_9 rfl (lv_at hl 4 rfl) ?_
        refine va_gets hx hb hE.1 hS hown (hts (.fieldLink RX3 76 "TurnedFloors$Paper" "FACTORIALS" "[I") (by decide +kernel)) (fun _ h9 => h9) dX3_setDigits_10 ?_
        refine lv_iload_n hx hb dX3_setDigits_13 rfl (lv_at hl 0 rfl) ?_
        refine va_ti (v := .int 6) hx hb hE.2.1 hS (by simp only [vp_in]; decide) rfl dX3_setDigits_14 ?_
        refine lv_idiv hx hb dX3_setDigits_15 (by decide) ?_
        refine kz_topi 0 (by first | rfl | decide +kernel) ?_
        refine lv_iload_n hx hb dX3_setDigits_16 rfl (lv_at hl 0 rfl) ?_
        refine lv_iconst (v := 1) hx hb dX3_setDigits_17 (by decide) ?_
        refine lv_iadd hx hb dX3_setDigits_18 ?_
        refine kz_topi 4 (by first | rfl | decide +kernel) ?_
        refine lv_irem hx hb dX3_setDigits_19 (by decide) ?_
        refine kz_topi 0 (by first | rfl | decide +kernel) ?_
        refine lv_isub hx hb dX3_setDigits_20 ?_
        refine kz_topi 3 (by first | rfl | decide +kernel) ?_
        refine lv_istore_n (lv' := [(3, .int 3), (2, .int 3), (4, .int 2), (0, .ref x_paper), (1, .int 0)]) hx hb dX3_setDigits_21 rfl hl (by decide) rfl (fun ls hl => ?_)
        refine lv_iconst (v := 0) hx hb dX3_setDigits_22 (by decide) ?_
        refine lv_istore (lv' := [(4, .int 0), (3, .int 3), (2, .int 3), (0, .ref x_paper), (1, .int 0)]) hx hb dX3_setDigits_23 hl (by decide) rfl (fun ls hl => ?_)
        refine lv_iload hx hb dX3_setDigits_25 (lv_at hl 0 rfl) ?_
        refine lv_iload_n hx hb dX3_setDigits_27 rfl (lv_at hl 2 rfl) ?_
        refine lv_icmp_ge (tgt := 66) hx hb dX3_setDigits_28 (by decide) (fun h => absurd h (by decide)) (fun _ => ?_)
        refine lv_aload_n hx hb dX3_setDigits_31 rfl (lv_at hl 3 rfl) ?_
        refine va_get (D := D) (ci := 3) (v := .ref x_paper_digits) (C := RX3) (T := TX3) (N := 20) hx hb hts (by decide +kernel) hown hK hP 0 rfl rfl 1 (by decide) (hts (.fieldLink RX3 15 "TurnedFloors$Paper" "digits" "[I") (by decide +kernel)) (fun _ h9 => h9) rfl dX3_setDigits_32 ?_
        refine lv_iload hx hb dX3_setDigits_35 (lv_at hl 0 rfl) ?_
        refine lv_dup2_11 hx hb dX3_setDigits_37 rfl rfl ?_
        refine va_iald hx hb hK hP 1 0 rfl rfl (by simp only [vp_in]; decide) dX3_setDigits_38 ?_
        refine kz_topi 0 (by first | rfl | decide +kernel) ?_
        refine lv_aload_n hx hb dX3_setDigits_39 rfl (lv_at hl 3 rfl) ?_
        refine va_get (D := D) (ci := 3) (v := .ref x_paper_digits) (C := RX3) (T := TX3) (N := 20) hx hb hts (by decide +kernel) hown hK hP 0 rfl rfl 1 (by decide) (hts (.fieldLink RX3 15 "TurnedFloors$Paper" "digits" "[I") (by decide +kernel)) (fun _ h9 => h9) rfl dX3_setDigits_40 ?_
        refine lv_iload hx hb dX3_setDigits_43 (lv_at hl 0 rfl) ?_
        refine va_iald hx hb hK hP 1 0 rfl rfl (by simp only [vp_in]; decide) dX3_setDigits_45 ?_
        refine kz_topi 0 (by first | rfl | decide +kernel) ?_
        refine lv_iload_n hx hb dX3_setDigits_46 rfl (lv_at hl 1 rfl) ?_
        refine lv_icmp_lt (tgt := 54) hx hb dX3_setDigits_47 (by decide) (fun _ => ?_) (fun h => absurd (by decide) h)
        refine lv_iconst (v := 0) hx hb dX3_setDigits_54 (by decide) ?_
        refine kz_ki (wc := []) (wr := [(x_paper, .inr (3, [.ref x_paper_ranks, .ref x_paper_digits, .ref x_paper_barred, .ref x_paper_pays, .ref x_paper_measuredBarred, .ref x_paper_buckets, .ref q_5, .ref q_6, .ref q_7, .ref q_1, .ref q_2, .ref q_3, .ref q_4, .int 0, .int 1, .int 0, .int 0, .int (-1), .int (-1), .int 0])), (x_paper_digits, .inl (ty 0, 6, .inl (upd (upd (upd (upd (upd (upd (fun _ => 0) 0 0) 0 0) 1 1) 0 0) 1 1) 2 2)))]) (va_runSN (As := [.int 0]) (rest := [.int 0, .int 0, .ref x_paper_digits]) ⟨hx, hb, hml, hown, hts⟩ (kcX9_bit l D ty eo _ 0) ⟨va_cnB 1 hts gX3_setDigits_X9_bit_n133 rfl rfl rfl (hN.1 _ (by decide +kernel : (.methodLinkNest "TurnedFloors$Paper" 133 yX9_bit "TurnedFloors" : Cond) ∈ kzN1)) (hts (.initialized RX9) (by decide +kernel)) (by decide +kernel) ⟨Nat.le_of_ble_eq_true rfl, Nat.le_of_ble_eq_true rfl⟩, hts (.static yX9_bit) (by decide +kernel), trivial⟩ (kz_preS hK hN hE hP hD hS hA [] (by decide) rfl) rfl rfl hl.1 rfl (lv_room (Nat.le_of_ble_eq_true rfl)) dX3_setDigits_55 ⟨Nat.le_of_ble_eq_true rfl, Nat.le_of_ble_eq_true rfl⟩) hP hD hS hA [] [0, 1] rfl rfl (by decide) (by decide) (fun r u H locs hw hp hd hs => ?_)
        rcases hw with ⟨c_7, rfl, rfl⟩ | ⟨c_8, rfl, rfl⟩
        · refine kz_re (w2 := [(x_paper, .inr (3, [.ref x_paper_ranks, .ref x_paper_digits, .ref x_paper_barred, .ref x_paper_pays, .ref x_paper_measuredBarred, .ref x_paper_buckets, .ref q_5, .ref q_6, .ref q_7, .ref q_1, .ref q_2, .ref q_3, .ref q_4, .int 0, .int 1, .int 0, .int 0, .int (-1), .int (-1), .int 0])), (x_paper_digits, .inl (ty 0, 6, .inl (upd (upd (upd (upd (upd (upd (fun _ => 0) 0 0) 0 0) 1 1) 0 0) 1 1) 2 2)))]) hp hd hs rfl ?_
          clear hp hd hs hP hD hS
          intro hP hD hS
          refine lv_iadd hx hb dX3_setDigits_58 ?_
          refine kz_topi 0 (by first | rfl | decide +kernel) ?_
          refine va_iast hx hb hK hP hD hS 1 0 rfl rfl (by simp only [vp_in]; decide) dX3_setDigits_59 (fun H locs hp hd hs => ?_)
          refine kz_re (w2 := [(x_paper, .inr (3, [.ref x_paper_ranks, .ref x_paper_digits, .ref x_paper_barred, .ref x_paper_pays, .ref x_paper_measuredBarred, .ref x_paper_buckets, .ref q_5, .ref q_6, .ref q_7, .ref q_1, .ref q_2, .ref q_3, .ref q_4, .int 0, .int 1, .int 0, .int 0, .int (-1), .int (-1), .int 0])), (x_paper_digits, .inl (ty 0, 6, .inl (upd (upd (upd (upd (upd (upd (upd (fun _ => 0) 0 0) 0 0) 1 1) 0 0) 1 1) 2 2) 0 0)))]) hp hd hs rfl ?_
          clear hp hd hs hP hD hS
          intro hP hD hS
          refine lv_iinc (v := 1) (lv' := [(4, .int 1), (3, .int 3), (2, .int 3), (0, .ref x_paper), (1, .int 0)]) hx hb dX3_setDigits_60 hl (k := 0) rfl (by decide) (by decide) rfl (fun ls hl => ?_)
          refine lv_goto (tgt := 25) hx hb dX3_setDigits_63 (by decide) ?_
          refine lv_iload hx hb dX3_setDigits_25 (lv_at hl 0 rfl) ?_
          refine lv_iload_n hx hb dX3_setDigits_27 rfl (lv_at hl 2 rfl) ?_
          refine lv_icmp_ge (tgt := 66) hx hb dX3_setDigits_28 (by decide) (fun h => absurd h (by decide)) (fun _ => ?_)
          refine lv_aload_n hx hb dX3_setDigits_31 rfl (lv_at hl 3 rfl) ?_
          refine va_get (D := D) (ci := 3) (v := .ref x_paper_digits) (C := RX3) (T := TX3) (N := 20) hx hb hts (by decide +kernel) hown hK hP 0 rfl rfl 1 (by decide) (hts (.fieldLink RX3 15 "TurnedFloors$Paper" "digits" "[I") (by decide +kernel)) (fun _ h9 => h9) rfl dX3_setDigits_32 ?_
          refine lv_iload hx hb dX3_setDigits_35 (lv_at hl 0 rfl) ?_
          refine lv_dup2_11 hx hb dX3_setDigits_37 rfl rfl ?_
          refine va_iald hx hb hK hP 1 0 rfl rfl (by simp only [vp_in]; decide) dX3_setDigits_38 ?_
          refine kz_topi 1 (by first | rfl | decide +kernel) ?_
          refine lv_aload_n hx hb dX3_setDigits_39 rfl (lv_at hl 3 rfl) ?_
          refine va_get (D := D) (ci := 3) (v := .ref x_paper_digits) (C := RX3) (T := TX3) (N := 20) hx hb hts (by decide +kernel) hown hK hP 0 rfl rfl 1 (by decide) (hts (.fieldLink RX3 15 "TurnedFloors$Paper" "digits" "[I") (by decide +kernel)) (fun _ h9 => h9) rfl dX3_setDigits_40 ?_
          refine lv_iload hx hb dX3_setDigits_43 (lv_at hl 0 rfl) ?_
          refine va_iald hx hb hK hP 1 0 rfl rfl (by simp only [vp_in]; decide) dX3_setDigits_45 ?_
          refine kz_topi 1 (by first | rfl | decide +kernel) ?_
          refine lv_iload_n hx hb dX3_setDigits_46 rfl (lv_at hl 1 rfl) ?_
          refine lv_icmp_lt (tgt := 54) hx hb dX3_setDigits_47 (by decide) (fun _ => ?_) (fun h => absurd (by decide) h)
          refine lv_iconst (v := 0) hx hb dX3_setDigits_54 (by decide) ?_
          refine kz_ki (wc := []) (wr := [(x_paper, .inr (3, [.ref x_paper_ranks, .ref x_paper_digits, .ref x_paper_barred, .ref x_paper_pays, .ref x_paper_measuredBarred, .ref x_paper_buckets, .ref q_5, .ref q_6, .ref q_7, .ref q_1, .ref q_2, .ref q_3, .ref q_4, .int 0, .int 1, .int 0, .int 0, .int (-1), .int (-1), .int 0])), (x_paper_digits, .inl (ty 0, 6, .inl (upd (upd (upd (upd (upd (upd (upd (fun _ => 0) 0 0) 0 0) 1 1) 0 0) 1 1) 2 2) 0 0)))]) (va_runSN (As := [.int 0]) (rest := [.int 1, .int 1, .ref x_paper_digits]) ⟨hx, hb, hml, hown, hts⟩ (kcX9_bit l D ty eo _ 0) ⟨va_cnB 1 hts gX3_setDigits_X9_bit_n133 rfl rfl rfl (hN.1 _ (by decide +kernel : (.methodLinkNest "TurnedFloors$Paper" 133 yX9_bit "TurnedFloors" : Cond) ∈ kzN1)) (hts (.initialized RX9) (by decide +kernel)) (by decide +kernel) ⟨Nat.le_of_ble_eq_true rfl, Nat.le_of_ble_eq_true rfl⟩, hts (.static yX9_bit) (by decide +kernel), trivial⟩ (kz_preS hK hN hE hP hD hS hA [] (by decide) rfl) rfl rfl hl.1 rfl (lv_room (Nat.le_of_ble_eq_true rfl)) dX3_setDigits_55 ⟨Nat.le_of_ble_eq_true rfl, Nat.le_of_ble_eq_true rfl⟩) hP hD hS hA [] [0, 1] rfl rfl (by decide) (by decide) (fun r u H locs hw hp hd hs => ?_)
          rcases hw with ⟨c_9, rfl, rfl⟩ | ⟨c_10, rfl, rfl⟩
          · refine kz_re (w2 := [(x_paper, .inr (3, [.ref x_paper_ranks, .ref x_paper_digits, .ref x_paper_barred, .ref x_paper_pays, .ref x_paper_measuredBarred, .ref x_paper_buckets, .ref q_5, .ref q_6, .ref q_7, .ref q_1, .ref q_2, .ref q_3, .ref q_4, .int 0, .int 1, .int 0, .int 0, .int (-1), .int (-1), .int 0])), (x_paper_digits, .inl (ty 0, 6, .inl (upd (upd (upd (upd (upd (upd (upd (fun _ => 0) 0 0) 0 0) 1 1) 0 0) 1 1) 2 2) 0 0)))]) hp hd hs rfl ?_
            clear hp hd hs hP hD hS
            intro hP hD hS
            refine lv_iadd hx hb dX3_setDigits_58 ?_
            refine kz_topi 1 (by first | rfl | decide +kernel) ?_
            refine va_iast hx hb hK hP hD hS 1 0 rfl rfl (by simp only [vp_in]; decide) dX3_setDigits_59 (fun H locs hp hd hs => ?_)
            refine kz_re (w2 := [(x_paper, .inr (3, [.ref x_paper_ranks, .ref x_paper_digits, .ref x_paper_barred, .ref x_paper_pays, .ref x_paper_measuredBarred, .ref x_paper_buckets, .ref q_5, .ref q_6, .ref q_7, .ref q_1, .ref q_2, .ref q_3, .ref q_4, .int 0, .int 1, .int 0, .int 0, .int (-1), .int (-1), .int 0])), (x_paper_digits, .inl (ty 0, 6, .inl (upd (upd (upd (upd (upd (upd (upd (upd (fun _ => 0) 0 0) 0 0) 1 1) 0 0) 1 1) 2 2) 0 0) 1 1)))]) hp hd hs rfl ?_
            clear hp hd hs hP hD hS
            intro hP hD hS
            refine lv_iinc (v := 2) (lv' := [(4, .int 2), (3, .int 3), (2, .int 3), (0, .ref x_paper), (1, .int 0)]) hx hb dX3_setDigits_60 hl (k := 0) rfl (by decide) (by decide) rfl (fun ls hl => ?_)
            refine lv_goto (tgt := 25) hx hb dX3_setDigits_63 (by decide) ?_
            refine lv_iload hx hb dX3_setDigits_25 (lv_at hl 0 rfl) ?_
            refine lv_iload_n hx hb dX3_setDigits_27 rfl (lv_at hl 2 rfl) ?_
            refine lv_icmp_ge (tgt := 66) hx hb dX3_setDigits_28 (by decide) (fun h => absurd h (by decide)) (fun _ => ?_)
            refine lv_aload_n hx hb dX3_setDigits_31 rfl (lv_at hl 3 rfl) ?_
            refine va_get (D := D) (ci := 3) (v := .ref x_paper_digits) (C := RX3) (T := TX3) (N := 20) hx hb hts (by decide +kernel) hown hK hP 0 rfl rfl 1 (by decide) (hts (.fieldLink RX3 15 "TurnedFloors$Paper" "digits" "[I") (by decide +kernel)) (fun _ h9 => h9) rfl dX3_setDigits_32 ?_
            refine lv_iload hx hb dX3_setDigits_35 (lv_at hl 0 rfl) ?_
            refine lv_dup2_11 hx hb dX3_setDigits_37 rfl rfl ?_
            refine va_iald hx hb hK hP 1 0 rfl rfl (by simp only [vp_in]; decide) dX3_setDigits_38 ?_
            refine kz_topi 2 (by first | rfl | decide +kernel) ?_
            refine lv_aload_n hx hb dX3_setDigits_39 rfl (lv_at hl 3 rfl) ?_
            refine va_get (D := D) (ci := 3) (v := .ref x_paper_digits) (C := RX3) (T := TX3) (N := 20) hx hb hts (by decide +kernel) hown hK hP 0 rfl rfl 1 (by decide) (hts (.fieldLink RX3 15 "TurnedFloors$Paper" "digits" "[I") (by decide +kernel)) (fun _ h9 => h9) rfl dX3_setDigits_40 ?_
            refine lv_iload hx hb dX3_setDigits_43 (lv_at hl 0 rfl) ?_
            refine va_iald hx hb hK hP 1 0 rfl rfl (by simp only [vp_in]; decide) dX3_setDigits_45 ?_
            refine kz_topi 2 (by first | rfl | decide +kernel) ?_
            refine lv_iload_n hx hb dX3_setDigits_46 rfl (lv_at hl 1 rfl) ?_
            refine lv_icmp_lt (tgt := 54) hx hb dX3_setDigits_47 (by decide) (fun _ => ?_) (fun h => absurd (by decide) h)
            refine lv_iconst (v := 0) hx hb dX3_setDigits_54 (by decide) ?_
            refine kz_ki (wc := []) (wr := [(x_paper, .inr (3, [.ref x_paper_ranks, .ref x_paper_digits, .ref x_paper_barred, .ref x_paper_pays, .ref x_paper_measuredBarred, .ref x_paper_buckets, .ref q_5, .ref q_6, .ref q_7, .ref q_1, .ref q_2, .ref q_3, .ref q_4, .int 0, .int 1, .int 0, .int 0, .int (-1), .int (-1), .int 0])), (x_paper_digits, .inl (ty 0, 6, .inl (upd (upd (upd (upd (upd (upd (upd (upd (fun _ => 0) 0 0) 0 0) 1 1) 0 0) 1 1) 2 2) 0 0) 1 1)))]) (va_runSN (As := [.int 0]) (rest := [.int 2, .int 2, .ref x_paper_digits]) ⟨hx, hb, hml, hown, hts⟩ (kcX9_bit l D ty eo _ 0) ⟨va_cnB 1 hts gX3_setDigits_X9_bit_n133 rfl rfl rfl (hN.1 _ (by decide +kernel : (.methodLinkNest "TurnedFloors$Paper" 133 yX9_bit "TurnedFloors" : Cond) ∈ kzN1)) (hts (.initialized RX9) (by decide +kernel)) (by decide +kernel) ⟨Nat.le_of_ble_eq_true rfl, Nat.le_of_ble_eq_true rfl⟩, hts (.static yX9_bit) (by decide +kernel), trivial⟩ (kz_preS hK hN hE hP hD hS hA [] (by decide) rfl) rfl rfl hl.1 rfl (lv_room (Nat.le_of_ble_eq_true rfl)) dX3_setDigits_55 ⟨Nat.le_of_ble_eq_true rfl, Nat.le_of_ble_eq_true rfl⟩) hP hD hS hA [] [0, 1] rfl rfl (by decide) (by decide) (fun r u H locs hw hp hd hs => ?_)
            rcases hw with ⟨c_11, rfl, rfl⟩ | ⟨c_12, rfl, rfl⟩
            · refine kz_re (w2 := [(x_paper, .inr (3, [.ref x_paper_ranks, .ref x_paper_digits, .ref x_paper_barred, .ref x_paper_pays, .ref x_paper_measuredBarred, .ref x_paper_buckets, .ref q_5, .ref q_6, .ref q_7, .ref q_1, .ref q_2, .ref q_3, .ref q_4, .int 0, .int 1, .int 0, .int 0, .int (-1), .int (-1), .int 0])), (x_paper_digits, .inl (ty 0, 6, .inl (upd (upd (upd (upd (upd (upd (upd (upd (fun _ => 0) 0 0) 0 0) 1 1) 0 0) 1 1) 2 2) 0 0) 1 1)))]) hp hd hs rfl ?_
              clear hp hd hs hP hD hS
              intro hP hD hS
              refine lv_iadd hx hb dX3_setDigits_58 ?_
              refine kz_topi 2 (by first | rfl | decide +kernel) ?_
              refine va_iast hx hb hK hP hD hS 1 0 rfl rfl (by simp only [vp_in]; decide) dX3_setDigits_59 (fun H locs hp hd hs => ?_)
              refine kz_re (w2 := [(x_paper, .inr (3, [.ref x_paper_ranks, .ref x_paper_digits, .ref x_paper_barred, .ref x_paper_pays, .ref x_paper_measuredBarred, .ref x_paper_buckets, .ref q_5, .ref q_6, .ref q_7, .ref q_1, .ref q_2, .ref q_3, .ref q_4, .int 0, .int 1, .int 0, .int 0, .int (-1), .int (-1), .int 0])), (x_paper_digits, .inl (ty 0, 6, .inl (upd (upd (upd (upd (upd (upd (upd (upd (upd (fun _ => 0) 0 0) 0 0) 1 1) 0 0) 1 1) 2 2) 0 0) 1 1) 2 2)))]) hp hd hs rfl ?_
              clear hp hd hs hP hD hS
              intro hP hD hS
              refine lv_iinc (v := 3) (lv' := [(4, .int 3), (3, .int 3), (2, .int 3), (0, .ref x_paper), (1, .int 0)]) hx hb dX3_setDigits_60 hl (k := 0) rfl (by decide) (by decide) rfl (fun ls hl => ?_)
              refine lv_goto (tgt := 25) hx hb dX3_setDigits_63 (by decide) ?_
              refine lv_iload hx hb dX3_setDigits_25 (lv_at hl 0 rfl) ?_
              refine lv_iload_n hx hb dX3_setDigits_27 rfl (lv_at hl 2 rfl) ?_
              refine lv_icmp_ge (tgt := 66) hx hb dX3_setDigits_28 (by decide) (fun _ => ?_) (fun h => absurd (by decide) h)
              refine lv_aload_n hx hb dX3_setDigits_66 rfl (lv_at hl 3 rfl) ?_
              refine va_get (D := D) (ci := 3) (v := .ref x_paper_digits) (C := RX3) (T := TX3) (N := 20) hx hb hts (by decide +kernel) hown hK hP 0 rfl rfl 1 (by decide) (hts (.fieldLink RX3 15 "TurnedFloors$Paper" "digits" "[I") (by decide +kernel)) (fun _ h9 => h9) rfl dX3_setDigits_67 ?_
              refine lv_iload_n hx hb dX3_setDigits_70 rfl (lv_at hl 2 rfl) ?_
              refine lv_iload_n hx hb dX3_setDigits_71 rfl (lv_at hl 1 rfl) ?_
              refine va_iast hx hb hK hP hD hS 1 0 rfl rfl (by simp only [vp_in]; decide) dX3_setDigits_72 (fun H locs hp hd hs => ?_)
              refine kz_re (w2 := [(x_paper, .inr (3, [.ref x_paper_ranks, .ref x_paper_digits, .ref x_paper_barred, .ref x_paper_pays, .ref x_paper_measuredBarred, .ref x_paper_buckets, .ref q_5, .ref q_6, .ref q_7, .ref q_1, .ref q_2, .ref q_3, .ref q_4, .int 0, .int 1, .int 0, .int 0, .int (-1), .int (-1), .int 0])), (x_paper_digits, .inl (ty 0, 6, .inl (upd (upd (upd (upd (upd (upd (upd (upd (upd (upd (fun _ => 0) 0 0) 0 0) 1 1) 0 0) 1 1) 2 2) 0 0) 1 1) 2 2) 3 3)))]) hp hd hs rfl ?_
              clear hp hd hs hP hD hS
              intro hP hD hS
              refine lv_iinc (v := 4) (lv' := [(2, .int 4), (4, .int 3), (3, .int 3), (0, .ref x_paper), (1, .int 0)]) hx hb dX3_setDigits_73 hl (k := 2) rfl (by decide) (by decide) rfl (fun ls hl => ?_)
              refine lv_goto (tgt := 2) hx hb dX3_setDigits_76 (by decide) ?_
              refine lv_iload_n hx hb dX3_setDigits_2 rfl (lv_at hl 0 rfl) ?_
              refine lv_bipush (v := 6) hx hb dX3_setDigits_3 (by decide) ?_
              refine lv_icmp_ge (tgt := 79) hx hb dX3_setDigits_5 (by decide) (fun h => absurd h (by decide)) (fun _ => ?_)
              refine lv_iload_n hx hb dX3_setDigits_8 rfl (lv_at hl 0 rfl) ?_
              refine lv_iload_n hx hb dX3_setDigits_9 rfl (lv_at hl 4 rfl) ?_
              refine va_gets hx hb hE.1 hS hown (hts (.fieldLink RX3 76 "TurnedFloors$Paper" "FACTORIALS" "[I") (by decide +kernel)) (fun _ h9 => h9) dX3_setDigits_10 ?_
              refine lv_iload_n hx hb dX3_setDigits_13 rfl (lv_at hl 0 rfl) ?_
              refine va_ti (v := .int 24) hx hb hE.2.1 hS (by simp only [vp_in]; decide) rfl dX3_setDigits_14 ?_
              refine lv_idiv hx hb dX3_setDigits_15 (by decide) ?_
              refine kz_topi 0 (by first | rfl | decide +kernel) ?_
              refine lv_iload_n hx hb dX3_setDigits_16 rfl (lv_at hl 0 rfl) ?_
              refine lv_iconst (v := 1) hx hb dX3_setDigits_17 (by decide) ?_
              refine lv_iadd hx hb dX3_setDigits_18 ?_
              refine kz_topi 5 (by first | rfl | decide +kernel) ?_
              refine lv_irem hx hb dX3_setDigits_19 (by decide) ?_
              refine kz_topi 0 (by first | rfl | decide +kernel) ?_
              refine lv_isub hx hb dX3_setDigits_20 ?_
              refine kz_topi 4 (by first | rfl | decide +kernel) ?_
              refine lv_istore_n (lv' := [(3, .int 4), (2, .int 4), (4, .int 3), (0, .ref x_paper), (1, .int 0)]) hx hb dX3_setDigits_21 rfl hl (by decide) rfl (fun ls hl => ?_)
              refine lv_iconst (v := 0) hx hb dX3_setDigits_22 (by decide) ?_
              refine lv_istore (lv' := [(4, .int 0), (3, .int 4), (2, .int 4), (0, .ref x_paper), (1, .int 0)]) hx hb dX3_setDigits_23 hl (by decide) rfl (fun ls hl => ?_)
              refine lv_iload hx hb dX3_setDigits_25 (lv_at hl 0 rfl) ?_
              refine lv_iload_n hx hb dX3_setDigits_27 rfl (lv_at hl 2 rfl) ?_
              refine lv_icmp_ge (tgt := 66) hx hb dX3_setDigits_28 (by decide) (fun h => absurd h (by decide)) (fun _ => ?_)
              refine lv_aload_n hx hb dX3_setDigits_31 rfl (lv_at hl 3 rfl) ?_
              refine va_get (D := D) (ci := 3) (v := .ref x_paper_digits) (C := RX3) (T := TX3) (N := 20) hx hb hts (by decide +kernel) hown hK hP 0 rfl rfl 1 (by decide) (hts (.fieldLink RX3 15 "TurnedFloors$Paper" "digits" "[I") (by decide +kernel)) (fun _ h9 => h9) rfl dX3_setDigits_32 ?_
              refine lv_iload hx hb dX3_setDigits_35 (lv_at hl 0 rfl) ?_
              refine lv_dup2_11 hx hb dX3_setDigits_37 rfl rfl ?_
              refine va_iald hx hb hK hP 1 0 rfl rfl (by simp only [vp_in]; decide) dX3_setDigits_38 ?_
              refine kz_topi 0 (by first | rfl | decide +kernel) ?_
              refine lv_aload_n hx hb dX3_setDigits_39 rfl (lv_at hl 3 rfl) ?_
              refine va_get (D := D) (ci := 3) (v := .ref x_paper_digits) (C := RX3) (T := TX3) (N := 20) hx hb hts (by decide +kernel) hown hK hP 0 rfl rfl 1 (by decide) (hts (.fieldLink RX3 15 "TurnedFloors$Paper" "digits" "[I") (by decide +kernel)) (fun _ h9 => h9) rfl dX3_setDigits_40 ?_
              refine lv_iload hx hb dX3_setDigits_43 (lv_at hl 0 rfl) ?_
              refine va_iald hx hb hK hP 1 0 rfl rfl (by simp only [vp_in]; decide) dX3_setDigits_45 ?_
              refine kz_topi 0 (by first | rfl | decide +kernel) ?_
              refine lv_iload_n hx hb dX3_setDigits_46 rfl (lv_at hl 1 rfl) ?_
              refine lv_icmp_lt (tgt := 54) hx hb dX3_setDigits_47 (by decide) (fun _ => ?_) (fun h => absurd (by decide) h)
              refine lv_iconst (v := 0) hx hb dX3_setDigits_54 (by decide) ?_
              refine kz_ki (wc := []) (wr := [(x_paper, .inr (3, [.ref x_paper_ranks, .ref x_paper_digits, .ref x_paper_barred, .ref x_paper_pays, .ref x_paper_measuredBarred, .ref x_paper_buckets, .ref q_5, .ref q_6, .ref q_7, .ref q_1, .ref q_2, .ref q_3, .ref q_4, .int 0, .int 1, .int 0, .int 0, .int (-1), .int (-1), .int 0])), (x_paper_digits, .inl (ty 0, 6, .inl (upd (upd (upd (upd (upd (upd (upd (upd (upd (upd (fun _ => 0) 0 0) 0 0) 1 1) 0 0) 1 1) 2 2) 0 0) 1 1) 2 2) 3 3)))]) (va_runSN (As := [.int 0]) (rest := [.int 0, .int 0, .ref x_paper_digits]) ⟨hx, hb, hml, hown, hts⟩ (kcX9_bit l D ty eo _ 0) ⟨va_cnB 1 hts gX3_setDigits_X9_bit_n133 rfl rfl rfl (hN.1 _ (by decide +kernel : (.methodLinkNest "TurnedFloors$Paper" 133 yX9_bit "TurnedFloors" : Cond) ∈ kzN1)) (hts (.initialized RX9) (by decide +kernel)) (by decide +kernel) ⟨Nat.le_of_ble_eq_true rfl, Nat.le_of_ble_eq_true rfl⟩, hts (.static yX9_bit) (by decide +kernel), trivial⟩ (kz_preS hK hN hE hP hD hS hA [] (by decide) rfl) rfl rfl hl.1 rfl (lv_room (Nat.le_of_ble_eq_true rfl)) dX3_setDigits_55 ⟨Nat.le_of_ble_eq_true rfl, Nat.le_of_ble_eq_true rfl⟩) hP hD hS hA [] [0, 1] rfl rfl (by decide) (by decide) (fun r u H locs hw hp hd hs => ?_)
              rcases hw with ⟨c_13, rfl, rfl⟩ | ⟨c_14, rfl, rfl⟩
              · refine kz_re (w2 := [(x_paper, .inr (3, [.ref x_paper_ranks, .ref x_paper_digits, .ref x_paper_barred, .ref x_paper_pays, .ref x_paper_measuredBarred, .ref x_paper_buckets, .ref q_5, .ref q_6, .ref q_7, .ref q_1, .ref q_2, .ref q_3, .ref q_4, .int 0, .int 1, .int 0, .int 0, .int (-1), .int (-1), .int 0])), (x_paper_digits, .inl (ty 0, 6, .inl (upd (upd (upd (upd (upd (upd (upd (upd (upd (upd (fun _ => 0) 0 0) 0 0) 1 1) 0 0) 1 1) 2 2) 0 0) 1 1) 2 2) 3 3)))]) hp hd hs rfl ?_
                clear hp hd hs hP hD hS
                intro hP hD hS
                refine lv_iadd hx hb dX3_setDigits_58 ?_
                refine kz_topi 0 (by first | rfl | decide +kernel) ?_
                refine va_iast hx hb hK hP hD hS 1 0 rfl rfl (by simp only [vp_in]; decide) dX3_setDigits_59 (fun H locs hp hd hs => ?_)
                refine kz_re (w2 := [(x_paper, .inr (3, [.ref x_paper_ranks, .ref x_paper_digits, .ref x_paper_barred, .ref x_paper_pays, .ref x_paper_measuredBarred, .ref x_paper_buckets, .ref q_5, .ref q_6, .ref q_7, .ref q_1, .ref q_2, .ref q_3, .ref q_4, .int 0, .int 1, .int 0, .int 0, .int (-1), .int (-1), .int 0])), (x_paper_digits, .inl (ty 0, 6, .inl (upd (upd (upd (upd (upd (upd (upd (upd (upd (upd (upd (fun _ => 0) 0 0) 0 0) 1 1) 0 0) 1 1) 2 2) 0 0) 1 1) 2 2) 3 3) 0 0)))]) hp hd hs rfl ?_
                clear hp hd hs hP hD hS
                intro hP hD hS
                refine lv_iinc (v := 1) (lv' := [(4, .int 1), (3, .int 4), (2, .int 4), (0, .ref x_paper), (1, .int 0)]) hx hb dX3_setDigits_60 hl (k := 0) rfl (by decide) (by decide) rfl (fun ls hl => ?_)
                refine lv_goto (tgt := 25) hx hb dX3_setDigits_63 (by decide) ?_
                refine lv_iload hx hb dX3_setDigits_25 (lv_at hl 0 rfl) ?_
                refine lv_iload_n hx hb dX3_setDigits_27 rfl (lv_at hl 2 rfl) ?_
                refine lv_icmp_ge (tgt := 66) hx hb dX3_setDigits_28 (by decide) (fun h => absurd h (by decide)) (fun _ => ?_)
                refine lv_aload_n hx hb dX3_setDigits_31 rfl (lv_at hl 3 rfl) ?_
                refine va_get (D := D) (ci := 3) (v := .ref x_paper_digits) (C := RX3) (T := TX3) (N := 20) hx hb hts (by decide +kernel) hown hK hP 0 rfl rfl 1 (by decide) (hts (.fieldLink RX3 15 "TurnedFloors$Paper" "digits" "[I") (by decide +kernel)) (fun _ h9 => h9) rfl dX3_setDigits_32 ?_
                refine lv_iload hx hb dX3_setDigits_35 (lv_at hl 0 rfl) ?_
                refine lv_dup2_11 hx hb dX3_setDigits_37 rfl rfl ?_
                refine va_iald hx hb hK hP 1 0 rfl rfl (by simp only [vp_in]; decide) dX3_setDigits_38 ?_
                refine kz_topi 1 (by first | rfl | decide +kernel) ?_
                refine lv_aload_n hx hb dX3_setDigits_39 rfl (lv_at hl 3 rfl) ?_
                refine va_get (D := D) (ci := 3) (v := .ref x_paper_digits) (C := RX3) (T := TX3) (N := 20) hx hb hts (by decide +kernel) hown hK hP 0 rfl rfl 1 (by decide) (hts (.fieldLink RX3 15 "TurnedFloors$Paper" "digits" "[I") (by decide +kernel)) (fun _ h9 => h9) rfl dX3_setDigits_40 ?_
                refine lv_iload hx hb dX3_setDigits_43 (lv_at hl 0 rfl) ?_
                refine va_iald hx hb hK hP 1 0 rfl rfl (by simp only [vp_in]; decide) dX3_setDigits_45 ?_
                refine kz_topi 1 (by first | rfl | decide +kernel) ?_
                refine lv_iload_n hx hb dX3_setDigits_46 rfl (lv_at hl 1 rfl) ?_
                refine lv_icmp_lt (tgt := 54) hx hb dX3_setDigits_47 (by decide) (fun _ => ?_) (fun h => absurd (by decide) h)
                refine lv_iconst (v := 0) hx hb dX3_setDigits_54 (by decide) ?_
                refine kz_ki (wc := []) (wr := [(x_paper, .inr (3, [.ref x_paper_ranks, .ref x_paper_digits, .ref x_paper_barred, .ref x_paper_pays, .ref x_paper_measuredBarred, .ref x_paper_buckets, .ref q_5, .ref q_6, .ref q_7, .ref q_1, .ref q_2, .ref q_3, .ref q_4, .int 0, .int 1, .int 0, .int 0, .int (-1), .int (-1), .int 0])), (x_paper_digits, .inl (ty 0, 6, .inl (upd (upd (upd (upd (upd (upd (upd (upd (upd (upd (upd (fun _ => 0) 0 0) 0 0) 1 1) 0 0) 1 1) 2 2) 0 0) 1 1) 2 2) 3 3) 0 0)))]) (va_runSN (As := [.int 0]) (rest := [.int 1, .int 1, .ref x_paper_digits]) ⟨hx, hb, hml, hown, hts⟩ (kcX9_bit l D ty eo _ 0) ⟨va_cnB 1 hts gX3_setDigits_X9_bit_n133 rfl rfl rfl (hN.1 _ (by decide +kernel : (.methodLinkNest "TurnedFloors$Paper" 133 yX9_bit "TurnedFloors" : Cond) ∈ kzN1)) (hts (.initialized RX9) (by decide +kernel)) (by decide +kernel) ⟨Nat.le_of_ble_eq_true rfl, Nat.le_of_ble_eq_true rfl⟩, hts (.static yX9_bit) (by decide +kernel), trivial⟩ (kz_preS hK hN hE hP hD hS hA [] (by decide) rfl) rfl rfl hl.1 rfl (lv_room (Nat.le_of_ble_eq_true rfl)) dX3_setDigits_55 ⟨Nat.le_of_ble_eq_true rfl, Nat.le_of_ble_eq_true rfl⟩) hP hD hS hA [] [0, 1] rfl rfl (by decide) (by decide) (fun r u H locs hw hp hd hs => ?_)
                rcases hw with ⟨c_15, rfl, rfl⟩ | ⟨c_16, rfl, rfl⟩
                · refine kz_re (w2 := [(x_paper, .inr (3, [.ref x_paper_ranks, .ref x_paper_digits, .ref x_paper_barred, .ref x_paper_pays, .ref x_paper_measuredBarred, .ref x_paper_buckets, .ref q_5, .ref q_6, .ref q_7, .ref q_1, .ref q_2, .ref q_3, .ref q_4, .int 0, .int 1, .int 0, .int 0, .int (-1), .int (-1), .int 0])), (x_paper_digits, .inl (ty 0, 6, .inl (upd (upd (upd (upd (upd (upd (upd (upd (upd (upd (upd (fun _ => 0) 0 0) 0 0) 1 1) 0 0) 1 1) 2 2) 0 0) 1 1) 2 2) 3 3) 0 0)))]) hp hd hs rfl ?_
                  clear hp hd hs hP hD hS
                  intro hP hD hS
                  refine lv_iadd hx hb dX3_setDigits_58 ?_
                  refine kz_topi 1 (by first | rfl | decide +kernel) ?_
                  refine va_iast hx hb hK hP hD hS 1 0 rfl rfl (by simp only [vp_in]; decide) dX3_setDigits_59 (fun H locs hp hd hs => ?_)
                  refine kz_re (w2 := [(x_paper, .inr (3, [.ref x_paper_ranks, .ref x_paper_digits, .ref x_paper_barred, .ref x_paper_pays, .ref x_paper_measuredBarred, .ref x_paper_buckets, .ref q_5, .ref q_6, .ref q_7, .ref q_1, .ref q_2, .ref q_3, .ref q_4, .int 0, .int 1, .int 0, .int 0, .int (-1), .int (-1), .int 0])), (x_paper_digits, .inl (ty 0, 6, .inl (upd (upd (upd (upd (upd (upd (upd (upd (upd (upd (upd (upd (fun _ => 0) 0 0) 0 0) 1 1) 0 0) 1 1) 2 2) 0 0) 1 1) 2 2) 3 3) 0 0) 1 1)))]) hp hd hs rfl ?_
                  clear hp hd hs hP hD hS
                  intro hP hD hS
                  refine lv_iinc (v := 2) (lv' := [(4, .int 2), (3, .int 4), (2, .int 4), (0, .ref x_paper), (1, .int 0)]) hx hb dX3_setDigits_60 hl (k := 0) rfl (by decide) (by decide) rfl (fun ls hl => ?_)
                  refine lv_goto (tgt := 25) hx hb dX3_setDigits_63 (by decide) ?_
                  refine lv_iload hx hb dX3_setDigits_25 (lv_at hl 0 rfl) ?_
                  refine lv_iload_n hx hb dX3_setDigits_27 rfl (lv_at hl 2 rfl) ?_
                  refine lv_icmp_ge (tgt := 66) hx hb dX3_setDigits_28 (by decide) (fun h => absurd h (by decide)) (fun _ => ?_)
                  refine lv_aload_n hx hb dX3_setDigits_31 rfl (lv_at hl 3 rfl) ?_
                  refine va_get (D := D) (ci := 3) (v := .ref x_paper_digits) (C := RX3) (T := TX3) (N := 20) hx hb hts (by decide +kernel) hown hK hP 0 rfl rfl 1 (by decide) (hts (.fieldLink RX3 15 "TurnedFloors$Paper" "digits" "[I") (by decide +kernel)) (fun _ h9 => h9) rfl dX3_setDigits_32 ?_
                  refine lv_iload hx hb dX3_setDigits_35 (lv_at hl 0 rfl) ?_
                  refine lv_dup2_11 hx hb dX3_setDigits_37 rfl rfl ?_
                  refine va_iald hx hb hK hP 1 0 rfl rfl (by simp only [vp_in]; decide) dX3_setDigits_38 ?_
                  refine kz_topi 2 (by first | rfl | decide +kernel) ?_
                  refine lv_aload_n hx hb dX3_setDigits_39 rfl (lv_at hl 3 rfl) ?_
                  refine va_get (D := D) (ci := 3) (v := .ref x_paper_digits) (C := RX3) (T := TX3) (N := 20) hx hb hts (by decide +kernel) hown hK hP 0 rfl rfl 1 (by decide) (hts (.fieldLink RX3 15 "TurnedFloors$Paper" "digits" "[I") (by decide +kernel)) (fun _ h9 => h9) rfl dX3_setDigits_40 ?_
                  refine lv_iload hx hb dX3_setDigits_43 (lv_at hl 0 rfl) ?_
                  refine va_iald hx hb hK hP 1 0 rfl rfl (by simp only [vp_in]; decide) dX3_setDigits_45 ?_
                  refine kz_topi 2 (by first | rfl | decide +kernel) ?_
                  refine lv_iload_n hx hb dX3_setDigits_46 rfl (lv_at hl 1 rfl) ?_
                  refine lv_icmp_lt (tgt := 54) hx hb dX3_setDigits_47 (by decide) (fun _ => ?_) (fun h => absurd (by decide) h)
                  refine lv_iconst (v := 0) hx hb dX3_setDigits_54 (by decide) ?_
                  refine kz_ki (wc := []) (wr := [(x_paper, .inr (3, [.ref x_paper_ranks, .ref x_paper_digits, .ref x_paper_barred, .ref x_paper_pays, .ref x_paper_measuredBarred, .ref x_paper_buckets, .ref q_5, .ref q_6, .ref q_7, .ref q_1, .ref q_2, .ref q_3, .ref q_4, .int 0, .int 1, .int 0, .int 0, .int (-1), .int (-1), .int 0])), (x_paper_digits, .inl (ty 0, 6, .inl (upd (upd (upd (upd (upd (upd (upd (upd (upd (upd (upd (upd (fun _ => 0) 0 0) 0 0) 1 1) 0 0) 1 1) 2 2) 0 0) 1 1) 2 2) 3 3) 0 0) 1 1)))]) (va_runSN (As := [.int 0]) (rest := [.int 2, .int 2, .ref x_paper_digits]) ⟨hx, hb, hml, hown, hts⟩ (kcX9_bit l D ty eo _ 0) ⟨va_cnB 1 hts gX3_setDigits_X9_bit_n133 rfl rfl rfl (hN.1 _ (by decide +kernel : (.methodLinkNest "TurnedFloors$Paper" 133 yX9_bit "TurnedFloors" : Cond) ∈ kzN1)) (hts (.initialized RX9) (by decide +kernel)) (by decide +kernel) ⟨Nat.le_of_ble_eq_true rfl, Nat.le_of_ble_eq_true rfl⟩, hts (.static yX9_bit) (by decide +kernel), trivial⟩ (kz_preS hK hN hE hP hD hS hA [] (by decide) rfl) rfl rfl hl.1 rfl (lv_room (Nat.le_of_ble_eq_true rfl)) dX3_setDigits_55 ⟨Nat.le_of_ble_eq_true rfl, Nat.le_of_ble_eq_true rfl⟩) hP hD hS hA [] [0, 1] rfl rfl (by decide) (by decide) (fun r u H locs hw hp hd hs => ?_)
                  rcases hw with ⟨c_17, rfl, rfl⟩ | ⟨c_18, rfl, rfl⟩
                  · refine kz_re (w2 := [(x_paper, .inr (3, [.ref x_paper_ranks, .ref x_paper_digits, .ref x_paper_barred, .ref x_paper_pays, .ref x_paper_measuredBarred, .ref x_paper_buckets, .ref q_5, .ref q_6, .ref q_7, .ref q_1, .ref q_2, .ref q_3, .ref q_4, .int 0, .int 1, .int 0, .int 0, .int (-1), .int (-1), .int 0])), (x_paper_digits, .inl (ty 0, 6, .inl (upd (upd (upd (upd (upd (upd (upd (upd (upd (upd (upd (upd (fun _ => 0) 0 0) 0 0) 1 1) 0 0) 1 1) 2 2) 0 0) 1 1) 2 2) 3 3) 0 0) 1 1)))]) hp hd hs rfl ?_
                    clear hp hd hs hP hD hS
                    intro hP hD hS
                    refine lv_iadd hx hb dX3_setDigits_58 ?_
                    refine kz_topi 2 (by first | rfl | decide +kernel) ?_
                    refine va_iast hx hb hK hP hD hS 1 0 rfl rfl (by simp only [vp_in]; decide) dX3_setDigits_59 (fun H locs hp hd hs => ?_)
                    refine kz_re (w2 := [(x_paper, .inr (3, [.ref x_paper_ranks, .ref x_paper_digits, .ref x_paper_barred, .ref x_paper_pays, .ref x_paper_measuredBarred, .ref x_paper_buckets, .ref q_5, .ref q_6, .ref q_7, .ref q_1, .ref q_2, .ref q_3, .ref q_4, .int 0, .int 1, .int 0, .int 0, .int (-1), .int (-1), .int 0])), (x_paper_digits, .inl (ty 0, 6, .inl (upd (upd (upd (upd (upd (upd (upd (upd (upd (upd (upd (upd (upd (fun _ => 0) 0 0) 0 0) 1 1) 0 0) 1 1) 2 2) 0 0) 1 1) 2 2) 3 3) 0 0) 1 1) 2 2)))]) hp hd hs rfl ?_
                    clear hp hd hs hP hD hS
                    intro hP hD hS
                    refine lv_iinc (v := 3) (lv' := [(4, .int 3), (3, .int 4), (2, .int 4), (0, .ref x_paper), (1, .int 0)]) hx hb dX3_setDigits_60 hl (k := 0) rfl (by decide) (by decide) rfl (fun ls hl => ?_)
                    refine lv_goto (tgt := 25) hx hb dX3_setDigits_63 (by decide) ?_
                    refine lv_iload hx hb dX3_setDigits_25 (lv_at hl 0 rfl) ?_
                    refine lv_iload_n hx hb dX3_setDigits_27 rfl (lv_at hl 2 rfl) ?_
                    refine lv_icmp_ge (tgt := 66) hx hb dX3_setDigits_28 (by decide) (fun h => absurd h (by decide)) (fun _ => ?_)
                    refine lv_aload_n hx hb dX3_setDigits_31 rfl (lv_at hl 3 rfl) ?_
                    refine va_get (D := D) (ci := 3) (v := .ref x_paper_digits) (C := RX3) (T := TX3) (N := 20) hx hb hts (by decide +kernel) hown hK hP 0 rfl rfl 1 (by decide) (hts (.fieldLink RX3 15 "TurnedFloors$Paper" "digits" "[I") (by decide +kernel)) (fun _ h9 => h9) rfl dX3_setDigits_32 ?_
                    refine lv_iload hx hb dX3_setDigits_35 (lv_at hl 0 rfl) ?_
                    refine lv_dup2_11 hx hb dX3_setDigits_37 rfl rfl ?_
                    refine va_iald hx hb hK hP 1 0 rfl rfl (by simp only [vp_in]; decide) dX3_setDigits_38 ?_
                    refine kz_topi 3 (by first | rfl | decide +kernel) ?_
                    refine lv_aload_n hx hb dX3_setDigits_39 rfl (lv_at hl 3 rfl) ?_
                    refine va_get (D := D) (ci := 3) (v := .ref x_paper_digits) (C := RX3) (T := TX3) (N := 20) hx hb hts (by decide +kernel) hown hK hP 0 rfl rfl 1 (by decide) (hts (.fieldLink RX3 15 "TurnedFloors$Paper" "digits" "[I") (by decide +kernel)) (fun _ h9 => h9) rfl dX3_setDigits_40 ?_
                    refine lv_iload hx hb dX3_setDigits_43 (lv_at hl 0 rfl) ?_
                    refine va_iald hx hb hK hP 1 0 rfl rfl (by simp only [vp_in]; decide) dX3_setDigits_45 ?_
                    refine kz_topi 3 (by first | rfl | decide +kernel) ?_
                    refine lv_iload_n hx hb dX3_setDigits_46 rfl (lv_at hl 1 rfl) ?_
                    refine lv_icmp_lt (tgt := 54) hx hb dX3_setDigits_47 (by decide) (fun _ => ?_) (fun h => absurd (by decide) h)
                    refine lv_iconst (v := 0) hx hb dX3_setDigits_54 (by decide) ?_
                    refine kz_ki (wc := []) (wr := [(x_paper, .inr (3, [.ref x_paper_ranks, .ref x_paper_digits, .ref x_paper_barred, .ref x_paper_pays, .ref x_paper_measuredBarred, .ref x_paper_buckets, .ref q_5, .ref q_6, .ref q_7, .ref q_1, .ref q_2, .ref q_3, .ref q_4, .int 0, .int 1, .int 0, .int 0, .int (-1), .int (-1), .int 0])), (x_paper_digits, .inl (ty 0, 6, .inl (upd (upd (upd (upd (upd (upd (upd (upd (upd (upd (upd (upd (upd (fun _ => 0) 0 0) 0 0) 1 1) 0 0) 1 1) 2 2) 0 0) 1 1) 2 2) 3 3) 0 0) 1 1) 2 2)))]) (va_runSN (As := [.int 0]) (rest := [.int 3, .int 3, .ref x_paper_digits]) ⟨hx, hb, hml, hown, hts⟩ (kcX9_bit l D ty eo _ 0) ⟨va_cnB 1 hts gX3_setDigits_X9_bit_n133 rfl rfl rfl (hN.1 _ (by decide +kernel : (.methodLinkNest "TurnedFloors$Paper" 133 yX9_bit "TurnedFloors" : Cond) ∈ kzN1)) (hts (.initialized RX9) (by decide +kernel)) (by decide +kernel) ⟨Nat.le_of_ble_eq_true rfl, Nat.le_of_ble_eq_true rfl⟩, hts (.static yX9_bit) (by decide +kernel), trivial⟩ (kz_preS hK hN hE hP hD hS hA [] (by decide) rfl) rfl rfl hl.1 rfl (lv_room (Nat.le_of_ble_eq_true rfl)) dX3_setDigits_55 ⟨Nat.le_of_ble_eq_true rfl, Nat.le_of_ble_eq_true rfl⟩) hP hD hS hA [] [0, 1] rfl rfl (by decide) (by decide) (fun r u H locs hw hp hd hs => ?_)
                    rcases hw with ⟨c_19, rfl, rfl⟩ | ⟨c_20, rfl, rfl⟩
                    · refine kz_re (w2 := [(x_paper, .inr (3, [.ref x_paper_ranks, .ref x_paper_digits, .ref x_paper_barred, .ref x_paper_pays, .ref x_paper_measuredBarred, .ref x_paper_buckets, .ref q_5, .ref q_6, .ref q_7, .ref q_1, .ref q_2, .ref q_3, .ref q_4, .int 0, .int 1, .int 0, .int 0, .int (-1), .int (-1), .int 0])), (x_paper_digits, .inl (ty 0, 6, .inl (upd (upd (upd (upd (upd (upd (upd (upd (upd (upd (upd (upd (upd (fun _ => 0) 0 0) 0 0) 1 1) 0 0) 1 1) 2 2) 0 0) 1 1) 2 2) 3 3) 0 0) 1 1) 2 2)))]) hp hd hs rfl ?_
                      clear hp hd hs hP hD hS
                      intro hP hD hS
                      refine lv_iadd hx hb dX3_setDigits_58 ?_
                      refine kz_topi 3 (by first | rfl | decide +kernel) ?_
                      refine va_iast hx hb hK hP hD hS 1 0 rfl rfl (by simp only [vp_in]; decide) dX3_setDigits_59 (fun H locs hp hd hs => ?_)
                      refine kz_re (w2 := [(x_paper, .inr (3, [.ref x_paper_ranks, .ref x_paper_digits, .ref x_paper_barred, .ref x_paper_pays, .ref x_paper_measuredBarred, .ref x_paper_buckets, .ref q_5, .ref q_6, .ref q_7, .ref q_1, .ref q_2, .ref q_3, .ref q_4, .int 0, .int 1, .int 0, .int 0, .int (-1), .int (-1), .int 0])), (x_paper_digits, .inl (ty 0, 6, .inl (upd (upd (upd (upd (upd (upd (upd (upd (upd (upd (upd (upd (upd (upd (fun _ => 0) 0 0) 0 0) 1 1) 0 0) 1 1) 2 2) 0 0) 1 1) 2 2) 3 3) 0 0) 1 1) 2 2) 3 3)))]) hp hd hs rfl ?_
                      clear hp hd hs hP hD hS
                      intro hP hD hS
                      refine lv_iinc (v := 4) (lv' := [(4, .int 4), (3, .int 4), (2, .int 4), (0, .ref x_paper), (1, .int 0)]) hx hb dX3_setDigits_60 hl (k := 0) rfl (by decide) (by decide) rfl (fun ls hl => ?_)
                      refine lv_goto (tgt := 25) hx hb dX3_setDigits_63 (by decide) ?_
                      refine lv_iload hx hb dX3_setDigits_25 (lv_at hl 0 rfl) ?_
                      refine lv_iload_n hx hb dX3_setDigits_27 rfl (lv_at hl 2 rfl) ?_
                      refine lv_icmp_ge (tgt := 66) hx hb dX3_setDigits_28 (by decide) (fun _ => ?_) (fun h => absurd (by decide) h)
                      refine lv_aload_n hx hb dX3_setDigits_66 rfl (lv_at hl 3 rfl) ?_
                      refine va_get (D := D) (ci := 3) (v := .ref x_paper_digits) (C := RX3) (T := TX3) (N := 20) hx hb hts (by decide +kernel) hown hK hP 0 rfl rfl 1 (by decide) (hts (.fieldLink RX3 15 "TurnedFloors$Paper" "digits" "[I") (by decide +kernel)) (fun _ h9 => h9) rfl dX3_setDigits_67 ?_
                      refine lv_iload_n hx hb dX3_setDigits_70 rfl (lv_at hl 2 rfl) ?_
                      refine lv_iload_n hx hb dX3_setDigits_71 rfl (lv_at hl 1 rfl) ?_
                      refine va_iast hx hb hK hP hD hS 1 0 rfl rfl (by simp only [vp_in]; decide) dX3_setDigits_72 (fun H locs hp hd hs => ?_)
                      refine kz_re (w2 := [(x_paper, .inr (3, [.ref x_paper_ranks, .ref x_paper_digits, .ref x_paper_barred, .ref x_paper_pays, .ref x_paper_measuredBarred, .ref x_paper_buckets, .ref q_5, .ref q_6, .ref q_7, .ref q_1, .ref q_2, .ref q_3, .ref q_4, .int 0, .int 1, .int 0, .int 0, .int (-1), .int (-1), .int 0])), (x_paper_digits, .inl (ty 0, 6, .inl (upd (upd (upd (upd (upd (upd (upd (upd (upd (upd (upd (upd (upd (upd (upd (fun _ => 0) 0 0) 0 0) 1 1) 0 0) 1 1) 2 2) 0 0) 1 1) 2 2) 3 3) 0 0) 1 1) 2 2) 3 3) 4 4)))]) hp hd hs rfl ?_
                      clear hp hd hs hP hD hS
                      intro hP hD hS
                      refine lv_iinc (v := 5) (lv' := [(2, .int 5), (4, .int 4), (3, .int 4), (0, .ref x_paper), (1, .int 0)]) hx hb dX3_setDigits_73 hl (k := 2) rfl (by decide) (by decide) rfl (fun ls hl => ?_)
                      refine lv_goto (tgt := 2) hx hb dX3_setDigits_76 (by decide) ?_
                      refine lv_iload_n hx hb dX3_setDigits_2 rfl (lv_at hl 0 rfl) ?_
                      refine lv_bipush (v := 6) hx hb dX3_setDigits_3 (by decide) ?_
                      refine lv_icmp_ge (tgt := 79) hx hb dX3_setDigits_5 (by decide) (fun h => absurd h (by decide)) (fun _ => ?_)
                      refine lv_iload_n hx hb dX3_setDigits_8 rfl (lv_at hl 0 rfl) ?_
                      refine lv_iload_n hx hb dX3_setDigits_9 rfl (lv_at hl 4 rfl) ?_
                      refine va_gets hx hb hE.1 hS hown (hts (.fieldLink RX3 76 "TurnedFloors$Paper" "FACTORIALS" "[I") (by decide +kernel)) (fun _ h9 => h9) dX3_setDigits_10 ?_
                      refine lv_iload_n hx hb dX3_setDigits_13 rfl (lv_at hl 0 rfl) ?_
                      refine va_ti (v := .int 120) hx hb hE.2.1 hS (by simp only [vp_in]; decide) rfl dX3_setDigits_14 ?_
                      refine lv_idiv hx hb dX3_setDigits_15 (by decide) ?_
                      refine kz_topi 0 (by first | rfl | decide +kernel) ?_
                      refine lv_iload_n hx hb dX3_setDigits_16 rfl (lv_at hl 0 rfl) ?_
                      refine lv_iconst (v := 1) hx hb dX3_setDigits_17 (by decide) ?_
                      refine lv_iadd hx hb dX3_setDigits_18 ?_
                      refine kz_topi 6 (by first | rfl | decide +kernel) ?_
                      refine lv_irem hx hb dX3_setDigits_19 (by decide) ?_
                      refine kz_topi 0 (by first | rfl | decide +kernel) ?_
                      refine lv_isub hx hb dX3_setDigits_20 ?_
                      refine kz_topi 5 (by first | rfl | decide +kernel) ?_
                      refine lv_istore_n (lv' := [(3, .int 5), (2, .int 5), (4, .int 4), (0, .ref x_paper), (1, .int 0)]) hx hb dX3_setDigits_21 rfl hl (by decide) rfl (fun ls hl => ?_)
                      refine lv_iconst (v := 0) hx hb dX3_setDigits_22 (by decide) ?_
                      refine lv_istore (lv' := [(4, .int 0), (3, .int 5), (2, .int 5), (0, .ref x_paper), (1, .int 0)]) hx hb dX3_setDigits_23 hl (by decide) rfl (fun ls hl => ?_)
                      refine lv_iload hx hb dX3_setDigits_25 (lv_at hl 0 rfl) ?_
                      refine lv_iload_n hx hb dX3_setDigits_27 rfl (lv_at hl 2 rfl) ?_
                      refine lv_icmp_ge (tgt := 66) hx hb dX3_setDigits_28 (by decide) (fun h => absurd h (by decide)) (fun _ => ?_)
                      refine lv_aload_n hx hb dX3_setDigits_31 rfl (lv_at hl 3 rfl) ?_
                      refine va_get (D := D) (ci := 3) (v := .ref x_paper_digits) (C := RX3) (T := TX3) (N := 20) hx hb hts (by decide +kernel) hown hK hP 0 rfl rfl 1 (by decide) (hts (.fieldLink RX3 15 "TurnedFloors$Paper" "digits" "[I") (by decide +kernel)) (fun _ h9 => h9) rfl dX3_setDigits_32 ?_
                      refine lv_iload hx hb dX3_setDigits_35 (lv_at hl 0 rfl) ?_
                      refine lv_dup2_11 hx hb dX3_setDigits_37 rfl rfl ?_
                      refine va_iald hx hb hK hP 1 0 rfl rfl (by simp only [vp_in]; decide) dX3_setDigits_38 ?_
                      refine kz_topi 0 (by first | rfl | decide +kernel) ?_
                      refine lv_aload_n hx hb dX3_setDigits_39 rfl (lv_at hl 3 rfl) ?_
                      refine va_get (D := D) (ci := 3) (v := .ref x_paper_digits) (C := RX3) (T := TX3) (N := 20) hx hb hts (by decide +kernel) hown hK hP 0 rfl rfl 1 (by decide) (hts (.fieldLink RX3 15 "TurnedFloors$Paper" "digits" "[I") (by decide +kernel)) (fun _ h9 => h9) rfl dX3_setDigits_40 ?_
                      refine lv_iload hx hb dX3_setDigits_43 (lv_at hl 0 rfl) ?_
                      refine va_iald hx hb hK hP 1 0 rfl rfl (by simp only [vp_in]; decide) dX3_setDigits_45 ?_
                      refine kz_topi 0 (by first | rfl | decide +kernel) ?_
                      refine lv_iload_n hx hb dX3_setDigits_46 rfl (lv_at hl 1 rfl) ?_
                      refine lv_icmp_lt (tgt := 54) hx hb dX3_setDigits_47 (by decide) (fun _ => ?_) (fun h => absurd (by decide) h)
                      refine lv_iconst (v := 0) hx hb dX3_setDigits_54 (by decide) ?_
                      refine kz_ki (wc := []) (wr := [(x_paper, .inr (3, [.ref x_paper_ranks, .ref x_paper_digits, .ref x_paper_barred, .ref x_paper_pays, .ref x_paper_measuredBarred, .ref x_paper_buckets, .ref q_5, .ref q_6, .ref q_7, .ref q_1, .ref q_2, .ref q_3, .ref q_4, .int 0, .int 1, .int 0, .int 0, .int (-1), .int (-1), .int 0])), (x_paper_digits, .inl (ty 0, 6, .inl (upd (upd (upd (upd (upd (upd (upd (upd (upd (upd (upd (upd (upd (upd (upd (fun _ => 0) 0 0) 0 0) 1 1) 0 0) 1 1) 2 2) 0 0) 1 1) 2 2) 3 3) 0 0) 1 1) 2 2) 3 3) 4 4)))]) (va_runSN (As := [.int 0]) (rest := [.int 0, .int 0, .ref x_paper_digits]) ⟨hx, hb, hml, hown, hts⟩ (kcX9_bit l D ty eo _ 0) ⟨va_cnB 1 hts gX3_setDigits_X9_bit_n133 rfl rfl rfl (hN.1 _ (by decide +kernel : (.methodLinkNest "TurnedFloors$Paper" 133 yX9_bit "TurnedFloors" : Cond) ∈ kzN1)) (hts (.initialized RX9) (by decide +kernel)) (by decide +kernel) ⟨Nat.le_of_ble_eq_true rfl, Nat.le_of_ble_eq_true rfl⟩, hts (.static yX9_bit) (by decide +kernel), trivial⟩ (kz_preS hK hN hE hP hD hS hA [] (by decide) rfl) rfl rfl hl.1 rfl (lv_room (Nat.le_of_ble_eq_true rfl)) dX3_setDigits_55 ⟨Nat.le_of_ble_eq_true rfl, Nat.le_of_ble_eq_true rfl⟩) hP hD hS hA [] [0, 1] rfl rfl (by decide) (by decide) (fun r u H locs hw hp hd hs => ?_)
                      rcases hw with ⟨c_21, rfl, rfl⟩ | ⟨c_22, rfl, rfl⟩
                      · refine kz_re (w2 := [(x_paper, .inr (3, [.ref x_paper_ranks, .ref x_paper_digits, .ref x_paper_barred, .ref x_paper_pays, .ref x_paper_measuredBarred, .ref x_paper_buckets, .ref q_5, .ref q_6, .ref q_7, .ref q_1, .ref q_2, .ref q_3, .ref q_4, .int 0, .int 1, .int 0, .int 0, .int (-1), .int (-1), .int 0])), (x_paper_digits, .inl (ty 0, 6, .inl (upd (upd (upd (upd (upd (upd (upd (upd (upd (upd (upd (upd (upd (upd (upd (fun _ => 0) 0 0) 0 0) 1 1) 0 0) 1 1) 2 2) 0 0) 1 1) 2 2) 3 3) 0 0) 1 1) 2 2) 3 3) 4 4)))]) hp hd hs rfl ?_
                        clear hp hd hs hP hD hS
                        intro hP hD hS
                        refine lv_iadd hx hb dX3_setDigits_58 ?_
                        refine kz_topi 0 (by first | rfl | decide +kernel) ?_
                        refine va_iast hx hb hK hP hD hS 1 0 rfl rfl (by simp only [vp_in]; decide) dX3_setDigits_59 (fun H locs hp hd hs => ?_)
                        refine kz_re (w2 := [(x_paper, .inr (3, [.ref x_paper_ranks, .ref x_paper_digits, .ref x_paper_barred, .ref x_paper_pays, .ref x_paper_measuredBarred, .ref x_paper_buckets, .ref q_5, .ref q_6, .ref q_7, .ref q_1, .ref q_2, .ref q_3, .ref q_4, .int 0, .int 1, .int 0, .int 0, .int (-1), .int (-1), .int 0])), (x_paper_digits, .inl (ty 0, 6, .inl (upd (upd (upd (upd (upd (upd (upd (upd (upd (upd (upd (upd (upd (upd (upd (upd (fun _ => 0) 0 0) 0 0) 1 1) 0 0) 1 1) 2 2) 0 0) 1 1) 2 2) 3 3) 0 0) 1 1) 2 2) 3 3) 4 4) 0 0)))]) hp hd hs rfl ?_
                        clear hp hd hs hP hD hS
                        intro hP hD hS
                        refine lv_iinc (v := 1) (lv' := [(4, .int 1), (3, .int 5), (2, .int 5), (0, .ref x_paper), (1, .int 0)]) hx hb dX3_setDigits_60 hl (k := 0) rfl (by decide) (by decide) rfl (fun ls hl => ?_)
                        refine lv_goto (tgt := 25) hx hb dX3_setDigits_63 (by decide) ?_
                        refine lv_iload hx hb dX3_setDigits_25 (lv_at hl 0 rfl) ?_
                        refine lv_iload_n hx hb dX3_setDigits_27 rfl (lv_at hl 2 rfl) ?_
                        refine lv_icmp_ge (tgt := 66) hx hb dX3_setDigits_28 (by decide) (fun h => absurd h (by decide)) (fun _ => ?_)
                        refine lv_aload_n hx hb dX3_setDigits_31 rfl (lv_at hl 3 rfl) ?_
                        refine va_get (D := D) (ci := 3) (v := .ref x_paper_digits) (C := RX3) (T := TX3) (N := 20) hx hb hts (by decide +kernel) hown hK hP 0 rfl rfl 1 (by decide) (hts (.fieldLink RX3 15 "TurnedFloors$Paper" "digits" "[I") (by decide +kernel)) (fun _ h9 => h9) rfl dX3_setDigits_32 ?_
                        refine lv_iload hx hb dX3_setDigits_35 (lv_at hl 0 rfl) ?_
                        refine lv_dup2_11 hx hb dX3_setDigits_37 rfl rfl ?_
                        refine va_iald hx hb hK hP 1 0 rfl rfl (by simp only [vp_in]; decide) dX3_setDigits_38 ?_
                        refine kz_topi 1 (by first | rfl | decide +kernel) ?_
                        refine lv_aload_n hx hb dX3_setDigits_39 rfl (lv_at hl 3 rfl) ?_
                        refine va_get (D := D) (ci := 3) (v := .ref x_paper_digits) (C := RX3) (T := TX3) (N := 20) hx hb hts (by decide +kernel) hown hK hP 0 rfl rfl 1 (by decide) (hts (.fieldLink RX3 15 "TurnedFloors$Paper" "digits" "[I") (by decide +kernel)) (fun _ h9 => h9) rfl dX3_setDigits_40 ?_
                        refine lv_iload hx hb dX3_setDigits_43 (lv_at hl 0 rfl) ?_
                        refine va_iald hx hb hK hP 1 0 rfl rfl (by simp only [vp_in]; decide) dX3_setDigits_45 ?_
                        refine kz_topi 1 (by first | rfl | decide +kernel) ?_
                        refine lv_iload_n hx hb dX3_setDigits_46 rfl (lv_at hl 1 rfl) ?_
                        refine lv_icmp_lt (tgt := 54) hx hb dX3_setDigits_47 (by decide) (fun _ => ?_) (fun h => absurd (by decide) h)
                        refine lv_iconst (v := 0) hx hb dX3_setDigits_54 (by decide) ?_
                        refine kz_ki (wc := []) (wr := [(x_paper, .inr (3, [.ref x_paper_ranks, .ref x_paper_digits, .ref x_paper_barred, .ref x_paper_pays, .ref x_paper_measuredBarred, .ref x_paper_buckets, .ref q_5, .ref q_6, .ref q_7, .ref q_1, .ref q_2, .ref q_3, .ref q_4, .int 0, .int 1, .int 0, .int 0, .int (-1), .int (-1), .int 0])), (x_paper_digits, .inl (ty 0, 6, .inl (upd (upd (upd (upd (upd (upd (upd (upd (upd (upd (upd (upd (upd (upd (upd (upd (fun _ => 0) 0 0) 0 0) 1 1) 0 0) 1 1) 2 2) 0 0) 1 1) 2 2) 3 3) 0 0) 1 1) 2 2) 3 3) 4 4) 0 0)))]) (va_runSN (As := [.int 0]) (rest := [.int 1, .int 1, .ref x_paper_digits]) ⟨hx, hb, hml, hown, hts⟩ (kcX9_bit l D ty eo _ 0) ⟨va_cnB 1 hts gX3_setDigits_X9_bit_n133 rfl rfl rfl (hN.1 _ (by decide +kernel : (.methodLinkNest "TurnedFloors$Paper" 133 yX9_bit "TurnedFloors" : Cond) ∈ kzN1)) (hts (.initialized RX9) (by decide +kernel)) (by decide +kernel) ⟨Nat.le_of_ble_eq_true rfl, Nat.le_of_ble_eq_true rfl⟩, hts (.static yX9_bit) (by decide +kernel), trivial⟩ (kz_preS hK hN hE hP hD hS hA [] (by decide) rfl) rfl rfl hl.1 rfl (lv_room (Nat.le_of_ble_eq_true rfl)) dX3_setDigits_55 ⟨Nat.le_of_ble_eq_true rfl, Nat.le_of_ble_eq_true rfl⟩) hP hD hS hA [] [0, 1] rfl rfl (by decide) (by decide) (fun r u H locs hw hp hd hs => ?_)
                        rcases hw with ⟨c_23, rfl, rfl⟩ | ⟨c_24, rfl, rfl⟩
                        · refine kz_re (w2 := [(x_paper, .inr (3, [.ref x_paper_ranks, .ref x_paper_digits, .ref x_paper_barred, .ref x_paper_pays, .ref x_paper_measuredBarred, .ref x_paper_buckets, .ref q_5, .ref q_6, .ref q_7, .ref q_1, .ref q_2, .ref q_3, .ref q_4, .int 0, .int 1, .int 0, .int 0, .int (-1), .int (-1), .int 0])), (x_paper_digits, .inl (ty 0, 6, .inl (upd (upd (upd (upd (upd (upd (upd (upd (upd (upd (upd (upd (upd (upd (upd (upd (fun _ => 0) 0 0) 0 0) 1 1) 0 0) 1 1) 2 2) 0 0) 1 1) 2 2) 3 3) 0 0) 1 1) 2 2) 3 3) 4 4) 0 0)))]) hp hd hs rfl ?_
                          clear hp hd hs hP hD hS
                          intro hP hD hS
                          refine lv_iadd hx hb dX3_setDigits_58 ?_
                          refine kz_topi 1 (by first | rfl | decide +kernel) ?_
                          refine va_iast hx hb hK hP hD hS 1 0 rfl rfl (by simp only [vp_in]; decide) dX3_setDigits_59 (fun H locs hp hd hs => ?_)
                          refine kz_re (w2 := [(x_paper, .inr (3, [.ref x_paper_ranks, .ref x_paper_digits, .ref x_paper_barred, .ref x_paper_pays, .ref x_paper_measuredBarred, .ref x_paper_buckets, .ref q_5, .ref q_6, .ref q_7, .ref q_1, .ref q_2, .ref q_3, .ref q_4, .int 0, .int 1, .int 0, .int 0, .int (-1), .int (-1), .int 0])), (x_paper_digits, .inl (ty 0, 6, .inl (upd (upd (upd (upd (upd (upd (upd (upd (upd (upd (upd (upd (upd (upd (upd (upd (upd (fun _ => 0) 0 0) 0 0) 1 1) 0 0) 1 1) 2 2) 0 0) 1 1) 2 2) 3 3) 0 0) 1 1) 2 2) 3 3) 4 4) 0 0) 1 1)))]) hp hd hs rfl ?_
                          clear hp hd hs hP hD hS
                          intro hP hD hS
                          refine lv_iinc (v := 2) (lv' := [(4, .int 2), (3, .int 5), (2, .int 5), (0, .ref x_paper), (1, .int 0)]) hx hb dX3_setDigits_60 hl (k := 0) rfl (by decide) (by decide) rfl (fun ls hl => ?_)
                          refine lv_goto (tgt := 25) hx hb dX3_setDigits_63 (by decide) ?_
                          refine lv_iload hx hb dX3_setDigits_25 (lv_at hl 0 rfl) ?_
                          refine lv_iload_n hx hb dX3_setDigits_27 rfl (lv_at hl 2 rfl) ?_
                          refine lv_icmp_ge (tgt := 66) hx hb dX3_setDigits_28 (by decide) (fun h => absurd h (by decide)) (fun _ => ?_)
                          refine lv_aload_n hx hb dX3_setDigits_31 rfl (lv_at hl 3 rfl) ?_
                          refine va_get (D := D) (ci := 3) (v := .ref x_paper_digits) (C := RX3) (T := TX3) (N := 20) hx hb hts (by decide +kernel) hown hK hP 0 rfl rfl 1 (by decide) (hts (.fieldLink RX3 15 "TurnedFloors$Paper" "digits" "[I") (by decide +kernel)) (fun _ h9 => h9) rfl dX3_setDigits_32 ?_
                          refine lv_iload hx hb dX3_setDigits_35 (lv_at hl 0 rfl) ?_
                          refine lv_dup2_11 hx hb dX3_setDigits_37 rfl rfl ?_
                          refine va_iald hx hb hK hP 1 0 rfl rfl (by simp only [vp_in]; decide) dX3_setDigits_38 ?_
                          refine kz_topi 2 (by first | rfl | decide +kernel) ?_
                          refine lv_aload_n hx hb dX3_setDigits_39 rfl (lv_at hl 3 rfl) ?_
                          refine va_get (D := D) (ci := 3) (v := .ref x_paper_digits) (C := RX3) (T := TX3) (N := 20) hx hb hts (by decide +kernel) hown hK hP 0 rfl rfl 1 (by decide) (hts (.fieldLink RX3 15 "TurnedFloors$Paper" "digits" "[I") (by decide +kernel)) (fun _ h9 => h9) rfl dX3_setDigits_40 ?_
                          refine lv_iload hx hb dX3_setDigits_43 (lv_at hl 0 rfl) ?_
                          refine va_iald hx hb hK hP 1 0 rfl rfl (by simp only [vp_in]; decide) dX3_setDigits_45 ?_
                          refine kz_topi 2 (by first | rfl | decide +kernel) ?_
                          refine lv_iload_n hx hb dX3_setDigits_46 rfl (lv_at hl 1 rfl) ?_
                          refine lv_icmp_lt (tgt := 54) hx hb dX3_setDigits_47 (by decide) (fun _ => ?_) (fun h => absurd (by decide) h)
                          refine lv_iconst (v := 0) hx hb dX3_setDigits_54 (by decide) ?_
                          refine kz_ki (wc := []) (wr := [(x_paper, .inr (3, [.ref x_paper_ranks, .ref x_paper_digits, .ref x_paper_barred, .ref x_paper_pays, .ref x_paper_measuredBarred, .ref x_paper_buckets, .ref q_5, .ref q_6, .ref q_7, .ref q_1, .ref q_2, .ref q_3, .ref q_4, .int 0, .int 1, .int 0, .int 0, .int (-1), .int (-1), .int 0])), (x_paper_digits, .inl (ty 0, 6, .inl (upd (upd (upd (upd (upd (upd (upd (upd (upd (upd (upd (upd (upd (upd (upd (upd (upd (fun _ => 0) 0 0) 0 0) 1 1) 0 0) 1 1) 2 2) 0 0) 1 1) 2 2) 3 3) 0 0) 1 1) 2 2) 3 3) 4 4) 0 0) 1 1)))]) (va_runSN (As := [.int 0]) (rest := [.int 2, .int 2, .ref x_paper_digits]) ⟨hx, hb, hml, hown, hts⟩ (kcX9_bit l D ty eo _ 0) ⟨va_cnB 1 hts gX3_setDigits_X9_bit_n133 rfl rfl rfl (hN.1 _ (by decide +kernel : (.methodLinkNest "TurnedFloors$Paper" 133 yX9_bit "TurnedFloors" : Cond) ∈ kzN1)) (hts (.initialized RX9) (by decide +kernel)) (by decide +kernel) ⟨Nat.le_of_ble_eq_true rfl, Nat.le_of_ble_eq_true rfl⟩, hts (.static yX9_bit) (by decide +kernel), trivial⟩ (kz_preS hK hN hE hP hD hS hA [] (by decide) rfl) rfl rfl hl.1 rfl (lv_room (Nat.le_of_ble_eq_true rfl)) dX3_setDigits_55 ⟨Nat.le_of_ble_eq_true rfl, Nat.le_of_ble_eq_true rfl⟩) hP hD hS hA [] [0, 1] rfl rfl (by decide) (by decide) (fun r u H locs hw hp hd hs => ?_)
                          rcases hw with ⟨c_25, rfl, rfl⟩ | ⟨c_26, rfl, rfl⟩
                          · refine kz_re (w2 := [(x_paper, .inr (3, [.ref x_paper_ranks, .ref x_paper_digits, .ref x_paper_barred, .ref x_paper_pays, .ref x_paper_measuredBarred, .ref x_paper_buckets, .ref q_5, .ref q_6, .ref q_7, .ref q_1, .ref q_2, .ref q_3, .ref q_4, .int 0, .int 1, .int 0, .int 0, .int (-1), .int (-1), .int 0])), (x_paper_digits, .inl (ty 0, 6, .inl (upd (upd (upd (upd (upd (upd (upd (upd (upd (upd (upd (upd (upd (upd (upd (upd (upd (fun _ => 0) 0 0) 0 0) 1 1) 0 0) 1 1) 2 2) 0 0) 1 1) 2 2) 3 3) 0 0) 1 1) 2 2) 3 3) 4 4) 0 0) 1 1)))]) hp hd hs rfl ?_
                            clear hp hd hs hP hD hS
                            intro hP hD hS
                            refine lv_iadd hx hb dX3_setDigits_58 ?_
                            refine kz_topi 2 (by first | rfl | decide +kernel) ?_
                            refine va_iast hx hb hK hP hD hS 1 0 rfl rfl (by simp only [vp_in]; decide) dX3_setDigits_59 (fun H locs hp hd hs => ?_)
                            refine kz_re (w2 := [(x_paper, .inr (3, [.ref x_paper_ranks, .ref x_paper_digits, .ref x_paper_barred, .ref x_paper_pays, .ref x_paper_measuredBarred, .ref x_paper_buckets, .ref q_5, .ref q_6, .ref q_7, .ref q_1, .ref q_2, .ref q_3, .ref q_4, .int 0, .int 1, .int 0, .int 0, .int (-1), .int (-1), .int 0])), (x_paper_digits, .inl (ty 0, 6, .inl (upd (upd (upd (upd (upd (upd (upd (upd (upd (upd (upd (upd (upd (upd (upd (upd (upd (upd (fun _ => 0) 0 0) 0 0) 1 1) 0 0) 1 1) 2 2) 0 0) 1 1) 2 2) 3 3) 0 0) 1 1) 2 2) 3 3) 4 4) 0 0) 1 1) 2 2)))]) hp hd hs rfl ?_
                            clear hp hd hs hP hD hS
                            intro hP hD hS
                            refine lv_iinc (v := 3) (lv' := [(4, .int 3), (3, .int 5), (2, .int 5), (0, .ref x_paper), (1, .int 0)]) hx hb dX3_setDigits_60 hl (k := 0) rfl (by decide) (by decide) rfl (fun ls hl => ?_)
                            refine lv_goto (tgt := 25) hx hb dX3_setDigits_63 (by decide) ?_
                            refine lv_iload hx hb dX3_setDigits_25 (lv_at hl 0 rfl) ?_
                            refine lv_iload_n hx hb dX3_setDigits_27 rfl (lv_at hl 2 rfl) ?_
                            refine lv_icmp_ge (tgt := 66) hx hb dX3_setDigits_28 (by decide) (fun h => absurd h (by decide)) (fun _ => ?_)
                            refine lv_aload_n hx hb dX3_setDigits_31 rfl (lv_at hl 3 rfl) ?_
                            refine va_get (D := D) (ci := 3) (v := .ref x_paper_digits) (C := RX3) (T := TX3) (N := 20) hx hb hts (by decide +kernel) hown hK hP 0 rfl rfl 1 (by decide) (hts (.fieldLink RX3 15 "TurnedFloors$Paper" "digits" "[I") (by decide +kernel)) (fun _ h9 => h9) rfl dX3_setDigits_32 ?_
                            refine lv_iload hx hb dX3_setDigits_35 (lv_at hl 0 rfl) ?_
                            refine lv_dup2_11 hx hb dX3_setDigits_37 rfl rfl ?_
                            refine va_iald hx hb hK hP 1 0 rfl rfl (by simp only [vp_in]; decide) dX3_setDigits_38 ?_
                            refine kz_topi 3 (by first | rfl | decide +kernel) ?_
                            refine lv_aload_n hx hb dX3_setDigits_39 rfl (lv_at hl 3 rfl) ?_
                            refine va_get (D := D) (ci := 3) (v := .ref x_paper_digits) (C := RX3) (T := TX3) (N := 20) hx hb hts (by decide +kernel) hown hK hP 0 rfl rfl 1 (by decide) (hts (.fieldLink RX3 15 "TurnedFloors$Paper" "digits" "[I") (by decide +kernel)) (fun _ h9 => h9) rfl dX3_setDigits_40 ?_
                            refine lv_iload hx hb dX3_setDigits_43 (lv_at hl 0 rfl) ?_
                            refine va_iald hx hb hK hP 1 0 rfl rfl (by simp only [vp_in]; decide) dX3_setDigits_45 ?_
                            refine kz_topi 3 (by first | rfl | decide +kernel) ?_
                            refine lv_iload_n hx hb dX3_setDigits_46 rfl (lv_at hl 1 rfl) ?_
                            refine lv_icmp_lt (tgt := 54) hx hb dX3_setDigits_47 (by decide) (fun _ => ?_) (fun h => absurd (by decide) h)
                            refine lv_iconst (v := 0) hx hb dX3_setDigits_54 (by decide) ?_
                            refine kz_ki (wc := []) (wr := [(x_paper, .inr (3, [.ref x_paper_ranks, .ref x_paper_digits, .ref x_paper_barred, .ref x_paper_pays, .ref x_paper_measuredBarred, .ref x_paper_buckets, .ref q_5, .ref q_6, .ref q_7, .ref q_1, .ref q_2, .ref q_3, .ref q_4, .int 0, .int 1, .int 0, .int 0, .int (-1), .int (-1), .int 0])), (x_paper_digits, .inl (ty 0, 6, .inl (upd (upd (upd (upd (upd (upd (upd (upd (upd (upd (upd (upd (upd (upd (upd (upd (upd (upd (fun _ => 0) 0 0) 0 0) 1 1) 0 0) 1 1) 2 2) 0 0) 1 1) 2 2) 3 3) 0 0) 1 1) 2 2) 3 3) 4 4) 0 0) 1 1) 2 2)))]) (va_runSN (As := [.int 0]) (rest := [.int 3, .int 3, .ref x_paper_digits]) ⟨hx, hb, hml, hown, hts⟩ (kcX9_bit l D ty eo _ 0) ⟨va_cnB 1 hts gX3_setDigits_X9_bit_n133 rfl rfl rfl (hN.1 _ (by decide +kernel : (.methodLinkNest "TurnedFloors$Paper" 133 yX9_bit "TurnedFloors" : Cond) ∈ kzN1)) (hts (.initialized RX9) (by decide +kernel)) (by decide +kernel) ⟨Nat.le_of_ble_eq_true rfl, Nat.le_of_ble_eq_true rfl⟩, hts (.static yX9_bit) (by decide +kernel), trivial⟩ (kz_preS hK hN hE hP hD hS hA [] (by decide) rfl) rfl rfl hl.1 rfl (lv_room (Nat.le_of_ble_eq_true rfl)) dX3_setDigits_55 ⟨Nat.le_of_ble_eq_true rfl, Nat.le_of_ble_eq_true rfl⟩) hP hD hS hA [] [0, 1] rfl rfl (by decide) (by decide) (fun r u H locs hw hp hd hs => ?_)
                            rcases hw with ⟨c_27, rfl, rfl⟩ | ⟨c_28, rfl, rfl⟩
                            · refine kz_re (w2 := [(x_paper, .inr (3, [.ref x_paper_ranks, .ref x_paper_digits, .ref x_paper_barred, .ref x_paper_pays, .ref x_paper_measuredBarred, .ref x_paper_buckets, .ref q_5, .ref q_6, .ref q_7, .ref q_1, .ref q_2, .ref q_3, .ref q_4, .int 0, .int 1, .int 0, .int 0, .int (-1), .int (-1), .int 0])), (x_paper_digits, .inl (ty 0, 6, .inl (upd (upd (upd (upd (upd (upd (upd (upd (upd (upd (upd (upd (upd (upd (upd (upd (upd (upd (fun _ => 0) 0 0) 0 0) 1 1) 0 0) 1 1) 2 2) 0 0) 1 1) 2 2) 3 3) 0 0) 1 1) 2 2) 3 3) 4 4) 0 0) 1 1) 2 2)))]) hp hd hs rfl ?_
                              clear hp hd hs hP hD hS
                              intro hP hD hS
                              refine lv_iadd hx hb dX3_setDigits_58 ?_
                              refine kz_topi 3 (by first | rfl | decide +kernel) ?_
                              refine va_iast hx hb hK hP hD hS 1 0 rfl rfl (by simp only [vp_in]; decide) dX3_setDigits_59 (fun H locs hp hd hs => ?_)
                              refine kz_re (w2 := [(x_paper, .inr (3, [.ref x_paper_ranks, .ref x_paper_digits, .ref x_paper_barred, .ref x_paper_pays, .ref x_paper_measuredBarred, .ref x_paper_buckets, .ref q_5, .ref q_6, .ref q_7, .ref q_1, .ref q_2, .ref q_3, .ref q_4, .int 0, .int 1, .int 0, .int 0, .int (-1), .int (-1), .int 0])), (x_paper_digits, .inl (ty 0, 6, .inl (upd (upd (upd (upd (upd (upd (upd (upd (upd (upd (upd (upd (upd (upd (upd (upd (upd (upd (upd (fun _ => 0) 0 0) 0 0) 1 1) 0 0) 1 1) 2 2) 0 0) 1 1) 2 2) 3 3) 0 0) 1 1) 2 2) 3 3) 4 4) 0 0) 1 1) 2 2) 3 3)))]) hp hd hs rfl ?_
                              clear hp hd hs hP hD hS
                              intro hP hD hS
                              refine lv_iinc (v := 4) (lv' := [(4, .int 4), (3, .int 5), (2, .int 5), (0, .ref x_paper), (1, .int 0)]) hx hb dX3_setDigits_60 hl (k := 0) rfl (by decide) (by decide) rfl (fun ls hl => ?_)
                              refine lv_goto (tgt := 25) hx hb dX3_setDigits_63 (by decide) ?_
                              refine lv_iload hx hb dX3_setDigits_25 (lv_at hl 0 rfl) ?_
                              refine lv_iload_n hx hb dX3_setDigits_27 rfl (lv_at hl 2 rfl) ?_
                              refine lv_icmp_ge (tgt := 66) hx hb dX3_setDigits_28 (by decide) (fun h => absurd h (by decide)) (fun _ => ?_)
                              refine lv_aload_n hx hb dX3_setDigits_31 rfl (lv_at hl 3 rfl) ?_
                              refine va_get (D := D) (ci := 3) (v := .ref x_paper_digits) (C := RX3) (T := TX3) (N := 20) hx hb hts (by decide +kernel) hown hK hP 0 rfl rfl 1 (by decide) (hts (.fieldLink RX3 15 "TurnedFloors$Paper" "digits" "[I") (by decide +kernel)) (fun _ h9 => h9) rfl dX3_setDigits_32 ?_
                              refine lv_iload hx hb dX3_setDigits_35 (lv_at hl 0 rfl) ?_
                              refine lv_dup2_11 hx hb dX3_setDigits_37 rfl rfl ?_
                              refine va_iald hx hb hK hP 1 0 rfl rfl (by simp only [vp_in]; decide) dX3_setDigits_38 ?_
                              refine kz_topi 4 (by first | rfl | decide +kernel) ?_
                              refine lv_aload_n hx hb dX3_setDigits_39 rfl (lv_at hl 3 rfl) ?_
                              refine va_get (D := D) (ci := 3) (v := .ref x_paper_digits) (C := RX3) (T := TX3) (N := 20) hx hb hts (by decide +kernel) hown hK hP 0 rfl rfl 1 (by decide) (hts (.fieldLink RX3 15 "TurnedFloors$Paper" "digits" "[I") (by decide +kernel)) (fun _ h9 => h9) rfl dX3_setDigits_40 ?_
                              refine lv_iload hx hb dX3_setDigits_43 (lv_at hl 0 rfl) ?_
                              refine va_iald hx hb hK hP 1 0 rfl rfl (by simp only [vp_in]; decide) dX3_setDigits_45 ?_
                              refine kz_topi 4 (by first | rfl | decide +kernel) ?_
                              refine lv_iload_n hx hb dX3_setDigits_46 rfl (lv_at hl 1 rfl) ?_
                              refine lv_icmp_lt (tgt := 54) hx hb dX3_setDigits_47 (by decide) (fun _ => ?_) (fun h => absurd (by decide) h)
                              refine lv_iconst (v := 0) hx hb dX3_setDigits_54 (by decide) ?_
                              refine kz_ki (wc := []) (wr := [(x_paper, .inr (3, [.ref x_paper_ranks, .ref x_paper_digits, .ref x_paper_barred, .ref x_paper_pays, .ref x_paper_measuredBarred, .ref x_paper_buckets, .ref q_5, .ref q_6, .ref q_7, .ref q_1, .ref q_2, .ref q_3, .ref q_4, .int 0, .int 1, .int 0, .int 0, .int (-1), .int (-1), .int 0])), (x_paper_digits, .inl (ty 0, 6, .inl (upd (upd (upd (upd (upd (upd (upd (upd (upd (upd (upd (upd (upd (upd (upd (upd (upd (upd (upd (fun _ => 0) 0 0) 0 0) 1 1) 0 0) 1 1) 2 2) 0 0) 1 1) 2 2) 3 3) 0 0) 1 1) 2 2) 3 3) 4 4) 0 0) 1 1) 2 2) 3 3)))]) (va_runSN (As := [.int 0]) (rest := [.int 4, .int 4, .ref x_paper_digits]) ⟨hx, hb, hml, hown, hts⟩ (kcX9_bit l D ty eo _ 0) ⟨va_cnB 1 hts gX3_setDigits_X9_bit_n133 rfl rfl rfl (hN.1 _ (by decide +kernel : (.methodLinkNest "TurnedFloors$Paper" 133 yX9_bit "TurnedFloors" : Cond) ∈ kzN1)) (hts (.initialized RX9) (by decide +kernel)) (by decide +kernel) ⟨Nat.le_of_ble_eq_true rfl, Nat.le_of_ble_eq_true rfl⟩, hts (.static yX9_bit) (by decide +kernel), trivial⟩ (kz_preS hK hN hE hP hD hS hA [] (by decide) rfl) rfl rfl hl.1 rfl (lv_room (Nat.le_of_ble_eq_true rfl)) dX3_setDigits_55 ⟨Nat.le_of_ble_eq_true rfl, Nat.le_of_ble_eq_true rfl⟩) hP hD hS hA [] [0, 1] rfl rfl (by decide) (by decide) (fun r u H locs hw hp hd hs => ?_)
                              rcases hw with ⟨c_29, rfl, rfl⟩ | ⟨c_30, rfl, rfl⟩
                              · refine kz_re (w2 := [(x_paper, .inr (3, [.ref x_paper_ranks, .ref x_paper_digits, .ref x_paper_barred, .ref x_paper_pays, .ref x_paper_measuredBarred, .ref x_paper_buckets, .ref q_5, .ref q_6, .ref q_7, .ref q_1, .ref q_2, .ref q_3, .ref q_4, .int 0, .int 1, .int 0, .int 0, .int (-1), .int (-1), .int 0])), (x_paper_digits, .inl (ty 0, 6, .inl (upd (upd (upd (upd (upd (upd (upd (upd (upd (upd (upd (upd (upd (upd (upd (upd (upd (upd (upd (fun _ => 0) 0 0) 0 0) 1 1) 0 0) 1 1) 2 2) 0 0) 1 1) 2 2) 3 3) 0 0) 1 1) 2 2) 3 3) 4 4) 0 0) 1 1) 2 2) 3 3)))]) hp hd hs rfl ?_
                                clear hp hd hs hP hD hS
                                intro hP hD hS
                                refine lv_iadd hx hb dX3_setDigits_58 ?_
                                refine kz_topi 4 (by first | rfl | decide +kernel) ?_
                                refine va_iast hx hb hK hP hD hS 1 0 rfl rfl (by simp only [vp_in]; decide) dX3_setDigits_59 (fun H locs hp hd hs => ?_)
                                refine kz_re (w2 := [(x_paper, .inr (3, [.ref x_paper_ranks, .ref x_paper_digits, .ref x_paper_barred, .ref x_paper_pays, .ref x_paper_measuredBarred, .ref x_paper_buckets, .ref q_5, .ref q_6, .ref q_7, .ref q_1, .ref q_2, .ref q_3, .ref q_4, .int 0, .int 1, .int 0, .int 0, .int (-1), .int (-1), .int 0])), (x_paper_digits, .inl (ty 0, 6, .inl (upd (upd (upd (upd (upd (upd (upd (upd (upd (upd (upd (upd (upd (upd (upd (upd (upd (upd (upd (upd (fun _ => 0) 0 0) 0 0) 1 1) 0 0) 1 1) 2 2) 0 0) 1 1) 2 2) 3 3) 0 0) 1 1) 2 2) 3 3) 4 4) 0 0) 1 1) 2 2) 3 3) 4 4)))]) hp hd hs rfl ?_
                                clear hp hd hs hP hD hS
                                intro hP hD hS
                                refine lv_iinc (v := 5) (lv' := [(4, .int 5), (3, .int 5), (2, .int 5), (0, .ref x_paper), (1, .int 0)]) hx hb dX3_setDigits_60 hl (k := 0) rfl (by decide) (by decide) rfl (fun ls hl => ?_)
                                refine lv_goto (tgt := 25) hx hb dX3_setDigits_63 (by decide) ?_
                                refine lv_iload hx hb dX3_setDigits_25 (lv_at hl 0 rfl) ?_
                                refine lv_iload_n hx hb dX3_setDigits_27 rfl (lv_at hl 2 rfl) ?_
                                refine lv_icmp_ge (tgt := 66) hx hb dX3_setDigits_28 (by decide) (fun _ => ?_) (fun h => absurd (by decide) h)
                                refine lv_aload_n hx hb dX3_setDigits_66 rfl (lv_at hl 3 rfl) ?_
                                refine va_get (D := D) (ci := 3) (v := .ref x_paper_digits) (C := RX3) (T := TX3) (N := 20) hx hb hts (by decide +kernel) hown hK hP 0 rfl rfl 1 (by decide) (hts (.fieldLink RX3 15 "TurnedFloors$Paper" "digits" "[I") (by decide +kernel)) (fun _ h9 => h9) rfl dX3_setDigits_67 ?_
                                refine lv_iload_n hx hb dX3_setDigits_70 rfl (lv_at hl 2 rfl) ?_
                                refine lv_iload_n hx hb dX3_setDigits_71 rfl (lv_at hl 1 rfl) ?_
                                refine va_iast hx hb hK hP hD hS 1 0 rfl rfl (by simp only [vp_in]; decide) dX3_setDigits_72 (fun H locs hp hd hs => ?_)
                                refine kz_re (w2 := [(x_paper, .inr (3, [.ref x_paper_ranks, .ref x_paper_digits, .ref x_paper_barred, .ref x_paper_pays, .ref x_paper_measuredBarred, .ref x_paper_buckets, .ref q_5, .ref q_6, .ref q_7, .ref q_1, .ref q_2, .ref q_3, .ref q_4, .int 0, .int 1, .int 0, .int 0, .int (-1), .int (-1), .int 0])), (x_paper_digits, .inl (ty 0, 6, .inl (upd (upd (upd (upd (upd (upd (upd (upd (upd (upd (upd (upd (upd (upd (upd (upd (upd (upd (upd (upd (upd (fun _ => 0) 0 0) 0 0) 1 1) 0 0) 1 1) 2 2) 0 0) 1 1) 2 2) 3 3) 0 0) 1 1) 2 2) 3 3) 4 4) 0 0) 1 1) 2 2) 3 3) 4 4) 5 5)))]) hp hd hs rfl ?_
                                clear hp hd hs hP hD hS
                                intro hP hD hS
                                refine lv_iinc (v := 6) (lv' := [(2, .int 6), (4, .int 5), (3, .int 5), (0, .ref x_paper), (1, .int 0)]) hx hb dX3_setDigits_73 hl (k := 2) rfl (by decide) (by decide) rfl (fun ls hl => ?_)
                                refine lv_goto (tgt := 2) hx hb dX3_setDigits_76 (by decide) ?_
                                refine lv_iload_n hx hb dX3_setDigits_2 rfl (lv_at hl 0 rfl) ?_
                                refine lv_bipush (v := 6) hx hb dX3_setDigits_3 (by decide) ?_
                                refine lv_icmp_ge (tgt := 79) hx hb dX3_setDigits_5 (by decide) (fun _ => ?_) (fun h => absurd (by decide) h)
                                exact kz_vret hx hb hr hlocks hP hK hD hS dX3_setDigits_79 rfl
                              · exact absurd c_30 (by decide)
                            · exact absurd c_28 (by decide)
                          · exact absurd c_26 (by decide)
                        · exact absurd c_24 (by decide)
                      · exact absurd c_22 (by decide)
                    · exact absurd c_20 (by decide)
                  · exact absurd c_18 (by decide)
                · exact absurd c_16 (by decide)
              · exact absurd c_14 (by decide)
            · exact absurd c_12 (by decide)
          · exact absurd c_10 (by decide)
        · exact absurd c_8 (by decide)
      · exact absurd c_6 (by decide)
    · exact absurd c_4 (by decide)
  · exact absurd c_2 (by decide)

set_option maxHeartbeats 4000000 in
set_option maxRecDepth 100000 in
theorem kX3_listOrder_77 (l : Launch) (D : va_G) (ty : Nat → ClassId) (eo : Nat → Nat) (sz : Nat) (x_paper x_paper_ranks x_paper_digits x_paper_barred x_paper_pays x_paper_measuredBarred x_paper_buckets q_5 q_6 q_7 q_1 q_2 q_3 q_4 : Nat) : Met l yX3_listOrder wsX3_listOrder ({ frames := 2, cells := 0, slots := 0, locals := 44 }) (va_Pc [.ref x_paper, .int 0] (kz_pre D ty eo [(x_paper, .inr (3, [.ref x_paper_ranks, .ref x_paper_digits, .ref x_paper_barred, .ref x_paper_pays, .ref x_paper_measuredBarred, .ref x_paper_buckets, .ref q_5, .ref q_6, .ref q_7, .ref q_1, .ref q_2, .ref q_3, .ref q_4, .int 0, .int 1, .int 0, .int 0, .int (-1), .int (-1), .int 0])), (x_paper_digits, .inl (ty 0, 6, .inl (fun _ => 0))), (q_5, .inl (ty 0, 1, .inl (fun _ => 0)))] sz)) (va_Qv (fun (u : va_W) => [(q_5, .inl (ty 0, 1, .inl (upd (upd (upd (upd (upd (upd (fun _ => 0) 0 0) 0 8) 0 136) 0 1672) 0 18056) 0 181896))), (x_paper, .inr (3, [.ref x_paper_ranks, .ref x_paper_digits, .ref x_paper_barred, .ref x_paper_pays, .ref x_paper_measuredBarred, .ref x_paper_buckets, .ref q_5, .ref q_6, .ref q_7, .ref q_1, .ref q_2, .ref q_3, .ref q_4, .int 0, .int 1, .int 0, .int 0, .int (-1), .int (-1), .int 0])), (x_paper_digits, .inl (ty 0, 6, .inl (upd (upd (upd (upd (upd (upd (upd (upd (upd (upd (upd (upd (upd (upd (upd (upd (upd (upd (upd (upd (upd (fun _ => 0) 0 0) 0 0) 1 1) 0 0) 1 1) 2 2) 0 0) 1 1) 2 2) 3 3) 0 0) 1 1) 2 2) 3 3) 4 4) 0 0) 1 1) 2 2) 3 3) 4 4) 5 5)))] = u) (kz_B D ty (va_A [(x_paper, .inr (3, [.ref x_paper_ranks, .ref x_paper_digits, .ref x_paper_barred, .ref x_paper_pays, .ref x_paper_measuredBarred, .ref x_paper_buckets, .ref q_5, .ref q_6, .ref q_7, .ref q_1, .ref q_2, .ref q_3, .ref q_4, .int 0, .int 1, .int 0, .int 0, .int (-1), .int (-1), .int 0])), (x_paper_digits, .inl (ty 0, 6, .inl (fun _ => 0))), (q_5, .inl (ty 0, 1, .inl (fun _ => 0)))] sz)) (va_A [(x_paper, .inr (3, [.ref x_paper_ranks, .ref x_paper_digits, .ref x_paper_barred, .ref x_paper_pays, .ref x_paper_measuredBarred, .ref x_paper_buckets, .ref q_5, .ref q_6, .ref q_7, .ref q_1, .ref q_2, .ref q_3, .ref q_4, .int 0, .int 1, .int 0, .int 0, .int (-1), .int (-1), .int 0])), (x_paper_digits, .inl (ty 0, 6, .inl (fun _ => 0))), (q_5, .inl (ty 0, 1, .inl (fun _ => 0)))] sz)) 0 0 (va_A [(x_paper, .inr (3, [.ref x_paper_ranks, .ref x_paper_digits, .ref x_paper_barred, .ref x_paper_pays, .ref x_paper_measuredBarred, .ref x_paper_buckets, .ref q_5, .ref q_6, .ref q_7, .ref q_1, .ref q_2, .ref q_3, .ref q_4, .int 0, .int 1, .int 0, .int 0, .int (-1), .int (-1), .int 0])), (x_paper_digits, .inl (ty 0, 6, .inl (fun _ => 0))), (q_5, .inl (ty 0, 1, .inl (fun _ => 0)))] sz) := by
  refine Met.ofW (cc := cX3_listOrder) (maxL := 6) (ret := none) (by decide) rfl ?_
  intro p e s m args below meth c s₁ B hml hv
  obtain ⟨rfl, hsz, hP, hK, hD0, hN, hE⟩ := hv
  have hx := B.exec
  have hb := B.bytes
  have hr := B.returns
  have hts := atoms_spec (ws := wsX3_listOrder) B.pre
  have hown : s.vm.findClass RX3 = some m.cls := findClass_of_methodNamed B.named
  have hlocks := B.notSynchronized
  subst hsz
  have hD := hD0.self (sz := s.heap.size)
  generalize hAe : va_A [(x_paper, .inr (3, [.ref x_paper_ranks, .ref x_paper_digits, .ref x_paper_barred, .ref x_paper_pays, .ref x_paper_measuredBarred, .ref x_paper_buckets, .ref q_5, .ref q_6, .ref q_7, .ref q_1, .ref q_2, .ref q_3, .ref q_4, .int 0, .int 1, .int 0, .int 0, .int (-1), .int (-1), .int 0])), (x_paper_digits, .inl (ty 0, 6, .inl (fun _ => 0))), (q_5, .inl (ty 0, 1, .inl (fun _ => 0)))] s.heap.size = A at hD hE ⊢
  have hA : ∀ q : Nat, s.heap.size ≤ q → A q := fun q h => by rw [← hAe]; exact Or.inr h
  have hS : va_S A s.heap s.heap [] := va_S.rf
  have hl := lv_entry ([.ref x_paper, .int 0]) (n := 6) (Nat.le_of_ble_eq_true rfl)
  rw [lg_entry_eq]
  generalize (lg_sl ([.ref x_paper, .int 0]) ++ List.replicate (6 - (lg_sl ([.ref x_paper, .int 0])).length) Slot.unset).toArray = ls at hl ⊢
  have hl : lv_has ls 6 [(0, .ref x_paper), (1, .int 0)] := hl
  refine lv_aload_n hx hb dX3_listOrder_0 rfl (lv_at hl 0 rfl) ?_
  refine lv_iload_n hx hb dX3_listOrder_1 rfl (lv_at hl 1 rfl) ?_
  refine kz_kv (wc := [(x_paper, .inr (3, [.ref x_paper_ranks, .ref x_paper_digits, .ref x_paper_barred, .ref x_paper_pays, .ref x_paper_measuredBarred, .ref x_paper_buckets, .ref q_5, .ref q_6, .ref q_7, .ref q_1, .ref q_2, .ref q_3, .ref q_4, .int 0, .int 1, .int 0, .int 0, .int (-1), .int (-1), .int 0])), (x_paper_digits, .inl (ty 0, 6, .inl (fun _ => 0)))]) (wr := [(q_5, .inl (ty 0, 1, .inl (fun _ => 0)))]) (va_runV (As := [.int 0]) (rest := []) ⟨hx, hb, hml, hown, hts⟩ (kX3_setDigits_78 l D ty eo _ x_paper x_paper_ranks x_paper_digits x_paper_barred x_paper_pays x_paper_measuredBarred x_paper_buckets q_5 q_6 q_7 q_1 q_2 q_3 q_4) (cwV 1 hts gX3_listOrder_X3_setDigits rfl rfl rfl (by decide +kernel) ⟨Nat.le_of_ble_eq_true rfl, Nat.le_of_ble_eq_true rfl⟩) (kz_preV (ci := 3) (q0 := 0) hK hN hE hP hD hS hA rfl rfl [0, 1] (by decide) rfl) rfl rfl hl.1 rfl (lv_room (Nat.le_of_ble_eq_true rfl)) dX3_listOrder_2 ⟨Nat.le_of_ble_eq_true rfl, Nat.le_of_ble_eq_true rfl⟩) hP hD hS hA [0, 1] [2] rfl rfl (by decide) (by decide) (fun u H locs hw hp hd hs => ?_)
  obtain rfl := hw
  refine kz_re (w2 := [(q_5, .inl (ty 0, 1, .inl (fun _ => 0))), (x_paper, .inr (3, [.ref x_paper_ranks, .ref x_paper_digits, .ref x_paper_barred, .ref x_paper_pays, .ref x_paper_measuredBarred, .ref x_paper_buckets, .ref q_5, .ref q_6, .ref q_7, .ref q_1, .ref q_2, .ref q_3, .ref q_4, .int 0, .int 1, .int 0, .int 0, .int (-1), .int (-1), .int 0])), (x_paper_digits, .inl (ty 0, 6, .inl (upd (upd (upd (upd (upd (upd (upd (upd (upd (upd (upd (upd (upd (upd (upd (upd (upd (upd (upd (upd (upd (fun _ => 0) 0 0) 0 0) 1 1) 0 0) 1 1) 2 2) 0 0) 1 1) 2 2) 3 3) 0 0) 1 1) 2 2) 3 3) 4 4) 0 0) 1 1) 2 2) 3 3) 4 4) 5 5)))]) hp hd hs rfl ?_
  clear hp hd hs hP hD hS
  intro hP hD hS
  refine lv_iconst (v := 0) hx hb dX3_listOrder_5 (by decide) ?_
  refine lv_istore_n (lv' := [(2, .int 0), (0, .ref x_paper), (1, .int 0)]) hx hb dX3_listOrder_6 rfl hl (by decide) rfl (fun ls hl => ?_)
  refine lv_iload_n hx hb dX3_listOrder_7 rfl (lv_at hl 0 rfl) ?_
  refine lv_bipush (v := 6) hx hb dX3_listOrder_8 (by decide) ?_
  refine lv_icmp_ge (tgt := 38) hx hb dX3_listOrder_10 (by decide) (fun h => absurd h (by decide)) (fun _ => ?_)
  refine lv_aload_n hx hb dX3_listOrder_13 rfl (lv_at hl 1 rfl) ?_
  refine va_get (D := D) (ci := 3) (v := .ref q_5) (C := RX3) (T := TX3) (N := 20) hx hb hts (by decide +kernel) hown hK hP 1 rfl rfl 6 (by decide) (hts (.fieldLink RX3 30 "TurnedFloors$Paper" "orders" "[I") (by decide +kernel)) (fun _ h9 => h9) rfl dX3_listOrder_14 ?_
  refine lv_iload_n hx hb dX3_listOrder_17 rfl (lv_at hl 2 rfl) ?_
  refine lv_dup2_11 hx hb dX3_listOrder_18 rfl rfl ?_
  refine va_iald hx hb hK hP 0 0 rfl rfl (by simp only [vp_in]; decide) dX3_listOrder_19 ?_
  refine kz_topi 0 (by first | rfl | decide +kernel) ?_
  refine lv_aload_n hx hb dX3_listOrder_20 rfl (lv_at hl 1 rfl) ?_
  refine va_get (D := D) (ci := 3) (v := .ref x_paper_digits) (C := RX3) (T := TX3) (N := 20) hx hb hts (by decide +kernel) hown hK hP 1 rfl rfl 1 (by decide) (hts (.fieldLink RX3 15 "TurnedFloors$Paper" "digits" "[I") (by decide +kernel)) (fun _ h9 => h9) rfl dX3_listOrder_21 ?_
  refine lv_iload_n hx hb dX3_listOrder_24 rfl (lv_at hl 0 rfl) ?_
  refine va_iald hx hb hK hP 2 0 rfl rfl (by simp only [vp_in]; decide) dX3_listOrder_25 ?_
  refine kz_topi 0 (by first | rfl | decide +kernel) ?_
  refine lv_iconst (v := 3) hx hb dX3_listOrder_26 (by decide) ?_
  refine lv_iload_n hx hb dX3_listOrder_27 rfl (lv_at hl 0 rfl) ?_
  refine lv_imul hx hb dX3_listOrder_28 ?_
  refine kz_topi 0 (by first | rfl | decide +kernel) ?_
  refine lv_ishl hx hb dX3_listOrder_29 ?_
  refine kz_topi 0 (by first | rfl | decide +kernel) ?_
  refine lv_ior hx hb dX3_listOrder_30 ?_
  refine kz_topi 0 (by first | rfl | decide +kernel) ?_
  refine va_iast hx hb hK hP hD hS 0 0 rfl rfl (by simp only [vp_in]; decide) dX3_listOrder_31 (fun H locs hp hd hs => ?_)
  refine kz_re (w2 := [(q_5, .inl (ty 0, 1, .inl (upd (fun _ => 0) 0 0))), (x_paper, .inr (3, [.ref x_paper_ranks, .ref x_paper_digits, .ref x_paper_barred, .ref x_paper_pays, .ref x_paper_measuredBarred, .ref x_paper_buckets, .ref q_5, .ref q_6, .ref q_7, .ref q_1, .ref q_2, .ref q_3, .ref q_4, .int 0, .int 1, .int 0, .int 0, .int (-1), .int (-1), .int 0])), (x_paper_digits, .inl (ty 0, 6, .inl (upd (upd (upd (upd (upd (upd (upd (upd (upd (upd (upd (upd (upd (upd (upd (upd (upd (upd (upd (upd (upd (fun _ => 0) 0 0) 0 0) 1 1) 0 0) 1 1) 2 2) 0 0) 1 1) 2 2) 3 3) 0 0) 1 1) 2 2) 3 3) 4 4) 0 0) 1 1) 2 2) 3 3) 4 4) 5 5)))]) hp hd hs rfl ?_
  clear hp hd hs hP hD hS
  intro hP hD hS
  refine lv_iinc (v := 1) (lv' := [(2, .int 1), (0, .ref x_paper), (1, .int 0)]) hx hb dX3_listOrder_32 hl (k := 0) rfl (by decide) (by decide) rfl (fun ls hl => ?_)
  refine lv_goto (tgt := 7) hx hb dX3_listOrder_35 (by decide) ?_
  refine lv_iload_n hx hb dX3_listOrder_7 rfl (lv_at hl 0 rfl) ?_
  refine lv_bipush (v := 6) hx hb dX3_listOrder_8 (by decide) ?_
  refine lv_icmp_ge (tgt := 38) hx hb dX3_listOrder_10 (by decide) (fun h => absurd h (by decide)) (fun _ => ?_)
  refine lv_aload_n hx hb dX3_listOrder_13 rfl (lv_at hl 1 rfl) ?_
  refine va_get (D := D) (ci := 3) (v := .ref q_5) (C := RX3) (T := TX3) (N := 20) hx hb hts (by decide +kernel) hown hK hP 1 rfl rfl 6 (by decide) (hts (.fieldLink RX3 30 "TurnedFloors$Paper" "orders" "[I") (by decide +kernel)) (fun _ h9 => h9) rfl dX3_listOrder_14 ?_
  refine lv_iload_n hx hb dX3_listOrder_17 rfl (lv_at hl 2 rfl) ?_
  refine lv_dup2_11 hx hb dX3_listOrder_18 rfl rfl ?_
  refine va_iald hx hb hK hP 0 0 rfl rfl (by simp only [vp_in]; decide) dX3_listOrder_19 ?_
  refine kz_topi 0 (by first | rfl | decide +kernel) ?_
  refine lv_aload_n hx hb dX3_listOrder_20 rfl (lv_at hl 1 rfl) ?_
  refine va_get (D := D) (ci := 3) (v := .ref x_paper_digits) (C := RX3) (T := TX3) (N := 20) hx hb hts (by decide +kernel) hown hK hP 1 rfl rfl 1 (by decide) (hts (.fieldLink RX3 15 "TurnedFloors$Paper" "digits" "[I") (by decide +kernel)) (fun _ h9 => h9) rfl dX3_listOrder_21 ?_
  refine lv_iload_n hx hb dX3_listOrder_24 rfl (lv_at hl 0 rfl) ?_
  refine va_iald hx hb hK hP 2 0 rfl rfl (by simp only [vp_in]; decide) dX3_listOrder_25 ?_
  refine kz_topi 1 (by first | rfl | decide +kernel) ?_
  refine lv_iconst (v := 3) hx hb dX3_listOrder_26 (by decide) ?_
  refine lv_iload_n hx hb dX3_listOrder_27 rfl (lv_at hl 0 rfl) ?_
  refine lv_imul hx hb dX3_listOrder_28 ?_
  refine kz_topi 3 (by first | rfl | decide +kernel) ?_
  refine lv_ishl hx hb dX3_listOrder_29 ?_
  refine kz_topi 8 (by first | rfl | decide +kernel) ?_
  refine lv_ior hx hb dX3_listOrder_30 ?_
  refine kz_topi 8 (by first | rfl | decide +kernel) ?_
  refine va_iast hx hb hK hP hD hS 0 0 rfl rfl (by simp only [vp_in]; decide) dX3_listOrder_31 (fun H locs hp hd hs => ?_)
  refine kz_re (w2 := [(q_5, .inl (ty 0, 1, .inl (upd (upd (fun _ => 0) 0 0) 0 8))), (x_paper, .inr (3, [.ref x_paper_ranks, .ref x_paper_digits, .ref x_paper_barred, .ref x_paper_pays, .ref x_paper_measuredBarred, .ref x_paper_buckets, .ref q_5, .ref q_6, .ref q_7, .ref q_1, .ref q_2, .ref q_3, .ref q_4, .int 0, .int 1, .int 0, .int 0, .int (-1), .int (-1), .int 0])), (x_paper_digits, .inl (ty 0, 6, .inl (upd (upd (upd (upd (upd (upd (upd (upd (upd (upd (upd (upd (upd (upd (upd (upd (upd (upd (upd (upd (upd (fun _ => 0) 0 0) 0 0) 1 1) 0 0) 1 1) 2 2) 0 0) 1 1) 2 2) 3 3) 0 0) 1 1) 2 2) 3 3) 4 4) 0 0) 1 1) 2 2) 3 3) 4 4) 5 5)))]) hp hd hs rfl ?_
  clear hp hd hs hP hD hS
  intro hP hD hS
  refine lv_iinc (v := 2) (lv' := [(2, .int 2), (0, .ref x_paper), (1, .int 0)]) hx hb dX3_listOrder_32 hl (k := 0) rfl (by decide) (by decide) rfl (fun ls hl => ?_)
  refine lv_goto (tgt := 7) hx hb dX3_listOrder_35 (by decide) ?_
  refine lv_iload_n hx hb dX3_listOrder_7 rfl (lv_at hl 0 rfl) ?_
  refine lv_bipush (v := 6) hx hb dX3_listOrder_8 (by decide) ?_
  refine lv_icmp_ge (tgt := 38) hx hb dX3_listOrder_10 (by decide) (fun h => absurd h (by decide)) (fun _ => ?_)
  refine lv_aload_n hx hb dX3_listOrder_13 rfl (lv_at hl 1 rfl) ?_
  refine va_get (D := D) (ci := 3) (v := .ref q_5) (C := RX3) (T := TX3) (N := 20) hx hb hts (by decide +kernel) hown hK hP 1 rfl rfl 6 (by decide) (hts (.fieldLink RX3 30 "TurnedFloors$Paper" "orders" "[I") (by decide +kernel)) (fun _ h9 => h9) rfl dX3_listOrder_14 ?_
  refine lv_iload_n hx hb dX3_listOrder_17 rfl (lv_at hl 2 rfl) ?_
  refine lv_dup2_11 hx hb dX3_listOrder_18 rfl rfl ?_
  refine va_iald hx hb hK hP 0 0 rfl rfl (by simp only [vp_in]; decide) dX3_listOrder_19 ?_
  refine kz_topi 8 (by first | rfl | decide +kernel) ?_
  refine lv_aload_n hx hb dX3_listOrder_20 rfl (lv_at hl 1 rfl) ?_
  refine va_get (D := D) (ci := 3) (v := .ref x_paper_digits) (C := RX3) (T := TX3) (N := 20) hx hb hts (by decide +kernel) hown hK hP 1 rfl rfl 1 (by decide) (hts (.fieldLink RX3 15 "TurnedFloors$Paper" "digits" "[I") (by decide +kernel)) (fun _ h9 => h9) rfl dX3_listOrder_21 ?_
  refine lv_iload_n hx hb dX3_listOrder_24 rfl (lv_at hl 0 rfl) ?_
  refine va_iald hx hb hK hP 2 0 rfl rfl (by simp only [vp_in]; decide) dX3_listOrder_25 ?_
  refine kz_topi 2 (by first | rfl | decide +kernel) ?_
  refine lv_iconst (v := 3) hx hb dX3_listOrder_26 (by decide) ?_
  refine lv_iload_n hx hb dX3_listOrder_27 rfl (lv_at hl 0 rfl) ?_
  refine lv_imul hx hb dX3_listOrder_28 ?_
  refine kz_topi 6 (by first | rfl | decide +kernel) ?_
  refine lv_ishl hx hb dX3_listOrder_29 ?_
  refine kz_topi 128 (by first | rfl | decide +kernel) ?_
  refine lv_ior hx hb dX3_listOrder_30 ?_
  refine kz_topi 136 (by first | rfl | decide +kernel) ?_
  refine va_iast hx hb hK hP hD hS 0 0 rfl rfl (by simp only [vp_in]; decide) dX3_listOrder_31 (fun H locs hp hd hs => ?_)
  refine kz_re (w2 := [(q_5, .inl (ty 0, 1, .inl (upd (upd (upd (fun _ => 0) 0 0) 0 8) 0 136))), (x_paper, .inr (3, [.ref x_paper_ranks, .ref x_paper_digits, .ref x_paper_barred, .ref x_paper_pays, .ref x_paper_measuredBarred, .ref x_paper_buckets, .ref q_5, .ref q_6, .ref q_7, .ref q_1, .ref q_2, .ref q_3, .ref q_4, .int 0, .int 1, .int 0, .int 0, .int (-1), .int (-1), .int 0])), (x_paper_digits, .inl (ty 0, 6, .inl (upd (upd (upd (upd (upd (upd (upd (upd (upd (upd (upd (upd (upd (upd (upd (upd (upd (upd (upd (upd (upd (fun _ => 0) 0 0) 0 0) 1 1) 0 0) 1 1) 2 2) 0 0) 1 1) 2 2) 3 3) 0 0) 1 1) 2 2) 3 3) 4 4) 0 0) 1 1) 2 2) 3 3) 4 4) 5 5)))]) hp hd hs rfl ?_
  clear hp hd hs hP hD hS
  intro hP hD hS
  refine lv_iinc (v := 3) (lv' := [(2, .int 3), (0, .ref x_paper), (1, .int 0)]) hx hb dX3_listOrder_32 hl (k := 0) rfl (by decide) (by decide) rfl (fun ls hl => ?_)
  refine lv_goto (tgt := 7) hx hb dX3_listOrder_35 (by decide) ?_
  refine lv_iload_n hx hb dX3_listOrder_7 rfl (lv_at hl 0 rfl) ?_
  refine lv_bipush (v := 6) hx hb dX3_listOrder_8 (by decide) ?_
  refine lv_icmp_ge (tgt := 38) hx hb dX3_listOrder_10 (by decide) (fun h => absurd h (by decide)) (fun _ => ?_)
  refine lv_aload_n hx hb dX3_listOrder_13 rfl (lv_at hl 1 rfl) ?_
  refine va_get (D := D) (ci := 3) (v := .ref q_5) (C := RX3) (T := TX3) (N := 20) hx hb hts (by decide +kernel) hown hK hP 1 rfl rfl 6 (by decide) (hts (.fieldLink RX3 30 "TurnedFloors$Paper" "orders" "[I") (by decide +kernel)) (fun _ h9 => h9) rfl dX3_listOrder_14 ?_
  refine lv_iload_n hx hb dX3_listOrder_17 rfl (lv_at hl 2 rfl) ?_
  refine lv_dup2_11 hx hb dX3_listOrder_18 rfl rfl ?_
  refine va_iald hx hb hK hP 0 0 rfl rfl (by simp only [vp_in]; decide) dX3_listOrder_19 ?_
  refine kz_topi 136 (by first | rfl | decide +kernel) ?_
  refine lv_aload_n hx hb dX3_listOrder_20 rfl (lv_at hl 1 rfl) ?_
  refine va_get (D := D) (ci := 3) (v := .ref x_paper_digits) (C := RX3) (T := TX3) (N := 20) hx hb hts (by decide +kernel) hown hK hP 1 rfl rfl 1 (by decide) (hts (.fieldLink RX3 15 "TurnedFloors$Paper" "digits" "[I") (by decide +kernel)) (fun _ h9 => h9) rfl dX3_listOrder_21 ?_
  refine lv_iload_n hx hb dX3_listOrder_24 rfl (lv_at hl 0 rfl) ?_
  refine va_iald hx hb hK hP 2 0 rfl rfl (by simp only [vp_in]; decide) dX3_listOrder_25 ?_
  refine kz_topi 3 (by first | rfl | decide +kernel) ?_
  refine lv_iconst (v := 3) hx hb dX3_listOrder_26 (by decide) ?_
  refine lv_iload_n hx hb dX3_listOrder_27 rfl (lv_at hl 0 rfl) ?_
  refine lv_imul hx hb dX3_listOrder_28 ?_
  refine kz_topi 9 (by first | rfl | decide +kernel) ?_
  refine lv_ishl hx hb dX3_listOrder_29 ?_
  refine kz_topi 1536 (by first | rfl | decide +kernel) ?_
  refine lv_ior hx hb dX3_listOrder_30 ?_
  refine kz_topi 1672 (by first | rfl | decide +kernel) ?_
  refine va_iast hx hb hK hP hD hS 0 0 rfl rfl (by simp only [vp_in]; decide) dX3_listOrder_31 (fun H locs hp hd hs => ?_)
  refine kz_re (w2 := [(q_5, .inl (ty 0, 1, .inl (upd (upd (upd (upd (fun _ => 0) 0 0) 0 8) 0 136) 0 1672))), (x_paper, .inr (3, [.ref x_paper_ranks, .ref x_paper_digits, .ref x_paper_barred, .ref x_paper_pays, .ref x_paper_measuredBarred, .ref x_paper_buckets, .ref q_5, .ref q_6, .ref q_7, .ref q_1, .ref q_2, .ref q_3, .ref q_4, .int 0, .int 1, .int 0, .int 0, .int (-1), .int (-1), .int 0])), (x_paper_digits, .inl (ty 0, 6, .inl (upd (upd (upd (upd (upd (upd (upd (upd (upd (upd (upd (upd (upd (upd (upd (upd (upd (upd (upd (upd (upd (fun _ => 0) 0 0) 0 0) 1 1) 0 0) 1 1) 2 2) 0 0) 1 1) 2 2) 3 3) 0 0) 1 1) 2 2) 3 3) 4 4) 0 0) 1 1) 2 2) 3 3) 4 4) 5 5)))]) hp hd hs rfl ?_
  clear hp hd hs hP hD hS
  intro hP hD hS
  refine lv_iinc (v := 4) (lv' := [(2, .int 4), (0, .ref x_paper), (1, .int 0)]) hx hb dX3_listOrder_32 hl (k := 0) rfl (by decide) (by decide) rfl (fun ls hl => ?_)
  refine lv_goto (tgt := 7) hx hb dX3_listOrder_35 (by decide) ?_
  refine lv_iload_n hx hb dX3_listOrder_7 rfl (lv_at hl 0 rfl) ?_
  refine lv_bipush (v := 6) hx hb dX3_listOrder_8 (by decide) ?_
  refine lv_icmp_ge (tgt := 38) hx hb dX3_listOrder_10 (by decide) (fun h => absurd h (by decide)) (fun _ => ?_)
  refine lv_aload_n hx hb dX3_listOrder_13 rfl (lv_at hl 1 rfl) ?_
  refine va_get (D := D) (ci := 3) (v := .ref q_5) (C := RX3) (T := TX3) (N := 20) hx hb hts (by decide +kernel) hown hK hP 1 rfl rfl 6 (by decide) (hts (.fieldLink RX3 30 "TurnedFloors$Paper" "orders" "[I") (by decide +kernel)) (fun _ h9 => h9) rfl dX3_listOrder_14 ?_
  refine lv_iload_n hx hb dX3_listOrder_17 rfl (lv_at hl 2 rfl) ?_
  refine lv_dup2_11 hx hb dX3_listOrder_18 rfl rfl ?_
  refine va_iald hx hb hK hP 0 0 rfl rfl (by simp only [vp_in]; decide) dX3_listOrder_19 ?_
  refine kz_topi 1672 (by first | rfl | decide +kernel) ?_
  refine lv_aload_n hx hb dX3_listOrder_20 rfl (lv_at hl 1 rfl) ?_
  refine va_get (D := D) (ci := 3) (v := .ref x_paper_digits) (C := RX3) (T := TX3) (N := 20) hx hb hts (by decide +kernel) hown hK hP 1 rfl rfl 1 (by decide) (hts (.fieldLink RX3 15 "TurnedFloors$Paper" "digits" "[I") (by decide +kernel)) (fun _ h9 => h9) rfl dX3_listOrder_21 ?_
  refine lv_iload_n hx hb dX3_listOrder_24 rfl (lv_at hl 0 rfl) ?_
  refine va_iald hx hb hK hP 2 0 rfl rfl (by simp only [vp_in]; decide) dX3_listOrder_25 ?_
  refine kz_topi 4 (by first | rfl | decide +kernel) ?_
  refine lv_iconst (v := 3) hx hb dX3_listOrder_26 (by decide) ?_
  refine lv_iload_n hx hb dX3_listOrder_27 rfl (lv_at hl 0 rfl) ?_
  refine lv_imul hx hb dX3_listOrder_28 ?_
  refine kz_topi 12 (by first | rfl | decide +kernel) ?_
  refine lv_ishl hx hb dX3_listOrder_29 ?_
  refine kz_topi 16384 (by first | rfl | decide +kernel) ?_
  refine lv_ior hx hb dX3_listOrder_30 ?_
  refine kz_topi 18056 (by first | rfl | decide +kernel) ?_
  refine va_iast hx hb hK hP hD hS 0 0 rfl rfl (by simp only [vp_in]; decide) dX3_listOrder_31 (fun H locs hp hd hs => ?_)
  refine kz_re (w2 := [(q_5, .inl (ty 0, 1, .inl (upd (upd (upd (upd (upd (fun _ => 0) 0 0) 0 8) 0 136) 0 1672) 0 18056))), (x_paper, .inr (3, [.ref x_paper_ranks, .ref x_paper_digits, .ref x_paper_barred, .ref x_paper_pays, .ref x_paper_measuredBarred, .ref x_paper_buckets, .ref q_5, .ref q_6, .ref q_7, .ref q_1, .ref q_2, .ref q_3, .ref q_4, .int 0, .int 1, .int 0, .int 0, .int (-1), .int (-1), .int 0])), (x_paper_digits, .inl (ty 0, 6, .inl (upd (upd (upd (upd (upd (upd (upd (upd (upd (upd (upd (upd (upd (upd (upd (upd (upd (upd (upd (upd (upd (fun _ => 0) 0 0) 0 0) 1 1) 0 0) 1 1) 2 2) 0 0) 1 1) 2 2) 3 3) 0 0) 1 1) 2 2) 3 3) 4 4) 0 0) 1 1) 2 2) 3 3) 4 4) 5 5)))]) hp hd hs rfl ?_
  clear hp hd hs hP hD hS
  intro hP hD hS
  refine lv_iinc (v := 5) (lv' := [(2, .int 5), (0, .ref x_paper), (1, .int 0)]) hx hb dX3_listOrder_32 hl (k := 0) rfl (by decide) (by decide) rfl (fun ls hl => ?_)
  refine lv_goto (tgt := 7) hx hb dX3_listOrder_35 (by decide) ?_
  refine lv_iload_n hx hb dX3_listOrder_7 rfl (lv_at hl 0 rfl) ?_
  refine lv_bipush (v := 6) hx hb dX3_listOrder_8 (by decide) ?_
  refine lv_icmp_ge (tgt := 38) hx hb dX3_listOrder_10 (by decide) (fun h => absurd h (by decide)) (fun _ => ?_)
  refine lv_aload_n hx hb dX3_listOrder_13 rfl (lv_at hl 1 rfl) ?_
  refine va_get (D := D) (ci := 3) (v := .ref q_5) (C := RX3) (T := TX3) (N := 20) hx hb hts (by decide +kernel) hown hK hP 1 rfl rfl 6 (by decide) (hts (.fieldLink RX3 30 "TurnedFloors$Paper" "orders" "[I") (by decide +kernel)) (fun _ h9 => h9) rfl dX3_listOrder_14 ?_
  refine lv_iload_n hx hb dX3_listOrder_17 rfl (lv_at hl 2 rfl) ?_
  refine lv_dup2_11 hx hb dX3_listOrder_18 rfl rfl ?_
  refine va_iald hx hb hK hP 0 0 rfl rfl (by simp only [vp_in]; decide) dX3_listOrder_19 ?_
  refine kz_topi 18056 (by first | rfl | decide +kernel) ?_
  refine lv_aload_n hx hb dX3_listOrder_20 rfl (lv_at hl 1 rfl) ?_
  refine va_get (D := D) (ci := 3) (v := .ref x_paper_digits) (C := RX3) (T := TX3) (N := 20) hx hb hts (by decide +kernel) hown hK hP 1 rfl rfl 1 (by decide) (hts (.fieldLink RX3 15 "TurnedFloors$Paper" "digits" "[I") (by decide +kernel)) (fun _ h9 => h9) rfl dX3_listOrder_21 ?_
  refine lv_iload_n hx hb dX3_listOrder_24 rfl (lv_at hl 0 rfl) ?_
  refine va_iald hx hb hK hP 2 0 rfl rfl (by simp only [vp_in]; decide) dX3_listOrder_25 ?_
  refine kz_topi 5 (by first | rfl | decide +kernel) ?_
  refine lv_iconst (v := 3) hx hb dX3_listOrder_26 (by decide) ?_
  refine lv_iload_n hx hb dX3_listOrder_27 rfl (lv_at hl 0 rfl) ?_
  refine lv_imul hx hb dX3_listOrder_28 ?_
  refine kz_topi 15 (by first | rfl | decide +kernel) ?_
  refine lv_ishl hx hb dX3_listOrder_29 ?_
  refine kz_topi 163840 (by first | rfl | decide +kernel) ?_
  refine lv_ior hx hb dX3_listOrder_30 ?_
  refine kz_topi 181896 (by first | rfl | decide +kernel) ?_
  refine va_iast hx hb hK hP hD hS 0 0 rfl rfl (by simp only [vp_in]; decide) dX3_listOrder_31 (fun H locs hp hd hs => ?_)
  refine kz_re (w2 := [(q_5, .inl (ty 0, 1, .inl (upd (upd (upd (upd (upd (upd (fun _ => 0) 0 0) 0 8) 0 136) 0 1672) 0 18056) 0 181896))), (x_paper, .inr (3, [.ref x_paper_ranks, .ref x_paper_digits, .ref x_paper_barred, .ref x_paper_pays, .ref x_paper_measuredBarred, .ref x_paper_buckets, .ref q_5, .ref q_6, .ref q_7, .ref q_1, .ref q_2, .ref q_3, .ref q_4, .int 0, .int 1, .int 0, .int 0, .int (-1), .int (-1), .int 0])), (x_paper_digits, .inl (ty 0, 6, .inl (upd (upd (upd (upd (upd (upd (upd (upd (upd (upd (upd (upd (upd (upd (upd (upd (upd (upd (upd (upd (upd (fun _ => 0) 0 0) 0 0) 1 1) 0 0) 1 1) 2 2) 0 0) 1 1) 2 2) 3 3) 0 0) 1 1) 2 2) 3 3) 4 4) 0 0) 1 1) 2 2) 3 3) 4 4) 5 5)))]) hp hd hs rfl ?_
  clear hp hd hs hP hD hS
  intro hP hD hS
  refine lv_iinc (v := 6) (lv' := [(2, .int 6), (0, .ref x_paper), (1, .int 0)]) hx hb dX3_listOrder_32 hl (k := 0) rfl (by decide) (by decide) rfl (fun ls hl => ?_)
  refine lv_goto (tgt := 7) hx hb dX3_listOrder_35 (by decide) ?_
  refine lv_iload_n hx hb dX3_listOrder_7 rfl (lv_at hl 0 rfl) ?_
  refine lv_bipush (v := 6) hx hb dX3_listOrder_8 (by decide) ?_
  refine lv_icmp_ge (tgt := 38) hx hb dX3_listOrder_10 (by decide) (fun _ => ?_) (fun h => absurd (by decide) h)
  refine lv_iconst (v := 1) hx hb dX3_listOrder_38 (by decide) ?_
  refine lv_istore_n (lv' := [(2, .int 1), (0, .ref x_paper), (1, .int 0)]) hx hb dX3_listOrder_39 rfl hl (by decide) rfl (fun ls hl => ?_)
  refine lv_iload_n hx hb dX3_listOrder_40 rfl (lv_at hl 0 rfl) ?_
  refine lv_aload_n hx hb dX3_listOrder_41 rfl (lv_at hl 1 rfl) ?_
  refine va_get (D := D) (ci := 3) (v := .int 0) (C := RX3) (T := TX3) (N := 20) hx hb hts (by decide +kernel) hown hK hP 1 rfl rfl 13 (by decide) (hts (.fieldLink RX3 51 "TurnedFloors$Paper" "floors" "I") (by decide +kernel)) (fun _ h9 => h9) rfl dX3_listOrder_42 ?_
  refine lv_icmp_gt (tgt := 128) hx hb dX3_listOrder_45 (by decide) (fun _ => ?_) (fun h => absurd (by decide) h)
  exact kz_vret hx hb hr hlocks hP hK hD hS dX3_listOrder_128 rfl

set_option maxHeartbeats 4000000 in
set_option maxRecDepth 100000 in
theorem kX3_makeRoom_75 (l : Launch) (D : va_G) (ty : Nat → ClassId) (eo : Nat → Nat) (sz : Nat) (x_paper x_paper_ranks x_paper_digits x_paper_barred x_paper_pays x_paper_measuredBarred x_paper_buckets x_paper_orders x_paper_turnedOrders x_paper_turnedHeads x_paper_toOrder x_paper_marks x_paper_line x_paper_links : Nat) : Met l yX3_makeRoom wsX3_makeRoom ({ frames := 3, cells := 7, slots := 17, locals := 69 }) (va_Pc [.ref x_paper] (kz_pre D ty eo [(x_paper, .inr (3, [.ref x_paper_ranks, .ref x_paper_digits, .ref x_paper_barred, .ref x_paper_pays, .ref x_paper_measuredBarred, .ref x_paper_buckets, .ref x_paper_orders, .ref x_paper_turnedOrders, .ref x_paper_turnedHeads, .ref x_paper_toOrder, .ref x_paper_marks, .ref x_paper_line, .ref x_paper_links, .int 0, .int 1, .int 0, .int 0, .int (-1), .int (-1), .int 0])), (x_paper_digits, .inl (ty 0, 6, .inl (fun _ => 0)))] sz)) (va_Qv (fun (u : va_W) => ∃ q_1 q_2 q_3 q_4 q_5 q_6 q_7 : Nat, [(q_1, .inl (ty 0, 1, .inl (fun _ => 0))), (q_2, .inl (ty 0, 1, .inl (fun _ => 0))), (q_3, .inl (ty 0, 1, .inl (fun _ => 0))), (q_4, .inl (ty 0, 1, .inl (fun _ => 0))), (q_6, .inl (ty 0, 6, .inl (fun _ => 0))), (q_7, .inl (ty 0, 6, .inl (fun _ => 0))), (q_5, .inl (ty 0, 1, .inl (upd (upd (upd (upd (upd (upd (fun _ => 0) 0 0) 0 8) 0 136) 0 1672) 0 18056) 0 181896))), (x_paper, .inr (3, [.ref x_paper_ranks, .ref x_paper_digits, .ref x_paper_barred, .ref x_paper_pays, .ref x_paper_measuredBarred, .ref x_paper_buckets, .ref q_5, .ref q_6, .ref q_7, .ref q_1, .ref q_2, .ref q_3, .ref q_4, .int 0, .int 1, .int 0, .int 0, .int (-1), .int (-1), .int 0])), (x_paper_digits, .inl (ty 0, 6, .inl (upd (upd (upd (upd (upd (upd (upd (upd (upd (upd (upd (upd (upd (upd (upd (upd (upd (upd (upd (upd (upd (fun _ => 0) 0 0) 0 0) 1 1) 0 0) 1 1) 2 2) 0 0) 1 1) 2 2) 3 3) 0 0) 1 1) 2 2) 3 3) 4 4) 0 0) 1 1) 2 2) 3 3) 4 4) 5 5)))] = u) (kz_B D ty (va_A [(x_paper, .inr (3, [.ref x_paper_ranks, .ref x_paper_digits, .ref x_paper_barred, .ref x_paper_pays, .ref x_paper_measuredBarred, .ref x_paper_buckets, .ref x_paper_orders, .ref x_paper_turnedOrders, .ref x_paper_turnedHeads, .ref x_paper_toOrder, .ref x_paper_marks, .ref x_paper_line, .ref x_paper_links, .int 0, .int 1, .int 0, .int 0, .int (-1), .int (-1), .int 0])), (x_paper_digits, .inl (ty 0, 6, .inl (fun _ => 0)))] sz)) (va_A [(x_paper, .inr (3, [.ref x_paper_ranks, .ref x_paper_digits, .ref x_paper_barred, .ref x_paper_pays, .ref x_paper_measuredBarred, .ref x_paper_buckets, .ref x_paper_orders, .ref x_paper_turnedOrders, .ref x_paper_turnedHeads, .ref x_paper_toOrder, .ref x_paper_marks, .ref x_paper_line, .ref x_paper_links, .int 0, .int 1, .int 0, .int 0, .int (-1), .int (-1), .int 0])), (x_paper_digits, .inl (ty 0, 6, .inl (fun _ => 0)))] sz)) 7 17 (va_A [(x_paper, .inr (3, [.ref x_paper_ranks, .ref x_paper_digits, .ref x_paper_barred, .ref x_paper_pays, .ref x_paper_measuredBarred, .ref x_paper_buckets, .ref x_paper_orders, .ref x_paper_turnedOrders, .ref x_paper_turnedHeads, .ref x_paper_toOrder, .ref x_paper_marks, .ref x_paper_line, .ref x_paper_links, .int 0, .int 1, .int 0, .int 0, .int (-1), .int (-1), .int 0])), (x_paper_digits, .inl (ty 0, 6, .inl (fun _ => 0)))] sz) := by
  refine Met.ofW (cc := cX3_makeRoom) (maxL := 3) (ret := none) (by decide) rfl ?_
  intro p e s m args below meth c s₁ B hml hv
  obtain ⟨rfl, hsz, hP, hK, hD0, hN, hE⟩ := hv
  have hx := B.exec
  have hb := B.bytes
  have hr := B.returns
  have hts := atoms_spec (ws := wsX3_makeRoom) B.pre
  have hown : s.vm.findClass RX3 = some m.cls := findClass_of_methodNamed B.named
  have hlocks := B.notSynchronized
  subst hsz
  have hD := hD0.self (sz := s.heap.size)
  generalize hAe : va_A [(x_paper, .inr (3, [.ref x_paper_ranks, .ref x_paper_digits, .ref x_paper_barred, .ref x_paper_pays, .ref x_paper_measuredBarred, .ref x_paper_buckets, .ref x_paper_orders, .ref x_paper_turnedOrders, .ref x_paper_turnedHeads, .ref x_paper_toOrder, .ref x_paper_marks, .ref x_paper_line, .ref x_paper_links, .int 0, .int 1, .int 0, .int 0, .int (-1), .int (-1), .int 0])), (x_paper_digits, .inl (ty 0, 6, .inl (fun _ => 0)))] s.heap.size = A at hD hE ⊢
  have hA : ∀ q : Nat, s.heap.size ≤ q → A q := fun q h => by rw [← hAe]; exact Or.inr h
  have hS : va_S A s.heap s.heap [] := va_S.rf
  have hl := lv_entry ([.ref x_paper]) (n := 3) (Nat.le_of_ble_eq_true rfl)
  rw [lg_entry_eq]
  generalize (lg_sl ([.ref x_paper]) ++ List.replicate (3 - (lg_sl ([.ref x_paper])).length) Slot.unset).toArray = ls at hl ⊢
  have hl : lv_has ls 3 [(0, .ref x_paper)] := hl
  refine lv_aload_n hx hb dX3_makeRoom_0 rfl (lv_at hl 0 rfl) ?_
  refine lv_aload_n hx hb dX3_makeRoom_1 rfl (lv_at hl 0 rfl) ?_
  refine va_get (D := D) (ci := 3) (v := .int 1) (C := RX3) (T := TX3) (N := 20) hx hb hts (by decide +kernel) hown hK hP 0 rfl rfl 14 (by decide) (hts (.fieldLink RX3 55 "TurnedFloors$Paper" "size" "I") (by decide +kernel)) (fun _ h9 => h9) rfl dX3_makeRoom_2 ?_
  refine va_newa (atype := .int) (ty := .int) (N' := 1) (a0 := (1, .inl (fun _ => 0))) hx hb (hts (.arrayClass .int) (by decide +kernel)) rfl hK hP hD hS hA (fun _ => rfl) (by decide) (by decide) (by decide) (Nat.le_of_ble_eq_true rfl) (Nat.le_of_ble_eq_true rfl) dX3_makeRoom_5 (fun q_1 cA H hK2 hp hd hs => ?_)
  obtain rfl : cA = ty 0 := kz_cA (t0 := 0) (t1 := 6) hK2 rfl rfl rfl
  refine kz_re (w2 := [(x_paper, .inr (3, [.ref x_paper_ranks, .ref x_paper_digits, .ref x_paper_barred, .ref x_paper_pays, .ref x_paper_measuredBarred, .ref x_paper_buckets, .ref x_paper_orders, .ref x_paper_turnedOrders, .ref x_paper_turnedHeads, .ref x_paper_toOrder, .ref x_paper_marks, .ref x_paper_line, .ref x_paper_links, .int 0, .int 1, .int 0, .int 0, .int (-1), .int (-1), .int 0])), (x_paper_digits, .inl (ty 0, 6, .inl (fun _ => 0))), (q_1, .inl (ty 0, 1, .inl (fun _ => 0)))]) hp hd hs rfl ?_
  clear hp hd hs hP hD hS
  intro hP hD hS
  refine va_put (D := D) (ci := 3) (v := .ref q_1) (ty := .array .int) (C := RX3) (T := TX3) (N := 20) hx hb hts (by decide +kernel) tyX3 tyX3_ok nmX3 hown hK hP hD hS 0 rfl rfl 9 (by decide) (hts (.fieldLink RX3 39 "TurnedFloors$Paper" "toOrder" "[I") (by decide +kernel)) (fun _ h9 => h9) rfl (by decide +kernel) rfl rfl (Nat.le_of_ble_eq_true rfl) dX3_makeRoom_7 (fun H locs hp hd hs => ?_)
  refine kz_re (w2 := [(x_paper, .inr (3, [.ref x_paper_ranks, .ref x_paper_digits, .ref x_paper_barred, .ref x_paper_pays, .ref x_paper_measuredBarred, .ref x_paper_buckets, .ref x_paper_orders, .ref x_paper_turnedOrders, .ref x_paper_turnedHeads, .ref q_1, .ref x_paper_marks, .ref x_paper_line, .ref x_paper_links, .int 0, .int 1, .int 0, .int 0, .int (-1), .int (-1), .int 0])), (x_paper_digits, .inl (ty 0, 6, .inl (fun _ => 0))), (q_1, .inl (ty 0, 1, .inl (fun _ => 0)))]) hp hd hs rfl ?_
  clear hp hd hs hP hD hS
  intro hP hD hS
  refine lv_aload_n hx hb dX3_makeRoom_10 rfl (lv_at hl 0 rfl) ?_
  refine lv_aload_n hx hb dX3_makeRoom_11 rfl (lv_at hl 0 rfl) ?_
  refine va_get (D := D) (ci := 3) (v := .int 1) (C := RX3) (T := TX3) (N := 20) hx hb hts (by decide +kernel) hown hK hP 0 rfl rfl 14 (by decide) (hts (.fieldLink RX3 55 "TurnedFloors$Paper" "size" "I") (by decide +kernel)) (fun _ h9 => h9) rfl dX3_makeRoom_12 ?_
  refine va_newa (atype := .int) (ty := .int) (N' := 1) (a0 := (1, .inl (fun _ => 0))) hx hb (hts (.arrayClass .int) (by decide +kernel)) rfl hK hP hD hS hA (fun _ => rfl) (by decide) (by decide) (by decide) (Nat.le_of_ble_eq_true rfl) (Nat.le_of_ble_eq_true rfl) dX3_makeRoom_15 (fun q_2 cA H hK2 hp hd hs => ?_)
  obtain rfl : cA = ty 0 := kz_cA (t0 := 0) (t1 := 6) hK2 rfl rfl rfl
  refine kz_re (w2 := [(x_paper, .inr (3, [.ref x_paper_ranks, .ref x_paper_digits, .ref x_paper_barred, .ref x_paper_pays, .ref x_paper_measuredBarred, .ref x_paper_buckets, .ref x_paper_orders, .ref x_paper_turnedOrders, .ref x_paper_turnedHeads, .ref q_1, .ref x_paper_marks, .ref x_paper_line, .ref x_paper_links, .int 0, .int 1, .int 0, .int 0, .int (-1), .int (-1), .int 0])), (x_paper_digits, .inl (ty 0, 6, .inl (fun _ => 0))), (q_1, .inl (ty 0, 1, .inl (fun _ => 0))), (q_2, .inl (ty 0, 1, .inl (fun _ => 0)))]) hp hd hs rfl ?_
  clear hp hd hs hP hD hS
  intro hP hD hS
  refine va_put (D := D) (ci := 3) (v := .ref q_2) (ty := .array .int) (C := RX3) (T := TX3) (N := 20) hx hb hts (by decide +kernel) tyX3 tyX3_ok nmX3 hown hK hP hD hS 0 rfl rfl 10 (by decide) (hts (.fieldLink RX3 42 "TurnedFloors$Paper" "marks" "[I") (by decide +kernel)) (fun _ h9 => h9) rfl (by decide +kernel) rfl rfl (Nat.le_of_ble_eq_true rfl) dX3_makeRoom_17 (fun H locs hp hd hs => ?_)
  refine kz_re (w2 := [(x_paper, .inr (3, [.ref x_paper_ranks, .ref x_paper_digits, .ref x_paper_barred, .ref x_paper_pays, .ref x_paper_measuredBarred, .ref x_paper_buckets, .ref x_paper_orders, .ref x_paper_turnedOrders, .ref x_paper_turnedHeads, .ref q_1, .ref q_2, .ref x_paper_line, .ref x_paper_links, .int 0, .int 1, .int 0, .int 0, .int (-1), .int (-1), .int 0])), (x_paper_digits, .inl (ty 0, 6, .inl (fun _ => 0))), (q_1, .inl (ty 0, 1, .inl (fun _ => 0))), (q_2, .inl (ty 0, 1, .inl (fun _ => 0)))]) hp hd hs rfl ?_
  clear hp hd hs hP hD hS
  intro hP hD hS
  refine lv_aload_n hx hb dX3_makeRoom_20 rfl (lv_at hl 0 rfl) ?_
  refine lv_aload_n hx hb dX3_makeRoom_21 rfl (lv_at hl 0 rfl) ?_
  refine va_get (D := D) (ci := 3) (v := .int 1) (C := RX3) (T := TX3) (N := 20) hx hb hts (by decide +kernel) hown hK hP 0 rfl rfl 14 (by decide) (hts (.fieldLink RX3 55 "TurnedFloors$Paper" "size" "I") (by decide +kernel)) (fun _ h9 => h9) rfl dX3_makeRoom_22 ?_
  refine va_newa (atype := .int) (ty := .int) (N' := 1) (a0 := (1, .inl (fun _ => 0))) hx hb (hts (.arrayClass .int) (by decide +kernel)) rfl hK hP hD hS hA (fun _ => rfl) (by decide) (by decide) (by decide) (Nat.le_of_ble_eq_true rfl) (Nat.le_of_ble_eq_true rfl) dX3_makeRoom_25 (fun q_3 cA H hK2 hp hd hs => ?_)
  obtain rfl : cA = ty 0 := kz_cA (t0 := 0) (t1 := 6) hK2 rfl rfl rfl
  refine kz_re (w2 := [(x_paper, .inr (3, [.ref x_paper_ranks, .ref x_paper_digits, .ref x_paper_barred, .ref x_paper_pays, .ref x_paper_measuredBarred, .ref x_paper_buckets, .ref x_paper_orders, .ref x_paper_turnedOrders, .ref x_paper_turnedHeads, .ref q_1, .ref q_2, .ref x_paper_line, .ref x_paper_links, .int 0, .int 1, .int 0, .int 0, .int (-1), .int (-1), .int 0])), (x_paper_digits, .inl (ty 0, 6, .inl (fun _ => 0))), (q_1, .inl (ty 0, 1, .inl (fun _ => 0))), (q_2, .inl (ty 0, 1, .inl (fun _ => 0))), (q_3, .inl (ty 0, 1, .inl (fun _ => 0)))]) hp hd hs rfl ?_
  clear hp hd hs hP hD hS
  intro hP hD hS
  refine va_put (D := D) (ci := 3) (v := .ref q_3) (ty := .array .int) (C := RX3) (T := TX3) (N := 20) hx hb hts (by decide +kernel) tyX3 tyX3_ok nmX3 hown hK hP hD hS 0 rfl rfl 11 (by decide) (hts (.fieldLink RX3 45 "TurnedFloors$Paper" "line" "[I") (by decide +kernel)) (fun _ h9 => h9) rfl (by decide +kernel) rfl rfl (Nat.le_of_ble_eq_true rfl) dX3_makeRoom_27 (fun H locs hp hd hs => ?_)
  refine kz_re (w2 := [(x_paper, .inr (3, [.ref x_paper_ranks, .ref x_paper_digits, .ref x_paper_barred, .ref x_paper_pays, .ref x_paper_measuredBarred, .ref x_paper_buckets, .ref x_paper_orders, .ref x_paper_turnedOrders, .ref x_paper_turnedHeads, .ref q_1, .ref q_2, .ref q_3, .ref x_paper_links, .int 0, .int 1, .int 0, .int 0, .int (-1), .int (-1), .int 0])), (x_paper_digits, .inl (ty 0, 6, .inl (fun _ => 0))), (q_1, .inl (ty 0, 1, .inl (fun _ => 0))), (q_2, .inl (ty 0, 1, .inl (fun _ => 0))), (q_3, .inl (ty 0, 1, .inl (fun _ => 0)))]) hp hd hs rfl ?_
  clear hp hd hs hP hD hS
  intro hP hD hS
  refine lv_aload_n hx hb dX3_makeRoom_30 rfl (lv_at hl 0 rfl) ?_
  refine lv_aload_n hx hb dX3_makeRoom_31 rfl (lv_at hl 0 rfl) ?_
  refine va_get (D := D) (ci := 3) (v := .int 1) (C := RX3) (T := TX3) (N := 20) hx hb hts (by decide +kernel) hown hK hP 0 rfl rfl 14 (by decide) (hts (.fieldLink RX3 55 "TurnedFloors$Paper" "size" "I") (by decide +kernel)) (fun _ h9 => h9) rfl dX3_makeRoom_32 ?_
  refine va_newa (atype := .int) (ty := .int) (N' := 1) (a0 := (1, .inl (fun _ => 0))) hx hb (hts (.arrayClass .int) (by decide +kernel)) rfl hK hP hD hS hA (fun _ => rfl) (by decide) (by decide) (by decide) (Nat.le_of_ble_eq_true rfl) (Nat.le_of_ble_eq_true rfl) dX3_makeRoom_35 (fun q_4 cA H hK2 hp hd hs => ?_)
  obtain rfl : cA = ty 0 := kz_cA (t0 := 0) (t1 := 6) hK2 rfl rfl rfl
  refine kz_re (w2 := [(x_paper, .inr (3, [.ref x_paper_ranks, .ref x_paper_digits, .ref x_paper_barred, .ref x_paper_pays, .ref x_paper_measuredBarred, .ref x_paper_buckets, .ref x_paper_orders, .ref x_paper_turnedOrders, .ref x_paper_turnedHeads, .ref q_1, .ref q_2, .ref q_3, .ref x_paper_links, .int 0, .int 1, .int 0, .int 0, .int (-1), .int (-1), .int 0])), (x_paper_digits, .inl (ty 0, 6, .inl (fun _ => 0))), (q_1, .inl (ty 0, 1, .inl (fun _ => 0))), (q_2, .inl (ty 0, 1, .inl (fun _ => 0))), (q_3, .inl (ty 0, 1, .inl (fun _ => 0))), (q_4, .inl (ty 0, 1, .inl (fun _ => 0)))]) hp hd hs rfl ?_
  clear hp hd hs hP hD hS
  intro hP hD hS
  refine va_put (D := D) (ci := 3) (v := .ref q_4) (ty := .array .int) (C := RX3) (T := TX3) (N := 20) hx hb hts (by decide +kernel) tyX3 tyX3_ok nmX3 hown hK hP hD hS 0 rfl rfl 12 (by decide) (hts (.fieldLink RX3 48 "TurnedFloors$Paper" "links" "[I") (by decide +kernel)) (fun _ h9 => h9) rfl (by decide +kernel) rfl rfl (Nat.le_of_ble_eq_true rfl) dX3_makeRoom_37 (fun H locs hp hd hs => ?_)
  refine kz_re (w2 := [(x_paper, .inr (3, [.ref x_paper_ranks, .ref x_paper_digits, .ref x_paper_barred, .ref x_paper_pays, .ref x_paper_measuredBarred, .ref x_paper_buckets, .ref x_paper_orders, .ref x_paper_turnedOrders, .ref x_paper_turnedHeads, .ref q_1, .ref q_2, .ref q_3, .ref q_4, .int 0, .int 1, .int 0, .int 0, .int (-1), .int (-1), .int 0])), (x_paper_digits, .inl (ty 0, 6, .inl (fun _ => 0))), (q_1, .inl (ty 0, 1, .inl (fun _ => 0))), (q_2, .inl (ty 0, 1, .inl (fun _ => 0))), (q_3, .inl (ty 0, 1, .inl (fun _ => 0))), (q_4, .inl (ty 0, 1, .inl (fun _ => 0)))]) hp hd hs rfl ?_
  clear hp hd hs hP hD hS
  intro hP hD hS
  refine lv_aload_n hx hb dX3_makeRoom_40 rfl (lv_at hl 0 rfl) ?_
  refine va_gets hx hb hE.1 hS hown (hts (.fieldLink RX3 76 "TurnedFloors$Paper" "FACTORIALS" "[I") (by decide +kernel)) (fun _ h9 => h9) dX3_makeRoom_41 ?_
  refine lv_aload_n hx hb dX3_makeRoom_44 rfl (lv_at hl 0 rfl) ?_
  refine va_get (D := D) (ci := 3) (v := .int 0) (C := RX3) (T := TX3) (N := 20) hx hb hts (by decide +kernel) hown hK hP 0 rfl rfl 13 (by decide) (hts (.fieldLink RX3 51 "TurnedFloors$Paper" "floors" "I") (by decide +kernel)) (fun _ h9 => h9) rfl dX3_makeRoom_45 ?_
  refine va_ti (v := .int 1) hx hb hE.2.1 hS (by simp only [vp_in]; decide) rfl dX3_makeRoom_48 ?_
  refine va_newa (atype := .int) (ty := .int) (N' := 1) (a0 := (1, .inl (fun _ => 0))) hx hb (hts (.arrayClass .int) (by decide +kernel)) rfl hK hP hD hS hA (fun _ => rfl) (by decide) (by decide) (by decide) (Nat.le_of_ble_eq_true rfl) (Nat.le_of_ble_eq_true rfl) dX3_makeRoom_49 (fun q_5 cA H hK2 hp hd hs => ?_)
  obtain rfl : cA = ty 0 := kz_cA (t0 := 0) (t1 := 6) hK2 rfl rfl rfl
  refine kz_re (w2 := [(x_paper, .inr (3, [.ref x_paper_ranks, .ref x_paper_digits, .ref x_paper_barred, .ref x_paper_pays, .ref x_paper_measuredBarred, .ref x_paper_buckets, .ref x_paper_orders, .ref x_paper_turnedOrders, .ref x_paper_turnedHeads, .ref q_1, .ref q_2, .ref q_3, .ref q_4, .int 0, .int 1, .int 0, .int 0, .int (-1), .int (-1), .int 0])), (x_paper_digits, .inl (ty 0, 6, .inl (fun _ => 0))), (q_1, .inl (ty 0, 1, .inl (fun _ => 0))), (q_2, .inl (ty 0, 1, .inl (fun _ => 0))), (q_3, .inl (ty 0, 1, .inl (fun _ => 0))), (q_4, .inl (ty 0, 1, .inl (fun _ => 0))), (q_5, .inl (ty 0, 1, .inl (fun _ => 0)))]) hp hd hs rfl ?_
  clear hp hd hs hP hD hS
  intro hP hD hS
  refine va_put (D := D) (ci := 3) (v := .ref q_5) (ty := .array .int) (C := RX3) (T := TX3) (N := 20) hx hb hts (by decide +kernel) tyX3 tyX3_ok nmX3 hown hK hP hD hS 0 rfl rfl 6 (by decide) (hts (.fieldLink RX3 30 "TurnedFloors$Paper" "orders" "[I") (by decide +kernel)) (fun _ h9 => h9) rfl (by decide +kernel) rfl rfl (Nat.le_of_ble_eq_true rfl) dX3_makeRoom_51 (fun H locs hp hd hs => ?_)
  refine kz_re (w2 := [(x_paper, .inr (3, [.ref x_paper_ranks, .ref x_paper_digits, .ref x_paper_barred, .ref x_paper_pays, .ref x_paper_measuredBarred, .ref x_paper_buckets, .ref q_5, .ref x_paper_turnedOrders, .ref x_paper_turnedHeads, .ref q_1, .ref q_2, .ref q_3, .ref q_4, .int 0, .int 1, .int 0, .int 0, .int (-1), .int (-1), .int 0])), (x_paper_digits, .inl (ty 0, 6, .inl (fun _ => 0))), (q_1, .inl (ty 0, 1, .inl (fun _ => 0))), (q_2, .inl (ty 0, 1, .inl (fun _ => 0))), (q_3, .inl (ty 0, 1, .inl (fun _ => 0))), (q_4, .inl (ty 0, 1, .inl (fun _ => 0))), (q_5, .inl (ty 0, 1, .inl (fun _ => 0)))]) hp hd hs rfl ?_
  clear hp hd hs hP hD hS
  intro hP hD hS
  refine lv_aload_n hx hb dX3_makeRoom_54 rfl (lv_at hl 0 rfl) ?_
  refine va_gets hx hb hE.1 hS hown (hts (.fieldLink RX3 76 "TurnedFloors$Paper" "FACTORIALS" "[I") (by decide +kernel)) (fun _ h9 => h9) dX3_makeRoom_55 ?_
  refine lv_aload_n hx hb dX3_makeRoom_58 rfl (lv_at hl 0 rfl) ?_
  refine va_get (D := D) (ci := 3) (v := .int 0) (C := RX3) (T := TX3) (N := 20) hx hb hts (by decide +kernel) hown hK hP 0 rfl rfl 13 (by decide) (hts (.fieldLink RX3 51 "TurnedFloors$Paper" "floors" "I") (by decide +kernel)) (fun _ h9 => h9) rfl dX3_makeRoom_59 ?_
  refine va_ti (v := .int 1) hx hb hE.2.1 hS (by simp only [vp_in]; decide) rfl dX3_makeRoom_62 ?_
  refine lv_bipush (v := 6) hx hb dX3_makeRoom_63 (by decide) ?_
  refine lv_imul hx hb dX3_makeRoom_65 ?_
  refine kz_topi 6 (by first | rfl | decide +kernel) ?_
  refine va_newa (atype := .int) (ty := .int) (N' := 6) (a0 := (6, .inl (fun _ => 0))) hx hb (hts (.arrayClass .int) (by decide +kernel)) rfl hK hP hD hS hA (fun _ => rfl) (by decide) (by decide) (by decide) (Nat.le_of_ble_eq_true rfl) (Nat.le_of_ble_eq_true rfl) dX3_makeRoom_66 (fun q_6 cA H hK2 hp hd hs => ?_)
  obtain rfl : cA = ty 0 := kz_cA (t0 := 0) (t1 := 6) hK2 rfl rfl rfl
  refine kz_re (w2 := [(x_paper, .inr (3, [.ref x_paper_ranks, .ref x_paper_digits, .ref x_paper_barred, .ref x_paper_pays, .ref x_paper_measuredBarred, .ref x_paper_buckets, .ref q_5, .ref x_paper_turnedOrders, .ref x_paper_turnedHeads, .ref q_1, .ref q_2, .ref q_3, .ref q_4, .int 0, .int 1, .int 0, .int 0, .int (-1), .int (-1), .int 0])), (x_paper_digits, .inl (ty 0, 6, .inl (fun _ => 0))), (q_1, .inl (ty 0, 1, .inl (fun _ => 0))), (q_2, .inl (ty 0, 1, .inl (fun _ => 0))), (q_3, .inl (ty 0, 1, .inl (fun _ => 0))), (q_4, .inl (ty 0, 1, .inl (fun _ => 0))), (q_5, .inl (ty 0, 1, .inl (fun _ => 0))), (q_6, .inl (ty 0, 6, .inl (fun _ => 0)))]) hp hd hs rfl ?_
  clear hp hd hs hP hD hS
  intro hP hD hS
  refine va_put (D := D) (ci := 3) (v := .ref q_6) (ty := .array .int) (C := RX3) (T := TX3) (N := 20) hx hb hts (by decide +kernel) tyX3 tyX3_ok nmX3 hown hK hP hD hS 0 rfl rfl 7 (by decide) (hts (.fieldLink RX3 33 "TurnedFloors$Paper" "turnedOrders" "[I") (by decide +kernel)) (fun _ h9 => h9) rfl (by decide +kernel) rfl rfl (Nat.le_of_ble_eq_true rfl) dX3_makeRoom_68 (fun H locs hp hd hs => ?_)
  refine kz_re (w2 := [(x_paper, .inr (3, [.ref x_paper_ranks, .ref x_paper_digits, .ref x_paper_barred, .ref x_paper_pays, .ref x_paper_measuredBarred, .ref x_paper_buckets, .ref q_5, .ref q_6, .ref x_paper_turnedHeads, .ref q_1, .ref q_2, .ref q_3, .ref q_4, .int 0, .int 1, .int 0, .int 0, .int (-1), .int (-1), .int 0])), (x_paper_digits, .inl (ty 0, 6, .inl (fun _ => 0))), (q_1, .inl (ty 0, 1, .inl (fun _ => 0))), (q_2, .inl (ty 0, 1, .inl (fun _ => 0))), (q_3, .inl (ty 0, 1, .inl (fun _ => 0))), (q_4, .inl (ty 0, 1, .inl (fun _ => 0))), (q_5, .inl (ty 0, 1, .inl (fun _ => 0))), (q_6, .inl (ty 0, 6, .inl (fun _ => 0)))]) hp hd hs rfl ?_
  clear hp hd hs hP hD hS
  intro hP hD hS
  refine lv_aload_n hx hb dX3_makeRoom_71 rfl (lv_at hl 0 rfl) ?_
  refine lv_bipush (v := 6) hx hb dX3_makeRoom_72 (by decide) ?_
  refine lv_aload_n hx hb dX3_makeRoom_74 rfl (lv_at hl 0 rfl) ?_
  refine va_get (D := D) (ci := 3) (v := .int 0) (C := RX3) (T := TX3) (N := 20) hx hb hts (by decide +kernel) hown hK hP 0 rfl rfl 13 (by decide) (hts (.fieldLink RX3 51 "TurnedFloors$Paper" "floors" "I") (by decide +kernel)) (fun _ h9 => h9) rfl dX3_makeRoom_75 ?_
  refine lv_ishl hx hb dX3_makeRoom_78 ?_
  refine kz_topi 6 (by first | rfl | decide +kernel) ?_
  refine va_newa (atype := .int) (ty := .int) (N' := 6) (a0 := (6, .inl (fun _ => 0))) hx hb (hts (.arrayClass .int) (by decide +kernel)) rfl hK hP hD hS hA (fun _ => rfl) (by decide) (by decide) (by decide) (Nat.le_of_ble_eq_true rfl) (Nat.le_of_ble_eq_true rfl) dX3_makeRoom_79 (fun q_7 cA H hK2 hp hd hs => ?_)
  obtain rfl : cA = ty 0 := kz_cA (t0 := 0) (t1 := 6) hK2 rfl rfl rfl
  refine kz_re (w2 := [(x_paper, .inr (3, [.ref x_paper_ranks, .ref x_paper_digits, .ref x_paper_barred, .ref x_paper_pays, .ref x_paper_measuredBarred, .ref x_paper_buckets, .ref q_5, .ref q_6, .ref x_paper_turnedHeads, .ref q_1, .ref q_2, .ref q_3, .ref q_4, .int 0, .int 1, .int 0, .int 0, .int (-1), .int (-1), .int 0])), (x_paper_digits, .inl (ty 0, 6, .inl (fun _ => 0))), (q_1, .inl (ty 0, 1, .inl (fun _ => 0))), (q_2, .inl (ty 0, 1, .inl (fun _ => 0))), (q_3, .inl (ty 0, 1, .inl (fun _ => 0))), (q_4, .inl (ty 0, 1, .inl (fun _ => 0))), (q_5, .inl (ty 0, 1, .inl (fun _ => 0))), (q_6, .inl (ty 0, 6, .inl (fun _ => 0))), (q_7, .inl (ty 0, 6, .inl (fun _ => 0)))]) hp hd hs rfl ?_
  clear hp hd hs hP hD hS
  intro hP hD hS
  refine va_put (D := D) (ci := 3) (v := .ref q_7) (ty := .array .int) (C := RX3) (T := TX3) (N := 20) hx hb hts (by decide +kernel) tyX3 tyX3_ok nmX3 hown hK hP hD hS 0 rfl rfl 8 (by decide) (hts (.fieldLink RX3 36 "TurnedFloors$Paper" "turnedHeads" "[I") (by decide +kernel)) (fun _ h9 => h9) rfl (by decide +kernel) rfl rfl (Nat.le_of_ble_eq_true rfl) dX3_makeRoom_81 (fun H locs hp hd hs => ?_)
  refine kz_re (w2 := [(x_paper, .inr (3, [.ref x_paper_ranks, .ref x_paper_digits, .ref x_paper_barred, .ref x_paper_pays, .ref x_paper_measuredBarred, .ref x_paper_buckets, .ref q_5, .ref q_6, .ref q_7, .ref q_1, .ref q_2, .ref q_3, .ref q_4, .int 0, .int 1, .int 0, .int 0, .int (-1), .int (-1), .int 0])), (x_paper_digits, .inl (ty 0, 6, .inl (fun _ => 0))), (q_1, .inl (ty 0, 1, .inl (fun _ => 0))), (q_2, .inl (ty 0, 1, .inl (fun _ => 0))), (q_3, .inl (ty 0, 1, .inl (fun _ => 0))), (q_4, .inl (ty 0, 1, .inl (fun _ => 0))), (q_5, .inl (ty 0, 1, .inl (fun _ => 0))), (q_6, .inl (ty 0, 6, .inl (fun _ => 0))), (q_7, .inl (ty 0, 6, .inl (fun _ => 0)))]) hp hd hs rfl ?_
  clear hp hd hs hP hD hS
  intro hP hD hS
  refine lv_aload_n hx hb dX3_makeRoom_84 rfl (lv_at hl 0 rfl) ?_
  refine lv_iconst (v := (-1)) hx hb dX3_makeRoom_85 (by decide) ?_
  refine va_put (D := D) (ci := 3) (v := .int (-1)) (ty := .int) (C := RX3) (T := TX3) (N := 20) hx hb hts (by decide +kernel) tyX3 tyX3_ok nmX3 hown hK hP hD hS 0 rfl rfl 17 (by decide) (hts (.fieldLink RX3 64 "TurnedFloors$Paper" "measuredFloors" "I") (by decide +kernel)) (fun _ h9 => h9) rfl (by decide +kernel) rfl rfl (Nat.le_of_ble_eq_true rfl) dX3_makeRoom_86 (fun H locs hp hd hs => ?_)
  refine kz_re (w2 := [(x_paper, .inr (3, [.ref x_paper_ranks, .ref x_paper_digits, .ref x_paper_barred, .ref x_paper_pays, .ref x_paper_measuredBarred, .ref x_paper_buckets, .ref q_5, .ref q_6, .ref q_7, .ref q_1, .ref q_2, .ref q_3, .ref q_4, .int 0, .int 1, .int 0, .int 0, .int (-1), .int (-1), .int 0])), (x_paper_digits, .inl (ty 0, 6, .inl (fun _ => 0))), (q_1, .inl (ty 0, 1, .inl (fun _ => 0))), (q_2, .inl (ty 0, 1, .inl (fun _ => 0))), (q_3, .inl (ty 0, 1, .inl (fun _ => 0))), (q_4, .inl (ty 0, 1, .inl (fun _ => 0))), (q_5, .inl (ty 0, 1, .inl (fun _ => 0))), (q_6, .inl (ty 0, 6, .inl (fun _ => 0))), (q_7, .inl (ty 0, 6, .inl (fun _ => 0)))]) hp hd hs rfl ?_
  clear hp hd hs hP hD hS
  intro hP hD hS
  refine lv_iconst (v := 0) hx hb dX3_makeRoom_89 (by decide) ?_
  refine lv_istore_n (lv' := [(1, .int 0), (0, .ref x_paper)]) hx hb dX3_makeRoom_90 rfl hl (by decide) rfl (fun ls hl => ?_)
  refine lv_iload_n hx hb dX3_makeRoom_91 rfl (lv_at hl 0 rfl) ?_
  refine lv_aload_n hx hb dX3_makeRoom_92 rfl (lv_at hl 1 rfl) ?_
  refine va_get (D := D) (ci := 3) (v := .ref q_5) (C := RX3) (T := TX3) (N := 20) hx hb hts (by decide +kernel) hown hK hP 0 rfl rfl 6 (by decide) (hts (.fieldLink RX3 30 "TurnedFloors$Paper" "orders" "[I") (by decide +kernel)) (fun _ h9 => h9) rfl dX3_makeRoom_93 ?_
  refine va_alen (v := 1) hx hb hK hP 6 0 rfl rfl (by decide +kernel) dX3_makeRoom_96 ?_
  refine lv_icmp_ge (tgt := 111) hx hb dX3_makeRoom_97 (by decide) (fun h => absurd h (by decide)) (fun _ => ?_)
  refine lv_aload_n hx hb dX3_makeRoom_100 rfl (lv_at hl 1 rfl) ?_
  refine lv_iload_n hx hb dX3_makeRoom_101 rfl (lv_at hl 0 rfl) ?_
  refine kz_kv (wc := [(x_paper, .inr (3, [.ref x_paper_ranks, .ref x_paper_digits, .ref x_paper_barred, .ref x_paper_pays, .ref x_paper_measuredBarred, .ref x_paper_buckets, .ref q_5, .ref q_6, .ref q_7, .ref q_1, .ref q_2, .ref q_3, .ref q_4, .int 0, .int 1, .int 0, .int 0, .int (-1), .int (-1), .int 0])), (x_paper_digits, .inl (ty 0, 6, .inl (fun _ => 0))), (q_5, .inl (ty 0, 1, .inl (fun _ => 0)))]) (wr := [(q_1, .inl (ty 0, 1, .inl (fun _ => 0))), (q_2, .inl (ty 0, 1, .inl (fun _ => 0))), (q_3, .inl (ty 0, 1, .inl (fun _ => 0))), (q_4, .inl (ty 0, 1, .inl (fun _ => 0))), (q_6, .inl (ty 0, 6, .inl (fun _ => 0))), (q_7, .inl (ty 0, 6, .inl (fun _ => 0)))]) (va_runV (As := [.int 0]) (rest := []) ⟨hx, hb, hml, hown, hts⟩ (kX3_listOrder_77 l D ty eo _ x_paper x_paper_ranks x_paper_digits x_paper_barred x_paper_pays x_paper_measuredBarred x_paper_buckets q_5 q_6 q_7 q_1 q_2 q_3 q_4) (cwV 1 hts gX3_makeRoom_X3_listOrder rfl rfl rfl (by decide +kernel) ⟨Nat.le_of_ble_eq_true rfl, Nat.le_of_ble_eq_true rfl⟩) (kz_preV (ci := 3) (q0 := 0) hK hN hE hP hD hS hA rfl rfl [0, 1, 6] (by decide) rfl) rfl rfl hl.1 rfl (lv_room (Nat.le_of_ble_eq_true rfl)) dX3_makeRoom_102 ⟨Nat.le_of_ble_eq_true rfl, Nat.le_of_ble_eq_true rfl⟩) hP hD hS hA [0, 1, 6] [2, 3, 4, 5, 7, 8] rfl rfl (by decide) (by decide) (fun u H locs hw hp hd hs => ?_)
  obtain rfl := hw
  refine kz_re (w2 := [(q_1, .inl (ty 0, 1, .inl (fun _ => 0))), (q_2, .inl (ty 0, 1, .inl (fun _ => 0))), (q_3, .inl (ty 0, 1, .inl (fun _ => 0))), (q_4, .inl (ty 0, 1, .inl (fun _ => 0))), (q_6, .inl (ty 0, 6, .inl (fun _ => 0))), (q_7, .inl (ty 0, 6, .inl (fun _ => 0))), (q_5, .inl (ty 0, 1, .inl (upd (upd (upd (upd (upd (upd (fun _ => 0) 0 0) 0 8) 0 136) 0 1672) 0 18056) 0 181896))), (x_paper, .inr (3, [.ref x_paper_ranks, .ref x_paper_digits, .ref x_paper_barred, .ref x_paper_pays, .ref x_paper_measuredBarred, .ref x_paper_buckets, .ref q_5, .ref q_6, .ref q_7, .ref q_1, .ref q_2, .ref q_3, .ref q_4, .int 0, .int 1, .int 0, .int 0, .int (-1), .int (-1), .int 0])), (x_paper_digits, .inl (ty 0, 6, .inl (upd (upd (upd (upd (upd (upd (upd (upd (upd (upd (upd (upd (upd (upd (upd (upd (upd (upd (upd (upd (upd (fun _ => 0) 0 0) 0 0) 1 1) 0 0) 1 1) 2 2) 0 0) 1 1) 2 2) 3 3) 0 0) 1 1) 2 2) 3 3) 4 4) 0 0) 1 1) 2 2) 3 3) 4 4) 5 5)))]) hp hd hs rfl ?_
  clear hp hd hs hP hD hS
  intro hP hD hS
  refine lv_iinc (v := 1) (lv' := [(1, .int 1), (0, .ref x_paper)]) hx hb dX3_makeRoom_105 hl (k := 0) rfl (by decide) (by decide) rfl (fun ls hl => ?_)
  refine lv_goto (tgt := 91) hx hb dX3_makeRoom_108 (by decide) ?_
  refine lv_iload_n hx hb dX3_makeRoom_91 rfl (lv_at hl 0 rfl) ?_
  refine lv_aload_n hx hb dX3_makeRoom_92 rfl (lv_at hl 1 rfl) ?_
  refine va_get (D := D) (ci := 3) (v := .ref q_5) (C := RX3) (T := TX3) (N := 20) hx hb hts (by decide +kernel) hown hK hP 7 rfl rfl 6 (by decide) (hts (.fieldLink RX3 30 "TurnedFloors$Paper" "orders" "[I") (by decide +kernel)) (fun _ h9 => h9) rfl dX3_makeRoom_93 ?_
  refine va_alen (v := 1) hx hb hK hP 6 0 rfl rfl (by decide +kernel) dX3_makeRoom_96 ?_
  refine lv_icmp_ge (tgt := 111) hx hb dX3_makeRoom_97 (by decide) (fun _ => ?_) (fun h => absurd (by decide) h)
  refine lv_iconst (v := 0) hx hb dX3_makeRoom_111 (by decide) ?_
  refine lv_istore_n (lv' := [(1, .int 0), (0, .ref x_paper)]) hx hb dX3_makeRoom_112 rfl hl (by decide) rfl (fun ls hl => ?_)
  refine lv_iload_n hx hb dX3_makeRoom_113 rfl (lv_at hl 0 rfl) ?_
  refine lv_iconst (v := 1) hx hb dX3_makeRoom_114 (by decide) ?_
  refine lv_aload_n hx hb dX3_makeRoom_115 rfl (lv_at hl 1 rfl) ?_
  refine va_get (D := D) (ci := 3) (v := .int 0) (C := RX3) (T := TX3) (N := 20) hx hb hts (by decide +kernel) hown hK hP 7 rfl rfl 13 (by decide) (hts (.fieldLink RX3 51 "TurnedFloors$Paper" "floors" "I") (by decide +kernel)) (fun _ h9 => h9) rfl dX3_makeRoom_116 ?_
  refine lv_ishl hx hb dX3_makeRoom_119 ?_
  refine kz_topi 1 (by first | rfl | decide +kernel) ?_
  refine lv_icmp_ge (tgt := 163) hx hb dX3_makeRoom_120 (by decide) (fun h => absurd h (by decide)) (fun _ => ?_)
  refine lv_iconst (v := 1) hx hb dX3_makeRoom_123 (by decide) ?_
  refine lv_istore_n (lv' := [(2, .int 1), (1, .int 0), (0, .ref x_paper)]) hx hb dX3_makeRoom_124 rfl hl (by decide) rfl (fun ls hl => ?_)
  refine lv_iload_n hx hb dX3_makeRoom_125 rfl (lv_at hl 0 rfl) ?_
  refine lv_aload_n hx hb dX3_makeRoom_126 rfl (lv_at hl 2 rfl) ?_
  refine va_get (D := D) (ci := 3) (v := .int 0) (C := RX3) (T := TX3) (N := 20) hx hb hts (by decide +kernel) hown hK hP 7 rfl rfl 13 (by decide) (hts (.fieldLink RX3 51 "TurnedFloors$Paper" "floors" "I") (by decide +kernel)) (fun _ h9 => h9) rfl dX3_makeRoom_127 ?_
  refine lv_icmp_gt (tgt := 157) hx hb dX3_makeRoom_130 (by decide) (fun _ => ?_) (fun h => absurd (by decide) h)
  refine lv_iinc (v := 1) (lv' := [(1, .int 1), (2, .int 1), (0, .ref x_paper)]) hx hb dX3_makeRoom_157 hl (k := 1) rfl (by decide) (by decide) rfl (fun ls hl => ?_)
  refine lv_goto (tgt := 113) hx hb dX3_makeRoom_160 (by decide) ?_
  refine lv_iload_n hx hb dX3_makeRoom_113 rfl (lv_at hl 0 rfl) ?_
  refine lv_iconst (v := 1) hx hb dX3_makeRoom_114 (by decide) ?_
  refine lv_aload_n hx hb dX3_makeRoom_115 rfl (lv_at hl 2 rfl) ?_
  refine va_get (D := D) (ci := 3) (v := .int 0) (C := RX3) (T := TX3) (N := 20) hx hb hts (by decide +kernel) hown hK hP 7 rfl rfl 13 (by decide) (hts (.fieldLink RX3 51 "TurnedFloors$Paper" "floors" "I") (by decide +kernel)) (fun _ h9 => h9) rfl dX3_makeRoom_116 ?_
  refine lv_ishl hx hb dX3_makeRoom_119 ?_
  refine kz_topi 1 (by first | rfl | decide +kernel) ?_
  refine lv_icmp_ge (tgt := 163) hx hb dX3_makeRoom_120 (by decide) (fun _ => ?_) (fun h => absurd (by decide) h)
  refine W.widen (k := 7) (n := 17) (Nat.le_of_ble_eq_true rfl) (Nat.le_of_ble_eq_true rfl) ?_
  exact kz_vret hx hb hr hlocks hP hK hD hS dX3_makeRoom_163 ⟨q_1, q_2, q_3, q_4, q_5, q_6, q_7, rfl⟩

set_option maxHeartbeats 4000000 in
set_option maxRecDepth 100000 in
theorem kX8_has_79 (l : Launch) (D : va_G) (ty : Nat → ClassId) (eo : Nat → Nat) (sz : Nat) (x_state_tower x_state_tower_rank x_state_tower_head : Nat) : Met l yX8_has wsX8_has ({ frames := 0, cells := 0, slots := 0, locals := 0 }) (va_Pc [.ref x_state_tower, .int 0] (kz_pre D ty eo [(x_state_tower, .inr (8, [.ref x_state_tower_rank, .ref x_state_tower_head, .int 0, .int 0, .int 0]))] sz)) (va_Qi (fun (r : Int32) (u : va_W) => 0 = r ∧ [(x_state_tower, .inr (8, [.ref x_state_tower_rank, .ref x_state_tower_head, .int 0, .int 0, .int 0]))] = u) (kz_B D ty (va_A [(x_state_tower, .inr (8, [.ref x_state_tower_rank, .ref x_state_tower_head, .int 0, .int 0, .int 0]))] sz)) (va_A [(x_state_tower, .inr (8, [.ref x_state_tower_rank, .ref x_state_tower_head, .int 0, .int 0, .int 0]))] sz)) 0 0 (va_A [(x_state_tower, .inr (8, [.ref x_state_tower_rank, .ref x_state_tower_head, .int 0, .int 0, .int 0]))] sz) := by
  refine Met.ofW (cc := cX8_has) (maxL := 3) (ret := (some .boolean)) (by decide) rfl ?_
  intro p e s m args below meth c s₁ B hml hv
  obtain ⟨rfl, hsz, hP, hK, hD0, hN, hE⟩ := hv
  have hx := B.exec
  have hb := B.bytes
  have hr := B.returns
  have hts := atoms_spec (ws := wsX8_has) B.pre
  have hown : s.vm.findClass RX8 = some m.cls := findClass_of_methodNamed B.named
  have hlocks := B.notSynchronized
  subst hsz
  have hD := hD0.self (sz := s.heap.size)
  generalize hAe : va_A [(x_state_tower, .inr (8, [.ref x_state_tower_rank, .ref x_state_tower_head, .int 0, .int 0, .int 0]))] s.heap.size = A at hD hE ⊢
  have hA : ∀ q : Nat, s.heap.size ≤ q → A q := fun q h => by rw [← hAe]; exact Or.inr h
  have hS : va_S A s.heap s.heap [] := va_S.rf
  have hl := lv_entry ([.ref x_state_tower, .int 0]) (n := 3) (Nat.le_of_ble_eq_true rfl)
  rw [lg_entry_eq]
  generalize (lg_sl ([.ref x_state_tower, .int 0]) ++ List.replicate (3 - (lg_sl ([.ref x_state_tower, .int 0])).length) Slot.unset).toArray = ls at hl ⊢
  have hl : lv_has ls 3 [(0, .ref x_state_tower), (1, .int 0)] := hl
  refine lv_iconst (v := 0) hx hb dX8_has_0 (by decide) ?_
  refine lv_istore_n (lv' := [(2, .int 0), (0, .ref x_state_tower), (1, .int 0)]) hx hb dX8_has_1 rfl hl (by decide) rfl (fun ls hl => ?_)
  refine lv_iload_n hx hb dX8_has_2 rfl (lv_at hl 0 rfl) ?_
  refine lv_aload_n hx hb dX8_has_3 rfl (lv_at hl 1 rfl) ?_
  refine va_get (D := D) (ci := 8) (v := .int 0) (C := RX8) (T := TX8) (N := 5) hx hb hts (by decide +kernel) hown hK hP 0 rfl rfl 2 (by decide) (hts (.fieldLink RX8 18 "TurnedFloors$Tower" "floors" "I") (by decide +kernel)) (fun _ h9 => h9) rfl dX8_has_4 ?_
  refine lv_icmp_ge (tgt := 28) hx hb dX8_has_7 (by decide) (fun _ => ?_) (fun h => absurd (by decide) h)
  refine lv_iconst (v := 0) hx hb dX8_has_28 (by decide) ?_
  exact kz_zret hx hb hr hlocks rfl hP hK hD hS dX8_has_29 ⟨rfl, rfl⟩

set_option maxHeartbeats 4000000 in
set_option maxRecDepth 100000 in
theorem kX8_has_80 (l : Launch) (D : va_G) (ty : Nat → ClassId) (eo : Nat → Nat) (sz : Nat) (x_state_tower x_state_tower_rank x_state_tower_head : Nat) : Met l yX8_has wsX8_has ({ frames := 0, cells := 0, slots := 0, locals := 0 }) (va_Pc [.ref x_state_tower, .int 1] (kz_pre D ty eo [(x_state_tower, .inr (8, [.ref x_state_tower_rank, .ref x_state_tower_head, .int 0, .int 0, .int 0]))] sz)) (va_Qi (fun (r : Int32) (u : va_W) => 0 = r ∧ [(x_state_tower, .inr (8, [.ref x_state_tower_rank, .ref x_state_tower_head, .int 0, .int 0, .int 0]))] = u) (kz_B D ty (va_A [(x_state_tower, .inr (8, [.ref x_state_tower_rank, .ref x_state_tower_head, .int 0, .int 0, .int 0]))] sz)) (va_A [(x_state_tower, .inr (8, [.ref x_state_tower_rank, .ref x_state_tower_head, .int 0, .int 0, .int 0]))] sz)) 0 0 (va_A [(x_state_tower, .inr (8, [.ref x_state_tower_rank, .ref x_state_tower_head, .int 0, .int 0, .int 0]))] sz) := by
  refine Met.ofW (cc := cX8_has) (maxL := 3) (ret := (some .boolean)) (by decide) rfl ?_
  intro p e s m args below meth c s₁ B hml hv
  obtain ⟨rfl, hsz, hP, hK, hD0, hN, hE⟩ := hv
  have hx := B.exec
  have hb := B.bytes
  have hr := B.returns
  have hts := atoms_spec (ws := wsX8_has) B.pre
  have hown : s.vm.findClass RX8 = some m.cls := findClass_of_methodNamed B.named
  have hlocks := B.notSynchronized
  subst hsz
  have hD := hD0.self (sz := s.heap.size)
  generalize hAe : va_A [(x_state_tower, .inr (8, [.ref x_state_tower_rank, .ref x_state_tower_head, .int 0, .int 0, .int 0]))] s.heap.size = A at hD hE ⊢
  have hA : ∀ q : Nat, s.heap.size ≤ q → A q := fun q h => by rw [← hAe]; exact Or.inr h
  have hS : va_S A s.heap s.heap [] := va_S.rf
  have hl := lv_entry ([.ref x_state_tower, .int 1]) (n := 3) (Nat.le_of_ble_eq_true rfl)
  rw [lg_entry_eq]
  generalize (lg_sl ([.ref x_state_tower, .int 1]) ++ List.replicate (3 - (lg_sl ([.ref x_state_tower, .int 1])).length) Slot.unset).toArray = ls at hl ⊢
  have hl : lv_has ls 3 [(0, .ref x_state_tower), (1, .int 1)] := hl
  refine lv_iconst (v := 0) hx hb dX8_has_0 (by decide) ?_
  refine lv_istore_n (lv' := [(2, .int 0), (0, .ref x_state_tower), (1, .int 1)]) hx hb dX8_has_1 rfl hl (by decide) rfl (fun ls hl => ?_)
  refine lv_iload_n hx hb dX8_has_2 rfl (lv_at hl 0 rfl) ?_
  refine lv_aload_n hx hb dX8_has_3 rfl (lv_at hl 1 rfl) ?_
  refine va_get (D := D) (ci := 8) (v := .int 0) (C := RX8) (T := TX8) (N := 5) hx hb hts (by decide +kernel) hown hK hP 0 rfl rfl 2 (by decide) (hts (.fieldLink RX8 18 "TurnedFloors$Tower" "floors" "I") (by decide +kernel)) (fun _ h9 => h9) rfl dX8_has_4 ?_
  refine lv_icmp_ge (tgt := 28) hx hb dX8_has_7 (by decide) (fun _ => ?_) (fun h => absurd (by decide) h)
  refine lv_iconst (v := 0) hx hb dX8_has_28 (by decide) ?_
  exact kz_zret hx hb hr hlocks rfl hP hK hD hS dX8_has_29 ⟨rfl, rfl⟩

set_option maxHeartbeats 4000000 in
set_option maxRecDepth 100000 in
theorem kX8_has_81 (l : Launch) (D : va_G) (ty : Nat → ClassId) (eo : Nat → Nat) (sz : Nat) (x_state_tower x_state_tower_rank x_state_tower_head : Nat) : Met l yX8_has wsX8_has ({ frames := 0, cells := 0, slots := 0, locals := 0 }) (va_Pc [.ref x_state_tower, .int 2] (kz_pre D ty eo [(x_state_tower, .inr (8, [.ref x_state_tower_rank, .ref x_state_tower_head, .int 0, .int 0, .int 0]))] sz)) (va_Qi (fun (r : Int32) (u : va_W) => 0 = r ∧ [(x_state_tower, .inr (8, [.ref x_state_tower_rank, .ref x_state_tower_head, .int 0, .int 0, .int 0]))] = u) (kz_B D ty (va_A [(x_state_tower, .inr (8, [.ref x_state_tower_rank, .ref x_state_tower_head, .int 0, .int 0, .int 0]))] sz)) (va_A [(x_state_tower, .inr (8, [.ref x_state_tower_rank, .ref x_state_tower_head, .int 0, .int 0, .int 0]))] sz)) 0 0 (va_A [(x_state_tower, .inr (8, [.ref x_state_tower_rank, .ref x_state_tower_head, .int 0, .int 0, .int 0]))] sz) := by
  refine Met.ofW (cc := cX8_has) (maxL := 3) (ret := (some .boolean)) (by decide) rfl ?_
  intro p e s m args below meth c s₁ B hml hv
  obtain ⟨rfl, hsz, hP, hK, hD0, hN, hE⟩ := hv
  have hx := B.exec
  have hb := B.bytes
  have hr := B.returns
  have hts := atoms_spec (ws := wsX8_has) B.pre
  have hown : s.vm.findClass RX8 = some m.cls := findClass_of_methodNamed B.named
  have hlocks := B.notSynchronized
  subst hsz
  have hD := hD0.self (sz := s.heap.size)
  generalize hAe : va_A [(x_state_tower, .inr (8, [.ref x_state_tower_rank, .ref x_state_tower_head, .int 0, .int 0, .int 0]))] s.heap.size = A at hD hE ⊢
  have hA : ∀ q : Nat, s.heap.size ≤ q → A q := fun q h => by rw [← hAe]; exact Or.inr h
  have hS : va_S A s.heap s.heap [] := va_S.rf
  have hl := lv_entry ([.ref x_state_tower, .int 2]) (n := 3) (Nat.le_of_ble_eq_true rfl)
  rw [lg_entry_eq]
  generalize (lg_sl ([.ref x_state_tower, .int 2]) ++ List.replicate (3 - (lg_sl ([.ref x_state_tower, .int 2])).length) Slot.unset).toArray = ls at hl ⊢
  have hl : lv_has ls 3 [(0, .ref x_state_tower), (1, .int 2)] := hl
  refine lv_iconst (v := 0) hx hb dX8_has_0 (by decide) ?_
  refine lv_istore_n (lv' := [(2, .int 0), (0, .ref x_state_tower), (1, .int 2)]) hx hb dX8_has_1 rfl hl (by decide) rfl (fun ls hl => ?_)
  refine lv_iload_n hx hb dX8_has_2 rfl (lv_at hl 0 rfl) ?_
  refine lv_aload_n hx hb dX8_has_3 rfl (lv_at hl 1 rfl) ?_
  refine va_get (D := D) (ci := 8) (v := .int 0) (C := RX8) (T := TX8) (N := 5) hx hb hts (by decide +kernel) hown hK hP 0 rfl rfl 2 (by decide) (hts (.fieldLink RX8 18 "TurnedFloors$Tower" "floors" "I") (by decide +kernel)) (fun _ h9 => h9) rfl dX8_has_4 ?_
  refine lv_icmp_ge (tgt := 28) hx hb dX8_has_7 (by decide) (fun _ => ?_) (fun h => absurd (by decide) h)
  refine lv_iconst (v := 0) hx hb dX8_has_28 (by decide) ?_
  exact kz_zret hx hb hr hlocks rfl hP hK hD hS dX8_has_29 ⟨rfl, rfl⟩

set_option maxHeartbeats 4000000 in
set_option maxRecDepth 100000 in
theorem kX8_has_82 (l : Launch) (D : va_G) (ty : Nat → ClassId) (eo : Nat → Nat) (sz : Nat) (x_state_tower x_state_tower_rank x_state_tower_head : Nat) : Met l yX8_has wsX8_has ({ frames := 0, cells := 0, slots := 0, locals := 0 }) (va_Pc [.ref x_state_tower, .int 3] (kz_pre D ty eo [(x_state_tower, .inr (8, [.ref x_state_tower_rank, .ref x_state_tower_head, .int 0, .int 0, .int 0]))] sz)) (va_Qi (fun (r : Int32) (u : va_W) => 0 = r ∧ [(x_state_tower, .inr (8, [.ref x_state_tower_rank, .ref x_state_tower_head, .int 0, .int 0, .int 0]))] = u) (kz_B D ty (va_A [(x_state_tower, .inr (8, [.ref x_state_tower_rank, .ref x_state_tower_head, .int 0, .int 0, .int 0]))] sz)) (va_A [(x_state_tower, .inr (8, [.ref x_state_tower_rank, .ref x_state_tower_head, .int 0, .int 0, .int 0]))] sz)) 0 0 (va_A [(x_state_tower, .inr (8, [.ref x_state_tower_rank, .ref x_state_tower_head, .int 0, .int 0, .int 0]))] sz) := by
  refine Met.ofW (cc := cX8_has) (maxL := 3) (ret := (some .boolean)) (by decide) rfl ?_
  intro p e s m args below meth c s₁ B hml hv
  obtain ⟨rfl, hsz, hP, hK, hD0, hN, hE⟩ := hv
  have hx := B.exec
  have hb := B.bytes
  have hr := B.returns
  have hts := atoms_spec (ws := wsX8_has) B.pre
  have hown : s.vm.findClass RX8 = some m.cls := findClass_of_methodNamed B.named
  have hlocks := B.notSynchronized
  subst hsz
  have hD := hD0.self (sz := s.heap.size)
  generalize hAe : va_A [(x_state_tower, .inr (8, [.ref x_state_tower_rank, .ref x_state_tower_head, .int 0, .int 0, .int 0]))] s.heap.size = A at hD hE ⊢
  have hA : ∀ q : Nat, s.heap.size ≤ q → A q := fun q h => by rw [← hAe]; exact Or.inr h
  have hS : va_S A s.heap s.heap [] := va_S.rf
  have hl := lv_entry ([.ref x_state_tower, .int 3]) (n := 3) (Nat.le_of_ble_eq_true rfl)
  rw [lg_entry_eq]
  generalize (lg_sl ([.ref x_state_tower, .int 3]) ++ List.replicate (3 - (lg_sl ([.ref x_state_tower, .int 3])).length) Slot.unset).toArray = ls at hl ⊢
  have hl : lv_has ls 3 [(0, .ref x_state_tower), (1, .int 3)] := hl
  refine lv_iconst (v := 0) hx hb dX8_has_0 (by decide) ?_
  refine lv_istore_n (lv' := [(2, .int 0), (0, .ref x_state_tower), (1, .int 3)]) hx hb dX8_has_1 rfl hl (by decide) rfl (fun ls hl => ?_)
  refine lv_iload_n hx hb dX8_has_2 rfl (lv_at hl 0 rfl) ?_
  refine lv_aload_n hx hb dX8_has_3 rfl (lv_at hl 1 rfl) ?_
  refine va_get (D := D) (ci := 8) (v := .int 0) (C := RX8) (T := TX8) (N := 5) hx hb hts (by decide +kernel) hown hK hP 0 rfl rfl 2 (by decide) (hts (.fieldLink RX8 18 "TurnedFloors$Tower" "floors" "I") (by decide +kernel)) (fun _ h9 => h9) rfl dX8_has_4 ?_
  refine lv_icmp_ge (tgt := 28) hx hb dX8_has_7 (by decide) (fun _ => ?_) (fun h => absurd (by decide) h)
  refine lv_iconst (v := 0) hx hb dX8_has_28 (by decide) ?_
  exact kz_zret hx hb hr hlocks rfl hP hK hD hS dX8_has_29 ⟨rfl, rfl⟩

set_option maxHeartbeats 4000000 in
set_option maxRecDepth 100000 in
theorem kX8_has_83 (l : Launch) (D : va_G) (ty : Nat → ClassId) (eo : Nat → Nat) (sz : Nat) (x_state_tower x_state_tower_rank x_state_tower_head : Nat) : Met l yX8_has wsX8_has ({ frames := 0, cells := 0, slots := 0, locals := 0 }) (va_Pc [.ref x_state_tower, .int 4] (kz_pre D ty eo [(x_state_tower, .inr (8, [.ref x_state_tower_rank, .ref x_state_tower_head, .int 0, .int 0, .int 0]))] sz)) (va_Qi (fun (r : Int32) (u : va_W) => 0 = r ∧ [(x_state_tower, .inr (8, [.ref x_state_tower_rank, .ref x_state_tower_head, .int 0, .int 0, .int 0]))] = u) (kz_B D ty (va_A [(x_state_tower, .inr (8, [.ref x_state_tower_rank, .ref x_state_tower_head, .int 0, .int 0, .int 0]))] sz)) (va_A [(x_state_tower, .inr (8, [.ref x_state_tower_rank, .ref x_state_tower_head, .int 0, .int 0, .int 0]))] sz)) 0 0 (va_A [(x_state_tower, .inr (8, [.ref x_state_tower_rank, .ref x_state_tower_head, .int 0, .int 0, .int 0]))] sz) := by
  refine Met.ofW (cc := cX8_has) (maxL := 3) (ret := (some .boolean)) (by decide) rfl ?_
  intro p e s m args below meth c s₁ B hml hv
  obtain ⟨rfl, hsz, hP, hK, hD0, hN, hE⟩ := hv
  have hx := B.exec
  have hb := B.bytes
  have hr := B.returns
  have hts := atoms_spec (ws := wsX8_has) B.pre
  have hown : s.vm.findClass RX8 = some m.cls := findClass_of_methodNamed B.named
  have hlocks := B.notSynchronized
  subst hsz
  have hD := hD0.self (sz := s.heap.size)
  generalize hAe : va_A [(x_state_tower, .inr (8, [.ref x_state_tower_rank, .ref x_state_tower_head, .int 0, .int 0, .int 0]))] s.heap.size = A at hD hE ⊢
  have hA : ∀ q : Nat, s.heap.size ≤ q → A q := fun q h => by rw [← hAe]; exact Or.inr h
  have hS : va_S A s.heap s.heap [] := va_S.rf
  have hl := lv_entry ([.ref x_state_tower, .int 4]) (n := 3) (Nat.le_of_ble_eq_true rfl)
  rw [lg_entry_eq]
  generalize (lg_sl ([.ref x_state_tower, .int 4]) ++ List.replicate (3 - (lg_sl ([.ref x_state_tower, .int 4])).length) Slot.unset).toArray = ls at hl ⊢
  have hl : lv_has ls 3 [(0, .ref x_state_tower), (1, .int 4)] := hl
  refine lv_iconst (v := 0) hx hb dX8_has_0 (by decide) ?_
  refine lv_istore_n (lv' := [(2, .int 0), (0, .ref x_state_tower), (1, .int 4)]) hx hb dX8_has_1 rfl hl (by decide) rfl (fun ls hl => ?_)
  refine lv_iload_n hx hb dX8_has_2 rfl (lv_at hl 0 rfl) ?_
  refine lv_aload_n hx hb dX8_has_3 rfl (lv_at hl 1 rfl) ?_
  refine va_get (D := D) (ci := 8) (v := .int 0) (C := RX8) (T := TX8) (N := 5) hx hb hts (by decide +kernel) hown hK hP 0 rfl rfl 2 (by decide) (hts (.fieldLink RX8 18 "TurnedFloors$Tower" "floors" "I") (by decide +kernel)) (fun _ h9 => h9) rfl dX8_has_4 ?_
  refine lv_icmp_ge (tgt := 28) hx hb dX8_has_7 (by decide) (fun _ => ?_) (fun h => absurd (by decide) h)
  refine lv_iconst (v := 0) hx hb dX8_has_28 (by decide) ?_
  exact kz_zret hx hb hr hlocks rfl hP hK hD hS dX8_has_29 ⟨rfl, rfl⟩

set_option maxHeartbeats 4000000 in
set_option maxRecDepth 100000 in
theorem kX8_has_84 (l : Launch) (D : va_G) (ty : Nat → ClassId) (eo : Nat → Nat) (sz : Nat) (x_state_tower x_state_tower_rank x_state_tower_head : Nat) : Met l yX8_has wsX8_has ({ frames := 0, cells := 0, slots := 0, locals := 0 }) (va_Pc [.ref x_state_tower, .int 5] (kz_pre D ty eo [(x_state_tower, .inr (8, [.ref x_state_tower_rank, .ref x_state_tower_head, .int 0, .int 0, .int 0]))] sz)) (va_Qi (fun (r : Int32) (u : va_W) => 0 = r ∧ [(x_state_tower, .inr (8, [.ref x_state_tower_rank, .ref x_state_tower_head, .int 0, .int 0, .int 0]))] = u) (kz_B D ty (va_A [(x_state_tower, .inr (8, [.ref x_state_tower_rank, .ref x_state_tower_head, .int 0, .int 0, .int 0]))] sz)) (va_A [(x_state_tower, .inr (8, [.ref x_state_tower_rank, .ref x_state_tower_head, .int 0, .int 0, .int 0]))] sz)) 0 0 (va_A [(x_state_tower, .inr (8, [.ref x_state_tower_rank, .ref x_state_tower_head, .int 0, .int 0, .int 0]))] sz) := by
  refine Met.ofW (cc := cX8_has) (maxL := 3) (ret := (some .boolean)) (by decide) rfl ?_
  intro p e s m args below meth c s₁ B hml hv
  obtain ⟨rfl, hsz, hP, hK, hD0, hN, hE⟩ := hv
  have hx := B.exec
  have hb := B.bytes
  have hr := B.returns
  have hts := atoms_spec (ws := wsX8_has) B.pre
  have hown : s.vm.findClass RX8 = some m.cls := findClass_of_methodNamed B.named
  have hlocks := B.notSynchronized
  subst hsz
  have hD := hD0.self (sz := s.heap.size)
  generalize hAe : va_A [(x_state_tower, .inr (8, [.ref x_state_tower_rank, .ref x_state_tower_head, .int 0, .int 0, .int 0]))] s.heap.size = A at hD hE ⊢
  have hA : ∀ q : Nat, s.heap.size ≤ q → A q := fun q h => by rw [← hAe]; exact Or.inr h
  have hS : va_S A s.heap s.heap [] := va_S.rf
  have hl := lv_entry ([.ref x_state_tower, .int 5]) (n := 3) (Nat.le_of_ble_eq_true rfl)
  rw [lg_entry_eq]
  generalize (lg_sl ([.ref x_state_tower, .int 5]) ++ List.replicate (3 - (lg_sl ([.ref x_state_tower, .int 5])).length) Slot.unset).toArray = ls at hl ⊢
  have hl : lv_has ls 3 [(0, .ref x_state_tower), (1, .int 5)] := hl
  refine lv_iconst (v := 0) hx hb dX8_has_0 (by decide) ?_
  refine lv_istore_n (lv' := [(2, .int 0), (0, .ref x_state_tower), (1, .int 5)]) hx hb dX8_has_1 rfl hl (by decide) rfl (fun ls hl => ?_)
  refine lv_iload_n hx hb dX8_has_2 rfl (lv_at hl 0 rfl) ?_
  refine lv_aload_n hx hb dX8_has_3 rfl (lv_at hl 1 rfl) ?_
  refine va_get (D := D) (ci := 8) (v := .int 0) (C := RX8) (T := TX8) (N := 5) hx hb hts (by decide +kernel) hown hK hP 0 rfl rfl 2 (by decide) (hts (.fieldLink RX8 18 "TurnedFloors$Tower" "floors" "I") (by decide +kernel)) (fun _ h9 => h9) rfl dX8_has_4 ?_
  refine lv_icmp_ge (tgt := 28) hx hb dX8_has_7 (by decide) (fun _ => ?_) (fun h => absurd (by decide) h)
  refine lv_iconst (v := 0) hx hb dX8_has_28 (by decide) ?_
  exact kz_zret hx hb hr hlocks rfl hP hK hD hS dX8_has_29 ⟨rfl, rfl⟩

set_option maxHeartbeats 4000000 in
set_option maxRecDepth 100000 in
theorem kX3_numberOfOrder_85 (l : Launch) (D : va_G) (ty : Nat → ClassId) (eo : Nat → Nat) (sz : Nat) (x_paper x_paper_ranks x_paper_digits x_paper_barred x_paper_pays x_paper_measuredBarred x_paper_buckets q_5 q_6 q_7 q_1 q_2 q_3 q_4 : Nat) : Met l yX3_numberOfOrder wsX3_numberOfOrder ({ frames := 1, cells := 0, slots := 0, locals := 20 }) (va_Pc [.ref x_paper] (kz_pre D ty eo [(x_paper, .inr (3, [.ref x_paper_ranks, .ref x_paper_digits, .ref x_paper_barred, .ref x_paper_pays, .ref x_paper_measuredBarred, .ref x_paper_buckets, .ref q_5, .ref q_6, .ref q_7, .ref q_1, .ref q_2, .ref q_3, .ref q_4, .int 0, .int 1, .int 0, .int 0, .int (-1), .int (-1), .int 0])), (x_paper_digits, .inl (ty 0, 6, .inl (upd (upd (upd (upd (upd (upd (upd (upd (upd (upd (upd (upd (upd (upd (upd (upd (upd (upd (upd (upd (upd (upd (upd (upd (upd (upd (upd (fun _ => 0) 0 0) 0 0) 1 1) 0 0) 1 1) 2 2) 0 0) 1 1) 2 2) 3 3) 0 0) 1 1) 2 2) 3 3) 4 4) 0 0) 1 1) 2 2) 3 3) 4 4) 5 5) 0 0) 1 1) 2 2) 3 3) 4 4) 5 5)))] sz)) (va_Qi (fun (r : Int32) (u : va_W) => 0 = r ∧ [(x_paper, .inr (3, [.ref x_paper_ranks, .ref x_paper_digits, .ref x_paper_barred, .ref x_paper_pays, .ref x_paper_measuredBarred, .ref x_paper_buckets, .ref q_5, .ref q_6, .ref q_7, .ref q_1, .ref q_2, .ref q_3, .ref q_4, .int 0, .int 1, .int 0, .int 0, .int (-1), .int (-1), .int 0])), (x_paper_digits, .inl (ty 0, 6, .inl (upd (upd (upd (upd (upd (upd (upd (upd (upd (upd (upd (upd (upd (upd (upd (upd (upd (upd (upd (upd (upd (upd (upd (upd (upd (upd (upd (fun _ => 0) 0 0) 0 0) 1 1) 0 0) 1 1) 2 2) 0 0) 1 1) 2 2) 3 3) 0 0) 1 1) 2 2) 3 3) 4 4) 0 0) 1 1) 2 2) 3 3) 4 4) 5 5) 0 0) 1 1) 2 2) 3 3) 4 4) 5 5)))] = u) (kz_B D ty (va_A [(x_paper, .inr (3, [.ref x_paper_ranks, .ref x_paper_digits, .ref x_paper_barred, .ref x_paper_pays, .ref x_paper_measuredBarred, .ref x_paper_buckets, .ref q_5, .ref q_6, .ref q_7, .ref q_1, .ref q_2, .ref q_3, .ref q_4, .int 0, .int 1, .int 0, .int 0, .int (-1), .int (-1), .int 0])), (x_paper_digits, .inl (ty 0, 6, .inl (upd (upd (upd (upd (upd (upd (upd (upd (upd (upd (upd (upd (upd (upd (upd (upd (upd (upd (upd (upd (upd (upd (upd (upd (upd (upd (upd (fun _ => 0) 0 0) 0 0) 1 1) 0 0) 1 1) 2 2) 0 0) 1 1) 2 2) 3 3) 0 0) 1 1) 2 2) 3 3) 4 4) 0 0) 1 1) 2 2) 3 3) 4 4) 5 5) 0 0) 1 1) 2 2) 3 3) 4 4) 5 5)))] sz)) (va_A [(x_paper, .inr (3, [.ref x_paper_ranks, .ref x_paper_digits, .ref x_paper_barred, .ref x_paper_pays, .ref x_paper_measuredBarred, .ref x_paper_buckets, .ref q_5, .ref q_6, .ref q_7, .ref q_1, .ref q_2, .ref q_3, .ref q_4, .int 0, .int 1, .int 0, .int 0, .int (-1), .int (-1), .int 0])), (x_paper_digits, .inl (ty 0, 6, .inl (upd (upd (upd (upd (upd (upd (upd (upd (upd (upd (upd (upd (upd (upd (upd (upd (upd (upd (upd (upd (upd (upd (upd (upd (upd (upd (upd (fun _ => 0) 0 0) 0 0) 1 1) 0 0) 1 1) 2 2) 0 0) 1 1) 2 2) 3 3) 0 0) 1 1) 2 2) 3 3) 4 4) 0 0) 1 1) 2 2) 3 3) 4 4) 5 5) 0 0) 1 1) 2 2) 3 3) 4 4) 5 5)))] sz)) 0 0 (va_A [(x_paper, .inr (3, [.ref x_paper_ranks, .ref x_paper_digits, .ref x_paper_barred, .ref x_paper_pays, .ref x_paper_measuredBarred, .ref x_paper_buckets, .ref q_5, .ref q_6, .ref q_7, .ref q_1, .ref q_2, .ref q_3, .ref q_4, .int 0, .int 1, .int 0, .int 0, .int (-1), .int (-1), .int 0])), (x_paper_digits, .inl (ty 0, 6, .inl (upd (upd (upd (upd (upd (upd (upd (upd (upd (upd (upd (upd (upd (upd (upd (upd (upd (upd (upd (upd (upd (upd (upd (upd (upd (upd (upd (fun _ => 0) 0 0) 0 0) 1 1) 0 0) 1 1) 2 2) 0 0) 1 1) 2 2) 3 3) 0 0) 1 1) 2 2) 3 3) 4 4) 0 0) 1 1) 2 2) 3 3) 4 4) 5 5) 0 0) 1 1) 2 2) 3 3) 4 4) 5 5)))] sz) := by
  refine Met.ofW (cc := cX3_numberOfOrder) (maxL := 5) (ret := (some .int)) (by decide) rfl ?_
  intro p e s m args below meth c s₁ B hml hv
  obtain ⟨rfl, hsz, hP, hK, hD0, hN, hE⟩ := hv
  have hx := B.exec
  have hb := B.bytes
  have hr := B.returns
  have hts := atoms_spec (ws := wsX3_numberOfOrder) B.pre
  have hown : s.vm.findClass RX3 = some m.cls := findClass_of_methodNamed B.named
  have hlocks := B.notSynchronized
  subst hsz
  have hD := hD0.self (sz := s.heap.size)
  generalize hAe : va_A [(x_paper, .inr (3, [.ref x_paper_ranks, .ref x_paper_digits, .ref x_paper_barred, .ref x_paper_pays, .ref x_paper_measuredBarred, .ref x_paper_buckets, .ref q_5, .ref q_6, .ref q_7, .ref q_1, .ref q_2, .ref q_3, .ref q_4, .int 0, .int 1, .int 0, .int 0, .int (-1), .int (-1), .int 0])), (x_paper_digits, .inl (ty 0, 6, .inl (upd (upd (upd (upd (upd (upd (upd (upd (upd (upd (upd (upd (upd (upd (upd (upd (upd (upd (upd (upd (upd (upd (upd (upd (upd (upd (upd (fun _ => 0) 0 0) 0 0) 1 1) 0 0) 1 1) 2 2) 0 0) 1 1) 2 2) 3 3) 0 0) 1 1) 2 2) 3 3) 4 4) 0 0) 1 1) 2 2) 3 3) 4 4) 5 5) 0 0) 1 1) 2 2) 3 3) 4 4) 5 5)))] s.heap.size = A at hD hE ⊢
  have hA : ∀ q : Nat, s.heap.size ≤ q → A q := fun q h => by rw [← hAe]; exact Or.inr h
  have hS : va_S A s.heap s.heap [] := va_S.rf
  have hl := lv_entry ([.ref x_paper]) (n := 5) (Nat.le_of_ble_eq_true rfl)
  rw [lg_entry_eq]
  generalize (lg_sl ([.ref x_paper]) ++ List.replicate (5 - (lg_sl ([.ref x_paper])).length) Slot.unset).toArray = ls at hl ⊢
  have hl : lv_has ls 5 [(0, .ref x_paper)] := hl
  refine lv_iconst (v := 0) hx hb dX3_numberOfOrder_0 (by decide) ?_
  refine lv_istore_n (lv' := [(1, .int 0), (0, .ref x_paper)]) hx hb dX3_numberOfOrder_1 rfl hl (by decide) rfl (fun ls hl => ?_)
  refine lv_iconst (v := 0) hx hb dX3_numberOfOrder_2 (by decide) ?_
  refine lv_istore_n (lv' := [(2, .int 0), (1, .int 0), (0, .ref x_paper)]) hx hb dX3_numberOfOrder_3 rfl hl (by decide) rfl (fun ls hl => ?_)
  refine lv_iload_n hx hb dX3_numberOfOrder_4 rfl (lv_at hl 0 rfl) ?_
  refine lv_bipush (v := 6) hx hb dX3_numberOfOrder_5 (by decide) ?_
  refine lv_icmp_ge (tgt := 70) hx hb dX3_numberOfOrder_7 (by decide) (fun h => absurd h (by decide)) (fun _ => ?_)
  refine lv_iconst (v := 0) hx hb dX3_numberOfOrder_10 (by decide) ?_
  refine lv_istore_n (lv' := [(3, .int 0), (2, .int 0), (1, .int 0), (0, .ref x_paper)]) hx hb dX3_numberOfOrder_11 rfl hl (by decide) rfl (fun ls hl => ?_)
  refine lv_iconst (v := 0) hx hb dX3_numberOfOrder_12 (by decide) ?_
  refine lv_istore (lv' := [(4, .int 0), (3, .int 0), (2, .int 0), (1, .int 0), (0, .ref x_paper)]) hx hb dX3_numberOfOrder_13 hl (by decide) rfl (fun ls hl => ?_)
  refine lv_iload hx hb dX3_numberOfOrder_15 (lv_at hl 0 rfl) ?_
  refine lv_iload_n hx hb dX3_numberOfOrder_17 rfl (lv_at hl 2 rfl) ?_
  refine lv_icmp_ge (tgt := 54) hx hb dX3_numberOfOrder_18 (by decide) (fun _ => ?_) (fun h => absurd (by decide) h)
  refine lv_iload_n hx hb dX3_numberOfOrder_54 rfl (lv_at hl 3 rfl) ?_
  refine lv_iload_n hx hb dX3_numberOfOrder_55 rfl (lv_at hl 1 rfl) ?_
  refine va_gets hx hb hE.1 hS hown (hts (.fieldLink RX3 76 "TurnedFloors$Paper" "FACTORIALS" "[I") (by decide +kernel)) (fun _ h9 => h9) dX3_numberOfOrder_56 ?_
  refine lv_iload_n hx hb dX3_numberOfOrder_59 rfl (lv_at hl 2 rfl) ?_
  refine va_ti (v := .int 1) hx hb hE.2.1 hS (by simp only [vp_in]; decide) rfl dX3_numberOfOrder_60 ?_
  refine lv_imul hx hb dX3_numberOfOrder_61 ?_
  refine kz_topi 0 (by first | rfl | decide +kernel) ?_
  refine lv_iadd hx hb dX3_numberOfOrder_62 ?_
  refine kz_topi 0 (by first | rfl | decide +kernel) ?_
  refine lv_istore_n (lv' := [(1, .int 0), (4, .int 0), (3, .int 0), (2, .int 0), (0, .ref x_paper)]) hx hb dX3_numberOfOrder_63 rfl hl (by decide) rfl (fun ls hl => ?_)
  refine lv_iinc (v := 1) (lv' := [(2, .int 1), (1, .int 0), (4, .int 0), (3, .int 0), (0, .ref x_paper)]) hx hb dX3_numberOfOrder_64 hl (k := 3) rfl (by decide) (by decide) rfl (fun ls hl => ?_)
  refine lv_goto (tgt := 4) hx hb dX3_numberOfOrder_67 (by decide) ?_
  refine lv_iload_n hx hb dX3_numberOfOrder_4 rfl (lv_at hl 0 rfl) ?_
  refine lv_bipush (v := 6) hx hb dX3_numberOfOrder_5 (by decide) ?_
  refine lv_icmp_ge (tgt := 70) hx hb dX3_numberOfOrder_7 (by decide) (fun h => absurd h (by decide)) (fun _ => ?_)
  refine lv_iconst (v := 0) hx hb dX3_numberOfOrder_10 (by decide) ?_
  refine lv_istore_n (lv' := [(3, .int 0), (2, .int 1), (1, .int 0), (4, .int 0), (0, .ref x_paper)]) hx hb dX3_numberOfOrder_11 rfl hl (by decide) rfl (fun ls hl => ?_)
  refine lv_iconst (v := 0) hx hb dX3_numberOfOrder_12 (by decide) ?_
  refine lv_istore (lv' := [(4, .int 0), (3, .int 0), (2, .int 1), (1, .int 0), (0, .ref x_paper)]) hx hb dX3_numberOfOrder_13 hl (by decide) rfl (fun ls hl => ?_)
  refine lv_iload hx hb dX3_numberOfOrder_15 (lv_at hl 0 rfl) ?_
  refine lv_iload_n hx hb dX3_numberOfOrder_17 rfl (lv_at hl 2 rfl) ?_
  refine lv_icmp_ge (tgt := 54) hx hb dX3_numberOfOrder_18 (by decide) (fun h => absurd h (by decide)) (fun _ => ?_)
  refine lv_iload_n hx hb dX3_numberOfOrder_21 rfl (lv_at hl 1 rfl) ?_
  refine lv_aload_n hx hb dX3_numberOfOrder_22 rfl (lv_at hl 4 rfl) ?_
  refine va_get (D := D) (ci := 3) (v := .ref x_paper_digits) (C := RX3) (T := TX3) (N := 20) hx hb hts (by decide +kernel) hown hK hP 0 rfl rfl 1 (by decide) (hts (.fieldLink RX3 15 "TurnedFloors$Paper" "digits" "[I") (by decide +kernel)) (fun _ h9 => h9) rfl dX3_numberOfOrder_23 ?_
  refine lv_iload hx hb dX3_numberOfOrder_26 (lv_at hl 0 rfl) ?_
  refine va_iald hx hb hK hP 1 0 rfl rfl (by simp only [vp_in]; decide) dX3_numberOfOrder_28 ?_
  refine kz_topi 0 (by first | rfl | decide +kernel) ?_
  refine lv_aload_n hx hb dX3_numberOfOrder_29 rfl (lv_at hl 4 rfl) ?_
  refine va_get (D := D) (ci := 3) (v := .ref x_paper_digits) (C := RX3) (T := TX3) (N := 20) hx hb hts (by decide +kernel) hown hK hP 0 rfl rfl 1 (by decide) (hts (.fieldLink RX3 15 "TurnedFloors$Paper" "digits" "[I") (by decide +kernel)) (fun _ h9 => h9) rfl dX3_numberOfOrder_30 ?_
  refine lv_iload_n hx hb dX3_numberOfOrder_33 rfl (lv_at hl 2 rfl) ?_
  refine va_iald hx hb hK hP 1 0 rfl rfl (by simp only [vp_in]; decide) dX3_numberOfOrder_34 ?_
  refine kz_topi 1 (by first | rfl | decide +kernel) ?_
  refine lv_icmp_le (tgt := 42) hx hb dX3_numberOfOrder_35 (by decide) (fun _ => ?_) (fun h => absurd (by decide) h)
  refine lv_iconst (v := 0) hx hb dX3_numberOfOrder_42 (by decide) ?_
  refine kz_ki (wc := []) (wr := [(x_paper, .inr (3, [.ref x_paper_ranks, .ref x_paper_digits, .ref x_paper_barred, .ref x_paper_pays, .ref x_paper_measuredBarred, .ref x_paper_buckets, .ref q_5, .ref q_6, .ref q_7, .ref q_1, .ref q_2, .ref q_3, .ref q_4, .int 0, .int 1, .int 0, .int 0, .int (-1), .int (-1), .int 0])), (x_paper_digits, .inl (ty 0, 6, .inl (upd (upd (upd (upd (upd (upd (upd (upd (upd (upd (upd (upd (upd (upd (upd (upd (upd (upd (upd (upd (upd (upd (upd (upd (upd (upd (upd (fun _ => 0) 0 0) 0 0) 1 1) 0 0) 1 1) 2 2) 0 0) 1 1) 2 2) 3 3) 0 0) 1 1) 2 2) 3 3) 4 4) 0 0) 1 1) 2 2) 3 3) 4 4) 5 5) 0 0) 1 1) 2 2) 3 3) 4 4) 5 5)))]) (va_runSN (As := [.int 0]) (rest := [.int 0]) ⟨hx, hb, hml, hown, hts⟩ (kcX9_bit l D ty eo _ 0) ⟨va_cnB 1 hts gX3_numberOfOrder_X9_bit_n133 rfl rfl rfl (hN.1 _ (by decide +kernel : (.methodLinkNest "TurnedFloors$Paper" 133 yX9_bit "TurnedFloors" : Cond) ∈ kzN1)) (hts (.initialized RX9) (by decide +kernel)) (by decide +kernel) ⟨Nat.le_of_ble_eq_true rfl, Nat.le_of_ble_eq_true rfl⟩, hts (.static yX9_bit) (by decide +kernel), trivial⟩ (kz_preS hK hN hE hP hD hS hA [] (by decide) rfl) rfl rfl hl.1 rfl (lv_room (Nat.le_of_ble_eq_true rfl)) dX3_numberOfOrder_43 ⟨Nat.le_of_ble_eq_true rfl, Nat.le_of_ble_eq_true rfl⟩) hP hD hS hA [] [0, 1] rfl rfl (by decide) (by decide) (fun r u H locs hw hp hd hs => ?_)
  rcases hw with ⟨c_1, rfl, rfl⟩ | ⟨c_2, rfl, rfl⟩
  · refine kz_re (w2 := [(x_paper, .inr (3, [.ref x_paper_ranks, .ref x_paper_digits, .ref x_paper_barred, .ref x_paper_pays, .ref x_paper_measuredBarred, .ref x_paper_buckets, .ref q_5, .ref q_6, .ref q_7, .ref q_1, .ref q_2, .ref q_3, .ref q_4, .int 0, .int 1, .int 0, .int 0, .int (-1), .int (-1), .int 0])), (x_paper_digits, .inl (ty 0, 6, .inl (upd (upd (upd (upd (upd (upd (upd (upd (upd (upd (upd (upd (upd (upd (upd (upd (upd (upd (upd (upd (upd (upd (upd (upd (upd (upd (upd (fun _ => 0) 0 0) 0 0) 1 1) 0 0) 1 1) 2 2) 0 0) 1 1) 2 2) 3 3) 0 0) 1 1) 2 2) 3 3) 4 4) 0 0) 1 1) 2 2) 3 3) 4 4) 5 5) 0 0) 1 1) 2 2) 3 3) 4 4) 5 5)))]) hp hd hs rfl ?_
    clear hp hd hs hP hD hS
    intro hP hD hS
    refine lv_iadd hx hb dX3_numberOfOrder_46 ?_
    refine kz_topi 0 (by first | rfl | decide +kernel) ?_
    refine lv_istore_n (lv' := [(3, .int 0), (4, .int 0), (2, .int 1), (1, .int 0), (0, .ref x_paper)]) hx hb dX3_numberOfOrder_47 rfl hl (by decide) rfl (fun ls hl => ?_)
    refine lv_iinc (v := 1) (lv' := [(4, .int 1), (3, .int 0), (2, .int 1), (1, .int 0), (0, .ref x_paper)]) hx hb dX3_numberOfOrder_48 hl (k := 1) rfl (by decide) (by decide) rfl (fun ls hl => ?_)
    refine lv_goto (tgt := 15) hx hb dX3_numberOfOrder_51 (by decide) ?_
    refine lv_iload hx hb dX3_numberOfOrder_15 (lv_at hl 0 rfl) ?_
    refine lv_iload_n hx hb dX3_numberOfOrder_17 rfl (lv_at hl 2 rfl) ?_
    refine lv_icmp_ge (tgt := 54) hx hb dX3_numberOfOrder_18 (by decide) (fun _ => ?_) (fun h => absurd (by decide) h)
    refine lv_iload_n hx hb dX3_numberOfOrder_54 rfl (lv_at hl 3 rfl) ?_
    refine lv_iload_n hx hb dX3_numberOfOrder_55 rfl (lv_at hl 1 rfl) ?_
    refine va_gets hx hb hE.1 hS hown (hts (.fieldLink RX3 76 "TurnedFloors$Paper" "FACTORIALS" "[I") (by decide +kernel)) (fun _ h9 => h9) dX3_numberOfOrder_56 ?_
    refine lv_iload_n hx hb dX3_numberOfOrder_59 rfl (lv_at hl 2 rfl) ?_
    refine va_ti (v := .int 1) hx hb hE.2.1 hS (by simp only [vp_in]; decide) rfl dX3_numberOfOrder_60 ?_
    refine lv_imul hx hb dX3_numberOfOrder_61 ?_
    refine kz_topi 0 (by first | rfl | decide +kernel) ?_
    refine lv_iadd hx hb dX3_numberOfOrder_62 ?_
    refine kz_topi 0 (by first | rfl | decide +kernel) ?_
    refine lv_istore_n (lv' := [(1, .int 0), (4, .int 1), (3, .int 0), (2, .int 1), (0, .ref x_paper)]) hx hb dX3_numberOfOrder_63 rfl hl (by decide) rfl (fun ls hl => ?_)
    refine lv_iinc (v := 2) (lv' := [(2, .int 2), (1, .int 0), (4, .int 1), (3, .int 0), (0, .ref x_paper)]) hx hb dX3_numberOfOrder_64 hl (k := 3) rfl (by decide) (by decide) rfl (fun ls hl => ?_)
    refine lv_goto (tgt := 4) hx hb dX3_numberOfOrder_67 (by decide) ?_
    refine lv_iload_n hx hb dX3_numberOfOrder_4 rfl (lv_at hl 0 rfl) ?_
    refine lv_bipush (v := 6) hx hb dX3_numberOfOrder_5 (by decide) ?_
    refine lv_icmp_ge (tgt := 70) hx hb dX3_numberOfOrder_7 (by decide) (fun h => absurd h (by decide)) (fun _ => ?_)
    refine lv_iconst (v := 0) hx hb dX3_numberOfOrder_10 (by decide) ?_
    refine lv_istore_n (lv' := [(3, .int 0), (2, .int 2), (1, .int 0), (4, .int 1), (0, .ref x_paper)]) hx hb dX3_numberOfOrder_11 rfl hl (by decide) rfl (fun ls hl => ?_)
    refine lv_iconst (v := 0) hx hb dX3_numberOfOrder_12 (by decide) ?_
    refine lv_istore (lv' := [(4, .int 0), (3, .int 0), (2, .int 2), (1, .int 0), (0, .ref x_paper)]) hx hb dX3_numberOfOrder_13 hl (by decide) rfl (fun ls hl => ?_)
    refine lv_iload hx hb dX3_numberOfOrder_15 (lv_at hl 0 rfl) ?_
    refine lv_iload_n hx hb dX3_numberOfOrder_17 rfl (lv_at hl 2 rfl) ?_
    refine lv_icmp_ge (tgt := 54) hx hb dX3_numberOfOrder_18 (by decide) (fun h => absurd h (by decide)) (fun _ => ?_)
    refine lv_iload_n hx hb dX3_numberOfOrder_21 rfl (lv_at hl 1 rfl) ?_
    refine lv_aload_n hx hb dX3_numberOfOrder_22 rfl (lv_at hl 4 rfl) ?_
    refine va_get (D := D) (ci := 3) (v := .ref x_paper_digits) (C := RX3) (T := TX3) (N := 20) hx hb hts (by decide +kernel) hown hK hP 0 rfl rfl 1 (by decide) (hts (.fieldLink RX3 15 "TurnedFloors$Paper" "digits" "[I") (by decide +kernel)) (fun _ h9 => h9) rfl dX3_numberOfOrder_23 ?_
    refine lv_iload hx hb dX3_numberOfOrder_26 (lv_at hl 0 rfl) ?_
    refine va_iald hx hb hK hP 1 0 rfl rfl (by simp only [vp_in]; decide) dX3_numberOfOrder_28 ?_
    refine kz_topi 0 (by first | rfl | decide +kernel) ?_
    refine lv_aload_n hx hb dX3_numberOfOrder_29 rfl (lv_at hl 4 rfl) ?_
    refine va_get (D := D) (ci := 3) (v := .ref x_paper_digits) (C := RX3) (T := TX3) (N := 20) hx hb hts (by decide +kernel) hown hK hP 0 rfl rfl 1 (by decide) (hts (.fieldLink RX3 15 "TurnedFloors$Paper" "digits" "[I") (by decide +kernel)) (fun _ h9 => h9) rfl dX3_numberOfOrder_30 ?_
    refine lv_iload_n hx hb dX3_numberOfOrder_33 rfl (lv_at hl 2 rfl) ?_
    refine va_iald hx hb hK hP 1 0 rfl rfl (by simp only [vp_in]; decide) dX3_numberOfOrder_34 ?_
    refine kz_topi 2 (by first | rfl | decide +kernel) ?_
    refine lv_icmp_le (tgt := 42) hx hb dX3_numberOfOrder_35 (by decide) (fun _ => ?_) (fun h => absurd (by decide) h)
    refine lv_iconst (v := 0) hx hb dX3_numberOfOrder_42 (by decide) ?_
    refine kz_ki (wc := []) (wr := [(x_paper, .inr (3, [.ref x_paper_ranks, .ref x_paper_digits, .ref x_paper_barred, .ref x_paper_pays, .ref x_paper_measuredBarred, .ref x_paper_buckets, .ref q_5, .ref q_6, .ref q_7, .ref q_1, .ref q_2, .ref q_3, .ref q_4, .int 0, .int 1, .int 0, .int 0, .int (-1), .int (-1), .int 0])), (x_paper_digits, .inl (ty 0, 6, .inl (upd (upd (upd (upd (upd (upd (upd (upd (upd (upd (upd (upd (upd (upd (upd (upd (upd (upd (upd (upd (upd (upd (upd (upd (upd (upd (upd (fun _ => 0) 0 0) 0 0) 1 1) 0 0) 1 1) 2 2) 0 0) 1 1) 2 2) 3 3) 0 0) 1 1) 2 2) 3 3) 4 4) 0 0) 1 1) 2 2) 3 3) 4 4) 5 5) 0 0) 1 1) 2 2) 3 3) 4 4) 5 5)))]) (va_runSN (As := [.int 0]) (rest := [.int 0]) ⟨hx, hb, hml, hown, hts⟩ (kcX9_bit l D ty eo _ 0) ⟨va_cnB 1 hts gX3_numberOfOrder_X9_bit_n133 rfl rfl rfl (hN.1 _ (by decide +kernel : (.methodLinkNest "TurnedFloors$Paper" 133 yX9_bit "TurnedFloors" : Cond) ∈ kzN1)) (hts (.initialized RX9) (by decide +kernel)) (by decide +kernel) ⟨Nat.le_of_ble_eq_true rfl, Nat.le_of_ble_eq_true rfl⟩, hts (.static yX9_bit) (by decide +kernel), trivial⟩ (kz_preS hK hN hE hP hD hS hA [] (by decide) rfl) rfl rfl hl.1 rfl (lv_room (Nat.le_of_ble_eq_true rfl)) dX3_numberOfOrder_43 ⟨Nat.le_of_ble_eq_true rfl, Nat.le_of_ble_eq_true rfl⟩) hP hD hS hA [] [0, 1] rfl rfl (by decide) (by decide) (fun r u H locs hw hp hd hs => ?_)
    rcases hw with ⟨c_3, rfl, rfl⟩ | ⟨c_4, rfl, rfl⟩
    · refine kz_re (w2 := [(x_paper, .inr (3, [.ref x_paper_ranks, .ref x_paper_digits, .ref x_paper_barred, .ref x_paper_pays, .ref x_paper_measuredBarred, .ref x_paper_buckets, .ref q_5, .ref q_6, .ref q_7, .ref q_1, .ref q_2, .ref q_3, .ref q_4, .int 0, .int 1, .int 0, .int 0, .int (-1), .int (-1), .int 0])), (x_paper_digits, .inl (ty 0, 6, .inl (upd (upd (upd (upd (upd (upd (upd (upd (upd (upd (upd (upd (upd (upd (upd (upd (upd (upd (upd (upd (upd (upd (upd (upd (upd (upd (upd (fun _ => 0) 0 0) 0 0) 1 1) 0 0) 1 1) 2 2) 0 0) 1 1) 2 2) 3 3) 0 0) 1 1) 2 2) 3 3) 4 4) 0 0) 1 1) 2 2) 3 3) 4 4) 5 5) 0 0) 1 1) 2 2) 3 3) 4 4) 5 5)))]) hp hd hs rfl ?_
      clear hp hd hs hP hD hS
      intro hP hD hS
      refine lv_iadd hx hb dX3_numberOfOrder_46 ?_
      refine kz_topi 0 (by first | rfl | decide +kernel) ?_
      refine lv_istore_n (lv' := [(3, .int 0), (4, .int 0), (2, .int 2), (1, .int 0), (0, .ref x_paper)]) hx hb dX3_numberOfOrder_47 rfl hl (by decide) rfl (fun ls hl => ?_)
      refine lv_iinc (v := 1) (lv' := [(4, .int 1), (3, .int 0), (2, .int 2), (1, .int 0), (0, .ref x_paper)]) hx hb dX3_numberOfOrder_48 hl (k := 1) rfl (by decide) (by decide) rfl (fun ls hl => ?_)
      refine lv_goto (tgt := 15) hx hb dX3_numberOfOrder_51 (by decide) ?_
      refine lv_iload hx hb dX3_numberOfOrder_15 (lv_at hl 0 rfl) ?_
      refine lv_iload_n hx hb dX3_numberOfOrder_17 rfl (lv_at hl 2 rfl) ?_
      refine lv_icmp_ge (tgt := 54) hx hb dX3_numberOfOrder_18 (by decide) (fun h => absurd h (by decide)) (fun _ => ?_)
      refine lv_iload_n hx hb dX3_numberOfOrder_21 rfl (lv_at hl 1 rfl) ?_
      refine lv_aload_n hx hb dX3_numberOfOrder_22 rfl (lv_at hl 4 rfl) ?_
      refine va_get (D := D) (ci := 3) (v := .ref x_paper_digits) (C := RX3) (T := TX3) (N := 20) hx hb hts (by decide +kernel) hown hK hP 0 rfl rfl 1 (by decide) (hts (.fieldLink RX3 15 "TurnedFloors$Paper" "digits" "[I") (by decide +kernel)) (fun _ h9 => h9) rfl dX3_numberOfOrder_23 ?_
      refine lv_iload hx hb dX3_numberOfOrder_26 (lv_at hl 0 rfl) ?_
      refine va_iald hx hb hK hP 1 0 rfl rfl (by simp only [vp_in]; decide) dX3_numberOfOrder_28 ?_
      refine kz_topi 1 (by first | rfl | decide +kernel) ?_
      refine lv_aload_n hx hb dX3_numberOfOrder_29 rfl (lv_at hl 4 rfl) ?_
      refine va_get (D := D) (ci := 3) (v := .ref x_paper_digits) (C := RX3) (T := TX3) (N := 20) hx hb hts (by decide +kernel) hown hK hP 0 rfl rfl 1 (by decide) (hts (.fieldLink RX3 15 "TurnedFloors$Paper" "digits" "[I") (by decide +kernel)) (fun _ h9 => h9) rfl dX3_numberOfOrder_30 ?_
      refine lv_iload_n hx hb dX3_numberOfOrder_33 rfl (lv_at hl 2 rfl) ?_
      refine va_iald hx hb hK hP 1 0 rfl rfl (by simp only [vp_in]; decide) dX3_numberOfOrder_34 ?_
      refine kz_topi 2 (by first | rfl | decide +kernel) ?_
      refine lv_icmp_le (tgt := 42) hx hb dX3_numberOfOrder_35 (by decide) (fun _ => ?_) (fun h => absurd (by decide) h)
      refine lv_iconst (v := 0) hx hb dX3_numberOfOrder_42 (by decide) ?_
      refine kz_ki (wc := []) (wr := [(x_paper, .inr (3, [.ref x_paper_ranks, .ref x_paper_digits, .ref x_paper_barred, .ref x_paper_pays, .ref x_paper_measuredBarred, .ref x_paper_buckets, .ref q_5, .ref q_6, .ref q_7, .ref q_1, .ref q_2, .ref q_3, .ref q_4, .int 0, .int 1, .int 0, .int 0, .int (-1), .int (-1), .int 0])), (x_paper_digits, .inl (ty 0, 6, .inl (upd (upd (upd (upd (upd (upd (upd (upd (upd (upd (upd (upd (upd (upd (upd (upd (upd (upd (upd (upd (upd (upd (upd (upd (upd (upd (upd (fun _ => 0) 0 0) 0 0) 1 1) 0 0) 1 1) 2 2) 0 0) 1 1) 2 2) 3 3) 0 0) 1 1) 2 2) 3 3) 4 4) 0 0) 1 1) 2 2) 3 3) 4 4) 5 5) 0 0) 1 1) 2 2) 3 3) 4 4) 5 5)))]) (va_runSN (As := [.int 0]) (rest := [.int 0]) ⟨hx, hb, hml, hown, hts⟩ (kcX9_bit l D ty eo _ 0) ⟨va_cnB 1 hts gX3_numberOfOrder_X9_bit_n133 rfl rfl rfl (hN.1 _ (by decide +kernel : (.methodLinkNest "TurnedFloors$Paper" 133 yX9_bit "TurnedFloors" : Cond) ∈ kzN1)) (hts (.initialized RX9) (by decide +kernel)) (by decide +kernel) ⟨Nat.le_of_ble_eq_true rfl, Nat.le_of_ble_eq_true rfl⟩, hts (.static yX9_bit) (by decide +kernel), trivial⟩ (kz_preS hK hN hE hP hD hS hA [] (by decide) rfl) rfl rfl hl.1 rfl (lv_room (Nat.le_of_ble_eq_true rfl)) dX3_numberOfOrder_43 ⟨Nat.le_of_ble_eq_true rfl, Nat.le_of_ble_eq_true rfl⟩) hP hD hS hA [] [0, 1] rfl rfl (by decide) (by decide) (fun r u H locs hw hp hd hs => ?_)
      rcases hw with ⟨c_5, rfl, rfl⟩ | ⟨c_6, rfl, rfl⟩
      · refine kz_re (w2 := [(x_paper, .inr (3, [.ref x_paper_ranks, .ref x_paper_digits, .ref x_paper_barred, .ref x_paper_pays, .ref x_paper_measuredBarred, .ref x_paper_buckets, .ref q_5, .ref q_6, .ref q_7, .ref q_1, .ref q_2, .ref q_3, .ref q_4, .int 0, .int 1, .int 0, .int 0, .int (-1), .int (-1), .int 0])), (x_paper_digits, .inl (ty 0, 6, .inl (upd (upd (upd (upd (upd (upd (upd (upd (upd (upd (upd (upd (upd (upd (upd (upd (upd (upd (upd (upd (upd (upd (upd (upd (upd (upd (upd (fun _ => 0) 0 0) 0 0) 1 1) 0 0) 1 1) 2 2) 0 0) 1 1) 2 2) 3 3) 0 0) 1 1) 2 2) 3 3) 4 4) 0 0) 1 1) 2 2) 3 3) 4 4) 5 5) 0 0) 1 1) 2 2) 3 3) 4 4) 5 5)))]) hp hd hs rfl ?_
        clear hp hd hs hP hD hS
        intro hP hD hS
        refine lv_iadd hx hb dX3_numberOfOrder_46 ?_
        refine kz_topi 0 (by first | rfl | decide +kernel) ?_
        refine lv_istore_n (lv' := [(3, .int 0), (4, .int 1), (2, .int 2), (1, .int 0), (0, .ref x_paper)]) hx hb dX3_numberOfOrder_47 rfl hl (by decide) rfl (fun ls hl => ?_)
        refine lv_iinc (v := 2) (lv' := [(4, .int 2), (3, .int 0), (2, .int 2), (1, .int 0), (0, .ref x_paper)]) hx hb dX3_numberOfOrder_48 hl (k := 1) rfl (by decide) (by decide) rfl (fun ls hl => ?_)
        refine lv_goto (tgt := 15) hx hb dX3_numberOfOrder_51 (by decide) ?_
        refine lv_iload hx hb dX3_numberOfOrder_15 (lv_at hl 0 rfl) ?_
        refine lv_iload_n hx hb dX3_numberOfOrder_17 rfl (lv_at hl 2 rfl) ?_
        refine lv_icmp_ge (tgt := 54) hx hb dX3_numberOfOrder_18 (by decide) (fun _ => ?_) (fun h => absurd (by decide) h)
        refine lv_iload_n hx hb dX3_numberOfOrder_54 rfl (lv_at hl 3 rfl) ?_
        refine lv_iload_n hx hb dX3_numberOfOrder_55 rfl (lv_at hl 1 rfl) ?_
        refine va_gets hx hb hE.1 hS hown (hts (.fieldLink RX3 76 "TurnedFloors$Paper" "FACTORIALS" "[I") (by decide +kernel)) (fun _ h9 => h9) dX3_numberOfOrder_56 ?_
        refine lv_iload_n hx hb dX3_numberOfOrder_59 rfl (lv_at hl 2 rfl) ?_
        refine va_ti (v := .int 2) hx hb hE.2.1 hS (by simp only [vp_in]; decide) rfl dX3_numberOfOrder_60 ?_
        refine lv_imul hx hb dX3_numberOfOrder_61 ?_
        refine kz_topi 0 (by first | rfl | decide +kernel) ?_
        refine lv_iadd hx hb dX3_numberOfOrder_62 ?_
        refine kz_topi 0 (by first | rfl | decide +kernel) ?_
        refine lv_istore_n (lv' := [(1, .int 0), (4, .int 2), (3, .int 0), (2, .int 2), (0, .ref x_paper)]) hx hb dX3_numberOfOrder_63 rfl hl (by decide) rfl (fun ls hl => ?_)
        refine lv_iinc (v := 3) (lv' := [(2, .int 3), (1, .int 0), (4, .int 2), (3, .int 0), (0, .ref x_paper)]) hx hb dX3_numberOfOrder_64 hl (k := 3) rfl (by decide) (by decide) rfl (fun ls hl => ?_)
        refine lv_goto (tgt := 4) hx hb dX3_numberOfOrder_67 (by decide) ?_
        refine lv_iload_n hx hb dX3_numberOfOrder_4 rfl (lv_at hl 0 rfl) ?_
        refine lv_bipush (v := 6) hx hb dX3_numberOfOrder_5 (by decide) ?_
        refine lv_icmp_ge (tgt := 70) hx hb dX3_numberOfOrder_7 (by decide) (fun h => absurd h (by decide)) (fun _ => ?_)
        refine lv_iconst (v := 0) hx hb dX3_numberOfOrder_10 (by decide) ?_
        refine lv_istore_n (lv' := [(3, .int 0), (2, .int 3), (1, .int 0), (4, .int 2), (0, .ref x_paper)]) hx hb dX3_numberOfOrder_11 rfl hl (by decide) rfl (fun ls hl => ?_)
        refine lv_iconst (v := 0) hx hb dX3_numberOfOrder_12 (by decide) ?_
        refine lv_istore (lv' := [(4, .int 0), (3, .int 0), (2, .int 3), (1, .int 0), (0, .ref x_paper)]) hx hb dX3_numberOfOrder_13 hl (by decide) rfl (fun ls hl => ?_)
        refine lv_iload hx hb dX3_numberOfOrder_15 (lv_at hl 0 rfl) ?_
        refine lv_iload_n hx hb dX3_numberOfOrder_17 rfl (lv_at hl 2 rfl) ?_
        refine lv_icmp_ge (tgt := 54) hx hb dX3_numberOfOrder_18 (by decide) (fun h => absurd h (by decide)) (fun _ => ?_)
        refine lv_iload_n hx hb dX3_numberOfOrder_21 rfl (lv_at hl 1 rfl) ?_
        refine lv_aload_n hx hb dX3_numberOfOrder_22 rfl (lv_at hl 4 rfl) ?_
        refine va_get (D := D) (ci := 3) (v := .ref x_paper_digits) (C := RX3) (T := TX3) (N := 20) hx hb hts (by decide +kernel) hown hK hP 0 rfl rfl 1 (by decide) (hts (.fieldLink RX3 15 "TurnedFloors$Paper" "digits" "[I") (by decide +kernel)) (fun _ h9 => h9) rfl dX3_numberOfOrder_23 ?_
        refine lv_iload hx hb dX3_numberOfOrder_26 (lv_at hl 0 rfl) ?_
        refine va_iald hx hb hK hP 1 0 rfl rfl (by simp only [vp_in]; decide) dX3_numberOfOrder_28 ?_
        refine kz_topi 0 (by first | rfl | decide +kernel) ?_
        refine lv_aload_n hx hb dX3_numberOfOrder_29 rfl (lv_at hl 4 rfl) ?_
        refine va_get (D := D) (ci := 3) (v := .ref x_paper_digits) (C := RX3) (T := TX3) (N := 20) hx hb hts (by decide +kernel) hown hK hP 0 rfl rfl 1 (by decide) (hts (.fieldLink RX3 15 "TurnedFloors$Paper" "digits" "[I") (by decide +kernel)) (fun _ h9 => h9) rfl dX3_numberOfOrder_30 ?_
        refine lv_iload_n hx hb dX3_numberOfOrder_33 rfl (lv_at hl 2 rfl) ?_
        refine va_iald hx hb hK hP 1 0 rfl rfl (by simp only [vp_in]; decide) dX3_numberOfOrder_34 ?_
        refine kz_topi 3 (by first | rfl | decide +kernel) ?_
        refine lv_icmp_le (tgt := 42) hx hb dX3_numberOfOrder_35 (by decide) (fun _ => ?_) (fun h => absurd (by decide) h)
        refine lv_iconst (v := 0) hx hb dX3_numberOfOrder_42 (by decide) ?_
        refine kz_ki (wc := []) (wr := [(x_paper, .inr (3, [.ref x_paper_ranks, .ref x_paper_digits, .ref x_paper_barred, .ref x_paper_pays, .ref x_paper_measuredBarred, .ref x_paper_buckets, .ref q_5, .ref q_6, .ref q_7, .ref q_1, .ref q_2, .ref q_3, .ref q_4, .int 0, .int 1, .int 0, .int 0, .int (-1), .int (-1), .int 0])), (x_paper_digits, .inl (ty 0, 6, .inl (upd (upd (upd (upd (upd (upd (upd (upd (upd (upd (upd (upd (upd (upd (upd (upd (upd (upd (upd (upd (upd (upd (upd (upd (upd (upd (upd (fun _ => 0) 0 0) 0 0) 1 1) 0 0) 1 1) 2 2) 0 0) 1 1) 2 2) 3 3) 0 0) 1 1) 2 2) 3 3) 4 4) 0 0) 1 1) 2 2) 3 3) 4 4) 5 5) 0 0) 1 1) 2 2) 3 3) 4 4) 5 5)))]) (va_runSN (As := [.int 0]) (rest := [.int 0]) ⟨hx, hb, hml, hown, hts⟩ (kcX9_bit l D ty eo _ 0) ⟨va_cnB 1 hts gX3_numberOfOrder_X9_bit_n133 rfl rfl rfl (hN.1 _ (by decide +kernel : (.methodLinkNest "TurnedFloors$Paper" 133 yX9_bit "TurnedFloors" : Cond) ∈ kzN1)) (hts (.initialized RX9) (by decide +kernel)) (by decide +kernel) ⟨Nat.le_of_ble_eq_true rfl, Nat.le_of_ble_eq_true rfl⟩, hts (.static yX9_bit) (by decide +kernel), trivial⟩ (kz_preS hK hN hE hP hD hS hA [] (by decide) rfl) rfl rfl hl.1 rfl (lv_room (Nat.le_of_ble_eq_true rfl)) dX3_numberOfOrder_43 ⟨Nat.le_of_ble_eq_true rfl, Nat.le_of_ble_eq_true rfl⟩) hP hD hS hA [] [0, 1] rfl rfl (by decide) (by decide) (fun r u H locs hw hp hd hs => ?_)
        rcases hw with ⟨c_7, rfl, rfl⟩ | ⟨c_8, rfl, rfl⟩
        · refine kz_re (w2 := [(x_paper, .inr (3, [.ref x_paper_ranks, .ref x_paper_digits, .ref x_paper_barred, .ref x_paper_pays, .ref x_paper_measuredBarred, .ref x_paper_buckets, .ref q_5, .ref q_6, .ref q_7, .ref q_1, .ref q_2, .ref q_3, .ref q_4, .int 0, .int 1, .int 0, .int 0, .int (-1), .int (-1), .int 0])), (x_paper_digits, .inl (ty 0, 6, .inl (upd (upd (upd (upd (upd (upd (upd (upd (upd (upd (upd (upd (upd (upd (upd (upd (upd (upd (upd (upd (upd (upd (upd (upd (upd (upd (upd (fun _ => 0) 0 0) 0 0) 1 1) 0 0) 1 1) 2 2) 0 0) 1 1) 2 2) 3 3) 0 0) 1 1) 2 2) 3 3) 4 4) 0 0) 1 1) 2 2) 3 3) 4 4) 5 5) 0 0) 1 1) 2 2) 3 3) 4 4) 5 5)))]) hp hd hs rfl ?_
          clear hp hd hs hP hD hS
          intro hP hD hS
          refine lv_iadd hx hb dX3_numberOfOrder_46 ?_
          refine kz_topi 0 (by first | rfl | decide +kernel) ?_
          refine lv_istore_n (lv' := [(3, .int 0), (4, .int 0), (2, .int 3), (1, .int 0), (0, .ref x_paper)]) hx hb dX3_numberOfOrder_47 rfl hl (by decide) rfl (fun ls hl => ?_)
          refine lv_iinc (v := 1) (lv' := [(4, .int 1), (3, .int 0), (2, .int 3), (1, .int 0), (0, .ref x_paper)]) hx hb dX3_numberOfOrder_48 hl (k := 1) rfl (by decide) (by decide) rfl (fun ls hl => ?_)
          refine lv_goto (tgt := 15) hx hb dX3_numberOfOrder_51 (by decide) ?_
          refine lv_iload hx hb dX3_numberOfOrder_15 (lv_at hl 0 rfl) ?_
          refine lv_iload_n hx hb dX3_numberOfOrder_17 rfl (lv_at hl 2 rfl) ?_
          refine lv_icmp_ge (tgt := 54) hx hb dX3_numberOfOrder_18 (by decide) (fun h => absurd h (by decide)) (fun _ => ?_)
          refine lv_iload_n hx hb dX3_numberOfOrder_21 rfl (lv_at hl 1 rfl) ?_
          refine lv_aload_n hx hb dX3_numberOfOrder_22 rfl (lv_at hl 4 rfl) ?_
          refine va_get (D := D) (ci := 3) (v := .ref x_paper_digits) (C := RX3) (T := TX3) (N := 20) hx hb hts (by decide +kernel) hown hK hP 0 rfl rfl 1 (by decide) (hts (.fieldLink RX3 15 "TurnedFloors$Paper" "digits" "[I") (by decide +kernel)) (fun _ h9 => h9) rfl dX3_numberOfOrder_23 ?_
          refine lv_iload hx hb dX3_numberOfOrder_26 (lv_at hl 0 rfl) ?_
          refine va_iald hx hb hK hP 1 0 rfl rfl (by simp only [vp_in]; decide) dX3_numberOfOrder_28 ?_
          refine kz_topi 1 (by first | rfl | decide +kernel) ?_
          refine lv_aload_n hx hb dX3_numberOfOrder_29 rfl (lv_at hl 4 rfl) ?_
          refine va_get (D := D) (ci := 3) (v := .ref x_paper_digits) (C := RX3) (T := TX3) (N := 20) hx hb hts (by decide +kernel) hown hK hP 0 rfl rfl 1 (by decide) (hts (.fieldLink RX3 15 "TurnedFloors$Paper" "digits" "[I") (by decide +kernel)) (fun _ h9 => h9) rfl dX3_numberOfOrder_30 ?_
          refine lv_iload_n hx hb dX3_numberOfOrder_33 rfl (lv_at hl 2 rfl) ?_
          refine va_iald hx hb hK hP 1 0 rfl rfl (by simp only [vp_in]; decide) dX3_numberOfOrder_34 ?_
          refine kz_topi 3 (by first | rfl | decide +kernel) ?_
          refine lv_icmp_le (tgt := 42) hx hb dX3_numberOfOrder_35 (by decide) (fun _ => ?_) (fun h => absurd (by decide) h)
          refine lv_iconst (v := 0) hx hb dX3_numberOfOrder_42 (by decide) ?_
          refine kz_ki (wc := []) (wr := [(x_paper, .inr (3, [.ref x_paper_ranks, .ref x_paper_digits, .ref x_paper_barred, .ref x_paper_pays, .ref x_paper_measuredBarred, .ref x_paper_buckets, .ref q_5, .ref q_6, .ref q_7, .ref q_1, .ref q_2, .ref q_3, .ref q_4, .int 0, .int 1, .int 0, .int 0, .int (-1), .int (-1), .int 0])), (x_paper_digits, .inl (ty 0, 6, .inl (upd (upd (upd (upd (upd (upd (upd (upd (upd (upd (upd (upd (upd (upd (upd (upd (upd (upd (upd (upd (upd (upd (upd (upd (upd (upd (upd (fun _ => 0) 0 0) 0 0) 1 1) 0 0) 1 1) 2 2) 0 0) 1 1) 2 2) 3 3) 0 0) 1 1) 2 2) 3 3) 4 4) 0 0) 1 1) 2 2) 3 3) 4 4) 5 5) 0 0) 1 1) 2 2) 3 3) 4 4) 5 5)))]) (va_runSN (As := [.int 0]) (rest := [.int 0]) ⟨hx, hb, hml, hown, hts⟩ (kcX9_bit l D ty eo _ 0) ⟨va_cnB 1 hts gX3_numberOfOrder_X9_bit_n133 rfl rfl rfl (hN.1 _ (by decide +kernel : (.methodLinkNest "TurnedFloors$Paper" 133 yX9_bit "TurnedFloors" : Cond) ∈ kzN1)) (hts (.initialized RX9) (by decide +kernel)) (by decide +kernel) ⟨Nat.le_of_ble_eq_true rfl, Nat.le_of_ble_eq_true rfl⟩, hts (.static yX9_bit) (by decide +kernel), trivial⟩ (kz_preS hK hN hE hP hD hS hA [] (by decide) rfl) rfl rfl hl.1 rfl (lv_room (Nat.le_of_ble_eq_true rfl)) dX3_numberOfOrder_43 ⟨Nat.le_of_ble_eq_true rfl, Nat.le_of_ble_eq_true rfl⟩) hP hD hS hA [] [0, 1] rfl rfl (by decide) (by decide) (fun r u H locs hw hp hd hs => ?_)
          rcases hw with ⟨c_9, rfl, rfl⟩ | ⟨c_10, rfl, rfl⟩
          · refine kz_re (w2 := [(x_paper, .inr (3, [.ref x_paper_ranks, .ref x_paper_digits, .ref x_paper_barred, .ref x_paper_pays, .ref x_paper_measuredBarred, .ref x_paper_buckets, .ref q_5, .ref q_6, .ref q_7, .ref q_1, .ref q_2, .ref q_3, .ref q_4, .int 0, .int 1, .int 0, .int 0, .int (-1), .int (-1), .int 0])), (x_paper_digits, .inl (ty 0, 6, .inl (upd (upd (upd (upd (upd (upd (upd (upd (upd (upd (upd (upd (upd (upd (upd (upd (upd (upd (upd (upd (upd (upd (upd (upd (upd (upd (upd (fun _ => 0) 0 0) 0 0) 1 1) 0 0) 1 1) 2 2) 0 0) 1 1) 2 2) 3 3) 0 0) 1 1) 2 2) 3 3) 4 4) 0 0) 1 1) 2 2) 3 3) 4 4) 5 5) 0 0) 1 1) 2 2) 3 3) 4 4) 5 5)))]) hp hd hs rfl ?_
            clear hp hd hs hP hD hS
            intro hP hD hS
            refine lv_iadd hx hb dX3_numberOfOrder_46 ?_
            refine kz_topi 0 (by first | rfl | decide +kernel) ?_
            refine lv_istore_n (lv' := [(3, .int 0), (4, .int 1), (2, .int 3), (1, .int 0), (0, .ref x_paper)]) hx hb dX3_numberOfOrder_47 rfl hl (by decide) rfl (fun ls hl => ?_)
            refine lv_iinc (v := 2) (lv' := [(4, .int 2), (3, .int 0), (2, .int 3), (1, .int 0), (0, .ref x_paper)]) hx hb dX3_numberOfOrder_48 hl (k := 1) rfl (by decide) (by decide) rfl (fun ls hl => ?_)
            refine lv_goto (tgt := 15) hx hb dX3_numberOfOrder_51 (by decide) ?_
            refine lv_iload hx hb dX3_numberOfOrder_15 (lv_at hl 0 rfl) ?_
            refine lv_iload_n hx hb dX3_numberOfOrder_17 rfl (lv_at hl 2 rfl) ?_
            refine lv_icmp_ge (tgt := 54) hx hb dX3_numberOfOrder_18 (by decide) (fun h => absurd h (by decide)) (fun _ => ?_)
            refine lv_iload_n hx hb dX3_numberOfOrder_21 rfl (lv_at hl 1 rfl) ?_
            refine lv_aload_n hx hb dX3_numberOfOrder_22 rfl (lv_at hl 4 rfl) ?_
            refine va_get (D := D) (ci := 3) (v := .ref x_paper_digits) (C := RX3) (T := TX3) (N := 20) hx hb hts (by decide +kernel) hown hK hP 0 rfl rfl 1 (by decide) (hts (.fieldLink RX3 15 "TurnedFloors$Paper" "digits" "[I") (by decide +kernel)) (fun _ h9 => h9) rfl dX3_numberOfOrder_23 ?_
            refine lv_iload hx hb dX3_numberOfOrder_26 (lv_at hl 0 rfl) ?_
            refine va_iald hx hb hK hP 1 0 rfl rfl (by simp only [vp_in]; decide) dX3_numberOfOrder_28 ?_
            refine kz_topi 2 (by first | rfl | decide +kernel) ?_
            refine lv_aload_n hx hb dX3_numberOfOrder_29 rfl (lv_at hl 4 rfl) ?_
            refine va_get (D := D) (ci := 3) (v := .ref x_paper_digits) (C := RX3) (T := TX3) (N := 20) hx hb hts (by decide +kernel) hown hK hP 0 rfl rfl 1 (by decide) (hts (.fieldLink RX3 15 "TurnedFloors$Paper" "digits" "[I") (by decide +kernel)) (fun _ h9 => h9) rfl dX3_numberOfOrder_30 ?_
            refine lv_iload_n hx hb dX3_numberOfOrder_33 rfl (lv_at hl 2 rfl) ?_
            refine va_iald hx hb hK hP 1 0 rfl rfl (by simp only [vp_in]; decide) dX3_numberOfOrder_34 ?_
            refine kz_topi 3 (by first | rfl | decide +kernel) ?_
            refine lv_icmp_le (tgt := 42) hx hb dX3_numberOfOrder_35 (by decide) (fun _ => ?_) (fun h => absurd (by decide) h)
            refine lv_iconst (v := 0) hx hb dX3_numberOfOrder_42 (by decide) ?_
            refine kz_ki (wc := []) (wr := [(x_paper, .inr (3, [.ref x_paper_ranks, .ref x_paper_digits, .ref x_paper_barred, .ref x_paper_pays, .ref x_paper_measuredBarred, .ref x_paper_buckets, .ref q_5, .ref q_6, .ref q_7, .ref q_1, .ref q_2, .ref q_3, .ref q_4, .int 0, .int 1, .int 0, .int 0, .int (-1), .int (-1), .int 0])), (x_paper_digits, .inl (ty 0, 6, .inl (upd (upd (upd (upd (upd (upd (upd (upd (upd (upd (upd (upd (upd (upd (upd (upd (upd (upd (upd (upd (upd (upd (upd (upd (upd (upd (upd (fun _ => 0) 0 0) 0 0) 1 1) 0 0) 1 1) 2 2) 0 0) 1 1) 2 2) 3 3) 0 0) 1 1) 2 2) 3 3) 4 4) 0 0) 1 1) 2 2) 3 3) 4 4) 5 5) 0 0) 1 1) 2 2) 3 3) 4 4) 5 5)))]) (va_runSN (As := [.int 0]) (rest := [.int 0]) ⟨hx, hb, hml, hown, hts⟩ (kcX9_bit l D ty eo _ 0) ⟨va_cnB 1 hts gX3_numberOfOrder_X9_bit_n133 rfl rfl rfl (hN.1 _ (by decide +kernel : (.methodLinkNest "TurnedFloors$Paper" 133 yX9_bit "TurnedFloors" : Cond) ∈ kzN1)) (hts (.initialized RX9) (by decide +kernel)) (by decide +kernel) ⟨Nat.le_of_ble_eq_true rfl, Nat.le_of_ble_eq_true rfl⟩, hts (.static yX9_bit) (by decide +kernel), trivial⟩ (kz_preS hK hN hE hP hD hS hA [] (by decide) rfl) rfl rfl hl.1 rfl (lv_room (Nat.le_of_ble_eq_true rfl)) dX3_numberOfOrder_43 ⟨Nat.le_of_ble_eq_true rfl, Nat.le_of_ble_eq_true rfl⟩) hP hD hS hA [] [0, 1] rfl rfl (by decide) (by decide) (fun r u H locs hw hp hd hs => ?_)
            rcases hw with ⟨c_11, rfl, rfl⟩ | ⟨c_12, rfl, rfl⟩
            · refine kz_re (w2 := [(x_paper, .inr (3, [.ref x_paper_ranks, .ref x_paper_digits, .ref x_paper_barred, .ref x_paper_pays, .ref x_paper_measuredBarred, .ref x_paper_buckets, .ref q_5, .ref q_6, .ref q_7, .ref q_1, .ref q_2, .ref q_3, .ref q_4, .int 0, .int 1, .int 0, .int 0, .int (-1), .int (-1), .int 0])), (x_paper_digits, .inl (ty 0, 6, .inl (upd (upd (upd (upd (upd (upd (upd (upd (upd (upd (upd (upd (upd (upd (upd (upd (upd (upd (upd (upd (upd (upd (upd (upd (upd (upd (upd (fun _ => 0) 0 0) 0 0) 1 1) 0 0) 1 1) 2 2) 0 0) 1 1) 2 2) 3 3) 0 0) 1 1) 2 2) 3 3) 4 4) 0 0) 1 1) 2 2) 3 3) 4 4) 5 5) 0 0) 1 1) 2 2) 3 3) 4 4) 5 5)))]) hp hd hs rfl ?_
              clear hp hd hs hP hD hS
              intro hP hD hS
              refine lv_iadd hx hb dX3_numberOfOrder_46 ?_
              refine kz_topi 0 (by first | rfl | decide +kernel) ?_
              refine lv_istore_n (lv' := [(3, .int 0), (4, .int 2), (2, .int 3), (1, .int 0), (0, .ref x_paper)]) hx hb dX3_numberOfOrder_47 rfl hl (by decide) rfl (fun ls hl => ?_)
              refine lv_iinc (v := 3) (lv' := [(4, .int 3), (3, .int 0), (2, .int 3), (1, .int 0), (0, .ref x_paper)]) hx hb dX3_numberOfOrder_48 hl (k := 1) rfl (by decide) (by decide) rfl (fun ls hl => ?_)
              refine lv_goto (tgt := 15) hx hb dX3_numberOfOrder_51 (by decide) ?_
              refine lv_iload hx hb dX3_numberOfOrder_15 (lv_at hl 0 rfl) ?_
              refine lv_iload_n hx hb dX3_numberOfOrder_17 rfl (lv_at hl 2 rfl) ?_
              refine lv_icmp_ge (tgt := 54) hx hb dX3_numberOfOrder_18 (by decide) (fun _ => ?_) (fun h => absurd (by decide) h)
              refine lv_iload_n hx hb dX3_numberOfOrder_54 rfl (lv_at hl 3 rfl) ?_
              refine lv_iload_n hx hb dX3_numberOfOrder_55 rfl (lv_at hl 1 rfl) ?_
              refine va_gets hx hb hE.1 hS hown (hts (.fieldLink RX3 76 "TurnedFloors$Paper" "FACTORIALS" "[I") (by decide +kernel)) (fun _ h9 => h9) dX3_numberOfOrder_56 ?_
              refine lv_iload_n hx hb dX3_numberOfOrder_59 rfl (lv_at hl 2 rfl) ?_
              refine va_ti (v := .int 6) hx hb hE.2.1 hS (by simp only [vp_in]; decide) rfl dX3_numberOfOrder_60 ?_
              refine lv_imul hx hb dX3_numberOfOrder_61 ?_
              refine kz_topi 0 (by first | rfl | decide +kernel) ?_
              refine lv_iadd hx hb dX3_numberOfOrder_62 ?_
              refine kz_topi 0 (by first | rfl | decide +kernel) ?_
              refine lv_istore_n (lv' := [(1, .int 0), (4, .int 3), (3, .int 0), (2, .int 3), (0, .ref x_paper)]) hx hb dX3_numberOfOrder_63 rfl hl (by decide) rfl (fun ls hl => ?_)
              refine lv_iinc (v := 4) (lv' := [(2, .int 4), (1, .int 0), (4, .int 3), (3, .int 0), (0, .ref x_paper)]) hx hb dX3_numberOfOrder_64 hl (k := 3) rfl (by decide) (by decide) rfl (fun ls hl => ?_)
              refine lv_goto (tgt := 4) hx hb dX3_numberOfOrder_67 (by decide) ?_
              refine lv_iload_n hx hb dX3_numberOfOrder_4 rfl (lv_at hl 0 rfl) ?_
              refine lv_bipush (v := 6) hx hb dX3_numberOfOrder_5 (by decide) ?_
              refine lv_icmp_ge (tgt := 70) hx hb dX3_numberOfOrder_7 (by decide) (fun h => absurd h (by decide)) (fun _ => ?_)
              refine lv_iconst (v := 0) hx hb dX3_numberOfOrder_10 (by decide) ?_
              refine lv_istore_n (lv' := [(3, .int 0), (2, .int 4), (1, .int 0), (4, .int 3), (0, .ref x_paper)]) hx hb dX3_numberOfOrder_11 rfl hl (by decide) rfl (fun ls hl => ?_)
              refine lv_iconst (v := 0) hx hb dX3_numberOfOrder_12 (by decide) ?_
              refine lv_istore (lv' := [(4, .int 0), (3, .int 0), (2, .int 4), (1, .int 0), (0, .ref x_paper)]) hx hb dX3_numberOfOrder_13 hl (by decide) rfl (fun ls hl => ?_)
              refine lv_iload hx hb dX3_numberOfOrder_15 (lv_at hl 0 rfl) ?_
              refine lv_iload_n hx hb dX3_numberOfOrder_17 rfl (lv_at hl 2 rfl) ?_
              refine lv_icmp_ge (tgt := 54) hx hb dX3_numberOfOrder_18 (by decide) (fun h => absurd h (by decide)) (fun _ => ?_)
              refine lv_iload_n hx hb dX3_numberOfOrder_21 rfl (lv_at hl 1 rfl) ?_
              refine lv_aload_n hx hb dX3_numberOfOrder_22 rfl (lv_at hl 4 rfl) ?_
              refine va_get (D := D) (ci := 3) (v := .ref x_paper_digits) (C := RX3) (T := TX3) (N := 20) hx hb hts (by decide +kernel) hown hK hP 0 rfl rfl 1 (by decide) (hts (.fieldLink RX3 15 "TurnedFloors$Paper" "digits" "[I") (by decide +kernel)) (fun _ h9 => h9) rfl dX3_numberOfOrder_23 ?_
              refine lv_iload hx hb dX3_numberOfOrder_26 (lv_at hl 0 rfl) ?_
              refine va_iald hx hb hK hP 1 0 rfl rfl (by simp only [vp_in]; decide) dX3_numberOfOrder_28 ?_
              refine kz_topi 0 (by first | rfl | decide +kernel) ?_
              refine lv_aload_n hx hb dX3_numberOfOrder_29 rfl (lv_at hl 4 rfl) ?_
              refine va_get (D := D) (ci := 3) (v := .ref x_paper_digits) (C := RX3) (T := TX3) (N := 20) hx hb hts (by decide +kernel) hown hK hP 0 rfl rfl 1 (by decide) (hts (.fieldLink RX3 15 "TurnedFloors$Paper" "digits" "[I") (by decide +kernel)) (fun _ h9 => h9) rfl dX3_numberOfOrder_30 ?_
              refine lv_iload_n hx hb dX3_numberOfOrder_33 rfl (lv_at hl 2 rfl) ?_
              refine va_iald hx hb hK hP 1 0 rfl rfl (by simp only [vp_in]; decide) dX3_numberOfOrder_34 ?_
              refine kz_topi 4 (by first | rfl | decide +kernel) ?_
              refine lv_icmp_le (tgt := 42) hx hb dX3_numberOfOrder_35 (by decide) (fun _ => ?_) (fun h => absurd (by decide) h)
              refine lv_iconst (v := 0) hx hb dX3_numberOfOrder_42 (by decide) ?_
              refine kz_ki (wc := []) (wr := [(x_paper, .inr (3, [.ref x_paper_ranks, .ref x_paper_digits, .ref x_paper_barred, .ref x_paper_pays, .ref x_paper_measuredBarred, .ref x_paper_buckets, .ref q_5, .ref q_6, .ref q_7, .ref q_1, .ref q_2, .ref q_3, .ref q_4, .int 0, .int 1, .int 0, .int 0, .int (-1), .int (-1), .int 0])), (x_paper_digits, .inl (ty 0, 6, .inl (upd (upd (upd (upd (upd (upd (upd (upd (upd (upd (upd (upd (upd (upd (upd (upd (upd (upd (upd (upd (upd (upd (upd (upd (upd (upd (upd (fun _ => 0) 0 0) 0 0) 1 1) 0 0) 1 1) 2 2) 0 0) 1 1) 2 2) 3 3) 0 0) 1 1) 2 2) 3 3) 4 4) 0 0) 1 1) 2 2) 3 3) 4 4) 5 5) 0 0) 1 1) 2 2) 3 3) 4 4) 5 5)))]) (va_runSN (As := [.int 0]) (rest := [.int 0]) ⟨hx, hb, hml, hown, hts⟩ (kcX9_bit l D ty eo _ 0) ⟨va_cnB 1 hts gX3_numberOfOrder_X9_bit_n133 rfl rfl rfl (hN.1 _ (by decide +kernel : (.methodLinkNest "TurnedFloors$Paper" 133 yX9_bit "TurnedFloors" : Cond) ∈ kzN1)) (hts (.initialized RX9) (by decide +kernel)) (by decide +kernel) ⟨Nat.le_of_ble_eq_true rfl, Nat.le_of_ble_eq_true rfl⟩, hts (.static yX9_bit) (by decide +kernel), trivial⟩ (kz_preS hK hN hE hP hD hS hA [] (by decide) rfl) rfl rfl hl.1 rfl (lv_room (Nat.le_of_ble_eq_true rfl)) dX3_numberOfOrder_43 ⟨Nat.le_of_ble_eq_true rfl, Nat.le_of_ble_eq_true rfl⟩) hP hD hS hA [] [0, 1] rfl rfl (by decide) (by decide) (fun r u H locs hw hp hd hs => ?_)
              rcases hw with ⟨c_13, rfl, rfl⟩ | ⟨c_14, rfl, rfl⟩
              · refine kz_re (w2 := [(x_paper, .inr (3, [.ref x_paper_ranks, .ref x_paper_digits, .ref x_paper_barred, .ref x_paper_pays, .ref x_paper_measuredBarred, .ref x_paper_buckets, .ref q_5, .ref q_6, .ref q_7, .ref q_1, .ref q_2, .ref q_3, .ref q_4, .int 0, .int 1, .int 0, .int 0, .int (-1), .int (-1), .int 0])), (x_paper_digits, .inl (ty 0, 6, .inl (upd (upd (upd (upd (upd (upd (upd (upd (upd (upd (upd (upd (upd (upd (upd (upd (upd (upd (upd (upd (upd (upd (upd (upd (upd (upd (upd (fun _ => 0) 0 0) 0 0) 1 1) 0 0) 1 1) 2 2) 0 0) 1 1) 2 2) 3 3) 0 0) 1 1) 2 2) 3 3) 4 4) 0 0) 1 1) 2 2) 3 3) 4 4) 5 5) 0 0) 1 1) 2 2) 3 3) 4 4) 5 5)))]) hp hd hs rfl ?_
                clear hp hd hs hP hD hS
                intro hP hD hS
                refine lv_iadd hx hb dX3_numberOfOrder_46 ?_
                refine kz_topi 0 (by first | rfl | decide +kernel) ?_
                refine lv_istore_n (lv' := [(3, .int 0), (4, .int 0), (2, .int 4), (1, .int 0), (0, .ref x_paper)]) hx hb dX3_numberOfOrder_47 rfl hl (by decide) rfl (fun ls hl => ?_)
                refine lv_iinc (v := 1) (lv' := [(4, .int 1), (3, .int 0), (2, .int 4), (1, .int 0), (0, .ref x_paper)]) hx hb dX3_numberOfOrder_48 hl (k := 1) rfl (by decide) (by decide) rfl (fun ls hl => ?_)
                refine lv_goto (tgt := 15) hx hb dX3_numberOfOrder_51 (by decide) ?_
                refine lv_iload hx hb dX3_numberOfOrder_15 (lv_at hl 0 rfl) ?_
                refine lv_iload_n hx hb dX3_numberOfOrder_17 rfl (lv_at hl 2 rfl) ?_
                refine lv_icmp_ge (tgt := 54) hx hb dX3_numberOfOrder_18 (by decide) (fun h => absurd h (by decide)) (fun _ => ?_)
                refine lv_iload_n hx hb dX3_numberOfOrder_21 rfl (lv_at hl 1 rfl) ?_
                refine lv_aload_n hx hb dX3_numberOfOrder_22 rfl (lv_at hl 4 rfl) ?_
                refine va_get (D := D) (ci := 3) (v := .ref x_paper_digits) (C := RX3) (T := TX3) (N := 20) hx hb hts (by decide +kernel) hown hK hP 0 rfl rfl 1 (by decide) (hts (.fieldLink RX3 15 "TurnedFloors$Paper" "digits" "[I") (by decide +kernel)) (fun _ h9 => h9) rfl dX3_numberOfOrder_23 ?_
                refine lv_iload hx hb dX3_numberOfOrder_26 (lv_at hl 0 rfl) ?_
                refine va_iald hx hb hK hP 1 0 rfl rfl (by simp only [vp_in]; decide) dX3_numberOfOrder_28 ?_
                refine kz_topi 1 (by first | rfl | decide +kernel) ?_
                refine lv_aload_n hx hb dX3_numberOfOrder_29 rfl (lv_at hl 4 rfl) ?_
                refine va_get (D := D) (ci := 3) (v := .ref x_paper_digits) (C := RX3) (T := TX3) (N := 20) hx hb hts (by decide +kernel) hown hK hP 0 rfl rfl 1 (by decide) (hts (.fieldLink RX3 15 "TurnedFloors$Paper" "digits" "[I") (by decide +kernel)) (fun _ h9 => h9) rfl dX3_numberOfOrder_30 ?_
                refine lv_iload_n hx hb dX3_numberOfOrder_33 rfl (lv_at hl 2 rfl) ?_
                refine va_iald hx hb hK hP 1 0 rfl rfl (by simp only [vp_in]; decide) dX3_numberOfOrder_34 ?_
                refine kz_topi 4 (by first | rfl | decide +kernel) ?_
                refine lv_icmp_le (tgt := 42) hx hb dX3_numberOfOrder_35 (by decide) (fun _ => ?_) (fun h => absurd (by decide) h)
                refine lv_iconst (v := 0) hx hb dX3_numberOfOrder_42 (by decide) ?_
                refine kz_ki (wc := []) (wr := [(x_paper, .inr (3, [.ref x_paper_ranks, .ref x_paper_digits, .ref x_paper_barred, .ref x_paper_pays, .ref x_paper_measuredBarred, .ref x_paper_buckets, .ref q_5, .ref q_6, .ref q_7, .ref q_1, .ref q_2, .ref q_3, .ref q_4, .int 0, .int 1, .int 0, .int 0, .int (-1), .int (-1), .int 0])), (x_paper_digits, .inl (ty 0, 6, .inl (upd (upd (upd (upd (upd (upd (upd (upd (upd (upd (upd (upd (upd (upd (upd (upd (upd (upd (upd (upd (upd (upd (upd (upd (upd (upd (upd (fun _ => 0) 0 0) 0 0) 1 1) 0 0) 1 1) 2 2) 0 0) 1 1) 2 2) 3 3) 0 0) 1 1) 2 2) 3 3) 4 4) 0 0) 1 1) 2 2) 3 3) 4 4) 5 5) 0 0) 1 1) 2 2) 3 3) 4 4) 5 5)))]) (va_runSN (As := [.int 0]) (rest := [.int 0]) ⟨hx, hb, hml, hown, hts⟩ (kcX9_bit l D ty eo _ 0) ⟨va_cnB 1 hts gX3_numberOfOrder_X9_bit_n133 rfl rfl rfl (hN.1 _ (by decide +kernel : (.methodLinkNest "TurnedFloors$Paper" 133 yX9_bit "TurnedFloors" : Cond) ∈ kzN1)) (hts (.initialized RX9) (by decide +kernel)) (by decide +kernel) ⟨Nat.le_of_ble_eq_true rfl, Nat.le_of_ble_eq_true rfl⟩, hts (.static yX9_bit) (by decide +kernel), trivial⟩ (kz_preS hK hN hE hP hD hS hA [] (by decide) rfl) rfl rfl hl.1 rfl (lv_room (Nat.le_of_ble_eq_true rfl)) dX3_numberOfOrder_43 ⟨Nat.le_of_ble_eq_true rfl, Nat.le_of_ble_eq_true rfl⟩) hP hD hS hA [] [0, 1] rfl rfl (by decide) (by decide) (fun r u H locs hw hp hd hs => ?_)
                rcases hw with ⟨c_15, rfl, rfl⟩ | ⟨c_16, rfl, rfl⟩
                · refine kz_re (w2 := [(x_paper, .inr (3, [.ref x_paper_ranks, .ref x_paper_digits, .ref x_paper_barred, .ref x_paper_pays, .ref x_paper_measuredBarred, .ref x_paper_buckets, .ref q_5, .ref q_6, .ref q_7, .ref q_1, .ref q_2, .ref q_3, .ref q_4, .int 0, .int 1, .int 0, .int 0, .int (-1), .int (-1), .int 0])), (x_paper_digits, .inl (ty 0, 6, .inl (upd (upd (upd (upd (upd (upd (upd (upd (upd (upd (upd (upd (upd (upd (upd (upd (upd (upd (upd (upd (upd (upd (upd (upd (upd (upd (upd (fun _ => 0) 0 0) 0 0) 1 1) 0 0) 1 1) 2 2) 0 0) 1 1) 2 2) 3 3) 0 0) 1 1) 2 2) 3 3) 4 4) 0 0) 1 1) 2 2) 3 3) 4 4) 5 5) 0 0) 1 1) 2 2) 3 3) 4 4) 5 5)))]) hp hd hs rfl ?_
                  clear hp hd hs hP hD hS
                  intro hP hD hS
                  refine lv_iadd hx hb dX3_numberOfOrder_46 ?_
                  refine kz_topi 0 (by first | rfl | decide +kernel) ?_
                  refine lv_istore_n (lv' := [(3, .int 0), (4, .int 1), (2, .int 4), (1, .int 0), (0, .ref x_paper)]) hx hb dX3_numberOfOrder_47 rfl hl (by decide) rfl (fun ls hl => ?_)
                  refine lv_iinc (v := 2) (lv' := [(4, .int 2), (3, .int 0), (2, .int 4), (1, .int 0), (0, .ref x_paper)]) hx hb dX3_numberOfOrder_48 hl (k := 1) rfl (by decide) (by decide) rfl (fun ls hl => ?_)
                  refine lv_goto (tgt := 15) hx hb dX3_numberOfOrder_51 (by decide) ?_
                  refine lv_iload hx hb dX3_numberOfOrder_15 (lv_at hl 0 rfl) ?_
                  refine lv_iload_n hx hb dX3_numberOfOrder_17 rfl (lv_at hl 2 rfl) ?_
                  refine lv_icmp_ge (tgt := 54) hx hb dX3_numberOfOrder_18 (by decide) (fun h => absurd h (by decide)) (fun _ => ?_)
                  refine lv_iload_n hx hb dX3_numberOfOrder_21 rfl (lv_at hl 1 rfl) ?_
                  refine lv_aload_n hx hb dX3_numberOfOrder_22 rfl (lv_at hl 4 rfl) ?_
                  refine va_get (D := D) (ci := 3) (v := .ref x_paper_digits) (C := RX3) (T := TX3) (N := 20) hx hb hts (by decide +kernel) hown hK hP 0 rfl rfl 1 (by decide) (hts (.fieldLink RX3 15 "TurnedFloors$Paper" "digits" "[I") (by decide +kernel)) (fun _ h9 => h9) rfl dX3_numberOfOrder_23 ?_
                  refine lv_iload hx hb dX3_numberOfOrder_26 (lv_at hl 0 rfl) ?_
                  refine va_iald hx hb hK hP 1 0 rfl rfl (by simp only [vp_in]; decide) dX3_numberOfOrder_28 ?_
                  refine kz_topi 2 (by first | rfl | decide +kernel) ?_
                  refine lv_aload_n hx hb dX3_numberOfOrder_29 rfl (lv_at hl 4 rfl) ?_
                  refine va_get (D := D) (ci := 3) (v := .ref x_paper_digits) (C := RX3) (T := TX3) (N := 20) hx hb hts (by decide +kernel) hown hK hP 0 rfl rfl 1 (by decide) (hts (.fieldLink RX3 15 "TurnedFloors$Paper" "digits" "[I") (by decide +kernel)) (fun _ h9 => h9) rfl dX3_numberOfOrder_30 ?_
                  refine lv_iload_n hx hb dX3_numberOfOrder_33 rfl (lv_at hl 2 rfl) ?_
                  refine va_iald hx hb hK hP 1 0 rfl rfl (by simp only [vp_in]; decide) dX3_numberOfOrder_34 ?_
                  refine kz_topi 4 (by first | rfl | decide +kernel) ?_
                  refine lv_icmp_le (tgt := 42) hx hb dX3_numberOfOrder_35 (by decide) (fun _ => ?_) (fun h => absurd (by decide) h)
                  refine lv_iconst (v := 0) hx hb dX3_numberOfOrder_42 (by decide) ?_
                  refine kz_ki (wc := []) (wr := [(x_paper, .inr (3, [.ref x_paper_ranks, .ref x_paper_digits, .ref x_paper_barred, .ref x_paper_pays, .ref x_paper_measuredBarred, .ref x_paper_buckets, .ref q_5, .ref q_6, .ref q_7, .ref q_1, .ref q_2, .ref q_3, .ref q_4, .int 0, .int 1, .int 0, .int 0, .int (-1), .int (-1), .int 0])), (x_paper_digits, .inl (ty 0, 6, .inl (upd (upd (upd (upd (upd (upd (upd (upd (upd (upd (upd (upd (upd (upd (upd (upd (upd (upd (upd (upd (upd (upd (upd (upd (upd (upd (upd (fun _ => 0) 0 0) 0 0) 1 1) 0 0) 1 1) 2 2) 0 0) 1 1) 2 2) 3 3) 0 0) 1 1) 2 2) 3 3) 4 4) 0 0) 1 1) 2 2) 3 3) 4 4) 5 5) 0 0) 1 1) 2 2) 3 3) 4 4) 5 5)))]) (va_runSN (As := [.int 0]) (rest := [.int 0]) ⟨hx, hb, hml, hown, hts⟩ (kcX9_bit l D ty eo _ 0) ⟨va_cnB 1 hts gX3_numberOfOrder_X9_bit_n133 rfl rfl rfl (hN.1 _ (by decide +kernel : (.methodLinkNest "TurnedFloors$Paper" 133 yX9_bit "TurnedFloors" : Cond) ∈ kzN1)) (hts (.initialized RX9) (by decide +kernel)) (by decide +kernel) ⟨Nat.le_of_ble_eq_true rfl, Nat.le_of_ble_eq_true rfl⟩, hts (.static yX9_bit) (by decide +kernel), trivial⟩ (kz_preS hK hN hE hP hD hS hA [] (by decide) rfl) rfl rfl hl.1 rfl (lv_room (Nat.le_of_ble_eq_true rfl)) dX3_numberOfOrder_43 ⟨Nat.le_of_ble_eq_true rfl, Nat.le_of_ble_eq_true rfl⟩) hP hD hS hA [] [0, 1] rfl rfl (by decide) (by decide) (fun r u H locs hw hp hd hs => ?_)
                  rcases hw with ⟨c_17, rfl, rfl⟩ | ⟨c_18, rfl, rfl⟩
                  · refine kz_re (w2 := [(x_paper, .inr (3, [.ref x_paper_ranks, .ref x_paper_digits, .ref x_paper_barred, .ref x_paper_pays, .ref x_paper_measuredBarred, .ref x_paper_buckets, .ref q_5, .ref q_6, .ref q_7, .ref q_1, .ref q_2, .ref q_3, .ref q_4, .int 0, .int 1, .int 0, .int 0, .int (-1), .int (-1), .int 0])), (x_paper_digits, .inl (ty 0, 6, .inl (upd (upd (upd (upd (upd (upd (upd (upd (upd (upd (upd (upd (upd (upd (upd (upd (upd (upd (upd (upd (upd (upd (upd (upd (upd (upd (upd (fun _ => 0) 0 0) 0 0) 1 1) 0 0) 1 1) 2 2) 0 0) 1 1) 2 2) 3 3) 0 0) 1 1) 2 2) 3 3) 4 4) 0 0) 1 1) 2 2) 3 3) 4 4) 5 5) 0 0) 1 1) 2 2) 3 3) 4 4) 5 5)))]) hp hd hs rfl ?_
                    clear hp hd hs hP hD hS
                    intro hP hD hS
                    refine lv_iadd hx hb dX3_numberOfOrder_46 ?_
                    refine kz_topi 0 (by first | rfl | decide +kernel) ?_
                    refine lv_istore_n (lv' := [(3, .int 0), (4, .int 2), (2, .int 4), (1, .int 0), (0, .ref x_paper)]) hx hb dX3_numberOfOrder_47 rfl hl (by decide) rfl (fun ls hl => ?_)
                    refine lv_iinc (v := 3) (lv' := [(4, .int 3), (3, .int 0), (2, .int 4), (1, .int 0), (0, .ref x_paper)]) hx hb dX3_numberOfOrder_48 hl (k := 1) rfl (by decide) (by decide) rfl (fun ls hl => ?_)
                    refine lv_goto (tgt := 15) hx hb dX3_numberOfOrder_51 (by decide) ?_
                    refine lv_iload hx hb dX3_numberOfOrder_15 (lv_at hl 0 rfl) ?_
                    refine lv_iload_n hx hb dX3_numberOfOrder_17 rfl (lv_at hl 2 rfl) ?_
                    refine lv_icmp_ge (tgt := 54) hx hb dX3_numberOfOrder_18 (by decide) (fun h => absurd h (by decide)) (fun _ => ?_)
                    refine lv_iload_n hx hb dX3_numberOfOrder_21 rfl (lv_at hl 1 rfl) ?_
                    refine lv_aload_n hx hb dX3_numberOfOrder_22 rfl (lv_at hl 4 rfl) ?_
                    refine va_get (D := D) (ci := 3) (v := .ref x_paper_digits) (C := RX3) (T := TX3) (N := 20) hx hb hts (by decide +kernel) hown hK hP 0 rfl rfl 1 (by decide) (hts (.fieldLink RX3 15 "TurnedFloors$Paper" "digits" "[I") (by decide +kernel)) (fun _ h9 => h9) rfl dX3_numberOfOrder_23 ?_
                    refine lv_iload hx hb dX3_numberOfOrder_26 (lv_at hl 0 rfl) ?_
                    refine va_iald hx hb hK hP 1 0 rfl rfl (by simp only [vp_in]; decide) dX3_numberOfOrder_28 ?_
                    refine kz_topi 3 (by first | rfl | decide +kernel) ?_
                    refine lv_aload_n hx hb dX3_numberOfOrder_29 rfl (lv_at hl 4 rfl) ?_
                    refine va_get (D := D) (ci := 3) (v := .ref x_paper_digits) (C := RX3) (T := TX3) (N := 20) hx hb hts (by decide +kernel) hown hK hP 0 rfl rfl 1 (by decide) (hts (.fieldLink RX3 15 "TurnedFloors$Paper" "digits" "[I") (by decide +kernel)) (fun _ h9 => h9) rfl dX3_numberOfOrder_30 ?_
                    refine lv_iload_n hx hb dX3_numberOfOrder_33 rfl (lv_at hl 2 rfl) ?_
                    refine va_iald hx hb hK hP 1 0 rfl rfl (by simp only [vp_in]; decide) dX3_numberOfOrder_34 ?_
                    refine kz_topi 4 (by first | rfl | decide +kernel) ?_
                    refine lv_icmp_le (tgt := 42) hx hb dX3_numberOfOrder_35 (by decide) (fun _ => ?_) (fun h => absurd (by decide) h)
                    refine lv_iconst (v := 0) hx hb dX3_numberOfOrder_42 (by decide) ?_
                    refine kz_ki (wc := []) (wr := [(x_paper, .inr (3, [.ref x_paper_ranks, .ref x_paper_digits, .ref x_paper_barred, .ref x_paper_pays, .ref x_paper_measuredBarred, .ref x_paper_buckets, .ref q_5, .ref q_6, .ref q_7, .ref q_1, .ref q_2, .ref q_3, .ref q_4, .int 0, .int 1, .int 0, .int 0, .int (-1), .int (-1), .int 0])), (x_paper_digits, .inl (ty 0, 6, .inl (upd (upd (upd (upd (upd (upd (upd (upd (upd (upd (upd (upd (upd (upd (upd (upd (upd (upd (upd (upd (upd (upd (upd (upd (upd (upd (upd (fun _ => 0) 0 0) 0 0) 1 1) 0 0) 1 1) 2 2) 0 0) 1 1) 2 2) 3 3) 0 0) 1 1) 2 2) 3 3) 4 4) 0 0) 1 1) 2 2) 3 3) 4 4) 5 5) 0 0) 1 1) 2 2) 3 3) 4 4) 5 5)))]) (va_runSN (As := [.int 0]) (rest := [.int 0]) ⟨hx, hb, hml, hown, hts⟩ (kcX9_bit l D ty eo _ 0) ⟨va_cnB 1 hts gX3_numberOfOrder_X9_bit_n133 rfl rfl rfl (hN.1 _ (by decide +kernel : (.methodLinkNest "TurnedFloors$Paper" 133 yX9_bit "TurnedFloors" : Cond) ∈ kzN1)) (hts (.initialized RX9) (by decide +kernel)) (by decide +kernel) ⟨Nat.le_of_ble_eq_true rfl, Nat.le_of_ble_eq_true rfl⟩, hts (.static yX9_bit) (by decide +kernel), trivial⟩ (kz_preS hK hN hE hP hD hS hA [] (by decide) rfl) rfl rfl hl.1 rfl (lv_room (Nat.le_of_ble_eq_true rfl)) dX3_numberOfOrder_43 ⟨Nat.le_of_ble_eq_true rfl, Nat.le_of_ble_eq_true rfl⟩) hP hD hS hA [] [0, 1] rfl rfl (by decide) (by decide) (fun r u H locs hw hp hd hs => ?_)
                    rcases hw with ⟨c_19, rfl, rfl⟩ | ⟨c_20, rfl, rfl⟩
                    · refine kz_re (w2 := [(x_paper, .inr (3, [.ref x_paper_ranks, .ref x_paper_digits, .ref x_paper_barred, .ref x_paper_pays, .ref x_paper_measuredBarred, .ref x_paper_buckets, .ref q_5, .ref q_6, .ref q_7, .ref q_1, .ref q_2, .ref q_3, .ref q_4, .int 0, .int 1, .int 0, .int 0, .int (-1), .int (-1), .int 0])), (x_paper_digits, .inl (ty 0, 6, .inl (upd (upd (upd (upd (upd (upd (upd (upd (upd (upd (upd (upd (upd (upd (upd (upd (upd (upd (upd (upd (upd (upd (upd (upd (upd (upd (upd (fun _ => 0) 0 0) 0 0) 1 1) 0 0) 1 1) 2 2) 0 0) 1 1) 2 2) 3 3) 0 0) 1 1) 2 2) 3 3) 4 4) 0 0) 1 1) 2 2) 3 3) 4 4) 5 5) 0 0) 1 1) 2 2) 3 3) 4 4) 5 5)))]) hp hd hs rfl ?_
                      clear hp hd hs hP hD hS
                      intro hP hD hS
                      refine lv_iadd hx hb dX3_numberOfOrder_46 ?_
                      refine kz_topi 0 (by first | rfl | decide +kernel) ?_
                      refine lv_istore_n (lv' := [(3, .int 0), (4, .int 3), (2, .int 4), (1, .int 0), (0, .ref x_paper)]) hx hb dX3_numberOfOrder_47 rfl hl (by decide) rfl (fun ls hl => ?_)
                      refine lv_iinc (v := 4) (lv' := [(4, .int 4), (3, .int 0), (2, .int 4), (1, .int 0), (0, .ref x_paper)]) hx hb dX3_numberOfOrder_48 hl (k := 1) rfl (by decide) (by decide) rfl (fun ls hl => ?_)
                      refine lv_goto (tgt := 15) hx hb dX3_numberOfOrder_51 (by decide) ?_
                      refine lv_iload hx hb dX3_numberOfOrder_15 (lv_at hl 0 rfl) ?_
                      refine lv_iload_n hx hb dX3_numberOfOrder_17 rfl (lv_at hl 2 rfl) ?_
                      refine lv_icmp_ge (tgt := 54) hx hb dX3_numberOfOrder_18 (by decide) (fun _ => ?_) (fun h => absurd (by decide) h)
                      refine lv_iload_n hx hb dX3_numberOfOrder_54 rfl (lv_at hl 3 rfl) ?_
                      refine lv_iload_n hx hb dX3_numberOfOrder_55 rfl (lv_at hl 1 rfl) ?_
                      refine va_gets hx hb hE.1 hS hown (hts (.fieldLink RX3 76 "TurnedFloors$Paper" "FACTORIALS" "[I") (by decide +kernel)) (fun _ h9 => h9) dX3_numberOfOrder_56 ?_
                      refine lv_iload_n hx hb dX3_numberOfOrder_59 rfl (lv_at hl 2 rfl) ?_
                      refine va_ti (v := .int 24) hx hb hE.2.1 hS (by simp only [vp_in]; decide) rfl dX3_numberOfOrder_60 ?_
                      refine lv_imul hx hb dX3_numberOfOrder_61 ?_
                      refine kz_topi 0 (by first | rfl | decide +kernel) ?_
                      refine lv_iadd hx hb dX3_numberOfOrder_62 ?_
                      refine kz_topi 0 (by first | rfl | decide +kernel) ?_
                      refine lv_istore_n (lv' := [(1, .int 0), (4, .int 4), (3, .int 0), (2, .int 4), (0, .ref x_paper)]) hx hb dX3_numberOfOrder_63 rfl hl (by decide) rfl (fun ls hl => ?_)
                      refine lv_iinc (v := 5) (lv' := [(2, .int 5), (1, .int 0), (4, .int 4), (3, .int 0), (0, .ref x_paper)]) hx hb dX3_numberOfOrder_64 hl (k := 3) rfl (by decide) (by decide) rfl (fun ls hl => ?_)
                      refine lv_goto (tgt := 4) hx hb dX3_numberOfOrder_67 (by decide) ?_
                      refine lv_iload_n hx hb dX3_numberOfOrder_4 rfl (lv_at hl 0 rfl) ?_
                      refine lv_bipush (v := 6) hx hb dX3_numberOfOrder_5 (by decide) ?_
                      refine lv_icmp_ge (tgt := 70) hx hb dX3_numberOfOrder_7 (by decide) (fun h => absurd h (by decide)) (fun _ => ?_)
                      refine lv_iconst (v := 0) hx hb dX3_numberOfOrder_10 (by decide) ?_
                      refine lv_istore_n (lv' := [(3, .int 0), (2, .int 5), (1, .int 0), (4, .int 4), (0, .ref x_paper)]) hx hb dX3_numberOfOrder_11 rfl hl (by decide) rfl (fun ls hl => ?_)
                      refine lv_iconst (v := 0) hx hb dX3_numberOfOrder_12 (by decide) ?_
                      refine lv_istore (lv' := [(4, .int 0), (3, .int 0), (2, .int 5), (1, .int 0), (0, .ref x_paper)]) hx hb dX3_numberOfOrder_13 hl (by decide) rfl (fun ls hl => ?_)
                      refine lv_iload hx hb dX3_numberOfOrder_15 (lv_at hl 0 rfl) ?_
                      refine lv_iload_n hx hb dX3_numberOfOrder_17 rfl (lv_at hl 2 rfl) ?_
                      refine lv_icmp_ge (tgt := 54) hx hb dX3_numberOfOrder_18 (by decide) (fun h => absurd h (by decide)) (fun _ => ?_)
                      refine lv_iload_n hx hb dX3_numberOfOrder_21 rfl (lv_at hl 1 rfl) ?_
                      refine lv_aload_n hx hb dX3_numberOfOrder_22 rfl (lv_at hl 4 rfl) ?_
                      refine va_get (D := D) (ci := 3) (v := .ref x_paper_digits) (C := RX3) (T := TX3) (N := 20) hx hb hts (by decide +kernel) hown hK hP 0 rfl rfl 1 (by decide) (hts (.fieldLink RX3 15 "TurnedFloors$Paper" "digits" "[I") (by decide +kernel)) (fun _ h9 => h9) rfl dX3_numberOfOrder_23 ?_
                      refine lv_iload hx hb dX3_numberOfOrder_26 (lv_at hl 0 rfl) ?_
                      refine va_iald hx hb hK hP 1 0 rfl rfl (by simp only [vp_in]; decide) dX3_numberOfOrder_28 ?_
                      refine kz_topi 0 (by first | rfl | decide +kernel) ?_
                      refine lv_aload_n hx hb dX3_numberOfOrder_29 rfl (lv_at hl 4 rfl) ?_
                      refine va_get (D := D) (ci := 3) (v := .ref x_paper_digits) (C := RX3) (T := TX3) (N := 20) hx hb hts (by decide +kernel) hown hK hP 0 rfl rfl 1 (by decide) (hts (.fieldLink RX3 15 "TurnedFloors$Paper" "digits" "[I") (by decide +kernel)) (fun _ h9 => h9) rfl dX3_numberOfOrder_30 ?_
                      refine lv_iload_n hx hb dX3_numberOfOrder_33 rfl (lv_at hl 2 rfl) ?_
                      refine va_iald hx hb hK hP 1 0 rfl rfl (by simp only [vp_in]; decide) dX3_numberOfOrder_34 ?_
                      refine kz_topi 5 (by first | rfl | decide +kernel) ?_
                      refine lv_icmp_le (tgt := 42) hx hb dX3_numberOfOrder_35 (by decide) (fun _ => ?_) (fun h => absurd (by decide) h)
                      refine lv_iconst (v := 0) hx hb dX3_numberOfOrder_42 (by decide) ?_
                      refine kz_ki (wc := []) (wr := [(x_paper, .inr (3, [.ref x_paper_ranks, .ref x_paper_digits, .ref x_paper_barred, .ref x_paper_pays, .ref x_paper_measuredBarred, .ref x_paper_buckets, .ref q_5, .ref q_6, .ref q_7, .ref q_1, .ref q_2, .ref q_3, .ref q_4, .int 0, .int 1, .int 0, .int 0, .int (-1), .int (-1), .int 0])), (x_paper_digits, .inl (ty 0, 6, .inl (upd (upd (upd (upd (upd (upd (upd (upd (upd (upd (upd (upd (upd (upd (upd (upd (upd (upd (upd (upd (upd (upd (upd (upd (upd (upd (upd (fun _ => 0) 0 0) 0 0) 1 1) 0 0) 1 1) 2 2) 0 0) 1 1) 2 2) 3 3) 0 0) 1 1) 2 2) 3 3) 4 4) 0 0) 1 1) 2 2) 3 3) 4 4) 5 5) 0 0) 1 1) 2 2) 3 3) 4 4) 5 5)))]) (va_runSN (As := [.int 0]) (rest := [.int 0]) ⟨hx, hb, hml, hown, hts⟩ (kcX9_bit l D ty eo _ 0) ⟨va_cnB 1 hts gX3_numberOfOrder_X9_bit_n133 rfl rfl rfl (hN.1 _ (by decide +kernel : (.methodLinkNest "TurnedFloors$Paper" 133 yX9_bit "TurnedFloors" : Cond) ∈ kzN1)) (hts (.initialized RX9) (by decide +kernel)) (by decide +kernel) ⟨Nat.le_of_ble_eq_true rfl, Nat.le_of_ble_eq_true rfl⟩, hts (.static yX9_bit) (by decide +kernel), trivial⟩ (kz_preS hK hN hE hP hD hS hA [] (by decide) rfl) rfl rfl hl.1 rfl (lv_room (Nat.le_of_ble_eq_true rfl)) dX3_numberOfOrder_43 ⟨Nat.le_of_ble_eq_true rfl, Nat.le_of_ble_eq_true rfl⟩) hP hD hS hA [] [0, 1] rfl rfl (by decide) (by decide) (fun r u H locs hw hp hd hs => ?_)
                      rcases hw with ⟨c_21, rfl, rfl⟩ | ⟨c_22, rfl, rfl⟩
                      · refine kz_re (w2 := [(x_paper, .inr (3, [.ref x_paper_ranks, .ref x_paper_digits, .ref x_paper_barred, .ref x_paper_pays, .ref x_paper_measuredBarred, .ref x_paper_buckets, .ref q_5, .ref q_6, .ref q_7, .ref q_1, .ref q_2, .ref q_3, .ref q_4, .int 0, .int 1, .int 0, .int 0, .int (-1), .int (-1), .int 0])), (x_paper_digits, .inl (ty 0, 6, .inl (upd (upd (upd (upd (upd (upd (upd (upd (upd (upd (upd (upd (upd (upd (upd (upd (upd (upd (upd (upd (upd (upd (upd (upd (upd (upd (upd (fun _ => 0) 0 0) 0 0) 1 1) 0 0) 1 1) 2 2) 0 0) 1 1) 2 2) 3 3) 0 0) 1 1) 2 2) 3 3) 4 4) 0 0) 1 1) 2 2) 3 3) 4 4) 5 5) 0 0) 1 1) 2 2) 3 3) 4 4) 5 5)))]) hp hd hs rfl ?_
                        clear hp hd hs hP hD hS
                        intro hP hD hS
                        refine lv_iadd hx hb dX3_numberOfOrder_46 ?_
                        refine kz_topi 0 (by first | rfl | decide +kernel) ?_
                        refine lv_istore_n (lv' := [(3, .int 0), (4, .int 0), (2, .int 5), (1, .int 0), (0, .ref x_paper)]) hx hb dX3_numberOfOrder_47 rfl hl (by decide) rfl (fun ls hl => ?_)
                        refine lv_iinc (v := 1) (lv' := [(4, .int 1), (3, .int 0), (2, .int 5), (1, .int 0), (0, .ref x_paper)]) hx hb dX3_numberOfOrder_48 hl (k := 1) rfl (by decide) (by decide) rfl (fun ls hl => ?_)
                        refine lv_goto (tgt := 15) hx hb dX3_numberOfOrder_51 (by decide) ?_
                        refine lv_iload hx hb dX3_numberOfOrder_15 (lv_at hl 0 rfl) ?_
                        refine lv_iload_n hx hb dX3_numberOfOrder_17 rfl (lv_at hl 2 rfl) ?_
                        refine lv_icmp_ge (tgt := 54) hx hb dX3_numberOfOrder_18 (by decide) (fun h => absurd h (by decide)) (fun _ => ?_)
                        refine lv_iload_n hx hb dX3_numberOfOrder_21 rfl (lv_at hl 1 rfl) ?_
                        refine lv_aload_n hx hb dX3_numberOfOrder_22 rfl (lv_at hl 4 rfl) ?_
                        refine va_get (D := D) (ci := 3) (v := .ref x_paper_digits) (C := RX3) (T := TX3) (N := 20) hx hb hts (by decide +kernel) hown hK hP 0 rfl rfl 1 (by decide) (hts (.fieldLink RX3 15 "TurnedFloors$Paper" "digits" "[I") (by decide +kernel)) (fun _ h9 => h9) rfl dX3_numberOfOrder_23 ?_
                        refine lv_iload hx hb dX3_numberOfOrder_26 (lv_at hl 0 rfl) ?_
                        refine va_iald hx hb hK hP 1 0 rfl rfl (by simp only [vp_in]; decide) dX3_numberOfOrder_28 ?_
                        refine kz_topi 1 (by first | rfl | decide +kernel) ?_
                        refine lv_aload_n hx hb dX3_numberOfOrder_29 rfl (lv_at hl 4 rfl) ?_
                        refine va_get (D := D) (ci := 3) (v := .ref x_paper_digits) (C := RX3) (T := TX3) (N := 20) hx hb hts (by decide +kernel) hown hK hP 0 rfl rfl 1 (by decide) (hts (.fieldLink RX3 15 "TurnedFloors$Paper" "digits" "[I") (by decide +kernel)) (fun _ h9 => h9) rfl dX3_numberOfOrder_30 ?_
                        refine lv_iload_n hx hb dX3_numberOfOrder_33 rfl (lv_at hl 2 rfl) ?_
                        refine va_iald hx hb hK hP 1 0 rfl rfl (by simp only [vp_in]; decide) dX3_numberOfOrder_34 ?_
                        refine kz_topi 5 (by first | rfl | decide +kernel) ?_
                        refine lv_icmp_le (tgt := 42) hx hb dX3_numberOfOrder_35 (by decide) (fun _ => ?_) (fun h => absurd (by decide) h)
                        refine lv_iconst (v := 0) hx hb dX3_numberOfOrder_42 (by decide) ?_
                        refine kz_ki (wc := []) (wr := [(x_paper, .inr (3, [.ref x_paper_ranks, .ref x_paper_digits, .ref x_paper_barred, .ref x_paper_pays, .ref x_paper_measuredBarred, .ref x_paper_buckets, .ref q_5, .ref q_6, .ref q_7, .ref q_1, .ref q_2, .ref q_3, .ref q_4, .int 0, .int 1, .int 0, .int 0, .int (-1), .int (-1), .int 0])), (x_paper_digits, .inl (ty 0, 6, .inl (upd (upd (upd (upd (upd (upd (upd (upd (upd (upd (upd (upd (upd (upd (upd (upd (upd (upd (upd (upd (upd (upd (upd (upd (upd (upd (upd (fun _ => 0) 0 0) 0 0) 1 1) 0 0) 1 1) 2 2) 0 0) 1 1) 2 2) 3 3) 0 0) 1 1) 2 2) 3 3) 4 4) 0 0) 1 1) 2 2) 3 3) 4 4) 5 5) 0 0) 1 1) 2 2) 3 3) 4 4) 5 5)))]) (va_runSN (As := [.int 0]) (rest := [.int 0]) ⟨hx, hb, hml, hown, hts⟩ (kcX9_bit l D ty eo _ 0) ⟨va_cnB 1 hts gX3_numberOfOrder_X9_bit_n133 rfl rfl rfl (hN.1 _ (by decide +kernel : (.methodLinkNest "TurnedFloors$Paper" 133 yX9_bit "TurnedFloors" : Cond) ∈ kzN1)) (hts (.initialized RX9) (by decide +kernel)) (by decide +kernel) ⟨Nat.le_of_ble_eq_true rfl, Nat.le_of_ble_eq_true rfl⟩, hts (.static yX9_bit) (by decide +kernel), trivial⟩ (kz_preS hK hN hE hP hD hS hA [] (by decide) rfl) rfl rfl hl.1 rfl (lv_room (Nat.le_of_ble_eq_true rfl)) dX3_numberOfOrder_43 ⟨Nat.le_of_ble_eq_true rfl, Nat.le_of_ble_eq_true rfl⟩) hP hD hS hA [] [0, 1] rfl rfl (by decide) (by decide) (fun r u H locs hw hp hd hs => ?_)
                        rcases hw with ⟨c_23, rfl, rfl⟩ | ⟨c_24, rfl, rfl⟩
                        · refine kz_re (w2 := [(x_paper, .inr (3, [.ref x_paper_ranks, .ref x_paper_digits, .ref x_paper_barred, .ref x_paper_pays, .ref x_paper_measuredBarred, .ref x_paper_buckets, .ref q_5, .ref q_6, .ref q_7, .ref q_1, .ref q_2, .ref q_3, .ref q_4, .int 0, .int 1, .int 0, .int 0, .int (-1), .int (-1), .int 0])), (x_paper_digits, .inl (ty 0, 6, .inl (upd (upd (upd (upd (upd (upd (upd (upd (upd (upd (upd (upd (upd (upd (upd (upd (upd (upd (upd (upd (upd (upd (upd (upd (upd (upd (upd (fun _ => 0) 0 0) 0 0) 1 1) 0 0) 1 1) 2 2) 0 0) 1 1) 2 2) 3 3) 0 0) 1 1) 2 2) 3 3) 4 4) 0 0) 1 1) 2 2) 3 3) 4 4) 5 5) 0 0) 1 1) 2 2) 3 3) 4 4) 5 5)))]) hp hd hs rfl ?_
                          clear hp hd hs hP hD hS
                          intro hP hD hS
                          refine lv_iadd hx hb dX3_numberOfOrder_46 ?_
                          refine kz_topi 0 (by first | rfl | decide +kernel) ?_
                          refine lv_istore_n (lv' := [(3, .int 0), (4, .int 1), (2, .int 5), (1, .int 0), (0, .ref x_paper)]) hx hb dX3_numberOfOrder_47 rfl hl (by decide) rfl (fun ls hl => ?_)
                          refine lv_iinc (v := 2) (lv' := [(4, .int 2), (3, .int 0), (2, .int 5), (1, .int 0), (0, .ref x_paper)]) hx hb dX3_numberOfOrder_48 hl (k := 1) rfl (by decide) (by decide) rfl (fun ls hl => ?_)
                          refine lv_goto (tgt := 15) hx hb dX3_numberOfOrder_51 (by decide) ?_
                          refine lv_iload hx hb dX3_numberOfOrder_15 (lv_at hl 0 rfl) ?_
                          refine lv_iload_n hx hb dX3_numberOfOrder_17 rfl (lv_at hl 2 rfl) ?_
                          refine lv_icmp_ge (tgt := 54) hx hb dX3_numberOfOrder_18 (by decide) (fun h => absurd h (by decide)) (fun _ => ?_)
                          refine lv_iload_n hx hb dX3_numberOfOrder_21 rfl (lv_at hl 1 rfl) ?_
                          refine lv_aload_n hx hb dX3_numberOfOrder_22 rfl (lv_at hl 4 rfl) ?_
                          refine va_get (D := D) (ci := 3) (v := .ref x_paper_digits) (C := RX3) (T := TX3) (N := 20) hx hb hts (by decide +kernel) hown hK hP 0 rfl rfl 1 (by decide) (hts (.fieldLink RX3 15 "TurnedFloors$Paper" "digits" "[I") (by decide +kernel)) (fun _ h9 => h9) rfl dX3_numberOfOrder_23 ?_
                          refine lv_iload hx hb dX3_numberOfOrder_26 (lv_at hl 0 rfl) ?_
                          refine va_iald hx hb hK hP 1 0 rfl rfl (by simp only [vp_in]; decide) dX3_numberOfOrder_28 ?_
                          refine kz_topi 2 (by first | rfl | decide +kernel) ?_
                          refine lv_aload_n hx hb dX3_numberOfOrder_29 rfl (lv_at hl 4 rfl) ?_
                          refine va_get (D := D) (ci := 3) (v := .ref x_paper_digits) (C := RX3) (T := TX3) (N := 20) hx hb hts (by decide +kernel) hown hK hP 0 rfl rfl 1 (by decide) (hts (.fieldLink RX3 15 "TurnedFloors$Paper" "digits" "[I") (by decide +kernel)) (fun _ h9 => h9) rfl dX3_numberOfOrder_30 ?_
                          refine lv_iload_n hx hb dX3_numberOfOrder_33 rfl (lv_at hl 2 rfl) ?_
                          refine va_iald hx hb hK hP 1 0 rfl rfl (by simp only [vp_in]; decide) dX3_numberOfOrder_34 ?_
                          refine kz_topi 5 (by first | rfl | decide +kernel) ?_
                          refine lv_icmp_le (tgt := 42) hx hb dX3_numberOfOrder_35 (by decide) (fun _ => ?_) (fun h => absurd (by decide) h)
                          refine lv_iconst (v := 0) hx hb dX3_numberOfOrder_42 (by decide) ?_
                          refine kz_ki (wc := []) (wr := [(x_paper, .inr (3, [.ref x_paper_ranks, .ref x_paper_digits, .ref x_paper_barred, .ref x_paper_pays, .ref x_paper_measuredBarred, .ref x_paper_buckets, .ref q_5, .ref q_6, .ref q_7, .ref q_1, .ref q_2, .ref q_3, .ref q_4, .int 0, .int 1, .int 0, .int 0, .int (-1), .int (-1), .int 0])), (x_paper_digits, .inl (ty 0, 6, .inl (upd (upd (upd (upd (upd (upd (upd (upd (upd (upd (upd (upd (upd (upd (upd (upd (upd (upd (upd (upd (upd (upd (upd (upd (upd (upd (upd (fun _ => 0) 0 0) 0 0) 1 1) 0 0) 1 1) 2 2) 0 0) 1 1) 2 2) 3 3) 0 0) 1 1) 2 2) 3 3) 4 4) 0 0) 1 1) 2 2) 3 3) 4 4) 5 5) 0 0) 1 1) 2 2) 3 3) 4 4) 5 5)))]) (va_runSN (As := [.int 0]) (rest := [.int 0]) ⟨hx, hb, hml, hown, hts⟩ (kcX9_bit l D ty eo _ 0) ⟨va_cnB 1 hts gX3_numberOfOrder_X9_bit_n133 rfl rfl rfl (hN.1 _ (by decide +kernel : (.methodLinkNest "TurnedFloors$Paper" 133 yX9_bit "TurnedFloors" : Cond) ∈ kzN1)) (hts (.initialized RX9) (by decide +kernel)) (by decide +kernel) ⟨Nat.le_of_ble_eq_true rfl, Nat.le_of_ble_eq_true rfl⟩, hts (.static yX9_bit) (by decide +kernel), trivial⟩ (kz_preS hK hN hE hP hD hS hA [] (by decide) rfl) rfl rfl hl.1 rfl (lv_room (Nat.le_of_ble_eq_true rfl)) dX3_numberOfOrder_43 ⟨Nat.le_of_ble_eq_true rfl, Nat.le_of_ble_eq_true rfl⟩) hP hD hS hA [] [0, 1] rfl rfl (by decide) (by decide) (fun r u H locs hw hp hd hs => ?_)
                          rcases hw with ⟨c_25, rfl, rfl⟩ | ⟨c_26, rfl, rfl⟩
                          · refine kz_re (w2 := [(x_paper, .inr (3, [.ref x_paper_ranks, .ref x_paper_digits, .ref x_paper_barred, .ref x_paper_pays, .ref x_paper_measuredBarred, .ref x_paper_buckets, .ref q_5, .ref q_6, .ref q_7, .ref q_1, .ref q_2, .ref q_3, .ref q_4, .int 0, .int 1, .int 0, .int 0, .int (-1), .int (-1), .int 0])), (x_paper_digits, .inl (ty 0, 6, .inl (upd (upd (upd (upd (upd (upd (upd (upd (upd (upd (upd (upd (upd (upd (upd (upd (upd (upd (upd (upd (upd (upd (upd (upd (upd (upd (upd (fun _ => 0) 0 0) 0 0) 1 1) 0 0) 1 1) 2 2) 0 0) 1 1) 2 2) 3 3) 0 0) 1 1) 2 2) 3 3) 4 4) 0 0) 1 1) 2 2) 3 3) 4 4) 5 5) 0 0) 1 1) 2 2) 3 3) 4 4) 5 5)))]) hp hd hs rfl ?_
                            clear hp hd hs hP hD hS
                            intro hP hD hS
                            refine lv_iadd hx hb dX3_numberOfOrder_46 ?_
                            refine kz_topi 0 (by first | rfl | decide +kernel) ?_
                            refine lv_istore_n (lv' := [(3, .int 0), (4, .int 2), (2, .int 5), (1, .int 0), (0, .ref x_paper)]) hx hb dX3_numberOfOrder_47 rfl hl (by decide) rfl (fun ls hl => ?_)
                            refine lv_iinc (v := 3) (lv' := [(4, .int 3), (3, .int 0), (2, .int 5), (1, .int 0), (0, .ref x_paper)]) hx hb dX3_numberOfOrder_48 hl (k := 1) rfl (by decide) (by decide) rfl (fun ls hl => ?_)
                            refine lv_goto (tgt := 15) hx hb dX3_numberOfOrder_51 (by decide) ?_
                            refine lv_iload hx hb dX3_numberOfOrder_15 (lv_at hl 0 rfl) ?_
                            refine lv_iload_n hx hb dX3_numberOfOrder_17 rfl (lv_at hl 2 rfl) ?_
                            refine lv_icmp_ge (tgt := 54) hx hb dX3_numberOfOrder_18 (by decide) (fun h => absurd h (by decide)) (fun _ => ?_)
                            refine lv_iload_n hx hb dX3_numberOfOrder_21 rfl (lv_at hl 1 rfl) ?_
                            refine lv_aload_n hx hb dX3_numberOfOrder_22 rfl (lv_at hl 4 rfl) ?_
                            refine va_get (D := D) (ci := 3) (v := .ref x_paper_digits) (C := RX3) (T := TX3) (N := 20) hx hb hts (by decide +kernel) hown hK hP 0 rfl rfl 1 (by decide) (hts (.fieldLink RX3 15 "TurnedFloors$Paper" "digits" "[I") (by decide +kernel)) (fun _ h9 => h9) rfl dX3_numberOfOrder_23 ?_
                            refine lv_iload hx hb dX3_numberOfOrder_26 (lv_at hl 0 rfl) ?_
                            refine va_iald hx hb hK hP 1 0 rfl rfl (by simp only [vp_in]; decide) dX3_numberOfOrder_28 ?_
                            refine kz_topi 3 (by first | rfl | decide +kernel) ?_
                            refine lv_aload_n hx hb dX3_numberOfOrder_29 rfl (lv_at hl 4 rfl) ?_
                            refine va_get (D := D) (ci := 3) (v := .ref x_paper_digits) (C := RX3) (T := TX3) (N := 20) hx hb hts (by decide +kernel) hown hK hP 0 rfl rfl 1 (by decide) (hts (.fieldLink RX3 15 "TurnedFloors$Paper" "digits" "[I") (by decide +kernel)) (fun _ h9 => h9) rfl dX3_numberOfOrder_30 ?_
                            refine lv_iload_n hx hb dX3_numberOfOrder_33 rfl (lv_at hl 2 rfl) ?_
                            refine va_iald hx hb hK hP 1 0 rfl rfl (by simp only [vp_in]; decide) dX3_numberOfOrder_34 ?_
                            refine kz_topi 5 (by first | rfl | decide +kernel) ?_
                            refine lv_icmp_le (tgt := 42) hx hb dX3_numberOfOrder_35 (by decide) (fun _ => ?_) (fun h => absurd (by decide) h)
                            refine lv_iconst (v := 0) hx hb dX3_numberOfOrder_42 (by decide) ?_
                            refine kz_ki (wc := []) (wr := [(x_paper, .inr (3, [.ref x_paper_ranks, .ref x_paper_digits, .ref x_paper_barred, .ref x_paper_pays, .ref x_paper_measuredBarred, .ref x_paper_buckets, .ref q_5, .ref q_6, .ref q_7, .ref q_1, .ref q_2, .ref q_3, .ref q_4, .int 0, .int 1, .int 0, .int 0, .int (-1), .int (-1), .int 0])), (x_paper_digits, .inl (ty 0, 6, .inl (upd (upd (upd (upd (upd (upd (upd (upd (upd (upd (upd (upd (upd (upd (upd (upd (upd (upd (upd (upd (upd (upd (upd (upd (upd (upd (upd (fun _ => 0) 0 0) 0 0) 1 1) 0 0) 1 1) 2 2) 0 0) 1 1) 2 2) 3 3) 0 0) 1 1) 2 2) 3 3) 4 4) 0 0) 1 1) 2 2) 3 3) 4 4) 5 5) 0 0) 1 1) 2 2) 3 3) 4 4) 5 5)))]) (va_runSN (As := [.int 0]) (rest := [.int 0]) ⟨hx, hb, hml, hown, hts⟩ (kcX9_bit l D ty eo _ 0) ⟨va_cnB 1 hts gX3_numberOfOrder_X9_bit_n133 rfl rfl rfl (hN.1 _ (by decide +kernel : (.methodLinkNest "TurnedFloors$Paper" 133 yX9_bit "TurnedFloors" : Cond) ∈ kzN1)) (hts (.initialized RX9) (by decide +kernel)) (by decide +kernel) ⟨Nat.le_of_ble_eq_true rfl, Nat.le_of_ble_eq_true rfl⟩, hts (.static yX9_bit) (by decide +kernel), trivial⟩ (kz_preS hK hN hE hP hD hS hA [] (by decide) rfl) rfl rfl hl.1 rfl (lv_room (Nat.le_of_ble_eq_true rfl)) dX3_numberOfOrder_43 ⟨Nat.le_of_ble_eq_true rfl, Nat.le_of_ble_eq_true rfl⟩) hP hD hS hA [] [0, 1] rfl rfl (by decide) (by decide) (fun r u H locs hw hp hd hs => ?_)
                            rcases hw with ⟨c_27, rfl, rfl⟩ | ⟨c_28, rfl, rfl⟩
                            · refine kz_re (w2 := [(x_paper, .inr (3, [.ref x_paper_ranks, .ref x_paper_digits, .ref x_paper_barred, .ref x_paper_pays, .ref x_paper_measuredBarred, .ref x_paper_buckets, .ref q_5, .ref q_6, .ref q_7, .ref q_1, .ref q_2, .ref q_3, .ref q_4, .int 0, .int 1, .int 0, .int 0, .int (-1), .int (-1), .int 0])), (x_paper_digits, .inl (ty 0, 6, .inl (upd (upd (upd (upd (upd (upd (upd (upd (upd (upd (upd (upd (upd (upd (upd (upd (upd (upd (upd (upd (upd (upd (upd (upd (upd (upd (upd (fun _ => 0) 0 0) 0 0) 1 1) 0 0) 1 1) 2 2) 0 0) 1 1) 2 2) 3 3) 0 0) 1 1) 2 2) 3 3) 4 4) 0 0) 1 1) 2 2) 3 3) 4 4) 5 5) 0 0) 1 1) 2 2) 3 3) 4 4) 5 5)))]) hp hd hs rfl ?_
                              clear hp hd hs hP hD hS
                              intro hP hD hS
                              refine lv_iadd hx hb dX3_numberOfOrder_46 ?_
                              refine kz_topi 0 (by first | rfl | decide +kernel) ?_
                              refine lv_istore_n (lv' := [(3, .int 0), (4, .int 3), (2, .int 5), (1, .int 0), (0, .ref x_paper)]) hx hb dX3_numberOfOrder_47 rfl hl (by decide) rfl (fun ls hl => ?_)
                              refine lv_iinc (v := 4) (lv' := [(4, .int 4), (3, .int 0), (2, .int 5), (1, .int 0), (0, .ref x_paper)]) hx hb dX3_numberOfOrder_48 hl (k := 1) rfl (by decide) (by decide) rfl (fun ls hl => ?_)
                              refine lv_goto (tgt := 15) hx hb dX3_numberOfOrder_51 (by decide) ?_
                              refine lv_iload hx hb dX3_numberOfOrder_15 (lv_at hl 0 rfl) ?_
                              refine lv_iload_n hx hb dX3_numberOfOrder_17 rfl (lv_at hl 2 rfl) ?_
                              refine lv_icmp_ge (tgt := 54) hx hb dX3_numberOfOrder_18 (by decide) (fun h => absurd h (by decide)) (fun _ => ?_)
                              refine lv_iload_n hx hb dX3_numberOfOrder_21 rfl (lv_at hl 1 rfl) ?_
                              refine lv_aload_n hx hb dX3_numberOfOrder_22 rfl (lv_at hl 4 rfl) ?_
                              refine va_get (D := D) (ci := 3) (v := .ref x_paper_digits) (C := RX3) (T := TX3) (N := 20) hx hb hts (by decide +kernel) hown hK hP 0 rfl rfl 1 (by decide) (hts (.fieldLink RX3 15 "TurnedFloors$Paper" "digits" "[I") (by decide +kernel)) (fun _ h9 => h9) rfl dX3_numberOfOrder_23 ?_
                              refine lv_iload hx hb dX3_numberOfOrder_26 (lv_at hl 0 rfl) ?_
                              refine va_iald hx hb hK hP 1 0 rfl rfl (by simp only [vp_in]; decide) dX3_numberOfOrder_28 ?_
                              refine kz_topi 4 (by first | rfl | decide +kernel) ?_
                              refine lv_aload_n hx hb dX3_numberOfOrder_29 rfl (lv_at hl 4 rfl) ?_
                              refine va_get (D := D) (ci := 3) (v := .ref x_paper_digits) (C := RX3) (T := TX3) (N := 20) hx hb hts (by decide +kernel) hown hK hP 0 rfl rfl 1 (by decide) (hts (.fieldLink RX3 15 "TurnedFloors$Paper" "digits" "[I") (by decide +kernel)) (fun _ h9 => h9) rfl dX3_numberOfOrder_30 ?_
                              refine lv_iload_n hx hb dX3_numberOfOrder_33 rfl (lv_at hl 2 rfl) ?_
                              refine va_iald hx hb hK hP 1 0 rfl rfl (by simp only [vp_in]; decide) dX3_numberOfOrder_34 ?_
                              refine kz_topi 5 (by first | rfl | decide +kernel) ?_
                              refine lv_icmp_le (tgt := 42) hx hb dX3_numberOfOrder_35 (by decide) (fun _ => ?_) (fun h => absurd (by decide) h)
                              refine lv_iconst (v := 0) hx hb dX3_numberOfOrder_42 (by decide) ?_
                              refine kz_ki (wc := []) (wr := [(x_paper, .inr (3, [.ref x_paper_ranks, .ref x_paper_digits, .ref x_paper_barred, .ref x_paper_pays, .ref x_paper_measuredBarred, .ref x_paper_buckets, .ref q_5, .ref q_6, .ref q_7, .ref q_1, .ref q_2, .ref q_3, .ref q_4, .int 0, .int 1, .int 0, .int 0, .int (-1), .int (-1), .int 0])), (x_paper_digits, .inl (ty 0, 6, .inl (upd (upd (upd (upd (upd (upd (upd (upd (upd (upd (upd (upd (upd (upd (upd (upd (upd (upd (upd (upd (upd (upd (upd (upd (upd (upd (upd (fun _ => 0) 0 0) 0 0) 1 1) 0 0) 1 1) 2 2) 0 0) 1 1) 2 2) 3 3) 0 0) 1 1) 2 2) 3 3) 4 4) 0 0) 1 1) 2 2) 3 3) 4 4) 5 5) 0 0) 1 1) 2 2) 3 3) 4 4) 5 5)))]) (va_runSN (As := [.int 0]) (rest := [.int 0]) ⟨hx, hb, hml, hown, hts⟩ (kcX9_bit l D ty eo _ 0) ⟨va_cnB 1 hts gX3_numberOfOrder_X9_bit_n133 rfl rfl rfl (hN.1 _ (by decide +kernel : (.methodLinkNest "TurnedFloors$Paper" 133 yX9_bit "TurnedFloors" : Cond) ∈ kzN1)) (hts (.initialized RX9) (by decide +kernel)) (by decide +kernel) ⟨Nat.le_of_ble_eq_true rfl, Nat.le_of_ble_eq_true rfl⟩, hts (.static yX9_bit) (by decide +kernel), trivial⟩ (kz_preS hK hN hE hP hD hS hA [] (by decide) rfl) rfl rfl hl.1 rfl (lv_room (Nat.le_of_ble_eq_true rfl)) dX3_numberOfOrder_43 ⟨Nat.le_of_ble_eq_true rfl, Nat.le_of_ble_eq_true rfl⟩) hP hD hS hA [] [0, 1] rfl rfl (by decide) (by decide) (fun r u H locs hw hp hd hs => ?_)
                              rcases hw with ⟨c_29, rfl, rfl⟩ | ⟨c_30, rfl, rfl⟩
                              · refine kz_re (w2 := [(x_paper, .inr (3, [.ref x_paper_ranks, .ref x_paper_digits, .ref x_paper_barred, .ref x_paper_pays, .ref x_paper_measuredBarred, .ref x_paper_buckets, .ref q_5, .ref q_6, .ref q_7, .ref q_1, .ref q_2, .ref q_3, .ref q_4, .int 0, .int 1, .int 0, .int 0, .int (-1), .int (-1), .int 0])), (x_paper_digits, .inl (ty 0, 6, .inl (upd (upd (upd (upd (upd (upd (upd (upd (upd (upd (upd (upd (upd (upd (upd (upd (upd (upd (upd (upd (upd (upd (upd (upd (upd (upd (upd (fun _ => 0) 0 0) 0 0) 1 1) 0 0) 1 1) 2 2) 0 0) 1 1) 2 2) 3 3) 0 0) 1 1) 2 2) 3 3) 4 4) 0 0) 1 1) 2 2) 3 3) 4 4) 5 5) 0 0) 1 1) 2 2) 3 3) 4 4) 5 5)))]) hp hd hs rfl ?_
                                clear hp hd hs hP hD hS
                                intro hP hD hS
                                refine lv_iadd hx hb dX3_numberOfOrder_46 ?_
                                refine kz_topi 0 (by first | rfl | decide +kernel) ?_
                                refine lv_istore_n (lv' := [(3, .int 0), (4, .int 4), (2, .int 5), (1, .int 0), (0, .ref x_paper)]) hx hb dX3_numberOfOrder_47 rfl hl (by decide) rfl (fun ls hl => ?_)
                                refine lv_iinc (v := 5) (lv' := [(4, .int 5), (3, .int 0), (2, .int 5), (1, .int 0), (0, .ref x_paper)]) hx hb dX3_numberOfOrder_48 hl (k := 1) rfl (by decide) (by decide) rfl (fun ls hl => ?_)
                                refine lv_goto (tgt := 15) hx hb dX3_numberOfOrder_51 (by decide) ?_
                                refine lv_iload hx hb dX3_numberOfOrder_15 (lv_at hl 0 rfl) ?_
                                refine lv_iload_n hx hb dX3_numberOfOrder_17 rfl (lv_at hl 2 rfl) ?_
                                refine lv_icmp_ge (tgt := 54) hx hb dX3_numberOfOrder_18 (by decide) (fun _ => ?_) (fun h => absurd (by decide) h)
                                refine lv_iload_n hx hb dX3_numberOfOrder_54 rfl (lv_at hl 3 rfl) ?_
                                refine lv_iload_n hx hb dX3_numberOfOrder_55 rfl (lv_at hl 1 rfl) ?_
                                refine va_gets hx hb hE.1 hS hown (hts (.fieldLink RX3 76 "TurnedFloors$Paper" "FACTORIALS" "[I") (by decide +kernel)) (fun _ h9 => h9) dX3_numberOfOrder_56 ?_
                                refine lv_iload_n hx hb dX3_numberOfOrder_59 rfl (lv_at hl 2 rfl) ?_
                                refine va_ti (v := .int 120) hx hb hE.2.1 hS (by simp only [vp_in]; decide) rfl dX3_numberOfOrder_60 ?_
                                refine lv_imul hx hb dX3_numberOfOrder_61 ?_
                                refine kz_topi 0 (by first | rfl | decide +kernel) ?_
                                refine lv_iadd hx hb dX3_numberOfOrder_62 ?_
                                refine kz_topi 0 (by first | rfl | decide +kernel) ?_
                                refine lv_istore_n (lv' := [(1, .int 0), (4, .int 5), (3, .int 0), (2, .int 5), (0, .ref x_paper)]) hx hb dX3_numberOfOrder_63 rfl hl (by decide) rfl (fun ls hl => ?_)
                                refine lv_iinc (v := 6) (lv' := [(2, .int 6), (1, .int 0), (4, .int 5), (3, .int 0), (0, .ref x_paper)]) hx hb dX3_numberOfOrder_64 hl (k := 3) rfl (by decide) (by decide) rfl (fun ls hl => ?_)
                                refine lv_goto (tgt := 4) hx hb dX3_numberOfOrder_67 (by decide) ?_
                                refine lv_iload_n hx hb dX3_numberOfOrder_4 rfl (lv_at hl 0 rfl) ?_
                                refine lv_bipush (v := 6) hx hb dX3_numberOfOrder_5 (by decide) ?_
                                refine lv_icmp_ge (tgt := 70) hx hb dX3_numberOfOrder_7 (by decide) (fun _ => ?_) (fun h => absurd (by decide) h)
                                refine lv_iload_n hx hb dX3_numberOfOrder_70 rfl (lv_at hl 1 rfl) ?_
                                exact kz_iret hx hb hr hlocks hP hK hD hS dX3_numberOfOrder_71 ⟨rfl, rfl⟩
                              · exact absurd c_30 (by decide)
                            · exact absurd c_28 (by decide)
                          · exact absurd c_26 (by decide)
                        · exact absurd c_24 (by decide)
                      · exact absurd c_22 (by decide)
                    · exact absurd c_20 (by decide)
                  · exact absurd c_18 (by decide)
                · exact absurd c_16 (by decide)
              · exact absurd c_14 (by decide)
            · exact absurd c_12 (by decide)
          · exact absurd c_10 (by decide)
        · exact absurd c_8 (by decide)
      · exact absurd c_6 (by decide)
    · exact absurd c_4 (by decide)
  · exact absurd c_2 (by decide)

set_option maxHeartbeats 4000000 in
set_option maxRecDepth 100000 in
theorem kcX1_setGrip (l : Launch) (D : va_G) (ty : Nat → ClassId) (eo : Nat → Nat) (sz : Nat) (h0 : Nat) (h0_v0 h0_v2 : Value) (p1 p2 p3 p4 : Int32) (h0_words : Nat) (h0_words_f : Nat → Int32) : Met l yX1_setGrip wsX1_setGrip ({ frames := 0, cells := 0, slots := 0, locals := 0 }) (va_Pc [.ref h0, .int p1, .int p2, .int p3, .int p4] (kz_pre D ty eo [(h0, .inr (1, [h0_v0, .ref h0_words, h0_v2])), (h0_words, .inl (ty 0, 9, .inl h0_words_f))] sz)) (va_Qv (fun (u : va_W) => [(h0, .inr (1, [h0_v0, .ref h0_words, h0_v2])), (h0_words, .inl (ty 0, 9, .inl (upd (upd (upd (upd (upd (upd h0_words_f 0 p1) 1 p2) 2 p3) 3 p4) 5 (-1)) 6 (-1))))] = u) (kz_B D ty (va_A [(h0, .inr (1, [h0_v0, .ref h0_words, h0_v2])), (h0_words, .inl (ty 0, 9, .inl h0_words_f))] sz)) (va_A [(h0, .inr (1, [h0_v0, .ref h0_words, h0_v2])), (h0_words, .inl (ty 0, 9, .inl h0_words_f))] sz)) 0 0 (va_A [(h0, .inr (1, [h0_v0, .ref h0_words, h0_v2])), (h0_words, .inl (ty 0, 9, .inl h0_words_f))] sz) := by
  refine Met.ofW (cc := cX1_setGrip) (maxL := 5) (ret := none) (by decide) rfl ?_
  intro p e s m args below meth c s₁ B hml hv
  obtain ⟨rfl, hsz, hP, hK, hD0, hN, hE⟩ := hv
  have hx := B.exec
  have hb := B.bytes
  have hr := B.returns
  have hts := atoms_spec (ws := wsX1_setGrip) B.pre
  have hown : s.vm.findClass RX1 = some m.cls := findClass_of_methodNamed B.named
  have hlocks := B.notSynchronized
  subst hsz
  have hD := hD0.self (sz := s.heap.size)
  generalize hAe : va_A [(h0, .inr (1, [h0_v0, .ref h0_words, h0_v2])), (h0_words, .inl (ty 0, 9, .inl h0_words_f))] s.heap.size = A at hD hE ⊢
  have hA : ∀ q : Nat, s.heap.size ≤ q → A q := fun q h => by rw [← hAe]; exact Or.inr h
  have hS : va_S A s.heap s.heap [] := va_S.rf
  have hl := lv_entry ([.ref h0, .int p1, .int p2, .int p3, .int p4]) (n := 5) (Nat.le_of_ble_eq_true rfl)
  rw [lg_entry_eq]
  generalize (lg_sl ([.ref h0, .int p1, .int p2, .int p3, .int p4]) ++ List.replicate (5 - (lg_sl ([.ref h0, .int p1, .int p2, .int p3, .int p4])).length) Slot.unset).toArray = ls at hl ⊢
  have hl : lv_has ls 5 [(0, .ref h0), (1, .int p1), (2, .int p2), (3, .int p3), (4, .int p4)] := hl
  refine lv_aload_n hx hb dX1_setGrip_0 rfl (lv_at hl 0 rfl) ?_
  refine va_get (D := D) (ci := 1) (v := .ref h0_words) (C := RX1) (T := TX1) (N := 3) hx hb hts (by decide +kernel) hown hK hP 0 rfl rfl 1 (by decide) (hts (.fieldLink RX1 11 "TurnedFloors$Judge" "words" "[I") (by decide +kernel)) (fun _ h9 => h9) rfl dX1_setGrip_1 ?_
  refine lv_iconst (v := 0) hx hb dX1_setGrip_4 (by decide) ?_
  refine lv_iload_n hx hb dX1_setGrip_5 rfl (lv_at hl 1 rfl) ?_
  refine va_iast hx hb hK hP hD hS 1 0 rfl rfl (by simp only [vp_in]; decide) dX1_setGrip_6 (fun H locs hp hd hs => ?_)
  refine kz_re (w2 := [(h0, .inr (1, [h0_v0, .ref h0_words, h0_v2])), (h0_words, .inl (ty 0, 9, .inl (upd h0_words_f 0 p1)))]) hp hd hs rfl ?_
  clear hp hd hs hP hD hS
  intro hP hD hS
  refine lv_aload_n hx hb dX1_setGrip_7 rfl (lv_at hl 0 rfl) ?_
  refine va_get (D := D) (ci := 1) (v := .ref h0_words) (C := RX1) (T := TX1) (N := 3) hx hb hts (by decide +kernel) hown hK hP 0 rfl rfl 1 (by decide) (hts (.fieldLink RX1 11 "TurnedFloors$Judge" "words" "[I") (by decide +kernel)) (fun _ h9 => h9) rfl dX1_setGrip_8 ?_
  refine lv_iconst (v := 1) hx hb dX1_setGrip_11 (by decide) ?_
  refine lv_iload_n hx hb dX1_setGrip_12 rfl (lv_at hl 2 rfl) ?_
  refine va_iast hx hb hK hP hD hS 1 0 rfl rfl (by simp only [vp_in]; decide) dX1_setGrip_13 (fun H locs hp hd hs => ?_)
  refine kz_re (w2 := [(h0, .inr (1, [h0_v0, .ref h0_words, h0_v2])), (h0_words, .inl (ty 0, 9, .inl (upd (upd h0_words_f 0 p1) 1 p2)))]) hp hd hs rfl ?_
  clear hp hd hs hP hD hS
  intro hP hD hS
  refine lv_aload_n hx hb dX1_setGrip_14 rfl (lv_at hl 0 rfl) ?_
  refine va_get (D := D) (ci := 1) (v := .ref h0_words) (C := RX1) (T := TX1) (N := 3) hx hb hts (by decide +kernel) hown hK hP 0 rfl rfl 1 (by decide) (hts (.fieldLink RX1 11 "TurnedFloors$Judge" "words" "[I") (by decide +kernel)) (fun _ h9 => h9) rfl dX1_setGrip_15 ?_
  refine lv_iconst (v := 2) hx hb dX1_setGrip_18 (by decide) ?_
  refine lv_iload_n hx hb dX1_setGrip_19 rfl (lv_at hl 3 rfl) ?_
  refine va_iast hx hb hK hP hD hS 1 0 rfl rfl (by simp only [vp_in]; decide) dX1_setGrip_20 (fun H locs hp hd hs => ?_)
  refine kz_re (w2 := [(h0, .inr (1, [h0_v0, .ref h0_words, h0_v2])), (h0_words, .inl (ty 0, 9, .inl (upd (upd (upd h0_words_f 0 p1) 1 p2) 2 p3)))]) hp hd hs rfl ?_
  clear hp hd hs hP hD hS
  intro hP hD hS
  refine lv_aload_n hx hb dX1_setGrip_21 rfl (lv_at hl 0 rfl) ?_
  refine va_get (D := D) (ci := 1) (v := .ref h0_words) (C := RX1) (T := TX1) (N := 3) hx hb hts (by decide +kernel) hown hK hP 0 rfl rfl 1 (by decide) (hts (.fieldLink RX1 11 "TurnedFloors$Judge" "words" "[I") (by decide +kernel)) (fun _ h9 => h9) rfl dX1_setGrip_22 ?_
  refine lv_iconst (v := 3) hx hb dX1_setGrip_25 (by decide) ?_
  refine lv_iload hx hb dX1_setGrip_26 (lv_at hl 4 rfl) ?_
  refine va_iast hx hb hK hP hD hS 1 0 rfl rfl (by simp only [vp_in]; decide) dX1_setGrip_28 (fun H locs hp hd hs => ?_)
  refine kz_re (w2 := [(h0, .inr (1, [h0_v0, .ref h0_words, h0_v2])), (h0_words, .inl (ty 0, 9, .inl (upd (upd (upd (upd h0_words_f 0 p1) 1 p2) 2 p3) 3 p4)))]) hp hd hs rfl ?_
  clear hp hd hs hP hD hS
  intro hP hD hS
  refine lv_aload_n hx hb dX1_setGrip_29 rfl (lv_at hl 0 rfl) ?_
  refine va_get (D := D) (ci := 1) (v := .ref h0_words) (C := RX1) (T := TX1) (N := 3) hx hb hts (by decide +kernel) hown hK hP 0 rfl rfl 1 (by decide) (hts (.fieldLink RX1 11 "TurnedFloors$Judge" "words" "[I") (by decide +kernel)) (fun _ h9 => h9) rfl dX1_setGrip_30 ?_
  refine lv_iconst (v := 5) hx hb dX1_setGrip_33 (by decide) ?_
  refine lv_iconst (v := (-1)) hx hb dX1_setGrip_34 (by decide) ?_
  refine va_iast hx hb hK hP hD hS 1 0 rfl rfl (by simp only [vp_in]; decide) dX1_setGrip_35 (fun H locs hp hd hs => ?_)
  refine kz_re (w2 := [(h0, .inr (1, [h0_v0, .ref h0_words, h0_v2])), (h0_words, .inl (ty 0, 9, .inl (upd (upd (upd (upd (upd h0_words_f 0 p1) 1 p2) 2 p3) 3 p4) 5 (-1))))]) hp hd hs rfl ?_
  clear hp hd hs hP hD hS
  intro hP hD hS
  refine lv_aload_n hx hb dX1_setGrip_36 rfl (lv_at hl 0 rfl) ?_
  refine va_get (D := D) (ci := 1) (v := .ref h0_words) (C := RX1) (T := TX1) (N := 3) hx hb hts (by decide +kernel) hown hK hP 0 rfl rfl 1 (by decide) (hts (.fieldLink RX1 11 "TurnedFloors$Judge" "words" "[I") (by decide +kernel)) (fun _ h9 => h9) rfl dX1_setGrip_37 ?_
  refine lv_bipush (v := 6) hx hb dX1_setGrip_40 (by decide) ?_
  refine lv_iconst (v := (-1)) hx hb dX1_setGrip_42 (by decide) ?_
  refine va_iast hx hb hK hP hD hS 1 0 rfl rfl (by simp only [vp_in]; decide) dX1_setGrip_43 (fun H locs hp hd hs => ?_)
  refine kz_re (w2 := [(h0, .inr (1, [h0_v0, .ref h0_words, h0_v2])), (h0_words, .inl (ty 0, 9, .inl (upd (upd (upd (upd (upd (upd h0_words_f 0 p1) 1 p2) 2 p3) 3 p4) 5 (-1)) 6 (-1))))]) hp hd hs rfl ?_
  clear hp hd hs hP hD hS
  intro hP hD hS
  exact kz_vret hx hb hr hlocks hP hK hD hS dX1_setGrip_44 rfl

set_option maxHeartbeats 4000000 in
set_option maxRecDepth 100000 in
theorem kX3_askCases_87 (l : Launch) (D : va_G) (ty : Nat → ClassId) (eo : Nat → Nat) (sz : Nat) (x_paper x_judge x_paper_ranks x_paper_digits x_paper_barred x_paper_pays x_paper_measuredBarred x_paper_buckets q_5 q_6 q_7 q_1 q_2 q_3 q_4 x_machine x_judge_words : Nat) : Met l yX3_askCases wsX3_askCases ({ frames := 1, cells := 0, slots := 0, locals := 23 }) (va_Pc [.ref x_paper, .ref x_judge, .int 0, .int 1] (kz_pre D ty eo [(x_paper, .inr (3, [.ref x_paper_ranks, .ref x_paper_digits, .ref x_paper_barred, .ref x_paper_pays, .ref x_paper_measuredBarred, .ref x_paper_buckets, .ref q_5, .ref q_6, .ref q_7, .ref q_1, .ref q_2, .ref q_3, .ref q_4, .int 0, .int 1, .int 0, .int 0, .int (-1), .int (-1), .int 0])), (x_paper_barred, .inl (ty 0, 504, .inl (fun _ => 0))), (x_judge, .inr (1, [.ref x_machine, .ref x_judge_words, .null])), (x_judge_words, .inl (ty 0, 9, .inl (upd (fun _ => 0) 8 0)))] sz)) (va_Qv (fun (u : va_W) => [(x_paper, .inr (3, [.ref x_paper_ranks, .ref x_paper_digits, .ref x_paper_barred, .ref x_paper_pays, .ref x_paper_measuredBarred, .ref x_paper_buckets, .ref q_5, .ref q_6, .ref q_7, .ref q_1, .ref q_2, .ref q_3, .ref q_4, .int 0, .int 1, .int 0, .int 0, .int (-1), .int (-1), .int 0])), (x_paper_barred, .inl (ty 0, 504, .inl (kz_fl (fun _ => 0) 504 0))), (x_judge, .inr (1, [.ref x_machine, .ref x_judge_words, .null])), (x_judge_words, .inl (ty 0, 9, .inl (upd (upd (upd (fun _ => 0) 8 0) 4 0) 7 0)))] = u) (kz_B D ty (va_A [(x_paper, .inr (3, [.ref x_paper_ranks, .ref x_paper_digits, .ref x_paper_barred, .ref x_paper_pays, .ref x_paper_measuredBarred, .ref x_paper_buckets, .ref q_5, .ref q_6, .ref q_7, .ref q_1, .ref q_2, .ref q_3, .ref q_4, .int 0, .int 1, .int 0, .int 0, .int (-1), .int (-1), .int 0])), (x_paper_barred, .inl (ty 0, 504, .inl (fun _ => 0))), (x_judge, .inr (1, [.ref x_machine, .ref x_judge_words, .null])), (x_judge_words, .inl (ty 0, 9, .inl (upd (fun _ => 0) 8 0)))] sz)) (va_A [(x_paper, .inr (3, [.ref x_paper_ranks, .ref x_paper_digits, .ref x_paper_barred, .ref x_paper_pays, .ref x_paper_measuredBarred, .ref x_paper_buckets, .ref q_5, .ref q_6, .ref q_7, .ref q_1, .ref q_2, .ref q_3, .ref q_4, .int 0, .int 1, .int 0, .int 0, .int (-1), .int (-1), .int 0])), (x_paper_barred, .inl (ty 0, 504, .inl (fun _ => 0))), (x_judge, .inr (1, [.ref x_machine, .ref x_judge_words, .null])), (x_judge_words, .inl (ty 0, 9, .inl (upd (fun _ => 0) 8 0)))] sz)) 0 0 (va_A [(x_paper, .inr (3, [.ref x_paper_ranks, .ref x_paper_digits, .ref x_paper_barred, .ref x_paper_pays, .ref x_paper_measuredBarred, .ref x_paper_buckets, .ref q_5, .ref q_6, .ref q_7, .ref q_1, .ref q_2, .ref q_3, .ref q_4, .int 0, .int 1, .int 0, .int 0, .int (-1), .int (-1), .int 0])), (x_paper_barred, .inl (ty 0, 504, .inl (fun _ => 0))), (x_judge, .inr (1, [.ref x_machine, .ref x_judge_words, .null])), (x_judge_words, .inl (ty 0, 9, .inl (upd (fun _ => 0) 8 0)))] sz) := by
  refine Met.ofW (cc := cX3_askCases) (maxL := 13) (ret := none) (by decide) rfl ?_
  intro p e s m args below meth c s₁ B hml hv
  obtain ⟨rfl, hsz, hP, hK, hD0, hN, hE⟩ := hv
  have hx := B.exec
  have hb := B.bytes
  have hr := B.returns
  have hts := atoms_spec (ws := wsX3_askCases) B.pre
  have hown : s.vm.findClass RX3 = some m.cls := findClass_of_methodNamed B.named
  have hlocks := B.notSynchronized
  subst hsz
  have hD := hD0.self (sz := s.heap.size)
  generalize hAe : va_A [(x_paper, .inr (3, [.ref x_paper_ranks, .ref x_paper_digits, .ref x_paper_barred, .ref x_paper_pays, .ref x_paper_measuredBarred, .ref x_paper_buckets, .ref q_5, .ref q_6, .ref q_7, .ref q_1, .ref q_2, .ref q_3, .ref q_4, .int 0, .int 1, .int 0, .int 0, .int (-1), .int (-1), .int 0])), (x_paper_barred, .inl (ty 0, 504, .inl (fun _ => 0))), (x_judge, .inr (1, [.ref x_machine, .ref x_judge_words, .null])), (x_judge_words, .inl (ty 0, 9, .inl (upd (fun _ => 0) 8 0)))] s.heap.size = A at hD hE ⊢
  have hA : ∀ q : Nat, s.heap.size ≤ q → A q := fun q h => by rw [← hAe]; exact Or.inr h
  have hS : va_S A s.heap s.heap [] := va_S.rf
  have hl := lv_entry ([.ref x_paper, .ref x_judge, .int 0, .int 1]) (n := 13) (Nat.le_of_ble_eq_true rfl)
  rw [lg_entry_eq]
  generalize (lg_sl ([.ref x_paper, .ref x_judge, .int 0, .int 1]) ++ List.replicate (13 - (lg_sl ([.ref x_paper, .ref x_judge, .int 0, .int 1])).length) Slot.unset).toArray = ls at hl ⊢
  have hl : lv_has ls 13 [(0, .ref x_paper), (1, .ref x_judge), (2, .int 0), (3, .int 1)] := hl
  refine lv_iload_n hx hb dX3_askCases_0 rfl (lv_at hl 3 rfl) ?_
  refine lv_iconst (v := 1) hx hb dX3_askCases_1 (by decide) ?_
  refine lv_icmp_ne (tgt := 12) hx hb dX3_askCases_2 (by decide) (fun h => absurd (by decide) h) (fun _ => ?_)
  refine lv_aload_n hx hb dX3_askCases_5 rfl (lv_at hl 0 rfl) ?_
  refine va_get (D := D) (ci := 3) (v := .ref x_paper_barred) (C := RX3) (T := TX3) (N := 20) hx hb hts (by decide +kernel) hown hK hP 0 rfl rfl 2 (by decide) (hts (.fieldLink RX3 18 "TurnedFloors$Paper" "barred" "[I") (by decide +kernel)) (fun _ h9 => h9) rfl dX3_askCases_6 ?_
  refine lv_goto (tgt := 16) hx hb dX3_askCases_9 (by decide) ?_
  refine lv_astore (lv' := [(4, .ref x_paper_barred), (0, .ref x_paper), (1, .ref x_judge), (2, .int 0), (3, .int 1)]) hx hb dX3_askCases_16 hl (by decide) rfl (fun ls hl => ?_)
  refine lv_aload hx hb dX3_askCases_18 (lv_at hl 0 rfl) ?_
  refine lv_iconst (v := 0) hx hb dX3_askCases_20 (by decide) ?_
  refine kz_kv (wc := [(x_paper_barred, .inl (ty 0, 504, .inl (fun _ => 0)))]) (wr := [(x_paper, .inr (3, [.ref x_paper_ranks, .ref x_paper_digits, .ref x_paper_barred, .ref x_paper_pays, .ref x_paper_measuredBarred, .ref x_paper_buckets, .ref q_5, .ref q_6, .ref q_7, .ref q_1, .ref q_2, .ref q_3, .ref q_4, .int 0, .int 1, .int 0, .int 0, .int (-1), .int (-1), .int 0])), (x_judge, .inr (1, [.ref x_machine, .ref x_judge_words, .null])), (x_judge_words, .inl (ty 0, 9, .inl (upd (fun _ => 0) 8 0)))]) (va_runS (As := [.ref x_paper_barred, .int 0]) (rest := []) ⟨hx, hb, hml, hown, hts⟩ (cJ7_fillI l D ty eo _ x_paper_barred 504 (fun _ => 0) 0 (by decide)) (va_cwS 2 hts gX3_askCases_J7_fill_53178 rfl rfl rfl (by decide +kernel) ⟨Nat.le_of_ble_eq_true rfl, Nat.le_of_ble_eq_true rfl⟩) (kz_preS hK hN hE hP hD hS hA [1] (by decide) rfl) rfl rfl hl.1 rfl (lv_room (Nat.le_of_ble_eq_true rfl)) dX3_askCases_21 ⟨Nat.le_of_ble_eq_true rfl, Nat.le_of_ble_eq_true rfl⟩) hP hD hS hA [1] [0, 2, 3] rfl rfl (by decide) (by decide) (fun u H locs hw hp hd hs => ?_)
  obtain rfl := hw
  refine kz_re (w2 := [(x_paper, .inr (3, [.ref x_paper_ranks, .ref x_paper_digits, .ref x_paper_barred, .ref x_paper_pays, .ref x_paper_measuredBarred, .ref x_paper_buckets, .ref q_5, .ref q_6, .ref q_7, .ref q_1, .ref q_2, .ref q_3, .ref q_4, .int 0, .int 1, .int 0, .int 0, .int (-1), .int (-1), .int 0])), (x_judge, .inr (1, [.ref x_machine, .ref x_judge_words, .null])), (x_judge_words, .inl (ty 0, 9, .inl (upd (fun _ => 0) 8 0))), (x_paper_barred, .inl (ty 0, 504, .inl (kz_fl (fun _ => 0) 504 0)))]) hp hd hs rfl ?_
  clear hp hd hs hP hD hS
  intro hP hD hS
  refine lv_aload_n hx hb dX3_askCases_24 rfl (lv_at hl 2 rfl) ?_
  refine lv_aload_n hx hb dX3_askCases_25 rfl (lv_at hl 1 rfl) ?_
  refine va_get (D := D) (ci := 3) (v := .int 0) (C := RX3) (T := TX3) (N := 20) hx hb hts (by decide +kernel) hown hK hP 0 rfl rfl 13 (by decide) (hts (.fieldLink RX3 51 "TurnedFloors$Paper" "floors" "I") (by decide +kernel)) (fun _ h9 => h9) rfl dX3_askCases_26 ?_
  refine lv_iload_n hx hb dX3_askCases_29 rfl (lv_at hl 3 rfl) ?_
  refine kz_kv (wc := [(x_judge, .inr (1, [.ref x_machine, .ref x_judge_words, .null])), (x_judge_words, .inl (ty 0, 9, .inl (upd (fun _ => 0) 8 0)))]) (wr := [(x_paper, .inr (3, [.ref x_paper_ranks, .ref x_paper_digits, .ref x_paper_barred, .ref x_paper_pays, .ref x_paper_measuredBarred, .ref x_paper_buckets, .ref q_5, .ref q_6, .ref q_7, .ref q_1, .ref q_2, .ref q_3, .ref q_4, .int 0, .int 1, .int 0, .int 0, .int (-1), .int (-1), .int 0])), (x_paper_barred, .inl (ty 0, 504, .inl (kz_fl (fun _ => 0) 504 0)))]) (va_runV (As := [.int 0, .int 0]) (rest := []) ⟨hx, hb, hml, hown, hts⟩ (kcX1_setCommon l D ty eo _ x_judge (.ref x_machine) .null 0 0 x_judge_words (upd (fun _ => 0) 8 0)) (cwV 2 hts gX3_askCases_X1_setCommon rfl rfl rfl (by decide +kernel) ⟨Nat.le_of_ble_eq_true rfl, Nat.le_of_ble_eq_true rfl⟩) (kz_preV (ci := 1) (q0 := 1) hK hN hE hP hD hS hA rfl rfl [1, 2] (by decide) rfl) rfl rfl hl.1 rfl (lv_room (Nat.le_of_ble_eq_true rfl)) dX3_askCases_30 ⟨Nat.le_of_ble_eq_true rfl, Nat.le_of_ble_eq_true rfl⟩) hP hD hS hA [1, 2] [0, 3] rfl rfl (by decide) (by decide) (fun u H locs hw hp hd hs => ?_)
  obtain rfl := hw
  refine kz_re (w2 := [(x_paper, .inr (3, [.ref x_paper_ranks, .ref x_paper_digits, .ref x_paper_barred, .ref x_paper_pays, .ref x_paper_measuredBarred, .ref x_paper_buckets, .ref q_5, .ref q_6, .ref q_7, .ref q_1, .ref q_2, .ref q_3, .ref q_4, .int 0, .int 1, .int 0, .int 0, .int (-1), .int (-1), .int 0])), (x_paper_barred, .inl (ty 0, 504, .inl (kz_fl (fun _ => 0) 504 0))), (x_judge, .inr (1, [.ref x_machine, .ref x_judge_words, .null])), (x_judge_words, .inl (ty 0, 9, .inl (upd (upd (upd (fun _ => 0) 8 0) 4 0) 7 0)))]) hp hd hs rfl ?_
  clear hp hd hs hP hD hS
  intro hP hD hS
  refine lv_iconst (v := 1) hx hb dX3_askCases_33 (by decide) ?_
  refine lv_istore (lv' := [(5, .int 1), (4, .ref x_paper_barred), (0, .ref x_paper), (1, .ref x_judge), (2, .int 0), (3, .int 1)]) hx hb dX3_askCases_34 hl (by decide) rfl (fun ls hl => ?_)
  refine lv_iload hx hb dX3_askCases_36 (lv_at hl 0 rfl) ?_
  refine lv_aload_n hx hb dX3_askCases_38 rfl (lv_at hl 2 rfl) ?_
  refine va_get (D := D) (ci := 3) (v := .int 0) (C := RX3) (T := TX3) (N := 20) hx hb hts (by decide +kernel) hown hK hP 0 rfl rfl 13 (by decide) (hts (.fieldLink RX3 51 "TurnedFloors$Paper" "floors" "I") (by decide +kernel)) (fun _ h9 => h9) rfl dX3_askCases_39 ?_
  refine lv_icmp_gt (tgt := 215) hx hb dX3_askCases_42 (by decide) (fun _ => ?_) (fun h => absurd (by decide) h)
  exact kz_vret hx hb hr hlocks hP hK hD hS dX3_askCases_215 rfl
