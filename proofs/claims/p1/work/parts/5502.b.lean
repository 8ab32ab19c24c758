set_option maxHeartbeats 4000000 in
set_option maxRecDepth 100000 in
theorem fX9_force (l : Launch) (D : va_G) (ty : Nat → ClassId) (eo : Nat → Nat) (sz : Nat) (x : Nat) (p1 : Int32) (x_state x_images x_kept x_history x_drawnTower x_machine x_judge x_runner x_reader x_draft x_paper x_tape x_chances x_refusals x_state_tower x_state_seenPlace x_state_seenRank x_state_laws : Nat) : Met l yX9_force wsX9_force ({ frames := 1, cells := 0, slots := 0, locals := 21 }) (va_Pc [.ref x, .int p1] (kz_pre D ty eo [(x, .inr (9, [.ref x_state, .ref x_images, .ref x_kept, .ref x_history, .ref x_drawnTower, .ref x_machine, .ref x_judge, .ref x_runner, .ref x_reader, .ref x_draft, .ref x_paper, .ref x_tape, .int 0, .int (-1), .int 0, .int (-1), .ref x_chances, .ref x_refusals, .int 0])), (x_state, .inr (6, [.ref x_state_tower, .int 1, .int 0, .int 0, .ref x_state_seenPlace, .ref x_state_seenRank, .int 0, .ref x_state_laws, .int 0, .int (-1)])), (x_refusals, .inl (ty 0, 7, .inl (fun _ => 0)))] sz)) (va_Qi (fun (r : Int32) (u : va_W) => (p1 = (-1) ∧ (-1) = r ∧ [(x_state, .inr (6, [.ref x_state_tower, .int 1, .int 0, .int 0, .ref x_state_seenPlace, .ref x_state_seenRank, .int 0, .ref x_state_laws, .int 0, .int (-1)])), (x_refusals, .inl (ty 0, 7, .inl (fun _ => 0))), (x, .inr (9, [.ref x_state, .ref x_images, .ref x_kept, .ref x_history, .ref x_drawnTower, .ref x_machine, .ref x_judge, .ref x_runner, .ref x_reader, .ref x_draft, .ref x_paper, .ref x_tape, .int 0, .int (-1), .int 0, .int (-1), .ref x_chances, .ref x_refusals, .int 0]))] = u) ∨ (¬ p1 = (-1) ∧ p1 < 0 ∧ (-2) = r ∧ [(x_state, .inr (6, [.ref x_state_tower, .int 1, .int 0, .int 0, .ref x_state_seenPlace, .ref x_state_seenRank, .int 0, .ref x_state_laws, .int 0, .int (-1)])), (x, .inr (9, [.ref x_state, .ref x_images, .ref x_kept, .ref x_history, .ref x_drawnTower, .ref x_machine, .ref x_judge, .ref x_runner, .ref x_reader, .ref x_draft, .ref x_paper, .ref x_tape, .int 0, .int (-1), .int 0, .int (-1), .ref x_chances, .ref x_refusals, .int (-2)])), (x_refusals, .inl (ty 0, 7, .inl (upd (fun _ => 0) 2 1)))] = u) ∨ (¬ p1 = (-1) ∧ ¬ p1 < 0 ∧ 0 ≤ p1 ∧ (-2) = r ∧ [(x_state, .inr (6, [.ref x_state_tower, .int 1, .int 0, .int 0, .ref x_state_seenPlace, .ref x_state_seenRank, .int 0, .ref x_state_laws, .int 0, .int (-1)])), (x, .inr (9, [.ref x_state, .ref x_images, .ref x_kept, .ref x_history, .ref x_drawnTower, .ref x_machine, .ref x_judge, .ref x_runner, .ref x_reader, .ref x_draft, .ref x_paper, .ref x_tape, .int 0, .int (-1), .int 0, .int (-1), .ref x_chances, .ref x_refusals, .int (-2)])), (x_refusals, .inl (ty 0, 7, .inl (upd (fun _ => 0) 2 1)))] = u)) (kz_B D ty (va_A [(x, .inr (9, [.ref x_state, .ref x_images, .ref x_kept, .ref x_history, .ref x_drawnTower, .ref x_machine, .ref x_judge, .ref x_runner, .ref x_reader, .ref x_draft, .ref x_paper, .ref x_tape, .int 0, .int (-1), .int 0, .int (-1), .ref x_chances, .ref x_refusals, .int 0])), (x_state, .inr (6, [.ref x_state_tower, .int 1, .int 0, .int 0, .ref x_state_seenPlace, .ref x_state_seenRank, .int 0, .ref x_state_laws, .int 0, .int (-1)])), (x_refusals, .inl (ty 0, 7, .inl (fun _ => 0)))] sz)) (va_A [(x, .inr (9, [.ref x_state, .ref x_images, .ref x_kept, .ref x_history, .ref x_drawnTower, .ref x_machine, .ref x_judge, .ref x_runner, .ref x_reader, .ref x_draft, .ref x_paper, .ref x_tape, .int 0, .int (-1), .int 0, .int (-1), .ref x_chances, .ref x_refusals, .int 0])), (x_state, .inr (6, [.ref x_state_tower, .int 1, .int 0, .int 0, .ref x_state_seenPlace, .ref x_state_seenRank, .int 0, .ref x_state_laws, .int 0, .int (-1)])), (x_refusals, .inl (ty 0, 7, .inl (fun _ => 0)))] sz)) 0 0 (va_A [(x, .inr (9, [.ref x_state, .ref x_images, .ref x_kept, .ref x_history, .ref x_drawnTower, .ref x_machine, .ref x_judge, .ref x_runner, .ref x_reader, .ref x_draft, .ref x_paper, .ref x_tape, .int 0, .int (-1), .int 0, .int (-1), .ref x_chances, .ref x_refusals, .int 0])), (x_state, .inr (6, [.ref x_state_tower, .int 1, .int 0, .int 0, .ref x_state_seenPlace, .ref x_state_seenRank, .int 0, .ref x_state_laws, .int 0, .int (-1)])), (x_refusals, .inl (ty 0, 7, .inl (fun _ => 0)))] sz) := by
  refine Met.ofW (cc := cX9_force) (maxL := 3) (ret := (some .int)) (by decide) rfl ?_
  intro p e s m args below meth c s₁ B hml hv
  obtain ⟨rfl, hsz, hP, hK, hD0, hN, hE⟩ := hv
  have hx := B.exec
  have hb := B.bytes
  have hr := B.returns
  have hts := atoms_spec (ws := wsX9_force) B.pre
  have hown : s.vm.findClass RX9 = some m.cls := findClass_of_methodNamed B.named
  have hlocks := B.notSynchronized
  subst hsz
  have hD := hD0.self (sz := s.heap.size)
  generalize hAe : va_A [(x, .inr (9, [.ref x_state, .ref x_images, .ref x_kept, .ref x_history, .ref x_drawnTower, .ref x_machine, .ref x_judge, .ref x_runner, .ref x_reader, .ref x_draft, .ref x_paper, .ref x_tape, .int 0, .int (-1), .int 0, .int (-1), .ref x_chances, .ref x_refusals, .int 0])), (x_state, .inr (6, [.ref x_state_tower, .int 1, .int 0, .int 0, .ref x_state_seenPlace, .ref x_state_seenRank, .int 0, .ref x_state_laws, .int 0, .int (-1)])), (x_refusals, .inl (ty 0, 7, .inl (fun _ => 0)))] s.heap.size = A at hD hE ⊢
  have hA : ∀ q : Nat, s.heap.size ≤ q → A q := fun q h => by rw [← hAe]; exact Or.inr h
  have hS : va_S A s.heap s.heap [] := va_S.rf
  have hl := lv_entry ([.ref x, .int p1]) (n := 3) (Nat.le_of_ble_eq_true rfl)
  rw [lg_entry_eq]
  generalize (lg_sl ([.ref x, .int p1]) ++ List.replicate (3 - (lg_sl ([.ref x, .int p1])).length) Slot.unset).toArray = ls at hl ⊢
  have hl : lv_has ls 3 [(0, .ref x), (1, .int p1)] := hl
  refine lv_iload_n hx hb dX9_force_0 rfl (lv_at hl 1 rfl) ?_
  refine lv_iconst (v := (-1)) hx hb dX9_force_1 (by decide) ?_
  refine lv_icmp_eq (tgt := 23) hx hb dX9_force_2 (by decide) (fun c_1 => ?_) (fun c_1 => ?_)
  · refine lv_aload_n hx hb dX9_force_23 rfl (lv_at hl 0 rfl) ?_
    refine va_get (D := D) (ci := 9) (v := .ref x_state) (C := RX9) (T := TX9) (N := 19) hx hb hts (by decide +kernel) hown hK hP 0 rfl rfl 0 (by decide) (hts (.fieldLink RX9 10 "TurnedFloors" "state" "LTurnedFloors$State;") (by decide +kernel)) (fun _ h9 => h9) rfl dX9_force_24 ?_
    refine va_getN (D := D) (ci := 6) (v := .int (-1)) (C := RX6) (T := TX6) (N := 10) hx hb hts (by decide +kernel) hown hK hP 1 rfl rfl 9 (by decide) (hN.use (.fieldLinkNest "TurnedFloors" 208 "TurnedFloors$State" "inForce" "I" "TurnedFloors") (by decide +kernel)) (fun _ h9 => h9) rfl dX9_force_27 ?_
    refine lv_istore_n (lv' := [(2, .int (-1)), (0, .ref x), (1, .int p1)]) hx hb dX9_force_30 rfl hl (by decide) rfl (fun ls hl => ?_)
    refine lv_aload_n hx hb dX9_force_31 rfl (lv_at hl 1 rfl) ?_
    refine va_get (D := D) (ci := 9) (v := .ref x_state) (C := RX9) (T := TX9) (N := 19) hx hb hts (by decide +kernel) hown hK hP 0 rfl rfl 0 (by decide) (hts (.fieldLink RX9 10 "TurnedFloors" "state" "LTurnedFloors$State;") (by decide +kernel)) (fun _ h9 => h9) rfl dX9_force_32 ?_
    refine lv_iload_n hx hb dX9_force_35 rfl (lv_at hl 2 rfl) ?_
    refine kz_topi (-1) (by first | exact c_1 | (simp only [Int32.lt_iff_toInt_lt, Int32.le_iff_toInt_le, ← Int32.toInt_inj, Int32.reduceToInt] at c_1 ⊢; omega)) ?_
    refine va_putN (D := D) (ci := 6) (v := .int (-1)) (ty := .int) (C := RX6) (T := TX6) (N := 10) hx hb hts (by decide +kernel) tyX6 tyX6_ok nmX6 hown hK hP hD hS 1 rfl rfl 9 (by decide) (hN.use (.fieldLinkNest "TurnedFloors" 208 "TurnedFloors$State" "inForce" "I" "TurnedFloors") (by decide +kernel)) (fun _ h9 => h9) rfl (by decide +kernel) rfl rfl (Nat.le_of_ble_eq_true rfl) dX9_force_36 (fun H locs hp hd hs => ?_)
    refine kz_re (w2 := [(x, .inr (9, [.ref x_state, .ref x_images, .ref x_kept, .ref x_history, .ref x_drawnTower, .ref x_machine, .ref x_judge, .ref x_runner, .ref x_reader, .ref x_draft, .ref x_paper, .ref x_tape, .int 0, .int (-1), .int 0, .int (-1), .ref x_chances, .ref x_refusals, .int 0])), (x_state, .inr (6, [.ref x_state_tower, .int 1, .int 0, .int 0, .ref x_state_seenPlace, .ref x_state_seenRank, .int 0, .ref x_state_laws, .int 0, .int (-1)])), (x_refusals, .inl (ty 0, 7, .inl (fun _ => 0)))]) hp hd hs rfl ?_
    clear hp hd hs hP hD hS
    intro hP hD hS
    refine lv_aload_n hx hb dX9_force_39 rfl (lv_at hl 1 rfl) ?_
    refine lv_iload_n hx hb dX9_force_40 rfl (lv_at hl 0 rfl) ?_
    refine kz_ki (wc := [(x, .inr (9, [.ref x_state, .ref x_images, .ref x_kept, .ref x_history, .ref x_drawnTower, .ref x_machine, .ref x_judge, .ref x_runner, .ref x_reader, .ref x_draft, .ref x_paper, .ref x_tape, .int 0, .int (-1), .int 0, .int (-1), .ref x_chances, .ref x_refusals, .int 0]))]) (wr := [(x_state, .inr (6, [.ref x_state_tower, .int 1, .int 0, .int 0, .ref x_state_seenPlace, .ref x_state_seenRank, .int 0, .ref x_state_laws, .int 0, .int (-1)])), (x_refusals, .inl (ty 0, 7, .inl (fun _ => 0)))]) (va_runV (As := [.int (-1)]) (rest := []) ⟨hx, hb, hml, hown, hts⟩ (kcX9_accept l D ty eo _ x (.ref x_state) (.ref x_images) (.ref x_kept) (.ref x_history) (.ref x_drawnTower) (.ref x_machine) (.ref x_judge) (.ref x_runner) (.ref x_reader) (.ref x_draft) (.ref x_paper) (.ref x_tape) (.int 0) (.int (-1)) (.int 0) (.int (-1)) (.ref x_chances) (.ref x_refusals) (.int 0) (-1)) (cwV 1 hts gX9_force_X9_accept rfl rfl rfl (by decide +kernel) ⟨Nat.le_of_ble_eq_true rfl, Nat.le_of_ble_eq_true rfl⟩) (kz_preV (ci := 9) (q0 := 0) hK hN hE hP hD hS hA rfl rfl [0] (by decide) rfl) rfl rfl hl.1 rfl (lv_room (Nat.le_of_ble_eq_true rfl)) dX9_force_41 ⟨Nat.le_of_ble_eq_true rfl, Nat.le_of_ble_eq_true rfl⟩) hP hD hS hA [0] [1, 2] rfl rfl (by decide) (by decide) (fun r u H locs hw hp hd hs => ?_)
    obtain ⟨rfl, rfl⟩ := hw
    refine kz_re (w2 := [(x_state, .inr (6, [.ref x_state_tower, .int 1, .int 0, .int 0, .ref x_state_seenPlace, .ref x_state_seenRank, .int 0, .ref x_state_laws, .int 0, .int (-1)])), (x_refusals, .inl (ty 0, 7, .inl (fun _ => 0))), (x, .inr (9, [.ref x_state, .ref x_images, .ref x_kept, .ref x_history, .ref x_drawnTower, .ref x_machine, .ref x_judge, .ref x_runner, .ref x_reader, .ref x_draft, .ref x_paper, .ref x_tape, .int 0, .int (-1), .int 0, .int (-1), .ref x_chances, .ref x_refusals, .int 0]))]) hp hd hs rfl ?_
    clear hp hd hs hP hD hS
    intro hP hD hS
    exact kz_iret hx hb hr hlocks hP hK hD hS dX9_force_44 (Or.inl ⟨c_1, rfl, rfl⟩)
  · refine lv_aload_n hx hb dX9_force_5 rfl (lv_at hl 0 rfl) ?_
    refine va_get (D := D) (ci := 9) (v := .ref x_state) (C := RX9) (T := TX9) (N := 19) hx hb hts (by decide +kernel) hown hK hP 0 rfl rfl 0 (by decide) (hts (.fieldLink RX9 10 "TurnedFloors" "state" "LTurnedFloors$State;") (by decide +kernel)) (fun _ h9 => h9) rfl dX9_force_6 ?_
    refine lv_iload_n hx hb dX9_force_9 rfl (lv_at hl 1 rfl) ?_
    refine kz_ki (wc := [(x_state, .inr (6, [.ref x_state_tower, .int 1, .int 0, .int 0, .ref x_state_seenPlace, .ref x_state_seenRank, .int 0, .ref x_state_laws, .int 0, .int (-1)]))]) (wr := [(x, .inr (9, [.ref x_state, .ref x_images, .ref x_kept, .ref x_history, .ref x_drawnTower, .ref x_machine, .ref x_judge, .ref x_runner, .ref x_reader, .ref x_draft, .ref x_paper, .ref x_tape, .int 0, .int (-1), .int 0, .int (-1), .ref x_chances, .ref x_refusals, .int 0])), (x_refusals, .inl (ty 0, 7, .inl (fun _ => 0)))]) (va_runV (As := [.int p1]) (rest := []) ⟨hx, hb, hml, hown, hts⟩ (kcX6_isLaw l D ty eo _ x_state (.ref x_state_tower) (.int 1) (.int 0) (.int 0) (.ref x_state_seenPlace) (.ref x_state_seenRank) (.int 0) (.ref x_state_laws) (.int (-1)) p1 0) (cwV 1 hts gX9_force_X6_isLaw rfl rfl rfl (by decide +kernel) ⟨Nat.le_of_ble_eq_true rfl, Nat.le_of_ble_eq_true rfl⟩) (kz_preV (ci := 6) (q0 := 1) hK hN hE hP hD hS hA rfl rfl [1] (by decide) rfl) rfl rfl hl.1 rfl (lv_room (Nat.le_of_ble_eq_true rfl)) dX9_force_10 ⟨Nat.le_of_ble_eq_true rfl, Nat.le_of_ble_eq_true rfl⟩) hP hD hS hA [1] [0, 2] rfl rfl (by decide) (by decide) (fun r u H locs hw hp hd hs => ?_)
    rcases hw with ⟨c_2, rfl, rfl⟩ | ⟨c_3, c_4, rfl, rfl⟩ | ⟨c_5, c_6, rfl, rfl⟩
    · refine kz_re (w2 := [(x, .inr (9, [.ref x_state, .ref x_images, .ref x_kept, .ref x_history, .ref x_drawnTower, .ref x_machine, .ref x_judge, .ref x_runner, .ref x_reader, .ref x_draft, .ref x_paper, .ref x_tape, .int 0, .int (-1), .int 0, .int (-1), .ref x_chances, .ref x_refusals, .int 0])), (x_refusals, .inl (ty 0, 7, .inl (fun _ => 0))), (x_state, .inr (6, [.ref x_state_tower, .int 1, .int 0, .int 0, .ref x_state_seenPlace, .ref x_state_seenRank, .int 0, .ref x_state_laws, .int 0, .int (-1)]))]) hp hd hs rfl ?_
      clear hp hd hs hP hD hS
      intro hP hD hS
      refine lv_if_ne (tgt := 23) hx hb dX9_force_13 (by decide) (fun h => absurd (by decide) h) (fun _ => ?_)
      refine lv_aload_n hx hb dX9_force_16 rfl (lv_at hl 0 rfl) ?_
      refine lv_bipush (v := (-2)) hx hb dX9_force_17 (by decide) ?_
      refine kz_ki (wc := [(x, .inr (9, [.ref x_state, .ref x_images, .ref x_kept, .ref x_history, .ref x_drawnTower, .ref x_machine, .ref x_judge, .ref x_runner, .ref x_reader, .ref x_draft, .ref x_paper, .ref x_tape, .int 0, .int (-1), .int 0, .int (-1), .ref x_chances, .ref x_refusals, .int 0])), (x_refusals, .inl (ty 0, 7, .inl (fun _ => 0)))]) (wr := [(x_state, .inr (6, [.ref x_state_tower, .int 1, .int 0, .int 0, .ref x_state_seenPlace, .ref x_state_seenRank, .int 0, .ref x_state_laws, .int 0, .int (-1)]))]) (va_runV (As := [.int (-2)]) (rest := []) ⟨hx, hb, hml, hown, hts⟩ (kX9_refuse_37 l D ty eo _ x x_state x_images x_kept x_history x_drawnTower x_machine x_judge x_runner x_reader x_draft x_paper x_tape x_chances x_refusals) (cwV 1 hts gX9_force_X9_refuse rfl rfl rfl (by decide +kernel) ⟨Nat.le_of_ble_eq_true rfl, Nat.le_of_ble_eq_true rfl⟩) (kz_preV (ci := 9) (q0 := 0) hK hN hE hP hD hS hA rfl rfl [0, 1] (by decide) rfl) rfl rfl hl.1 rfl (lv_room (Nat.le_of_ble_eq_true rfl)) dX9_force_19 ⟨Nat.le_of_ble_eq_true rfl, Nat.le_of_ble_eq_true rfl⟩) hP hD hS hA [0, 1] [2] rfl rfl (by decide) (by decide) (fun r u H locs hw hp hd hs => ?_)
      obtain ⟨rfl, rfl⟩ := hw
      refine kz_re (w2 := [(x_state, .inr (6, [.ref x_state_tower, .int 1, .int 0, .int 0, .ref x_state_seenPlace, .ref x_state_seenRank, .int 0, .ref x_state_laws, .int 0, .int (-1)])), (x, .inr (9, [.ref x_state, .ref x_images, .ref x_kept, .ref x_history, .ref x_drawnTower, .ref x_machine, .ref x_judge, .ref x_runner, .ref x_reader, .ref x_draft, .ref x_paper, .ref x_tape, .int 0, .int (-1), .int 0, .int (-1), .ref x_chances, .ref x_refusals, .int (-2)])), (x_refusals, .inl (ty 0, 7, .inl (upd (fun _ => 0) 2 1)))]) hp hd hs rfl ?_
      clear hp hd hs hP hD hS
      intro hP hD hS
      exact kz_iret hx hb hr hlocks hP hK hD hS dX9_force_22 (Or.inr (Or.inl ⟨c_1, c_2, rfl, rfl⟩))
    · refine kz_re (w2 := [(x, .inr (9, [.ref x_state, .ref x_images, .ref x_kept, .ref x_history, .ref x_drawnTower, .ref x_machine, .ref x_judge, .ref x_runner, .ref x_reader, .ref x_draft, .ref x_paper, .ref x_tape, .int 0, .int (-1), .int 0, .int (-1), .ref x_chances, .ref x_refusals, .int 0])), (x_refusals, .inl (ty 0, 7, .inl (fun _ => 0))), (x_state, .inr (6, [.ref x_state_tower, .int 1, .int 0, .int 0, .ref x_state_seenPlace, .ref x_state_seenRank, .int 0, .ref x_state_laws, .int 0, .int (-1)]))]) hp hd hs rfl ?_
      clear hp hd hs hP hD hS
      intro hP hD hS
      refine lv_if_ne (tgt := 23) hx hb dX9_force_13 (by decide) (fun h => absurd (by decide) h) (fun _ => ?_)
      refine lv_aload_n hx hb dX9_force_16 rfl (lv_at hl 0 rfl) ?_
      refine lv_bipush (v := (-2)) hx hb dX9_force_17 (by decide) ?_
      refine kz_ki (wc := [(x, .inr (9, [.ref x_state, .ref x_images, .ref x_kept, .ref x_history, .ref x_drawnTower, .ref x_machine, .ref x_judge, .ref x_runner, .ref x_reader, .ref x_draft, .ref x_paper, .ref x_tape, .int 0, .int (-1), .int 0, .int (-1), .ref x_chances, .ref x_refusals, .int 0])), (x_refusals, .inl (ty 0, 7, .inl (fun _ => 0)))]) (wr := [(x_state, .inr (6, [.ref x_state_tower, .int 1, .int 0, .int 0, .ref x_state_seenPlace, .ref x_state_seenRank, .int 0, .ref x_state_laws, .int 0, .int (-1)]))]) (va_runV (As := [.int (-2)]) (rest := []) ⟨hx, hb, hml, hown, hts⟩ (kX9_refuse_37 l D ty eo _ x x_state x_images x_kept x_history x_drawnTower x_machine x_judge x_runner x_reader x_draft x_paper x_tape x_chances x_refusals) (cwV 1 hts gX9_force_X9_refuse rfl rfl rfl (by decide +kernel) ⟨Nat.le_of_ble_eq_true rfl, Nat.le_of_ble_eq_true rfl⟩) (kz_preV (ci := 9) (q0 := 0) hK hN hE hP hD hS hA rfl rfl [0, 1] (by decide) rfl) rfl rfl hl.1 rfl (lv_room (Nat.le_of_ble_eq_true rfl)) dX9_force_19 ⟨Nat.le_of_ble_eq_true rfl, Nat.le_of_ble_eq_true rfl⟩) hP hD hS hA [0, 1] [2] rfl rfl (by decide) (by decide) (fun r u H locs hw hp hd hs => ?_)
      obtain ⟨rfl, rfl⟩ := hw
      refine kz_re (w2 := [(x_state, .inr (6, [.ref x_state_tower, .int 1, .int 0, .int 0, .ref x_state_seenPlace, .ref x_state_seenRank, .int 0, .ref x_state_laws, .int 0, .int (-1)])), (x, .inr (9, [.ref x_state, .ref x_images, .ref x_kept, .ref x_history, .ref x_drawnTower, .ref x_machine, .ref x_judge, .ref x_runner, .ref x_reader, .ref x_draft, .ref x_paper, .ref x_tape, .int 0, .int (-1), .int 0, .int (-1), .ref x_chances, .ref x_refusals, .int (-2)])), (x_refusals, .inl (ty 0, 7, .inl (upd (fun _ => 0) 2 1)))]) hp hd hs rfl ?_
      clear hp hd hs hP hD hS
      intro hP hD hS
      exact kz_iret hx hb hr hlocks hP hK hD hS dX9_force_22 (Or.inr (Or.inr ⟨c_1, c_3, c_4, rfl, rfl⟩))
    · exact kz_false (by simp only [Int32.lt_iff_toInt_lt, Int32.le_iff_toInt_le, ← Int32.toInt_inj, Int32.reduceToInt] at c_1 c_5 c_6; omega)

set_option maxHeartbeats 4000000 in
set_option maxRecDepth 100000 in
theorem kX8_pack_40 (l : Launch) (D : va_G) (ty : Nat → ClassId) (eo : Nat → Nat) (sz : Nat) (x_state_tower x_state_tower_rank x_state_tower_head : Nat) : Met l yX8_pack wsX8_pack ({ frames := 0, cells := 0, slots := 0, locals := 0 }) (va_Pc [.ref x_state_tower] (kz_pre D ty eo [(x_state_tower, .inr (8, [.ref x_state_tower_rank, .ref x_state_tower_head, .int 0, .int 0, .int 0])), (x_state_tower_rank, .inl (ty 0, 6, .inl (fun _ => 0))), (x_state_tower_head, .inl (ty 0, 6, .inl (fun _ => 0)))] sz)) (va_Ql (fun (r : Int64) (u : va_W) => 0 = r ∧ [(x_state_tower, .inr (8, [.ref x_state_tower_rank, .ref x_state_tower_head, .int 0, .int 0, .int 0])), (x_state_tower_rank, .inl (ty 0, 6, .inl (fun _ => 0))), (x_state_tower_head, .inl (ty 0, 6, .inl (fun _ => 0)))] = u) (kz_B D ty (va_A [(x_state_tower, .inr (8, [.ref x_state_tower_rank, .ref x_state_tower_head, .int 0, .int 0, .int 0])), (x_state_tower_rank, .inl (ty 0, 6, .inl (fun _ => 0))), (x_state_tower_head, .inl (ty 0, 6, .inl (fun _ => 0)))] sz)) (va_A [(x_state_tower, .inr (8, [.ref x_state_tower_rank, .ref x_state_tower_head, .int 0, .int 0, .int 0])), (x_state_tower_rank, .inl (ty 0, 6, .inl (fun _ => 0))), (x_state_tower_head, .inl (ty 0, 6, .inl (fun _ => 0)))] sz)) 0 0 (va_A [(x_state_tower, .inr (8, [.ref x_state_tower_rank, .ref x_state_tower_head, .int 0, .int 0, .int 0])), (x_state_tower_rank, .inl (ty 0, 6, .inl (fun _ => 0))), (x_state_tower_head, .inl (ty 0, 6, .inl (fun _ => 0)))] sz) := by
  refine Met.ofW (cc := cX8_pack) (maxL := 4) (ret := (some .long)) (by decide) rfl ?_
  intro p e s m args below meth c s₁ B hml hv
  obtain ⟨rfl, hsz, hP, hK, hD0, hN, hE⟩ := hv
  have hx := B.exec
  have hb := B.bytes
  have hr := B.returns
  have hts := atoms_spec (ws := wsX8_pack) B.pre
  have hown : s.vm.findClass RX8 = some m.cls := findClass_of_methodNamed B.named
  have hlocks := B.notSynchronized
  subst hsz
  have hD := hD0.self (sz := s.heap.size)
  generalize hAe : va_A [(x_state_tower, .inr (8, [.ref x_state_tower_rank, .ref x_state_tower_head, .int 0, .int 0, .int 0])), (x_state_tower_rank, .inl (ty 0, 6, .inl (fun _ => 0))), (x_state_tower_head, .inl (ty 0, 6, .inl (fun _ => 0)))] s.heap.size = A at hD hE ⊢
  have hA : ∀ q : Nat, s.heap.size ≤ q → A q := fun q h => by rw [← hAe]; exact Or.inr h
  have hS : va_S A s.heap s.heap [] := va_S.rf
  have hl := lv_entry ([.ref x_state_tower]) (n := 4) (Nat.le_of_ble_eq_true rfl)
  rw [lg_entry_eq]
  generalize (lg_sl ([.ref x_state_tower]) ++ List.replicate (4 - (lg_sl ([.ref x_state_tower])).length) Slot.unset).toArray = ls at hl ⊢
  have hl : lv_has ls 4 [(0, .ref x_state_tower)] := hl
  refine lv_aload_n hx hb dX8_pack_0 rfl (lv_at hl 0 rfl) ?_
  refine va_get (D := D) (ci := 8) (v := .int 0) (C := RX8) (T := TX8) (N := 5) hx hb hts (by decide +kernel) hown hK hP 0 rfl rfl 2 (by decide) (hts (.fieldLink RX8 18 "TurnedFloors$Tower" "floors" "I") (by decide +kernel)) (fun _ h9 => h9) rfl dX8_pack_1 ?_
  refine lv_i2l (v := 0) hx hb dX8_pack_4 (by decide +kernel) ?_
  refine lv_lstore_n (lv' := [(1, .long 0), (0, .ref x_state_tower)]) hx hb dX8_pack_5 rfl hl (by decide) rfl (fun ls hl => ?_)
  refine lv_iconst (v := 0) hx hb dX8_pack_6 (by decide) ?_
  refine lv_istore_n (lv' := [(3, .int 0), (1, .long 0), (0, .ref x_state_tower)]) hx hb dX8_pack_7 rfl hl (by decide) rfl (fun ls hl => ?_)
  refine lv_iload_n hx hb dX8_pack_8 rfl (lv_at hl 0 rfl) ?_
  refine lv_bipush (v := 6) hx hb dX8_pack_9 (by decide) ?_
  refine lv_icmp_ge (tgt := 42) hx hb dX8_pack_11 (by decide) (fun h => absurd h (by decide)) (fun _ => ?_)
  refine lv_lload_n hx hb dX8_pack_14 rfl (lv_at hl 1 rfl) ?_
  refine lv_iconst (v := 4) hx hb dX8_pack_15 (by decide) ?_
  refine lv_lshl (v := 0) hx hb dX8_pack_16 (by decide +kernel) ?_
  refine lv_aload_n hx hb dX8_pack_17 rfl (lv_at hl 2 rfl) ?_
  refine va_get (D := D) (ci := 8) (v := .ref x_state_tower_rank) (C := RX8) (T := TX8) (N := 5) hx hb hts (by decide +kernel) hown hK hP 0 rfl rfl 0 (by decide) (hts (.fieldLink RX8 9 "TurnedFloors$Tower" "rank" "[I") (by decide +kernel)) (fun _ h9 => h9) rfl dX8_pack_18 ?_
  refine lv_iload_n hx hb dX8_pack_21 rfl (lv_at hl 0 rfl) ?_
  refine va_iald hx hb hK hP 1 0 rfl rfl (by simp only [vp_in]; decide) dX8_pack_22 ?_
  refine kz_topi 0 (by first | rfl | decide +kernel) ?_
  refine lv_iconst (v := 1) hx hb dX8_pack_23 (by decide) ?_
  refine lv_ishl hx hb dX8_pack_24 ?_
  refine kz_topi 0 (by first | rfl | decide +kernel) ?_
  refine lv_i2l (v := 0) hx hb dX8_pack_25 (by decide +kernel) ?_
  refine lv_lor hx hb dX8_pack_26 ?_
  refine kz_topl 0 (by first | rfl | decide +kernel) ?_
  refine lv_aload_n hx hb dX8_pack_27 rfl (lv_at hl 2 rfl) ?_
  refine va_get (D := D) (ci := 8) (v := .ref x_state_tower_head) (C := RX8) (T := TX8) (N := 5) hx hb hts (by decide +kernel) hown hK hP 0 rfl rfl 1 (by decide) (hts (.fieldLink RX8 15 "TurnedFloors$Tower" "head" "[I") (by decide +kernel)) (fun _ h9 => h9) rfl dX8_pack_28 ?_
  refine lv_iload_n hx hb dX8_pack_31 rfl (lv_at hl 0 rfl) ?_
  refine va_iald hx hb hK hP 2 0 rfl rfl (by simp only [vp_in]; decide) dX8_pack_32 ?_
  refine kz_topi 0 (by first | rfl | decide +kernel) ?_
  refine lv_i2l (v := 0) hx hb dX8_pack_33 (by decide +kernel) ?_
  refine lv_lor hx hb dX8_pack_34 ?_
  refine kz_topl 0 (by first | rfl | decide +kernel) ?_
  refine lv_lstore_n (lv' := [(1, .long 0), (3, .int 0), (0, .ref x_state_tower)]) hx hb dX8_pack_35 rfl hl (by decide) rfl (fun ls hl => ?_)
  refine lv_iinc (v := 1) (lv' := [(3, .int 1), (1, .long 0), (0, .ref x_state_tower)]) hx hb dX8_pack_36 hl (k := 1) rfl (by decide) (by decide) rfl (fun ls hl => ?_)
  refine lv_goto (tgt := 8) hx hb dX8_pack_39 (by decide) ?_
  refine lv_iload_n hx hb dX8_pack_8 rfl (lv_at hl 0 rfl) ?_
  refine lv_bipush (v := 6) hx hb dX8_pack_9 (by decide) ?_
  refine lv_icmp_ge (tgt := 42) hx hb dX8_pack_11 (by decide) (fun h => absurd h (by decide)) (fun _ => ?_)
  refine lv_lload_n hx hb dX8_pack_14 rfl (lv_at hl 1 rfl) ?_
  refine lv_iconst (v := 4) hx hb dX8_pack_15 (by decide) ?_
  refine lv_lshl (v := 0) hx hb dX8_pack_16 (by decide +kernel) ?_
  refine lv_aload_n hx hb dX8_pack_17 rfl (lv_at hl 2 rfl) ?_
  refine va_get (D := D) (ci := 8) (v := .ref x_state_tower_rank) (C := RX8) (T := TX8) (N := 5) hx hb hts (by decide +kernel) hown hK hP 0 rfl rfl 0 (by decide) (hts (.fieldLink RX8 9 "TurnedFloors$Tower" "rank" "[I") (by decide +kernel)) (fun _ h9 => h9) rfl dX8_pack_18 ?_
  refine lv_iload_n hx hb dX8_pack_21 rfl (lv_at hl 0 rfl) ?_
  refine va_iald hx hb hK hP 1 0 rfl rfl (by simp only [vp_in]; decide) dX8_pack_22 ?_
  refine kz_topi 0 (by first | rfl | decide +kernel) ?_
  refine lv_iconst (v := 1) hx hb dX8_pack_23 (by decide) ?_
  refine lv_ishl hx hb dX8_pack_24 ?_
  refine kz_topi 0 (by first | rfl | decide +kernel) ?_
  refine lv_i2l (v := 0) hx hb dX8_pack_25 (by decide +kernel) ?_
  refine lv_lor hx hb dX8_pack_26 ?_
  refine kz_topl 0 (by first | rfl | decide +kernel) ?_
  refine lv_aload_n hx hb dX8_pack_27 rfl (lv_at hl 2 rfl) ?_
  refine va_get (D := D) (ci := 8) (v := .ref x_state_tower_head) (C := RX8) (T := TX8) (N := 5) hx hb hts (by decide +kernel) hown hK hP 0 rfl rfl 1 (by decide) (hts (.fieldLink RX8 15 "TurnedFloors$Tower" "head" "[I") (by decide +kernel)) (fun _ h9 => h9) rfl dX8_pack_28 ?_
  refine lv_iload_n hx hb dX8_pack_31 rfl (lv_at hl 0 rfl) ?_
  refine va_iald hx hb hK hP 2 0 rfl rfl (by simp only [vp_in]; decide) dX8_pack_32 ?_
  refine kz_topi 0 (by first | rfl | decide +kernel) ?_
  refine lv_i2l (v := 0) hx hb dX8_pack_33 (by decide +kernel) ?_
  refine lv_lor hx hb dX8_pack_34 ?_
  refine kz_topl 0 (by first | rfl | decide +kernel) ?_
  refine lv_lstore_n (lv' := [(1, .long 0), (3, .int 1), (0, .ref x_state_tower)]) hx hb dX8_pack_35 rfl hl (by decide) rfl (fun ls hl => ?_)
  refine lv_iinc (v := 2) (lv' := [(3, .int 2), (1, .long 0), (0, .ref x_state_tower)]) hx hb dX8_pack_36 hl (k := 1) rfl (by decide) (by decide) rfl (fun ls hl => ?_)
  refine lv_goto (tgt := 8) hx hb dX8_pack_39 (by decide) ?_
  refine lv_iload_n hx hb dX8_pack_8 rfl (lv_at hl 0 rfl) ?_
  refine lv_bipush (v := 6) hx hb dX8_pack_9 (by decide) ?_
  refine lv_icmp_ge (tgt := 42) hx hb dX8_pack_11 (by decide) (fun h => absurd h (by decide)) (fun _ => ?_)
  refine lv_lload_n hx hb dX8_pack_14 rfl (lv_at hl 1 rfl) ?_
  refine lv_iconst (v := 4) hx hb dX8_pack_15 (by decide) ?_
  refine lv_lshl (v := 0) hx hb dX8_pack_16 (by decide +kernel) ?_
  refine lv_aload_n hx hb dX8_pack_17 rfl (lv_at hl 2 rfl) ?_
  refine va_get (D := D) (ci := 8) (v := .ref x_state_tower_rank) (C := RX8) (T := TX8) (N := 5) hx hb hts (by decide +kernel) hown hK hP 0 rfl rfl 0 (by decide) (hts (.fieldLink RX8 9 "TurnedFloors$Tower" "rank" "[I") (by decide +kernel)) (fun _ h9 => h9) rfl dX8_pack_18 ?_
  refine lv_iload_n hx hb dX8_pack_21 rfl (lv_at hl 0 rfl) ?_
  refine va_iald hx hb hK hP 1 0 rfl rfl (by simp only [vp_in]; decide) dX8_pack_22 ?_
  refine kz_topi 0 (by first | rfl | decide +kernel) ?_
  refine lv_iconst (v := 1) hx hb dX8_pack_23 (by decide) ?_
  refine lv_ishl hx hb dX8_pack_24 ?_
  refine kz_topi 0 (by first | rfl | decide +kernel) ?_
  refine lv_i2l (v := 0) hx hb dX8_pack_25 (by decide +kernel) ?_
  refine lv_lor hx hb dX8_pack_26 ?_
  refine kz_topl 0 (by first | rfl | decide +kernel) ?_
  refine lv_aload_n hx hb dX8_pack_27 rfl (lv_at hl 2 rfl) ?_
  refine va_get (D := D) (ci := 8) (v := .ref x_state_tower_head) (C := RX8) (T := TX8) (N := 5) hx hb hts (by decide +kernel) hown hK hP 0 rfl rfl 1 (by decide) (hts (.fieldLink RX8 15 "TurnedFloors$Tower" "head" "[I") (by decide +kernel)) (fun _ h9 => h9) rfl dX8_pack_28 ?_
  refine lv_iload_n hx hb dX8_pack_31 rfl (lv_at hl 0 rfl) ?_
  refine va_iald hx hb hK hP 2 0 rfl rfl (by simp only [vp_in]; decide) dX8_pack_32 ?_
  refine kz_topi 0 (by first | rfl | decide +kernel) ?_
  refine lv_i2l (v := 0) hx hb dX8_pack_33 (by decide +kernel) ?_
  refine lv_lor hx hb dX8_pack_34 ?_
  refine kz_topl 0 (by first | rfl | decide +kernel) ?_
  refine lv_lstore_n (lv' := [(1, .long 0), (3, .int 2), (0, .ref x_state_tower)]) hx hb dX8_pack_35 rfl hl (by decide) rfl (fun ls hl => ?_)
  refine lv_iinc (v := 3) (lv' := [(3, .int 3), (1, .long 0), (0, .ref x_state_tower)]) hx hb dX8_pack_36 hl (k := 1) rfl (by decide) (by decide) rfl (fun ls hl => ?_)
  refine lv_goto (tgt := 8) hx hb dX8_pack_39 (by decide) ?_
  refine lv_iload_n hx hb dX8_pack_8 rfl (lv_at hl 0 rfl) ?_
  refine lv_bipush (v := 6) hx hb dX8_pack_9 (by decide) ?_
  refine lv_icmp_ge (tgt := 42) hx hb dX8_pack_11 (by decide) (fun h => absurd h (by decide)) (fun _ => ?_)
  refine lv_lload_n hx hb dX8_pack_14 rfl (lv_at hl 1 rfl) ?_
  refine lv_iconst (v := 4) hx hb dX8_pack_15 (by decide) ?_
  refine lv_lshl (v := 0) hx hb dX8_pack_16 (by decide +kernel) ?_
  refine lv_aload_n hx hb dX8_pack_17 rfl (lv_at hl 2 rfl) ?_
  refine va_get (D := D) (ci := 8) (v := .ref x_state_tower_rank) (C := RX8) (T := TX8) (N := 5) hx hb hts (by decide +kernel) hown hK hP 0 rfl rfl 0 (by decide) (hts (.fieldLink RX8 9 "TurnedFloors$Tower" "rank" "[I") (by decide +kernel)) (fun _ h9 => h9) rfl dX8_pack_18 ?_
  refine lv_iload_n hx hb dX8_pack_21 rfl (lv_at hl 0 rfl) ?_
  refine va_iald hx hb hK hP 1 0 rfl rfl (by simp only [vp_in]; decide) dX8_pack_22 ?_
  refine kz_topi 0 (by first | rfl | decide +kernel) ?_
  refine lv_iconst (v := 1) hx hb dX8_pack_23 (by decide) ?_
  refine lv_ishl hx hb dX8_pack_24 ?_
  refine kz_topi 0 (by first | rfl | decide +kernel) ?_
  refine lv_i2l (v := 0) hx hb dX8_pack_25 (by decide +kernel) ?_
  refine lv_lor hx hb dX8_pack_26 ?_
  refine kz_topl 0 (by first | rfl | decide +kernel) ?_
  refine lv_aload_n hx hb dX8_pack_27 rfl (lv_at hl 2 rfl) ?_
  refine va_get (D := D) (ci := 8) (v := .ref x_state_tower_head) (C := RX8) (T := TX8) (N := 5) hx hb hts (by decide +kernel) hown hK hP 0 rfl rfl 1 (by decide) (hts (.fieldLink RX8 15 "TurnedFloors$Tower" "head" "[I") (by decide +kernel)) (fun _ h9 => h9) rfl dX8_pack_28 ?_
  refine lv_iload_n hx hb dX8_pack_31 rfl (lv_at hl 0 rfl) ?_
  refine va_iald hx hb hK hP 2 0 rfl rfl (by simp only [vp_in]; decide) dX8_pack_32 ?_
  refine kz_topi 0 (by first | rfl | decide +kernel) ?_
  refine lv_i2l (v := 0) hx hb dX8_pack_33 (by decide +kernel) ?_
  refine lv_lor hx hb dX8_pack_34 ?_
  refine kz_topl 0 (by first | rfl | decide +kernel) ?_
  refine lv_lstore_n (lv' := [(1, .long 0), (3, .int 3), (0, .ref x_state_tower)]) hx hb dX8_pack_35 rfl hl (by decide) rfl (fun ls hl => ?_)
  refine lv_iinc (v := 4) (lv' := [(3, .int 4), (1, .long 0), (0, .ref x_state_tower)]) hx hb dX8_pack_36 hl (k := 1) rfl (by decide) (by decide) rfl (fun ls hl => ?_)
  refine lv_goto (tgt := 8) hx hb dX8_pack_39 (by decide) ?_
  refine lv_iload_n hx hb dX8_pack_8 rfl (lv_at hl 0 rfl) ?_
  refine lv_bipush (v := 6) hx hb dX8_pack_9 (by decide) ?_
  refine lv_icmp_ge (tgt := 42) hx hb dX8_pack_11 (by decide) (fun h => absurd h (by decide)) (fun _ => ?_)
  refine lv_lload_n hx hb dX8_pack_14 rfl (lv_at hl 1 rfl) ?_
  refine lv_iconst (v := 4) hx hb dX8_pack_15 (by decide) ?_
  refine lv_lshl (v := 0) hx hb dX8_pack_16 (by decide +kernel) ?_
  refine lv_aload_n hx hb dX8_pack_17 rfl (lv_at hl 2 rfl) ?_
  refine va_get (D := D) (ci := 8) (v := .ref x_state_tower_rank) (C := RX8) (T := TX8) (N := 5) hx hb hts (by decide +kernel) hown hK hP 0 rfl rfl 0 (by decide) (hts (.fieldLink RX8 9 "TurnedFloors$Tower" "rank" "[I") (by decide +kernel)) (fun _ h9 => h9) rfl dX8_pack_18 ?_
  refine lv_iload_n hx hb dX8_pack_21 rfl (lv_at hl 0 rfl) ?_
  refine va_iald hx hb hK hP 1 0 rfl rfl (by simp only [vp_in]; decide) dX8_pack_22 ?_
  refine kz_topi 0 (by first | rfl | decide +kernel) ?_
  refine lv_iconst (v := 1) hx hb dX8_pack_23 (by decide) ?_
  refine lv_ishl hx hb dX8_pack_24 ?_
  refine kz_topi 0 (by first | rfl | decide +kernel) ?_
  refine lv_i2l (v := 0) hx hb dX8_pack_25 (by decide +kernel) ?_
  refine lv_lor hx hb dX8_pack_26 ?_
  refine kz_topl 0 (by first | rfl | decide +kernel) ?_
  refine lv_aload_n hx hb dX8_pack_27 rfl (lv_at hl 2 rfl) ?_
  refine va_get (D := D) (ci := 8) (v := .ref x_state_tower_head) (C := RX8) (T := TX8) (N := 5) hx hb hts (by decide +kernel) hown hK hP 0 rfl rfl 1 (by decide) (hts (.fieldLink RX8 15 "TurnedFloors$Tower" "head" "[I") (by decide +kernel)) (fun _ h9 => h9) rfl dX8_pack_28 ?_
  refine lv_iload_n hx hb dX8_pack_31 rfl (lv_at hl 0 rfl) ?_
  refine va_iald hx hb hK hP 2 0 rfl rfl (by simp only [vp_in]; decide) dX8_pack_32 ?_
  refine kz_topi 0 (by first | rfl | decide +kernel) ?_
  refine lv_i2l (v := 0) hx hb dX8_pack_33 (by decide +kernel) ?_
  refine lv_lor hx hb dX8_pack_34 ?_
  refine kz_topl 0 (by first | rfl | decide +kernel) ?_
  refine lv_lstore_n (lv' := [(1, .long 0), (3, .int 4), (0, .ref x_state_tower)]) hx hb dX8_pack_35 rfl hl (by decide) rfl (fun ls hl => ?_)
  refine lv_iinc (v := 5) (lv' := [(3, .int 5), (1, .long 0), (0, .ref x_state_tower)]) hx hb dX8_pack_36 hl (k := 1) rfl (by decide) (by decide) rfl (fun ls hl => ?_)
  refine lv_goto (tgt := 8) hx hb dX8_pack_39 (by decide) ?_
  refine lv_iload_n hx hb dX8_pack_8 rfl (lv_at hl 0 rfl) ?_
  refine lv_bipush (v := 6) hx hb dX8_pack_9 (by decide) ?_
  refine lv_icmp_ge (tgt := 42) hx hb dX8_pack_11 (by decide) (fun h => absurd h (by decide)) (fun _ => ?_)
  refine lv_lload_n hx hb dX8_pack_14 rfl (lv_at hl 1 rfl) ?_
  refine lv_iconst (v := 4) hx hb dX8_pack_15 (by decide) ?_
  refine lv_lshl (v := 0) hx hb dX8_pack_16 (by decide +kernel) ?_
  refine lv_aload_n hx hb dX8_pack_17 rfl (lv_at hl 2 rfl) ?_
  refine va_get (D := D) (ci := 8) (v := .ref x_state_tower_rank) (C := RX8) (T := TX8) (N := 5) hx hb hts (by decide +kernel) hown hK hP 0 rfl rfl 0 (by decide) (hts (.fieldLink RX8 9 "TurnedFloors$Tower" "rank" "[I") (by decide +kernel)) (fun _ h9 => h9) rfl dX8_pack_18 ?_
  refine lv_iload_n hx hb dX8_pack_21 rfl (lv_at hl 0 rfl) ?_
  refine va_iald hx hb hK hP 1 0 rfl rfl (by simp only [vp_in]; decide) dX8_pack_22 ?_
  refine kz_topi 0 (by first | rfl | decide +kernel) ?_
  refine lv_iconst (v := 1) hx hb dX8_pack_23 (by decide) ?_
  refine lv_ishl hx hb dX8_pack_24 ?_
  refine kz_topi 0 (by first | rfl | decide +kernel) ?_
  refine lv_i2l (v := 0) hx hb dX8_pack_25 (by decide +kernel) ?_
  refine lv_lor hx hb dX8_pack_26 ?_
  refine kz_topl 0 (by first | rfl | decide +kernel) ?_
  refine lv_aload_n hx hb dX8_pack_27 rfl (lv_at hl 2 rfl) ?_
  refine va_get (D := D) (ci := 8) (v := .ref x_state_tower_head) (C := RX8) (T := TX8) (N := 5) hx hb hts (by decide +kernel) hown hK hP 0 rfl rfl 1 (by decide) (hts (.fieldLink RX8 15 "TurnedFloors$Tower" "head" "[I") (by decide +kernel)) (fun _ h9 => h9) rfl dX8_pack_28 ?_
  refine lv_iload_n hx hb dX8_pack_31 rfl (lv_at hl 0 rfl) ?_
  refine va_iald hx hb hK hP 2 0 rfl rfl (by simp only [vp_in]; decide) dX8_pack_32 ?_
  refine kz_topi 0 (by first | rfl | decide +kernel) ?_
  refine lv_i2l (v := 0) hx hb dX8_pack_33 (by decide +kernel) ?_
  refine lv_lor hx hb dX8_pack_34 ?_
  refine kz_topl 0 (by first | rfl | decide +kernel) ?_
  refine lv_lstore_n (lv' := [(1, .long 0), (3, .int 5), (0, .ref x_state_tower)]) hx hb dX8_pack_35 rfl hl (by decide) rfl (fun ls hl => ?_)
  refine lv_iinc (v := 6) (lv' := [(3, .int 6), (1, .long 0), (0, .ref x_state_tower)]) hx hb dX8_pack_36 hl (k := 1) rfl (by decide) (by decide) rfl (fun ls hl => ?_)
  refine lv_goto (tgt := 8) hx hb dX8_pack_39 (by decide) ?_
  refine lv_iload_n hx hb dX8_pack_8 rfl (lv_at hl 0 rfl) ?_
  refine lv_bipush (v := 6) hx hb dX8_pack_9 (by decide) ?_
  refine lv_icmp_ge (tgt := 42) hx hb dX8_pack_11 (by decide) (fun _ => ?_) (fun h => absurd (by decide) h)
  refine lv_lload_n hx hb dX8_pack_42 rfl (lv_at hl 1 rfl) ?_
  refine lv_bipush (v := 14) hx hb dX8_pack_43 (by decide) ?_
  refine lv_lshl (v := 0) hx hb dX8_pack_45 (by decide +kernel) ?_
  refine lv_aload_n hx hb dX8_pack_46 rfl (lv_at hl 2 rfl) ?_
  refine va_get (D := D) (ci := 8) (v := .int 0) (C := RX8) (T := TX8) (N := 5) hx hb hts (by decide +kernel) hown hK hP 0 rfl rfl 3 (by decide) (hts (.fieldLink RX8 22 "TurnedFloors$Tower" "paid" "I") (by decide +kernel)) (fun _ h9 => h9) rfl dX8_pack_47 ?_
  refine lv_i2l (v := 0) hx hb dX8_pack_50 (by decide +kernel) ?_
  refine lv_lor hx hb dX8_pack_51 ?_
  refine kz_topl 0 (by first | rfl | decide +kernel) ?_
  refine lv_bipush (v := 10) hx hb dX8_pack_52 (by decide) ?_
  refine lv_lshl (v := 0) hx hb dX8_pack_54 (by decide +kernel) ?_
  refine lv_aload_n hx hb dX8_pack_55 rfl (lv_at hl 2 rfl) ?_
  refine va_get (D := D) (ci := 8) (v := .int 0) (C := RX8) (T := TX8) (N := 5) hx hb hts (by decide +kernel) hown hK hP 0 rfl rfl 4 (by decide) (hts (.fieldLink RX8 25 "TurnedFloors$Tower" "year" "I") (by decide +kernel)) (fun _ h9 => h9) rfl dX8_pack_56 ?_
  refine lv_i2l (v := 0) hx hb dX8_pack_59 (by decide +kernel) ?_
  refine lv_lor hx hb dX8_pack_60 ?_
  refine kz_topl 0 (by first | rfl | decide +kernel) ?_
  exact kz_lret hx hb hr hlocks hP hK hD hS dX8_pack_61 ⟨rfl, rfl⟩

set_option maxHeartbeats 4000000 in
set_option maxRecDepth 100000 in
theorem kX6_lawAt_43 (l : Launch) (D : va_G) (ty : Nat → ClassId) (eo : Nat → Nat) (sz : Nat) (x_state x_state_tower x_state_seenPlace x_state_seenRank x_state_laws : Nat) : Met l yX6_lawAt wsX6_lawAt ({ frames := 1, cells := 0, slots := 0, locals := 21 }) (va_Pc [.ref x_state, .int (-1)] (kz_pre D ty eo [(x_state, .inr (6, [.ref x_state_tower, .int 1, .int 0, .int 0, .ref x_state_seenPlace, .ref x_state_seenRank, .int 0, .ref x_state_laws, .int 0, .int (-1)]))] sz)) (kz_Q (fun (r : Value) (u : va_W) => .null = r ∧ [(x_state, .inr (6, [.ref x_state_tower, .int 1, .int 0, .int 0, .ref x_state_seenPlace, .ref x_state_seenRank, .int 0, .ref x_state_laws, .int 0, .int (-1)]))] = u) (kz_B D ty (va_A [(x_state, .inr (6, [.ref x_state_tower, .int 1, .int 0, .int 0, .ref x_state_seenPlace, .ref x_state_seenRank, .int 0, .ref x_state_laws, .int 0, .int (-1)]))] sz)) (va_A [(x_state, .inr (6, [.ref x_state_tower, .int 1, .int 0, .int 0, .ref x_state_seenPlace, .ref x_state_seenRank, .int 0, .ref x_state_laws, .int 0, .int (-1)]))] sz)) 0 0 (va_A [(x_state, .inr (6, [.ref x_state_tower, .int 1, .int 0, .int 0, .ref x_state_seenPlace, .ref x_state_seenRank, .int 0, .ref x_state_laws, .int 0, .int (-1)]))] sz) := by
  refine Met.ofW (cc := cX6_lawAt) (maxL := 2) (ret := (some (.object "TurnedFloors$Text"))) (by decide) rfl ?_
  intro p e s m args below meth c s₁ B hml hv
  obtain ⟨rfl, hsz, hP, hK, hD0, hN, hE⟩ := hv
  have hx := B.exec
  have hb := B.bytes
  have hr := B.returns
  have hts := atoms_spec (ws := wsX6_lawAt) B.pre
  have hown : s.vm.findClass RX6 = some m.cls := findClass_of_methodNamed B.named
  have hlocks := B.notSynchronized
  subst hsz
  have hD := hD0.self (sz := s.heap.size)
  generalize hAe : va_A [(x_state, .inr (6, [.ref x_state_tower, .int 1, .int 0, .int 0, .ref x_state_seenPlace, .ref x_state_seenRank, .int 0, .ref x_state_laws, .int 0, .int (-1)]))] s.heap.size = A at hD hE ⊢
  have hA : ∀ q : Nat, s.heap.size ≤ q → A q := fun q h => by rw [← hAe]; exact Or.inr h
  have hS : va_S A s.heap s.heap [] := va_S.rf
  have hl := lv_entry ([.ref x_state, .int (-1)]) (n := 2) (Nat.le_of_ble_eq_true rfl)
  rw [lg_entry_eq]
  generalize (lg_sl ([.ref x_state, .int (-1)]) ++ List.replicate (2 - (lg_sl ([.ref x_state, .int (-1)])).length) Slot.unset).toArray = ls at hl ⊢
  have hl : lv_has ls 2 [(0, .ref x_state), (1, .int (-1))] := hl
  refine lv_aload_n hx hb dX6_lawAt_0 rfl (lv_at hl 0 rfl) ?_
  refine lv_iload_n hx hb dX6_lawAt_1 rfl (lv_at hl 1 rfl) ?_
  refine kz_ki (wc := [(x_state, .inr (6, [.ref x_state_tower, .int 1, .int 0, .int 0, .ref x_state_seenPlace, .ref x_state_seenRank, .int 0, .ref x_state_laws, .int 0, .int (-1)]))]) (wr := []) (va_runV (As := [.int (-1)]) (rest := []) ⟨hx, hb, hml, hown, hts⟩ (kcX6_isLaw l D ty eo _ x_state (.ref x_state_tower) (.int 1) (.int 0) (.int 0) (.ref x_state_seenPlace) (.ref x_state_seenRank) (.int 0) (.ref x_state_laws) (.int (-1)) (-1) 0) (cwV 1 hts gX6_lawAt_X6_isLaw rfl rfl rfl (by decide +kernel) ⟨Nat.le_of_ble_eq_true rfl, Nat.le_of_ble_eq_true rfl⟩) (kz_preV (ci := 6) (q0 := 0) hK hN hE hP hD hS hA rfl rfl [0] (by decide) rfl) rfl rfl hl.1 rfl (lv_room (Nat.le_of_ble_eq_true rfl)) dX6_lawAt_2 ⟨Nat.le_of_ble_eq_true rfl, Nat.le_of_ble_eq_true rfl⟩) hP hD hS hA [0] [] rfl rfl (by decide) (by decide) (fun r u H locs hw hp hd hs => ?_)
  rcases hw with ⟨c_1, rfl, rfl⟩ | ⟨c_2, c_3, rfl, rfl⟩ | ⟨c_4, c_5, rfl, rfl⟩
  · refine kz_re (w2 := [(x_state, .inr (6, [.ref x_state_tower, .int 1, .int 0, .int 0, .ref x_state_seenPlace, .ref x_state_seenRank, .int 0, .ref x_state_laws, .int 0, .int (-1)]))]) hp hd hs rfl ?_
    clear hp hd hs hP hD hS
    intro hP hD hS
    refine lv_if_eq (tgt := 17) hx hb dX6_lawAt_5 (by decide) (fun _ => ?_) (fun h => absurd (by decide) h)
    refine lv_null hx hb dX6_lawAt_17 ?_
    exact kz_aret hx hb hr (Or.inl ⟨_, rfl⟩) (Or.inl rfl) hlocks hP hK hD hS dX6_lawAt_18 ⟨rfl, rfl⟩
  · exact absurd c_2 (by decide)
  · exact absurd c_4 (by decide)

set_option maxHeartbeats 4000000 in
set_option maxRecDepth 100000 in
theorem kcX1_seat (l : Launch) (D : va_G) (ty : Nat → ClassId) (eo : Nat → Nat) (sz : Nat) (h0 : Nat) (h0_v0 h0_v2 : Value) (p1 : Nat) (p1_v0 p1_v1 p1_v2 p1_v3 p1_v4 p1_v5 p1_v6 p1_v7 : Value) (p2 : Int32) (h0_words : Nat) (h0_words_f : Nat → Int32) : Met l yX1_seat wsX1_seat ({ frames := 0, cells := 0, slots := 0, locals := 0 }) (va_Pc [.ref h0, .ref p1, .int p2] (kz_pre D ty eo [(h0, .inr (1, [h0_v0, .ref h0_words, h0_v2])), (p1, .inr (7, [p1_v0, p1_v1, p1_v2, p1_v3, p1_v4, p1_v5, p1_v6, p1_v7])), (h0_words, .inl (ty 0, 9, .inl h0_words_f))] sz)) (va_Qv (fun (u : va_W) => [(h0, .inr (1, [h0_v0, .ref h0_words, .ref p1])), (p1, .inr (7, [p1_v0, p1_v1, p1_v2, p1_v3, p1_v4, p1_v5, p1_v6, p1_v7])), (h0_words, .inl (ty 0, 9, .inl (upd h0_words_f 8 p2)))] = u) (kz_B D ty (va_A [(h0, .inr (1, [h0_v0, .ref h0_words, h0_v2])), (p1, .inr (7, [p1_v0, p1_v1, p1_v2, p1_v3, p1_v4, p1_v5, p1_v6, p1_v7])), (h0_words, .inl (ty 0, 9, .inl h0_words_f))] sz)) (va_A [(h0, .inr (1, [h0_v0, .ref h0_words, h0_v2])), (p1, .inr (7, [p1_v0, p1_v1, p1_v2, p1_v3, p1_v4, p1_v5, p1_v6, p1_v7])), (h0_words, .inl (ty 0, 9, .inl h0_words_f))] sz)) 0 0 (va_A [(h0, .inr (1, [h0_v0, .ref h0_words, h0_v2])), (p1, .inr (7, [p1_v0, p1_v1, p1_v2, p1_v3, p1_v4, p1_v5, p1_v6, p1_v7])), (h0_words, .inl (ty 0, 9, .inl h0_words_f))] sz) := by
  refine Met.ofW (cc := cX1_seat) (maxL := 3) (ret := none) (by decide) rfl ?_
  intro p e s m args below meth c s₁ B hml hv
  obtain ⟨rfl, hsz, hP, hK, hD0, hN, hE⟩ := hv
  have hx := B.exec
  have hb := B.bytes
  have hr := B.returns
  have hts := atoms_spec (ws := wsX1_seat) B.pre
  have hown : s.vm.findClass RX1 = some m.cls := findClass_of_methodNamed B.named
  have hlocks := B.notSynchronized
  subst hsz
  have hD := hD0.self (sz := s.heap.size)
  generalize hAe : va_A [(h0, .inr (1, [h0_v0, .ref h0_words, h0_v2])), (p1, .inr (7, [p1_v0, p1_v1, p1_v2, p1_v3, p1_v4, p1_v5, p1_v6, p1_v7])), (h0_words, .inl (ty 0, 9, .inl h0_words_f))] s.heap.size = A at hD hE ⊢
  have hA : ∀ q : Nat, s.heap.size ≤ q → A q := fun q h => by rw [← hAe]; exact Or.inr h
  have hS : va_S A s.heap s.heap [] := va_S.rf
  have hl := lv_entry ([.ref h0, .ref p1, .int p2]) (n := 3) (Nat.le_of_ble_eq_true rfl)
  rw [lg_entry_eq]
  generalize (lg_sl ([.ref h0, .ref p1, .int p2]) ++ List.replicate (3 - (lg_sl ([.ref h0, .ref p1, .int p2])).length) Slot.unset).toArray = ls at hl ⊢
  have hl : lv_has ls 3 [(0, .ref h0), (1, .ref p1), (2, .int p2)] := hl
  refine lv_aload_n hx hb dX1_seat_0 rfl (lv_at hl 0 rfl) ?_
  refine lv_aload_n hx hb dX1_seat_1 rfl (lv_at hl 1 rfl) ?_
  refine va_put (D := D) (ci := 1) (v := .ref p1) (ty := .object "TurnedFloors$Text") (C := RX1) (T := TX1) (N := 3) hx hb hts (by decide +kernel) tyX1 tyX1_ok nmX1 hown hK hP hD hS 0 rfl rfl 2 (by decide) (hts (.fieldLink RX1 15 "TurnedFloors$Judge" "law" "LTurnedFloors$Text;") (by decide +kernel)) (fun _ h9 => h9) rfl (by decide +kernel) rfl rfl (Nat.le_of_ble_eq_true rfl) dX1_seat_2 (fun H locs hp hd hs => ?_)
  refine kz_re (w2 := [(h0, .inr (1, [h0_v0, .ref h0_words, .ref p1])), (p1, .inr (7, [p1_v0, p1_v1, p1_v2, p1_v3, p1_v4, p1_v5, p1_v6, p1_v7])), (h0_words, .inl (ty 0, 9, .inl h0_words_f))]) hp hd hs rfl ?_
  clear hp hd hs hP hD hS
  intro hP hD hS
  refine lv_aload_n hx hb dX1_seat_5 rfl (lv_at hl 0 rfl) ?_
  refine va_get (D := D) (ci := 1) (v := .ref h0_words) (C := RX1) (T := TX1) (N := 3) hx hb hts (by decide +kernel) hown hK hP 0 rfl rfl 1 (by decide) (hts (.fieldLink RX1 11 "TurnedFloors$Judge" "words" "[I") (by decide +kernel)) (fun _ h9 => h9) rfl dX1_seat_6 ?_
  refine lv_bipush (v := 8) hx hb dX1_seat_9 (by decide) ?_
  refine lv_iload_n hx hb dX1_seat_11 rfl (lv_at hl 2 rfl) ?_
  refine va_iast hx hb hK hP hD hS 2 0 rfl rfl (by simp only [vp_in]; decide) dX1_seat_12 (fun H locs hp hd hs => ?_)
  refine kz_re (w2 := [(h0, .inr (1, [h0_v0, .ref h0_words, .ref p1])), (p1, .inr (7, [p1_v0, p1_v1, p1_v2, p1_v3, p1_v4, p1_v5, p1_v6, p1_v7])), (h0_words, .inl (ty 0, 9, .inl (upd h0_words_f 8 p2)))]) hp hd hs rfl ?_
  clear hp hd hs hP hD hS
  intro hP hD hS
  exact kz_vret hx hb hr hlocks hP hK hD hS dX1_seat_13 rfl

set_option maxHeartbeats 4000000 in
set_option maxRecDepth 100000 in
theorem kX1_seat_44 (l : Launch) (D : va_G) (ty : Nat → ClassId) (eo : Nat → Nat) (sz : Nat) (x_judge x_machine x_judge_words : Nat) : Met l yX1_seat wsX1_seat ({ frames := 0, cells := 0, slots := 0, locals := 0 }) (va_Pc [.ref x_judge, .null, .int 0] (kz_pre D ty eo [(x_judge, .inr (1, [.ref x_machine, .ref x_judge_words, .null])), (x_judge_words, .inl (ty 0, 9, .inl (fun _ => 0)))] sz)) (va_Qv (fun (u : va_W) => [(x_judge, .inr (1, [.ref x_machine, .ref x_judge_words, .null])), (x_judge_words, .inl (ty 0, 9, .inl (upd (fun _ => 0) 8 0)))] = u) (kz_B D ty (va_A [(x_judge, .inr (1, [.ref x_machine, .ref x_judge_words, .null])), (x_judge_words, .inl (ty 0, 9, .inl (fun _ => 0)))] sz)) (va_A [(x_judge, .inr (1, [.ref x_machine, .ref x_judge_words, .null])), (x_judge_words, .inl (ty 0, 9, .inl (fun _ => 0)))] sz)) 0 0 (va_A [(x_judge, .inr (1, [.ref x_machine, .ref x_judge_words, .null])), (x_judge_words, .inl (ty 0, 9, .inl (fun _ => 0)))] sz) := by
  refine Met.ofW (cc := cX1_seat) (maxL := 3) (ret := none) (by decide) rfl ?_
  intro p e s m args below meth c s₁ B hml hv
  obtain ⟨rfl, hsz, hP, hK, hD0, hN, hE⟩ := hv
  have hx := B.exec
  have hb := B.bytes
  have hr := B.returns
  have hts := atoms_spec (ws := wsX1_seat) B.pre
  have hown : s.vm.findClass RX1 = some m.cls := findClass_of_methodNamed B.named
  have hlocks := B.notSynchronized
  subst hsz
  have hD := hD0.self (sz := s.heap.size)
  generalize hAe : va_A [(x_judge, .inr (1, [.ref x_machine, .ref x_judge_words, .null])), (x_judge_words, .inl (ty 0, 9, .inl (fun _ => 0)))] s.heap.size = A at hD hE ⊢
  have hA : ∀ q : Nat, s.heap.size ≤ q → A q := fun q h => by rw [← hAe]; exact Or.inr h
  have hS : va_S A s.heap s.heap [] := va_S.rf
  have hl := lv_entry ([.ref x_judge, .null, .int 0]) (n := 3) (Nat.le_of_ble_eq_true rfl)
  rw [lg_entry_eq]
  generalize (lg_sl ([.ref x_judge, .null, .int 0]) ++ List.replicate (3 - (lg_sl ([.ref x_judge, .null, .int 0])).length) Slot.unset).toArray = ls at hl ⊢
  have hl : lv_has ls 3 [(0, .ref x_judge), (1, .null), (2, .int 0)] := hl
  refine lv_aload_n hx hb dX1_seat_0 rfl (lv_at hl 0 rfl) ?_
  refine lv_aload_nN hx hb dX1_seat_1 rfl (lv_at hl 1 rfl) ?_
  refine va_put (D := D) (ci := 1) (v := .null) (ty := .object "TurnedFloors$Text") (C := RX1) (T := TX1) (N := 3) hx hb hts (by decide +kernel) tyX1 tyX1_ok nmX1 hown hK hP hD hS 0 rfl rfl 2 (by decide) (hts (.fieldLink RX1 15 "TurnedFloors$Judge" "law" "LTurnedFloors$Text;") (by decide +kernel)) (fun _ h9 => h9) rfl (by decide +kernel) rfl rfl (Nat.le_of_ble_eq_true rfl) dX1_seat_2 (fun H locs hp hd hs => ?_)
  refine kz_re (w2 := [(x_judge, .inr (1, [.ref x_machine, .ref x_judge_words, .null])), (x_judge_words, .inl (ty 0, 9, .inl (fun _ => 0)))]) hp hd hs rfl ?_
  clear hp hd hs hP hD hS
  intro hP hD hS
  refine lv_aload_n hx hb dX1_seat_5 rfl (lv_at hl 0 rfl) ?_
  refine va_get (D := D) (ci := 1) (v := .ref x_judge_words) (C := RX1) (T := TX1) (N := 3) hx hb hts (by decide +kernel) hown hK hP 0 rfl rfl 1 (by decide) (hts (.fieldLink RX1 11 "TurnedFloors$Judge" "words" "[I") (by decide +kernel)) (fun _ h9 => h9) rfl dX1_seat_6 ?_
  refine lv_bipush (v := 8) hx hb dX1_seat_9 (by decide) ?_
  refine lv_iload_n hx hb dX1_seat_11 rfl (lv_at hl 2 rfl) ?_
  refine va_iast hx hb hK hP hD hS 1 0 rfl rfl (by simp only [vp_in]; decide) dX1_seat_12 (fun H locs hp hd hs => ?_)
  refine kz_re (w2 := [(x_judge, .inr (1, [.ref x_machine, .ref x_judge_words, .null])), (x_judge_words, .inl (ty 0, 9, .inl (upd (fun _ => 0) 8 0)))]) hp hd hs rfl ?_
  clear hp hd hs hP hD hS
  intro hP hD hS
  exact kz_vret hx hb hr hlocks hP hK hD hS dX1_seat_13 rfl

set_option maxHeartbeats 4000000 in
set_option maxRecDepth 100000 in
theorem kX9_seated_42 (l : Launch) (D : va_G) (ty : Nat → ClassId) (eo : Nat → Nat) (sz : Nat) (x x_state x_images x_kept x_history x_drawnTower x_machine x_judge x_runner x_reader x_draft x_paper x_tape x_chances x_refusals x_state_tower x_state_seenPlace x_state_seenRank x_state_laws x_judge_words : Nat) : Met l yX9_seated wsX9_seated ({ frames := 2, cells := 0, slots := 0, locals := 42 }) (va_Pc [.ref x] (kz_pre D ty eo [(x, .inr (9, [.ref x_state, .ref x_images, .ref x_kept, .ref x_history, .ref x_drawnTower, .ref x_machine, .ref x_judge, .ref x_runner, .ref x_reader, .ref x_draft, .ref x_paper, .ref x_tape, .int 0, .int (-1), .int 0, .int (-1), .ref x_chances, .ref x_refusals, .int 0])), (x_state, .inr (6, [.ref x_state_tower, .int 1, .int 0, .int 0, .ref x_state_seenPlace, .ref x_state_seenRank, .int 0, .ref x_state_laws, .int 0, .int (-1)])), (x_judge, .inr (1, [.ref x_machine, .ref x_judge_words, .null])), (x_judge_words, .inl (ty 0, 9, .inl (fun _ => 0)))] sz)) (kz_Q (fun (r : Value) (u : va_W) => .ref x_judge = r ∧ [(x, .inr (9, [.ref x_state, .ref x_images, .ref x_kept, .ref x_history, .ref x_drawnTower, .ref x_machine, .ref x_judge, .ref x_runner, .ref x_reader, .ref x_draft, .ref x_paper, .ref x_tape, .int 0, .int (-1), .int 0, .int (-1), .ref x_chances, .ref x_refusals, .int 0])), (x_state, .inr (6, [.ref x_state_tower, .int 1, .int 0, .int 0, .ref x_state_seenPlace, .ref x_state_seenRank, .int 0, .ref x_state_laws, .int 0, .int (-1)])), (x_judge, .inr (1, [.ref x_machine, .ref x_judge_words, .null])), (x_judge_words, .inl (ty 0, 9, .inl (upd (fun _ => 0) 8 0)))] = u) (kz_B D ty (va_A [(x, .inr (9, [.ref x_state, .ref x_images, .ref x_kept, .ref x_history, .ref x_drawnTower, .ref x_machine, .ref x_judge, .ref x_runner, .ref x_reader, .ref x_draft, .ref x_paper, .ref x_tape, .int 0, .int (-1), .int 0, .int (-1), .ref x_chances, .ref x_refusals, .int 0])), (x_state, .inr (6, [.ref x_state_tower, .int 1, .int 0, .int 0, .ref x_state_seenPlace, .ref x_state_seenRank, .int 0, .ref x_state_laws, .int 0, .int (-1)])), (x_judge, .inr (1, [.ref x_machine, .ref x_judge_words, .null])), (x_judge_words, .inl (ty 0, 9, .inl (fun _ => 0)))] sz)) (va_A [(x, .inr (9, [.ref x_state, .ref x_images, .ref x_kept, .ref x_history, .ref x_drawnTower, .ref x_machine, .ref x_judge, .ref x_runner, .ref x_reader, .ref x_draft, .ref x_paper, .ref x_tape, .int 0, .int (-1), .int 0, .int (-1), .ref x_chances, .ref x_refusals, .int 0])), (x_state, .inr (6, [.ref x_state_tower, .int 1, .int 0, .int 0, .ref x_state_seenPlace, .ref x_state_seenRank, .int 0, .ref x_state_laws, .int 0, .int (-1)])), (x_judge, .inr (1, [.ref x_machine, .ref x_judge_words, .null])), (x_judge_words, .inl (ty 0, 9, .inl (fun _ => 0)))] sz)) 0 0 (va_A [(x, .inr (9, [.ref x_state, .ref x_images, .ref x_kept, .ref x_history, .ref x_drawnTower, .ref x_machine, .ref x_judge, .ref x_runner, .ref x_reader, .ref x_draft, .ref x_paper, .ref x_tape, .int 0, .int (-1), .int 0, .int (-1), .ref x_chances, .ref x_refusals, .int 0])), (x_state, .inr (6, [.ref x_state_tower, .int 1, .int 0, .int 0, .ref x_state_seenPlace, .ref x_state_seenRank, .int 0, .ref x_state_laws, .int 0, .int (-1)])), (x_judge, .inr (1, [.ref x_machine, .ref x_judge_words, .null])), (x_judge_words, .inl (ty 0, 9, .inl (fun _ => 0)))] sz) := by
  refine Met.ofW (cc := cX9_seated) (maxL := 1) (ret := (some (.object "TurnedFloors$Judge"))) (by decide) rfl ?_
  intro p e s m args below meth c s₁ B hml hv
  obtain ⟨rfl, hsz, hP, hK, hD0, hN, hE⟩ := hv
  have hx := B.exec
  have hb := B.bytes
  have hr := B.returns
  have hts := atoms_spec (ws := wsX9_seated) B.pre
  have hown : s.vm.findClass RX9 = some m.cls := findClass_of_methodNamed B.named
  have hlocks := B.notSynchronized
  subst hsz
  have hD := hD0.self (sz := s.heap.size)
  generalize hAe : va_A [(x, .inr (9, [.ref x_state, .ref x_images, .ref x_kept, .ref x_history, .ref x_drawnTower, .ref x_machine, .ref x_judge, .ref x_runner, .ref x_reader, .ref x_draft, .ref x_paper, .ref x_tape, .int 0, .int (-1), .int 0, .int (-1), .ref x_chances, .ref x_refusals, .int 0])), (x_state, .inr (6, [.ref x_state_tower, .int 1, .int 0, .int 0, .ref x_state_seenPlace, .ref x_state_seenRank, .int 0, .ref x_state_laws, .int 0, .int (-1)])), (x_judge, .inr (1, [.ref x_machine, .ref x_judge_words, .null])), (x_judge_words, .inl (ty 0, 9, .inl (fun _ => 0)))] s.heap.size = A at hD hE ⊢
  have hA : ∀ q : Nat, s.heap.size ≤ q → A q := fun q h => by rw [← hAe]; exact Or.inr h
  have hS : va_S A s.heap s.heap [] := va_S.rf
  have hl := lv_entry ([.ref x]) (n := 1) (Nat.le_of_ble_eq_true rfl)
  rw [lg_entry_eq]
  generalize (lg_sl ([.ref x]) ++ List.replicate (1 - (lg_sl ([.ref x])).length) Slot.unset).toArray = ls at hl ⊢
  have hl : lv_has ls 1 [(0, .ref x)] := hl
  refine lv_aload_n hx hb dX9_seated_0 rfl (lv_at hl 0 rfl) ?_
  refine va_get (D := D) (ci := 9) (v := .ref x_judge) (C := RX9) (T := TX9) (N := 19) hx hb hts (by decide +kernel) hown hK hP 0 rfl rfl 6 (by decide) (hts (.fieldLink RX9 50 "TurnedFloors" "judge" "LTurnedFloors$Judge;") (by decide +kernel)) (fun _ h9 => h9) rfl dX9_seated_1 ?_
  refine lv_aload_n hx hb dX9_seated_4 rfl (lv_at hl 0 rfl) ?_
  refine va_get (D := D) (ci := 9) (v := .ref x_state) (C := RX9) (T := TX9) (N := 19) hx hb hts (by decide +kernel) hown hK hP 0 rfl rfl 0 (by decide) (hts (.fieldLink RX9 10 "TurnedFloors" "state" "LTurnedFloors$State;") (by decide +kernel)) (fun _ h9 => h9) rfl dX9_seated_5 ?_
  refine lv_aload_n hx hb dX9_seated_8 rfl (lv_at hl 0 rfl) ?_
  refine va_get (D := D) (ci := 9) (v := .ref x_state) (C := RX9) (T := TX9) (N := 19) hx hb hts (by decide +kernel) hown hK hP 0 rfl rfl 0 (by decide) (hts (.fieldLink RX9 10 "TurnedFloors" "state" "LTurnedFloors$State;") (by decide +kernel)) (fun _ h9 => h9) rfl dX9_seated_9 ?_
  refine va_getN (D := D) (ci := 6) (v := .int (-1)) (C := RX6) (T := TX6) (N := 10) hx hb hts (by decide +kernel) hown hK hP 1 rfl rfl 9 (by decide) (hN.use (.fieldLinkNest "TurnedFloors" 208 "TurnedFloors$State" "inForce" "I" "TurnedFloors") (by decide +kernel)) (fun _ h9 => h9) rfl dX9_seated_12 ?_
  refine kz_kq (wc := [(x_state, .inr (6, [.ref x_state_tower, .int 1, .int 0, .int 0, .ref x_state_seenPlace, .ref x_state_seenRank, .int 0, .ref x_state_laws, .int 0, .int (-1)]))]) (wr := [(x, .inr (9, [.ref x_state, .ref x_images, .ref x_kept, .ref x_history, .ref x_drawnTower, .ref x_machine, .ref x_judge, .ref x_runner, .ref x_reader, .ref x_draft, .ref x_paper, .ref x_tape, .int 0, .int (-1), .int 0, .int (-1), .ref x_chances, .ref x_refusals, .int 0])), (x_judge, .inr (1, [.ref x_machine, .ref x_judge_words, .null])), (x_judge_words, .inl (ty 0, 9, .inl (fun _ => 0)))]) (va_runV (As := [.int (-1)]) (rest := [.ref x_judge]) ⟨hx, hb, hml, hown, hts⟩ (kX6_lawAt_43 l D ty eo _ x_state x_state_tower x_state_seenPlace x_state_seenRank x_state_laws) (cwV 1 hts gX9_seated_X6_lawAt rfl rfl rfl (by decide +kernel) ⟨Nat.le_of_ble_eq_true rfl, Nat.le_of_ble_eq_true rfl⟩) (kz_preV (ci := 6) (q0 := 1) hK hN hE hP hD hS hA rfl rfl [1] (by decide) rfl) rfl rfl hl.1 rfl (lv_room (Nat.le_of_ble_eq_true rfl)) dX9_seated_15 ⟨Nat.le_of_ble_eq_true rfl, Nat.le_of_ble_eq_true rfl⟩) hP hD hS hA [1] [0, 2, 3] rfl rfl (by decide) (by decide) (fun r u H locs hw hp hd hs => ?_)
  obtain ⟨rfl, rfl⟩ := hw
  refine kz_re (w2 := [(x, .inr (9, [.ref x_state, .ref x_images, .ref x_kept, .ref x_history, .ref x_drawnTower, .ref x_machine, .ref x_judge, .ref x_runner, .ref x_reader, .ref x_draft, .ref x_paper, .ref x_tape, .int 0, .int (-1), .int 0, .int (-1), .ref x_chances, .ref x_refusals, .int 0])), (x_judge, .inr (1, [.ref x_machine, .ref x_judge_words, .null])), (x_judge_words, .inl (ty 0, 9, .inl (fun _ => 0))), (x_state, .inr (6, [.ref x_state_tower, .int 1, .int 0, .int 0, .ref x_state_seenPlace, .ref x_state_seenRank, .int 0, .ref x_state_laws, .int 0, .int (-1)]))]) hp hd hs rfl ?_
  clear hp hd hs hP hD hS
  intro hP hD hS
  refine lv_aload_n hx hb dX9_seated_18 rfl (lv_at hl 0 rfl) ?_
  refine va_get (D := D) (ci := 9) (v := .ref x_state) (C := RX9) (T := TX9) (N := 19) hx hb hts (by decide +kernel) hown hK hP 0 rfl rfl 0 (by decide) (hts (.fieldLink RX9 10 "TurnedFloors" "state" "LTurnedFloors$State;") (by decide +kernel)) (fun _ h9 => h9) rfl dX9_seated_19 ?_
  refine va_getN (D := D) (ci := 6) (v := .int 0) (C := RX6) (T := TX6) (N := 10) hx hb hts (by decide +kernel) hown hK hP 3 rfl rfl 2 (by decide) (hN.use (.fieldLinkNest "TurnedFloors" 310 "TurnedFloors$State" "mood" "I" "TurnedFloors") (by decide +kernel)) (fun _ h9 => h9) rfl dX9_seated_22 ?_
  refine kz_kv (wc := [(x_judge, .inr (1, [.ref x_machine, .ref x_judge_words, .null])), (x_judge_words, .inl (ty 0, 9, .inl (fun _ => 0)))]) (wr := [(x, .inr (9, [.ref x_state, .ref x_images, .ref x_kept, .ref x_history, .ref x_drawnTower, .ref x_machine, .ref x_judge, .ref x_runner, .ref x_reader, .ref x_draft, .ref x_paper, .ref x_tape, .int 0, .int (-1), .int 0, .int (-1), .ref x_chances, .ref x_refusals, .int 0])), (x_state, .inr (6, [.ref x_state_tower, .int 1, .int 0, .int 0, .ref x_state_seenPlace, .ref x_state_seenRank, .int 0, .ref x_state_laws, .int 0, .int (-1)]))]) (va_runV (As := [.null, .int 0]) (rest := []) ⟨hx, hb, hml, hown, hts⟩ (kX1_seat_44 l D ty eo _ x_judge x_machine x_judge_words) (cwV 2 hts gX9_seated_X1_seat rfl rfl rfl (by decide +kernel) ⟨Nat.le_of_ble_eq_true rfl, Nat.le_of_ble_eq_true rfl⟩) (kz_preV (ci := 1) (q0 := 1) hK hN hE hP hD hS hA rfl rfl [1, 2] (by decide) rfl) rfl rfl hl.1 rfl (lv_room (Nat.le_of_ble_eq_true rfl)) dX9_seated_25 ⟨Nat.le_of_ble_eq_true rfl, Nat.le_of_ble_eq_true rfl⟩) hP hD hS hA [1, 2] [0, 3] rfl rfl (by decide) (by decide) (fun u H locs hw hp hd hs => ?_)
  obtain rfl := hw
  refine kz_re (w2 := [(x, .inr (9, [.ref x_state, .ref x_images, .ref x_kept, .ref x_history, .ref x_drawnTower, .ref x_machine, .ref x_judge, .ref x_runner, .ref x_reader, .ref x_draft, .ref x_paper, .ref x_tape, .int 0, .int (-1), .int 0, .int (-1), .ref x_chances, .ref x_refusals, .int 0])), (x_state, .inr (6, [.ref x_state_tower, .int 1, .int 0, .int 0, .ref x_state_seenPlace, .ref x_state_seenRank, .int 0, .ref x_state_laws, .int 0, .int (-1)])), (x_judge, .inr (1, [.ref x_machine, .ref x_judge_words, .null])), (x_judge_words, .inl (ty 0, 9, .inl (upd (fun _ => 0) 8 0)))]) hp hd hs rfl ?_
  clear hp hd hs hP hD hS
  intro hP hD hS
  refine lv_aload_n hx hb dX9_seated_28 rfl (lv_at hl 0 rfl) ?_
  refine va_get (D := D) (ci := 9) (v := .ref x_judge) (C := RX9) (T := TX9) (N := 19) hx hb hts (by decide +kernel) hown hK hP 0 rfl rfl 6 (by decide) (hts (.fieldLink RX9 50 "TurnedFloors" "judge" "LTurnedFloors$Judge;") (by decide +kernel)) (fun _ h9 => h9) rfl dX9_seated_29 ?_
  exact kz_aret hx hb hr (Or.inl ⟨_, rfl⟩) (Or.inr ⟨_, rfl⟩) hlocks hP hK hD hS dX9_seated_32 ⟨rfl, rfl⟩

set_option maxHeartbeats 4000000 in
set_option maxRecDepth 100000 in
theorem kcX1_setCommon (l : Launch) (D : va_G) (ty : Nat → ClassId) (eo : Nat → Nat) (sz : Nat) (h0 : Nat) (h0_v0 h0_v2 : Value) (p1 p2 : Int32) (h0_words : Nat) (h0_words_f : Nat → Int32) : Met l yX1_setCommon wsX1_setCommon ({ frames := 0, cells := 0, slots := 0, locals := 0 }) (va_Pc [.ref h0, .int p1, .int p2] (kz_pre D ty eo [(h0, .inr (1, [h0_v0, .ref h0_words, h0_v2])), (h0_words, .inl (ty 0, 9, .inl h0_words_f))] sz)) (va_Qv (fun (u : va_W) => [(h0, .inr (1, [h0_v0, .ref h0_words, h0_v2])), (h0_words, .inl (ty 0, 9, .inl (upd (upd h0_words_f 4 p1) 7 p2)))] = u) (kz_B D ty (va_A [(h0, .inr (1, [h0_v0, .ref h0_words, h0_v2])), (h0_words, .inl (ty 0, 9, .inl h0_words_f))] sz)) (va_A [(h0, .inr (1, [h0_v0, .ref h0_words, h0_v2])), (h0_words, .inl (ty 0, 9, .inl h0_words_f))] sz)) 0 0 (va_A [(h0, .inr (1, [h0_v0, .ref h0_words, h0_v2])), (h0_words, .inl (ty 0, 9, .inl h0_words_f))] sz) := by
  refine Met.ofW (cc := cX1_setCommon) (maxL := 3) (ret := none) (by decide) rfl ?_
  intro p e s m args below meth c s₁ B hml hv
  obtain ⟨rfl, hsz, hP, hK, hD0, hN, hE⟩ := hv
  have hx := B.exec
  have hb := B.bytes
  have hr := B.returns
  have hts := atoms_spec (ws := wsX1_setCommon) B.pre
  have hown : s.vm.findClass RX1 = some m.cls := findClass_of_methodNamed B.named
  have hlocks := B.notSynchronized
  subst hsz
  have hD := hD0.self (sz := s.heap.size)
  generalize hAe : va_A [(h0, .inr (1, [h0_v0, .ref h0_words, h0_v2])), (h0_words, .inl (ty 0, 9, .inl h0_words_f))] s.heap.size = A at hD hE ⊢
  have hA : ∀ q : Nat, s.heap.size ≤ q → A q := fun q h => by rw [← hAe]; exact Or.inr h
  have hS : va_S A s.heap s.heap [] := va_S.rf
  have hl := lv_entry ([.ref h0, .int p1, .int p2]) (n := 3) (Nat.le_of_ble_eq_true rfl)
  rw [lg_entry_eq]
  generalize (lg_sl ([.ref h0, .int p1, .int p2]) ++ List.replicate (3 - (lg_sl ([.ref h0, .int p1, .int p2])).length) Slot.unset).toArray = ls at hl ⊢
  have hl : lv_has ls 3 [(0, .ref h0), (1, .int p1), (2, .int p2)] := hl
  refine lv_aload_n hx hb dX1_setCommon_0 rfl (lv_at hl 0 rfl) ?_
  refine va_get (D := D) (ci := 1) (v := .ref h0_words) (C := RX1) (T := TX1) (N := 3) hx hb hts (by decide +kernel) hown hK hP 0 rfl rfl 1 (by decide) (hts (.fieldLink RX1 11 "TurnedFloors$Judge" "words" "[I") (by decide +kernel)) (fun _ h9 => h9) rfl dX1_setCommon_1 ?_
  refine lv_iconst (v := 4) hx hb dX1_setCommon_4 (by decide) ?_
  refine lv_iload_n hx hb dX1_setCommon_5 rfl (lv_at hl 1 rfl) ?_
  refine va_iast hx hb hK hP hD hS 1 0 rfl rfl (by simp only [vp_in]; decide) dX1_setCommon_6 (fun H locs hp hd hs => ?_)
  refine kz_re (w2 := [(h0, .inr (1, [h0_v0, .ref h0_words, h0_v2])), (h0_words, .inl (ty 0, 9, .inl (upd h0_words_f 4 p1)))]) hp hd hs rfl ?_
  clear hp hd hs hP hD hS
  intro hP hD hS
  refine lv_aload_n hx hb dX1_setCommon_7 rfl (lv_at hl 0 rfl) ?_
  refine va_get (D := D) (ci := 1) (v := .ref h0_words) (C := RX1) (T := TX1) (N := 3) hx hb hts (by decide +kernel) hown hK hP 0 rfl rfl 1 (by decide) (hts (.fieldLink RX1 11 "TurnedFloors$Judge" "words" "[I") (by decide +kernel)) (fun _ h9 => h9) rfl dX1_setCommon_8 ?_
  refine lv_bipush (v := 7) hx hb dX1_setCommon_11 (by decide) ?_
  refine lv_iload_n hx hb dX1_setCommon_13 rfl (lv_at hl 2 rfl) ?_
  refine va_iast hx hb hK hP hD hS 1 0 rfl rfl (by simp only [vp_in]; decide) dX1_setCommon_14 (fun H locs hp hd hs => ?_)
  refine kz_re (w2 := [(h0, .inr (1, [h0_v0, .ref h0_words, h0_v2])), (h0_words, .inl (ty 0, 9, .inl (upd (upd h0_words_f 4 p1) 7 p2)))]) hp hd hs rfl ?_
  clear hp hd hs hP hD hS
  intro hP hD hS
  exact kz_vret hx hb hr hlocks hP hK hD hS dX1_setCommon_15 rfl

set_option maxHeartbeats 4000000 in
set_option maxRecDepth 100000 in
theorem kX8_tell_45 (l : Launch) (D : va_G) (ty : Nat → ClassId) (eo : Nat → Nat) (sz : Nat) (p1 p1_rank p1_head : Nat) (p1_floors : Int32) (p1_v3 : Value) (p1_year : Int32) (p1_rank_f : Nat → Int32) : Met l yX8_tell wsX8_tell ({ frames := 1, cells := 0, slots := 0, locals := 21 }) (va_Pc [.ref p1, .int 0, .int 0] (kz_pre D ty eo [(p1, .inr (8, [.ref p1_rank, .ref p1_head, .int p1_floors, p1_v3, .int p1_year])), (p1_rank, .inl (ty 0, 6, .inl p1_rank_f))] sz)) (va_Qi (fun (r : Int32) (u : va_W) => (p1_floors ≤ 0 ∧ (-1) = r ∧ [(p1_rank, .inl (ty 0, 6, .inl p1_rank_f)), (p1, .inr (8, [.ref p1_rank, .ref p1_head, .int p1_floors, p1_v3, .int p1_year]))] = u) ∨ (¬ p1_floors ≤ 0 ∧ (p1_rank_f 0) = r ∧ [(p1_rank, .inl (ty 0, 6, .inl p1_rank_f)), (p1, .inr (8, [.ref p1_rank, .ref p1_head, .int p1_floors, p1_v3, .int p1_year]))] = u)) (kz_B D ty (va_A [(p1, .inr (8, [.ref p1_rank, .ref p1_head, .int p1_floors, p1_v3, .int p1_year])), (p1_rank, .inl (ty 0, 6, .inl p1_rank_f))] sz)) (va_A [(p1, .inr (8, [.ref p1_rank, .ref p1_head, .int p1_floors, p1_v3, .int p1_year])), (p1_rank, .inl (ty 0, 6, .inl p1_rank_f))] sz)) 0 0 (va_A [(p1, .inr (8, [.ref p1_rank, .ref p1_head, .int p1_floors, p1_v3, .int p1_year])), (p1_rank, .inl (ty 0, 6, .inl p1_rank_f))] sz) := by
  refine Met.ofW (cc := cX8_tell) (maxL := 3) (ret := (some .int)) (by decide) rfl ?_
  intro p e s m args below meth c s₁ B hml hv
  obtain ⟨rfl, hsz, hP, hK, hD0, hN, hE⟩ := hv
  have hx := B.exec
  have hb := B.bytes
  have hr := B.returns
  have hts := atoms_spec (ws := wsX8_tell) B.pre
  have hown : s.vm.findClass RX8 = some m.cls := findClass_of_methodNamed B.named
  have hlocks := B.notSynchronized
  subst hsz
  have hD := hD0.self (sz := s.heap.size)
  generalize hAe : va_A [(p1, .inr (8, [.ref p1_rank, .ref p1_head, .int p1_floors, p1_v3, .int p1_year])), (p1_rank, .inl (ty 0, 6, .inl p1_rank_f))] s.heap.size = A at hD hE ⊢
  have hA : ∀ q : Nat, s.heap.size ≤ q → A q := fun q h => by rw [← hAe]; exact Or.inr h
  have hS : va_S A s.heap s.heap [] := va_S.rf
  have hl := lv_entry ([.ref p1, .int 0, .int 0]) (n := 3) (Nat.le_of_ble_eq_true rfl)
  rw [lg_entry_eq]
  generalize (lg_sl ([.ref p1, .int 0, .int 0]) ++ List.replicate (3 - (lg_sl ([.ref p1, .int 0, .int 0])).length) Slot.unset).toArray = ls at hl ⊢
  have hl : lv_has ls 3 [(0, .ref p1), (1, .int 0), (2, .int 0)] := hl
  refine lv_aload_n hx hb dX8_tell_0 rfl (lv_at hl 0 rfl) ?_
  refine lv_iload_n hx hb dX8_tell_1 rfl (lv_at hl 1 rfl) ?_
  refine kz_ki (wc := [(p1, .inr (8, [.ref p1_rank, .ref p1_head, .int p1_floors, p1_v3, .int p1_year]))]) (wr := [(p1_rank, .inl (ty 0, 6, .inl p1_rank_f))]) (va_runV (As := [.int 0]) (rest := []) ⟨hx, hb, hml, hown, hts⟩ (kcX8_isFloor l D ty eo _ p1 (.ref p1_rank) (.ref p1_head) p1_v3 (.int p1_year) 0 p1_floors) (cwV 1 hts gX8_tell_X8_isFloor rfl rfl rfl (by decide +kernel) ⟨Nat.le_of_ble_eq_true rfl, Nat.le_of_ble_eq_true rfl⟩) (kz_preV (ci := 8) (q0 := 0) hK hN hE hP hD hS hA rfl rfl [0] (by decide) rfl) rfl rfl hl.1 rfl (lv_room (Nat.le_of_ble_eq_true rfl)) dX8_tell_2 ⟨Nat.le_of_ble_eq_true rfl, Nat.le_of_ble_eq_true rfl⟩) hP hD hS hA [0] [1] rfl rfl (by decide) (by decide) (fun r u H locs hw hp hd hs => ?_)
  rcases hw with ⟨c_1, rfl, rfl⟩ | ⟨c_2, c_3, rfl, rfl⟩ | ⟨c_4, c_5, rfl, rfl⟩
  · exact absurd c_1 (by decide)
  · refine kz_re (w2 := [(p1_rank, .inl (ty 0, 6, .inl p1_rank_f)), (p1, .inr (8, [.ref p1_rank, .ref p1_head, .int p1_floors, p1_v3, .int p1_year]))]) hp hd hs rfl ?_
    clear hp hd hs hP hD hS
    intro hP hD hS
    refine lv_if_eq (tgt := 15) hx hb dX8_tell_5 (by decide) (fun _ => ?_) (fun h => absurd (by decide) h)
    refine lv_iconst (v := (-1)) hx hb dX8_tell_15 (by decide) ?_
    exact kz_iret hx hb hr hlocks hP hK hD hS dX8_tell_16 (Or.inl ⟨c_3, rfl, rfl⟩)
  · refine kz_re (w2 := [(p1_rank, .inl (ty 0, 6, .inl p1_rank_f)), (p1, .inr (8, [.ref p1_rank, .ref p1_head, .int p1_floors, p1_v3, .int p1_year]))]) hp hd hs rfl ?_
    clear hp hd hs hP hD hS
    intro hP hD hS
    refine lv_if_eq (tgt := 15) hx hb dX8_tell_5 (by decide) (fun h => absurd h (by decide)) (fun _ => ?_)
    refine lv_iload_n hx hb dX8_tell_8 rfl (lv_at hl 2 rfl) ?_
    refine kz_ki (wc := []) (wr := [(p1_rank, .inl (ty 0, 6, .inl p1_rank_f)), (p1, .inr (8, [.ref p1_rank, .ref p1_head, .int p1_floors, p1_v3, .int p1_year]))]) (va_runSN (As := [.int 0]) (rest := []) ⟨hx, hb, hml, hown, hts⟩ (kcX9_isBit l D ty eo _ 0) ⟨va_cnB 1 hts gX8_tell_X9_isBit_n32 rfl rfl rfl (hN.1 _ (by decide +kernel : (.methodLinkNest "TurnedFloors$Tower" 32 yX9_isBit "TurnedFloors" : Cond) ∈ kzN1)) (hts (.initialized RX9) (by decide +kernel)) (by decide +kernel) ⟨Nat.le_of_ble_eq_true rfl, Nat.le_of_ble_eq_true rfl⟩, hts (.static yX9_isBit) (by decide +kernel), trivial⟩ (kz_preS hK hN hE hP hD hS hA [] (by decide) rfl) rfl rfl hl.1 rfl (lv_room (Nat.le_of_ble_eq_true rfl)) dX8_tell_9 ⟨Nat.le_of_ble_eq_true rfl, Nat.le_of_ble_eq_true rfl⟩) hP hD hS hA [] [0, 1] rfl rfl (by decide) (by decide) (fun r u H locs hw hp hd hs => ?_)
    rcases hw with ⟨c_6, rfl, rfl⟩ | ⟨c_7, c_8, rfl, rfl⟩ | ⟨c_9, c_10, rfl, rfl⟩
    · refine kz_re (w2 := [(p1_rank, .inl (ty 0, 6, .inl p1_rank_f)), (p1, .inr (8, [.ref p1_rank, .ref p1_head, .int p1_floors, p1_v3, .int p1_year]))]) hp hd hs rfl ?_
      clear hp hd hs hP hD hS
      intro hP hD hS
      refine lv_if_ne (tgt := 17) hx hb dX8_tell_12 (by decide) (fun _ => ?_) (fun h => absurd h (by decide))
      refine lv_iload_n hx hb dX8_tell_17 rfl (lv_at hl 2 rfl) ?_
      refine lv_if_ne (tgt := 30) hx hb dX8_tell_18 (by decide) (fun h => absurd (by decide) h) (fun _ => ?_)
      refine lv_aload_n hx hb dX8_tell_21 rfl (lv_at hl 0 rfl) ?_
      refine va_get (D := D) (ci := 8) (v := .ref p1_rank) (C := RX8) (T := TX8) (N := 5) hx hb hts (by decide +kernel) hown hK hP 1 rfl rfl 0 (by decide) (hts (.fieldLink RX8 9 "TurnedFloors$Tower" "rank" "[I") (by decide +kernel)) (fun _ h9 => h9) rfl dX8_tell_22 ?_
      refine lv_iload_n hx hb dX8_tell_25 rfl (lv_at hl 1 rfl) ?_
      refine va_iald hx hb hK hP 0 0 rfl rfl (by simp only [vp_in]; decide) dX8_tell_26 ?_
      refine kz_topi (p1_rank_f 0) (by first | rfl | decide +kernel) ?_
      refine lv_goto (tgt := 36) hx hb dX8_tell_27 (by decide) ?_
      exact kz_iret hx hb hr hlocks hP hK hD hS dX8_tell_36 (Or.inr ⟨c_5, rfl, rfl⟩)
    · exact absurd c_7 (by decide)
    · exact absurd c_9 (by decide)

set_option maxHeartbeats 4000000 in
set_option maxRecDepth 100000 in
theorem kX8_turnTop_57 (l : Launch) (D : va_G) (ty : Nat → ClassId) (eo : Nat → Nat) (sz : Nat) (x_state_tower : Nat) (a1 : Int32) (x_judge x_state_tower_rank x_state_tower_head : Nat) : Met l yX8_turnTop wsX8_turnTop ({ frames := 0, cells := 0, slots := 0, locals := 0 }) (va_Pc [.ref x_state_tower, .int a1, .ref x_judge] (kz_pre D ty eo [(x_state_tower, .inr (8, [.ref x_state_tower_rank, .ref x_state_tower_head, .int 0, .int 0, .int 0]))] sz)) (va_Qi (fun (r : Int32) (u : va_W) => (a1 < 1 ∧ (-1) = r ∧ [(x_state_tower, .inr (8, [.ref x_state_tower_rank, .ref x_state_tower_head, .int 0, .int 0, .int 0]))] = u) ∨ (¬ a1 < 1 ∧ a1 ≤ 6 ∧ (-3) = r ∧ [(x_state_tower, .inr (8, [.ref x_state_tower_rank, .ref x_state_tower_head, .int 0, .int 0, .int 0]))] = u) ∨ (¬ a1 < 1 ∧ ¬ a1 ≤ 6 ∧ (-1) = r ∧ [(x_state_tower, .inr (8, [.ref x_state_tower_rank, .ref x_state_tower_head, .int 0, .int 0, .int 0]))] = u)) (kz_B D ty (va_A [(x_state_tower, .inr (8, [.ref x_state_tower_rank, .ref x_state_tower_head, .int 0, .int 0, .int 0]))] sz)) (va_A [(x_state_tower, .inr (8, [.ref x_state_tower_rank, .ref x_state_tower_head, .int 0, .int 0, .int 0]))] sz)) 0 0 (va_A [(x_state_tower, .inr (8, [.ref x_state_tower_rank, .ref x_state_tower_head, .int 0, .int 0, .int 0]))] sz) := by
  refine Met.ofW (cc := cX8_turnTop) (maxL := 6) (ret := (some .int)) (by decide) rfl ?_
  intro p e s m args below meth c s₁ B hml hv
  obtain ⟨rfl, hsz, hP, hK, hD0, hN, hE⟩ := hv
  have hx := B.exec
  have hb := B.bytes
  have hr := B.returns
  have hts := atoms_spec (ws := wsX8_turnTop) B.pre
  have hown : s.vm.findClass RX8 = some m.cls := findClass_of_methodNamed B.named
  have hlocks := B.notSynchronized
  subst hsz
  have hD := hD0.self (sz := s.heap.size)
  generalize hAe : va_A [(x_state_tower, .inr (8, [.ref x_state_tower_rank, .ref x_state_tower_head, .int 0, .int 0, .int 0]))] s.heap.size = A at hD hE ⊢
  have hA : ∀ q : Nat, s.heap.size ≤ q → A q := fun q h => by rw [← hAe]; exact Or.inr h
  have hS : va_S A s.heap s.heap [] := va_S.rf
  have hl := lv_entry ([.ref x_state_tower, .int a1, .ref x_judge]) (n := 6) (Nat.le_of_ble_eq_true rfl)
  rw [lg_entry_eq]
  generalize (lg_sl ([.ref x_state_tower, .int a1, .ref x_judge]) ++ List.replicate (6 - (lg_sl ([.ref x_state_tower, .int a1, .ref x_judge])).length) Slot.unset).toArray = ls at hl ⊢
  have hl : lv_has ls 6 [(0, .ref x_state_tower), (1, .int a1), (2, .ref x_judge)] := hl
  refine lv_iload_n hx hb dX8_turnTop_0 rfl (lv_at hl 1 rfl) ?_
  refine lv_iconst (v := 1) hx hb dX8_turnTop_1 (by decide) ?_
  refine lv_icmp_lt (tgt := 11) hx hb dX8_turnTop_2 (by decide) (fun c_1 => ?_) (fun c_1 => ?_)
  · refine lv_iconst (v := (-1)) hx hb dX8_turnTop_11 (by decide) ?_
    exact kz_iret hx hb hr hlocks hP hK hD hS dX8_turnTop_12 (Or.inl ⟨c_1, rfl, rfl⟩)
  · refine lv_iload_n hx hb dX8_turnTop_5 rfl (lv_at hl 1 rfl) ?_
    refine lv_bipush (v := 6) hx hb dX8_turnTop_6 (by decide) ?_
    refine lv_icmp_le (tgt := 13) hx hb dX8_turnTop_8 (by decide) (fun c_2 => ?_) (fun c_2 => ?_)
    · refine lv_iload_n hx hb dX8_turnTop_13 rfl (lv_at hl 1 rfl) ?_
      refine lv_aload_n hx hb dX8_turnTop_14 rfl (lv_at hl 0 rfl) ?_
      refine va_get (D := D) (ci := 8) (v := .int 0) (C := RX8) (T := TX8) (N := 5) hx hb hts (by decide +kernel) hown hK hP 0 rfl rfl 2 (by decide) (hts (.fieldLink RX8 18 "TurnedFloors$Tower" "floors" "I") (by decide +kernel)) (fun _ h9 => h9) rfl dX8_turnTop_15 ?_
      refine lv_icmp_gt (tgt := 30) hx hb dX8_turnTop_18 (by decide) (fun _ => ?_) (fun h => kz_false (by simp only [Int32.lt_iff_toInt_lt, Int32.le_iff_toInt_le, ← Int32.toInt_inj, Int32.reduceToInt] at c_1 c_2 h; omega))
      refine lv_bipush (v := (-3)) hx hb dX8_turnTop_30 (by decide) ?_
      exact kz_iret hx hb hr hlocks hP hK hD hS dX8_turnTop_32 (Or.inr (Or.inl ⟨c_1, c_2, rfl, rfl⟩))
    · refine lv_iconst (v := (-1)) hx hb dX8_turnTop_11 (by decide) ?_
      exact kz_iret hx hb hr hlocks hP hK hD hS dX8_turnTop_12 (Or.inr (Or.inr ⟨c_1, c_2, rfl, rfl⟩))

set_option maxHeartbeats 4000000 in
set_option maxRecDepth 100000 in
theorem kX8_act_56 (l : Launch) (D : va_G) (ty : Nat → ClassId) (eo : Nat → Nat) (sz : Nat) (x_state_tower : Nat) (a2 : Int32) (x_judge x_state_tower_rank x_state_tower_head : Nat) : Met l yX8_act wsX8_act ({ frames := 1, cells := 0, slots := 0, locals := 25 }) (va_Pc [.ref x_state_tower, .int 0, .int a2, .ref x_judge] (kz_pre D ty eo [(x_state_tower, .inr (8, [.ref x_state_tower_rank, .ref x_state_tower_head, .int 0, .int 0, .int 0]))] sz)) (va_Qi (fun (r : Int32) (u : va_W) => (a2 < 1 ∧ (-1) = r ∧ [(x_state_tower, .inr (8, [.ref x_state_tower_rank, .ref x_state_tower_head, .int 0, .int 0, .int 0]))] = u) ∨ (¬ a2 < 1 ∧ a2 ≤ 6 ∧ (-3) = r ∧ [(x_state_tower, .inr (8, [.ref x_state_tower_rank, .ref x_state_tower_head, .int 0, .int 0, .int 0]))] = u) ∨ (¬ a2 < 1 ∧ ¬ a2 ≤ 6 ∧ (-1) = r ∧ [(x_state_tower, .inr (8, [.ref x_state_tower_rank, .ref x_state_tower_head, .int 0, .int 0, .int 0]))] = u)) (kz_B D ty (va_A [(x_state_tower, .inr (8, [.ref x_state_tower_rank, .ref x_state_tower_head, .int 0, .int 0, .int 0]))] sz)) (va_A [(x_state_tower, .inr (8, [.ref x_state_tower_rank, .ref x_state_tower_head, .int 0, .int 0, .int 0]))] sz)) 0 0 (va_A [(x_state_tower, .inr (8, [.ref x_state_tower_rank, .ref x_state_tower_head, .int 0, .int 0, .int 0]))] sz) := by
  refine Met.ofW (cc := cX8_act) (maxL := 4) (ret := (some .int)) (by decide) rfl ?_
  intro p e s m args below meth c s₁ B hml hv
  obtain ⟨rfl, hsz, hP, hK, hD0, hN, hE⟩ := hv
  have hx := B.exec
  have hb := B.bytes
  have hr := B.returns
  have hts := atoms_spec (ws := wsX8_act) B.pre
  have hown : s.vm.findClass RX8 = some m.cls := findClass_of_methodNamed B.named
  have hlocks := B.notSynchronized
  subst hsz
  have hD := hD0.self (sz := s.heap.size)
  generalize hAe : va_A [(x_state_tower, .inr (8, [.ref x_state_tower_rank, .ref x_state_tower_head, .int 0, .int 0, .int 0]))] s.heap.size = A at hD hE ⊢
  have hA : ∀ q : Nat, s.heap.size ≤ q → A q := fun q h => by rw [← hAe]; exact Or.inr h
  have hS : va_S A s.heap s.heap [] := va_S.rf
  have hl := lv_entry ([.ref x_state_tower, .int 0, .int a2, .ref x_judge]) (n := 4) (Nat.le_of_ble_eq_true rfl)
  rw [lg_entry_eq]
  generalize (lg_sl ([.ref x_state_tower, .int 0, .int a2, .ref x_judge]) ++ List.replicate (4 - (lg_sl ([.ref x_state_tower, .int 0, .int a2, .ref x_judge])).length) Slot.unset).toArray = ls at hl ⊢
  have hl : lv_has ls 4 [(0, .ref x_state_tower), (1, .int 0), (2, .int a2), (3, .ref x_judge)] := hl
  refine lv_iload_n hx hb dX8_act_0 rfl (lv_at hl 1 rfl) ?_
  refine lv_tableIn (off := 31) (tgt := 32) hx hb dX8_act_1 (by decide) (by decide) (by decide) (by decide) ?_
  refine lv_aload_n hx hb dX8_act_32 rfl (lv_at hl 0 rfl) ?_
  refine lv_iload_n hx hb dX8_act_33 rfl (lv_at hl 2 rfl) ?_
  refine lv_aload_n hx hb dX8_act_34 rfl (lv_at hl 3 rfl) ?_
  refine kz_ki (wc := [(x_state_tower, .inr (8, [.ref x_state_tower_rank, .ref x_state_tower_head, .int 0, .int 0, .int 0]))]) (wr := []) (va_runV (As := [.int a2, .ref x_judge]) (rest := []) ⟨hx, hb, hml, hown, hts⟩ (kX8_turnTop_57 l D ty eo _ x_state_tower a2 x_judge x_state_tower_rank x_state_tower_head) (cwV 2 hts gX8_act_X8_turnTop rfl rfl rfl (by decide +kernel) ⟨Nat.le_of_ble_eq_true rfl, Nat.le_of_ble_eq_true rfl⟩) (kz_preV (ci := 8) (q0 := 0) hK hN hE hP hD hS hA rfl rfl [0] (by decide) rfl) rfl rfl hl.1 rfl (lv_room (Nat.le_of_ble_eq_true rfl)) dX8_act_35 ⟨Nat.le_of_ble_eq_true rfl, Nat.le_of_ble_eq_true rfl⟩) hP hD hS hA [0] [] rfl rfl (by decide) (by decide) (fun r u H locs hw hp hd hs => ?_)
  rcases hw with ⟨c_1, rfl, rfl⟩ | ⟨c_2, c_3, rfl, rfl⟩ | ⟨c_4, c_5, rfl, rfl⟩
  · refine kz_re (w2 := [(x_state_tower, .inr (8, [.ref x_state_tower_rank, .ref x_state_tower_head, .int 0, .int 0, .int 0]))]) hp hd hs rfl ?_
    clear hp hd hs hP hD hS
    intro hP hD hS
    exact kz_iret hx hb hr hlocks hP hK hD hS dX8_act_38 (Or.inl ⟨c_1, rfl, rfl⟩)
  · refine kz_re (w2 := [(x_state_tower, .inr (8, [.ref x_state_tower_rank, .ref x_state_tower_head, .int 0, .int 0, .int 0]))]) hp hd hs rfl ?_
    clear hp hd hs hP hD hS
    intro hP hD hS
    exact kz_iret hx hb hr hlocks hP hK hD hS dX8_act_38 (Or.inr (Or.inl ⟨c_2, c_3, rfl, rfl⟩))
  · refine kz_re (w2 := [(x_state_tower, .inr (8, [.ref x_state_tower_rank, .ref x_state_tower_head, .int 0, .int 0, .int 0]))]) hp hd hs rfl ?_
    clear hp hd hs hP hD hS
    intro hP hD hS
    exact kz_iret hx hb hr hlocks hP hK hD hS dX8_act_38 (Or.inr (Or.inr ⟨c_4, c_5, rfl, rfl⟩))

set_option maxHeartbeats 4000000 in
set_option maxRecDepth 100000 in
theorem kX9_refuse_58 (l : Launch) (D : va_G) (ty : Nat → ClassId) (eo : Nat → Nat) (sz : Nat) (x x_state x_images x_kept x_history x_drawnTower x_machine x_judge x_runner x_reader x_draft x_paper x_tape x_chances x_refusals : Nat) : Met l yX9_refuse wsX9_refuse ({ frames := 0, cells := 0, slots := 0, locals := 0 }) (va_Pc [.ref x, .int (-3)] (kz_pre D ty eo [(x, .inr (9, [.ref x_state, .ref x_images, .ref x_kept, .ref x_history, .ref x_drawnTower, .ref x_machine, .ref x_judge, .ref x_runner, .ref x_reader, .ref x_draft, .ref x_paper, .ref x_tape, .int 0, .int (-1), .int 0, .int (-1), .ref x_chances, .ref x_refusals, .int 0])), (x_refusals, .inl (ty 0, 7, .inl (fun _ => 0)))] sz)) (va_Qi (fun (r : Int32) (u : va_W) => (-3) = r ∧ [(x, .inr (9, [.ref x_state, .ref x_images, .ref x_kept, .ref x_history, .ref x_drawnTower, .ref x_machine, .ref x_judge, .ref x_runner, .ref x_reader, .ref x_draft, .ref x_paper, .ref x_tape, .int 0, .int (-1), .int 0, .int (-1), .ref x_chances, .ref x_refusals, .int (-3)])), (x_refusals, .inl (ty 0, 7, .inl (upd (fun _ => 0) 3 1)))] = u) (kz_B D ty (va_A [(x, .inr (9, [.ref x_state, .ref x_images, .ref x_kept, .ref x_history, .ref x_drawnTower, .ref x_machine, .ref x_judge, .ref x_runner, .ref x_reader, .ref x_draft, .ref x_paper, .ref x_tape, .int 0, .int (-1), .int 0, .int (-1), .ref x_chances, .ref x_refusals, .int 0])), (x_refusals, .inl (ty 0, 7, .inl (fun _ => 0)))] sz)) (va_A [(x, .inr (9, [.ref x_state, .ref x_images, .ref x_kept, .ref x_history, .ref x_drawnTower, .ref x_machine, .ref x_judge, .ref x_runner, .ref x_reader, .ref x_draft, .ref x_paper, .ref x_tape, .int 0, .int (-1), .int 0, .int (-1), .ref x_chances, .ref x_refusals, .int 0])), (x_refusals, .inl (ty 0, 7, .inl (fun _ => 0)))] sz)) 0 0 (va_A [(x, .inr (9, [.ref x_state, .ref x_images, .ref x_kept, .ref x_history, .ref x_drawnTower, .ref x_machine, .ref x_judge, .ref x_runner, .ref x_reader, .ref x_draft, .ref x_paper, .ref x_tape, .int 0, .int (-1), .int 0, .int (-1), .ref x_chances, .ref x_refusals, .int 0])), (x_refusals, .inl (ty 0, 7, .inl (fun _ => 0)))] sz) := by
  refine Met.ofW (cc := cX9_refuse) (maxL := 2) (ret := (some .int)) (by decide) rfl ?_
  intro p e s m args below meth c s₁ B hml hv
  obtain ⟨rfl, hsz, hP, hK, hD0, hN, hE⟩ := hv
  have hx := B.exec
  have hb := B.bytes
  have hr := B.returns
  have hts := atoms_spec (ws := wsX9_refuse) B.pre
  have hown : s.vm.findClass RX9 = some m.cls := findClass_of_methodNamed B.named
  have hlocks := B.notSynchronized
  subst hsz
  have hD := hD0.self (sz := s.heap.size)
  generalize hAe : va_A [(x, .inr (9, [.ref x_state, .ref x_images, .ref x_kept, .ref x_history, .ref x_drawnTower, .ref x_machine, .ref x_judge, .ref x_runner, .ref x_reader, .ref x_draft, .ref x_paper, .ref x_tape, .int 0, .int (-1), .int 0, .int (-1), .ref x_chances, .ref x_refusals, .int 0])), (x_refusals, .inl (ty 0, 7, .inl (fun _ => 0)))] s.heap.size = A at hD hE ⊢
  have hA : ∀ q : Nat, s.heap.size ≤ q → A q := fun q h => by rw [← hAe]; exact Or.inr h
  have hS : va_S A s.heap s.heap [] := va_S.rf
  have hl := lv_entry ([.ref x, .int (-3)]) (n := 2) (Nat.le_of_ble_eq_true rfl)
  rw [lg_entry_eq]
  generalize (lg_sl ([.ref x, .int (-3)]) ++ List.replicate (2 - (lg_sl ([.ref x, .int (-3)])).length) Slot.unset).toArray = ls at hl ⊢
  have hl : lv_has ls 2 [(0, .ref x), (1, .int (-3))] := hl
  refine lv_aload_n hx hb dX9_refuse_0 rfl (lv_at hl 0 rfl) ?_
  refine lv_iload_n hx hb dX9_refuse_1 rfl (lv_at hl 1 rfl) ?_
  refine va_put (D := D) (ci := 9) (v := .int (-3)) (ty := .int) (C := RX9) (T := TX9) (N := 19) hx hb hts (by decide +kernel) tyX9 tyX9_ok nmX9 hown hK hP hD hS 0 rfl rfl 18 (by decide) (hts (.fieldLink RX9 108 "TurnedFloors" "latestStatus" "I") (by decide +kernel)) (fun _ h9 => h9) rfl (by decide +kernel) rfl rfl (Nat.le_of_ble_eq_true rfl) dX9_refuse_2 (fun H locs hp hd hs => ?_)
  refine kz_re (w2 := [(x, .inr (9, [.ref x_state, .ref x_images, .ref x_kept, .ref x_history, .ref x_drawnTower, .ref x_machine, .ref x_judge, .ref x_runner, .ref x_reader, .ref x_draft, .ref x_paper, .ref x_tape, .int 0, .int (-1), .int 0, .int (-1), .ref x_chances, .ref x_refusals, .int (-3)])), (x_refusals, .inl (ty 0, 7, .inl (fun _ => 0)))]) hp hd hs rfl ?_
  clear hp hd hs hP hD hS
  intro hP hD hS
  refine lv_iload_n hx hb dX9_refuse_5 rfl (lv_at hl 1 rfl) ?_
  refine lv_if_ge (tgt := 26) hx hb dX9_refuse_6 (by decide) (fun h => absurd h (by decide)) (fun _ => ?_)
  refine lv_iload_n hx hb dX9_refuse_9 rfl (lv_at hl 1 rfl) ?_
  refine lv_bipush (v := (-6)) hx hb dX9_refuse_10 (by decide) ?_
  refine lv_icmp_lt (tgt := 26) hx hb dX9_refuse_12 (by decide) (fun h => absurd h (by decide)) (fun _ => ?_)
  refine lv_aload_n hx hb dX9_refuse_15 rfl (lv_at hl 0 rfl) ?_
  refine va_get (D := D) (ci := 9) (v := .ref x_refusals) (C := RX9) (T := TX9) (N := 19) hx hb hts (by decide +kernel) hown hK hP 0 rfl rfl 17 (by decide) (hts (.fieldLink RX9 105 "TurnedFloors" "refusals" "[I") (by decide +kernel)) (fun _ h9 => h9) rfl dX9_refuse_16 ?_
  refine lv_iload_n hx hb dX9_refuse_19 rfl (lv_at hl 1 rfl) ?_
  refine lv_ineg hx hb dX9_refuse_20 ?_
  refine kz_topi 3 (by first | rfl | decide +kernel) ?_
  refine lv_dup2_11 hx hb dX9_refuse_21 rfl rfl ?_
  refine va_iald hx hb hK hP 1 0 rfl rfl (by simp only [vp_in]; decide) dX9_refuse_22 ?_
  refine kz_topi 0 (by first | rfl | decide +kernel) ?_
  refine lv_iconst (v := 1) hx hb dX9_refuse_23 (by decide) ?_
  refine lv_iadd hx hb dX9_refuse_24 ?_
  refine kz_topi 1 (by first | rfl | decide +kernel) ?_
  refine va_iast hx hb hK hP hD hS 1 0 rfl rfl (by simp only [vp_in]; decide) dX9_refuse_25 (fun H locs hp hd hs => ?_)
  refine kz_re (w2 := [(x, .inr (9, [.ref x_state, .ref x_images, .ref x_kept, .ref x_history, .ref x_drawnTower, .ref x_machine, .ref x_judge, .ref x_runner, .ref x_reader, .ref x_draft, .ref x_paper, .ref x_tape, .int 0, .int (-1), .int 0, .int (-1), .ref x_chances, .ref x_refusals, .int (-3)])), (x_refusals, .inl (ty 0, 7, .inl (upd (fun _ => 0) 3 1)))]) hp hd hs rfl ?_
  clear hp hd hs hP hD hS
  intro hP hD hS
  refine lv_iload_n hx hb dX9_refuse_26 rfl (lv_at hl 1 rfl) ?_
  exact kz_iret hx hb hr hlocks hP hK hD hS dX9_refuse_27 ⟨rfl, rfl⟩

set_option maxHeartbeats 4000000 in
set_option maxRecDepth 100000 in
theorem kX9_move_39 (l : Launch) (D : va_G) (ty : Nat → ClassId) (eo : Nat → Nat) (sz : Nat) (x : Nat) (a2 : Int32) (x_state x_images x_kept x_history x_drawnTower x_machine x_judge x_runner x_reader x_draft x_paper x_tape x_chances x_refusals x_state_tower x_state_seenPlace x_state_seenRank x_state_laws x_state_tower_rank x_state_tower_head x_judge_words : Nat) : Met l yX9_move wsX9_move ({ frames := 3, cells := 0, slots := 0, locals := 62 }) (va_Pc [.ref x, .int 0, .int a2] (kz_pre D ty eo [(x, .inr (9, [.ref x_state, .ref x_images, .ref x_kept, .ref x_history, .ref x_drawnTower, .ref x_machine, .ref x_judge, .ref x_runner, .ref x_reader, .ref x_draft, .ref x_paper, .ref x_tape, .int 0, .int (-1), .int 0, .int (-1), .ref x_chances, .ref x_refusals, .int 0])), (x_state, .inr (6, [.ref x_state_tower, .int 1, .int 0, .int 0, .ref x_state_seenPlace, .ref x_state_seenRank, .int 0, .ref x_state_laws, .int 0, .int (-1)])), (x_state_tower, .inr (8, [.ref x_state_tower_rank, .ref x_state_tower_head, .int 0, .int 0, .int 0])), (x_state_tower_rank, .inl (ty 0, 6, .inl (fun _ => 0))), (x_state_tower_head, .inl (ty 0, 6, .inl (fun _ => 0))), (x_judge, .inr (1, [.ref x_machine, .ref x_judge_words, .null])), (x_judge_words, .inl (ty 0, 9, .inl (fun _ => 0))), (x_refusals, .inl (ty 0, 7, .inl (fun _ => 0)))] sz)) (va_Qi (fun (r : Int32) (u : va_W) => (a2 < 1 ∧ (-1) = r ∧ [(x_state_tower_rank, .inl (ty 0, 6, .inl (fun _ => 0))), (x_state_tower_head, .inl (ty 0, 6, .inl (fun _ => 0))), (x_state, .inr (6, [.ref x_state_tower, .int 1, .int 0, .int 0, .ref x_state_seenPlace, .ref x_state_seenRank, .int 0, .ref x_state_laws, .int 0, .int (-1)])), (x_judge, .inr (1, [.ref x_machine, .ref x_judge_words, .null])), (x_judge_words, .inl (ty 0, 9, .inl (upd (fun _ => 0) 8 0))), (x_state_tower, .inr (8, [.ref x_state_tower_rank, .ref x_state_tower_head, .int 0, .int 0, .int 0])), (x, .inr (9, [.ref x_state, .ref x_images, .ref x_kept, .ref x_history, .ref x_drawnTower, .ref x_machine, .ref x_judge, .ref x_runner, .ref x_reader, .ref x_draft, .ref x_paper, .ref x_tape, .int 0, .int (-1), .int 0, .int (-1), .ref x_chances, .ref x_refusals, .int (-1)])), (x_refusals, .inl (ty 0, 7, .inl (upd (fun _ => 0) 1 1)))] = u) ∨ (¬ a2 < 1 ∧ a2 ≤ 6 ∧ (-3) = r ∧ [(x_state_tower_rank, .inl (ty 0, 6, .inl (fun _ => 0))), (x_state_tower_head, .inl (ty 0, 6, .inl (fun _ => 0))), (x_state, .inr (6, [.ref x_state_tower, .int 1, .int 0, .int 0, .ref x_state_seenPlace, .ref x_state_seenRank, .int 0, .ref x_state_laws, .int 0, .int (-1)])), (x_judge, .inr (1, [.ref x_machine, .ref x_judge_words, .null])), (x_judge_words, .inl (ty 0, 9, .inl (upd (fun _ => 0) 8 0))), (x_state_tower, .inr (8, [.ref x_state_tower_rank, .ref x_state_tower_head, .int 0, .int 0, .int 0])), (x, .inr (9, [.ref x_state, .ref x_images, .ref x_kept, .ref x_history, .ref x_drawnTower, .ref x_machine, .ref x_judge, .ref x_runner, .ref x_reader, .ref x_draft, .ref x_paper, .ref x_tape, .int 0, .int (-1), .int 0, .int (-1), .ref x_chances, .ref x_refusals, .int (-3)])), (x_refusals, .inl (ty 0, 7, .inl (upd (fun _ => 0) 3 1)))] = u) ∨ (¬ a2 < 1 ∧ ¬ a2 ≤ 6 ∧ (-1) = r ∧ [(x_state_tower_rank, .inl (ty 0, 6, .inl (fun _ => 0))), (x_state_tower_head, .inl (ty 0, 6, .inl (fun _ => 0))), (x_state, .inr (6, [.ref x_state_tower, .int 1, .int 0, .int 0, .ref x_state_seenPlace, .ref x_state_seenRank, .int 0, .ref x_state_laws, .int 0, .int (-1)])), (x_judge, .inr (1, [.ref x_machine, .ref x_judge_words, .null])), (x_judge_words, .inl (ty 0, 9, .inl (upd (fun _ => 0) 8 0))), (x_state_tower, .inr (8, [.ref x_state_tower_rank, .ref x_state_tower_head, .int 0, .int 0, .int 0])), (x, .inr (9, [.ref x_state, .ref x_images, .ref x_kept, .ref x_history, .ref x_drawnTower, .ref x_machine, .ref x_judge, .ref x_runner, .ref x_reader, .ref x_draft, .ref x_paper, .ref x_tape, .int 0, .int (-1), .int 0, .int (-1), .ref x_chances, .ref x_refusals, .int (-1)])), (x_refusals, .inl (ty 0, 7, .inl (upd (fun _ => 0) 1 1)))] = u)) (kz_B D ty (va_A [(x, .inr (9, [.ref x_state, .ref x_images, .ref x_kept, .ref x_history, .ref x_drawnTower, .ref x_machine, .ref x_judge, .ref x_runner, .ref x_reader, .ref x_draft, .ref x_paper, .ref x_tape, .int 0, .int (-1), .int 0, .int (-1), .ref x_chances, .ref x_refusals, .int 0])), (x_state, .inr (6, [.ref x_state_tower, .int 1, .int 0, .int 0, .ref x_state_seenPlace, .ref x_state_seenRank, .int 0, .ref x_state_laws, .int 0, .int (-1)])), (x_state_tower, .inr (8, [.ref x_state_tower_rank, .ref x_state_tower_head, .int 0, .int 0, .int 0])), (x_state_tower_rank, .inl (ty 0, 6, .inl (fun _ => 0))), (x_state_tower_head, .inl (ty 0, 6, .inl (fun _ => 0))), (x_judge, .inr (1, [.ref x_machine, .ref x_judge_words, .null])), (x_judge_words, .inl (ty 0, 9, .inl (fun _ => 0))), (x_refusals, .inl (ty 0, 7, .inl (fun _ => 0)))] sz)) (va_A [(x, .inr (9, [.ref x_state, .ref x_images, .ref x_kept, .ref x_history, .ref x_drawnTower, .ref x_machine, .ref x_judge, .ref x_runner, .ref x_reader, .ref x_draft, .ref x_paper, .ref x_tape, .int 0, .int (-1), .int 0, .int (-1), .ref x_chances, .ref x_refusals, .int 0])), (x_state, .inr (6, [.ref x_state_tower, .int 1, .int 0, .int 0, .ref x_state_seenPlace, .ref x_state_seenRank, .int 0, .ref x_state_laws, .int 0, .int (-1)])), (x_state_tower, .inr (8, [.ref x_state_tower_rank, .ref x_state_tower_head, .int 0, .int 0, .int 0])), (x_state_tower_rank, .inl (ty 0, 6, .inl (fun _ => 0))), (x_state_tower_head, .inl (ty 0, 6, .inl (fun _ => 0))), (x_judge, .inr (1, [.ref x_machine, .ref x_judge_words, .null])), (x_judge_words, .inl (ty 0, 9, .inl (fun _ => 0))), (x_refusals, .inl (ty 0, 7, .inl (fun _ => 0)))] sz)) 0 0 (va_A [(x, .inr (9, [.ref x_state, .ref x_images, .ref x_kept, .ref x_history, .ref x_drawnTower, .ref x_machine, .ref x_judge, .ref x_runner, .ref x_reader, .ref x_draft, .ref x_paper, .ref x_tape, .int 0, .int (-1), .int 0, .int (-1), .ref x_chances, .ref x_refusals, .int 0])), (x_state, .inr (6, [.ref x_state_tower, .int 1, .int 0, .int 0, .ref x_state_seenPlace, .ref x_state_seenRank, .int 0, .ref x_state_laws, .int 0, .int (-1)])), (x_state_tower, .inr (8, [.ref x_state_tower_rank, .ref x_state_tower_head, .int 0, .int 0, .int 0])), (x_state_tower_rank, .inl (ty 0, 6, .inl (fun _ => 0))), (x_state_tower_head, .inl (ty 0, 6, .inl (fun _ => 0))), (x_judge, .inr (1, [.ref x_machine, .ref x_judge_words, .null])), (x_judge_words, .inl (ty 0, 9, .inl (fun _ => 0))), (x_refusals, .inl (ty 0, 7, .inl (fun _ => 0)))] sz) := by
  refine Met.ofW (cc := cX9_move) (maxL := 6) (ret := (some .int)) (by decide) rfl ?_
  intro p e s m args below meth c s₁ B hml hv
  obtain ⟨rfl, hsz, hP, hK, hD0, hN, hE⟩ := hv
  have hx := B.exec
  have hb := B.bytes
  have hr := B.returns
  have hts := atoms_spec (ws := wsX9_move) B.pre
  have hown : s.vm.findClass RX9 = some m.cls := findClass_of_methodNamed B.named
  have hlocks := B.notSynchronized
  subst hsz
  have hD := hD0.self (sz := s.heap.size)
  generalize hAe : va_A [(x, .inr (9, [.ref x_state, .ref x_images, .ref x_kept, .ref x_history, .ref x_drawnTower, .ref x_machine, .ref x_judge, .ref x_runner, .ref x_reader, .ref x_draft, .ref x_paper, .ref x_tape, .int 0, .int (-1), .int 0, .int (-1), .ref x_chances, .ref x_refusals, .int 0])), (x_state, .inr (6, [.ref x_state_tower, .int 1, .int 0, .int 0, .ref x_state_seenPlace, .ref x_state_seenRank, .int 0, .ref x_state_laws, .int 0, .int (-1)])), (x_state_tower, .inr (8, [.ref x_state_tower_rank, .ref x_state_tower_head, .int 0, .int 0, .int 0])), (x_state_tower_rank, .inl (ty 0, 6, .inl (fun _ => 0))), (x_state_tower_head, .inl (ty 0, 6, .inl (fun _ => 0))), (x_judge, .inr (1, [.ref x_machine, .ref x_judge_words, .null])), (x_judge_words, .inl (ty 0, 9, .inl (fun _ => 0))), (x_refusals, .inl (ty 0, 7, .inl (fun _ => 0)))] s.heap.size = A at hD hE ⊢
  have hA : ∀ q : Nat, s.heap.size ≤ q → A q := fun q h => by rw [← hAe]; exact Or.inr h
  have hS : va_S A s.heap s.heap [] := va_S.rf
  have hl := lv_entry ([.ref x, .int 0, .int a2]) (n := 6) (Nat.le_of_ble_eq_true rfl)
  rw [lg_entry_eq]
  generalize (lg_sl ([.ref x, .int 0, .int a2]) ++ List.replicate (6 - (lg_sl ([.ref x, .int 0, .int a2])).length) Slot.unset).toArray = ls at hl ⊢
  have hl : lv_has ls 6 [(0, .ref x), (1, .int 0), (2, .int a2)] := hl
  refine lv_aload_n hx hb dX9_move_0 rfl (lv_at hl 0 rfl) ?_
  refine va_get (D := D) (ci := 9) (v := .ref x_state) (C := RX9) (T := TX9) (N := 19) hx hb hts (by decide +kernel) hown hK hP 0 rfl rfl 0 (by decide) (hts (.fieldLink RX9 10 "TurnedFloors" "state" "LTurnedFloors$State;") (by decide +kernel)) (fun _ h9 => h9) rfl dX9_move_1 ?_
  refine va_getN (D := D) (ci := 6) (v := .ref x_state_tower) (C := RX6) (T := TX6) (N := 10) hx hb hts (by decide +kernel) hown hK hP 1 rfl rfl 0 (by decide) (hN.use (.fieldLinkNest "TurnedFloors" 122 "TurnedFloors$State" "tower" "LTurnedFloors$Tower;" "TurnedFloors") (by decide +kernel)) (fun _ h9 => h9) rfl dX9_move_4 ?_
  refine kz_kl (wc := [(x_state_tower, .inr (8, [.ref x_state_tower_rank, .ref x_state_tower_head, .int 0, .int 0, .int 0])), (x_state_tower_rank, .inl (ty 0, 6, .inl (fun _ => 0))), (x_state_tower_head, .inl (ty 0, 6, .inl (fun _ => 0)))]) (wr := [(x, .inr (9, [.ref x_state, .ref x_images, .ref x_kept, .ref x_history, .ref x_drawnTower, .ref x_machine, .ref x_judge, .ref x_runner, .ref x_reader, .ref x_draft, .ref x_paper, .ref x_tape, .int 0, .int (-1), .int 0, .int (-1), .ref x_chances, .ref x_refusals, .int 0])), (x_state, .inr (6, [.ref x_state_tower, .int 1, .int 0, .int 0, .ref x_state_seenPlace, .ref x_state_seenRank, .int 0, .ref x_state_laws, .int 0, .int (-1)])), (x_judge, .inr (1, [.ref x_machine, .ref x_judge_words, .null])), (x_judge_words, .inl (ty 0, 9, .inl (fun _ => 0))), (x_refusals, .inl (ty 0, 7, .inl (fun _ => 0)))]) (va_runV (As := []) (rest := []) ⟨hx, hb, hml, hown, hts⟩ (kX8_pack_40 l D ty eo _ x_state_tower x_state_tower_rank x_state_tower_head) (cwV 0 hts gX9_move_X8_pack rfl rfl rfl (by decide +kernel) ⟨Nat.le_of_ble_eq_true rfl, Nat.le_of_ble_eq_true rfl⟩) (kz_preV (ci := 8) (q0 := 2) hK hN hE hP hD hS hA rfl rfl [2, 3, 4] (by decide) rfl) rfl rfl hl.1 rfl (lv_room (Nat.le_of_ble_eq_true rfl)) dX9_move_7 ⟨Nat.le_of_ble_eq_true rfl, Nat.le_of_ble_eq_true rfl⟩) hP hD hS hA [2, 3, 4] [0, 1, 5, 6, 7] rfl rfl (by decide) (by decide) (fun r u H locs hw hp hd hs => ?_)
  obtain ⟨rfl, rfl⟩ := hw
  refine kz_re (w2 := [(x, .inr (9, [.ref x_state, .ref x_images, .ref x_kept, .ref x_history, .ref x_drawnTower, .ref x_machine, .ref x_judge, .ref x_runner, .ref x_reader, .ref x_draft, .ref x_paper, .ref x_tape, .int 0, .int (-1), .int 0, .int (-1), .ref x_chances, .ref x_refusals, .int 0])), (x_state, .inr (6, [.ref x_state_tower, .int 1, .int 0, .int 0, .ref x_state_seenPlace, .ref x_state_seenRank, .int 0, .ref x_state_laws, .int 0, .int (-1)])), (x_judge, .inr (1, [.ref x_machine, .ref x_judge_words, .null])), (x_judge_words, .inl (ty 0, 9, .inl (fun _ => 0))), (x_refusals, .inl (ty 0, 7, .inl (fun _ => 0))), (x_state_tower, .inr (8, [.ref x_state_tower_rank, .ref x_state_tower_head, .int 0, .int 0, .int 0])), (x_state_tower_rank, .inl (ty 0, 6, .inl (fun _ => 0))), (x_state_tower_head, .inl (ty 0, 6, .inl (fun _ => 0)))]) hp hd hs rfl ?_
  clear hp hd hs hP hD hS
  intro hP hD hS
  refine lv_lstore_n (lv' := [(3, .long 0), (0, .ref x), (1, .int 0), (2, .int a2)]) hx hb dX9_move_10 rfl hl (by decide) rfl (fun ls hl => ?_)
  refine lv_aload_n hx hb dX9_move_11 rfl (lv_at hl 1 rfl) ?_
  refine va_get (D := D) (ci := 9) (v := .ref x_state) (C := RX9) (T := TX9) (N := 19) hx hb hts (by decide +kernel) hown hK hP 0 rfl rfl 0 (by decide) (hts (.fieldLink RX9 10 "TurnedFloors" "state" "LTurnedFloors$State;") (by decide +kernel)) (fun _ h9 => h9) rfl dX9_move_12 ?_
  refine va_getN (D := D) (ci := 6) (v := .ref x_state_tower) (C := RX6) (T := TX6) (N := 10) hx hb hts (by decide +kernel) hown hK hP 1 rfl rfl 0 (by decide) (hN.use (.fieldLinkNest "TurnedFloors" 122 "TurnedFloors$State" "tower" "LTurnedFloors$Tower;" "TurnedFloors") (by decide +kernel)) (fun _ h9 => h9) rfl dX9_move_15 ?_
  refine lv_iload_n hx hb dX9_move_18 rfl (lv_at hl 2 rfl) ?_
  refine lv_iload_n hx hb dX9_move_19 rfl (lv_at hl 3 rfl) ?_
  refine lv_aload_n hx hb dX9_move_20 rfl (lv_at hl 1 rfl) ?_
  refine kz_kq (wc := [(x, .inr (9, [.ref x_state, .ref x_images, .ref x_kept, .ref x_history, .ref x_drawnTower, .ref x_machine, .ref x_judge, .ref x_runner, .ref x_reader, .ref x_draft, .ref x_paper, .ref x_tape, .int 0, .int (-1), .int 0, .int (-1), .ref x_chances, .ref x_refusals, .int 0])), (x_state, .inr (6, [.ref x_state_tower, .int 1, .int 0, .int 0, .ref x_state_seenPlace, .ref x_state_seenRank, .int 0, .ref x_state_laws, .int 0, .int (-1)])), (x_judge, .inr (1, [.ref x_machine, .ref x_judge_words, .null])), (x_judge_words, .inl (ty 0, 9, .inl (fun _ => 0)))]) (wr := [(x_refusals, .inl (ty 0, 7, .inl (fun _ => 0))), (x_state_tower, .inr (8, [.ref x_state_tower_rank, .ref x_state_tower_head, .int 0, .int 0, .int 0])), (x_state_tower_rank, .inl (ty 0, 6, .inl (fun _ => 0))), (x_state_tower_head, .inl (ty 0, 6, .inl (fun _ => 0)))]) (va_runV (As := []) (rest := [.int a2, .int 0, .ref x_state_tower]) ⟨hx, hb, hml, hown, hts⟩ (kX9_seated_42 l D ty eo _ x x_state x_images x_kept x_history x_drawnTower x_machine x_judge x_runner x_reader x_draft x_paper x_tape x_chances x_refusals x_state_tower x_state_seenPlace x_state_seenRank x_state_laws x_judge_words) (cwV 0 hts gX9_move_X9_seated rfl rfl rfl (by decide +kernel) ⟨Nat.le_of_ble_eq_true rfl, Nat.le_of_ble_eq_true rfl⟩) (kz_preV (ci := 9) (q0 := 0) hK hN hE hP hD hS hA rfl rfl [0, 1, 2, 3] (by decide) rfl) rfl rfl hl.1 rfl (lv_room (Nat.le_of_ble_eq_true rfl)) dX9_move_21 ⟨Nat.le_of_ble_eq_true rfl, Nat.le_of_ble_eq_true rfl⟩) hP hD hS hA [0, 1, 2, 3] [4, 5, 6, 7] rfl rfl (by decide) (by decide) (fun r u H locs hw hp hd hs => ?_)
  obtain ⟨rfl, rfl⟩ := hw
  refine kz_re (w2 := [(x_refusals, .inl (ty 0, 7, .inl (fun _ => 0))), (x_state_tower, .inr (8, [.ref x_state_tower_rank, .ref x_state_tower_head, .int 0, .int 0, .int 0])), (x_state_tower_rank, .inl (ty 0, 6, .inl (fun _ => 0))), (x_state_tower_head, .inl (ty 0, 6, .inl (fun _ => 0))), (x, .inr (9, [.ref x_state, .ref x_images, .ref x_kept, .ref x_history, .ref x_drawnTower, .ref x_machine, .ref x_judge, .ref x_runner, .ref x_reader, .ref x_draft, .ref x_paper, .ref x_tape, .int 0, .int (-1), .int 0, .int (-1), .ref x_chances, .ref x_refusals, .int 0])), (x_state, .inr (6, [.ref x_state_tower, .int 1, .int 0, .int 0, .ref x_state_seenPlace, .ref x_state_seenRank, .int 0, .ref x_state_laws, .int 0, .int (-1)])), (x_judge, .inr (1, [.ref x_machine, .ref x_judge_words, .null])), (x_judge_words, .inl (ty 0, 9, .inl (upd (fun _ => 0) 8 0)))]) hp hd hs rfl ?_
  clear hp hd hs hP hD hS
  intro hP hD hS
  refine kz_ki (wc := [(x_state_tower, .inr (8, [.ref x_state_tower_rank, .ref x_state_tower_head, .int 0, .int 0, .int 0]))]) (wr := [(x_refusals, .inl (ty 0, 7, .inl (fun _ => 0))), (x_state_tower_rank, .inl (ty 0, 6, .inl (fun _ => 0))), (x_state_tower_head, .inl (ty 0, 6, .inl (fun _ => 0))), (x, .inr (9, [.ref x_state, .ref x_images, .ref x_kept, .ref x_history, .ref x_drawnTower, .ref x_machine, .ref x_judge, .ref x_runner, .ref x_reader, .ref x_draft, .ref x_paper, .ref x_tape, .int 0, .int (-1), .int 0, .int (-1), .ref x_chances, .ref x_refusals, .int 0])), (x_state, .inr (6, [.ref x_state_tower, .int 1, .int 0, .int 0, .ref x_state_seenPlace, .ref x_state_seenRank, .int 0, .ref x_state_laws, .int 0, .int (-1)])), (x_judge, .inr (1, [.ref x_machine, .ref x_judge_words, .null])), (x_judge_words, .inl (ty 0, 9, .inl (upd (fun _ => 0) 8 0)))]) (va_runV (As := [.int 0, .int a2, .ref x_judge]) (rest := []) ⟨hx, hb, hml, hown, hts⟩ (kX8_act_56 l D ty eo _ x_state_tower a2 x_judge x_state_tower_rank x_state_tower_head) (cwV 3 hts gX9_move_X8_act rfl rfl rfl (by decide +kernel) ⟨Nat.le_of_ble_eq_true rfl, Nat.le_of_ble_eq_true rfl⟩) (kz_preV (ci := 8) (q0 := 1) hK hN hE hP hD hS hA rfl rfl [1] (by decide) rfl) rfl rfl hl.1 rfl (lv_room (Nat.le_of_ble_eq_true rfl)) dX9_move_24 ⟨Nat.le_of_ble_eq_true rfl, Nat.le_of_ble_eq_true rfl⟩) hP hD hS hA [1] [0, 2, 3, 4, 5, 6, 7] rfl rfl (by decide) (by decide) (fun r u H locs hw hp hd hs => ?_)
  rcases hw with ⟨c_1, rfl, rfl⟩ | ⟨c_2, c_3, rfl, rfl⟩ | ⟨c_4, c_5, rfl, rfl⟩
  · refine kz_re (w2 := [(x_refusals, .inl (ty 0, 7, .inl (fun _ => 0))), (x_state_tower_rank, .inl (ty 0, 6, .inl (fun _ => 0))), (x_state_tower_head, .inl (ty 0, 6, .inl (fun _ => 0))), (x, .inr (9, [.ref x_state, .ref x_images, .ref x_kept, .ref x_history, .ref x_drawnTower, .ref x_machine, .ref x_judge, .ref x_runner, .ref x_reader, .ref x_draft, .ref x_paper, .ref x_tape, .int 0, .int (-1), .int 0, .int (-1), .ref x_chances, .ref x_refusals, .int 0])), (x_state, .inr (6, [.ref x_state_tower, .int 1, .int 0, .int 0, .ref x_state_seenPlace, .ref x_state_seenRank, .int 0, .ref x_state_laws, .int 0, .int (-1)])), (x_judge, .inr (1, [.ref x_machine, .ref x_judge_words, .null])), (x_judge_words, .inl (ty 0, 9, .inl (upd (fun _ => 0) 8 0))), (x_state_tower, .inr (8, [.ref x_state_tower_rank, .ref x_state_tower_head, .int 0, .int 0, .int 0]))]) hp hd hs rfl ?_
    clear hp hd hs hP hD hS
    intro hP hD hS
    refine lv_istore (lv' := [(5, .int (-1)), (3, .long 0), (0, .ref x), (1, .int 0), (2, .int a2)]) hx hb dX9_move_27 hl (by decide) rfl (fun ls hl => ?_)
    refine lv_iload hx hb dX9_move_29 (lv_at hl 0 rfl) ?_
    refine lv_if_ge (tgt := 41) hx hb dX9_move_31 (by decide) (fun h => absurd h (by decide)) (fun _ => ?_)
    refine lv_aload_n hx hb dX9_move_34 rfl (lv_at hl 2 rfl) ?_
    refine lv_iload hx hb dX9_move_35 (lv_at hl 0 rfl) ?_
    refine kz_ki (wc := [(x, .inr (9, [.ref x_state, .ref x_images, .ref x_kept, .ref x_history, .ref x_drawnTower, .ref x_machine, .ref x_judge, .ref x_runner, .ref x_reader, .ref x_draft, .ref x_paper, .ref x_tape, .int 0, .int (-1), .int 0, .int (-1), .ref x_chances, .ref x_refusals, .int 0])), (x_refusals, .inl (ty 0, 7, .inl (fun _ => 0)))]) (wr := [(x_state_tower_rank, .inl (ty 0, 6, .inl (fun _ => 0))), (x_state_tower_head, .inl (ty 0, 6, .inl (fun _ => 0))), (x_state, .inr (6, [.ref x_state_tower, .int 1, .int 0, .int 0, .ref x_state_seenPlace, .ref x_state_seenRank, .int 0, .ref x_state_laws, .int 0, .int (-1)])), (x_judge, .inr (1, [.ref x_machine, .ref x_judge_words, .null])), (x_judge_words, .inl (ty 0, 9, .inl (upd (fun _ => 0) 8 0))), (x_state_tower, .inr (8, [.ref x_state_tower_rank, .ref x_state_tower_head, .int 0, .int 0, .int 0]))]) (va_runV (As := [.int (-1)]) (rest := []) ⟨hx, hb, hml, hown, hts⟩ (kX9_refuse_2 l D ty eo _ x x_state x_images x_kept x_history x_drawnTower x_machine x_judge x_runner x_reader x_draft x_paper x_tape x_chances x_refusals) (cwV 1 hts gX9_move_X9_refuse rfl rfl rfl (by decide +kernel) ⟨Nat.le_of_ble_eq_true rfl, Nat.le_of_ble_eq_true rfl⟩) (kz_preV (ci := 9) (q0 := 3) hK hN hE hP hD hS hA rfl rfl [3, 0] (by decide) rfl) rfl rfl hl.1 rfl (lv_room (Nat.le_of_ble_eq_true rfl)) dX9_move_37 ⟨Nat.le_of_ble_eq_true rfl, Nat.le_of_ble_eq_true rfl⟩) hP hD hS hA [3, 0] [1, 2, 4, 5, 6, 7] rfl rfl (by decide) (by decide) (fun r u H locs hw hp hd hs => ?_)
    obtain ⟨rfl, rfl⟩ := hw
    refine kz_re (w2 := [(x_state_tower_rank, .inl (ty 0, 6, .inl (fun _ => 0))), (x_state_tower_head, .inl (ty 0, 6, .inl (fun _ => 0))), (x_state, .inr (6, [.ref x_state_tower, .int 1, .int 0, .int 0, .ref x_state_seenPlace, .ref x_state_seenRank, .int 0, .ref x_state_laws, .int 0, .int (-1)])), (x_judge, .inr (1, [.ref x_machine, .ref x_judge_words, .null])), (x_judge_words, .inl (ty 0, 9, .inl (upd (fun _ => 0) 8 0))), (x_state_tower, .inr (8, [.ref x_state_tower_rank, .ref x_state_tower_head, .int 0, .int 0, .int 0])), (x, .inr (9, [.ref x_state, .ref x_images, .ref x_kept, .ref x_history, .ref x_drawnTower, .ref x_machine, .ref x_judge, .ref x_runner, .ref x_reader, .ref x_draft, .ref x_paper, .ref x_tape, .int 0, .int (-1), .int 0, .int (-1), .ref x_chances, .ref x_refusals, .int (-1)])), (x_refusals, .inl (ty 0, 7, .inl (upd (fun _ => 0) 1 1)))]) hp hd hs rfl ?_
    clear hp hd hs hP hD hS
    intro hP hD hS
    exact kz_iret hx hb hr hlocks hP hK hD hS dX9_move_40 (Or.inl ⟨c_1, rfl, rfl⟩)
  · refine kz_re (w2 := [(x_refusals, .inl (ty 0, 7, .inl (fun _ => 0))), (x_state_tower_rank, .inl (ty 0, 6, .inl (fun _ => 0))), (x_state_tower_head, .inl (ty 0, 6, .inl (fun _ => 0))), (x, .inr (9, [.ref x_state, .ref x_images, .ref x_kept, .ref x_history, .ref x_drawnTower, .ref x_machine, .ref x_judge, .ref x_runner, .ref x_reader, .ref x_draft, .ref x_paper, .ref x_tape, .int 0, .int (-1), .int 0, .int (-1), .ref x_chances, .ref x_refusals, .int 0])), (x_state, .inr (6, [.ref x_state_tower, .int 1, .int 0, .int 0, .ref x_state_seenPlace, .ref x_state_seenRank, .int 0, .ref x_state_laws, .int 0, .int (-1)])), (x_judge, .inr (1, [.ref x_machine, .ref x_judge_words, .null])), (x_judge_words, .inl (ty 0, 9, .inl (upd (fun _ => 0) 8 0))), (x_state_tower, .inr (8, [.ref x_state_tower_rank, .ref x_state_tower_head, .int 0, .int 0, .int 0]))]) hp hd hs rfl ?_
    clear hp hd hs hP hD hS
    intro hP hD hS
    refine lv_istore (lv' := [(5, .int (-3)), (3, .long 0), (0, .ref x), (1, .int 0), (2, .int a2)]) hx hb dX9_move_27 hl (by decide) rfl (fun ls hl => ?_)
    refine lv_iload hx hb dX9_move_29 (lv_at hl 0 rfl) ?_
    refine lv_if_ge (tgt := 41) hx hb dX9_move_31 (by decide) (fun h => absurd h (by decide)) (fun _ => ?_)
    refine lv_aload_n hx hb dX9_move_34 rfl (lv_at hl 2 rfl) ?_
    refine lv_iload hx hb dX9_move_35 (lv_at hl 0 rfl) ?_
    refine kz_ki (wc := [(x, .inr (9, [.ref x_state, .ref x_images, .ref x_kept, .ref x_history, .ref x_drawnTower, .ref x_machine, .ref x_judge, .ref x_runner, .ref x_reader, .ref x_draft, .ref x_paper, .ref x_tape, .int 0, .int (-1), .int 0, .int (-1), .ref x_chances, .ref x_refusals, .int 0])), (x_refusals, .inl (ty 0, 7, .inl (fun _ => 0)))]) (wr := [(x_state_tower_rank, .inl (ty 0, 6, .inl (fun _ => 0))), (x_state_tower_head, .inl (ty 0, 6, .inl (fun _ => 0))), (x_state, .inr (6, [.ref x_state_tower, .int 1, .int 0, .int 0, .ref x_state_seenPlace, .ref x_state_seenRank, .int 0, .ref x_state_laws, .int 0, .int (-1)])), (x_judge, .inr (1, [.ref x_machine, .ref x_judge_words, .null])), (x_judge_words, .inl (ty 0, 9, .inl (upd (fun _ => 0) 8 0))), (x_state_tower, .inr (8, [.ref x_state_tower_rank, .ref x_state_tower_head, .int 0, .int 0, .int 0]))]) (va_runV (As := [.int (-3)]) (rest := []) ⟨hx, hb, hml, hown, hts⟩ (kX9_refuse_58 l D ty eo _ x x_state x_images x_kept x_history x_drawnTower x_machine x_judge x_runner x_reader x_draft x_paper x_tape x_chances x_refusals) (cwV 1 hts gX9_move_X9_refuse rfl rfl rfl (by decide +kernel) ⟨Nat.le_of_ble_eq_true rfl, Nat.le_of_ble_eq_true rfl⟩) (kz_preV (ci := 9) (q0 := 3) hK hN hE hP hD hS hA rfl rfl [3, 0] (by decide) rfl) rfl rfl hl.1 rfl (lv_room (Nat.le_of_ble_eq_true rfl)) dX9_move_37 ⟨Nat.le_of_ble_eq_true rfl, Nat.le_of_ble_eq_true rfl⟩) hP hD hS hA [3, 0] [1, 2, 4, 5, 6, 7] rfl rfl (by decide) (by decide) (fun r u H locs hw hp hd hs => ?_)
    obtain ⟨rfl, rfl⟩ := hw
    refine kz_re (w2 := [(x_state_tower_rank, .inl (ty 0, 6, .inl (fun _ => 0))), (x_state_tower_head, .inl (ty 0, 6, .inl (fun _ => 0))), (x_state, .inr (6, [.ref x_state_tower, .int 1, .int 0, .int 0, .ref x_state_seenPlace, .ref x_state_seenRank, .int 0, .ref x_state_laws, .int 0, .int (-1)])), (x_judge, .inr (1, [.ref x_machine, .ref x_judge_words, .null])), (x_judge_words, .inl (ty 0, 9, .inl (upd (fun _ => 0) 8 0))), (x_state_tower, .inr (8, [.ref x_state_tower_rank, .ref x_state_tower_head, .int 0, .int 0, .int 0])), (x, .inr (9, [.ref x_state, .ref x_images, .ref x_kept, .ref x_history, .ref x_drawnTower, .ref x_machine, .ref x_judge, .ref x_runner, .ref x_reader, .ref x_draft, .ref x_paper, .ref x_tape, .int 0, .int (-1), .int 0, .int (-1), .ref x_chances, .ref x_refusals, .int (-3)])), (x_refusals, .inl (ty 0, 7, .inl (upd (fun _ => 0) 3 1)))]) hp hd hs rfl ?_
    clear hp hd hs hP hD hS
    intro hP hD hS
    exact kz_iret hx hb hr hlocks hP hK hD hS dX9_move_40 (Or.inr (Or.inl ⟨c_2, c_3, rfl, rfl⟩))
  · refine kz_re (w2 := [(x_refusals, .inl (ty 0, 7, .inl (fun _ => 0))), (x_state_tower_rank, .inl (ty 0, 6, .inl (fun _ => 0))), (x_state_tower_head, .inl (ty 0, 6, .inl (fun _ => 0))), (x, .inr (9, [.ref x_state, .ref x_images, .ref x_kept, .ref x_history, .ref x_drawnTower, .ref x_machine, .ref x_judge, .ref x_runner, .ref x_reader, .ref x_draft, .ref x_paper, .ref x_tape, .int 0, .int (-1), .int 0, .int (-1), .ref x_chances, .ref x_refusals, .int 0])), (x_state, .inr (6, [.ref x_state_tower, .int 1, .int 0, .int 0, .ref x_state_seenPlace, .ref x_state_seenRank, .int 0, .ref x_state_laws, .int 0, .int (-1)])), (x_judge, .inr (1, [.ref x_machine, .ref x_judge_words, .null])), (x_judge_words, .inl (ty 0, 9, .inl (upd (fun _ => 0) 8 0))), (x_state_tower, .inr (8, [.ref x_state_tower_rank, .ref x_state_tower_head, .int 0, .int 0, .int 0]))]) hp hd hs rfl ?_
    clear hp hd hs hP hD hS
    intro hP hD hS
    refine lv_istore (lv' := [(5, .int (-1)), (3, .long 0), (0, .ref x), (1, .int 0), (2, .int a2)]) hx hb dX9_move_27 hl (by decide) rfl (fun ls hl => ?_)
    refine lv_iload hx hb dX9_move_29 (lv_at hl 0 rfl) ?_
    refine lv_if_ge (tgt := 41) hx hb dX9_move_31 (by decide) (fun h => absurd h (by decide)) (fun _ => ?_)
    refine lv_aload_n hx hb dX9_move_34 rfl (lv_at hl 2 rfl) ?_
    refine lv_iload hx hb dX9_move_35 (lv_at hl 0 rfl) ?_
    refine kz_ki (wc := [(x, .inr (9, [.ref x_state, .ref x_images, .ref x_kept, .ref x_history, .ref x_drawnTower, .ref x_machine, .ref x_judge, .ref x_runner, .ref x_reader, .ref x_draft, .ref x_paper, .ref x_tape, .int 0, .int (-1), .int 0, .int (-1), .ref x_chances, .ref x_refusals, .int 0])), (x_refusals, .inl (ty 0, 7, .inl (fun _ => 0)))]) (wr := [(x_state_tower_rank, .inl (ty 0, 6, .inl (fun _ => 0))), (x_state_tower_head, .inl (ty 0, 6, .inl (fun _ => 0))), (x_state, .inr (6, [.ref x_state_tower, .int 1, .int 0, .int 0, .ref x_state_seenPlace, .ref x_state_seenRank, .int 0, .ref x_state_laws, .int 0, .int (-1)])), (x_judge, .inr (1, [.ref x_machine, .ref x_judge_words, .null])), (x_judge_words, .inl (ty 0, 9, .inl (upd (fun _ => 0) 8 0))), (x_state_tower, .inr (8, [.ref x_state_tower_rank, .ref x_state_tower_head, .int 0, .int 0, .int 0]))]) (va_runV (As := [.int (-1)]) (rest := []) ⟨hx, hb, hml, hown, hts⟩ (kX9_refuse_2 l D ty eo _ x x_state x_images x_kept x_history x_drawnTower x_machine x_judge x_runner x_reader x_draft x_paper x_tape x_chances x_refusals) (cwV 1 hts gX9_move_X9_refuse rfl rfl rfl (by decide +kernel) ⟨Nat.le_of_ble_eq_true rfl, Nat.le_of_ble_eq_true rfl⟩) (kz_preV (ci := 9) (q0 := 3) hK hN hE hP hD hS hA rfl rfl [3, 0] (by decide) rfl) rfl rfl hl.1 rfl (lv_room (Nat.le_of_ble_eq_true rfl)) dX9_move_37 ⟨Nat.le_of_ble_eq_true rfl, Nat.le_of_ble_eq_true rfl⟩) hP hD hS hA [3, 0] [1, 2, 4, 5, 6, 7] rfl rfl (by decide) (by decide) (fun r u H locs hw hp hd hs => ?_)
    obtain ⟨rfl, rfl⟩ := hw
    refine kz_re (w2 := [(x_state_tower_rank, .inl (ty 0, 6, .inl (fun _ => 0))), (x_state_tower_head, .inl (ty 0, 6, .inl (fun _ => 0))), (x_state, .inr (6, [.ref x_state_tower, .int 1, .int 0, .int 0, .ref x_state_seenPlace, .ref x_state_seenRank, .int 0, .ref x_state_laws, .int 0, .int (-1)])), (x_judge, .inr (1, [.ref x_machine, .ref x_judge_words, .null])), (x_judge_words, .inl (ty 0, 9, .inl (upd (fun _ => 0) 8 0))), (x_state_tower, .inr (8, [.ref x_state_tower_rank, .ref x_state_tower_head, .int 0, .int 0, .int 0])), (x, .inr (9, [.ref x_state, .ref x_images, .ref x_kept, .ref x_history, .ref x_drawnTower, .ref x_machine, .ref x_judge, .ref x_runner, .ref x_reader, .ref x_draft, .ref x_paper, .ref x_tape, .int 0, .int (-1), .int 0, .int (-1), .ref x_chances, .ref x_refusals, .int (-1)])), (x_refusals, .inl (ty 0, 7, .inl (upd (fun _ => 0) 1 1)))]) hp hd hs rfl ?_
    clear hp hd hs hP hD hS
    intro hP hD hS
    exact kz_iret hx hb hr hlocks hP hK hD hS dX9_move_40 (Or.inr (Or.inr ⟨c_4, c_5, rfl, rfl⟩))

set_option maxHeartbeats 4000000 in
set_option maxRecDepth 100000 in
theorem fX9_turn (l : Launch) (D : va_G) (ty : Nat → ClassId) (eo : Nat → Nat) (sz : Nat) (x : Nat) (p1 : Int32) (x_state x_images x_kept x_history x_drawnTower x_machine x_judge x_runner x_reader x_draft x_paper x_tape x_chances x_refusals x_state_tower x_state_seenPlace x_state_seenRank x_state_laws x_state_tower_rank x_state_tower_head x_judge_words : Nat) : Met l yX9_turn wsX9_turn ({ frames := 4, cells := 0, slots := 0, locals := 87 }) (va_Pc [.ref x, .int p1] (kz_pre D ty eo [(x, .inr (9, [.ref x_state, .ref x_images, .ref x_kept, .ref x_history, .ref x_drawnTower, .ref x_machine, .ref x_judge, .ref x_runner, .ref x_reader, .ref x_draft, .ref x_paper, .ref x_tape, .int 0, .int (-1), .int 0, .int (-1), .ref x_chances, .ref x_refusals, .int 0])), (x_state, .inr (6, [.ref x_state_tower, .int 1, .int 0, .int 0, .ref x_state_seenPlace, .ref x_state_seenRank, .int 0, .ref x_state_laws, .int 0, .int (-1)])), (x_state_tower, .inr (8, [.ref x_state_tower_rank, .ref x_state_tower_head, .int 0, .int 0, .int 0])), (x_state_tower_rank, .inl (ty 0, 6, .inl (fun _ => 0))), (x_state_tower_head, .inl (ty 0, 6, .inl (fun _ => 0))), (x_judge, .inr (1, [.ref x_machine, .ref x_judge_words, .null])), (x_judge_words, .inl (ty 0, 9, .inl (fun _ => 0))), (x_refusals, .inl (ty 0, 7, .inl (fun _ => 0)))] sz)) (va_Qi (fun (r : Int32) (u : va_W) => (p1 < 1 ∧ (-1) = r ∧ [(x_state_tower_rank, .inl (ty 0, 6, .inl (fun _ => 0))), (x_state_tower_head, .inl (ty 0, 6, .inl (fun _ => 0))), (x_state, .inr (6, [.ref x_state_tower, .int 1, .int 0, .int 0, .ref x_state_seenPlace, .ref x_state_seenRank, .int 0, .ref x_state_laws, .int 0, .int (-1)])), (x_judge, .inr (1, [.ref x_machine, .ref x_judge_words, .null])), (x_judge_words, .inl (ty 0, 9, .inl (upd (fun _ => 0) 8 0))), (x_state_tower, .inr (8, [.ref x_state_tower_rank, .ref x_state_tower_head, .int 0, .int 0, .int 0])), (x, .inr (9, [.ref x_state, .ref x_images, .ref x_kept, .ref x_history, .ref x_drawnTower, .ref x_machine, .ref x_judge, .ref x_runner, .ref x_reader, .ref x_draft, .ref x_paper, .ref x_tape, .int 0, .int (-1), .int 0, .int (-1), .ref x_chances, .ref x_refusals, .int (-1)])), (x_refusals, .inl (ty 0, 7, .inl (upd (fun _ => 0) 1 1)))] = u) ∨ (¬ p1 < 1 ∧ p1 ≤ 6 ∧ (-3) = r ∧ [(x_state_tower_rank, .inl (ty 0, 6, .inl (fun _ => 0))), (x_state_tower_head, .inl (ty 0, 6, .inl (fun _ => 0))), (x_state, .inr (6, [.ref x_state_tower, .int 1, .int 0, .int 0, .ref x_state_seenPlace, .ref x_state_seenRank, .int 0, .ref x_state_laws, .int 0, .int (-1)])), (x_judge, .inr (1, [.ref x_machine, .ref x_judge_words, .null])), (x_judge_words, .inl (ty 0, 9, .inl (upd (fun _ => 0) 8 0))), (x_state_tower, .inr (8, [.ref x_state_tower_rank, .ref x_state_tower_head, .int 0, .int 0, .int 0])), (x, .inr (9, [.ref x_state, .ref x_images, .ref x_kept, .ref x_history, .ref x_drawnTower, .ref x_machine, .ref x_judge, .ref x_runner, .ref x_reader, .ref x_draft, .ref x_paper, .ref x_tape, .int 0, .int (-1), .int 0, .int (-1), .ref x_chances, .ref x_refusals, .int (-3)])), (x_refusals, .inl (ty 0, 7, .inl (upd (fun _ => 0) 3 1)))] = u) ∨ (¬ p1 < 1 ∧ ¬ p1 ≤ 6 ∧ (-1) = r ∧ [(x_state_tower_rank, .inl (ty 0, 6, .inl (fun _ => 0))), (x_state_tower_head, .inl (ty 0, 6, .inl (fun _ => 0))), (x_state, .inr (6, [.ref x_state_tower, .int 1, .int 0, .int 0, .ref x_state_seenPlace, .ref x_state_seenRank, .int 0, .ref x_state_laws, .int 0, .int (-1)])), (x_judge, .inr (1, [.ref x_machine, .ref x_judge_words, .null])), (x_judge_words, .inl (ty 0, 9, .inl (upd (fun _ => 0) 8 0))), (x_state_tower, .inr (8, [.ref x_state_tower_rank, .ref x_state_tower_head, .int 0, .int 0, .int 0])), (x, .inr (9, [.ref x_state, .ref x_images, .ref x_kept, .ref x_history, .ref x_drawnTower, .ref x_machine, .ref x_judge, .ref x_runner, .ref x_reader, .ref x_draft, .ref x_paper, .ref x_tape, .int 0, .int (-1), .int 0, .int (-1), .ref x_chances, .ref x_refusals, .int (-1)])), (x_refusals, .inl (ty 0, 7, .inl (upd (fun _ => 0) 1 1)))] = u)) (kz_B D ty (va_A [(x, .inr (9, [.ref x_state, .ref x_images, .ref x_kept, .ref x_history, .ref x_drawnTower, .ref x_machine, .ref x_judge, .ref x_runner, .ref x_reader, .ref x_draft, .ref x_paper, .ref x_tape, .int 0, .int (-1), .int 0, .int (-1), .ref x_chances, .ref x_refusals, .int 0])), (x_state, .inr (6, [.ref x_state_tower, .int 1, .int 0, .int 0, .ref x_state_seenPlace, .ref x_state_seenRank, .int 0, .ref x_state_laws, .int 0, .int (-1)])), (x_state_tower, .inr (8, [.ref x_state_tower_rank, .ref x_state_tower_head, .int 0, .int 0, .int 0])), (x_state_tower_rank, .inl (ty 0, 6, .inl (fun _ => 0))), (x_state_tower_head, .inl (ty 0, 6, .inl (fun _ => 0))), (x_judge, .inr (1, [.ref x_machine, .ref x_judge_words, .null])), (x_judge_words, .inl (ty 0, 9, .inl (fun _ => 0))), (x_refusals, .inl (ty 0, 7, .inl (fun _ => 0)))] sz)) (va_A [(x, .inr (9, [.ref x_state, .ref x_images, .ref x_kept, .ref x_history, .ref x_drawnTower, .ref x_machine, .ref x_judge, .ref x_runner, .ref x_reader, .ref x_draft, .ref x_paper, .ref x_tape, .int 0, .int (-1), .int 0, .int (-1), .ref x_chances, .ref x_refusals, .int 0])), (x_state, .inr (6, [.ref x_state_tower, .int 1, .int 0, .int 0, .ref x_state_seenPlace, .ref x_state_seenRank, .int 0, .ref x_state_laws, .int 0, .int (-1)])), (x_state_tower, .inr (8, [.ref x_state_tower_rank, .ref x_state_tower_head, .int 0, .int 0, .int 0])), (x_state_tower_rank, .inl (ty 0, 6, .inl (fun _ => 0))), (x_state_tower_head, .inl (ty 0, 6, .inl (fun _ => 0))), (x_judge, .inr (1, [.ref x_machine, .ref x_judge_words, .null])), (x_judge_words, .inl (ty 0, 9, .inl (fun _ => 0))), (x_refusals, .inl (ty 0, 7, .inl (fun _ => 0)))] sz)) 0 0 (va_A [(x, .inr (9, [.ref x_state, .ref x_images, .ref x_kept, .ref x_history, .ref x_drawnTower, .ref x_machine, .ref x_judge, .ref x_runner, .ref x_reader, .ref x_draft, .ref x_paper, .ref x_tape, .int 0, .int (-1), .int 0, .int (-1), .ref x_chances, .ref x_refusals, .int 0])), (x_state, .inr (6, [.ref x_state_tower, .int 1, .int 0, .int 0, .ref x_state_seenPlace, .ref x_state_seenRank, .int 0, .ref x_state_laws, .int 0, .int (-1)])), (x_state_tower, .inr (8, [.ref x_state_tower_rank, .ref x_state_tower_head, .int 0, .int 0, .int 0])), (x_state_tower_rank, .inl (ty 0, 6, .inl (fun _ => 0))), (x_state_tower_head, .inl (ty 0, 6, .inl (fun _ => 0))), (x_judge, .inr (1, [.ref x_machine, .ref x_judge_words, .null])), (x_judge_words, .inl (ty 0, 9, .inl (fun _ => 0))), (x_refusals, .inl (ty 0, 7, .inl (fun _ => 0)))] sz) := by
  refine Met.ofW (cc := cX9_turn) (maxL := 2) (ret := (some .int)) (by decide) rfl ?_
  intro p e s m args below meth c s₁ B hml hv
  obtain ⟨rfl, hsz, hP, hK, hD0, hN, hE⟩ := hv
  have hx := B.exec
  have hb := B.bytes
  have hr := B.returns
  have hts := atoms_spec (ws := wsX9_turn) B.pre
  have hown : s.vm.findClass RX9 = some m.cls := findClass_of_methodNamed B.named
  have hlocks := B.notSynchronized
  subst hsz
  have hD := hD0.self (sz := s.heap.size)
  generalize hAe : va_A [(x, .inr (9, [.ref x_state, .ref x_images, .ref x_kept, .ref x_history, .ref x_drawnTower, .ref x_machine, .ref x_judge, .ref x_runner, .ref x_reader, .ref x_draft, .ref x_paper, .ref x_tape, .int 0, .int (-1), .int 0, .int (-1), .ref x_chances, .ref x_refusals, .int 0])), (x_state, .inr (6, [.ref x_state_tower, .int 1, .int 0, .int 0, .ref x_state_seenPlace, .ref x_state_seenRank, .int 0, .ref x_state_laws, .int 0, .int (-1)])), (x_state_tower, .inr (8, [.ref x_state_tower_rank, .ref x_state_tower_head, .int 0, .int 0, .int 0])), (x_state_tower_rank, .inl (ty 0, 6, .inl (fun _ => 0))), (x_state_tower_head, .inl (ty 0, 6, .inl (fun _ => 0))), (x_judge, .inr (1, [.ref x_machine, .ref x_judge_words, .null])), (x_judge_words, .inl (ty 0, 9, .inl (fun _ => 0))), (x_refusals, .inl (ty 0, 7, .inl (fun _ => 0)))] s.heap.size = A at hD hE ⊢
  have hA : ∀ q : Nat, s.heap.size ≤ q → A q := fun q h => by rw [← hAe]; exact Or.inr h
  have hS : va_S A s.heap s.heap [] := va_S.rf
  have hl := lv_entry ([.ref x, .int p1]) (n := 2) (Nat.le_of_ble_eq_true rfl)
  rw [lg_entry_eq]
  generalize (lg_sl ([.ref x, .int p1]) ++ List.replicate (2 - (lg_sl ([.ref x, .int p1])).length) Slot.unset).toArray = ls at hl ⊢
  have hl : lv_has ls 2 [(0, .ref x), (1, .int p1)] := hl
  refine lv_aload_n hx hb dX9_turn_0 rfl (lv_at hl 0 rfl) ?_
  refine lv_iconst (v := 0) hx hb dX9_turn_1 (by decide) ?_
  refine lv_iload_n hx hb dX9_turn_2 rfl (lv_at hl 1 rfl) ?_
  refine kz_ki (wc := [(x, .inr (9, [.ref x_state, .ref x_images, .ref x_kept, .ref x_history, .ref x_drawnTower, .ref x_machine, .ref x_judge, .ref x_runner, .ref x_reader, .ref x_draft, .ref x_paper, .ref x_tape, .int 0, .int (-1), .int 0, .int (-1), .ref x_chances, .ref x_refusals, .int 0])), (x_state, .inr (6, [.ref x_state_tower, .int 1, .int 0, .int 0, .ref x_state_seenPlace, .ref x_state_seenRank, .int 0, .ref x_state_laws, .int 0, .int (-1)])), (x_state_tower, .inr (8, [.ref x_state_tower_rank, .ref x_state_tower_head, .int 0, .int 0, .int 0])), (x_state_tower_rank, .inl (ty 0, 6, .inl (fun _ => 0))), (x_state_tower_head, .inl (ty 0, 6, .inl (fun _ => 0))), (x_judge, .inr (1, [.ref x_machine, .ref x_judge_words, .null])), (x_judge_words, .inl (ty 0, 9, .inl (fun _ => 0))), (x_refusals, .inl (ty 0, 7, .inl (fun _ => 0)))]) (wr := []) (va_runV (As := [.int 0, .int p1]) (rest := []) ⟨hx, hb, hml, hown, hts⟩ (kX9_move_39 l D ty eo _ x p1 x_state x_images x_kept x_history x_drawnTower x_machine x_judge x_runner x_reader x_draft x_paper x_tape x_chances x_refusals x_state_tower x_state_seenPlace x_state_seenRank x_state_laws x_state_tower_rank x_state_tower_head x_judge_words) (cwV 2 hts gX9_turn_X9_move rfl rfl rfl (by decide +kernel) ⟨Nat.le_of_ble_eq_true rfl, Nat.le_of_ble_eq_true rfl⟩) (kz_preV (ci := 9) (q0 := 0) hK hN hE hP hD hS hA rfl rfl [0, 1, 2, 3, 4, 5, 6, 7] (by decide) rfl) rfl rfl hl.1 rfl (lv_room (Nat.le_of_ble_eq_true rfl)) dX9_turn_3 ⟨Nat.le_of_ble_eq_true rfl, Nat.le_of_ble_eq_true rfl⟩) hP hD hS hA [0, 1, 2, 3, 4, 5, 6, 7] [] rfl rfl (by decide) (by decide) (fun r u H locs hw hp hd hs => ?_)
  rcases hw with ⟨c_1, rfl, rfl⟩ | ⟨c_2, c_3, rfl, rfl⟩ | ⟨c_4, c_5, rfl, rfl⟩
  · refine kz_re (w2 := [(x_state_tower_rank, .inl (ty 0, 6, .inl (fun _ => 0))), (x_state_tower_head, .inl (ty 0, 6, .inl (fun _ => 0))), (x_state, .inr (6, [.ref x_state_tower, .int 1, .int 0, .int 0, .ref x_state_seenPlace, .ref x_state_seenRank, .int 0, .ref x_state_laws, .int 0, .int (-1)])), (x_judge, .inr (1, [.ref x_machine, .ref x_judge_words, .null])), (x_judge_words, .inl (ty 0, 9, .inl (upd (fun _ => 0) 8 0))), (x_state_tower, .inr (8, [.ref x_state_tower_rank, .ref x_state_tower_head, .int 0, .int 0, .int 0])), (x, .inr (9, [.ref x_state, .ref x_images, .ref x_kept, .ref x_history, .ref x_drawnTower, .ref x_machine, .ref x_judge, .ref x_runner, .ref x_reader, .ref x_draft, .ref x_paper, .ref x_tape, .int 0, .int (-1), .int 0, .int (-1), .ref x_chances, .ref x_refusals, .int (-1)])), (x_refusals, .inl (ty 0, 7, .inl (upd (fun _ => 0) 1 1)))]) hp hd hs rfl ?_
    clear hp hd hs hP hD hS
    intro hP hD hS
    exact kz_iret hx hb hr hlocks hP hK hD hS dX9_turn_6 (Or.inl ⟨c_1, rfl, rfl⟩)
  · refine kz_re (w2 := [(x_state_tower_rank, .inl (ty 0, 6, .inl (fun _ => 0))), (x_state_tower_head, .inl (ty 0, 6, .inl (fun _ => 0))), (x_state, .inr (6, [.ref x_state_tower, .int 1, .int 0, .int 0, .ref x_state_seenPlace, .ref x_state_seenRank, .int 0, .ref x_state_laws, .int 0, .int (-1)])), (x_judge, .inr (1, [.ref x_machine, .ref x_judge_words, .null])), (x_judge_words, .inl (ty 0, 9, .inl (upd (fun _ => 0) 8 0))), (x_state_tower, .inr (8, [.ref x_state_tower_rank, .ref x_state_tower_head, .int 0, .int 0, .int 0])), (x, .inr (9, [.ref x_state, .ref x_images, .ref x_kept, .ref x_history, .ref x_drawnTower, .ref x_machine, .ref x_judge, .ref x_runner, .ref x_reader, .ref x_draft, .ref x_paper, .ref x_tape, .int 0, .int (-1), .int 0, .int (-1), .ref x_chances, .ref x_refusals, .int (-3)])), (x_refusals, .inl (ty 0, 7, .inl (upd (fun _ => 0) 3 1)))]) hp hd hs rfl ?_
    clear hp hd hs hP hD hS
    intro hP hD hS
    exact kz_iret hx hb hr hlocks hP hK hD hS dX9_turn_6 (Or.inr (Or.inl ⟨c_2, c_3, rfl, rfl⟩))
  · refine kz_re (w2 := [(x_state_tower_rank, .inl (ty 0, 6, .inl (fun _ => 0))), (x_state_tower_head, .inl (ty 0, 6, .inl (fun _ => 0))), (x_state, .inr (6, [.ref x_state_tower, .int 1, .int 0, .int 0, .ref x_state_seenPlace, .ref x_state_seenRank, .int 0, .ref x_state_laws, .int 0, .int (-1)])), (x_judge, .inr (1, [.ref x_machine, .ref x_judge_words, .null])), (x_judge_words, .inl (ty 0, 9, .inl (upd (fun _ => 0) 8 0))), (x_state_tower, .inr (8, [.ref x_state_tower_rank, .ref x_state_tower_head, .int 0, .int 0, .int 0])), (x, .inr (9, [.ref x_state, .ref x_images, .ref x_kept, .ref x_history, .ref x_drawnTower, .ref x_machine, .ref x_judge, .ref x_runner, .ref x_reader, .ref x_draft, .ref x_paper, .ref x_tape, .int 0, .int (-1), .int 0, .int (-1), .ref x_chances, .ref x_refusals, .int (-1)])), (x_refusals, .inl (ty 0, 7, .inl (upd (fun _ => 0) 1 1)))]) hp hd hs rfl ?_
    clear hp hd hs hP hD hS
    intro hP hD hS
    exact kz_iret hx hb hr hlocks hP hK hD hS dX9_turn_6 (Or.inr (Or.inr ⟨c_4, c_5, rfl, rfl⟩))

set_option maxHeartbeats 4000000 in
set_option maxRecDepth 100000 in
theorem kcX8_rightAt (l : Launch) (D : va_G) (ty : Nat → ClassId) (eo : Nat → Nat) (sz : Nat) (h0 : Nat) (h0_v0 h0_v3 h0_v4 : Value) (p1 h0_floors : Int32) (h0_head : Nat) (h0_head_f : Nat → Int32) : Met l yX8_rightAt wsX8_rightAt ({ frames := 1, cells := 0, slots := 0, locals := 21 }) (va_Pc [.ref h0, .int p1] (kz_pre D ty eo [(h0, .inr (8, [h0_v0, .ref h0_head, .int h0_floors, h0_v3, h0_v4])), (h0_head, .inl (ty 0, 6, .inl h0_head_f))] sz)) (va_Qi (fun (r : Int32) (u : va_W) => (p1 < 0 ∧ (-1) = r ∧ [(h0, .inr (8, [h0_v0, .ref h0_head, .int h0_floors, h0_v3, h0_v4])), (h0_head, .inl (ty 0, 6, .inl h0_head_f))] = u) ∨ (¬ p1 < 0 ∧ p1 < 6 ∧ ¬ p1 < 0 ∧ h0_floors ≤ p1 ∧ (-3) = r ∧ [(h0_head, .inl (ty 0, 6, .inl h0_head_f)), (h0, .inr (8, [h0_v0, .ref h0_head, .int h0_floors, h0_v3, h0_v4]))] = u) ∨ (¬ p1 < 0 ∧ p1 < 6 ∧ ¬ p1 < 0 ∧ ¬ h0_floors ≤ p1 ∧ ((upd h0_head_f (Int32.toNatClampNeg p1) (1 - (h0_head_f (Int32.toNatClampNeg p1)))) (Int32.toNatClampNeg p1)) = r ∧ [(h0_head, .inl (ty 0, 6, .inl (upd h0_head_f (Int32.toNatClampNeg p1) (1 - (h0_head_f (Int32.toNatClampNeg p1)))))), (h0, .inr (8, [h0_v0, .ref h0_head, .int h0_floors, h0_v3, h0_v4]))] = u) ∨ (¬ p1 < 0 ∧ ¬ p1 < 6 ∧ (-1) = r ∧ [(h0, .inr (8, [h0_v0, .ref h0_head, .int h0_floors, h0_v3, h0_v4])), (h0_head, .inl (ty 0, 6, .inl h0_head_f))] = u)) (kz_B D ty (va_A [(h0, .inr (8, [h0_v0, .ref h0_head, .int h0_floors, h0_v3, h0_v4])), (h0_head, .inl (ty 0, 6, .inl h0_head_f))] sz)) (va_A [(h0, .inr (8, [h0_v0, .ref h0_head, .int h0_floors, h0_v3, h0_v4])), (h0_head, .inl (ty 0, 6, .inl h0_head_f))] sz)) 0 0 (va_A [(h0, .inr (8, [h0_v0, .ref h0_head, .int h0_floors, h0_v3, h0_v4])), (h0_head, .inl (ty 0, 6, .inl h0_head_f))] sz) := by
  refine Met.ofW (cc := cX8_rightAt) (maxL := 2) (ret := (some .int)) (by decide) rfl ?_
  intro p e s m args below meth c s₁ B hml hv
  obtain ⟨rfl, hsz, hP, hK, hD0, hN, hE⟩ := hv
  have hx := B.exec
  have hb := B.bytes
  have hr := B.returns
  have hts := atoms_spec (ws := wsX8_rightAt) B.pre
  have hown : s.vm.findClass RX8 = some m.cls := findClass_of_methodNamed B.named
  have hlocks := B.notSynchronized
  subst hsz
  have hD := hD0.self (sz := s.heap.size)
  generalize hAe : va_A [(h0, .inr (8, [h0_v0, .ref h0_head, .int h0_floors, h0_v3, h0_v4])), (h0_head, .inl (ty 0, 6, .inl h0_head_f))] s.heap.size = A at hD hE ⊢
  have hA : ∀ q : Nat, s.heap.size ≤ q → A q := fun q h => by rw [← hAe]; exact Or.inr h
  have hS : va_S A s.heap s.heap [] := va_S.rf
  have hl := lv_entry ([.ref h0, .int p1]) (n := 2) (Nat.le_of_ble_eq_true rfl)
  rw [lg_entry_eq]
  generalize (lg_sl ([.ref h0, .int p1]) ++ List.replicate (2 - (lg_sl ([.ref h0, .int p1])).length) Slot.unset).toArray = ls at hl ⊢
  have hl : lv_has ls 2 [(0, .ref h0), (1, .int p1)] := hl
  refine lv_iload_n hx hb dX8_rightAt_0 rfl (lv_at hl 1 rfl) ?_
  refine lv_if_lt (tgt := 10) hx hb dX8_rightAt_1 (by decide) (fun c_1 => ?_) (fun c_1 => ?_)
  · refine lv_iconst (v := (-1)) hx hb dX8_rightAt_10 (by decide) ?_
    exact kz_iret hx hb hr hlocks hP hK hD hS dX8_rightAt_11 (Or.inl ⟨c_1, rfl, rfl⟩)
  · refine lv_iload_n hx hb dX8_rightAt_4 rfl (lv_at hl 1 rfl) ?_
    refine lv_bipush (v := 6) hx hb dX8_rightAt_5 (by decide) ?_
    refine lv_icmp_lt (tgt := 12) hx hb dX8_rightAt_7 (by decide) (fun c_2 => ?_) (fun c_2 => ?_)
    · refine lv_aload_n hx hb dX8_rightAt_12 rfl (lv_at hl 0 rfl) ?_
      refine lv_iload_n hx hb dX8_rightAt_13 rfl (lv_at hl 1 rfl) ?_
      refine kz_ki (wc := [(h0, .inr (8, [h0_v0, .ref h0_head, .int h0_floors, h0_v3, h0_v4]))]) (wr := [(h0_head, .inl (ty 0, 6, .inl h0_head_f))]) (va_runV (As := [.int p1]) (rest := []) ⟨hx, hb, hml, hown, hts⟩ (kcX8_isFloor l D ty eo _ h0 h0_v0 (.ref h0_head) h0_v3 h0_v4 p1 h0_floors) (cwV 1 hts gX8_rightAt_X8_isFloor rfl rfl rfl (by decide +kernel) ⟨Nat.le_of_ble_eq_true rfl, Nat.le_of_ble_eq_true rfl⟩) (kz_preV (ci := 8) (q0 := 0) hK hN hE hP hD hS hA rfl rfl [0] (by decide) rfl) rfl rfl hl.1 rfl (lv_room (Nat.le_of_ble_eq_true rfl)) dX8_rightAt_14 ⟨Nat.le_of_ble_eq_true rfl, Nat.le_of_ble_eq_true rfl⟩) hP hD hS hA [0] [1] rfl rfl (by decide) (by decide) (fun r u H locs hw hp hd hs => ?_)
      rcases hw with ⟨c_3, rfl, rfl⟩ | ⟨c_4, c_5, rfl, rfl⟩ | ⟨c_6, c_7, rfl, rfl⟩
      · exact absurd c_3 c_1
      · refine kz_re (w2 := [(h0_head, .inl (ty 0, 6, .inl h0_head_f)), (h0, .inr (8, [h0_v0, .ref h0_head, .int h0_floors, h0_v3, h0_v4]))]) hp hd hs rfl ?_
        clear hp hd hs hP hD hS
        intro hP hD hS
        refine lv_if_ne (tgt := 23) hx hb dX8_rightAt_17 (by decide) (fun h => absurd (by decide) h) (fun _ => ?_)
        refine lv_bipush (v := (-3)) hx hb dX8_rightAt_20 (by decide) ?_
        exact kz_iret hx hb hr hlocks hP hK hD hS dX8_rightAt_22 (Or.inr (Or.inl ⟨c_1, c_2, c_4, c_5, rfl, rfl⟩))
      · refine kz_re (w2 := [(h0_head, .inl (ty 0, 6, .inl h0_head_f)), (h0, .inr (8, [h0_v0, .ref h0_head, .int h0_floors, h0_v3, h0_v4]))]) hp hd hs rfl ?_
        clear hp hd hs hP hD hS
        intro hP hD hS
        refine lv_if_ne (tgt := 23) hx hb dX8_rightAt_17 (by decide) (fun _ => ?_) (fun h => absurd h (by decide))
        refine lv_aload_n hx hb dX8_rightAt_23 rfl (lv_at hl 0 rfl) ?_
        refine va_get (D := D) (ci := 8) (v := .ref h0_head) (C := RX8) (T := TX8) (N := 5) hx hb hts (by decide +kernel) hown hK hP 1 rfl rfl 1 (by decide) (hts (.fieldLink RX8 15 "TurnedFloors$Tower" "head" "[I") (by decide +kernel)) (fun _ h9 => h9) rfl dX8_rightAt_24 ?_
        refine lv_iload_n hx hb dX8_rightAt_27 rfl (lv_at hl 1 rfl) ?_
        refine lv_iconst (v := 1) hx hb dX8_rightAt_28 (by decide) ?_
        refine lv_aload_n hx hb dX8_rightAt_29 rfl (lv_at hl 0 rfl) ?_
        refine va_get (D := D) (ci := 8) (v := .ref h0_head) (C := RX8) (T := TX8) (N := 5) hx hb hts (by decide +kernel) hown hK hP 1 rfl rfl 1 (by decide) (hts (.fieldLink RX8 15 "TurnedFloors$Tower" "head" "[I") (by decide +kernel)) (fun _ h9 => h9) rfl dX8_rightAt_30 ?_
        refine lv_iload_n hx hb dX8_rightAt_33 rfl (lv_at hl 1 rfl) ?_
        refine va_iald hx hb hK hP 0 0 rfl rfl (vp_in_iff.mpr (by simp only [Int32.lt_iff_toInt_lt, Int32.le_iff_toInt_le, ← Int32.toInt_inj, Int32.reduceToInt] at c_1 c_2 c_6 ⊢; omega)) dX8_rightAt_34 ?_
        refine lv_isub hx hb dX8_rightAt_35 ?_
        refine va_iast hx hb hK hP hD hS 0 0 rfl rfl (vp_in_iff.mpr (by simp only [Int32.lt_iff_toInt_lt, Int32.le_iff_toInt_le, ← Int32.toInt_inj, Int32.reduceToInt] at c_1 c_2 c_6 ⊢; omega)) dX8_rightAt_36 (fun H locs hp hd hs => ?_)
        refine kz_re (w2 := [(h0_head, .inl (ty 0, 6, .inl (upd h0_head_f (Int32.toNatClampNeg p1) (1 - (h0_head_f (Int32.toNatClampNeg p1)))))), (h0, .inr (8, [h0_v0, .ref h0_head, .int h0_floors, h0_v3, h0_v4]))]) hp hd hs rfl ?_
        clear hp hd hs hP hD hS
        intro hP hD hS
        refine lv_aload_n hx hb dX8_rightAt_37 rfl (lv_at hl 0 rfl) ?_
        refine va_get (D := D) (ci := 8) (v := .ref h0_head) (C := RX8) (T := TX8) (N := 5) hx hb hts (by decide +kernel) hown hK hP 1 rfl rfl 1 (by decide) (hts (.fieldLink RX8 15 "TurnedFloors$Tower" "head" "[I") (by decide +kernel)) (fun _ h9 => h9) rfl dX8_rightAt_38 ?_
        refine lv_iload_n hx hb dX8_rightAt_41 rfl (lv_at hl 1 rfl) ?_
        refine va_iald hx hb hK hP 0 0 rfl rfl (vp_in_iff.mpr (by simp only [Int32.lt_iff_toInt_lt, Int32.le_iff_toInt_le, ← Int32.toInt_inj, Int32.reduceToInt] at c_1 c_2 c_6 ⊢; omega)) dX8_rightAt_42 ?_
        exact kz_iret hx hb hr hlocks hP hK hD hS dX8_rightAt_43 (Or.inr (Or.inr (Or.inl ⟨c_1, c_2, c_6, c_7, rfl, rfl⟩)))
    · refine lv_iconst (v := (-1)) hx hb dX8_rightAt_10 (by decide) ?_
      exact kz_iret hx hb hr hlocks hP hK hD hS dX8_rightAt_11 (Or.inr (Or.inr (Or.inr ⟨c_1, c_2, rfl, rfl⟩)))

set_option maxHeartbeats 4000000 in
set_option maxRecDepth 100000 in
theorem kX8_act_60 (l : Launch) (D : va_G) (ty : Nat → ClassId) (eo : Nat → Nat) (sz : Nat) (x_state_tower : Nat) (a2 : Int32) (x_judge x_state_tower_rank x_state_tower_head : Nat) : Met l yX8_act wsX8_act ({ frames := 2, cells := 0, slots := 0, locals := 42 }) (va_Pc [.ref x_state_tower, .int 1, .int a2, .ref x_judge] (kz_pre D ty eo [(x_state_tower, .inr (8, [.ref x_state_tower_rank, .ref x_state_tower_head, .int 0, .int 0, .int 0])), (x_state_tower_head, .inl (ty 0, 6, .inl (fun _ => 0)))] sz)) (va_Qi (fun (r : Int32) (u : va_W) => (a2 < 0 ∧ (-1) = r ∧ [(x_state_tower, .inr (8, [.ref x_state_tower_rank, .ref x_state_tower_head, .int 0, .int 0, .int 0])), (x_state_tower_head, .inl (ty 0, 6, .inl (fun _ => 0)))] = u) ∨ (¬ a2 < 0 ∧ a2 < 6 ∧ ¬ a2 < 0 ∧ 0 ≤ a2 ∧ (-3) = r ∧ [(x_state_tower_head, .inl (ty 0, 6, .inl (fun _ => 0))), (x_state_tower, .inr (8, [.ref x_state_tower_rank, .ref x_state_tower_head, .int 0, .int 0, .int 0]))] = u) ∨ (¬ a2 < 0 ∧ ¬ a2 < 6 ∧ (-1) = r ∧ [(x_state_tower, .inr (8, [.ref x_state_tower_rank, .ref x_state_tower_head, .int 0, .int 0, .int 0])), (x_state_tower_head, .inl (ty 0, 6, .inl (fun _ => 0)))] = u)) (kz_B D ty (va_A [(x_state_tower, .inr (8, [.ref x_state_tower_rank, .ref x_state_tower_head, .int 0, .int 0, .int 0])), (x_state_tower_head, .inl (ty 0, 6, .inl (fun _ => 0)))] sz)) (va_A [(x_state_tower, .inr (8, [.ref x_state_tower_rank, .ref x_state_tower_head, .int 0, .int 0, .int 0])), (x_state_tower_head, .inl (ty 0, 6, .inl (fun _ => 0)))] sz)) 0 0 (va_A [(x_state_tower, .inr (8, [.ref x_state_tower_rank, .ref x_state_tower_head, .int 0, .int 0, .int 0])), (x_state_tower_head, .inl (ty 0, 6, .inl (fun _ => 0)))] sz) := by
  refine Met.ofW (cc := cX8_act) (maxL := 4) (ret := (some .int)) (by decide) rfl ?_
  intro p e s m args below meth c s₁ B hml hv
  obtain ⟨rfl, hsz, hP, hK, hD0, hN, hE⟩ := hv
  have hx := B.exec
  have hb := B.bytes
  have hr := B.returns
  have hts := atoms_spec (ws := wsX8_act) B.pre
  have hown : s.vm.findClass RX8 = some m.cls := findClass_of_methodNamed B.named
  have hlocks := B.notSynchronized
  subst hsz
  have hD := hD0.self (sz := s.heap.size)
  generalize hAe : va_A [(x_state_tower, .inr (8, [.ref x_state_tower_rank, .ref x_state_tower_head, .int 0, .int 0, .int 0])), (x_state_tower_head, .inl (ty 0, 6, .inl (fun _ => 0)))] s.heap.size = A at hD hE ⊢
  have hA : ∀ q : Nat, s.heap.size ≤ q → A q := fun q h => by rw [← hAe]; exact Or.inr h
  have hS : va_S A s.heap s.heap [] := va_S.rf
  have hl := lv_entry ([.ref x_state_tower, .int 1, .int a2, .ref x_judge]) (n := 4) (Nat.le_of_ble_eq_true rfl)
  rw [lg_entry_eq]
  generalize (lg_sl ([.ref x_state_tower, .int 1, .int a2, .ref x_judge]) ++ List.replicate (4 - (lg_sl ([.ref x_state_tower, .int 1, .int a2, .ref x_judge])).length) Slot.unset).toArray = ls at hl ⊢
  have hl : lv_has ls 4 [(0, .ref x_state_tower), (1, .int 1), (2, .int a2), (3, .ref x_judge)] := hl
  refine lv_iload_n hx hb dX8_act_0 rfl (lv_at hl 1 rfl) ?_
  refine lv_tableIn (off := 38) (tgt := 39) hx hb dX8_act_1 (by decide) (by decide) (by decide) (by decide) ?_
  refine lv_aload_n hx hb dX8_act_39 rfl (lv_at hl 0 rfl) ?_
  refine lv_iload_n hx hb dX8_act_40 rfl (lv_at hl 2 rfl) ?_
  refine kz_ki (wc := [(x_state_tower, .inr (8, [.ref x_state_tower_rank, .ref x_state_tower_head, .int 0, .int 0, .int 0])), (x_state_tower_head, .inl (ty 0, 6, .inl (fun _ => 0)))]) (wr := []) (va_runV (As := [.int a2]) (rest := []) ⟨hx, hb, hml, hown, hts⟩ (kcX8_rightAt l D ty eo _ x_state_tower (.ref x_state_tower_rank) (.int 0) (.int 0) a2 0 x_state_tower_head (fun _ => 0)) (cwV 1 hts gX8_act_X8_rightAt rfl rfl rfl (by decide +kernel) ⟨Nat.le_of_ble_eq_true rfl, Nat.le_of_ble_eq_true rfl⟩) (kz_preV (ci := 8) (q0 := 0) hK hN hE hP hD hS hA rfl rfl [0, 1] (by decide) rfl) rfl rfl hl.1 rfl (lv_room (Nat.le_of_ble_eq_true rfl)) dX8_act_41 ⟨Nat.le_of_ble_eq_true rfl, Nat.le_of_ble_eq_true rfl⟩) hP hD hS hA [0, 1] [] rfl rfl (by decide) (by decide) (fun r u H locs hw hp hd hs => ?_)
  rcases hw with ⟨c_1, rfl, rfl⟩ | ⟨c_2, c_3, c_4, c_5, rfl, rfl⟩ | ⟨c_6, c_7, c_8, c_9, rfl, rfl⟩ | ⟨c_10, c_11, rfl, rfl⟩
  · refine kz_re (w2 := [(x_state_tower, .inr (8, [.ref x_state_tower_rank, .ref x_state_tower_head, .int 0, .int 0, .int 0])), (x_state_tower_head, .inl (ty 0, 6, .inl (fun _ => 0)))]) hp hd hs rfl ?_
    clear hp hd hs hP hD hS
    intro hP hD hS
    exact kz_iret hx hb hr hlocks hP hK hD hS dX8_act_44 (Or.inl ⟨c_1, rfl, rfl⟩)
  · refine kz_re (w2 := [(x_state_tower_head, .inl (ty 0, 6, .inl (fun _ => 0))), (x_state_tower, .inr (8, [.ref x_state_tower_rank, .ref x_state_tower_head, .int 0, .int 0, .int 0]))]) hp hd hs rfl ?_
    clear hp hd hs hP hD hS
    intro hP hD hS
    exact kz_iret hx hb hr hlocks hP hK hD hS dX8_act_44 (Or.inr (Or.inl ⟨c_2, c_3, c_4, c_5, rfl, rfl⟩))
  · exact kz_false (by simp only [Int32.lt_iff_toInt_lt, Int32.le_iff_toInt_le, ← Int32.toInt_inj, Int32.reduceToInt] at c_6 c_7 c_8 c_9; omega)
  · refine kz_re (w2 := [(x_state_tower, .inr (8, [.ref x_state_tower_rank, .ref x_state_tower_head, .int 0, .int 0, .int 0])), (x_state_tower_head, .inl (ty 0, 6, .inl (fun _ => 0)))]) hp hd hs rfl ?_
    clear hp hd hs hP hD hS
    intro hP hD hS
    exact kz_iret hx hb hr hlocks hP hK hD hS dX8_act_44 (Or.inr (Or.inr ⟨c_10, c_11, rfl, rfl⟩))

set_option maxHeartbeats 4000000 in
set_option maxRecDepth 100000 in
theorem kX9_move_59 (l : Launch) (D : va_G) (ty : Nat → ClassId) (eo : Nat → Nat) (sz : Nat) (x : Nat) (a2 : Int32) (x_state x_images x_kept x_history x_drawnTower x_machine x_judge x_runner x_reader x_draft x_paper x_tape x_chances x_refusals x_state_tower x_state_seenPlace x_state_seenRank x_state_laws x_state_tower_rank x_state_tower_head x_judge_words : Nat) : Met l yX9_move wsX9_move ({ frames := 3, cells := 0, slots := 0, locals := 65 }) (va_Pc [.ref x, .int 1, .int a2] (kz_pre D ty eo [(x, .inr (9, [.ref x_state, .ref x_images, .ref x_kept, .ref x_history, .ref x_drawnTower, .ref x_machine, .ref x_judge, .ref x_runner, .ref x_reader, .ref x_draft, .ref x_paper, .ref x_tape, .int 0, .int (-1), .int 0, .int (-1), .ref x_chances, .ref x_refusals, .int 0])), (x_state, .inr (6, [.ref x_state_tower, .int 1, .int 0, .int 0, .ref x_state_seenPlace, .ref x_state_seenRank, .int 0, .ref x_state_laws, .int 0, .int (-1)])), (x_state_tower, .inr (8, [.ref x_state_tower_rank, .ref x_state_tower_head, .int 0, .int 0, .int 0])), (x_state_tower_rank, .inl (ty 0, 6, .inl (fun _ => 0))), (x_state_tower_head, .inl (ty 0, 6, .inl (fun _ => 0))), (x_judge, .inr (1, [.ref x_machine, .ref x_judge_words, .null])), (x_judge_words, .inl (ty 0, 9, .inl (fun _ => 0))), (x_refusals, .inl (ty 0, 7, .inl (fun _ => 0)))] sz)) (va_Qi (fun (r : Int32) (u : va_W) => (a2 < 0 ∧ (-1) = r ∧ [(x_state_tower_rank, .inl (ty 0, 6, .inl (fun _ => 0))), (x_state, .inr (6, [.ref x_state_tower, .int 1, .int 0, .int 0, .ref x_state_seenPlace, .ref x_state_seenRank, .int 0, .ref x_state_laws, .int 0, .int (-1)])), (x_judge, .inr (1, [.ref x_machine, .ref x_judge_words, .null])), (x_judge_words, .inl (ty 0, 9, .inl (upd (fun _ => 0) 8 0))), (x_state_tower, .inr (8, [.ref x_state_tower_rank, .ref x_state_tower_head, .int 0, .int 0, .int 0])), (x_state_tower_head, .inl (ty 0, 6, .inl (fun _ => 0))), (x, .inr (9, [.ref x_state, .ref x_images, .ref x_kept, .ref x_history, .ref x_drawnTower, .ref x_machine, .ref x_judge, .ref x_runner, .ref x_reader, .ref x_draft, .ref x_paper, .ref x_tape, .int 0, .int (-1), .int 0, .int (-1), .ref x_chances, .ref x_refusals, .int (-1)])), (x_refusals, .inl (ty 0, 7, .inl (upd (fun _ => 0) 1 1)))] = u) ∨ (¬ a2 < 0 ∧ a2 < 6 ∧ ¬ a2 < 0 ∧ 0 ≤ a2 ∧ (-3) = r ∧ [(x_state_tower_rank, .inl (ty 0, 6, .inl (fun _ => 0))), (x_state, .inr (6, [.ref x_state_tower, .int 1, .int 0, .int 0, .ref x_state_seenPlace, .ref x_state_seenRank, .int 0, .ref x_state_laws, .int 0, .int (-1)])), (x_judge, .inr (1, [.ref x_machine, .ref x_judge_words, .null])), (x_judge_words, .inl (ty 0, 9, .inl (upd (fun _ => 0) 8 0))), (x_state_tower_head, .inl (ty 0, 6, .inl (fun _ => 0))), (x_state_tower, .inr (8, [.ref x_state_tower_rank, .ref x_state_tower_head, .int 0, .int 0, .int 0])), (x, .inr (9, [.ref x_state, .ref x_images, .ref x_kept, .ref x_history, .ref x_drawnTower, .ref x_machine, .ref x_judge, .ref x_runner, .ref x_reader, .ref x_draft, .ref x_paper, .ref x_tape, .int 0, .int (-1), .int 0, .int (-1), .ref x_chances, .ref x_refusals, .int (-3)])), (x_refusals, .inl (ty 0, 7, .inl (upd (fun _ => 0) 3 1)))] = u) ∨ (¬ a2 < 0 ∧ ¬ a2 < 6 ∧ (-1) = r ∧ [(x_state_tower_rank, .inl (ty 0, 6, .inl (fun _ => 0))), (x_state, .inr (6, [.ref x_state_tower, .int 1, .int 0, .int 0, .ref x_state_seenPlace, .ref x_state_seenRank, .int 0, .ref x_state_laws, .int 0, .int (-1)])), (x_judge, .inr (1, [.ref x_machine, .ref x_judge_words, .null])), (x_judge_words, .inl (ty 0, 9, .inl (upd (fun _ => 0) 8 0))), (x_state_tower, .inr (8, [.ref x_state_tower_rank, .ref x_state_tower_head, .int 0, .int 0, .int 0])), (x_state_tower_head, .inl (ty 0, 6, .inl (fun _ => 0))), (x, .inr (9, [.ref x_state, .ref x_images, .ref x_kept, .ref x_history, .ref x_drawnTower, .ref x_machine, .ref x_judge, .ref x_runner, .ref x_reader, .ref x_draft, .ref x_paper, .ref x_tape, .int 0, .int (-1), .int 0, .int (-1), .ref x_chances, .ref x_refusals, .int (-1)])), (x_refusals, .inl (ty 0, 7, .inl (upd (fun _ => 0) 1 1)))] = u)) (kz_B D ty (va_A [(x, .inr (9, [.ref x_state, .ref x_images, .ref x_kept, .ref x_history, .ref x_drawnTower, .ref x_machine, .ref x_judge, .ref x_runner, .ref x_reader, .ref x_draft, .ref x_paper, .ref x_tape, .int 0, .int (-1), .int 0, .int (-1), .ref x_chances, .ref x_refusals, .int 0])), (x_state, .inr (6, [.ref x_state_tower, .int 1, .int 0, .int 0, .ref x_state_seenPlace, .ref x_state_seenRank, .int 0, .ref x_state_laws, .int 0, .int (-1)])), (x_state_tower, .inr (8, [.ref x_state_tower_rank, .ref x_state_tower_head, .int 0, .int 0, .int 0])), (x_state_tower_rank, .inl (ty 0, 6, .inl (fun _ => 0))), (x_state_tower_head, .inl (ty 0, 6, .inl (fun _ => 0))), (x_judge, .inr (1, [.ref x_machine, .ref x_judge_words, .null])), (x_judge_words, .inl (ty 0, 9, .inl (fun _ => 0))), (x_refusals, .inl (ty 0, 7, .inl (fun _ => 0)))] sz)) (va_A [(x, .inr (9, [.ref x_state, .ref x_images, .ref x_kept, .ref x_history, .ref x_drawnTower, .ref x_machine, .ref x_judge, .ref x_runner, .ref x_reader, .ref x_draft, .ref x_paper, .ref x_tape, .int 0, .int (-1), .int 0, .int (-1), .ref x_chances, .ref x_refusals, .int 0])), (x_state, .inr (6, [.ref x_state_tower, .int 1, .int 0, .int 0, .ref x_state_seenPlace, .ref x_state_seenRank, .int 0, .ref x_state_laws, .int 0, .int (-1)])), (x_state_tower, .inr (8, [.ref x_state_tower_rank, .ref x_state_tower_head, .int 0, .int 0, .int 0])), (x_state_tower_rank, .inl (ty 0, 6, .inl (fun _ => 0))), (x_state_tower_head, .inl (ty 0, 6, .inl (fun _ => 0))), (x_judge, .inr (1, [.ref x_machine, .ref x_judge_words, .null])), (x_judge_words, .inl (ty 0, 9, .inl (fun _ => 0))), (x_refusals, .inl (ty 0, 7, .inl (fun _ => 0)))] sz)) 0 0 (va_A [(x, .inr (9, [.ref x_state, .ref x_images, .ref x_kept, .ref x_history, .ref x_drawnTower, .ref x_machine, .ref x_judge, .ref x_runner, .ref x_reader, .ref x_draft, .ref x_paper, .ref x_tape, .int 0, .int (-1), .int 0, .int (-1), .ref x_chances, .ref x_refusals, .int 0])), (x_state, .inr (6, [.ref x_state_tower, .int 1, .int 0, .int 0, .ref x_state_seenPlace, .ref x_state_seenRank, .int 0, .ref x_state_laws, .int 0, .int (-1)])), (x_state_tower, .inr (8, [.ref x_state_tower_rank, .ref x_state_tower_head, .int 0, .int 0, .int 0])), (x_state_tower_rank, .inl (ty 0, 6, .inl (fun _ => 0))), (x_state_tower_head, .inl (ty 0, 6, .inl (fun _ => 0))), (x_judge, .inr (1, [.ref x_machine, .ref x_judge_words, .null])), (x_judge_words, .inl (ty 0, 9, .inl (fun _ => 0))), (x_refusals, .inl (ty 0, 7, .inl (fun _ => 0)))] sz) := by
  refine Met.ofW (cc := cX9_move) (maxL := 6) (ret := (some .int)) (by decide) rfl ?_
  intro p e s m args below meth c s₁ B hml hv
  obtain ⟨rfl, hsz, hP, hK, hD0, hN, hE⟩ := hv
  have hx := B.exec
  have hb := B.bytes
  have hr := B.returns
  have hts := atoms_spec (ws := wsX9_move) B.pre
  have hown : s.vm.findClass RX9 = some m.cls := findClass_of_methodNamed B.named
  have hlocks := B.notSynchronized
  subst hsz
  have hD := hD0.self (sz := s.heap.size)
  generalize hAe : va_A [(x, .inr (9, [.ref x_state, .ref x_images, .ref x_kept, .ref x_history, .ref x_drawnTower, .ref x_machine, .ref x_judge, .ref x_runner, .ref x_reader, .ref x_draft, .ref x_paper, .ref x_tape, .int 0, .int (-1), .int 0, .int (-1), .ref x_chances, .ref x_refusals, .int 0])), (x_state, .inr (6, [.ref x_state_tower, .int 1, .int 0, .int 0, .ref x_state_seenPlace, .ref x_state_seenRank, .int 0, .ref x_state_laws, .int 0, .int (-1)])), (x_state_tower, .inr (8, [.ref x_state_tower_rank, .ref x_state_tower_head, .int 0, .int 0, .int 0])), (x_state_tower_rank, .inl (ty 0, 6, .inl (fun _ => 0))), (x_state_tower_head, .inl (ty 0, 6, .inl (fun _ => 0))), (x_judge, .inr (1, [.ref x_machine, .ref x_judge_words, .null])), (x_judge_words, .inl (ty 0, 9, .inl (fun _ => 0))), (x_refusals, .inl (ty 0, 7, .inl (fun _ => 0)))] s.heap.size = A at hD hE ⊢
  have hA : ∀ q : Nat, s.heap.size ≤ q → A q := fun q h => by rw [← hAe]; exact Or.inr h
  have hS : va_S A s.heap s.heap [] := va_S.rf
  have hl := lv_entry ([.ref x, .int 1, .int a2]) (n := 6) (Nat.le_of_ble_eq_true rfl)
  rw [lg_entry_eq]
  generalize (lg_sl ([.ref x, .int 1, .int a2]) ++ List.replicate (6 - (lg_sl ([.ref x, .int 1, .int a2])).length) Slot.unset).toArray = ls at hl ⊢
  have hl : lv_has ls 6 [(0, .ref x), (1, .int 1), (2, .int a2)] := hl
  refine lv_aload_n hx hb dX9_move_0 rfl (lv_at hl 0 rfl) ?_
  refine va_get (D := D) (ci := 9) (v := .ref x_state) (C := RX9) (T := TX9) (N := 19) hx hb hts (by decide +kernel) hown hK hP 0 rfl rfl 0 (by decide) (hts (.fieldLink RX9 10 "TurnedFloors" "state" "LTurnedFloors$State;") (by decide +kernel)) (fun _ h9 => h9) rfl dX9_move_1 ?_
  refine va_getN (D := D) (ci := 6) (v := .ref x_state_tower) (C := RX6) (T := TX6) (N := 10) hx hb hts (by decide +kernel) hown hK hP 1 rfl rfl 0 (by decide) (hN.use (.fieldLinkNest "TurnedFloors" 122 "TurnedFloors$State" "tower" "LTurnedFloors$Tower;" "TurnedFloors") (by decide +kernel)) (fun _ h9 => h9) rfl dX9_move_4 ?_
  refine kz_kl (wc := [(x_state_tower, .inr (8, [.ref x_state_tower_rank, .ref x_state_tower_head, .int 0, .int 0, .int 0])), (x_state_tower_rank, .inl (ty 0, 6, .inl (fun _ => 0))), (x_state_tower_head, .inl (ty 0, 6, .inl (fun _ => 0)))]) (wr := [(x, .inr (9, [.ref x_state, .ref x_images, .ref x_kept, .ref x_history, .ref x_drawnTower, .ref x_machine, .ref x_judge, .ref x_runner, .ref x_reader, .ref x_draft, .ref x_paper, .ref x_tape, .int 0, .int (-1), .int 0, .int (-1), .ref x_chances, .ref x_refusals, .int 0])), (x_state, .inr (6, [.ref x_state_tower, .int 1, .int 0, .int 0, .ref x_state_seenPlace, .ref x_state_seenRank, .int 0, .ref x_state_laws, .int 0, .int (-1)])), (x_judge, .inr (1, [.ref x_machine, .ref x_judge_words, .null])), (x_judge_words, .inl (ty 0, 9, .inl (fun _ => 0))), (x_refusals, .inl (ty 0, 7, .inl (fun _ => 0)))]) (va_runV (As := []) (rest := []) ⟨hx, hb, hml, hown, hts⟩ (kX8_pack_40 l D ty eo _ x_state_tower x_state_tower_rank x_state_tower_head) (cwV 0 hts gX9_move_X8_pack rfl rfl rfl (by decide +kernel) ⟨Nat.le_of_ble_eq_true rfl, Nat.le_of_ble_eq_true rfl⟩) (kz_preV (ci := 8) (q0 := 2) hK hN hE hP hD hS hA rfl rfl [2, 3, 4] (by decide) rfl) rfl rfl hl.1 rfl (lv_room (Nat.le_of_ble_eq_true rfl)) dX9_move_7 ⟨Nat.le_of_ble_eq_true rfl, Nat.le_of_ble_eq_true rfl⟩) hP hD hS hA [2, 3, 4] [0, 1, 5, 6, 7] rfl rfl (by decide) (by decide) (fun r u H locs hw hp hd hs => ?_)
  obtain ⟨rfl, rfl⟩ := hw
  refine kz_re (w2 := [(x, .inr (9, [.ref x_state, .ref x_images, .ref x_kept, .ref x_history, .ref x_drawnTower, .ref x_machine, .ref x_judge, .ref x_runner, .ref x_reader, .ref x_draft, .ref x_paper, .ref x_tape, .int 0, .int (-1), .int 0, .int (-1), .ref x_chances, .ref x_refusals, .int 0])), (x_state, .inr (6, [.ref x_state_tower, .int 1, .int 0, .int 0, .ref x_state_seenPlace, .ref x_state_seenRank, .int 0, .ref x_state_laws, .int 0, .int (-1)])), (x_judge, .inr (1, [.ref x_machine, .ref x_judge_words, .null])), (x_judge_words, .inl (ty 0, 9, .inl (fun _ => 0))), (x_refusals, .inl (ty 0, 7, .inl (fun _ => 0))), (x_state_tower, .inr (8, [.ref x_state_tower_rank, .ref x_state_tower_head, .int 0, .int 0, .int 0])), (x_state_tower_rank, .inl (ty 0, 6, .inl (fun _ => 0))), (x_state_tower_head, .inl (ty 0, 6, .inl (fun _ => 0)))]) hp hd hs rfl ?_
  clear hp hd hs hP hD hS
  intro hP hD hS
  refine lv_lstore_n (lv' := [(3, .long 0), (0, .ref x), (1, .int 1), (2, .int a2)]) hx hb dX9_move_10 rfl hl (by decide) rfl (fun ls hl => ?_)
  refine lv_aload_n hx hb dX9_move_11 rfl (lv_at hl 1 rfl) ?_
  refine va_get (D := D) (ci := 9) (v := .ref x_state) (C := RX9) (T := TX9) (N := 19) hx hb hts (by decide +kernel) hown hK hP 0 rfl rfl 0 (by decide) (hts (.fieldLink RX9 10 "TurnedFloors" "state" "LTurnedFloors$State;") (by decide +kernel)) (fun _ h9 => h9) rfl dX9_move_12 ?_
  refine va_getN (D := D) (ci := 6) (v := .ref x_state_tower) (C := RX6) (T := TX6) (N := 10) hx hb hts (by decide +kernel) hown hK hP 1 rfl rfl 0 (by decide) (hN.use (.fieldLinkNest "TurnedFloors" 122 "TurnedFloors$State" "tower" "LTurnedFloors$Tower;" "TurnedFloors") (by decide +kernel)) (fun _ h9 => h9) rfl dX9_move_15 ?_
  refine lv_iload_n hx hb dX9_move_18 rfl (lv_at hl 2 rfl) ?_
  refine lv_iload_n hx hb dX9_move_19 rfl (lv_at hl 3 rfl) ?_
  refine lv_aload_n hx hb dX9_move_20 rfl (lv_at hl 1 rfl) ?_
  refine kz_kq (wc := [(x, .inr (9, [.ref x_state, .ref x_images, .ref x_kept, .ref x_history, .ref x_drawnTower, .ref x_machine, .ref x_judge, .ref x_runner, .ref x_reader, .ref x_draft, .ref x_paper, .ref x_tape, .int 0, .int (-1), .int 0, .int (-1), .ref x_chances, .ref x_refusals, .int 0])), (x_state, .inr (6, [.ref x_state_tower, .int 1, .int 0, .int 0, .ref x_state_seenPlace, .ref x_state_seenRank, .int 0, .ref x_state_laws, .int 0, .int (-1)])), (x_judge, .inr (1, [.ref x_machine, .ref x_judge_words, .null])), (x_judge_words, .inl (ty 0, 9, .inl (fun _ => 0)))]) (wr := [(x_refusals, .inl (ty 0, 7, .inl (fun _ => 0))), (x_state_tower, .inr (8, [.ref x_state_tower_rank, .ref x_state_tower_head, .int 0, .int 0, .int 0])), (x_state_tower_rank, .inl (ty 0, 6, .inl (fun _ => 0))), (x_state_tower_head, .inl (ty 0, 6, .inl (fun _ => 0)))]) (va_runV (As := []) (rest := [.int a2, .int 1, .ref x_state_tower]) ⟨hx, hb, hml, hown, hts⟩ (kX9_seated_42 l D ty eo _ x x_state x_images x_kept x_history x_drawnTower x_machine x_judge x_runner x_reader x_draft x_paper x_tape x_chances x_refusals x_state_tower x_state_seenPlace x_state_seenRank x_state_laws x_judge_words) (cwV 0 hts gX9_move_X9_seated rfl rfl rfl (by decide +kernel) ⟨Nat.le_of_ble_eq_true rfl, Nat.le_of_ble_eq_true rfl⟩) (kz_preV (ci := 9) (q0 := 0) hK hN hE hP hD hS hA rfl rfl [0, 1, 2, 3] (by decide) rfl) rfl rfl hl.1 rfl (lv_room (Nat.le_of_ble_eq_true rfl)) dX9_move_21 ⟨Nat.le_of_ble_eq_true rfl, Nat.le_of_ble_eq_true rfl⟩) hP hD hS hA [0, 1, 2, 3] [4, 5, 6, 7] rfl rfl (by decide) (by decide) (fun r u H locs hw hp hd hs => ?_)
  obtain ⟨rfl, rfl⟩ := hw
  refine kz_re (w2 := [(x_refusals, .inl (ty 0, 7, .inl (fun _ => 0))), (x_state_tower, .inr (8, [.ref x_state_tower_rank, .ref x_state_tower_head, .int 0, .int 0, .int 0])), (x_state_tower_rank, .inl (ty 0, 6, .inl (fun _ => 0))), (x_state_tower_head, .inl (ty 0, 6, .inl (fun _ => 0))), (x, .inr (9, [.ref x_state, .ref x_images, .ref x_kept, .ref x_history, .ref x_drawnTower, .ref x_machine, .ref x_judge, .ref x_runner, .ref x_reader, .ref x_draft, .ref x_paper, .ref x_tape, .int 0, .int (-1), .int 0, .int (-1), .ref x_chances, .ref x_refusals, .int 0])), (x_state, .inr (6, [.ref x_state_tower, .int 1, .int 0, .int 0, .ref x_state_seenPlace, .ref x_state_seenRank, .int 0, .ref x_state_laws, .int 0, .int (-1)])), (x_judge, .inr (1, [.ref x_machine, .ref x_judge_words, .null])), (x_judge_words, .inl (ty 0, 9, .inl (upd (fun _ => 0) 8 0)))]) hp hd hs rfl ?_
  clear hp hd hs hP hD hS
  intro hP hD hS
  refine kz_ki (wc := [(x_state_tower, .inr (8, [.ref x_state_tower_rank, .ref x_state_tower_head, .int 0, .int 0, .int 0])), (x_state_tower_head, .inl (ty 0, 6, .inl (fun _ => 0)))]) (wr := [(x_refusals, .inl (ty 0, 7, .inl (fun _ => 0))), (x_state_tower_rank, .inl (ty 0, 6, .inl (fun _ => 0))), (x, .inr (9, [.ref x_state, .ref x_images, .ref x_kept, .ref x_history, .ref x_drawnTower, .ref x_machine, .ref x_judge, .ref x_runner, .ref x_reader, .ref x_draft, .ref x_paper, .ref x_tape, .int 0, .int (-1), .int 0, .int (-1), .ref x_chances, .ref x_refusals, .int 0])), (x_state, .inr (6, [.ref x_state_tower, .int 1, .int 0, .int 0, .ref x_state_seenPlace, .ref x_state_seenRank, .int 0, .ref x_state_laws, .int 0, .int (-1)])), (x_judge, .inr (1, [.ref x_machine, .ref x_judge_words, .null])), (x_judge_words, .inl (ty 0, 9, .inl (upd (fun _ => 0) 8 0)))]) (va_runV (As := [.int 1, .int a2, .ref x_judge]) (rest := []) ⟨hx, hb, hml, hown, hts⟩ (kX8_act_60 l D ty eo _ x_state_tower a2 x_judge x_state_tower_rank x_state_tower_head) (cwV 3 hts gX9_move_X8_act rfl rfl rfl (by decide +kernel) ⟨Nat.le_of_ble_eq_true rfl, Nat.le_of_ble_eq_true rfl⟩) (kz_preV (ci := 8) (q0 := 1) hK hN hE hP hD hS hA rfl rfl [1, 3] (by decide) rfl) rfl rfl hl.1 rfl (lv_room (Nat.le_of_ble_eq_true rfl)) dX9_move_24 ⟨Nat.le_of_ble_eq_true rfl, Nat.le_of_ble_eq_true rfl⟩) hP hD hS hA [1, 3] [0, 2, 4, 5, 6, 7] rfl rfl (by decide) (by decide) (fun r u H locs hw hp hd hs => ?_)
  rcases hw with ⟨c_1, rfl, rfl⟩ | ⟨c_2, c_3, c_4, c_5, rfl, rfl⟩ | ⟨c_6, c_7, rfl, rfl⟩
  · refine kz_re (w2 := [(x_refusals, .inl (ty 0, 7, .inl (fun _ => 0))), (x_state_tower_rank, .inl (ty 0, 6, .inl (fun _ => 0))), (x, .inr (9, [.ref x_state, .ref x_images, .ref x_kept, .ref x_history, .ref x_drawnTower, .ref x_machine, .ref x_judge, .ref x_runner, .ref x_reader, .ref x_draft, .ref x_paper, .ref x_tape, .int 0, .int (-1), .int 0, .int (-1), .ref x_chances, .ref x_refusals, .int 0])), (x_state, .inr (6, [.ref x_state_tower, .int 1, .int 0, .int 0, .ref x_state_seenPlace, .ref x_state_seenRank, .int 0, .ref x_state_laws, .int 0, .int (-1)])), (x_judge, .inr (1, [.ref x_machine, .ref x_judge_words, .null])), (x_judge_words, .inl (ty 0, 9, .inl (upd (fun _ => 0) 8 0))), (x_state_tower, .inr (8, [.ref x_state_tower_rank, .ref x_state_tower_head, .int 0, .int 0, .int 0])), (x_state_tower_head, .inl (ty 0, 6, .inl (fun _ => 0)))]) hp hd hs rfl ?_
    clear hp hd hs hP hD hS
    intro hP hD hS
    refine lv_istore (lv' := [(5, .int (-1)), (3, .long 0), (0, .ref x), (1, .int 1), (2, .int a2)]) hx hb dX9_move_27 hl (by decide) rfl (fun ls hl => ?_)
    refine lv_iload hx hb dX9_move_29 (lv_at hl 0 rfl) ?_
    refine lv_if_ge (tgt := 41) hx hb dX9_move_31 (by decide) (fun h => absurd h (by decide)) (fun _ => ?_)
    refine lv_aload_n hx hb dX9_move_34 rfl (lv_at hl 2 rfl) ?_
    refine lv_iload hx hb dX9_move_35 (lv_at hl 0 rfl) ?_
    refine kz_ki (wc := [(x, .inr (9, [.ref x_state, .ref x_images, .ref x_kept, .ref x_history, .ref x_drawnTower, .ref x_machine, .ref x_judge, .ref x_runner, .ref x_reader, .ref x_draft, .ref x_paper, .ref x_tape, .int 0, .int (-1), .int 0, .int (-1), .ref x_chances, .ref x_refusals, .int 0])), (x_refusals, .inl (ty 0, 7, .inl (fun _ => 0)))]) (wr := [(x_state_tower_rank, .inl (ty 0, 6, .inl (fun _ => 0))), (x_state, .inr (6, [.ref x_state_tower, .int 1, .int 0, .int 0, .ref x_state_seenPlace, .ref x_state_seenRank, .int 0, .ref x_state_laws, .int 0, .int (-1)])), (x_judge, .inr (1, [.ref x_machine, .ref x_judge_words, .null])), (x_judge_words, .inl (ty 0, 9, .inl (upd (fun _ => 0) 8 0))), (x_state_tower, .inr (8, [.ref x_state_tower_rank, .ref x_state_tower_head, .int 0, .int 0, .int 0])), (x_state_tower_head, .inl (ty 0, 6, .inl (fun _ => 0)))]) (va_runV (As := [.int (-1)]) (rest := []) ⟨hx, hb, hml, hown, hts⟩ (kX9_refuse_2 l D ty eo _ x x_state x_images x_kept x_history x_drawnTower x_machine x_judge x_runner x_reader x_draft x_paper x_tape x_chances x_refusals) (cwV 1 hts gX9_move_X9_refuse rfl rfl rfl (by decide +kernel) ⟨Nat.le_of_ble_eq_true rfl, Nat.le_of_ble_eq_true rfl⟩) (kz_preV (ci := 9) (q0 := 2) hK hN hE hP hD hS hA rfl rfl [2, 0] (by decide) rfl) rfl rfl hl.1 rfl (lv_room (Nat.le_of_ble_eq_true rfl)) dX9_move_37 ⟨Nat.le_of_ble_eq_true rfl, Nat.le_of_ble_eq_true rfl⟩) hP hD hS hA [2, 0] [1, 3, 4, 5, 6, 7] rfl rfl (by decide) (by decide) (fun r u H locs hw hp hd hs => ?_)
    obtain ⟨rfl, rfl⟩ := hw
    refine kz_re (w2 := [(x_state_tower_rank, .inl (ty 0, 6, .inl (fun _ => 0))), (x_state, .inr (6, [.ref x_state_tower, .int 1, .int 0, .int 0, .ref x_state_seenPlace, .ref x_state_seenRank, .int 0, .ref x_state_laws, .int 0, .int (-1)])), (x_judge, .inr (1, [.ref x_machine, .ref x_judge_words, .null])), (x_judge_words, .inl (ty 0, 9, .inl (upd (fun _ => 0) 8 0))), (x_state_tower, .inr (8, [.ref x_state_tower_rank, .ref x_state_tower_head, .int 0, .int 0, .int 0])), (x_state_tower_head, .inl (ty 0, 6, .inl (fun _ => 0))), (x, .inr (9, [.ref x_state, .ref x_images, .ref x_kept, .ref x_history, .ref x_drawnTower, .ref x_machine, .ref x_judge, .ref x_runner, .ref x_reader, .ref x_draft, .ref x_paper, .ref x_tape, .int 0, .int (-1), .int 0, .int (-1), .ref x_chances, .ref x_refusals, .int (-1)])), (x_refusals, .inl (ty 0, 7, .inl (upd (fun _ => 0) 1 1)))]) hp hd hs rfl ?_
    clear hp hd hs hP hD hS
    intro hP hD hS
    exact kz_iret hx hb hr hlocks hP hK hD hS dX9_move_40 (Or.inl ⟨c_1, rfl, rfl⟩)
  · refine kz_re (w2 := [(x_refusals, .inl (ty 0, 7, .inl (fun _ => 0))), (x_state_tower_rank, .inl (ty 0, 6, .inl (fun _ => 0))), (x, .inr (9, [.ref x_state, .ref x_images, .ref x_kept, .ref x_history, .ref x_drawnTower, .ref x_machine, .ref x_judge, .ref x_runner, .ref x_reader, .ref x_draft, .ref x_paper, .ref x_tape, .int 0, .int (-1), .int 0, .int (-1), .ref x_chances, .ref x_refusals, .int 0])), (x_state, .inr (6, [.ref x_state_tower, .int 1, .int 0, .int 0, .ref x_state_seenPlace, .ref x_state_seenRank, .int 0, .ref x_state_laws, .int 0, .int (-1)])), (x_judge, .inr (1, [.ref x_machine, .ref x_judge_words, .null])), (x_judge_words, .inl (ty 0, 9, .inl (upd (fun _ => 0) 8 0))), (x_state_tower_head, .inl (ty 0, 6, .inl (fun _ => 0))), (x_state_tower, .inr (8, [.ref x_state_tower_rank, .ref x_state_tower_head, .int 0, .int 0, .int 0]))]) hp hd hs rfl ?_
    clear hp hd hs hP hD hS
    intro hP hD hS
    refine lv_istore (lv' := [(5, .int (-3)), (3, .long 0), (0, .ref x), (1, .int 1), (2, .int a2)]) hx hb dX9_move_27 hl (by decide) rfl (fun ls hl => ?_)
    refine lv_iload hx hb dX9_move_29 (lv_at hl 0 rfl) ?_
    refine lv_if_ge (tgt := 41) hx hb dX9_move_31 (by decide) (fun h => absurd h (by decide)) (fun _ => ?_)
    refine lv_aload_n hx hb dX9_move_34 rfl (lv_at hl 2 rfl) ?_
    refine lv_iload hx hb dX9_move_35 (lv_at hl 0 rfl) ?_
    refine kz_ki (wc := [(x, .inr (9, [.ref x_state, .ref x_images, .ref x_kept, .ref x_history, .ref x_drawnTower, .ref x_machine, .ref x_judge, .ref x_runner, .ref x_reader, .ref x_draft, .ref x_paper, .ref x_tape, .int 0, .int (-1), .int 0, .int (-1), .ref x_chances, .ref x_refusals, .int 0])), (x_refusals, .inl (ty 0, 7, .inl (fun _ => 0)))]) (wr := [(x_state_tower_rank, .inl (ty 0, 6, .inl (fun _ => 0))), (x_state, .inr (6, [.ref x_state_tower, .int 1, .int 0, .int 0, .ref x_state_seenPlace, .ref x_state_seenRank, .int 0, .ref x_state_laws, .int 0, .int (-1)])), (x_judge, .inr (1, [.ref x_machine, .ref x_judge_words, .null])), (x_judge_words, .inl (ty 0, 9, .inl (upd (fun _ => 0) 8 0))), (x_state_tower_head, .inl (ty 0, 6, .inl (fun _ => 0))), (x_state_tower, .inr (8, [.ref x_state_tower_rank, .ref x_state_tower_head, .int 0, .int 0, .int 0]))]) (va_runV (As := [.int (-3)]) (rest := []) ⟨hx, hb, hml, hown, hts⟩ (kX9_refuse_58 l D ty eo _ x x_state x_images x_kept x_history x_drawnTower x_machine x_judge x_runner x_reader x_draft x_paper x_tape x_chances x_refusals) (cwV 1 hts gX9_move_X9_refuse rfl rfl rfl (by decide +kernel) ⟨Nat.le_of_ble_eq_true rfl, Nat.le_of_ble_eq_true rfl⟩) (kz_preV (ci := 9) (q0 := 2) hK hN hE hP hD hS hA rfl rfl [2, 0] (by decide) rfl) rfl rfl hl.1 rfl (lv_room (Nat.le_of_ble_eq_true rfl)) dX9_move_37 ⟨Nat.le_of_ble_eq_true rfl, Nat.le_of_ble_eq_true rfl⟩) hP hD hS hA [2, 0] [1, 3, 4, 5, 6, 7] rfl rfl (by decide) (by decide) (fun r u H locs hw hp hd hs => ?_)
    obtain ⟨rfl, rfl⟩ := hw
    refine kz_re (w2 := [(x_state_tower_rank, .inl (ty 0, 6, .inl (fun _ => 0))), (x_state, .inr (6, [.ref x_state_tower, .int 1, .int 0, .int 0, .ref x_state_seenPlace, .ref x_state_seenRank, .int 0, .ref x_state_laws, .int 0, .int (-1)])), (x_judge, .inr (1, [.ref x_machine, .ref x_judge_words, .null])), (x_judge_words, .inl (ty 0, 9, .inl (upd (fun _ => 0) 8 0))), (x_state_tower_head, .inl (ty 0, 6, .inl (fun _ => 0))), (x_state_tower, .inr (8, [.ref x_state_tower_rank, .ref x_state_tower_head, .int 0, .int 0, .int 0])), (x, .inr (9, [.ref x_state, .ref x_images, .ref x_kept, .ref x_history, .ref x_drawnTower, .ref x_machine, .ref x_judge, .ref x_runner, .ref x_reader, .ref x_draft, .ref x_paper, .ref x_tape, .int 0, .int (-1), .int 0, .int (-1), .ref x_chances, .ref x_refusals, .int (-3)])), (x_refusals, .inl (ty 0, 7, .inl (upd (fun _ => 0) 3 1)))]) hp hd hs rfl ?_
    clear hp hd hs hP hD hS
    intro hP hD hS
    exact kz_iret hx hb hr hlocks hP hK hD hS dX9_move_40 (Or.inr (Or.inl ⟨c_2, c_3, c_4, c_5, rfl, rfl⟩))
  · refine kz_re (w2 := [(x_refusals, .inl (ty 0, 7, .inl (fun _ => 0))), (x_state_tower_rank, .inl (ty 0, 6, .inl (fun _ => 0))), (x, .inr (9, [.ref x_state, .ref x_images, .ref x_kept, .ref x_history, .ref x_drawnTower, .ref x_machine, .ref x_judge, .ref x_runner, .ref x_reader, .ref x_draft, .ref x_paper, .ref x_tape, .int 0, .int (-1), .int 0, .int (-1), .ref x_chances, .ref x_refusals, .int 0])), (x_state, .inr (6, [.ref x_state_tower, .int 1, .int 0, .int 0, .ref x_state_seenPlace, .ref x_state_seenRank, .int 0, .ref x_state_laws, .int 0, .int (-1)])), (x_judge, .inr (1, [.ref x_machine, .ref x_judge_words, .null])), (x_judge_words, .inl (ty 0, 9, .inl (upd (fun _ => 0) 8 0))), (x_state_tower, .inr (8, [.ref x_state_tower_rank, .ref x_state_tower_head, .int 0, .int 0, .int 0])), (x_state_tower_head, .inl (ty 0, 6, .inl (fun _ => 0)))]) hp hd hs rfl ?_
    clear hp hd hs hP hD hS
    intro hP hD hS
    refine lv_istore (lv' := [(5, .int (-1)), (3, .long 0), (0, .ref x), (1, .int 1), (2, .int a2)]) hx hb dX9_move_27 hl (by decide) rfl (fun ls hl => ?_)
    refine lv_iload hx hb dX9_move_29 (lv_at hl 0 rfl) ?_
    refine lv_if_ge (tgt := 41) hx hb dX9_move_31 (by decide) (fun h => absurd h (by decide)) (fun _ => ?_)
    refine lv_aload_n hx hb dX9_move_34 rfl (lv_at hl 2 rfl) ?_
    refine lv_iload hx hb dX9_move_35 (lv_at hl 0 rfl) ?_
    refine kz_ki (wc := [(x, .inr (9, [.ref x_state, .ref x_images, .ref x_kept, .ref x_history, .ref x_drawnTower, .ref x_machine, .ref x_judge, .ref x_runner, .ref x_reader, .ref x_draft, .ref x_paper, .ref x_tape, .int 0, .int (-1), .int 0, .int (-1), .ref x_chances, .ref x_refusals, .int 0])), (x_refusals, .inl (ty 0, 7, .inl (fun _ => 0)))]) (wr := [(x_state_tower_rank, .inl (ty 0, 6, .inl (fun _ => 0))), (x_state, .inr (6, [.ref x_state_tower, .int 1, .int 0, .int 0, .ref x_state_seenPlace, .ref x_state_seenRank, .int 0, .ref x_state_laws, .int 0, .int (-1)])), (x_judge, .inr (1, [.ref x_machine, .ref x_judge_words, .null])), (x_judge_words, .inl (ty 0, 9, .inl (upd (fun _ => 0) 8 0))), (x_state_tower, .inr (8, [.ref x_state_tower_rank, .ref x_state_tower_head, .int 0, .int 0, .int 0])), (x_state_tower_head, .inl (ty 0, 6, .inl (fun _ => 0)))]) (va_runV (As := [.int (-1)]) (rest := []) ⟨hx, hb, hml, hown, hts⟩ (kX9_refuse_2 l D ty eo _ x x_state x_images x_kept x_history x_drawnTower x_machine x_judge x_runner x_reader x_draft x_paper x_tape x_chances x_refusals) (cwV 1 hts gX9_move_X9_refuse rfl rfl rfl (by decide +kernel) ⟨Nat.le_of_ble_eq_true rfl, Nat.le_of_ble_eq_true rfl⟩) (kz_preV (ci := 9) (q0 := 2) hK hN hE hP hD hS hA rfl rfl [2, 0] (by decide) rfl) rfl rfl hl.1 rfl (lv_room (Nat.le_of_ble_eq_true rfl)) dX9_move_37 ⟨Nat.le_of_ble_eq_true rfl, Nat.le_of_ble_eq_true rfl⟩) hP hD hS hA [2, 0] [1, 3, 4, 5, 6, 7] rfl rfl (by decide) (by decide) (fun r u H locs hw hp hd hs => ?_)
    obtain ⟨rfl, rfl⟩ := hw
    refine kz_re (w2 := [(x_state_tower_rank, .inl (ty 0, 6, .inl (fun _ => 0))), (x_state, .inr (6, [.ref x_state_tower, .int 1, .int 0, .int 0, .ref x_state_seenPlace, .ref x_state_seenRank, .int 0, .ref x_state_laws, .int 0, .int (-1)])), (x_judge, .inr (1, [.ref x_machine, .ref x_judge_words, .null])), (x_judge_words, .inl (ty 0, 9, .inl (upd (fun _ => 0) 8 0))), (x_state_tower, .inr (8, [.ref x_state_tower_rank, .ref x_state_tower_head, .int 0, .int 0, .int 0])), (x_state_tower_head, .inl (ty 0, 6, .inl (fun _ => 0))), (x, .inr (9, [.ref x_state, .ref x_images, .ref x_kept, .ref x_history, .ref x_drawnTower, .ref x_machine, .ref x_judge, .ref x_runner, .ref x_reader, .ref x_draft, .ref x_paper, .ref x_tape, .int 0, .int (-1), .int 0, .int (-1), .ref x_chances, .ref x_refusals, .int (-1)])), (x_refusals, .inl (ty 0, 7, .inl (upd (fun _ => 0) 1 1)))]) hp hd hs rfl ?_
    clear hp hd hs hP hD hS
    intro hP hD hS
    exact kz_iret hx hb hr hlocks hP hK hD hS dX9_move_40 (Or.inr (Or.inr ⟨c_6, c_7, rfl, rfl⟩))

set_option maxHeartbeats 4000000 in
set_option maxRecDepth 100000 in
theorem fX9_right (l : Launch) (D : va_G) (ty : Nat → ClassId) (eo : Nat → Nat) (sz : Nat) (x : Nat) (p1 : Int32) (x_state x_images x_kept x_history x_drawnTower x_machine x_judge x_runner x_reader x_draft x_paper x_tape x_chances x_refusals x_state_tower x_state_seenPlace x_state_seenRank x_state_laws x_state_tower_rank x_state_tower_head x_judge_words : Nat) : Met l yX9_right wsX9_right ({ frames := 4, cells := 0, slots := 0, locals := 90 }) (va_Pc [.ref x, .int p1] (kz_pre D ty eo [(x, .inr (9, [.ref x_state, .ref x_images, .ref x_kept, .ref x_history, .ref x_drawnTower, .ref x_machine, .ref x_judge, .ref x_runner, .ref x_reader, .ref x_draft, .ref x_paper, .ref x_tape, .int 0, .int (-1), .int 0, .int (-1), .ref x_chances, .ref x_refusals, .int 0])), (x_state, .inr (6, [.ref x_state_tower, .int 1, .int 0, .int 0, .ref x_state_seenPlace, .ref x_state_seenRank, .int 0, .ref x_state_laws, .int 0, .int (-1)])), (x_state_tower, .inr (8, [.ref x_state_tower_rank, .ref x_state_tower_head, .int 0, .int 0, .int 0])), (x_state_tower_rank, .inl (ty 0, 6, .inl (fun _ => 0))), (x_state_tower_head, .inl (ty 0, 6, .inl (fun _ => 0))), (x_judge, .inr (1, [.ref x_machine, .ref x_judge_words, .null])), (x_judge_words, .inl (ty 0, 9, .inl (fun _ => 0))), (x_refusals, .inl (ty 0, 7, .inl (fun _ => 0)))] sz)) (va_Qi (fun (r : Int32) (u : va_W) => (p1 < 0 ∧ (-1) = r ∧ [(x_state_tower_rank, .inl (ty 0, 6, .inl (fun _ => 0))), (x_state, .inr (6, [.ref x_state_tower, .int 1, .int 0, .int 0, .ref x_state_seenPlace, .ref x_state_seenRank, .int 0, .ref x_state_laws, .int 0, .int (-1)])), (x_judge, .inr (1, [.ref x_machine, .ref x_judge_words, .null])), (x_judge_words, .inl (ty 0, 9, .inl (upd (fun _ => 0) 8 0))), (x_state_tower, .inr (8, [.ref x_state_tower_rank, .ref x_state_tower_head, .int 0, .int 0, .int 0])), (x_state_tower_head, .inl (ty 0, 6, .inl (fun _ => 0))), (x, .inr (9, [.ref x_state, .ref x_images, .ref x_kept, .ref x_history, .ref x_drawnTower, .ref x_machine, .ref x_judge, .ref x_runner, .ref x_reader, .ref x_draft, .ref x_paper, .ref x_tape, .int 0, .int (-1), .int 0, .int (-1), .ref x_chances, .ref x_refusals, .int (-1)])), (x_refusals, .inl (ty 0, 7, .inl (upd (fun _ => 0) 1 1)))] = u) ∨ (¬ p1 < 0 ∧ p1 < 6 ∧ ¬ p1 < 0 ∧ 0 ≤ p1 ∧ (-3) = r ∧ [(x_state_tower_rank, .inl (ty 0, 6, .inl (fun _ => 0))), (x_state, .inr (6, [.ref x_state_tower, .int 1, .int 0, .int 0, .ref x_state_seenPlace, .ref x_state_seenRank, .int 0, .ref x_state_laws, .int 0, .int (-1)])), (x_judge, .inr (1, [.ref x_machine, .ref x_judge_words, .null])), (x_judge_words, .inl (ty 0, 9, .inl (upd (fun _ => 0) 8 0))), (x_state_tower_head, .inl (ty 0, 6, .inl (fun _ => 0))), (x_state_tower, .inr (8, [.ref x_state_tower_rank, .ref x_state_tower_head, .int 0, .int 0, .int 0])), (x, .inr (9, [.ref x_state, .ref x_images, .ref x_kept, .ref x_history, .ref x_drawnTower, .ref x_machine, .ref x_judge, .ref x_runner, .ref x_reader, .ref x_draft, .ref x_paper, .ref x_tape, .int 0, .int (-1), .int 0, .int (-1), .ref x_chances, .ref x_refusals, .int (-3)])), (x_refusals, .inl (ty 0, 7, .inl (upd (fun _ => 0) 3 1)))] = u) ∨ (¬ p1 < 0 ∧ ¬ p1 < 6 ∧ (-1) = r ∧ [(x_state_tower_rank, .inl (ty 0, 6, .inl (fun _ => 0))), (x_state, .inr (6, [.ref x_state_tower, .int 1, .int 0, .int 0, .ref x_state_seenPlace, .ref x_state_seenRank, .int 0, .ref x_state_laws, .int 0, .int (-1)])), (x_judge, .inr (1, [.ref x_machine, .ref x_judge_words, .null])), (x_judge_words, .inl (ty 0, 9, .inl (upd (fun _ => 0) 8 0))), (x_state_tower, .inr (8, [.ref x_state_tower_rank, .ref x_state_tower_head, .int 0, .int 0, .int 0])), (x_state_tower_head, .inl (ty 0, 6, .inl (fun _ => 0))), (x, .inr (9, [.ref x_state, .ref x_images, .ref x_kept, .ref x_history, .ref x_drawnTower, .ref x_machine, .ref x_judge, .ref x_runner, .ref x_reader, .ref x_draft, .ref x_paper, .ref x_tape, .int 0, .int (-1), .int 0, .int (-1), .ref x_chances, .ref x_refusals, .int (-1)])), (x_refusals, .inl (ty 0, 7, .inl (upd (fun _ => 0) 1 1)))] = u)) (kz_B D ty (va_A [(x, .inr (9, [.ref x_state, .ref x_images, .ref x_kept, .ref x_history, .ref x_drawnTower, .ref x_machine, .ref x_judge, .ref x_runner, .ref x_reader, .ref x_draft, .ref x_paper, .ref x_tape, .int 0, .int (-1), .int 0, .int (-1), .ref x_chances, .ref x_refusals, .int 0])), (x_state, .inr (6, [.ref x_state_tower, .int 1, .int 0, .int 0, .ref x_state_seenPlace, .ref x_state_seenRank, .int 0, .ref x_state_laws, .int 0, .int (-1)])), (x_state_tower, .inr (8, [.ref x_state_tower_rank, .ref x_state_tower_head, .int 0, .int 0, .int 0])), (x_state_tower_rank, .inl (ty 0, 6, .inl (fun _ => 0))), (x_state_tower_head, .inl (ty 0, 6, .inl (fun _ => 0))), (x_judge, .inr (1, [.ref x_machine, .ref x_judge_words, .null])), (x_judge_words, .inl (ty 0, 9, .inl (fun _ => 0))), (x_refusals, .inl (ty 0, 7, .inl (fun _ => 0)))] sz)) (va_A [(x, .inr (9, [.ref x_state, .ref x_images, .ref x_kept, .ref x_history, .ref x_drawnTower, .ref x_machine, .ref x_judge, .ref x_runner, .ref x_reader, .ref x_draft, .ref x_paper, .ref x_tape, .int 0, .int (-1), .int 0, .int (-1), .ref x_chances, .ref x_refusals, .int 0])), (x_state, .inr (6, [.ref x_state_tower, .int 1, .int 0, .int 0, .ref x_state_seenPlace, .ref x_state_seenRank, .int 0, .ref x_state_laws, .int 0, .int (-1)])), (x_state_tower, .inr (8, [.ref x_state_tower_rank, .ref x_state_tower_head, .int 0, .int 0, .int 0])), (x_state_tower_rank, .inl (ty 0, 6, .inl (fun _ => 0))), (x_state_tower_head, .inl (ty 0, 6, .inl (fun _ => 0))), (x_judge, .inr (1, [.ref x_machine, .ref x_judge_words, .null])), (x_judge_words, .inl (ty 0, 9, .inl (fun _ => 0))), (x_refusals, .inl (ty 0, 7, .inl (fun _ => 0)))] sz)) 0 0 (va_A [(x, .inr (9, [.ref x_state, .ref x_images, .ref x_kept, .ref x_history, .ref x_drawnTower, .ref x_machine, .ref x_judge, .ref x_runner, .ref x_reader, .ref x_draft, .ref x_paper, .ref x_tape, .int 0, .int (-1), .int 0, .int (-1), .ref x_chances, .ref x_refusals, .int 0])), (x_state, .inr (6, [.ref x_state_tower, .int 1, .int 0, .int 0, .ref x_state_seenPlace, .ref x_state_seenRank, .int 0, .ref x_state_laws, .int 0, .int (-1)])), (x_state_tower, .inr (8, [.ref x_state_tower_rank, .ref x_state_tower_head, .int 0, .int 0, .int 0])), (x_state_tower_rank, .inl (ty 0, 6, .inl (fun _ => 0))), (x_state_tower_head, .inl (ty 0, 6, .inl (fun _ => 0))), (x_judge, .inr (1, [.ref x_machine, .ref x_judge_words, .null])), (x_judge_words, .inl (ty 0, 9, .inl (fun _ => 0))), (x_refusals, .inl (ty 0, 7, .inl (fun _ => 0)))] sz) := by
  refine Met.ofW (cc := cX9_right) (maxL := 2) (ret := (some .int)) (by decide) rfl ?_
  intro p e s m args below meth c s₁ B hml hv
  obtain ⟨rfl, hsz, hP, hK, hD0, hN, hE⟩ := hv
  have hx := B.exec
  have hb := B.bytes
  have hr := B.returns
  have hts := atoms_spec (ws := wsX9_right) B.pre
  have hown : s.vm.findClass RX9 = some m.cls := findClass_of_methodNamed B.named
  have hlocks := B.notSynchronized
  subst hsz
  have hD := hD0.self (sz := s.heap.size)
  generalize hAe : va_A [(x, .inr (9, [.ref x_state, .ref x_images, .ref x_kept, .ref x_history, .ref x_drawnTower, .ref x_machine, .ref x_judge, .ref x_runner, .ref x_reader, .ref x_draft, .ref x_paper, .ref x_tape, .int 0, .int (-1), .int 0, .int (-1), .ref x_chances, .ref x_refusals, .int 0])), (x_state, .inr (6, [.ref x_state_tower, .int 1, .int 0, .int 0, .ref x_state_seenPlace, .ref x_state_seenRank, .int 0, .ref x_state_laws, .int 0, .int (-1)])), (x_state_tower, .inr (8, [.ref x_state_tower_rank, .ref x_state_tower_head, .int 0, .int 0, .int 0])), (x_state_tower_rank, .inl (ty 0, 6, .inl (fun _ => 0))), (x_state_tower_head, .inl (ty 0, 6, .inl (fun _ => 0))), (x_judge, .inr (1, [.ref x_machine, .ref x_judge_words, .null])), (x_judge_words, .inl (ty 0, 9, .inl (fun _ => 0))), (x_refusals, .inl (ty 0, 7, .inl (fun _ => 0)))] s.heap.size = A at hD hE ⊢
  have hA : ∀ q : Nat, s.heap.size ≤ q → A q := fun q h => by rw [← hAe]; exact Or.inr h
  have hS : va_S A s.heap s.heap [] := va_S.rf
  have hl := lv_entry ([.ref x, .int p1]) (n := 2) (Nat.le_of_ble_eq_true rfl)
  rw [lg_entry_eq]
  generalize (lg_sl ([.ref x, .int p1]) ++ List.replicate (2 - (lg_sl ([.ref x, .int p1])).length) Slot.unset).toArray = ls at hl ⊢
  have hl : lv_has ls 2 [(0, .ref x), (1, .int p1)] := hl
  refine lv_aload_n hx hb dX9_right_0 rfl (lv_at hl 0 rfl) ?_
  refine lv_iconst (v := 1) hx hb dX9_right_1 (by decide) ?_
  refine lv_iload_n hx hb dX9_right_2 rfl (lv_at hl 1 rfl) ?_
  refine kz_ki (wc := [(x, .inr (9, [.ref x_state, .ref x_images, .ref x_kept, .ref x_history, .ref x_drawnTower, .ref x_machine, .ref x_judge, .ref x_runner, .ref x_reader, .ref x_draft, .ref x_paper, .ref x_tape, .int 0, .int (-1), .int 0, .int (-1), .ref x_chances, .ref x_refusals, .int 0])), (x_state, .inr (6, [.ref x_state_tower, .int 1, .int 0, .int 0, .ref x_state_seenPlace, .ref x_state_seenRank, .int 0, .ref x_state_laws, .int 0, .int (-1)])), (x_state_tower, .inr (8, [.ref x_state_tower_rank, .ref x_state_tower_head, .int 0, .int 0, .int 0])), (x_state_tower_rank, .inl (ty 0, 6, .inl (fun _ => 0))), (x_state_tower_head, .inl (ty 0, 6, .inl (fun _ => 0))), (x_judge, .inr (1, [.ref x_machine, .ref x_judge_words, .null])), (x_judge_words, .inl (ty 0, 9, .inl (fun _ => 0))), (x_refusals, .inl (ty 0, 7, .inl (fun _ => 0)))]) (wr := []) (va_runV (As := [.int 1, .int p1]) (rest := []) ⟨hx, hb, hml, hown, hts⟩ (kX9_move_59 l D ty eo _ x p1 x_state x_images x_kept x_history x_drawnTower x_machine x_judge x_runner x_reader x_draft x_paper x_tape x_chances x_refusals x_state_tower x_state_seenPlace x_state_seenRank x_state_laws x_state_tower_rank x_state_tower_head x_judge_words) (cwV 2 hts gX9_right_X9_move rfl rfl rfl (by decide +kernel) ⟨Nat.le_of_ble_eq_true rfl, Nat.le_of_ble_eq_true rfl⟩) (kz_preV (ci := 9) (q0 := 0) hK hN hE hP hD hS hA rfl rfl [0, 1, 2, 3, 4, 5, 6, 7] (by decide) rfl) rfl rfl hl.1 rfl (lv_room (Nat.le_of_ble_eq_true rfl)) dX9_right_3 ⟨Nat.le_of_ble_eq_true rfl, Nat.le_of_ble_eq_true rfl⟩) hP hD hS hA [0, 1, 2, 3, 4, 5, 6, 7] [] rfl rfl (by decide) (by decide) (fun r u H locs hw hp hd hs => ?_)
  rcases hw with ⟨c_1, rfl, rfl⟩ | ⟨c_2, c_3, c_4, c_5, rfl, rfl⟩ | ⟨c_6, c_7, rfl, rfl⟩
  · refine kz_re (w2 := [(x_state_tower_rank, .inl (ty 0, 6, .inl (fun _ => 0))), (x_state, .inr (6, [.ref x_state_tower, .int 1, .int 0, .int 0, .ref x_state_seenPlace, .ref x_state_seenRank, .int 0, .ref x_state_laws, .int 0, .int (-1)])), (x_judge, .inr (1, [.ref x_machine, .ref x_judge_words, .null])), (x_judge_words, .inl (ty 0, 9, .inl (upd (fun _ => 0) 8 0))), (x_state_tower, .inr (8, [.ref x_state_tower_rank, .ref x_state_tower_head, .int 0, .int 0, .int 0])), (x_state_tower_head, .inl (ty 0, 6, .inl (fun _ => 0))), (x, .inr (9, [.ref x_state, .ref x_images, .ref x_kept, .ref x_history, .ref x_drawnTower, .ref x_machine, .ref x_judge, .ref x_runner, .ref x_reader, .ref x_draft, .ref x_paper, .ref x_tape, .int 0, .int (-1), .int 0, .int (-1), .ref x_chances, .ref x_refusals, .int (-1)])), (x_refusals, .inl (ty 0, 7, .inl (upd (fun _ => 0) 1 1)))]) hp hd hs rfl ?_
    clear hp hd hs hP hD hS
    intro hP hD hS
    exact kz_iret hx hb hr hlocks hP hK hD hS dX9_right_6 (Or.inl ⟨c_1, rfl, rfl⟩)
  · refine kz_re (w2 := [(x_state_tower_rank, .inl (ty 0, 6, .inl (fun _ => 0))), (x_state, .inr (6, [.ref x_state_tower, .int 1, .int 0, .int 0, .ref x_state_seenPlace, .ref x_state_seenRank, .int 0, .ref x_state_laws, .int 0, .int (-1)])), (x_judge, .inr (1, [.ref x_machine, .ref x_judge_words, .null])), (x_judge_words, .inl (ty 0, 9, .inl (upd (fun _ => 0) 8 0))), (x_state_tower_head, .inl (ty 0, 6, .inl (fun _ => 0))), (x_state_tower, .inr (8, [.ref x_state_tower_rank, .ref x_state_tower_head, .int 0, .int 0, .int 0])), (x, .inr (9, [.ref x_state, .ref x_images, .ref x_kept, .ref x_history, .ref x_drawnTower, .ref x_machine, .ref x_judge, .ref x_runner, .ref x_reader, .ref x_draft, .ref x_paper, .ref x_tape, .int 0, .int (-1), .int 0, .int (-1), .ref x_chances, .ref x_refusals, .int (-3)])), (x_refusals, .inl (ty 0, 7, .inl (upd (fun _ => 0) 3 1)))]) hp hd hs rfl ?_
    clear hp hd hs hP hD hS
    intro hP hD hS
    exact kz_iret hx hb hr hlocks hP hK hD hS dX9_right_6 (Or.inr (Or.inl ⟨c_2, c_3, c_4, c_5, rfl, rfl⟩))
  · refine kz_re (w2 := [(x_state_tower_rank, .inl (ty 0, 6, .inl (fun _ => 0))), (x_state, .inr (6, [.ref x_state_tower, .int 1, .int 0, .int 0, .ref x_state_seenPlace, .ref x_state_seenRank, .int 0, .ref x_state_laws, .int 0, .int (-1)])), (x_judge, .inr (1, [.ref x_machine, .ref x_judge_words, .null])), (x_judge_words, .inl (ty 0, 9, .inl (upd (fun _ => 0) 8 0))), (x_state_tower, .inr (8, [.ref x_state_tower_rank, .ref x_state_tower_head, .int 0, .int 0, .int 0])), (x_state_tower_head, .inl (ty 0, 6, .inl (fun _ => 0))), (x, .inr (9, [.ref x_state, .ref x_images, .ref x_kept, .ref x_history, .ref x_drawnTower, .ref x_machine, .ref x_judge, .ref x_runner, .ref x_reader, .ref x_draft, .ref x_paper, .ref x_tape, .int 0, .int (-1), .int 0, .int (-1), .ref x_chances, .ref x_refusals, .int (-1)])), (x_refusals, .inl (ty 0, 7, .inl (upd (fun _ => 0) 1 1)))]) hp hd hs rfl ?_
    clear hp hd hs hP hD hS
    intro hP hD hS
    exact kz_iret hx hb hr hlocks hP hK hD hS dX9_right_6 (Or.inr (Or.inr ⟨c_6, c_7, rfl, rfl⟩))

set_option maxHeartbeats 4000000 in
set_option maxRecDepth 100000 in
theorem kX8_swapAt_64 (l : Launch) (D : va_G) (ty : Nat → ClassId) (eo : Nat → Nat) (sz : Nat) (x_state_tower : Nat) (a1 : Int32) (x_state_tower_rank x_state_tower_head : Nat) : Met l yX8_swapAt wsX8_swapAt ({ frames := 1, cells := 0, slots := 0, locals := 21 }) (va_Pc [.ref x_state_tower, .int a1] (kz_pre D ty eo [(x_state_tower, .inr (8, [.ref x_state_tower_rank, .ref x_state_tower_head, .int 0, .int 0, .int 0]))] sz)) (va_Qi (fun (r : Int32) (u : va_W) => (a1 < 0 ∧ (-1) = r ∧ [(x_state_tower, .inr (8, [.ref x_state_tower_rank, .ref x_state_tower_head, .int 0, .int 0, .int 0]))] = u) ∨ (¬ a1 < 0 ∧ a1 < 5 ∧ (a1 + 1) < 0 ∧ (-3) = r ∧ [(x_state_tower, .inr (8, [.ref x_state_tower_rank, .ref x_state_tower_head, .int 0, .int 0, .int 0]))] = u) ∨ (¬ a1 < 0 ∧ a1 < 5 ∧ ¬ (a1 + 1) < 0 ∧ 0 ≤ (a1 + 1) ∧ (-3) = r ∧ [(x_state_tower, .inr (8, [.ref x_state_tower_rank, .ref x_state_tower_head, .int 0, .int 0, .int 0]))] = u) ∨ (¬ a1 < 0 ∧ ¬ a1 < 5 ∧ (-1) = r ∧ [(x_state_tower, .inr (8, [.ref x_state_tower_rank, .ref x_state_tower_head, .int 0, .int 0, .int 0]))] = u)) (kz_B D ty (va_A [(x_state_tower, .inr (8, [.ref x_state_tower_rank, .ref x_state_tower_head, .int 0, .int 0, .int 0]))] sz)) (va_A [(x_state_tower, .inr (8, [.ref x_state_tower_rank, .ref x_state_tower_head, .int 0, .int 0, .int 0]))] sz)) 0 0 (va_A [(x_state_tower, .inr (8, [.ref x_state_tower_rank, .ref x_state_tower_head, .int 0, .int 0, .int 0]))] sz) := by
  refine Met.ofW (cc := cX8_swapAt) (maxL := 2) (ret := (some .int)) (by decide) rfl ?_
  intro p e s m args below meth c s₁ B hml hv
  obtain ⟨rfl, hsz, hP, hK, hD0, hN, hE⟩ := hv
  have hx := B.exec
  have hb := B.bytes
  have hr := B.returns
  have hts := atoms_spec (ws := wsX8_swapAt) B.pre
  have hown : s.vm.findClass RX8 = some m.cls := findClass_of_methodNamed B.named
  have hlocks := B.notSynchronized
  subst hsz
  have hD := hD0.self (sz := s.heap.size)
  generalize hAe : va_A [(x_state_tower, .inr (8, [.ref x_state_tower_rank, .ref x_state_tower_head, .int 0, .int 0, .int 0]))] s.heap.size = A at hD hE ⊢
  have hA : ∀ q : Nat, s.heap.size ≤ q → A q := fun q h => by rw [← hAe]; exact Or.inr h
  have hS : va_S A s.heap s.heap [] := va_S.rf
  have hl := lv_entry ([.ref x_state_tower, .int a1]) (n := 2) (Nat.le_of_ble_eq_true rfl)
  rw [lg_entry_eq]
  generalize (lg_sl ([.ref x_state_tower, .int a1]) ++ List.replicate (2 - (lg_sl ([.ref x_state_tower, .int a1])).length) Slot.unset).toArray = ls at hl ⊢
  have hl : lv_has ls 2 [(0, .ref x_state_tower), (1, .int a1)] := hl
  refine lv_iload_n hx hb dX8_swapAt_0 rfl (lv_at hl 1 rfl) ?_
  refine lv_if_lt (tgt := 9) hx hb dX8_swapAt_1 (by decide) (fun c_1 => ?_) (fun c_1 => ?_)
  · refine lv_iconst (v := (-1)) hx hb dX8_swapAt_9 (by decide) ?_
    exact kz_iret hx hb hr hlocks hP hK hD hS dX8_swapAt_10 (Or.inl ⟨c_1, rfl, rfl⟩)
  · refine lv_iload_n hx hb dX8_swapAt_4 rfl (lv_at hl 1 rfl) ?_
    refine lv_iconst (v := 5) hx hb dX8_swapAt_5 (by decide) ?_
    refine lv_icmp_lt (tgt := 11) hx hb dX8_swapAt_6 (by decide) (fun c_2 => ?_) (fun c_2 => ?_)
    · refine lv_aload_n hx hb dX8_swapAt_11 rfl (lv_at hl 0 rfl) ?_
      refine lv_iload_n hx hb dX8_swapAt_12 rfl (lv_at hl 1 rfl) ?_
      refine lv_iconst (v := 1) hx hb dX8_swapAt_13 (by decide) ?_
      refine lv_iadd hx hb dX8_swapAt_14 ?_
      refine kz_ki (wc := [(x_state_tower, .inr (8, [.ref x_state_tower_rank, .ref x_state_tower_head, .int 0, .int 0, .int 0]))]) (wr := []) (va_runV (As := [.int (a1 + 1)]) (rest := []) ⟨hx, hb, hml, hown, hts⟩ (kcX8_isFloor l D ty eo _ x_state_tower (.ref x_state_tower_rank) (.ref x_state_tower_head) (.int 0) (.int 0) (a1 + 1) 0) (cwV 1 hts gX8_swapAt_X8_isFloor rfl rfl rfl (by decide +kernel) ⟨Nat.le_of_ble_eq_true rfl, Nat.le_of_ble_eq_true rfl⟩) (kz_preV (ci := 8) (q0 := 0) hK hN hE hP hD hS hA rfl rfl [0] (by decide) rfl) rfl rfl hl.1 rfl (lv_room (Nat.le_of_ble_eq_true rfl)) dX8_swapAt_15 ⟨Nat.le_of_ble_eq_true rfl, Nat.le_of_ble_eq_true rfl⟩) hP hD hS hA [0] [] rfl rfl (by decide) (by decide) (fun r u H locs hw hp hd hs => ?_)
      rcases hw with ⟨c_3, rfl, rfl⟩ | ⟨c_4, c_5, rfl, rfl⟩ | ⟨c_6, c_7, rfl, rfl⟩
      · refine kz_re (w2 := [(x_state_tower, .inr (8, [.ref x_state_tower_rank, .ref x_state_tower_head, .int 0, .int 0, .int 0]))]) hp hd hs rfl ?_
        clear hp hd hs hP hD hS
        intro hP hD hS
        refine lv_if_ne (tgt := 24) hx hb dX8_swapAt_18 (by decide) (fun h => absurd (by decide) h) (fun _ => ?_)
        refine lv_bipush (v := (-3)) hx hb dX8_swapAt_21 (by decide) ?_
        exact kz_iret hx hb hr hlocks hP hK hD hS dX8_swapAt_23 (Or.inr (Or.inl ⟨c_1, c_2, c_3, rfl, rfl⟩))
      · refine kz_re (w2 := [(x_state_tower, .inr (8, [.ref x_state_tower_rank, .ref x_state_tower_head, .int 0, .int 0, .int 0]))]) hp hd hs rfl ?_
        clear hp hd hs hP hD hS
        intro hP hD hS
        refine lv_if_ne (tgt := 24) hx hb dX8_swapAt_18 (by decide) (fun h => absurd (by decide) h) (fun _ => ?_)
        refine lv_bipush (v := (-3)) hx hb dX8_swapAt_21 (by decide) ?_
        exact kz_iret hx hb hr hlocks hP hK hD hS dX8_swapAt_23 (Or.inr (Or.inr (Or.inl ⟨c_1, c_2, c_4, c_5, rfl, rfl⟩)))
      · exact kz_false (by simp only [Int32.lt_iff_toInt_lt, Int32.le_iff_toInt_le, ← Int32.toInt_inj, Int32.reduceToInt] at c_6 c_7; omega)
    · refine lv_iconst (v := (-1)) hx hb dX8_swapAt_9 (by decide) ?_
      exact kz_iret hx hb hr hlocks hP hK hD hS dX8_swapAt_10 (Or.inr (Or.inr (Or.inr ⟨c_1, c_2, rfl, rfl⟩)))

set_option maxHeartbeats 4000000 in
set_option maxRecDepth 100000 in
theorem kX8_act_62 (l : Launch) (D : va_G) (ty : Nat → ClassId) (eo : Nat → Nat) (sz : Nat) (x_state_tower : Nat) (a2 : Int32) (x_judge x_state_tower_rank x_state_tower_head : Nat) : Met l yX8_act wsX8_act ({ frames := 2, cells := 0, slots := 0, locals := 42 }) (va_Pc [.ref x_state_tower, .int 2, .int a2, .ref x_judge] (kz_pre D ty eo [(x_state_tower, .inr (8, [.ref x_state_tower_rank, .ref x_state_tower_head, .int 0, .int 0, .int 0]))] sz)) (va_Qi (fun (r : Int32) (u : va_W) => (a2 < 0 ∧ (-1) = r ∧ [(x_state_tower, .inr (8, [.ref x_state_tower_rank, .ref x_state_tower_head, .int 0, .int 0, .int 0]))] = u) ∨ (¬ a2 < 0 ∧ a2 < 5 ∧ (a2 + 1) < 0 ∧ (-3) = r ∧ [(x_state_tower, .inr (8, [.ref x_state_tower_rank, .ref x_state_tower_head, .int 0, .int 0, .int 0]))] = u) ∨ (¬ a2 < 0 ∧ a2 < 5 ∧ ¬ (a2 + 1) < 0 ∧ 0 ≤ (a2 + 1) ∧ (-3) = r ∧ [(x_state_tower, .inr (8, [.ref x_state_tower_rank, .ref x_state_tower_head, .int 0, .int 0, .int 0]))] = u) ∨ (¬ a2 < 0 ∧ ¬ a2 < 5 ∧ (-1) = r ∧ [(x_state_tower, .inr (8, [.ref x_state_tower_rank, .ref x_state_tower_head, .int 0, .int 0, .int 0]))] = u)) (kz_B D ty (va_A [(x_state_tower, .inr (8, [.ref x_state_tower_rank, .ref x_state_tower_head, .int 0, .int 0, .int 0]))] sz)) (va_A [(x_state_tower, .inr (8, [.ref x_state_tower_rank, .ref x_state_tower_head, .int 0, .int 0, .int 0]))] sz)) 0 0 (va_A [(x_state_tower, .inr (8, [.ref x_state_tower_rank, .ref x_state_tower_head, .int 0, .int 0, .int 0]))] sz) := by
  refine Met.ofW (cc := cX8_act) (maxL := 4) (ret := (some .int)) (by decide) rfl ?_
  intro p e s m args below meth c s₁ B hml hv
  obtain ⟨rfl, hsz, hP, hK, hD0, hN, hE⟩ := hv
  have hx := B.exec
  have hb := B.bytes
  have hr := B.returns
  have hts := atoms_spec (ws := wsX8_act) B.pre
  have hown : s.vm.findClass RX8 = some m.cls := findClass_of_methodNamed B.named
  have hlocks := B.notSynchronized
  subst hsz
  have hD := hD0.self (sz := s.heap.size)
  generalize hAe : va_A [(x_state_tower, .inr (8, [.ref x_state_tower_rank, .ref x_state_tower_head, .int 0, .int 0, .int 0]))] s.heap.size = A at hD hE ⊢
  have hA : ∀ q : Nat, s.heap.size ≤ q → A q := fun q h => by rw [← hAe]; exact Or.inr h
  have hS : va_S A s.heap s.heap [] := va_S.rf
  have hl := lv_entry ([.ref x_state_tower, .int 2, .int a2, .ref x_judge]) (n := 4) (Nat.le_of_ble_eq_true rfl)
  rw [lg_entry_eq]
  generalize (lg_sl ([.ref x_state_tower, .int 2, .int a2, .ref x_judge]) ++ List.replicate (4 - (lg_sl ([.ref x_state_tower, .int 2, .int a2, .ref x_judge])).length) Slot.unset).toArray = ls at hl ⊢
  have hl : lv_has ls 4 [(0, .ref x_state_tower), (1, .int 2), (2, .int a2), (3, .ref x_judge)] := hl
  refine lv_iload_n hx hb dX8_act_0 rfl (lv_at hl 1 rfl) ?_
  refine lv_tableIn (off := 44) (tgt := 45) hx hb dX8_act_1 (by decide) (by decide) (by decide) (by decide) ?_
  refine lv_aload_n hx hb dX8_act_45 rfl (lv_at hl 0 rfl) ?_
  refine lv_iload_n hx hb dX8_act_46 rfl (lv_at hl 2 rfl) ?_
  refine kz_ki (wc := [(x_state_tower, .inr (8, [.ref x_state_tower_rank, .ref x_state_tower_head, .int 0, .int 0, .int 0]))]) (wr := []) (va_runV (As := [.int a2]) (rest := []) ⟨hx, hb, hml, hown, hts⟩ (kX8_swapAt_64 l D ty eo _ x_state_tower a2 x_state_tower_rank x_state_tower_head) (cwV 1 hts gX8_act_X8_swapAt rfl rfl rfl (by decide +kernel) ⟨Nat.le_of_ble_eq_true rfl, Nat.le_of_ble_eq_true rfl⟩) (kz_preV (ci := 8) (q0 := 0) hK hN hE hP hD hS hA rfl rfl [0] (by decide) rfl) rfl rfl hl.1 rfl (lv_room (Nat.le_of_ble_eq_true rfl)) dX8_act_47 ⟨Nat.le_of_ble_eq_true rfl, Nat.le_of_ble_eq_true rfl⟩) hP hD hS hA [0] [] rfl rfl (by decide) (by decide) (fun r u H locs hw hp hd hs => ?_)
  rcases hw with ⟨c_1, rfl, rfl⟩ | ⟨c_2, c_3, c_4, rfl, rfl⟩ | ⟨c_5, c_6, c_7, c_8, rfl, rfl⟩ | ⟨c_9, c_10, rfl, rfl⟩
  · refine kz_re (w2 := [(x_state_tower, .inr (8, [.ref x_state_tower_rank, .ref x_state_tower_head, .int 0, .int 0, .int 0]))]) hp hd hs rfl ?_
    clear hp hd hs hP hD hS
    intro hP hD hS
    exact kz_iret hx hb hr hlocks hP hK hD hS dX8_act_50 (Or.inl ⟨c_1, rfl, rfl⟩)
  · refine kz_re (w2 := [(x_state_tower, .inr (8, [.ref x_state_tower_rank, .ref x_state_tower_head, .int 0, .int 0, .int 0]))]) hp hd hs rfl ?_
    clear hp hd hs hP hD hS
    intro hP hD hS
    exact kz_iret hx hb hr hlocks hP hK hD hS dX8_act_50 (Or.inr (Or.inl ⟨c_2, c_3, c_4, rfl, rfl⟩))
  · refine kz_re (w2 := [(x_state_tower, .inr (8, [.ref x_state_tower_rank, .ref x_state_tower_head, .int 0, .int 0, .int 0]))]) hp hd hs rfl ?_
    clear hp hd hs hP hD hS
    intro hP hD hS
    exact kz_iret hx hb hr hlocks hP hK hD hS dX8_act_50 (Or.inr (Or.inr (Or.inl ⟨c_5, c_6, c_7, c_8, rfl, rfl⟩)))
  · refine kz_re (w2 := [(x_state_tower, .inr (8, [.ref x_state_tower_rank, .ref x_state_tower_head, .int 0, .int 0, .int 0]))]) hp hd hs rfl ?_
    clear hp hd hs hP hD hS
    intro hP hD hS
    exact kz_iret hx hb hr hlocks hP hK hD hS dX8_act_50 (Or.inr (Or.inr (Or.inr ⟨c_9, c_10, rfl, rfl⟩)))

set_option maxHeartbeats 4000000 in
set_option maxRecDepth 100000 in
theorem kX9_move_61 (l : Launch) (D : va_G) (ty : Nat → ClassId) (eo : Nat → Nat) (sz : Nat) (x : Nat) (a2 : Int32) (x_state x_images x_kept x_history x_drawnTower x_machine x_judge x_runner x_reader x_draft x_paper x_tape x_chances x_refusals x_state_tower x_state_seenPlace x_state_seenRank x_state_laws x_state_tower_rank x_state_tower_head x_judge_words : Nat) : Met l yX9_move wsX9_move ({ frames := 3, cells := 0, slots := 0, locals := 65 }) (va_Pc [.ref x, .int 2, .int a2] (kz_pre D ty eo [(x, .inr (9, [.ref x_state, .ref x_images, .ref x_kept, .ref x_history, .ref x_drawnTower, .ref x_machine, .ref x_judge, .ref x_runner, .ref x_reader, .ref x_draft, .ref x_paper, .ref x_tape, .int 0, .int (-1), .int 0, .int (-1), .ref x_chances, .ref x_refusals, .int 0])), (x_state, .inr (6, [.ref x_state_tower, .int 1, .int 0, .int 0, .ref x_state_seenPlace, .ref x_state_seenRank, .int 0, .ref x_state_laws, .int 0, .int (-1)])), (x_state_tower, .inr (8, [.ref x_state_tower_rank, .ref x_state_tower_head, .int 0, .int 0, .int 0])), (x_state_tower_rank, .inl (ty 0, 6, .inl (fun _ => 0))), (x_state_tower_head, .inl (ty 0, 6, .inl (fun _ => 0))), (x_judge, .inr (1, [.ref x_machine, .ref x_judge_words, .null])), (x_judge_words, .inl (ty 0, 9, .inl (fun _ => 0))), (x_refusals, .inl (ty 0, 7, .inl (fun _ => 0)))] sz)) (va_Qi (fun (r : Int32) (u : va_W) => (a2 < 0 ∧ (-1) = r ∧ [(x_state_tower_rank, .inl (ty 0, 6, .inl (fun _ => 0))), (x_state_tower_head, .inl (ty 0, 6, .inl (fun _ => 0))), (x_state, .inr (6, [.ref x_state_tower, .int 1, .int 0, .int 0, .ref x_state_seenPlace, .ref x_state_seenRank, .int 0, .ref x_state_laws, .int 0, .int (-1)])), (x_judge, .inr (1, [.ref x_machine, .ref x_judge_words, .null])), (x_judge_words, .inl (ty 0, 9, .inl (upd (fun _ => 0) 8 0))), (x_state_tower, .inr (8, [.ref x_state_tower_rank, .ref x_state_tower_head, .int 0, .int 0, .int 0])), (x, .inr (9, [.ref x_state, .ref x_images, .ref x_kept, .ref x_history, .ref x_drawnTower, .ref x_machine, .ref x_judge, .ref x_runner, .ref x_reader, .ref x_draft, .ref x_paper, .ref x_tape, .int 0, .int (-1), .int 0, .int (-1), .ref x_chances, .ref x_refusals, .int (-1)])), (x_refusals, .inl (ty 0, 7, .inl (upd (fun _ => 0) 1 1)))] = u) ∨ (¬ a2 < 0 ∧ a2 < 5 ∧ (a2 + 1) < 0 ∧ (-3) = r ∧ [(x_state_tower_rank, .inl (ty 0, 6, .inl (fun _ => 0))), (x_state_tower_head, .inl (ty 0, 6, .inl (fun _ => 0))), (x_state, .inr (6, [.ref x_state_tower, .int 1, .int 0, .int 0, .ref x_state_seenPlace, .ref x_state_seenRank, .int 0, .ref x_state_laws, .int 0, .int (-1)])), (x_judge, .inr (1, [.ref x_machine, .ref x_judge_words, .null])), (x_judge_words, .inl (ty 0, 9, .inl (upd (fun _ => 0) 8 0))), (x_state_tower, .inr (8, [.ref x_state_tower_rank, .ref x_state_tower_head, .int 0, .int 0, .int 0])), (x, .inr (9, [.ref x_state, .ref x_images, .ref x_kept, .ref x_history, .ref x_drawnTower, .ref x_machine, .ref x_judge, .ref x_runner, .ref x_reader, .ref x_draft, .ref x_paper, .ref x_tape, .int 0, .int (-1), .int 0, .int (-1), .ref x_chances, .ref x_refusals, .int (-3)])), (x_refusals, .inl (ty 0, 7, .inl (upd (fun _ => 0) 3 1)))] = u) ∨ (¬ a2 < 0 ∧ a2 < 5 ∧ ¬ (a2 + 1) < 0 ∧ 0 ≤ (a2 + 1) ∧ (-3) = r ∧ [(x_state_tower_rank, .inl (ty 0, 6, .inl (fun _ => 0))), (x_state_tower_head, .inl (ty 0, 6, .inl (fun _ => 0))), (x_state, .inr (6, [.ref x_state_tower, .int 1, .int 0, .int 0, .ref x_state_seenPlace, .ref x_state_seenRank, .int 0, .ref x_state_laws, .int 0, .int (-1)])), (x_judge, .inr (1, [.ref x_machine, .ref x_judge_words, .null])), (x_judge_words, .inl (ty 0, 9, .inl (upd (fun _ => 0) 8 0))), (x_state_tower, .inr (8, [.ref x_state_tower_rank, .ref x_state_tower_head, .int 0, .int 0, .int 0])), (x, .inr (9, [.ref x_state, .ref x_images, .ref x_kept, .ref x_history, .ref x_drawnTower, .ref x_machine, .ref x_judge, .ref x_runner, .ref x_reader, .ref x_draft, .ref x_paper, .ref x_tape, .int 0, .int (-1), .int 0, .int (-1), .ref x_chances, .ref x_refusals, .int (-3)])), (x_refusals, .inl (ty 0, 7, .inl (upd (fun _ => 0) 3 1)))] = u) ∨ (¬ a2 < 0 ∧ ¬ a2 < 5 ∧ (-1) = r ∧ [(x_state_tower_rank, .inl (ty 0, 6, .inl (fun _ => 0))), (x_state_tower_head, .inl (ty 0, 6, .inl (fun _ => 0))), (x_state, .inr (6, [.ref x_state_tower, .int 1, .int 0, .int 0, .ref x_state_seenPlace, .ref x_state_seenRank, .int 0, .ref x_state_laws, .int 0, .int (-1)])), (x_judge, .inr (1, [.ref x_machine, .ref x_judge_words, .null])), (x_judge_words, .inl (ty 0, 9, .inl (upd (fun _ => 0) 8 0))), (x_state_tower, .inr (8, [.ref x_state_tower_rank, .ref x_state_tower_head, .int 0, .int 0, .int 0])), (x, .inr (9, [.ref x_state, .ref x_images, .ref x_kept, .ref x_history, .ref x_drawnTower, .ref x_machine, .ref x_judge, .ref x_runner, .ref x_reader, .ref x_draft, .ref x_paper, .ref x_tape, .int 0, .int (-1), .int 0, .int (-1), .ref x_chances, .ref x_refusals, .int (-1)])), (x_refusals, .inl (ty 0, 7, .inl (upd (fun _ => 0) 1 1)))] = u)) (kz_B D ty (va_A [(x, .inr (9, [.ref x_state, .ref x_images, .ref x_kept, .ref x_history, .ref x_drawnTower, .ref x_machine, .ref x_judge, .ref x_runner, .ref x_reader, .ref x_draft, .ref x_paper, .ref x_tape, .int 0, .int (-1), .int 0, .int (-1), .ref x_chances, .ref x_refusals, .int 0])), (x_state, .inr (6, [.ref x_state_tower, .int 1, .int 0, .int 0, .ref x_state_seenPlace, .ref x_state_seenRank, .int 0, .ref x_state_laws, .int 0, .int (-1)])), (x_state_tower, .inr (8, [.ref x_state_tower_rank, .ref x_state_tower_head, .int 0, .int 0, .int 0])), (x_state_tower_rank, .inl (ty 0, 6, .inl (fun _ => 0))), (x_state_tower_head, .inl (ty 0, 6, .inl (fun _ => 0))), (x_judge, .inr (1, [.ref x_machine, .ref x_judge_words, .null])), (x_judge_words, .inl (ty 0, 9, .inl (fun _ => 0))), (x_refusals, .inl (ty 0, 7, .inl (fun _ => 0)))] sz)) (va_A [(x, .inr (9, [.ref x_state, .ref x_images, .ref x_kept, .ref x_history, .ref x_drawnTower, .ref x_machine, .ref x_judge, .ref x_runner, .ref x_reader, .ref x_draft, .ref x_paper, .ref x_tape, .int 0, .int (-1), .int 0, .int (-1), .ref x_chances, .ref x_refusals, .int 0])), (x_state, .inr (6, [.ref x_state_tower, .int 1, .int 0, .int 0, .ref x_state_seenPlace, .ref x_state_seenRank, .int 0, .ref x_state_laws, .int 0, .int (-1)])), (x_state_tower, .inr (8, [.ref x_state_tower_rank, .ref x_state_tower_head, .int 0, .int 0, .int 0])), (x_state_tower_rank, .inl (ty 0, 6, .inl (fun _ => 0))), (x_state_tower_head, .inl (ty 0, 6, .inl (fun _ => 0))), (x_judge, .inr (1, [.ref x_machine, .ref x_judge_words, .null])), (x_judge_words, .inl (ty 0, 9, .inl (fun _ => 0))), (x_refusals, .inl (ty 0, 7, .inl (fun _ => 0)))] sz)) 0 0 (va_A [(x, .inr (9, [.ref x_state, .ref x_images, .ref x_kept, .ref x_history, .ref x_drawnTower, .ref x_machine, .ref x_judge, .ref x_runner, .ref x_reader, .ref x_draft, .ref x_paper, .ref x_tape, .int 0, .int (-1), .int 0, .int (-1), .ref x_chances, .ref x_refusals, .int 0])), (x_state, .inr (6, [.ref x_state_tower, .int 1, .int 0, .int 0, .ref x_state_seenPlace, .ref x_state_seenRank, .int 0, .ref x_state_laws, .int 0, .int (-1)])), (x_state_tower, .inr (8, [.ref x_state_tower_rank, .ref x_state_tower_head, .int 0, .int 0, .int 0])), (x_state_tower_rank, .inl (ty 0, 6, .inl (fun _ => 0))), (x_state_tower_head, .inl (ty 0, 6, .inl (fun _ => 0))), (x_judge, .inr (1, [.ref x_machine, .ref x_judge_words, .null])), (x_judge_words, .inl (ty 0, 9, .inl (fun _ => 0))), (x_refusals, .inl (ty 0, 7, .inl (fun _ => 0)))] sz) := by
  refine Met.ofW (cc := cX9_move) (maxL := 6) (ret := (some .int)) (by decide) rfl ?_
  intro p e s m args below meth c s₁ B hml hv
  obtain ⟨rfl, hsz, hP, hK, hD0, hN, hE⟩ := hv
  have hx := B.exec
  have hb := B.bytes
  have hr := B.returns
  have hts := atoms_spec (ws := wsX9_move) B.pre
  have hown : s.vm.findClass RX9 = some m.cls := findClass_of_methodNamed B.named
  have hlocks := B.notSynchronized
  subst hsz
  have hD := hD0.self (sz := s.heap.size)
  generalize hAe : va_A [(x, .inr (9, [.ref x_state, .ref x_images, .ref x_kept, .ref x_history, .ref x_drawnTower, .ref x_machine, .ref x_judge, .ref x_runner, .ref x_reader, .ref x_draft, .ref x_paper, .ref x_tape, .int 0, .int (-1), .int 0, .int (-1), .ref x_chances, .ref x_refusals, .int 0])), (x_state, .inr (6, [.ref x_state_tower, .int 1, .int 0, .int 0, .ref x_state_seenPlace, .ref x_state_seenRank, .int 0, .ref x_state_laws, .int 0, .int (-1)])), (x_state_tower, .inr (8, [.ref x_state_tower_rank, .ref x_state_tower_head, .int 0, .int 0, .int 0])), (x_state_tower_rank, .inl (ty 0, 6, .inl (fun _ => 0))), (x_state_tower_head, .inl (ty 0, 6, .inl (fun _ => 0))), (x_judge, .inr (1, [.ref x_machine, .ref x_judge_words, .null])), (x_judge_words, .inl (ty 0, 9, .inl (fun _ => 0))), (x_refusals, .inl (ty 0, 7, .inl (fun _ => 0)))] s.heap.size = A at hD hE ⊢
  have hA : ∀ q : Nat, s.heap.size ≤ q → A q := fun q h => by rw [← hAe]; exact Or.inr h
  have hS : va_S A s.heap s.heap [] := va_S.rf
  have hl := lv_entry ([.ref x, .int 2, .int a2]) (n := 6) (Nat.le_of_ble_eq_true rfl)
  rw [lg_entry_eq]
  generalize (lg_sl ([.ref x, .int 2, .int a2]) ++ List.replicate (6 - (lg_sl ([.ref x, .int 2, .int a2])).length) Slot.unset).toArray = ls at hl ⊢
  have hl : lv_has ls 6 [(0, .ref x), (1, .int 2), (2, .int a2)] := hl
  refine lv_aload_n hx hb dX9_move_0 rfl (lv_at hl 0 rfl) ?_
  refine va_get (D := D) (ci := 9) (v := .ref x_state) (C := RX9) (T := TX9) (N := 19) hx hb hts (by decide +kernel) hown hK hP 0 rfl rfl 0 (by decide) (hts (.fieldLink RX9 10 "TurnedFloors" "state" "LTurnedFloors$State;") (by decide +kernel)) (fun _ h9 => h9) rfl dX9_move_1 ?_
  refine va_getN (D := D) (ci := 6) (v := .ref x_state_tower) (C := RX6) (T := TX6) (N := 10) hx hb hts (by decide +kernel) hown hK hP 1 rfl rfl 0 (by decide) (hN.use (.fieldLinkNest "TurnedFloors" 122 "TurnedFloors$State" "tower" "LTurnedFloors$Tower;" "TurnedFloors") (by decide +kernel)) (fun _ h9 => h9) rfl dX9_move_4 ?_
  refine kz_kl (wc := [(x_state_tower, .inr (8, [.ref x_state_tower_rank, .ref x_state_tower_head, .int 0, .int 0, .int 0])), (x_state_tower_rank, .inl (ty 0, 6, .inl (fun _ => 0))), (x_state_tower_head, .inl (ty 0, 6, .inl (fun _ => 0)))]) (wr := [(x, .inr (9, [.ref x_state, .ref x_images, .ref x_kept, .ref x_history, .ref x_drawnTower, .ref x_machine, .ref x_judge, .ref x_runner, .ref x_reader, .ref x_draft, .ref x_paper, .ref x_tape, .int 0, .int (-1), .int 0, .int (-1), .ref x_chances, .ref x_refusals, .int 0])), (x_state, .inr (6, [.ref x_state_tower, .int 1, .int 0, .int 0, .ref x_state_seenPlace, .ref x_state_seenRank, .int 0, .ref x_state_laws, .int 0, .int (-1)])), (x_judge, .inr (1, [.ref x_machine, .ref x_judge_words, .null])), (x_judge_words, .inl (ty 0, 9, .inl (fun _ => 0))), (x_refusals, .inl (ty 0, 7, .inl (fun _ => 0)))]) (va_runV (As := []) (rest := []) ⟨hx, hb, hml, hown, hts⟩ (kX8_pack_40 l D ty eo _ x_state_tower x_state_tower_rank x_state_tower_head) (cwV 0 hts gX9_move_X8_pack rfl rfl rfl (by decide +kernel) ⟨Nat.le_of_ble_eq_true rfl, Nat.le_of_ble_eq_true rfl⟩) (kz_preV (ci := 8) (q0 := 2) hK hN hE hP hD hS hA rfl rfl [2, 3, 4] (by decide) rfl) rfl rfl hl.1 rfl (lv_room (Nat.le_of_ble_eq_true rfl)) dX9_move_7 ⟨Nat.le_of_ble_eq_true rfl, Nat.le_of_ble_eq_true rfl⟩) hP hD hS hA [2, 3, 4] [0, 1, 5, 6, 7] rfl rfl (by decide) (by decide) (fun r u H locs hw hp hd hs => ?_)
  obtain ⟨rfl, rfl⟩ := hw
  refine kz_re (w2 := [(x, .inr (9, [.ref x_state, .ref x_images, .ref x_kept, .ref x_history, .ref x_drawnTower, .ref x_machine, .ref x_judge, .ref x_runner, .ref x_reader, .ref x_draft, .ref x_paper, .ref x_tape, .int 0, .int (-1), .int 0, .int (-1), .ref x_chances, .ref x_refusals, .int 0])), (x_state, .inr (6, [.ref x_state_tower, .int 1, .int 0, .int 0, .ref x_state_seenPlace, .ref x_state_seenRank, .int 0, .ref x_state_laws, .int 0, .int (-1)])), (x_judge, .inr (1, [.ref x_machine, .ref x_judge_words, .null])), (x_judge_words, .inl (ty 0, 9, .inl (fun _ => 0))), (x_refusals, .inl (ty 0, 7, .inl (fun _ => 0))), (x_state_tower, .inr (8, [.ref x_state_tower_rank, .ref x_state_tower_head, .int 0, .int 0, .int 0])), (x_state_tower_rank, .inl (ty 0, 6, .inl (fun _ => 0))), (x_state_tower_head, .inl (ty 0, 6, .inl (fun _ => 0)))]) hp hd hs rfl ?_
  clear hp hd hs hP hD hS
  intro hP hD hS
  refine lv_lstore_n (lv' := [(3, .long 0), (0, .ref x), (1, .int 2), (2, .int a2)]) hx hb dX9_move_10 rfl hl (by decide) rfl (fun ls hl => ?_)
  refine lv_aload_n hx hb dX9_move_11 rfl (lv_at hl 1 rfl) ?_
  refine va_get (D := D) (ci := 9) (v := .ref x_state) (C := RX9) (T := TX9) (N := 19) hx hb hts (by decide +kernel) hown hK hP 0 rfl rfl 0 (by decide) (hts (.fieldLink RX9 10 "TurnedFloors" "state" "LTurnedFloors$State;") (by decide +kernel)) (fun _ h9 => h9) rfl dX9_move_12 ?_
  refine va_getN (D := D) (ci := 6) (v := .ref x_state_tower) (C := RX6) (T := TX6) (N := 10) hx hb hts (by decide +kernel) hown hK hP 1 rfl rfl 0 (by decide) (hN.use (.fieldLinkNest "TurnedFloors" 122 "TurnedFloors$State" "tower" "LTurnedFloors$Tower;" "TurnedFloors") (by decide +kernel)) (fun _ h9 => h9) rfl dX9_move_15 ?_
  refine lv_iload_n hx hb dX9_move_18 rfl (lv_at hl 2 rfl) ?_
  refine lv_iload_n hx hb dX9_move_19 rfl (lv_at hl 3 rfl) ?_
  refine lv_aload_n hx hb dX9_move_20 rfl (lv_at hl 1 rfl) ?_
  refine kz_kq (wc := [(x, .inr (9, [.ref x_state, .ref x_images, .ref x_kept, .ref x_history, .ref x_drawnTower, .ref x_machine, .ref x_judge, .ref x_runner, .ref x_reader, .ref x_draft, .ref x_paper, .ref x_tape, .int 0, .int (-1), .int 0, .int (-1), .ref x_chances, .ref x_refusals, .int 0])), (x_state, .inr (6, [.ref x_state_tower, .int 1, .int 0, .int 0, .ref x_state_seenPlace, .ref x_state_seenRank, .int 0, .ref x_state_laws, .int 0, .int (-1)])), (x_judge, .inr (1, [.ref x_machine, .ref x_judge_words, .null])), (x_judge_words, .inl (ty 0, 9, .inl (fun _ => 0)))]) (wr := [(x_refusals, .inl (ty 0, 7, .inl (fun _ => 0))), (x_state_tower, .inr (8, [.ref x_state_tower_rank, .ref x_state_tower_head, .int 0, .int 0, .int 0])), (x_state_tower_rank, .inl (ty 0, 6, .inl (fun _ => 0))), (x_state_tower_head, .inl (ty 0, 6, .inl (fun _ => 0)))]) (va_runV (As := []) (rest := [.int a2, .int 2, .ref x_state_tower]) ⟨hx, hb, hml, hown, hts⟩ (kX9_seated_42 l D ty eo _ x x_state x_images x_kept x_history x_drawnTower x_machine x_judge x_runner x_reader x_draft x_paper x_tape x_chances x_refusals x_state_tower x_state_seenPlace x_state_seenRank x_state_laws x_judge_words) (cwV 0 hts gX9_move_X9_seated rfl rfl rfl (by decide +kernel) ⟨Nat.le_of_ble_eq_true rfl, Nat.le_of_ble_eq_true rfl⟩) (kz_preV (ci := 9) (q0 := 0) hK hN hE hP hD hS hA rfl rfl [0, 1, 2, 3] (by decide) rfl) rfl rfl hl.1 rfl (lv_room (Nat.le_of_ble_eq_true rfl)) dX9_move_21 ⟨Nat.le_of_ble_eq_true rfl, Nat.le_of_ble_eq_true rfl⟩) hP hD hS hA [0, 1, 2, 3] [4, 5, 6, 7] rfl rfl (by decide) (by decide) (fun r u H locs hw hp hd hs => ?_)
  obtain ⟨rfl, rfl⟩ := hw
  refine kz_re (w2 := [(x_refusals, .inl (ty 0, 7, .inl (fun _ => 0))), (x_state_tower, .inr (8, [.ref x_state_tower_rank, .ref x_state_tower_head, .int 0, .int 0, .int 0])), (x_state_tower_rank, .inl (ty 0, 6, .inl (fun _ => 0))), (x_state_tower_head, .inl (ty 0, 6, .inl (fun _ => 0))), (x, .inr (9, [.ref x_state, .ref x_images, .ref x_kept, .ref x_history, .ref x_drawnTower, .ref x_machine, .ref x_judge, .ref x_runner, .ref x_reader, .ref x_draft, .ref x_paper, .ref x_tape, .int 0, .int (-1), .int 0, .int (-1), .ref x_chances, .ref x_refusals, .int 0])), (x_state, .inr (6, [.ref x_state_tower, .int 1, .int 0, .int 0, .ref x_state_seenPlace, .ref x_state_seenRank, .int 0, .ref x_state_laws, .int 0, .int (-1)])), (x_judge, .inr (1, [.ref x_machine, .ref x_judge_words, .null])), (x_judge_words, .inl (ty 0, 9, .inl (upd (fun _ => 0) 8 0)))]) hp hd hs rfl ?_
  clear hp hd hs hP hD hS
  intro hP hD hS
  refine kz_ki (wc := [(x_state_tower, .inr (8, [.ref x_state_tower_rank, .ref x_state_tower_head, .int 0, .int 0, .int 0]))]) (wr := [(x_refusals, .inl (ty 0, 7, .inl (fun _ => 0))), (x_state_tower_rank, .inl (ty 0, 6, .inl (fun _ => 0))), (x_state_tower_head, .inl (ty 0, 6, .inl (fun _ => 0))), (x, .inr (9, [.ref x_state, .ref x_images, .ref x_kept, .ref x_history, .ref x_drawnTower, .ref x_machine, .ref x_judge, .ref x_runner, .ref x_reader, .ref x_draft, .ref x_paper, .ref x_tape, .int 0, .int (-1), .int 0, .int (-1), .ref x_chances, .ref x_refusals, .int 0])), (x_state, .inr (6, [.ref x_state_tower, .int 1, .int 0, .int 0, .ref x_state_seenPlace, .ref x_state_seenRank, .int 0, .ref x_state_laws, .int 0, .int (-1)])), (x_judge, .inr (1, [.ref x_machine, .ref x_judge_words, .null])), (x_judge_words, .inl (ty 0, 9, .inl (upd (fun _ => 0) 8 0)))]) (va_runV (As := [.int 2, .int a2, .ref x_judge]) (rest := []) ⟨hx, hb, hml, hown, hts⟩ (kX8_act_62 l D ty eo _ x_state_tower a2 x_judge x_state_tower_rank x_state_tower_head) (cwV 3 hts gX9_move_X8_act rfl rfl rfl (by decide +kernel) ⟨Nat.le_of_ble_eq_true rfl, Nat.le_of_ble_eq_true rfl⟩) (kz_preV (ci := 8) (q0 := 1) hK hN hE hP hD hS hA rfl rfl [1] (by decide) rfl) rfl rfl hl.1 rfl (lv_room (Nat.le_of_ble_eq_true rfl)) dX9_move_24 ⟨Nat.le_of_ble_eq_true rfl, Nat.le_of_ble_eq_true rfl⟩) hP hD hS hA [1] [0, 2, 3, 4, 5, 6, 7] rfl rfl (by decide) (by decide) (fun r u H locs hw hp hd hs => ?_)
  rcases hw with ⟨c_1, rfl, rfl⟩ | ⟨c_2, c_3, c_4, rfl, rfl⟩ | ⟨c_5, c_6, c_7, c_8, rfl, rfl⟩ | ⟨c_9, c_10, rfl, rfl⟩
  · refine kz_re (w2 := [(x_refusals, .inl (ty 0, 7, .inl (fun _ => 0))), (x_state_tower_rank, .inl (ty 0, 6, .inl (fun _ => 0))), (x_state_tower_head, .inl (ty 0, 6, .inl (fun _ => 0))), (x, .inr (9, [.ref x_state, .ref x_images, .ref x_kept, .ref x_history, .ref x_drawnTower, .ref x_machine, .ref x_judge, .ref x_runner, .ref x_reader, .ref x_draft, .ref x_paper, .ref x_tape, .int 0, .int (-1), .int 0, .int (-1), .ref x_chances, .ref x_refusals, .int 0])), (x_state, .inr (6, [.ref x_state_tower, .int 1, .int 0, .int 0, .ref x_state_seenPlace, .ref x_state_seenRank, .int 0, .ref x_state_laws, .int 0, .int (-1)])), (x_judge, .inr (1, [.ref x_machine, .ref x_judge_words, .null])), (x_judge_words, .inl (ty 0, 9, .inl (upd (fun _ => 0) 8 0))), (x_state_tower, .inr (8, [.ref x_state_tower_rank, .ref x_state_tower_head, .int 0, .int 0, .int 0]))]) hp hd hs rfl ?_
    clear hp hd hs hP hD hS
    intro hP hD hS
    refine lv_istore (lv' := [(5, .int (-1)), (3, .long 0), (0, .ref x), (1, .int 2), (2, .int a2)]) hx hb dX9_move_27 hl (by decide) rfl (fun ls hl => ?_)
    refine lv_iload hx hb dX9_move_29 (lv_at hl 0 rfl) ?_
    refine lv_if_ge (tgt := 41) hx hb dX9_move_31 (by decide) (fun h => absurd h (by decide)) (fun _ => ?_)
    refine lv_aload_n hx hb dX9_move_34 rfl (lv_at hl 2 rfl) ?_
    refine lv_iload hx hb dX9_move_35 (lv_at hl 0 rfl) ?_
    refine kz_ki (wc := [(x, .inr (9, [.ref x_state, .ref x_images, .ref x_kept, .ref x_history, .ref x_drawnTower, .ref x_machine, .ref x_judge, .ref x_runner, .ref x_reader, .ref x_draft, .ref x_paper, .ref x_tape, .int 0, .int (-1), .int 0, .int (-1), .ref x_chances, .ref x_refusals, .int 0])), (x_refusals, .inl (ty 0, 7, .inl (fun _ => 0)))]) (wr := [(x_state_tower_rank, .inl (ty 0, 6, .inl (fun _ => 0))), (x_state_tower_head, .inl (ty 0, 6, .inl (fun _ => 0))), (x_state, .inr (6, [.ref x_state_tower, .int 1, .int 0, .int 0, .ref x_state_seenPlace, .ref x_state_seenRank, .int 0, .ref x_state_laws, .int 0, .int (-1)])), (x_judge, .inr (1, [.ref x_machine, .ref x_judge_words, .null])), (x_judge_words, .inl (ty 0, 9, .inl (upd (fun _ => 0) 8 0))), (x_state_tower, .inr (8, [.ref x_state_tower_rank, .ref x_state_tower_head, .int 0, .int 0, .int 0]))]) (va_runV (As := [.int (-1)]) (rest := []) ⟨hx, hb, hml, hown, hts⟩ (kX9_refuse_2 l D ty eo _ x x_state x_images x_kept x_history x_drawnTower x_machine x_judge x_runner x_reader x_draft x_paper x_tape x_chances x_refusals) (cwV 1 hts gX9_move_X9_refuse rfl rfl rfl (by decide +kernel) ⟨Nat.le_of_ble_eq_true rfl, Nat.le_of_ble_eq_true rfl⟩) (kz_preV (ci := 9) (q0 := 3) hK hN hE hP hD hS hA rfl rfl [3, 0] (by decide) rfl) rfl rfl hl.1 rfl (lv_room (Nat.le_of_ble_eq_true rfl)) dX9_move_37 ⟨Nat.le_of_ble_eq_true rfl, Nat.le_of_ble_eq_true rfl⟩) hP hD hS hA [3, 0] [1, 2, 4, 5, 6, 7] rfl rfl (by decide) (by decide) (fun r u H locs hw hp hd hs => ?_)
    obtain ⟨rfl, rfl⟩ := hw
    refine kz_re (w2 := [(x_state_tower_rank, .inl (ty 0, 6, .inl (fun _ => 0))), (x_state_tower_head, .inl (ty 0, 6, .inl (fun _ => 0))), (x_state, .inr (6, [.ref x_state_tower, .int 1, .int 0, .int 0, .ref x_state_seenPlace, .ref x_state_seenRank, .int 0, .ref x_state_laws, .int 0, .int (-1)])), (x_judge, .inr (1, [.ref x_machine, .ref x_judge_words, .null])), (x_judge_words, .inl (ty 0, 9, .inl (upd (fun _ => 0) 8 0))), (x_state_tower, .inr (8, [.ref x_state_tower_rank, .ref x_state_tower_head, .int 0, .int 0, .int 0])), (x, .inr (9, [.ref x_state, .ref x_images, .ref x_kept, .ref x_history, .ref x_drawnTower, .ref x_machine, .ref x_judge, .ref x_runner, .ref x_reader, .ref x_draft, .ref x_paper, .ref x_tape, .int 0, .int (-1), .int 0, .int (-1), .ref x_chances, .ref x_refusals, .int (-1)])), (x_refusals, .inl (ty 0, 7, .inl (upd (fun _ => 0) 1 1)))]) hp hd hs rfl ?_
    clear hp hd hs hP hD hS
    intro hP hD hS
    exact kz_iret hx hb hr hlocks hP hK hD hS dX9_move_40 (Or.inl ⟨c_1, rfl, rfl⟩)
  · refine kz_re (w2 := [(x_refusals, .inl (ty 0, 7, .inl (fun _ => 0))), (x_state_tower_rank, .inl (ty 0, 6, .inl (fun _ => 0))), (x_state_tower_head, .inl (ty 0, 6, .inl (fun _ => 0))), (x, .inr (9, [.ref x_state, .ref x_images, .ref x_kept, .ref x_history, .ref x_drawnTower, .ref x_machine, .ref x_judge, .ref x_runner, .ref x_reader, .ref x_draft, .ref x_paper, .ref x_tape, .int 0, .int (-1), .int 0, .int (-1), .ref x_chances, .ref x_refusals, .int 0])), (x_state, .inr (6, [.ref x_state_tower, .int 1, .int 0, .int 0, .ref x_state_seenPlace, .ref x_state_seenRank, .int 0, .ref x_state_laws, .int 0, .int (-1)])), (x_judge, .inr (1, [.ref x_machine, .ref x_judge_words, .null])), (x_judge_words, .inl (ty 0, 9, .inl (upd (fun _ => 0) 8 0))), (x_state_tower, .inr (8, [.ref x_state_tower_rank, .ref x_state_tower_head, .int 0, .int 0, .int 0]))]) hp hd hs rfl ?_
    clear hp hd hs hP hD hS
    intro hP hD hS
    refine lv_istore (lv' := [(5, .int (-3)), (3, .long 0), (0, .ref x), (1, .int 2), (2, .int a2)]) hx hb dX9_move_27 hl (by decide) rfl (fun ls hl => ?_)
    refine lv_iload hx hb dX9_move_29 (lv_at hl 0 rfl) ?_
    refine lv_if_ge (tgt := 41) hx hb dX9_move_31 (by decide) (fun h => absurd h (by decide)) (fun _ => ?_)
    refine lv_aload_n hx hb dX9_move_34 rfl (lv_at hl 2 rfl) ?_
    refine lv_iload hx hb dX9_move_35 (lv_at hl 0 rfl) ?_
    refine kz_ki (wc := [(x, .inr (9, [.ref x_state, .ref x_images, .ref x_kept, .ref x_history, .ref x_drawnTower, .ref x_machine, .ref x_judge, .ref x_runner, .ref x_reader, .ref x_draft, .ref x_paper, .ref x_tape, .int 0, .int (-1), .int 0, .int (-1), .ref x_chances, .ref x_refusals, .int 0])), (x_refusals, .inl (ty 0, 7, .inl (fun _ => 0)))]) (wr := [(x_state_tower_rank, .inl (ty 0, 6, .inl (fun _ => 0))), (x_state_tower_head, .inl (ty 0, 6, .inl (fun _ => 0))), (x_state, .inr (6, [.ref x_state_tower, .int 1, .int 0, .int 0, .ref x_state_seenPlace, .ref x_state_seenRank, .int 0, .ref x_state_laws, .int 0, .int (-1)])), (x_judge, .inr (1, [.ref x_machine, .ref x_judge_words, .null])), (x_judge_words, .inl (ty 0, 9, .inl (upd (fun _ => 0) 8 0))), (x_state_tower, .inr (8, [.ref x_state_tower_rank, .ref x_state_tower_head, .int 0, .int 0, .int 0]))]) (va_runV (As := [.int (-3)]) (rest := []) ⟨hx, hb, hml, hown, hts⟩ (kX9_refuse_58 l D ty eo _ x x_state x_images x_kept x_history x_drawnTower x_machine x_judge x_runner x_reader x_draft x_paper x_tape x_chances x_refusals) (cwV 1 hts gX9_move_X9_refuse rfl rfl rfl (by decide +kernel) ⟨Nat.le_of_ble_eq_true rfl, Nat.le_of_ble_eq_true rfl⟩) (kz_preV (ci := 9) (q0 := 3) hK hN hE hP hD hS hA rfl rfl [3, 0] (by decide) rfl) rfl rfl hl.1 rfl (lv_room (Nat.le_of_ble_eq_true rfl)) dX9_move_37 ⟨Nat.le_of_ble_eq_true rfl, Nat.le_of_ble_eq_true rfl⟩) hP hD hS hA [3, 0] [1, 2, 4, 5, 6, 7] rfl rfl (by decide) (by decide) (fun r u H locs hw hp hd hs => ?_)
    obtain ⟨rfl, rfl⟩ := hw
    refine kz_re (w2 := [(x_state_tower_rank, .inl (ty 0, 6, .inl (fun _ => 0))), (x_state_tower_head, .inl (ty 0, 6, .inl (fun _ => 0))), (x_state, .inr (6, [.ref x_state_tower, .int 1, .int 0, .int 0, .ref x_state_seenPlace, .ref x_state_seenRank, .int 0, .ref x_state_laws, .int 0, .int (-1)])), (x_judge, .inr (1, [.ref x_machine, .ref x_judge_words, .null])), (x_judge_words, .inl (ty 0, 9, .inl (upd (fun _ => 0) 8 0))), (x_state_tower, .inr (8, [.ref x_state_tower_rank, .ref x_state_tower_head, .int 0, .int 0, .int 0])), (x, .inr (9, [.ref x_state, .ref x_images, .ref x_kept, .ref x_history, .ref x_drawnTower, .ref x_machine, .ref x_judge, .ref x_runner, .ref x_reader, .ref x_draft, .ref x_paper, .ref x_tape, .int 0, .int (-1), .int 0, .int (-1), .ref x_chances, .ref x_refusals, .int (-3)])), (x_refusals, .inl (ty 0, 7, .inl (upd (fun _ => 0) 3 1)))]) hp hd hs rfl ?_
    clear hp hd hs hP hD hS
    intro hP hD hS
    exact kz_iret hx hb hr hlocks hP hK hD hS dX9_move_40 (Or.inr (Or.inl ⟨c_2, c_3, c_4, rfl, rfl⟩))
  · refine kz_re (w2 := [(x_refusals, .inl (ty 0, 7, .inl (fun _ => 0))), (x_state_tower_rank, .inl (ty 0, 6, .inl (fun _ => 0))), (x_state_tower_head, .inl (ty 0, 6, .inl (fun _ => 0))), (x, .inr (9, [.ref x_state, .ref x_images, .ref x_kept, .ref x_history, .ref x_drawnTower, .ref x_machine, .ref x_judge, .ref x_runner, .ref x_reader, .ref x_draft, .ref x_paper, .ref x_tape, .int 0, .int (-1), .int 0, .int (-1), .ref x_chances, .ref x_refusals, .int 0])), (x_state, .inr (6, [.ref x_state_tower, .int 1, .int 0, .int 0, .ref x_state_seenPlace, .ref x_state_seenRank, .int 0, .ref x_state_laws, .int 0, .int (-1)])), (x_judge, .inr (1, [.ref x_machine, .ref x_judge_words, .null])), (x_judge_words, .inl (ty 0, 9, .inl (upd (fun _ => 0) 8 0))), (x_state_tower, .inr (8, [.ref x_state_tower_rank, .ref x_state_tower_head, .int 0, .int 0, .int 0]))]) hp hd hs rfl ?_
    clear hp hd hs hP hD hS
    intro hP hD hS
    refine lv_istore (lv' := [(5, .int (-3)), (3, .long 0), (0, .ref x), (1, .int 2), (2, .int a2)]) hx hb dX9_move_27 hl (by decide) rfl (fun ls hl => ?_)
    refine lv_iload hx hb dX9_move_29 (lv_at hl 0 rfl) ?_
    refine lv_if_ge (tgt := 41) hx hb dX9_move_31 (by decide) (fun h => absurd h (by decide)) (fun _ => ?_)
    refine lv_aload_n hx hb dX9_move_34 rfl (lv_at hl 2 rfl) ?_
    refine lv_iload hx hb dX9_move_35 (lv_at hl 0 rfl) ?_
    refine kz_ki (wc := [(x, .inr (9, [.ref x_state, .ref x_images, .ref x_kept, .ref x_history, .ref x_drawnTower, .ref x_machine, .ref x_judge, .ref x_runner, .ref x_reader, .ref x_draft, .ref x_paper, .ref x_tape, .int 0, .int (-1), .int 0, .int (-1), .ref x_chances, .ref x_refusals, .int 0])), (x_refusals, .inl (ty 0, 7, .inl (fun _ => 0)))]) (wr := [(x_state_tower_rank, .inl (ty 0, 6, .inl (fun _ => 0))), (x_state_tower_head, .inl (ty 0, 6, .inl (fun _ => 0))), (x_state, .inr (6, [.ref x_state_tower, .int 1, .int 0, .int 0, .ref x_state_seenPlace, .ref x_state_seenRank, .int 0, .ref x_state_laws, .int 0, .int (-1)])), (x_judge, .inr (1, [.ref x_machine, .ref x_judge_words, .null])), (x_judge_words, .inl (ty 0, 9, .inl (upd (fun _ => 0) 8 0))), (x_state_tower, .inr (8, [.ref x_state_tower_rank, .ref x_state_tower_head, .int 0, .int 0, .int 0]))]) (va_runV (As := [.int (-3)]) (rest := []) ⟨hx, hb, hml, hown, hts⟩ (kX9_refuse_58 l D ty eo _ x x_state x_images x_kept x_history x_drawnTower x_machine x_judge x_runner x_reader x_draft x_paper x_tape x_chances x_refusals) (cwV 1 hts gX9_move_X9_refuse rfl rfl rfl (by decide +kernel) ⟨Nat.le_of_ble_eq_true rfl, Nat.le_of_ble_eq_true rfl⟩) (kz_preV (ci := 9) (q0 := 3) hK hN hE hP hD hS hA rfl rfl [3, 0] (by decide) rfl) rfl rfl hl.1 rfl (lv_room (Nat.le_of_ble_eq_true rfl)) dX9_move_37 ⟨Nat.le_of_ble_eq_true rfl, Nat.le_of_ble_eq_true rfl⟩) hP hD hS hA [3, 0] [1, 2, 4, 5, 6, 7] rfl rfl (by decide) (by decide) (fun r u H locs hw hp hd hs => ?_)
    obtain ⟨rfl, rfl⟩ := hw
    refine kz_re (w2 := [(x_state_tower_rank, .inl (ty 0, 6, .inl (fun _ => 0))), (x_state_tower_head, .inl (ty 0, 6, .inl (fun _ => 0))), (x_state, .inr (6, [.ref x_state_tower, .int 1, .int 0, .int 0, .ref x_state_seenPlace, .ref x_state_seenRank, .int 0, .ref x_state_laws, .int 0, .int (-1)])), (x_judge, .inr (1, [.ref x_machine, .ref x_judge_words, .null])), (x_judge_words, .inl (ty 0, 9, .inl (upd (fun _ => 0) 8 0))), (x_state_tower, .inr (8, [.ref x_state_tower_rank, .ref x_state_tower_head, .int 0, .int 0, .int 0])), (x, .inr (9, [.ref x_state, .ref x_images, .ref x_kept, .ref x_history, .ref x_drawnTower, .ref x_machine, .ref x_judge, .ref x_runner, .ref x_reader, .ref x_draft, .ref x_paper, .ref x_tape, .int 0, .int (-1), .int 0, .int (-1), .ref x_chances, .ref x_refusals, .int (-3)])), (x_refusals, .inl (ty 0, 7, .inl (upd (fun _ => 0) 3 1)))]) hp hd hs rfl ?_
    clear hp hd hs hP hD hS
    intro hP hD hS
    exact kz_iret hx hb hr hlocks hP hK hD hS dX9_move_40 (Or.inr (Or.inr (Or.inl ⟨c_5, c_6, c_7, c_8, rfl, rfl⟩)))
  · refine kz_re (w2 := [(x_refusals, .inl (ty 0, 7, .inl (fun _ => 0))), (x_state_tower_rank, .inl (ty 0, 6, .inl (fun _ => 0))), (x_state_tower_head, .inl (ty 0, 6, .inl (fun _ => 0))), (x, .inr (9, [.ref x_state, .ref x_images, .ref x_kept, .ref x_history, .ref x_drawnTower, .ref x_machine, .ref x_judge, .ref x_runner, .ref x_reader, .ref x_draft, .ref x_paper, .ref x_tape, .int 0, .int (-1), .int 0, .int (-1), .ref x_chances, .ref x_refusals, .int 0])), (x_state, .inr (6, [.ref x_state_tower, .int 1, .int 0, .int 0, .ref x_state_seenPlace, .ref x_state_seenRank, .int 0, .ref x_state_laws, .int 0, .int (-1)])), (x_judge, .inr (1, [.ref x_machine, .ref x_judge_words, .null])), (x_judge_words, .inl (ty 0, 9, .inl (upd (fun _ => 0) 8 0))), (x_state_tower, .inr (8, [.ref x_state_tower_rank, .ref x_state_tower_head, .int 0, .int 0, .int 0]))]) hp hd hs rfl ?_
    clear hp hd hs hP hD hS
    intro hP hD hS
    refine lv_istore (lv' := [(5, .int (-1)), (3, .long 0), (0, .ref x), (1, .int 2), (2, .int a2)]) hx hb dX9_move_27 hl (by decide) rfl (fun ls hl => ?_)
    refine lv_iload hx hb dX9_move_29 (lv_at hl 0 rfl) ?_
    refine lv_if_ge (tgt := 41) hx hb dX9_move_31 (by decide) (fun h => absurd h (by decide)) (fun _ => ?_)
    refine lv_aload_n hx hb dX9_move_34 rfl (lv_at hl 2 rfl) ?_
    refine lv_iload hx hb dX9_move_35 (lv_at hl 0 rfl) ?_
    refine kz_ki (wc := [(x, .inr (9, [.ref x_state, .ref x_images, .ref x_kept, .ref x_history, .ref x_drawnTower, .ref x_machine, .ref x_judge, .ref x_runner, .ref x_reader, .ref x_draft, .ref x_paper, .ref x_tape, .int 0, .int (-1), .int 0, .int (-1), .ref x_chances, .ref x_refusals, .int 0])), (x_refusals, .inl (ty 0, 7, .inl (fun _ => 0)))]) (wr := [(x_state_tower_rank, .inl (ty 0, 6, .inl (fun _ => 0))), (x_state_tower_head, .inl (ty 0, 6, .inl (fun _ => 0))), (x_state, .inr (6, [.ref x_state_tower, .int 1, .int 0, .int 0, .ref x_state_seenPlace, .ref x_state_seenRank, .int 0, .ref x_state_laws, .int 0, .int (-1)])), (x_judge, .inr (1, [.ref x_machine, .ref x_judge_words, .null])), (x_judge_words, .inl (ty 0, 9, .inl (upd (fun _ => 0) 8 0))), (x_state_tower, .inr (8, [.ref x_state_tower_rank, .ref x_state_tower_head, .int 0, .int 0, .int 0]))]) (va_runV (As := [.int (-1)]) (rest := []) ⟨hx, hb, hml, hown, hts⟩ (kX9_refuse_2 l D ty eo _ x x_state x_images x_kept x_history x_drawnTower x_machine x_judge x_runner x_reader x_draft x_paper x_tape x_chances x_refusals) (cwV 1 hts gX9_move_X9_refuse rfl rfl rfl (by decide +kernel) ⟨Nat.le_of_ble_eq_true rfl, Nat.le_of_ble_eq_true rfl⟩) (kz_preV (ci := 9) (q0 := 3) hK hN hE hP hD hS hA rfl rfl [3, 0] (by decide) rfl) rfl rfl hl.1 rfl (lv_room (Nat.le_of_ble_eq_true rfl)) dX9_move_37 ⟨Nat.le_of_ble_eq_true rfl, Nat.le_of_ble_eq_true rfl⟩) hP hD hS hA [3, 0] [1, 2, 4, 5, 6, 7] rfl rfl (by decide) (by decide) (fun r u H locs hw hp hd hs => ?_)
    obtain ⟨rfl, rfl⟩ := hw
    refine kz_re (w2 := [(x_state_tower_rank, .inl (ty 0, 6, .inl (fun _ => 0))), (x_state_tower_head, .inl (ty 0, 6, .inl (fun _ => 0))), (x_state, .inr (6, [.ref x_state_tower, .int 1, .int 0, .int 0, .ref x_state_seenPlace, .ref x_state_seenRank, .int 0, .ref x_state_laws, .int 0, .int (-1)])), (x_judge, .inr (1, [.ref x_machine, .ref x_judge_words, .null])), (x_judge_words, .inl (ty 0, 9, .inl (upd (fun _ => 0) 8 0))), (x_state_tower, .inr (8, [.ref x_state_tower_rank, .ref x_state_tower_head, .int 0, .int 0, .int 0])), (x, .inr (9, [.ref x_state, .ref x_images, .ref x_kept, .ref x_history, .ref x_drawnTower, .ref x_machine, .ref x_judge, .ref x_runner, .ref x_reader, .ref x_draft, .ref x_paper, .ref x_tape, .int 0, .int (-1), .int 0, .int (-1), .ref x_chances, .ref x_refusals, .int (-1)])), (x_refusals, .inl (ty 0, 7, .inl (upd (fun _ => 0) 1 1)))]) hp hd hs rfl ?_
    clear hp hd hs hP hD hS
    intro hP hD hS
    exact kz_iret hx hb hr hlocks hP hK hD hS dX9_move_40 (Or.inr (Or.inr (Or.inr ⟨c_9, c_10, rfl, rfl⟩)))

set_option maxHeartbeats 4000000 in
set_option maxRecDepth 100000 in
theorem fX9_swap (l : Launch) (D : va_G) (ty : Nat → ClassId) (eo : Nat → Nat) (sz : Nat) (x : Nat) (p1 : Int32) (x_state x_images x_kept x_history x_drawnTower x_machine x_judge x_runner x_reader x_draft x_paper x_tape x_chances x_refusals x_state_tower x_state_seenPlace x_state_seenRank x_state_laws x_state_tower_rank x_state_tower_head x_judge_words : Nat) : Met l yX9_swap wsX9_swap ({ frames := 4, cells := 0, slots := 0, locals := 90 }) (va_Pc [.ref x, .int p1] (kz_pre D ty eo [(x, .inr (9, [.ref x_state, .ref x_images, .ref x_kept, .ref x_history, .ref x_drawnTower, .ref x_machine, .ref x_judge, .ref x_runner, .ref x_reader, .ref x_draft, .ref x_paper, .ref x_tape, .int 0, .int (-1), .int 0, .int (-1), .ref x_chances, .ref x_refusals, .int 0])), (x_state, .inr (6, [.ref x_state_tower, .int 1, .int 0, .int 0, .ref x_state_seenPlace, .ref x_state_seenRank, .int 0, .ref x_state_laws, .int 0, .int (-1)])), (x_state_tower, .inr (8, [.ref x_state_tower_rank, .ref x_state_tower_head, .int 0, .int 0, .int 0])), (x_state_tower_rank, .inl (ty 0, 6, .inl (fun _ => 0))), (x_state_tower_head, .inl (ty 0, 6, .inl (fun _ => 0))), (x_judge, .inr (1, [.ref x_machine, .ref x_judge_words, .null])), (x_judge_words, .inl (ty 0, 9, .inl (fun _ => 0))), (x_refusals, .inl (ty 0, 7, .inl (fun _ => 0)))] sz)) (va_Qi (fun (r : Int32) (u : va_W) => (p1 < 0 ∧ (-1) = r ∧ [(x_state_tower_rank, .inl (ty 0, 6, .inl (fun _ => 0))), (x_state_tower_head, .inl (ty 0, 6, .inl (fun _ => 0))), (x_state, .inr (6, [.ref x_state_tower, .int 1, .int 0, .int 0, .ref x_state_seenPlace, .ref x_state_seenRank, .int 0, .ref x_state_laws, .int 0, .int (-1)])), (x_judge, .inr (1, [.ref x_machine, .ref x_judge_words, .null])), (x_judge_words, .inl (ty 0, 9, .inl (upd (fun _ => 0) 8 0))), (x_state_tower, .inr (8, [.ref x_state_tower_rank, .ref x_state_tower_head, .int 0, .int 0, .int 0])), (x, .inr (9, [.ref x_state, .ref x_images, .ref x_kept, .ref x_history, .ref x_drawnTower, .ref x_machine, .ref x_judge, .ref x_runner, .ref x_reader, .ref x_draft, .ref x_paper, .ref x_tape, .int 0, .int (-1), .int 0, .int (-1), .ref x_chances, .ref x_refusals, .int (-1)])), (x_refusals, .inl (ty 0, 7, .inl (upd (fun _ => 0) 1 1)))] = u) ∨ (¬ p1 < 0 ∧ p1 < 5 ∧ (p1 + 1) < 0 ∧ (-3) = r ∧ [(x_state_tower_rank, .inl (ty 0, 6, .inl (fun _ => 0))), (x_state_tower_head, .inl (ty 0, 6, .inl (fun _ => 0))), (x_state, .inr (6, [.ref x_state_tower, .int 1, .int 0, .int 0, .ref x_state_seenPlace, .ref x_state_seenRank, .int 0, .ref x_state_laws, .int 0, .int (-1)])), (x_judge, .inr (1, [.ref x_machine, .ref x_judge_words, .null])), (x_judge_words, .inl (ty 0, 9, .inl (upd (fun _ => 0) 8 0))), (x_state_tower, .inr (8, [.ref x_state_tower_rank, .ref x_state_tower_head, .int 0, .int 0, .int 0])), (x, .inr (9, [.ref x_state, .ref x_images, .ref x_kept, .ref x_history, .ref x_drawnTower, .ref x_machine, .ref x_judge, .ref x_runner, .ref x_reader, .ref x_draft, .ref x_paper, .ref x_tape, .int 0, .int (-1), .int 0, .int (-1), .ref x_chances, .ref x_refusals, .int (-3)])), (x_refusals, .inl (ty 0, 7, .inl (upd (fun _ => 0) 3 1)))] = u) ∨ (¬ p1 < 0 ∧ p1 < 5 ∧ ¬ (p1 + 1) < 0 ∧ 0 ≤ (p1 + 1) ∧ (-3) = r ∧ [(x_state_tower_rank, .inl (ty 0, 6, .inl (fun _ => 0))), (x_state_tower_head, .inl (ty 0, 6, .inl (fun _ => 0))), (x_state, .inr (6, [.ref x_state_tower, .int 1, .int 0, .int 0, .ref x_state_seenPlace, .ref x_state_seenRank, .int 0, .ref x_state_laws, .int 0, .int (-1)])), (x_judge, .inr (1, [.ref x_machine, .ref x_judge_words, .null])), (x_judge_words, .inl (ty 0, 9, .inl (upd (fun _ => 0) 8 0))), (x_state_tower, .inr (8, [.ref x_state_tower_rank, .ref x_state_tower_head, .int 0, .int 0, .int 0])), (x, .inr (9, [.ref x_state, .ref x_images, .ref x_kept, .ref x_history, .ref x_drawnTower, .ref x_machine, .ref x_judge, .ref x_runner, .ref x_reader, .ref x_draft, .ref x_paper, .ref x_tape, .int 0, .int (-1), .int 0, .int (-1), .ref x_chances, .ref x_refusals, .int (-3)])), (x_refusals, .inl (ty 0, 7, .inl (upd (fun _ => 0) 3 1)))] = u) ∨ (¬ p1 < 0 ∧ ¬ p1 < 5 ∧ (-1) = r ∧ [(x_state_tower_rank, .inl (ty 0, 6, .inl (fun _ => 0))), (x_state_tower_head, .inl (ty 0, 6, .inl (fun _ => 0))), (x_state, .inr (6, [.ref x_state_tower, .int 1, .int 0, .int 0, .ref x_state_seenPlace, .ref x_state_seenRank, .int 0, .ref x_state_laws, .int 0, .int (-1)])), (x_judge, .inr (1, [.ref x_machine, .ref x_judge_words, .null])), (x_judge_words, .inl (ty 0, 9, .inl (upd (fun _ => 0) 8 0))), (x_state_tower, .inr (8, [.ref x_state_tower_rank, .ref x_state_tower_head, .int 0, .int 0, .int 0])), (x, .inr (9, [.ref x_state, .ref x_images, .ref x_kept, .ref x_history, .ref x_drawnTower, .ref x_machine, .ref x_judge, .ref x_runner, .ref x_reader, .ref x_draft, .ref x_paper, .ref x_tape, .int 0, .int (-1), .int 0, .int (-1), .ref x_chances, .ref x_refusals, .int (-1)])), (x_refusals, .inl (ty 0, 7, .inl (upd (fun _ => 0) 1 1)))] = u)) (kz_B D ty (va_A [(x, .inr (9, [.ref x_state, .ref x_images, .ref x_kept, .ref x_history, .ref x_drawnTower, .ref x_machine, .ref x_judge, .ref x_runner, .ref x_reader, .ref x_draft, .ref x_paper, .ref x_tape, .int 0, .int (-1), .int 0, .int (-1), .ref x_chances, .ref x_refusals, .int 0])), (x_state, .inr (6, [.ref x_state_tower, .int 1, .int 0, .int 0, .ref x_state_seenPlace, .ref x_state_seenRank, .int 0, .ref x_state_laws, .int 0, .int (-1)])), (x_state_tower, .inr (8, [.ref x_state_tower_rank, .ref x_state_tower_head, .int 0, .int 0, .int 0])), (x_state_tower_rank, .inl (ty 0, 6, .inl (fun _ => 0))), (x_state_tower_head, .inl (ty 0, 6, .inl (fun _ => 0))), (x_judge, .inr (1, [.ref x_machine, .ref x_judge_words, .null])), (x_judge_words, .inl (ty 0, 9, .inl (fun _ => 0))), (x_refusals, .inl (ty 0, 7, .inl (fun _ => 0)))] sz)) (va_A [(x, .inr (9, [.ref x_state, .ref x_images, .ref x_kept, .ref x_history, .ref x_drawnTower, .ref x_machine, .ref x_judge, .ref x_runner, .ref x_reader, .ref x_draft, .ref x_paper, .ref x_tape, .int 0, .int (-1), .int 0, .int (-1), .ref x_chances, .ref x_refusals, .int 0])), (x_state, .inr (6, [.ref x_state_tower, .int 1, .int 0, .int 0, .ref x_state_seenPlace, .ref x_state_seenRank, .int 0, .ref x_state_laws, .int 0, .int (-1)])), (x_state_tower, .inr (8, [.ref x_state_tower_rank, .ref x_state_tower_head, .int 0, .int 0, .int 0])), (x_state_tower_rank, .inl (ty 0, 6, .inl (fun _ => 0))), (x_state_tower_head, .inl (ty 0, 6, .inl (fun _ => 0))), (x_judge, .inr (1, [.ref x_machine, .ref x_judge_words, .null])), (x_judge_words, .inl (ty 0, 9, .inl (fun _ => 0))), (x_refusals, .inl (ty 0, 7, .inl (fun _ => 0)))] sz)) 0 0 (va_A [(x, .inr (9, [.ref x_state, .ref x_images, .ref x_kept, .ref x_history, .ref x_drawnTower, .ref x_machine, .ref x_judge, .ref x_runner, .ref x_reader, .ref x_draft, .ref x_paper, .ref x_tape, .int 0, .int (-1), .int 0, .int (-1), .ref x_chances, .ref x_refusals, .int 0])), (x_state, .inr (6, [.ref x_state_tower, .int 1, .int 0, .int 0, .ref x_state_seenPlace, .ref x_state_seenRank, .int 0, .ref x_state_laws, .int 0, .int (-1)])), (x_state_tower, .inr (8, [.ref x_state_tower_rank, .ref x_state_tower_head, .int 0, .int 0, .int 0])), (x_state_tower_rank, .inl (ty 0, 6, .inl (fun _ => 0))), (x_state_tower_head, .inl (ty 0, 6, .inl (fun _ => 0))), (x_judge, .inr (1, [.ref x_machine, .ref x_judge_words, .null])), (x_judge_words, .inl (ty 0, 9, .inl (fun _ => 0))), (x_refusals, .inl (ty 0, 7, .inl (fun _ => 0)))] sz) := by
  refine Met.ofW (cc := cX9_swap) (maxL := 2) (ret := (some .int)) (by decide) rfl ?_
  intro p e s m args below meth c s₁ B hml hv
  obtain ⟨rfl, hsz, hP, hK, hD0, hN, hE⟩ := hv
  have hx := B.exec
  have hb := B.bytes
  have hr := B.returns
  have hts := atoms_spec (ws := wsX9_swap) B.pre
  have hown : s.vm.findClass RX9 = some m.cls := findClass_of_methodNamed B.named
  have hlocks := B.notSynchronized
  subst hsz
  have hD := hD0.self (sz := s.heap.size)
  generalize hAe : va_A [(x, .inr (9, [.ref x_state, .ref x_images, .ref x_kept, .ref x_history, .ref x_drawnTower, .ref x_machine, .ref x_judge, .ref x_runner, .ref x_reader, .ref x_draft, .ref x_paper, .ref x_tape, .int 0, .int (-1), .int 0, .int (-1), .ref x_chances, .ref x_refusals, .int 0])), (x_state, .inr (6, [.ref x_state_tower, .int 1, .int 0, .int 0, .ref x_state_seenPlace, .ref x_state_seenRank, .int 0, .ref x_state_laws, .int 0, .int (-1)])), (x_state_tower, .inr (8, [.ref x_state_tower_rank, .ref x_state_tower_head, .int 0, .int 0, .int 0])), (x_state_tower_rank, .inl (ty 0, 6, .inl (fun _ => 0))), (x_state_tower_head, .inl (ty 0, 6, .inl (fun _ => 0))), (x_judge, .inr (1, [.ref x_machine, .ref x_judge_words, .null])), (x_judge_words, .inl (ty 0, 9, .inl (fun _ => 0))), (x_refusals, .inl (ty 0, 7, .inl (fun _ => 0)))] s.heap.size = A at hD hE ⊢
  have hA : ∀ q : Nat, s.heap.size ≤ q → A q := fun q h => by rw [← hAe]; exact Or.inr h
  have hS : va_S A s.heap s.heap [] := va_S.rf
  have hl := lv_entry ([.ref x, .int p1]) (n := 2) (Nat.le_of_ble_eq_true rfl)
  rw [lg_entry_eq]
  generalize (lg_sl ([.ref x, .int p1]) ++ List.replicate (2 - (lg_sl ([.ref x, .int p1])).length) Slot.unset).toArray = ls at hl ⊢
  have hl : lv_has ls 2 [(0, .ref x), (1, .int p1)] := hl
  refine lv_aload_n hx hb dX9_swap_0 rfl (lv_at hl 0 rfl) ?_
  refine lv_iconst (v := 2) hx hb dX9_swap_1 (by decide) ?_
  refine lv_iload_n hx hb dX9_swap_2 rfl (lv_at hl 1 rfl) ?_
  refine kz_ki (wc := [(x, .inr (9, [.ref x_state, .ref x_images, .ref x_kept, .ref x_history, .ref x_drawnTower, .ref x_machine, .ref x_judge, .ref x_runner, .ref x_reader, .ref x_draft, .ref x_paper, .ref x_tape, .int 0, .int (-1), .int 0, .int (-1), .ref x_chances, .ref x_refusals, .int 0])), (x_state, .inr (6, [.ref x_state_tower, .int 1, .int 0, .int 0, .ref x_state_seenPlace, .ref x_state_seenRank, .int 0, .ref x_state_laws, .int 0, .int (-1)])), (x_state_tower, .inr (8, [.ref x_state_tower_rank, .ref x_state_tower_head, .int 0, .int 0, .int 0])), (x_state_tower_rank, .inl (ty 0, 6, .inl (fun _ => 0))), (x_state_tower_head, .inl (ty 0, 6, .inl (fun _ => 0))), (x_judge, .inr (1, [.ref x_machine, .ref x_judge_words, .null])), (x_judge_words, .inl (ty 0, 9, .inl (fun _ => 0))), (x_refusals, .inl (ty 0, 7, .inl (fun _ => 0)))]) (wr := []) (va_runV (As := [.int 2, .int p1]) (rest := []) ⟨hx, hb, hml, hown, hts⟩ (kX9_move_61 l D ty eo _ x p1 x_state x_images x_kept x_history x_drawnTower x_machine x_judge x_runner x_reader x_draft x_paper x_tape x_chances x_refusals x_state_tower x_state_seenPlace x_state_seenRank x_state_laws x_state_tower_rank x_state_tower_head x_judge_words) (cwV 2 hts gX9_swap_X9_move rfl rfl rfl (by decide +kernel) ⟨Nat.le_of_ble_eq_true rfl, Nat.le_of_ble_eq_true rfl⟩) (kz_preV (ci := 9) (q0 := 0) hK hN hE hP hD hS hA rfl rfl [0, 1, 2, 3, 4, 5, 6, 7] (by decide) rfl) rfl rfl hl.1 rfl (lv_room (Nat.le_of_ble_eq_true rfl)) dX9_swap_3 ⟨Nat.le_of_ble_eq_true rfl, Nat.le_of_ble_eq_true rfl⟩) hP hD hS hA [0, 1, 2, 3, 4, 5, 6, 7] [] rfl rfl (by decide) (by decide) (fun r u H locs hw hp hd hs => ?_)
  rcases hw with ⟨c_1, rfl, rfl⟩ | ⟨c_2, c_3, c_4, rfl, rfl⟩ | ⟨c_5, c_6, c_7, c_8, rfl, rfl⟩ | ⟨c_9, c_10, rfl, rfl⟩
  · refine kz_re (w2 := [(x_state_tower_rank, .inl (ty 0, 6, .inl (fun _ => 0))), (x_state_tower_head, .inl (ty 0, 6, .inl (fun _ => 0))), (x_state, .inr (6, [.ref x_state_tower, .int 1, .int 0, .int 0, .ref x_state_seenPlace, .ref x_state_seenRank, .int 0, .ref x_state_laws, .int 0, .int (-1)])), (x_judge, .inr (1, [.ref x_machine, .ref x_judge_words, .null])), (x_judge_words, .inl (ty 0, 9, .inl (upd (fun _ => 0) 8 0))), (x_state_tower, .inr (8, [.ref x_state_tower_rank, .ref x_state_tower_head, .int 0, .int 0, .int 0])), (x, .inr (9, [.ref x_state, .ref x_images, .ref x_kept, .ref x_history, .ref x_drawnTower, .ref x_machine, .ref x_judge, .ref x_runner, .ref x_reader, .ref x_draft, .ref x_paper, .ref x_tape, .int 0, .int (-1), .int 0, .int (-1), .ref x_chances, .ref x_refusals, .int (-1)])), (x_refusals, .inl (ty 0, 7, .inl (upd (fun _ => 0) 1 1)))]) hp hd hs rfl ?_
    clear hp hd hs hP hD hS
    intro hP hD hS
    exact kz_iret hx hb hr hlocks hP hK hD hS dX9_swap_6 (Or.inl ⟨c_1, rfl, rfl⟩)
  · refine kz_re (w2 := [(x_state_tower_rank, .inl (ty 0, 6, .inl (fun _ => 0))), (x_state_tower_head, .inl (ty 0, 6, .inl (fun _ => 0))), (x_state, .inr (6, [.ref x_state_tower, .int 1, .int 0, .int 0, .ref x_state_seenPlace, .ref x_state_seenRank, .int 0, .ref x_state_laws, .int 0, .int (-1)])), (x_judge, .inr (1, [.ref x_machine, .ref x_judge_words, .null])), (x_judge_words, .inl (ty 0, 9, .inl (upd (fun _ => 0) 8 0))), (x_state_tower, .inr (8, [.ref x_state_tower_rank, .ref x_state_tower_head, .int 0, .int 0, .int 0])), (x, .inr (9, [.ref x_state, .ref x_images, .ref x_kept, .ref x_history, .ref x_drawnTower, .ref x_machine, .ref x_judge, .ref x_runner, .ref x_reader, .ref x_draft, .ref x_paper, .ref x_tape, .int 0, .int (-1), .int 0, .int (-1), .ref x_chances, .ref x_refusals, .int (-3)])), (x_refusals, .inl (ty 0, 7, .inl (upd (fun _ => 0) 3 1)))]) hp hd hs rfl ?_
    clear hp hd hs hP hD hS
    intro hP hD hS
    exact kz_iret hx hb hr hlocks hP hK hD hS dX9_swap_6 (Or.inr (Or.inl ⟨c_2, c_3, c_4, rfl, rfl⟩))
  · refine kz_re (w2 := [(x_state_tower_rank, .inl (ty 0, 6, .inl (fun _ => 0))), (x_state_tower_head, .inl (ty 0, 6, .inl (fun _ => 0))), (x_state, .inr (6, [.ref x_state_tower, .int 1, .int 0, .int 0, .ref x_state_seenPlace, .ref x_state_seenRank, .int 0, .ref x_state_laws, .int 0, .int (-1)])), (x_judge, .inr (1, [.ref x_machine, .ref x_judge_words, .null])), (x_judge_words, .inl (ty 0, 9, .inl (upd (fun _ => 0) 8 0))), (x_state_tower, .inr (8, [.ref x_state_tower_rank, .ref x_state_tower_head, .int 0, .int 0, .int 0])), (x, .inr (9, [.ref x_state, .ref x_images, .ref x_kept, .ref x_history, .ref x_drawnTower, .ref x_machine, .ref x_judge, .ref x_runner, .ref x_reader, .ref x_draft, .ref x_paper, .ref x_tape, .int 0, .int (-1), .int 0, .int (-1), .ref x_chances, .ref x_refusals, .int (-3)])), (x_refusals, .inl (ty 0, 7, .inl (upd (fun _ => 0) 3 1)))]) hp hd hs rfl ?_
    clear hp hd hs hP hD hS
    intro hP hD hS
    exact kz_iret hx hb hr hlocks hP hK hD hS dX9_swap_6 (Or.inr (Or.inr (Or.inl ⟨c_5, c_6, c_7, c_8, rfl, rfl⟩)))
  · refine kz_re (w2 := [(x_state_tower_rank, .inl (ty 0, 6, .inl (fun _ => 0))), (x_state_tower_head, .inl (ty 0, 6, .inl (fun _ => 0))), (x_state, .inr (6, [.ref x_state_tower, .int 1, .int 0, .int 0, .ref x_state_seenPlace, .ref x_state_seenRank, .int 0, .ref x_state_laws, .int 0, .int (-1)])), (x_judge, .inr (1, [.ref x_machine, .ref x_judge_words, .null])), (x_judge_words, .inl (ty 0, 9, .inl (upd (fun _ => 0) 8 0))), (x_state_tower, .inr (8, [.ref x_state_tower_rank, .ref x_state_tower_head, .int 0, .int 0, .int 0])), (x, .inr (9, [.ref x_state, .ref x_images, .ref x_kept, .ref x_history, .ref x_drawnTower, .ref x_machine, .ref x_judge, .ref x_runner, .ref x_reader, .ref x_draft, .ref x_paper, .ref x_tape, .int 0, .int (-1), .int 0, .int (-1), .ref x_chances, .ref x_refusals, .int (-1)])), (x_refusals, .inl (ty 0, 7, .inl (upd (fun _ => 0) 1 1)))]) hp hd hs rfl ?_
    clear hp hd hs hP hD hS
    intro hP hD hS
    exact kz_iret hx hb hr hlocks hP hK hD hS dX9_swap_6 (Or.inr (Or.inr (Or.inr ⟨c_9, c_10, rfl, rfl⟩)))

set_option maxHeartbeats 4000000 in
set_option maxRecDepth 100000 in
theorem kJ6_bitCount_0f7a4_67 (l : Launch) (D : va_G) (ty : Nat → ClassId) (eo : Nat → Nat) (sz : Nat)  : Met l yJ6_bitCount_0f7a4 wsJ6_bitCount_0f7a4 ({ frames := 0, cells := 0, slots := 0, locals := 0 }) (va_Pc [.int 0] (kz_pre D ty eo [] sz)) (va_Qi (fun (r : Int32) (u : va_W) => 0 = r ∧ [] = u) (kz_B D ty (va_A [] sz)) (va_A [] sz)) 0 0 (va_A [] sz) := by
  refine Met.ofW (cc := cJ6_bitCount_0f7a4) (maxL := 1) (ret := (some .int)) (by decide) rfl ?_
  intro p e s m args below meth c s₁ B hml hv
  obtain ⟨rfl, hsz, hP, hK, hD0, hN, hE⟩ := hv
  have hx := B.exec
  have hb := B.bytes
  have hr := B.returns
  have hts := atoms_spec (ws := wsJ6_bitCount_0f7a4) B.pre
  have hown : s.vm.findClass RJ6 = some m.cls := findClass_of_methodNamed B.named
  have hlocks := B.notSynchronized
  subst hsz
  have hD := hD0.self (sz := s.heap.size)
  generalize hAe : va_A [] s.heap.size = A at hD hE ⊢
  have hA : ∀ q : Nat, s.heap.size ≤ q → A q := fun q h => by rw [← hAe]; exact Or.inr h
  have hS : va_S A s.heap s.heap [] := va_S.rf
  have hl := lv_entry ([.int 0]) (n := 1) (Nat.le_of_ble_eq_true rfl)
  rw [lg_entry_eq]
  generalize (lg_sl ([.int 0]) ++ List.replicate (1 - (lg_sl ([.int 0])).length) Slot.unset).toArray = ls at hl ⊢
  have hl : lv_has ls 1 [(0, .int 0)] := hl
  refine lv_iload_n hx hb dJ6_bitCount_0f7a4_0 rfl (lv_at hl 0 rfl) ?_
  refine lv_iload_n hx hb dJ6_bitCount_0f7a4_1 rfl (lv_at hl 0 rfl) ?_
  refine lv_iconst (v := 1) hx hb dJ6_bitCount_0f7a4_2 (by decide) ?_
  refine lv_iushr (v := 0) hx hb dJ6_bitCount_0f7a4_3 (by decide) ?_
  refine lv_ldcw (v := 1431655765) hx hb hown (hts (.constant RJ6 265 1431655765) (by decide +kernel)) dJ6_bitCount_0f7a4_4 ?_
  refine lv_iand hx hb dJ6_bitCount_0f7a4_7 ?_
  refine kz_topi 0 (by first | rfl | decide +kernel) ?_
  refine lv_isub hx hb dJ6_bitCount_0f7a4_8 ?_
  refine kz_topi 0 (by first | rfl | decide +kernel) ?_
  refine lv_istore_n (lv' := [(0, .int 0)]) hx hb dJ6_bitCount_0f7a4_9 rfl hl (by decide) rfl (fun ls hl => ?_)
  refine lv_iload_n hx hb dJ6_bitCount_0f7a4_10 rfl (lv_at hl 0 rfl) ?_
  refine lv_ldcw (v := 858993459) hx hb hown (hts (.constant RJ6 266 858993459) (by decide +kernel)) dJ6_bitCount_0f7a4_11 ?_
  refine lv_iand hx hb dJ6_bitCount_0f7a4_14 ?_
  refine kz_topi 0 (by first | rfl | decide +kernel) ?_
  refine lv_iload_n hx hb dJ6_bitCount_0f7a4_15 rfl (lv_at hl 0 rfl) ?_
  refine lv_iconst (v := 2) hx hb dJ6_bitCount_0f7a4_16 (by decide) ?_
  refine lv_iushr (v := 0) hx hb dJ6_bitCount_0f7a4_17 (by decide) ?_
  refine lv_ldcw (v := 858993459) hx hb hown (hts (.constant RJ6 266 858993459) (by decide +kernel)) dJ6_bitCount_0f7a4_18 ?_
  refine lv_iand hx hb dJ6_bitCount_0f7a4_21 ?_
  refine kz_topi 0 (by first | rfl | decide +kernel) ?_
  refine lv_iadd hx hb dJ6_bitCount_0f7a4_22 ?_
  refine kz_topi 0 (by first | rfl | decide +kernel) ?_
  refine lv_istore_n (lv' := [(0, .int 0)]) hx hb dJ6_bitCount_0f7a4_23 rfl hl (by decide) rfl (fun ls hl => ?_)
  refine lv_iload_n hx hb dJ6_bitCount_0f7a4_24 rfl (lv_at hl 0 rfl) ?_
  refine lv_iload_n hx hb dJ6_bitCount_0f7a4_25 rfl (lv_at hl 0 rfl) ?_
  refine lv_iconst (v := 4) hx hb dJ6_bitCount_0f7a4_26 (by decide) ?_
  refine lv_iushr (v := 0) hx hb dJ6_bitCount_0f7a4_27 (by decide) ?_
  refine lv_iadd hx hb dJ6_bitCount_0f7a4_28 ?_
  refine kz_topi 0 (by first | rfl | decide +kernel) ?_
  refine lv_ldcw (v := 252645135) hx hb hown (hts (.constant RJ6 267 252645135) (by decide +kernel)) dJ6_bitCount_0f7a4_29 ?_
  refine lv_iand hx hb dJ6_bitCount_0f7a4_32 ?_
  refine kz_topi 0 (by first | rfl | decide +kernel) ?_
  refine lv_istore_n (lv' := [(0, .int 0)]) hx hb dJ6_bitCount_0f7a4_33 rfl hl (by decide) rfl (fun ls hl => ?_)
  refine lv_iload_n hx hb dJ6_bitCount_0f7a4_34 rfl (lv_at hl 0 rfl) ?_
  refine lv_iload_n hx hb dJ6_bitCount_0f7a4_35 rfl (lv_at hl 0 rfl) ?_
  refine lv_bipush (v := 8) hx hb dJ6_bitCount_0f7a4_36 (by decide) ?_
  refine lv_iushr (v := 0) hx hb dJ6_bitCount_0f7a4_38 (by decide) ?_
  refine lv_iadd hx hb dJ6_bitCount_0f7a4_39 ?_
  refine kz_topi 0 (by first | rfl | decide +kernel) ?_
  refine lv_istore_n (lv' := [(0, .int 0)]) hx hb dJ6_bitCount_0f7a4_40 rfl hl (by decide) rfl (fun ls hl => ?_)
  refine lv_iload_n hx hb dJ6_bitCount_0f7a4_41 rfl (lv_at hl 0 rfl) ?_
  refine lv_iload_n hx hb dJ6_bitCount_0f7a4_42 rfl (lv_at hl 0 rfl) ?_
  refine lv_bipush (v := 16) hx hb dJ6_bitCount_0f7a4_43 (by decide) ?_
  refine lv_iushr (v := 0) hx hb dJ6_bitCount_0f7a4_45 (by decide) ?_
  refine lv_iadd hx hb dJ6_bitCount_0f7a4_46 ?_
  refine kz_topi 0 (by first | rfl | decide +kernel) ?_
  refine lv_istore_n (lv' := [(0, .int 0)]) hx hb dJ6_bitCount_0f7a4_47 rfl hl (by decide) rfl (fun ls hl => ?_)
  refine lv_iload_n hx hb dJ6_bitCount_0f7a4_48 rfl (lv_at hl 0 rfl) ?_
  refine lv_bipush (v := 63) hx hb dJ6_bitCount_0f7a4_49 (by decide) ?_
  refine lv_iand hx hb dJ6_bitCount_0f7a4_51 ?_
  refine kz_topi 0 (by first | rfl | decide +kernel) ?_
  exact kz_iret hx hb hr hlocks hP hK hD hS dJ6_bitCount_0f7a4_52 ⟨rfl, rfl⟩

set_option maxHeartbeats 4000000 in
set_option maxRecDepth 100000 in
theorem kX8_passYear_70 (l : Launch) (D : va_G) (ty : Nat → ClassId) (eo : Nat → Nat) (sz : Nat) (x_state_tower x_judge x_state_tower_rank x_state_tower_head : Nat) : Met l yX8_passYear wsX8_passYear ({ frames := 1, cells := 0, slots := 0, locals := 20 }) (va_Pc [.ref x_state_tower, .ref x_judge] (kz_pre D ty eo [(x_state_tower, .inr (8, [.ref x_state_tower_rank, .ref x_state_tower_head, .int 0, .int 0, .int 0]))] sz)) (va_Qi (fun (r : Int32) (u : va_W) => 0 = r ∧ [(x_state_tower, .inr (8, [.ref x_state_tower_rank, .ref x_state_tower_head, .int 0, .int 0, .int 1]))] = u) (kz_B D ty (va_A [(x_state_tower, .inr (8, [.ref x_state_tower_rank, .ref x_state_tower_head, .int 0, .int 0, .int 0]))] sz)) (va_A [(x_state_tower, .inr (8, [.ref x_state_tower_rank, .ref x_state_tower_head, .int 0, .int 0, .int 0]))] sz)) 0 0 (va_A [(x_state_tower, .inr (8, [.ref x_state_tower_rank, .ref x_state_tower_head, .int 0, .int 0, .int 0]))] sz) := by
  refine Met.ofW (cc := cX8_passYear) (maxL := 4) (ret := (some .int)) (by decide) rfl ?_
  intro p e s m args below meth c s₁ B hml hv
  obtain ⟨rfl, hsz, hP, hK, hD0, hN, hE⟩ := hv
  have hx := B.exec
  have hb := B.bytes
  have hr := B.returns
  have hts := atoms_spec (ws := wsX8_passYear) B.pre
  have hown : s.vm.findClass RX8 = some m.cls := findClass_of_methodNamed B.named
  have hlocks := B.notSynchronized
  subst hsz
  have hD := hD0.self (sz := s.heap.size)
  generalize hAe : va_A [(x_state_tower, .inr (8, [.ref x_state_tower_rank, .ref x_state_tower_head, .int 0, .int 0, .int 0]))] s.heap.size = A at hD hE ⊢
  have hA : ∀ q : Nat, s.heap.size ≤ q → A q := fun q h => by rw [← hAe]; exact Or.inr h
  have hS : va_S A s.heap s.heap [] := va_S.rf
  have hl := lv_entry ([.ref x_state_tower, .ref x_judge]) (n := 4) (Nat.le_of_ble_eq_true rfl)
  rw [lg_entry_eq]
  generalize (lg_sl ([.ref x_state_tower, .ref x_judge]) ++ List.replicate (4 - (lg_sl ([.ref x_state_tower, .ref x_judge])).length) Slot.unset).toArray = ls at hl ⊢
  have hl : lv_has ls 4 [(0, .ref x_state_tower), (1, .ref x_judge)] := hl
  refine lv_aload_n hx hb dX8_passYear_0 rfl (lv_at hl 0 rfl) ?_
  refine va_get (D := D) (ci := 8) (v := .int 0) (C := RX8) (T := TX8) (N := 5) hx hb hts (by decide +kernel) hown hK hP 0 rfl rfl 4 (by decide) (hts (.fieldLink RX8 25 "TurnedFloors$Tower" "year" "I") (by decide +kernel)) (fun _ h9 => h9) rfl dX8_passYear_1 ?_
  refine lv_sipush (v := 999) hx hb dX8_passYear_4 (by decide) ?_
  refine lv_icmp_lt (tgt := 13) hx hb dX8_passYear_7 (by decide) (fun _ => ?_) (fun h => absurd (by decide) h)
  refine lv_iconst (v := 0) hx hb dX8_passYear_13 (by decide) ?_
  refine lv_istore_n (lv' := [(2, .int 0), (0, .ref x_state_tower), (1, .ref x_judge)]) hx hb dX8_passYear_14 rfl hl (by decide) rfl (fun ls hl => ?_)
  refine lv_iconst (v := 0) hx hb dX8_passYear_15 (by decide) ?_
  refine lv_istore_n (lv' := [(3, .int 0), (2, .int 0), (0, .ref x_state_tower), (1, .ref x_judge)]) hx hb dX8_passYear_16 rfl hl (by decide) rfl (fun ls hl => ?_)
  refine lv_iload_n hx hb dX8_passYear_17 rfl (lv_at hl 0 rfl) ?_
  refine lv_aload_n hx hb dX8_passYear_18 rfl (lv_at hl 2 rfl) ?_
  refine va_get (D := D) (ci := 8) (v := .int 0) (C := RX8) (T := TX8) (N := 5) hx hb hts (by decide +kernel) hown hK hP 0 rfl rfl 2 (by decide) (hts (.fieldLink RX8 18 "TurnedFloors$Tower" "floors" "I") (by decide +kernel)) (fun _ h9 => h9) rfl dX8_passYear_19 ?_
  refine lv_icmp_ge (tgt := 45) hx hb dX8_passYear_22 (by decide) (fun _ => ?_) (fun h => absurd (by decide) h)
  refine lv_iconst (v := 0) hx hb dX8_passYear_45 (by decide) ?_
  refine lv_istore_n (lv' := [(3, .int 0), (2, .int 0), (0, .ref x_state_tower), (1, .ref x_judge)]) hx hb dX8_passYear_46 rfl hl (by decide) rfl (fun ls hl => ?_)
  refine lv_iload_n hx hb dX8_passYear_47 rfl (lv_at hl 0 rfl) ?_
  refine lv_aload_n hx hb dX8_passYear_48 rfl (lv_at hl 2 rfl) ?_
  refine va_get (D := D) (ci := 8) (v := .int 0) (C := RX8) (T := TX8) (N := 5) hx hb hts (by decide +kernel) hown hK hP 0 rfl rfl 2 (by decide) (hts (.fieldLink RX8 18 "TurnedFloors$Tower" "floors" "I") (by decide +kernel)) (fun _ h9 => h9) rfl dX8_passYear_49 ?_
  refine lv_icmp_ge (tgt := 75) hx hb dX8_passYear_52 (by decide) (fun _ => ?_) (fun h => absurd (by decide) h)
  refine lv_aload_n hx hb dX8_passYear_75 rfl (lv_at hl 2 rfl) ?_
  refine lv_dup hx hb dX8_passYear_76 rfl ?_
  refine va_get (D := D) (ci := 8) (v := .int 0) (C := RX8) (T := TX8) (N := 5) hx hb hts (by decide +kernel) hown hK hP 0 rfl rfl 4 (by decide) (hts (.fieldLink RX8 25 "TurnedFloors$Tower" "year" "I") (by decide +kernel)) (fun _ h9 => h9) rfl dX8_passYear_77 ?_
  refine lv_iconst (v := 1) hx hb dX8_passYear_80 (by decide) ?_
  refine lv_iadd hx hb dX8_passYear_81 ?_
  refine kz_topi 1 (by first | rfl | decide +kernel) ?_
  refine va_put (D := D) (ci := 8) (v := .int 1) (ty := .int) (C := RX8) (T := TX8) (N := 5) hx hb hts (by decide +kernel) tyX8 tyX8_ok nmX8 hown hK hP hD hS 0 rfl rfl 4 (by decide) (hts (.fieldLink RX8 25 "TurnedFloors$Tower" "year" "I") (by decide +kernel)) (fun _ h9 => h9) rfl (by decide +kernel) rfl rfl (Nat.le_of_ble_eq_true rfl) dX8_passYear_82 (fun H locs hp hd hs => ?_)
  refine kz_re (w2 := [(x_state_tower, .inr (8, [.ref x_state_tower_rank, .ref x_state_tower_head, .int 0, .int 0, .int 1]))]) hp hd hs rfl ?_
  clear hp hd hs hP hD hS
  intro hP hD hS
  refine lv_iload_n hx hb dX8_passYear_85 rfl (lv_at hl 1 rfl) ?_
  refine kz_ki (wc := []) (wr := [(x_state_tower, .inr (8, [.ref x_state_tower_rank, .ref x_state_tower_head, .int 0, .int 0, .int 1]))]) (va_runS (As := [.int 0]) (rest := []) ⟨hx, hb, hml, hown, hts⟩ (kJ6_bitCount_0f7a4_67 l D ty eo _ ) (va_cwS 1 hts gX8_passYear_J6_bitCount_0f7a4 rfl rfl rfl (by decide +kernel) ⟨Nat.le_of_ble_eq_true rfl, Nat.le_of_ble_eq_true rfl⟩) (kz_preS hK hN hE hP hD hS hA [] (by decide) rfl) rfl rfl hl.1 rfl (lv_room (Nat.le_of_ble_eq_true rfl)) dX8_passYear_86 ⟨Nat.le_of_ble_eq_true rfl, Nat.le_of_ble_eq_true rfl⟩) hP hD hS hA [] [0] rfl rfl (by decide) (by decide) (fun r u H locs hw hp hd hs => ?_)
  obtain ⟨rfl, rfl⟩ := hw
  refine kz_re (w2 := [(x_state_tower, .inr (8, [.ref x_state_tower_rank, .ref x_state_tower_head, .int 0, .int 0, .int 1]))]) hp hd hs rfl ?_
  clear hp hd hs hP hD hS
  intro hP hD hS
  exact kz_iret hx hb hr hlocks hP hK hD hS dX8_passYear_89 ⟨rfl, rfl⟩

set_option maxHeartbeats 4000000 in
set_option maxRecDepth 100000 in
theorem kX8_act_66 (l : Launch) (D : va_G) (ty : Nat → ClassId) (eo : Nat → Nat) (sz : Nat) (x_state_tower x_judge x_state_tower_rank x_state_tower_head : Nat) : Met l yX8_act wsX8_act ({ frames := 2, cells := 0, slots := 0, locals := 43 }) (va_Pc [.ref x_state_tower, .int 3, .int 0, .ref x_judge] (kz_pre D ty eo [(x_state_tower, .inr (8, [.ref x_state_tower_rank, .ref x_state_tower_head, .int 0, .int 0, .int 0]))] sz)) (va_Qi (fun (r : Int32) (u : va_W) => 0 = r ∧ [(x_state_tower, .inr (8, [.ref x_state_tower_rank, .ref x_state_tower_head, .int 0, .int 0, .int 1]))] = u) (kz_B D ty (va_A [(x_state_tower, .inr (8, [.ref x_state_tower_rank, .ref x_state_tower_head, .int 0, .int 0, .int 0]))] sz)) (va_A [(x_state_tower, .inr (8, [.ref x_state_tower_rank, .ref x_state_tower_head, .int 0, .int 0, .int 0]))] sz)) 0 0 (va_A [(x_state_tower, .inr (8, [.ref x_state_tower_rank, .ref x_state_tower_head, .int 0, .int 0, .int 0]))] sz) := by
  refine Met.ofW (cc := cX8_act) (maxL := 4) (ret := (some .int)) (by decide) rfl ?_
  intro p e s m args below meth c s₁ B hml hv
  obtain ⟨rfl, hsz, hP, hK, hD0, hN, hE⟩ := hv
  have hx := B.exec
  have hb := B.bytes
  have hr := B.returns
  have hts := atoms_spec (ws := wsX8_act) B.pre
  have hown : s.vm.findClass RX8 = some m.cls := findClass_of_methodNamed B.named
  have hlocks := B.notSynchronized
  subst hsz
  have hD := hD0.self (sz := s.heap.size)
  generalize hAe : va_A [(x_state_tower, .inr (8, [.ref x_state_tower_rank, .ref x_state_tower_head, .int 0, .int 0, .int 0]))] s.heap.size = A at hD hE ⊢
  have hA : ∀ q : Nat, s.heap.size ≤ q → A q := fun q h => by rw [← hAe]; exact Or.inr h
  have hS : va_S A s.heap s.heap [] := va_S.rf
  have hl := lv_entry ([.ref x_state_tower, .int 3, .int 0, .ref x_judge]) (n := 4) (Nat.le_of_ble_eq_true rfl)
  rw [lg_entry_eq]
  generalize (lg_sl ([.ref x_state_tower, .int 3, .int 0, .ref x_judge]) ++ List.replicate (4 - (lg_sl ([.ref x_state_tower, .int 3, .int 0, .ref x_judge])).length) Slot.unset).toArray = ls at hl ⊢
  have hl : lv_has ls 4 [(0, .ref x_state_tower), (1, .int 3), (2, .int 0), (3, .ref x_judge)] := hl
  refine lv_iload_n hx hb dX8_act_0 rfl (lv_at hl 1 rfl) ?_
  refine lv_tableIn (off := 50) (tgt := 51) hx hb dX8_act_1 (by decide) (by decide) (by decide) (by decide) ?_
  refine lv_aload_n hx hb dX8_act_51 rfl (lv_at hl 0 rfl) ?_
  refine lv_aload_n hx hb dX8_act_52 rfl (lv_at hl 3 rfl) ?_
  refine kz_ki (wc := [(x_state_tower, .inr (8, [.ref x_state_tower_rank, .ref x_state_tower_head, .int 0, .int 0, .int 0]))]) (wr := []) (va_runV (As := [.ref x_judge]) (rest := []) ⟨hx, hb, hml, hown, hts⟩ (kX8_passYear_70 l D ty eo _ x_state_tower x_judge x_state_tower_rank x_state_tower_head) (cwV 1 hts gX8_act_X8_passYear rfl rfl rfl (by decide +kernel) ⟨Nat.le_of_ble_eq_true rfl, Nat.le_of_ble_eq_true rfl⟩) (kz_preV (ci := 8) (q0 := 0) hK hN hE hP hD hS hA rfl rfl [0] (by decide) rfl) rfl rfl hl.1 rfl (lv_room (Nat.le_of_ble_eq_true rfl)) dX8_act_53 ⟨Nat.le_of_ble_eq_true rfl, Nat.le_of_ble_eq_true rfl⟩) hP hD hS hA [0] [] rfl rfl (by decide) (by decide) (fun r u H locs hw hp hd hs => ?_)
  obtain ⟨rfl, rfl⟩ := hw
  refine kz_re (w2 := [(x_state_tower, .inr (8, [.ref x_state_tower_rank, .ref x_state_tower_head, .int 0, .int 0, .int 1]))]) hp hd hs rfl ?_
  clear hp hd hs hP hD hS
  intro hP hD hS
  exact kz_iret hx hb hr hlocks hP hK hD hS dX8_act_56 ⟨rfl, rfl⟩

set_option maxHeartbeats 4000000 in
set_option maxRecDepth 100000 in
theorem kX0_keep_71 (l : Launch) (D : va_G) (ty : Nat → ClassId) (eo : Nat → Nat) (sz : Nat) (x_history x_history_towers x_history_kinds x_history_markedTowers x_history_markedKinds : Nat) : Met l yX0_keep wsX0_keep ({ frames := 0, cells := 0, slots := 0, locals := 0 }) (va_Pc [.ref x_history, .int 3, .long 0] (kz_pre D ty eo [(x_history, .inr (0, [.ref x_history_towers, .ref x_history_kinds, .int 0, .ref x_history_markedTowers, .ref x_history_markedKinds, .int 0])), (x_history_towers, .inl (ty 1, 16, .inr (.inl (fun _ => 0)))), (x_history_kinds, .inl (ty 0, 16, .inl (fun _ => 0)))] sz)) (va_Qv (fun (u : va_W) => [(x_history, .inr (0, [.ref x_history_towers, .ref x_history_kinds, .int 1, .ref x_history_markedTowers, .ref x_history_markedKinds, .int 0])), (x_history_towers, .inl (ty 1, 16, .inr (.inl (vp_updL (fun _ => 0) 0 0)))), (x_history_kinds, .inl (ty 0, 16, .inl (upd (fun _ => 0) 0 3)))] = u) (kz_B D ty (va_A [(x_history, .inr (0, [.ref x_history_towers, .ref x_history_kinds, .int 0, .ref x_history_markedTowers, .ref x_history_markedKinds, .int 0])), (x_history_towers, .inl (ty 1, 16, .inr (.inl (fun _ => 0)))), (x_history_kinds, .inl (ty 0, 16, .inl (fun _ => 0)))] sz)) (va_A [(x_history, .inr (0, [.ref x_history_towers, .ref x_history_kinds, .int 0, .ref x_history_markedTowers, .ref x_history_markedKinds, .int 0])), (x_history_towers, .inl (ty 1, 16, .inr (.inl (fun _ => 0)))), (x_history_kinds, .inl (ty 0, 16, .inl (fun _ => 0)))] sz)) 0 0 (va_A [(x_history, .inr (0, [.ref x_history_towers, .ref x_history_kinds, .int 0, .ref x_history_markedTowers, .ref x_history_markedKinds, .int 0])), (x_history_towers, .inl (ty 1, 16, .inr (.inl (fun _ => 0)))), (x_history_kinds, .inl (ty 0, 16, .inl (fun _ => 0)))] sz) := by
  refine Met.ofW (cc := cX0_keep) (maxL := 4) (ret := none) (by decide) rfl ?_
  intro p e s m args below meth c s₁ B hml hv
  obtain ⟨rfl, hsz, hP, hK, hD0, hN, hE⟩ := hv
  have hx := B.exec
  have hb := B.bytes
  have hr := B.returns
  have hts := atoms_spec (ws := wsX0_keep) B.pre
  have hown : s.vm.findClass RX0 = some m.cls := findClass_of_methodNamed B.named
  have hlocks := B.notSynchronized
  subst hsz
  have hD := hD0.self (sz := s.heap.size)
  generalize hAe : va_A [(x_history, .inr (0, [.ref x_history_towers, .ref x_history_kinds, .int 0, .ref x_history_markedTowers, .ref x_history_markedKinds, .int 0])), (x_history_towers, .inl (ty 1, 16, .inr (.inl (fun _ => 0)))), (x_history_kinds, .inl (ty 0, 16, .inl (fun _ => 0)))] s.heap.size = A at hD hE ⊢
  have hA : ∀ q : Nat, s.heap.size ≤ q → A q := fun q h => by rw [← hAe]; exact Or.inr h
  have hS : va_S A s.heap s.heap [] := va_S.rf
  have hl := lv_entry ([.ref x_history, .int 3, .long 0]) (n := 4) (Nat.le_of_ble_eq_true rfl)
  rw [lg_entry_eq]
  generalize (lg_sl ([.ref x_history, .int 3, .long 0]) ++ List.replicate (4 - (lg_sl ([.ref x_history, .int 3, .long 0])).length) Slot.unset).toArray = ls at hl ⊢
  have hl : lv_has ls 4 [(0, .ref x_history), (1, .int 3), (2, .long 0)] := hl
  refine lv_aload_n hx hb dX0_keep_0 rfl (lv_at hl 0 rfl) ?_
  refine va_get (D := D) (ci := 0) (v := .int 0) (C := RX0) (T := TX0) (N := 6) hx hb hts (by decide +kernel) hown hK hP 0 rfl rfl 2 (by decide) (hts (.fieldLink RX0 19 "TurnedFloors$History" "kept" "I") (by decide +kernel)) (fun _ h9 => h9) rfl dX0_keep_1 ?_
  refine lv_bipush (v := 16) hx hb dX0_keep_4 (by decide) ?_
  refine lv_icmp_lt (tgt := 45) hx hb dX0_keep_6 (by decide) (fun _ => ?_) (fun h => absurd (by decide) h)
  refine lv_aload_n hx hb dX0_keep_45 rfl (lv_at hl 0 rfl) ?_
  refine va_get (D := D) (ci := 0) (v := .ref x_history_towers) (C := RX0) (T := TX0) (N := 6) hx hb hts (by decide +kernel) hown hK hP 0 rfl rfl 0 (by decide) (hts (.fieldLink RX0 9 "TurnedFloors$History" "towers" "[J") (by decide +kernel)) (fun _ h9 => h9) rfl dX0_keep_46 ?_
  refine lv_aload_n hx hb dX0_keep_49 rfl (lv_at hl 0 rfl) ?_
  refine va_get (D := D) (ci := 0) (v := .int 0) (C := RX0) (T := TX0) (N := 6) hx hb hts (by decide +kernel) hown hK hP 0 rfl rfl 2 (by decide) (hts (.fieldLink RX0 19 "TurnedFloors$History" "kept" "I") (by decide +kernel)) (fun _ h9 => h9) rfl dX0_keep_50 ?_
  refine lv_lload_n hx hb dX0_keep_53 rfl (lv_at hl 2 rfl) ?_
  refine va_last hx hb hK hP hD hS 1 1 rfl rfl (by simp only [vp_in]; decide) dX0_keep_54 (fun H locs hp hd hs => ?_)
  refine kz_re (w2 := [(x_history, .inr (0, [.ref x_history_towers, .ref x_history_kinds, .int 0, .ref x_history_markedTowers, .ref x_history_markedKinds, .int 0])), (x_history_towers, .inl (ty 1, 16, .inr (.inl (vp_updL (fun _ => 0) 0 0)))), (x_history_kinds, .inl (ty 0, 16, .inl (fun _ => 0)))]) hp hd hs rfl ?_
  clear hp hd hs hP hD hS
  intro hP hD hS
  refine lv_aload_n hx hb dX0_keep_55 rfl (lv_at hl 0 rfl) ?_
  refine va_get (D := D) (ci := 0) (v := .ref x_history_kinds) (C := RX0) (T := TX0) (N := 6) hx hb hts (by decide +kernel) hown hK hP 0 rfl rfl 1 (by decide) (hts (.fieldLink RX0 15 "TurnedFloors$History" "kinds" "[I") (by decide +kernel)) (fun _ h9 => h9) rfl dX0_keep_56 ?_
  refine lv_aload_n hx hb dX0_keep_59 rfl (lv_at hl 0 rfl) ?_
  refine va_get (D := D) (ci := 0) (v := .int 0) (C := RX0) (T := TX0) (N := 6) hx hb hts (by decide +kernel) hown hK hP 0 rfl rfl 2 (by decide) (hts (.fieldLink RX0 19 "TurnedFloors$History" "kept" "I") (by decide +kernel)) (fun _ h9 => h9) rfl dX0_keep_60 ?_
  refine lv_iload_n hx hb dX0_keep_63 rfl (lv_at hl 1 rfl) ?_
  refine va_iast hx hb hK hP hD hS 2 0 rfl rfl (by simp only [vp_in]; decide) dX0_keep_64 (fun H locs hp hd hs => ?_)
  refine kz_re (w2 := [(x_history, .inr (0, [.ref x_history_towers, .ref x_history_kinds, .int 0, .ref x_history_markedTowers, .ref x_history_markedKinds, .int 0])), (x_history_towers, .inl (ty 1, 16, .inr (.inl (vp_updL (fun _ => 0) 0 0)))), (x_history_kinds, .inl (ty 0, 16, .inl (upd (fun _ => 0) 0 3)))]) hp hd hs rfl ?_
  clear hp hd hs hP hD hS
  intro hP hD hS
  refine lv_aload_n hx hb dX0_keep_65 rfl (lv_at hl 0 rfl) ?_
  refine lv_dup hx hb dX0_keep_66 rfl ?_
  refine va_get (D := D) (ci := 0) (v := .int 0) (C := RX0) (T := TX0) (N := 6) hx hb hts (by decide +kernel) hown hK hP 0 rfl rfl 2 (by decide) (hts (.fieldLink RX0 19 "TurnedFloors$History" "kept" "I") (by decide +kernel)) (fun _ h9 => h9) rfl dX0_keep_67 ?_
  refine lv_iconst (v := 1) hx hb dX0_keep_70 (by decide) ?_
  refine lv_iadd hx hb dX0_keep_71 ?_
  refine kz_topi 1 (by first | rfl | decide +kernel) ?_
  refine va_put (D := D) (ci := 0) (v := .int 1) (ty := .int) (C := RX0) (T := TX0) (N := 6) hx hb hts (by decide +kernel) tyX0 tyX0_ok nmX0 hown hK hP hD hS 0 rfl rfl 2 (by decide) (hts (.fieldLink RX0 19 "TurnedFloors$History" "kept" "I") (by decide +kernel)) (fun _ h9 => h9) rfl (by decide +kernel) rfl rfl (Nat.le_of_ble_eq_true rfl) dX0_keep_72 (fun H locs hp hd hs => ?_)
  refine kz_re (w2 := [(x_history, .inr (0, [.ref x_history_towers, .ref x_history_kinds, .int 1, .ref x_history_markedTowers, .ref x_history_markedKinds, .int 0])), (x_history_towers, .inl (ty 1, 16, .inr (.inl (vp_updL (fun _ => 0) 0 0)))), (x_history_kinds, .inl (ty 0, 16, .inl (upd (fun _ => 0) 0 3)))]) hp hd hs rfl ?_
  clear hp hd hs hP hD hS
  intro hP hD hS
  exact kz_vret hx hb hr hlocks hP hK hD hS dX0_keep_75 rfl

set_option maxHeartbeats 4000000 in
set_option maxRecDepth 100000 in
theorem kX9_move_65 (l : Launch) (D : va_G) (ty : Nat → ClassId) (eo : Nat → Nat) (sz : Nat) (x x_state x_images x_kept x_history x_drawnTower x_machine x_judge x_runner x_reader x_draft x_paper x_tape x_chances x_refusals x_state_tower x_state_seenPlace x_state_seenRank x_state_laws x_state_tower_rank x_state_tower_head x_judge_words x_history_towers x_history_kinds x_history_markedTowers x_history_markedKinds : Nat) : Met l yX9_move wsX9_move ({ frames := 3, cells := 0, slots := 0, locals := 66 }) (va_Pc [.ref x, .int 3, .int 0] (kz_pre D ty eo [(x, .inr (9, [.ref x_state, .ref x_images, .ref x_kept, .ref x_history, .ref x_drawnTower, .ref x_machine, .ref x_judge, .ref x_runner, .ref x_reader, .ref x_draft, .ref x_paper, .ref x_tape, .int 0, .int (-1), .int 0, .int (-1), .ref x_chances, .ref x_refusals, .int 0])), (x_state, .inr (6, [.ref x_state_tower, .int 1, .int 0, .int 0, .ref x_state_seenPlace, .ref x_state_seenRank, .int 0, .ref x_state_laws, .int 0, .int (-1)])), (x_state_tower, .inr (8, [.ref x_state_tower_rank, .ref x_state_tower_head, .int 0, .int 0, .int 0])), (x_state_tower_rank, .inl (ty 0, 6, .inl (fun _ => 0))), (x_state_tower_head, .inl (ty 0, 6, .inl (fun _ => 0))), (x_judge, .inr (1, [.ref x_machine, .ref x_judge_words, .null])), (x_judge_words, .inl (ty 0, 9, .inl (fun _ => 0))), (x_history, .inr (0, [.ref x_history_towers, .ref x_history_kinds, .int 0, .ref x_history_markedTowers, .ref x_history_markedKinds, .int 0])), (x_history_towers, .inl (ty 1, 16, .inr (.inl (fun _ => 0)))), (x_history_kinds, .inl (ty 0, 16, .inl (fun _ => 0)))] sz)) (va_Qi (fun (r : Int32) (u : va_W) => 0 = r ∧ [(x_state_tower_rank, .inl (ty 0, 6, .inl (fun _ => 0))), (x_state_tower_head, .inl (ty 0, 6, .inl (fun _ => 0))), (x_state, .inr (6, [.ref x_state_tower, .int 1, .int 0, .int 0, .ref x_state_seenPlace, .ref x_state_seenRank, .int 0, .ref x_state_laws, .int 0, .int (-1)])), (x_judge, .inr (1, [.ref x_machine, .ref x_judge_words, .null])), (x_judge_words, .inl (ty 0, 9, .inl (upd (fun _ => 0) 8 0))), (x_state_tower, .inr (8, [.ref x_state_tower_rank, .ref x_state_tower_head, .int 0, .int 0, .int 1])), (x_history, .inr (0, [.ref x_history_towers, .ref x_history_kinds, .int 1, .ref x_history_markedTowers, .ref x_history_markedKinds, .int 0])), (x_history_towers, .inl (ty 1, 16, .inr (.inl (vp_updL (fun _ => 0) 0 0)))), (x_history_kinds, .inl (ty 0, 16, .inl (upd (fun _ => 0) 0 3))), (x, .inr (9, [.ref x_state, .ref x_images, .ref x_kept, .ref x_history, .ref x_drawnTower, .ref x_machine, .ref x_judge, .ref x_runner, .ref x_reader, .ref x_draft, .ref x_paper, .ref x_tape, .int 0, .int (-1), .int 0, .int (-1), .ref x_chances, .ref x_refusals, .int 0]))] = u) (kz_B D ty (va_A [(x, .inr (9, [.ref x_state, .ref x_images, .ref x_kept, .ref x_history, .ref x_drawnTower, .ref x_machine, .ref x_judge, .ref x_runner, .ref x_reader, .ref x_draft, .ref x_paper, .ref x_tape, .int 0, .int (-1), .int 0, .int (-1), .ref x_chances, .ref x_refusals, .int 0])), (x_state, .inr (6, [.ref x_state_tower, .int 1, .int 0, .int 0, .ref x_state_seenPlace, .ref x_state_seenRank, .int 0, .ref x_state_laws, .int 0, .int (-1)])), (x_state_tower, .inr (8, [.ref x_state_tower_rank, .ref x_state_tower_head, .int 0, .int 0, .int 0])), (x_state_tower_rank, .inl (ty 0, 6, .inl (fun _ => 0))), (x_state_tower_head, .inl (ty 0, 6, .inl (fun _ => 0))), (x_judge, .inr (1, [.ref x_machine, .ref x_judge_words, .null])), (x_judge_words, .inl (ty 0, 9, .inl (fun _ => 0))), (x_history, .inr (0, [.ref x_history_towers, .ref x_history_kinds, .int 0, .ref x_history_markedTowers, .ref x_history_markedKinds, .int 0])), (x_history_towers, .inl (ty 1, 16, .inr (.inl (fun _ => 0)))), (x_history_kinds, .inl (ty 0, 16, .inl (fun _ => 0)))] sz)) (va_A [(x, .inr (9, [.ref x_state, .ref x_images, .ref x_kept, .ref x_history, .ref x_drawnTower, .ref x_machine, .ref x_judge, .ref x_runner, .ref x_reader, .ref x_draft, .ref x_paper, .ref x_tape, .int 0, .int (-1), .int 0, .int (-1), .ref x_chances, .ref x_refusals, .int 0])), (x_state, .inr (6, [.ref x_state_tower, .int 1, .int 0, .int 0, .ref x_state_seenPlace, .ref x_state_seenRank, .int 0, .ref x_state_laws, .int 0, .int (-1)])), (x_state_tower, .inr (8, [.ref x_state_tower_rank, .ref x_state_tower_head, .int 0, .int 0, .int 0])), (x_state_tower_rank, .inl (ty 0, 6, .inl (fun _ => 0))), (x_state_tower_head, .inl (ty 0, 6, .inl (fun _ => 0))), (x_judge, .inr (1, [.ref x_machine, .ref x_judge_words, .null])), (x_judge_words, .inl (ty 0, 9, .inl (fun _ => 0))), (x_history, .inr (0, [.ref x_history_towers, .ref x_history_kinds, .int 0, .ref x_history_markedTowers, .ref x_history_markedKinds, .int 0])), (x_history_towers, .inl (ty 1, 16, .inr (.inl (fun _ => 0)))), (x_history_kinds, .inl (ty 0, 16, .inl (fun _ => 0)))] sz)) 0 0 (va_A [(x, .inr (9, [.ref x_state, .ref x_images, .ref x_kept, .ref x_history, .ref x_drawnTower, .ref x_machine, .ref x_judge, .ref x_runner, .ref x_reader, .ref x_draft, .ref x_paper, .ref x_tape, .int 0, .int (-1), .int 0, .int (-1), .ref x_chances, .ref x_refusals, .int 0])), (x_state, .inr (6, [.ref x_state_tower, .int 1, .int 0, .int 0, .ref x_state_seenPlace, .ref x_state_seenRank, .int 0, .ref x_state_laws, .int 0, .int (-1)])), (x_state_tower, .inr (8, [.ref x_state_tower_rank, .ref x_state_tower_head, .int 0, .int 0, .int 0])), (x_state_tower_rank, .inl (ty 0, 6, .inl (fun _ => 0))), (x_state_tower_head, .inl (ty 0, 6, .inl (fun _ => 0))), (x_judge, .inr (1, [.ref x_machine, .ref x_judge_words, .null])), (x_judge_words, .inl (ty 0, 9, .inl (fun _ => 0))), (x_history, .inr (0, [.ref x_history_towers, .ref x_history_kinds, .int 0, .ref x_history_markedTowers, .ref x_history_markedKinds, .int 0])), (x_history_towers, .inl (ty 1, 16, .inr (.inl (fun _ => 0)))), (x_history_kinds, .inl (ty 0, 16, .inl (fun _ => 0)))] sz) := by
  refine Met.ofW (cc := cX9_move) (maxL := 6) (ret := (some .int)) (by decide) rfl ?_
  intro p e s m args below meth c s₁ B hml hv
  obtain ⟨rfl, hsz, hP, hK, hD0, hN, hE⟩ := hv
  have hx := B.exec
  have hb := B.bytes
  have hr := B.returns
  have hts := atoms_spec (ws := wsX9_move) B.pre
  have hown : s.vm.findClass RX9 = some m.cls := findClass_of_methodNamed B.named
  have hlocks := B.notSynchronized
  subst hsz
  have hD := hD0.self (sz := s.heap.size)
  generalize hAe : va_A [(x, .inr (9, [.ref x_state, .ref x_images, .ref x_kept, .ref x_history, .ref x_drawnTower, .ref x_machine, .ref x_judge, .ref x_runner, .ref x_reader, .ref x_draft, .ref x_paper, .ref x_tape, .int 0, .int (-1), .int 0, .int (-1), .ref x_chances, .ref x_refusals, .int 0])), (x_state, .inr (6, [.ref x_state_tower, .int 1, .int 0, .int 0, .ref x_state_seenPlace, .ref x_state_seenRank, .int 0, .ref x_state_laws, .int 0, .int (-1)])), (x_state_tower, .inr (8, [.ref x_state_tower_rank, .ref x_state_tower_head, .int 0, .int 0, .int 0])), (x_state_tower_rank, .inl (ty 0, 6, .inl (fun _ => 0))), (x_state_tower_head, .inl (ty 0, 6, .inl (fun _ => 0))), (x_judge, .inr (1, [.ref x_machine, .ref x_judge_words, .null])), (x_judge_words, .inl (ty 0, 9, .inl (fun _ => 0))), (x_history, .inr (0, [.ref x_history_towers, .ref x_history_kinds, .int 0, .ref x_history_markedTowers, .ref x_history_markedKinds, .int 0])), (x_history_towers, .inl (ty 1, 16, .inr (.inl (fun _ => 0)))), (x_history_kinds, .inl (ty 0, 16, .inl (fun _ => 0)))] s.heap.size = A at hD hE ⊢
  have hA : ∀ q : Nat, s.heap.size ≤ q → A q := fun q h => by rw [← hAe]; exact Or.inr h
  have hS : va_S A s.heap s.heap [] := va_S.rf
  have hl := lv_entry ([.ref x, .int 3, .int 0]) (n := 6) (Nat.le_of_ble_eq_true rfl)
  rw [lg_entry_eq]
  generalize (lg_sl ([.ref x, .int 3, .int 0]) ++ List.replicate (6 - (lg_sl ([.ref x, .int 3, .int 0])).length) Slot.unset).toArray = ls at hl ⊢
  have hl : lv_has ls 6 [(0, .ref x), (1, .int 3), (2, .int 0)] := hl
  refine lv_aload_n hx hb dX9_move_0 rfl (lv_at hl 0 rfl) ?_
  refine va_get (D := D) (ci := 9) (v := .ref x_state) (C := RX9) (T := TX9) (N := 19) hx hb hts (by decide +kernel) hown hK hP 0 rfl rfl 0 (by decide) (hts (.fieldLink RX9 10 "TurnedFloors" "state" "LTurnedFloors$State;") (by decide +kernel)) (fun _ h9 => h9) rfl dX9_move_1 ?_
  refine va_getN (D := D) (ci := 6) (v := .ref x_state_tower) (C := RX6) (T := TX6) (N := 10) hx hb hts (by decide +kernel) hown hK hP 1 rfl rfl 0 (by decide) (hN.use (.fieldLinkNest "TurnedFloors" 122 "TurnedFloors$State" "tower" "LTurnedFloors$Tower;" "TurnedFloors") (by decide +kernel)) (fun _ h9 => h9) rfl dX9_move_4 ?_
  refine kz_kl (wc := [(x_state_tower, .inr (8, [.ref x_state_tower_rank, .ref x_state_tower_head, .int 0, .int 0, .int 0])), (x_state_tower_rank, .inl (ty 0, 6, .inl (fun _ => 0))), (x_state_tower_head, .inl (ty 0, 6, .inl (fun _ => 0)))]) (wr := [(x, .inr (9, [.ref x_state, .ref x_images, .ref x_kept, .ref x_history, .ref x_drawnTower, .ref x_machine, .ref x_judge, .ref x_runner, .ref x_reader, .ref x_draft, .ref x_paper, .ref x_tape, .int 0, .int (-1), .int 0, .int (-1), .ref x_chances, .ref x_refusals, .int 0])), (x_state, .inr (6, [.ref x_state_tower, .int 1, .int 0, .int 0, .ref x_state_seenPlace, .ref x_state_seenRank, .int 0, .ref x_state_laws, .int 0, .int (-1)])), (x_judge, .inr (1, [.ref x_machine, .ref x_judge_words, .null])), (x_judge_words, .inl (ty 0, 9, .inl (fun _ => 0))), (x_history, .inr (0, [.ref x_history_towers, .ref x_history_kinds, .int 0, .ref x_history_markedTowers, .ref x_history_markedKinds, .int 0])), (x_history_towers, .inl (ty 1, 16, .inr (.inl (fun _ => 0)))), (x_history_kinds, .inl (ty 0, 16, .inl (fun _ => 0)))]) (va_runV (As := []) (rest := []) ⟨hx, hb, hml, hown, hts⟩ (kX8_pack_40 l D ty eo _ x_state_tower x_state_tower_rank x_state_tower_head) (cwV 0 hts gX9_move_X8_pack rfl rfl rfl (by decide +kernel) ⟨Nat.le_of_ble_eq_true rfl, Nat.le_of_ble_eq_true rfl⟩) (kz_preV (ci := 8) (q0 := 2) hK hN hE hP hD hS hA rfl rfl [2, 3, 4] (by decide) rfl) rfl rfl hl.1 rfl (lv_room (Nat.le_of_ble_eq_true rfl)) dX9_move_7 ⟨Nat.le_of_ble_eq_true rfl, Nat.le_of_ble_eq_true rfl⟩) hP hD hS hA [2, 3, 4] [0, 1, 5, 6, 7, 8, 9] rfl rfl (by decide) (by decide) (fun r u H locs hw hp hd hs => ?_)
  obtain ⟨rfl, rfl⟩ := hw
  refine kz_re (w2 := [(x, .inr (9, [.ref x_state, .ref x_images, .ref x_kept, .ref x_history, .ref x_drawnTower, .ref x_machine, .ref x_judge, .ref x_runner, .ref x_reader, .ref x_draft, .ref x_paper, .ref x_tape, .int 0, .int (-1), .int 0, .int (-1), .ref x_chances, .ref x_refusals, .int 0])), (x_state, .inr (6, [.ref x_state_tower, .int 1, .int 0, .int 0, .ref x_state_seenPlace, .ref x_state_seenRank, .int 0, .ref x_state_laws, .int 0, .int (-1)])), (x_judge, .inr (1, [.ref x_machine, .ref x_judge_words, .null])), (x_judge_words, .inl (ty 0, 9, .inl (fun _ => 0))), (x_history, .inr (0, [.ref x_history_towers, .ref x_history_kinds, .int 0, .ref x_history_markedTowers, .ref x_history_markedKinds, .int 0])), (x_history_towers, .inl (ty 1, 16, .inr (.inl (fun _ => 0)))), (x_history_kinds, .inl (ty 0, 16, .inl (fun _ => 0))), (x_state_tower, .inr (8, [.ref x_state_tower_rank, .ref x_state_tower_head, .int 0, .int 0, .int 0])), (x_state_tower_rank, .inl (ty 0, 6, .inl (fun _ => 0))), (x_state_tower_head, .inl (ty 0, 6, .inl (fun _ => 0)))]) hp hd hs rfl ?_
  clear hp hd hs hP hD hS
  intro hP hD hS
  refine lv_lstore_n (lv' := [(3, .long 0), (0, .ref x), (1, .int 3), (2, .int 0)]) hx hb dX9_move_10 rfl hl (by decide) rfl (fun ls hl => ?_)
  refine lv_aload_n hx hb dX9_move_11 rfl (lv_at hl 1 rfl) ?_
  refine va_get (D := D) (ci := 9) (v := .ref x_state) (C := RX9) (T := TX9) (N := 19) hx hb hts (by decide +kernel) hown hK hP 0 rfl rfl 0 (by decide) (hts (.fieldLink RX9 10 "TurnedFloors" "state" "LTurnedFloors$State;") (by decide +kernel)) (fun _ h9 => h9) rfl dX9_move_12 ?_
  refine va_getN (D := D) (ci := 6) (v := .ref x_state_tower) (C := RX6) (T := TX6) (N := 10) hx hb hts (by decide +kernel) hown hK hP 1 rfl rfl 0 (by decide) (hN.use (.fieldLinkNest "TurnedFloors" 122 "TurnedFloors$State" "tower" "LTurnedFloors$Tower;" "TurnedFloors") (by decide +kernel)) (fun _ h9 => h9) rfl dX9_move_15 ?_
  refine lv_iload_n hx hb dX9_move_18 rfl (lv_at hl 2 rfl) ?_
  refine lv_iload_n hx hb dX9_move_19 rfl (lv_at hl 3 rfl) ?_
  refine lv_aload_n hx hb dX9_move_20 rfl (lv_at hl 1 rfl) ?_
  refine kz_kq (wc := [(x, .inr (9, [.ref x_state, .ref x_images, .ref x_kept, .ref x_history, .ref x_drawnTower, .ref x_machine, .ref x_judge, .ref x_runner, .ref x_reader, .ref x_draft, .ref x_paper, .ref x_tape, .int 0, .int (-1), .int 0, .int (-1), .ref x_chances, .ref x_refusals, .int 0])), (x_state, .inr (6, [.ref x_state_tower, .int 1, .int 0, .int 0, .ref x_state_seenPlace, .ref x_state_seenRank, .int 0, .ref x_state_laws, .int 0, .int (-1)])), (x_judge, .inr (1, [.ref x_machine, .ref x_judge_words, .null])), (x_judge_words, .inl (ty 0, 9, .inl (fun _ => 0)))]) (wr := [(x_history, .inr (0, [.ref x_history_towers, .ref x_history_kinds, .int 0, .ref x_history_markedTowers, .ref x_history_markedKinds, .int 0])), (x_history_towers, .inl (ty 1, 16, .inr (.inl (fun _ => 0)))), (x_history_kinds, .inl (ty 0, 16, .inl (fun _ => 0))), (x_state_tower, .inr (8, [.ref x_state_tower_rank, .ref x_state_tower_head, .int 0, .int 0, .int 0])), (x_state_tower_rank, .inl (ty 0, 6, .inl (fun _ => 0))), (x_state_tower_head, .inl (ty 0, 6, .inl (fun _ => 0)))]) (va_runV (As := []) (rest := [.int 0, .int 3, .ref x_state_tower]) ⟨hx, hb, hml, hown, hts⟩ (kX9_seated_42 l D ty eo _ x x_state x_images x_kept x_history x_drawnTower x_machine x_judge x_runner x_reader x_draft x_paper x_tape x_chances x_refusals x_state_tower x_state_seenPlace x_state_seenRank x_state_laws x_judge_words) (cwV 0 hts gX9_move_X9_seated rfl rfl rfl (by decide +kernel) ⟨Nat.le_of_ble_eq_true rfl, Nat.le_of_ble_eq_true rfl⟩) (kz_preV (ci := 9) (q0 := 0) hK hN hE hP hD hS hA rfl rfl [0, 1, 2, 3] (by decide) rfl) rfl rfl hl.1 rfl (lv_room (Nat.le_of_ble_eq_true rfl)) dX9_move_21 ⟨Nat.le_of_ble_eq_true rfl, Nat.le_of_ble_eq_true rfl⟩) hP hD hS hA [0, 1, 2, 3] [4, 5, 6, 7, 8, 9] rfl rfl (by decide) (by decide) (fun r u H locs hw hp hd hs => ?_)
  obtain ⟨rfl, rfl⟩ := hw
  refine kz_re (w2 := [(x_history, .inr (0, [.ref x_history_towers, .ref x_history_kinds, .int 0, .ref x_history_markedTowers, .ref x_history_markedKinds, .int 0])), (x_history_towers, .inl (ty 1, 16, .inr (.inl (fun _ => 0)))), (x_history_kinds, .inl (ty 0, 16, .inl (fun _ => 0))), (x_state_tower, .inr (8, [.ref x_state_tower_rank, .ref x_state_tower_head, .int 0, .int 0, .int 0])), (x_state_tower_rank, .inl (ty 0, 6, .inl (fun _ => 0))), (x_state_tower_head, .inl (ty 0, 6, .inl (fun _ => 0))), (x, .inr (9, [.ref x_state, .ref x_images, .ref x_kept, .ref x_history, .ref x_drawnTower, .ref x_machine, .ref x_judge, .ref x_runner, .ref x_reader, .ref x_draft, .ref x_paper, .ref x_tape, .int 0, .int (-1), .int 0, .int (-1), .ref x_chances, .ref x_refusals, .int 0])), (x_state, .inr (6, [.ref x_state_tower, .int 1, .int 0, .int 0, .ref x_state_seenPlace, .ref x_state_seenRank, .int 0, .ref x_state_laws, .int 0, .int (-1)])), (x_judge, .inr (1, [.ref x_machine, .ref x_judge_words, .null])), (x_judge_words, .inl (ty 0, 9, .inl (upd (fun _ => 0) 8 0)))]) hp hd hs rfl ?_
  clear hp hd hs hP hD hS
  intro hP hD hS
  refine kz_ki (wc := [(x_state_tower, .inr (8, [.ref x_state_tower_rank, .ref x_state_tower_head, .int 0, .int 0, .int 0]))]) (wr := [(x_history, .inr (0, [.ref x_history_towers, .ref x_history_kinds, .int 0, .ref x_history_markedTowers, .ref x_history_markedKinds, .int 0])), (x_history_towers, .inl (ty 1, 16, .inr (.inl (fun _ => 0)))), (x_history_kinds, .inl (ty 0, 16, .inl (fun _ => 0))), (x_state_tower_rank, .inl (ty 0, 6, .inl (fun _ => 0))), (x_state_tower_head, .inl (ty 0, 6, .inl (fun _ => 0))), (x, .inr (9, [.ref x_state, .ref x_images, .ref x_kept, .ref x_history, .ref x_drawnTower, .ref x_machine, .ref x_judge, .ref x_runner, .ref x_reader, .ref x_draft, .ref x_paper, .ref x_tape, .int 0, .int (-1), .int 0, .int (-1), .ref x_chances, .ref x_refusals, .int 0])), (x_state, .inr (6, [.ref x_state_tower, .int 1, .int 0, .int 0, .ref x_state_seenPlace, .ref x_state_seenRank, .int 0, .ref x_state_laws, .int 0, .int (-1)])), (x_judge, .inr (1, [.ref x_machine, .ref x_judge_words, .null])), (x_judge_words, .inl (ty 0, 9, .inl (upd (fun _ => 0) 8 0)))]) (va_runV (As := [.int 3, .int 0, .ref x_judge]) (rest := []) ⟨hx, hb, hml, hown, hts⟩ (kX8_act_66 l D ty eo _ x_state_tower x_judge x_state_tower_rank x_state_tower_head) (cwV 3 hts gX9_move_X8_act rfl rfl rfl (by decide +kernel) ⟨Nat.le_of_ble_eq_true rfl, Nat.le_of_ble_eq_true rfl⟩) (kz_preV (ci := 8) (q0 := 3) hK hN hE hP hD hS hA rfl rfl [3] (by decide) rfl) rfl rfl hl.1 rfl (lv_room (Nat.le_of_ble_eq_true rfl)) dX9_move_24 ⟨Nat.le_of_ble_eq_true rfl, Nat.le_of_ble_eq_true rfl⟩) hP hD hS hA [3] [0, 1, 2, 4, 5, 6, 7, 8, 9] rfl rfl (by decide) (by decide) (fun r u H locs hw hp hd hs => ?_)
  obtain ⟨rfl, rfl⟩ := hw
  refine kz_re (w2 := [(x_history, .inr (0, [.ref x_history_towers, .ref x_history_kinds, .int 0, .ref x_history_markedTowers, .ref x_history_markedKinds, .int 0])), (x_history_towers, .inl (ty 1, 16, .inr (.inl (fun _ => 0)))), (x_history_kinds, .inl (ty 0, 16, .inl (fun _ => 0))), (x_state_tower_rank, .inl (ty 0, 6, .inl (fun _ => 0))), (x_state_tower_head, .inl (ty 0, 6, .inl (fun _ => 0))), (x, .inr (9, [.ref x_state, .ref x_images, .ref x_kept, .ref x_history, .ref x_drawnTower, .ref x_machine, .ref x_judge, .ref x_runner, .ref x_reader, .ref x_draft, .ref x_paper, .ref x_tape, .int 0, .int (-1), .int 0, .int (-1), .ref x_chances, .ref x_refusals, .int 0])), (x_state, .inr (6, [.ref x_state_tower, .int 1, .int 0, .int 0, .ref x_state_seenPlace, .ref x_state_seenRank, .int 0, .ref x_state_laws, .int 0, .int (-1)])), (x_judge, .inr (1, [.ref x_machine, .ref x_judge_words, .null])), (x_judge_words, .inl (ty 0, 9, .inl (upd (fun _ => 0) 8 0))), (x_state_tower, .inr (8, [.ref x_state_tower_rank, .ref x_state_tower_head, .int 0, .int 0, .int 1]))]) hp hd hs rfl ?_
  clear hp hd hs hP hD hS
  intro hP hD hS
  refine lv_istore (lv' := [(5, .int 0), (3, .long 0), (0, .ref x), (1, .int 3), (2, .int 0)]) hx hb dX9_move_27 hl (by decide) rfl (fun ls hl => ?_)
  refine lv_iload hx hb dX9_move_29 (lv_at hl 0 rfl) ?_
  refine lv_if_ge (tgt := 41) hx hb dX9_move_31 (by decide) (fun _ => ?_) (fun h => absurd (by decide) h)
  refine lv_aload_n hx hb dX9_move_41 rfl (lv_at hl 2 rfl) ?_
  refine va_get (D := D) (ci := 9) (v := .ref x_history) (C := RX9) (T := TX9) (N := 19) hx hb hts (by decide +kernel) hown hK hP 5 rfl rfl 3 (by decide) (hts (.fieldLink RX9 27 "TurnedFloors" "history" "LTurnedFloors$History;") (by decide +kernel)) (fun _ h9 => h9) rfl dX9_move_42 ?_
  refine lv_iload_n hx hb dX9_move_45 rfl (lv_at hl 3 rfl) ?_
  refine lv_lload_n hx hb dX9_move_46 rfl (lv_at hl 1 rfl) ?_
  refine kz_kv (wc := [(x_history, .inr (0, [.ref x_history_towers, .ref x_history_kinds, .int 0, .ref x_history_markedTowers, .ref x_history_markedKinds, .int 0])), (x_history_towers, .inl (ty 1, 16, .inr (.inl (fun _ => 0)))), (x_history_kinds, .inl (ty 0, 16, .inl (fun _ => 0)))]) (wr := [(x_state_tower_rank, .inl (ty 0, 6, .inl (fun _ => 0))), (x_state_tower_head, .inl (ty 0, 6, .inl (fun _ => 0))), (x, .inr (9, [.ref x_state, .ref x_images, .ref x_kept, .ref x_history, .ref x_drawnTower, .ref x_machine, .ref x_judge, .ref x_runner, .ref x_reader, .ref x_draft, .ref x_paper, .ref x_tape, .int 0, .int (-1), .int 0, .int (-1), .ref x_chances, .ref x_refusals, .int 0])), (x_state, .inr (6, [.ref x_state_tower, .int 1, .int 0, .int 0, .ref x_state_seenPlace, .ref x_state_seenRank, .int 0, .ref x_state_laws, .int 0, .int (-1)])), (x_judge, .inr (1, [.ref x_machine, .ref x_judge_words, .null])), (x_judge_words, .inl (ty 0, 9, .inl (upd (fun _ => 0) 8 0))), (x_state_tower, .inr (8, [.ref x_state_tower_rank, .ref x_state_tower_head, .int 0, .int 0, .int 1]))]) (va_runV (As := [.int 3, .long 0]) (rest := []) ⟨hx, hb, hml, hown, hts⟩ (kX0_keep_71 l D ty eo _ x_history x_history_towers x_history_kinds x_history_markedTowers x_history_markedKinds) (cwV 2 hts gX9_move_X0_keep rfl rfl rfl (by decide +kernel) ⟨Nat.le_of_ble_eq_true rfl, Nat.le_of_ble_eq_true rfl⟩) (kz_preV (ci := 0) (q0 := 0) hK hN hE hP hD hS hA rfl rfl [0, 1, 2] (by decide) rfl) rfl rfl hl.1 rfl (lv_room (Nat.le_of_ble_eq_true rfl)) dX9_move_47 ⟨Nat.le_of_ble_eq_true rfl, Nat.le_of_ble_eq_true rfl⟩) hP hD hS hA [0, 1, 2] [3, 4, 5, 6, 7, 8, 9] rfl rfl (by decide) (by decide) (fun u H locs hw hp hd hs => ?_)
  obtain rfl := hw
  refine kz_re (w2 := [(x_state_tower_rank, .inl (ty 0, 6, .inl (fun _ => 0))), (x_state_tower_head, .inl (ty 0, 6, .inl (fun _ => 0))), (x, .inr (9, [.ref x_state, .ref x_images, .ref x_kept, .ref x_history, .ref x_drawnTower, .ref x_machine, .ref x_judge, .ref x_runner, .ref x_reader, .ref x_draft, .ref x_paper, .ref x_tape, .int 0, .int (-1), .int 0, .int (-1), .ref x_chances, .ref x_refusals, .int 0])), (x_state, .inr (6, [.ref x_state_tower, .int 1, .int 0, .int 0, .ref x_state_seenPlace, .ref x_state_seenRank, .int 0, .ref x_state_laws, .int 0, .int (-1)])), (x_judge, .inr (1, [.ref x_machine, .ref x_judge_words, .null])), (x_judge_words, .inl (ty 0, 9, .inl (upd (fun _ => 0) 8 0))), (x_state_tower, .inr (8, [.ref x_state_tower_rank, .ref x_state_tower_head, .int 0, .int 0, .int 1])), (x_history, .inr (0, [.ref x_history_towers, .ref x_history_kinds, .int 1, .ref x_history_markedTowers, .ref x_history_markedKinds, .int 0])), (x_history_towers, .inl (ty 1, 16, .inr (.inl (vp_updL (fun _ => 0) 0 0)))), (x_history_kinds, .inl (ty 0, 16, .inl (upd (fun _ => 0) 0 3)))]) hp hd hs rfl ?_
  clear hp hd hs hP hD hS
  intro hP hD hS
  refine lv_aload_n hx hb dX9_move_50 rfl (lv_at hl 2 rfl) ?_
  refine lv_iload hx hb dX9_move_51 (lv_at hl 0 rfl) ?_
  refine kz_ki (wc := [(x, .inr (9, [.ref x_state, .ref x_images, .ref x_kept, .ref x_history, .ref x_drawnTower, .ref x_machine, .ref x_judge, .ref x_runner, .ref x_reader, .ref x_draft, .ref x_paper, .ref x_tape, .int 0, .int (-1), .int 0, .int (-1), .ref x_chances, .ref x_refusals, .int 0]))]) (wr := [(x_state_tower_rank, .inl (ty 0, 6, .inl (fun _ => 0))), (x_state_tower_head, .inl (ty 0, 6, .inl (fun _ => 0))), (x_state, .inr (6, [.ref x_state_tower, .int 1, .int 0, .int 0, .ref x_state_seenPlace, .ref x_state_seenRank, .int 0, .ref x_state_laws, .int 0, .int (-1)])), (x_judge, .inr (1, [.ref x_machine, .ref x_judge_words, .null])), (x_judge_words, .inl (ty 0, 9, .inl (upd (fun _ => 0) 8 0))), (x_state_tower, .inr (8, [.ref x_state_tower_rank, .ref x_state_tower_head, .int 0, .int 0, .int 1])), (x_history, .inr (0, [.ref x_history_towers, .ref x_history_kinds, .int 1, .ref x_history_markedTowers, .ref x_history_markedKinds, .int 0])), (x_history_towers, .inl (ty 1, 16, .inr (.inl (vp_updL (fun _ => 0) 0 0)))), (x_history_kinds, .inl (ty 0, 16, .inl (upd (fun _ => 0) 0 3)))]) (va_runV (As := [.int 0]) (rest := []) ⟨hx, hb, hml, hown, hts⟩ (kcX9_accept l D ty eo _ x (.ref x_state) (.ref x_images) (.ref x_kept) (.ref x_history) (.ref x_drawnTower) (.ref x_machine) (.ref x_judge) (.ref x_runner) (.ref x_reader) (.ref x_draft) (.ref x_paper) (.ref x_tape) (.int 0) (.int (-1)) (.int 0) (.int (-1)) (.ref x_chances) (.ref x_refusals) (.int 0) 0) (cwV 1 hts gX9_move_X9_accept rfl rfl rfl (by decide +kernel) ⟨Nat.le_of_ble_eq_true rfl, Nat.le_of_ble_eq_true rfl⟩) (kz_preV (ci := 9) (q0 := 2) hK hN hE hP hD hS hA rfl rfl [2] (by decide) rfl) rfl rfl hl.1 rfl (lv_room (Nat.le_of_ble_eq_true rfl)) dX9_move_53 ⟨Nat.le_of_ble_eq_true rfl, Nat.le_of_ble_eq_true rfl⟩) hP hD hS hA [2] [0, 1, 3, 4, 5, 6, 7, 8, 9] rfl rfl (by decide) (by decide) (fun r u H locs hw hp hd hs => ?_)
  obtain ⟨rfl, rfl⟩ := hw
  refine kz_re (w2 := [(x_state_tower_rank, .inl (ty 0, 6, .inl (fun _ => 0))), (x_state_tower_head, .inl (ty 0, 6, .inl (fun _ => 0))), (x_state, .inr (6, [.ref x_state_tower, .int 1, .int 0, .int 0, .ref x_state_seenPlace, .ref x_state_seenRank, .int 0, .ref x_state_laws, .int 0, .int (-1)])), (x_judge, .inr (1, [.ref x_machine, .ref x_judge_words, .null])), (x_judge_words, .inl (ty 0, 9, .inl (upd (fun _ => 0) 8 0))), (x_state_tower, .inr (8, [.ref x_state_tower_rank, .ref x_state_tower_head, .int 0, .int 0, .int 1])), (x_history, .inr (0, [.ref x_history_towers, .ref x_history_kinds, .int 1, .ref x_history_markedTowers, .ref x_history_markedKinds, .int 0])), (x_history_towers, .inl (ty 1, 16, .inr (.inl (vp_updL (fun _ => 0) 0 0)))), (x_history_kinds, .inl (ty 0, 16, .inl (upd (fun _ => 0) 0 3))), (x, .inr (9, [.ref x_state, .ref x_images, .ref x_kept, .ref x_history, .ref x_drawnTower, .ref x_machine, .ref x_judge, .ref x_runner, .ref x_reader, .ref x_draft, .ref x_paper, .ref x_tape, .int 0, .int (-1), .int 0, .int (-1), .ref x_chances, .ref x_refusals, .int 0]))]) hp hd hs rfl ?_
  clear hp hd hs hP hD hS
  intro hP hD hS
  exact kz_iret hx hb hr hlocks hP hK hD hS dX9_move_56 ⟨rfl, rfl⟩

set_option maxHeartbeats 4000000 in
set_option maxRecDepth 100000 in
theorem fX9_pass (l : Launch) (D : va_G) (ty : Nat → ClassId) (eo : Nat → Nat) (sz : Nat) (x x_state x_images x_kept x_history x_drawnTower x_machine x_judge x_runner x_reader x_draft x_paper x_tape x_chances x_refusals x_state_tower x_state_seenPlace x_state_seenRank x_state_laws x_state_tower_rank x_state_tower_head x_judge_words x_history_towers x_history_kinds x_history_markedTowers x_history_markedKinds : Nat) : Met l yX9_pass wsX9_pass ({ frames := 4, cells := 0, slots := 0, locals := 91 }) (va_Pc [.ref x] (kz_pre D ty eo [(x, .inr (9, [.ref x_state, .ref x_images, .ref x_kept, .ref x_history, .ref x_drawnTower, .ref x_machine, .ref x_judge, .ref x_runner, .ref x_reader, .ref x_draft, .ref x_paper, .ref x_tape, .int 0, .int (-1), .int 0, .int (-1), .ref x_chances, .ref x_refusals, .int 0])), (x_state, .inr (6, [.ref x_state_tower, .int 1, .int 0, .int 0, .ref x_state_seenPlace, .ref x_state_seenRank, .int 0, .ref x_state_laws, .int 0, .int (-1)])), (x_state_tower, .inr (8, [.ref x_state_tower_rank, .ref x_state_tower_head, .int 0, .int 0, .int 0])), (x_state_tower_rank, .inl (ty 0, 6, .inl (fun _ => 0))), (x_state_tower_head, .inl (ty 0, 6, .inl (fun _ => 0))), (x_judge, .inr (1, [.ref x_machine, .ref x_judge_words, .null])), (x_judge_words, .inl (ty 0, 9, .inl (fun _ => 0))), (x_history, .inr (0, [.ref x_history_towers, .ref x_history_kinds, .int 0, .ref x_history_markedTowers, .ref x_history_markedKinds, .int 0])), (x_history_towers, .inl (ty 1, 16, .inr (.inl (fun _ => 0)))), (x_history_kinds, .inl (ty 0, 16, .inl (fun _ => 0)))] sz)) (va_Qi (fun (r : Int32) (u : va_W) => 0 = r ∧ [(x_state_tower_rank, .inl (ty 0, 6, .inl (fun _ => 0))), (x_state_tower_head, .inl (ty 0, 6, .inl (fun _ => 0))), (x_state, .inr (6, [.ref x_state_tower, .int 1, .int 0, .int 0, .ref x_state_seenPlace, .ref x_state_seenRank, .int 0, .ref x_state_laws, .int 0, .int (-1)])), (x_judge, .inr (1, [.ref x_machine, .ref x_judge_words, .null])), (x_judge_words, .inl (ty 0, 9, .inl (upd (fun _ => 0) 8 0))), (x_state_tower, .inr (8, [.ref x_state_tower_rank, .ref x_state_tower_head, .int 0, .int 0, .int 1])), (x_history, .inr (0, [.ref x_history_towers, .ref x_history_kinds, .int 1, .ref x_history_markedTowers, .ref x_history_markedKinds, .int 0])), (x_history_towers, .inl (ty 1, 16, .inr (.inl (vp_updL (fun _ => 0) 0 0)))), (x_history_kinds, .inl (ty 0, 16, .inl (upd (fun _ => 0) 0 3))), (x, .inr (9, [.ref x_state, .ref x_images, .ref x_kept, .ref x_history, .ref x_drawnTower, .ref x_machine, .ref x_judge, .ref x_runner, .ref x_reader, .ref x_draft, .ref x_paper, .ref x_tape, .int 0, .int (-1), .int 0, .int (-1), .ref x_chances, .ref x_refusals, .int 0]))] = u) (kz_B D ty (va_A [(x, .inr (9, [.ref x_state, .ref x_images, .ref x_kept, .ref x_history, .ref x_drawnTower, .ref x_machine, .ref x_judge, .ref x_runner, .ref x_reader, .ref x_draft, .ref x_paper, .ref x_tape, .int 0, .int (-1), .int 0, .int (-1), .ref x_chances, .ref x_refusals, .int 0])), (x_state, .inr (6, [.ref x_state_tower, .int 1, .int 0, .int 0, .ref x_state_seenPlace, .ref x_state_seenRank, .int 0, .ref x_state_laws, .int 0, .int (-1)])), (x_state_tower, .inr (8, [.ref x_state_tower_rank, .ref x_state_tower_head, .int 0, .int 0, .int 0])), (x_state_tower_rank, .inl (ty 0, 6, .inl (fun _ => 0))), (x_state_tower_head, .inl (ty 0, 6, .inl (fun _ => 0))), (x_judge, .inr (1, [.ref x_machine, .ref x_judge_words, .null])), (x_judge_words, .inl (ty 0, 9, .inl (fun _ => 0))), (x_history, .inr (0, [.ref x_history_towers, .ref x_history_kinds, .int 0, .ref x_history_markedTowers, .ref x_history_markedKinds, .int 0])), (x_history_towers, .inl (ty 1, 16, .inr (.inl (fun _ => 0)))), (x_history_kinds, .inl (ty 0, 16, .inl (fun _ => 0)))] sz)) (va_A [(x, .inr (9, [.ref x_state, .ref x_images, .ref x_kept, .ref x_history, .ref x_drawnTower, .ref x_machine, .ref x_judge, .ref x_runner, .ref x_reader, .ref x_draft, .ref x_paper, .ref x_tape, .int 0, .int (-1), .int 0, .int (-1), .ref x_chances, .ref x_refusals, .int 0])), (x_state, .inr (6, [.ref x_state_tower, .int 1, .int 0, .int 0, .ref x_state_seenPlace, .ref x_state_seenRank, .int 0, .ref x_state_laws, .int 0, .int (-1)])), (x_state_tower, .inr (8, [.ref x_state_tower_rank, .ref x_state_tower_head, .int 0, .int 0, .int 0])), (x_state_tower_rank, .inl (ty 0, 6, .inl (fun _ => 0))), (x_state_tower_head, .inl (ty 0, 6, .inl (fun _ => 0))), (x_judge, .inr (1, [.ref x_machine, .ref x_judge_words, .null])), (x_judge_words, .inl (ty 0, 9, .inl (fun _ => 0))), (x_history, .inr (0, [.ref x_history_towers, .ref x_history_kinds, .int 0, .ref x_history_markedTowers, .ref x_history_markedKinds, .int 0])), (x_history_towers, .inl (ty 1, 16, .inr (.inl (fun _ => 0)))), (x_history_kinds, .inl (ty 0, 16, .inl (fun _ => 0)))] sz)) 0 0 (va_A [(x, .inr (9, [.ref x_state, .ref x_images, .ref x_kept, .ref x_history, .ref x_drawnTower, .ref x_machine, .ref x_judge, .ref x_runner, .ref x_reader, .ref x_draft, .ref x_paper, .ref x_tape, .int 0, .int (-1), .int 0, .int (-1), .ref x_chances, .ref x_refusals, .int 0])), (x_state, .inr (6, [.ref x_state_tower, .int 1, .int 0, .int 0, .ref x_state_seenPlace, .ref x_state_seenRank, .int 0, .ref x_state_laws, .int 0, .int (-1)])), (x_state_tower, .inr (8, [.ref x_state_tower_rank, .ref x_state_tower_head, .int 0, .int 0, .int 0])), (x_state_tower_rank, .inl (ty 0, 6, .inl (fun _ => 0))), (x_state_tower_head, .inl (ty 0, 6, .inl (fun _ => 0))), (x_judge, .inr (1, [.ref x_machine, .ref x_judge_words, .null])), (x_judge_words, .inl (ty 0, 9, .inl (fun _ => 0))), (x_history, .inr (0, [.ref x_history_towers, .ref x_history_kinds, .int 0, .ref x_history_markedTowers, .ref x_history_markedKinds, .int 0])), (x_history_towers, .inl (ty 1, 16, .inr (.inl (fun _ => 0)))), (x_history_kinds, .inl (ty 0, 16, .inl (fun _ => 0)))] sz) := by
  refine Met.ofW (cc := cX9_pass) (maxL := 1) (ret := (some .int)) (by decide) rfl ?_
  intro p e s m args below meth c s₁ B hml hv
  obtain ⟨rfl, hsz, hP, hK, hD0, hN, hE⟩ := hv
  have hx := B.exec
  have hb := B.bytes
  have hr := B.returns
  have hts := atoms_spec (ws := wsX9_pass) B.pre
  have hown : s.vm.findClass RX9 = some m.cls := findClass_of_methodNamed B.named
  have hlocks := B.notSynchronized
  subst hsz
  have hD := hD0.self (sz := s.heap.size)
  generalize hAe : va_A [(x, .inr (9, [.ref x_state, .ref x_images, .ref x_kept, .ref x_history, .ref x_drawnTower, .ref x_machine, .ref x_judge, .ref x_runner, .ref x_reader, .ref x_draft, .ref x_paper, .ref x_tape, .int 0, .int (-1), .int 0, .int (-1), .ref x_chances, .ref x_refusals, .int 0])), (x_state, .inr (6, [.ref x_state_tower, .int 1, .int 0, .int 0, .ref x_state_seenPlace, .ref x_state_seenRank, .int 0, .ref x_state_laws, .int 0, .int (-1)])), (x_state_tower, .inr (8, [.ref x_state_tower_rank, .ref x_state_tower_head, .int 0, .int 0, .int 0])), (x_state_tower_rank, .inl (ty 0, 6, .inl (fun _ => 0))), (x_state_tower_head, .inl (ty 0, 6, .inl (fun _ => 0))), (x_judge, .inr (1, [.ref x_machine, .ref x_judge_words, .null])), (x_judge_words, .inl (ty 0, 9, .inl (fun _ => 0))), (x_history, .inr (0, [.ref x_history_towers, .ref x_history_kinds, .int 0, .ref x_history_markedTowers, .ref x_history_markedKinds, .int 0])), (x_history_towers, .inl (ty 1, 16, .inr (.inl (fun _ => 0)))), (x_history_kinds, .inl (ty 0, 16, .inl (fun _ => 0)))] s.heap.size = A at hD hE ⊢
  have hA : ∀ q : Nat, s.heap.size ≤ q → A q := fun q h => by rw [← hAe]; exact Or.inr h
  have hS : va_S A s.heap s.heap [] := va_S.rf
  have hl := lv_entry ([.ref x]) (n := 1) (Nat.le_of_ble_eq_true rfl)
  rw [lg_entry_eq]
  generalize (lg_sl ([.ref x]) ++ List.replicate (1 - (lg_sl ([.ref x])).length) Slot.unset).toArray = ls at hl ⊢
  have hl : lv_has ls 1 [(0, .ref x)] := hl
  refine lv_aload_n hx hb dX9_pass_0 rfl (lv_at hl 0 rfl) ?_
  refine lv_iconst (v := 3) hx hb dX9_pass_1 (by decide) ?_
  refine lv_iconst (v := 0) hx hb dX9_pass_2 (by decide) ?_
  refine kz_ki (wc := [(x, .inr (9, [.ref x_state, .ref x_images, .ref x_kept, .ref x_history, .ref x_drawnTower, .ref x_machine, .ref x_judge, .ref x_runner, .ref x_reader, .ref x_draft, .ref x_paper, .ref x_tape, .int 0, .int (-1), .int 0, .int (-1), .ref x_chances, .ref x_refusals, .int 0])), (x_state, .inr (6, [.ref x_state_tower, .int 1, .int 0, .int 0, .ref x_state_seenPlace, .ref x_state_seenRank, .int 0, .ref x_state_laws, .int 0, .int (-1)])), (x_state_tower, .inr (8, [.ref x_state_tower_rank, .ref x_state_tower_head, .int 0, .int 0, .int 0])), (x_state_tower_rank, .inl (ty 0, 6, .inl (fun _ => 0))), (x_state_tower_head, .inl (ty 0, 6, .inl (fun _ => 0))), (x_judge, .inr (1, [.ref x_machine, .ref x_judge_words, .null])), (x_judge_words, .inl (ty 0, 9, .inl (fun _ => 0))), (x_history, .inr (0, [.ref x_history_towers, .ref x_history_kinds, .int 0, .ref x_history_markedTowers, .ref x_history_markedKinds, .int 0])), (x_history_towers, .inl (ty 1, 16, .inr (.inl (fun _ => 0)))), (x_history_kinds, .inl (ty 0, 16, .inl (fun _ => 0)))]) (wr := []) (va_runV (As := [.int 3, .int 0]) (rest := []) ⟨hx, hb, hml, hown, hts⟩ (kX9_move_65 l D ty eo _ x x_state x_images x_kept x_history x_drawnTower x_machine x_judge x_runner x_reader x_draft x_paper x_tape x_chances x_refusals x_state_tower x_state_seenPlace x_state_seenRank x_state_laws x_state_tower_rank x_state_tower_head x_judge_words x_history_towers x_history_kinds x_history_markedTowers x_history_markedKinds) (cwV 2 hts gX9_pass_X9_move rfl rfl rfl (by decide +kernel) ⟨Nat.le_of_ble_eq_true rfl, Nat.le_of_ble_eq_true rfl⟩) (kz_preV (ci := 9) (q0 := 0) hK hN hE hP hD hS hA rfl rfl [0, 1, 2, 3, 4, 5, 6, 7, 8, 9] (by decide) rfl) rfl rfl hl.1 rfl (lv_room (Nat.le_of_ble_eq_true rfl)) dX9_pass_3 ⟨Nat.le_of_ble_eq_true rfl, Nat.le_of_ble_eq_true rfl⟩) hP hD hS hA [0, 1, 2, 3, 4, 5, 6, 7, 8, 9] [] rfl rfl (by decide) (by decide) (fun r u H locs hw hp hd hs => ?_)
  obtain ⟨rfl, rfl⟩ := hw
  refine kz_re (w2 := [(x_state_tower_rank, .inl (ty 0, 6, .inl (fun _ => 0))), (x_state_tower_head, .inl (ty 0, 6, .inl (fun _ => 0))), (x_state, .inr (6, [.ref x_state_tower, .int 1, .int 0, .int 0, .ref x_state_seenPlace, .ref x_state_seenRank, .int 0, .ref x_state_laws, .int 0, .int (-1)])), (x_judge, .inr (1, [.ref x_machine, .ref x_judge_words, .null])), (x_judge_words, .inl (ty 0, 9, .inl (upd (fun _ => 0) 8 0))), (x_state_tower, .inr (8, [.ref x_state_tower_rank, .ref x_state_tower_head, .int 0, .int 0, .int 1])), (x_history, .inr (0, [.ref x_history_towers, .ref x_history_kinds, .int 1, .ref x_history_markedTowers, .ref x_history_markedKinds, .int 0])), (x_history_towers, .inl (ty 1, 16, .inr (.inl (vp_updL (fun _ => 0) 0 0)))), (x_history_kinds, .inl (ty 0, 16, .inl (upd (fun _ => 0) 0 3))), (x, .inr (9, [.ref x_state, .ref x_images, .ref x_kept, .ref x_history, .ref x_drawnTower, .ref x_machine, .ref x_judge, .ref x_runner, .ref x_reader, .ref x_draft, .ref x_paper, .ref x_tape, .int 0, .int (-1), .int 0, .int (-1), .ref x_chances, .ref x_refusals, .int 0]))]) hp hd hs rfl ?_
  clear hp hd hs hP hD hS
  intro hP hD hS
  exact kz_iret hx hb hr hlocks hP hK hD hS dX9_pass_6 ⟨rfl, rfl⟩
