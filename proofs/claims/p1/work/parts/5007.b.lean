set_option maxHeartbeats 4000000 in
set_option maxRecDepth 100000 in
theorem fX9_reach (l : Launch) (D : va_G) (ty : Nat → ClassId) (eo : Nat → Nat) (sz : Nat) (x x_state x_images x_kept x_history x_drawnTower x_machine x_judge x_runner x_reader x_draft x_paper x_tape x_chances x_refusals x_state_tower x_state_seenPlace x_state_seenRank x_state_laws x_judge_words x_state_tower_rank x_state_tower_head x_paper_ranks x_paper_digits x_paper_barred x_paper_pays x_paper_measuredBarred x_paper_buckets x_paper_orders x_paper_turnedOrders x_paper_turnedHeads x_paper_toOrder x_paper_marks x_paper_line x_paper_links : Nat) : Met l yX9_reach wsX9_reach ({ frames := 6, cells := 7, slots := 17, locals := 138 }) (va_Pc [.ref x] (kz_pre D ty eo [(x, .inr (9, [.ref x_state, .ref x_images, .ref x_kept, .ref x_history, .ref x_drawnTower, .ref x_machine, .ref x_judge, .ref x_runner, .ref x_reader, .ref x_draft, .ref x_paper, .ref x_tape, .int 0, .int (-1), .int 0, .int (-1), .ref x_chances, .ref x_refusals, .int 0])), (x_state, .inr (6, [.ref x_state_tower, .int 1, .int 0, .int 0, .ref x_state_seenPlace, .ref x_state_seenRank, .int 0, .ref x_state_laws, .int 0, .int (-1)])), (x_judge, .inr (1, [.ref x_machine, .ref x_judge_words, .null])), (x_judge_words, .inl (ty 0, 9, .inl (fun _ => 0))), (x_state_tower, .inr (8, [.ref x_state_tower_rank, .ref x_state_tower_head, .int 0, .int 0, .int 0])), (x_paper, .inr (3, [.ref x_paper_ranks, .ref x_paper_digits, .ref x_paper_barred, .ref x_paper_pays, .ref x_paper_measuredBarred, .ref x_paper_buckets, .ref x_paper_orders, .ref x_paper_turnedOrders, .ref x_paper_turnedHeads, .ref x_paper_toOrder, .ref x_paper_marks, .ref x_paper_line, .ref x_paper_links, .int 0, .int 0, .int 0, .int 0, .int (-1), .int (-1), .int 0])), (x_paper_toOrder, .inl (ty 0, 0, .inl (fun _ => 0))), (x_paper_digits, .inl (ty 0, 6, .inl (fun _ => 0))), (x_paper_barred, .inl (ty 0, 504, .inl (fun _ => 0)))] sz)) (va_Qi (fun (r : Int32) (u : va_W) => ∃ q_1 q_2 q_3 q_4 q_5 q_6 q_7 : Nat, 1 = r ∧ [(x, .inr (9, [.ref x_state, .ref x_images, .ref x_kept, .ref x_history, .ref x_drawnTower, .ref x_machine, .ref x_judge, .ref x_runner, .ref x_reader, .ref x_draft, .ref x_paper, .ref x_tape, .int 0, .int (-1), .int 0, .int (-1), .ref x_chances, .ref x_refusals, .int 0])), (x_state, .inr (6, [.ref x_state_tower, .int 1, .int 0, .int 0, .ref x_state_seenPlace, .ref x_state_seenRank, .int 0, .ref x_state_laws, .int 0, .int (-1)])), (x_paper_toOrder, .inl (ty 0, 0, .inl (fun _ => 0))), (q_1, .inl (ty 0, 1, .inl (fun _ => 0))), (q_4, .inl (ty 0, 1, .inl (fun _ => 0))), (q_6, .inl (ty 0, 6, .inl (fun _ => 0))), (q_7, .inl (ty 0, 6, .inl (fun _ => 0))), (q_5, .inl (ty 0, 1, .inl (upd (upd (upd (upd (upd (upd (fun _ => 0) 0 0) 0 8) 0 136) 0 1672) 0 18056) 0 181896))), (x_state_tower, .inr (8, [.ref x_state_tower_rank, .ref x_state_tower_head, .int 0, .int 0, .int 0])), (x_paper_digits, .inl (ty 0, 6, .inl (upd (upd (upd (upd (upd (upd (upd (upd (upd (upd (upd (upd (upd (upd (upd (upd (upd (upd (upd (upd (upd (upd (upd (upd (upd (upd (upd (fun _ => 0) 0 0) 0 0) 1 1) 0 0) 1 1) 2 2) 0 0) 1 1) 2 2) 3 3) 0 0) 1 1) 2 2) 3 3) 4 4) 0 0) 1 1) 2 2) 3 3) 4 4) 5 5) 0 0) 1 1) 2 2) 3 3) 4 4) 5 5))), (x_paper_barred, .inl (ty 0, 504, .inl (kz_fl (fun _ => 0) 504 0))), (x_judge, .inr (1, [.ref x_machine, .ref x_judge_words, .null])), (x_judge_words, .inl (ty 0, 9, .inl (upd (upd (upd (fun _ => 0) 8 0) 4 0) 7 0))), (q_3, .inl (ty 0, 1, .inl (upd (fun _ => 0) 0 0))), (q_2, .inl (ty 0, 1, .inl (upd (kz_fl (fun _ => 0) 1 (-1)) 0 0))), (x_paper, .inr (3, [.ref x_paper_ranks, .ref x_paper_digits, .ref x_paper_barred, .ref x_paper_pays, .ref x_paper_measuredBarred, .ref x_paper_buckets, .ref q_5, .ref q_6, .ref q_7, .ref q_1, .ref q_2, .ref q_3, .ref q_4, .int 0, .int 1, .int 0, .int 0, .int (-1), .int (-1), .int 1]))] = u) (kz_B D ty (va_A [(x, .inr (9, [.ref x_state, .ref x_images, .ref x_kept, .ref x_history, .ref x_drawnTower, .ref x_machine, .ref x_judge, .ref x_runner, .ref x_reader, .ref x_draft, .ref x_paper, .ref x_tape, .int 0, .int (-1), .int 0, .int (-1), .ref x_chances, .ref x_refusals, .int 0])), (x_state, .inr (6, [.ref x_state_tower, .int 1, .int 0, .int 0, .ref x_state_seenPlace, .ref x_state_seenRank, .int 0, .ref x_state_laws, .int 0, .int (-1)])), (x_judge, .inr (1, [.ref x_machine, .ref x_judge_words, .null])), (x_judge_words, .inl (ty 0, 9, .inl (fun _ => 0))), (x_state_tower, .inr (8, [.ref x_state_tower_rank, .ref x_state_tower_head, .int 0, .int 0, .int 0])), (x_paper, .inr (3, [.ref x_paper_ranks, .ref x_paper_digits, .ref x_paper_barred, .ref x_paper_pays, .ref x_paper_measuredBarred, .ref x_paper_buckets, .ref x_paper_orders, .ref x_paper_turnedOrders, .ref x_paper_turnedHeads, .ref x_paper_toOrder, .ref x_paper_marks, .ref x_paper_line, .ref x_paper_links, .int 0, .int 0, .int 0, .int 0, .int (-1), .int (-1), .int 0])), (x_paper_toOrder, .inl (ty 0, 0, .inl (fun _ => 0))), (x_paper_digits, .inl (ty 0, 6, .inl (fun _ => 0))), (x_paper_barred, .inl (ty 0, 504, .inl (fun _ => 0)))] sz)) (va_A [(x, .inr (9, [.ref x_state, .ref x_images, .ref x_kept, .ref x_history, .ref x_drawnTower, .ref x_machine, .ref x_judge, .ref x_runner, .ref x_reader, .ref x_draft, .ref x_paper, .ref x_tape, .int 0, .int (-1), .int 0, .int (-1), .ref x_chances, .ref x_refusals, .int 0])), (x_state, .inr (6, [.ref x_state_tower, .int 1, .int 0, .int 0, .ref x_state_seenPlace, .ref x_state_seenRank, .int 0, .ref x_state_laws, .int 0, .int (-1)])), (x_judge, .inr (1, [.ref x_machine, .ref x_judge_words, .null])), (x_judge_words, .inl (ty 0, 9, .inl (fun _ => 0))), (x_state_tower, .inr (8, [.ref x_state_tower_rank, .ref x_state_tower_head, .int 0, .int 0, .int 0])), (x_paper, .inr (3, [.ref x_paper_ranks, .ref x_paper_digits, .ref x_paper_barred, .ref x_paper_pays, .ref x_paper_measuredBarred, .ref x_paper_buckets, .ref x_paper_orders, .ref x_paper_turnedOrders, .ref x_paper_turnedHeads, .ref x_paper_toOrder, .ref x_paper_marks, .ref x_paper_line, .ref x_paper_links, .int 0, .int 0, .int 0, .int 0, .int (-1), .int (-1), .int 0])), (x_paper_toOrder, .inl (ty 0, 0, .inl (fun _ => 0))), (x_paper_digits, .inl (ty 0, 6, .inl (fun _ => 0))), (x_paper_barred, .inl (ty 0, 504, .inl (fun _ => 0)))] sz)) 7 17 (va_A [(x, .inr (9, [.ref x_state, .ref x_images, .ref x_kept, .ref x_history, .ref x_drawnTower, .ref x_machine, .ref x_judge, .ref x_runner, .ref x_reader, .ref x_draft, .ref x_paper, .ref x_tape, .int 0, .int (-1), .int 0, .int (-1), .ref x_chances, .ref x_refusals, .int 0])), (x_state, .inr (6, [.ref x_state_tower, .int 1, .int 0, .int 0, .ref x_state_seenPlace, .ref x_state_seenRank, .int 0, .ref x_state_laws, .int 0, .int (-1)])), (x_judge, .inr (1, [.ref x_machine, .ref x_judge_words, .null])), (x_judge_words, .inl (ty 0, 9, .inl (fun _ => 0))), (x_state_tower, .inr (8, [.ref x_state_tower_rank, .ref x_state_tower_head, .int 0, .int 0, .int 0])), (x_paper, .inr (3, [.ref x_paper_ranks, .ref x_paper_digits, .ref x_paper_barred, .ref x_paper_pays, .ref x_paper_measuredBarred, .ref x_paper_buckets, .ref x_paper_orders, .ref x_paper_turnedOrders, .ref x_paper_turnedHeads, .ref x_paper_toOrder, .ref x_paper_marks, .ref x_paper_line, .ref x_paper_links, .int 0, .int 0, .int 0, .int 0, .int (-1), .int (-1), .int 0])), (x_paper_toOrder, .inl (ty 0, 0, .inl (fun _ => 0))), (x_paper_digits, .inl (ty 0, 6, .inl (fun _ => 0))), (x_paper_barred, .inl (ty 0, 504, .inl (fun _ => 0)))] sz) := by
  refine Met.ofW (cc := cX9_reach) (maxL := 1) (ret := (some .int)) (by decide) rfl ?_
  intro p e s m args below meth c s₁ B hml hv
  obtain ⟨rfl, hsz, hP, hK, hD0, hN, hE⟩ := hv
  have hx := B.exec
  have hb := B.bytes
  have hr := B.returns
  have hts := atoms_spec (ws := wsX9_reach) B.pre
  have hown : s.vm.findClass RX9 = some m.cls := findClass_of_methodNamed B.named
  have hlocks := B.notSynchronized
  subst hsz
  have hD := hD0.self (sz := s.heap.size)
  generalize hAe : va_A [(x, .inr (9, [.ref x_state, .ref x_images, .ref x_kept, .ref x_history, .ref x_drawnTower, .ref x_machine, .ref x_judge, .ref x_runner, .ref x_reader, .ref x_draft, .ref x_paper, .ref x_tape, .int 0, .int (-1), .int 0, .int (-1), .ref x_chances, .ref x_refusals, .int 0])), (x_state, .inr (6, [.ref x_state_tower, .int 1, .int 0, .int 0, .ref x_state_seenPlace, .ref x_state_seenRank, .int 0, .ref x_state_laws, .int 0, .int (-1)])), (x_judge, .inr (1, [.ref x_machine, .ref x_judge_words, .null])), (x_judge_words, .inl (ty 0, 9, .inl (fun _ => 0))), (x_state_tower, .inr (8, [.ref x_state_tower_rank, .ref x_state_tower_head, .int 0, .int 0, .int 0])), (x_paper, .inr (3, [.ref x_paper_ranks, .ref x_paper_digits, .ref x_paper_barred, .ref x_paper_pays, .ref x_paper_measuredBarred, .ref x_paper_buckets, .ref x_paper_orders, .ref x_paper_turnedOrders, .ref x_paper_turnedHeads, .ref x_paper_toOrder, .ref x_paper_marks, .ref x_paper_line, .ref x_paper_links, .int 0, .int 0, .int 0, .int 0, .int (-1), .int (-1), .int 0])), (x_paper_toOrder, .inl (ty 0, 0, .inl (fun _ => 0))), (x_paper_digits, .inl (ty 0, 6, .inl (fun _ => 0))), (x_paper_barred, .inl (ty 0, 504, .inl (fun _ => 0)))] s.heap.size = A at hD hE ⊢
  have hA : ∀ q : Nat, s.heap.size ≤ q → A q := fun q h => by rw [← hAe]; exact Or.inr h
  have hS : va_S A s.heap s.heap [] := va_S.rf
  have hl := lv_entry ([.ref x]) (n := 1) (Nat.le_of_ble_eq_true rfl)
  rw [lg_entry_eq]
  generalize (lg_sl ([.ref x]) ++ List.replicate (1 - (lg_sl ([.ref x])).length) Slot.unset).toArray = ls at hl ⊢
  have hl : lv_has ls 1 [(0, .ref x)] := hl
  refine lv_aload_n hx hb dX9_reach_0 rfl (lv_at hl 0 rfl) ?_
  refine lv_aload_n hx hb dX9_reach_1 rfl (lv_at hl 0 rfl) ?_
  refine kz_kq (wc := [(x, .inr (9, [.ref x_state, .ref x_images, .ref x_kept, .ref x_history, .ref x_drawnTower, .ref x_machine, .ref x_judge, .ref x_runner, .ref x_reader, .ref x_draft, .ref x_paper, .ref x_tape, .int 0, .int (-1), .int 0, .int (-1), .ref x_chances, .ref x_refusals, .int 0])), (x_state, .inr (6, [.ref x_state_tower, .int 1, .int 0, .int 0, .ref x_state_seenPlace, .ref x_state_seenRank, .int 0, .ref x_state_laws, .int 0, .int (-1)])), (x_judge, .inr (1, [.ref x_machine, .ref x_judge_words, .null])), (x_judge_words, .inl (ty 0, 9, .inl (fun _ => 0)))]) (wr := [(x_state_tower, .inr (8, [.ref x_state_tower_rank, .ref x_state_tower_head, .int 0, .int 0, .int 0])), (x_paper, .inr (3, [.ref x_paper_ranks, .ref x_paper_digits, .ref x_paper_barred, .ref x_paper_pays, .ref x_paper_measuredBarred, .ref x_paper_buckets, .ref x_paper_orders, .ref x_paper_turnedOrders, .ref x_paper_turnedHeads, .ref x_paper_toOrder, .ref x_paper_marks, .ref x_paper_line, .ref x_paper_links, .int 0, .int 0, .int 0, .int 0, .int (-1), .int (-1), .int 0])), (x_paper_toOrder, .inl (ty 0, 0, .inl (fun _ => 0))), (x_paper_digits, .inl (ty 0, 6, .inl (fun _ => 0))), (x_paper_barred, .inl (ty 0, 504, .inl (fun _ => 0)))]) (va_runV (As := []) (rest := [.ref x]) ⟨hx, hb, hml, hown, hts⟩ (kX9_seated_42 l D ty eo _ x x_state x_images x_kept x_history x_drawnTower x_machine x_judge x_runner x_reader x_draft x_paper x_tape x_chances x_refusals x_state_tower x_state_seenPlace x_state_seenRank x_state_laws x_judge_words) (cwV 0 hts gX9_reach_X9_seated rfl rfl rfl (by decide +kernel) ⟨Nat.le_of_ble_eq_true rfl, Nat.le_of_ble_eq_true rfl⟩) (kz_preV (ci := 9) (q0 := 0) hK hN hE hP hD hS hA rfl rfl [0, 1, 2, 3] (by decide) rfl) rfl rfl hl.1 rfl (lv_room (Nat.le_of_ble_eq_true rfl)) dX9_reach_2 ⟨Nat.le_of_ble_eq_true rfl, Nat.le_of_ble_eq_true rfl⟩) hP hD hS hA [0, 1, 2, 3] [4, 5, 6, 7, 8] rfl rfl (by decide) (by decide) (fun r u H locs hw hP hD hS => ?_)
  obtain ⟨rfl, rfl⟩ := hw
  have hP : va_P D vwCl [(x_state_tower, .inr (8, [.ref x_state_tower_rank, .ref x_state_tower_head, .int 0, .int 0, .int 0])), (x_paper, .inr (3, [.ref x_paper_ranks, .ref x_paper_digits, .ref x_paper_barred, .ref x_paper_pays, .ref x_paper_measuredBarred, .ref x_paper_buckets, .ref x_paper_orders, .ref x_paper_turnedOrders, .ref x_paper_turnedHeads, .ref x_paper_toOrder, .ref x_paper_marks, .ref x_paper_line, .ref x_paper_links, .int 0, .int 0, .int 0, .int 0, .int (-1), .int (-1), .int 0])), (x_paper_toOrder, .inl (ty 0, 0, .inl (fun _ => 0))), (x_paper_digits, .inl (ty 0, 6, .inl (fun _ => 0))), (x_paper_barred, .inl (ty 0, 504, .inl (fun _ => 0))), (x, .inr (9, [.ref x_state, .ref x_images, .ref x_kept, .ref x_history, .ref x_drawnTower, .ref x_machine, .ref x_judge, .ref x_runner, .ref x_reader, .ref x_draft, .ref x_paper, .ref x_tape, .int 0, .int (-1), .int 0, .int (-1), .ref x_chances, .ref x_refusals, .int 0])), (x_state, .inr (6, [.ref x_state_tower, .int 1, .int 0, .int 0, .ref x_state_seenPlace, .ref x_state_seenRank, .int 0, .ref x_state_laws, .int 0, .int (-1)])), (x_judge, .inr (1, [.ref x_machine, .ref x_judge_words, .null])), (x_judge_words, .inl (ty 0, 9, .inl (upd (fun _ => 0) 8 0)))] H := hP
  have hD : va_D A [(x_state_tower, .inr (8, [.ref x_state_tower_rank, .ref x_state_tower_head, .int 0, .int 0, .int 0])), (x_paper, .inr (3, [.ref x_paper_ranks, .ref x_paper_digits, .ref x_paper_barred, .ref x_paper_pays, .ref x_paper_measuredBarred, .ref x_paper_buckets, .ref x_paper_orders, .ref x_paper_turnedOrders, .ref x_paper_turnedHeads, .ref x_paper_toOrder, .ref x_paper_marks, .ref x_paper_line, .ref x_paper_links, .int 0, .int 0, .int 0, .int 0, .int (-1), .int (-1), .int 0])), (x_paper_toOrder, .inl (ty 0, 0, .inl (fun _ => 0))), (x_paper_digits, .inl (ty 0, 6, .inl (fun _ => 0))), (x_paper_barred, .inl (ty 0, 504, .inl (fun _ => 0))), (x, .inr (9, [.ref x_state, .ref x_images, .ref x_kept, .ref x_history, .ref x_drawnTower, .ref x_machine, .ref x_judge, .ref x_runner, .ref x_reader, .ref x_draft, .ref x_paper, .ref x_tape, .int 0, .int (-1), .int 0, .int (-1), .ref x_chances, .ref x_refusals, .int 0])), (x_state, .inr (6, [.ref x_state_tower, .int 1, .int 0, .int 0, .ref x_state_seenPlace, .ref x_state_seenRank, .int 0, .ref x_state_laws, .int 0, .int (-1)])), (x_judge, .inr (1, [.ref x_machine, .ref x_judge_words, .null])), (x_judge_words, .inl (ty 0, 9, .inl (upd (fun _ => 0) 8 0)))] := hD
  refine kz_kv (wc := [(x, .inr (9, [.ref x_state, .ref x_images, .ref x_kept, .ref x_history, .ref x_drawnTower, .ref x_machine, .ref x_judge, .ref x_runner, .ref x_reader, .ref x_draft, .ref x_paper, .ref x_tape, .int 0, .int (-1), .int 0, .int (-1), .ref x_chances, .ref x_refusals, .int 0])), (x_state, .inr (6, [.ref x_state_tower, .int 1, .int 0, .int 0, .ref x_state_seenPlace, .ref x_state_seenRank, .int 0, .ref x_state_laws, .int 0, .int (-1)])), (x_state_tower, .inr (8, [.ref x_state_tower_rank, .ref x_state_tower_head, .int 0, .int 0, .int 0])), (x_paper, .inr (3, [.ref x_paper_ranks, .ref x_paper_digits, .ref x_paper_barred, .ref x_paper_pays, .ref x_paper_measuredBarred, .ref x_paper_buckets, .ref x_paper_orders, .ref x_paper_turnedOrders, .ref x_paper_turnedHeads, .ref x_paper_toOrder, .ref x_paper_marks, .ref x_paper_line, .ref x_paper_links, .int 0, .int 0, .int 0, .int 0, .int (-1), .int (-1), .int 0])), (x_paper_toOrder, .inl (ty 0, 0, .inl (fun _ => 0))), (x_paper_digits, .inl (ty 0, 6, .inl (fun _ => 0))), (x_paper_barred, .inl (ty 0, 504, .inl (fun _ => 0))), (x_judge, .inr (1, [.ref x_machine, .ref x_judge_words, .null])), (x_judge_words, .inl (ty 0, 9, .inl (upd (fun _ => 0) 8 0)))]) (wr := []) (va_runV (As := [.ref x_judge]) (rest := []) ⟨hx, hb, hml, hown, hts⟩ (kX9_spread_73 l D ty eo _ x x_judge x_state x_images x_kept x_history x_drawnTower x_machine x_runner x_reader x_draft x_paper x_tape x_chances x_refusals x_state_tower x_state_seenPlace x_state_seenRank x_state_laws x_state_tower_rank x_state_tower_head x_paper_ranks x_paper_digits x_paper_barred x_paper_pays x_paper_measuredBarred x_paper_buckets x_paper_orders x_paper_turnedOrders x_paper_turnedHeads x_paper_toOrder x_paper_marks x_paper_line x_paper_links x_judge_words) (cwV 1 hts gX9_reach_X9_spread rfl rfl rfl (by decide +kernel) ⟨Nat.le_of_ble_eq_true rfl, Nat.le_of_ble_eq_true rfl⟩) (kz_preV (ci := 9) (q0 := 5) hK hN hE hP hD hS hA rfl rfl [5, 6, 0, 1, 2, 3, 4, 7, 8] (by decide) rfl) rfl rfl hl.1 rfl (lv_room (Nat.le_of_ble_eq_true rfl)) dX9_reach_5 ⟨Nat.le_of_ble_eq_true rfl, Nat.le_of_ble_eq_true rfl⟩) hP hD hS hA [5, 6, 0, 1, 2, 3, 4, 7, 8] [] rfl rfl (by decide) (by decide) (fun u H locs hw hP hD hS => ?_)
  obtain ⟨q_1, q_2, q_3, q_4, q_5, q_6, q_7, rfl⟩ := hw
  have hP : va_P D vwCl [(x, .inr (9, [.ref x_state, .ref x_images, .ref x_kept, .ref x_history, .ref x_drawnTower, .ref x_machine, .ref x_judge, .ref x_runner, .ref x_reader, .ref x_draft, .ref x_paper, .ref x_tape, .int 0, .int (-1), .int 0, .int (-1), .ref x_chances, .ref x_refusals, .int 0])), (x_state, .inr (6, [.ref x_state_tower, .int 1, .int 0, .int 0, .ref x_state_seenPlace, .ref x_state_seenRank, .int 0, .ref x_state_laws, .int 0, .int (-1)])), (x_paper_toOrder, .inl (ty 0, 0, .inl (fun _ => 0))), (q_1, .inl (ty 0, 1, .inl (fun _ => 0))), (q_2, .inl (ty 0, 1, .inl (fun _ => 0))), (q_3, .inl (ty 0, 1, .inl (fun _ => 0))), (q_4, .inl (ty 0, 1, .inl (fun _ => 0))), (q_6, .inl (ty 0, 6, .inl (fun _ => 0))), (q_7, .inl (ty 0, 6, .inl (fun _ => 0))), (q_5, .inl (ty 0, 1, .inl (upd (upd (upd (upd (upd (upd (fun _ => 0) 0 0) 0 8) 0 136) 0 1672) 0 18056) 0 181896))), (x_state_tower, .inr (8, [.ref x_state_tower_rank, .ref x_state_tower_head, .int 0, .int 0, .int 0])), (x_paper_digits, .inl (ty 0, 6, .inl (upd (upd (upd (upd (upd (upd (upd (upd (upd (upd (upd (upd (upd (upd (upd (upd (upd (upd (upd (upd (upd (upd (upd (upd (upd (upd (upd (fun _ => 0) 0 0) 0 0) 1 1) 0 0) 1 1) 2 2) 0 0) 1 1) 2 2) 3 3) 0 0) 1 1) 2 2) 3 3) 4 4) 0 0) 1 1) 2 2) 3 3) 4 4) 5 5) 0 0) 1 1) 2 2) 3 3) 4 4) 5 5))), (x_paper, .inr (3, [.ref x_paper_ranks, .ref x_paper_digits, .ref x_paper_barred, .ref x_paper_pays, .ref x_paper_measuredBarred, .ref x_paper_buckets, .ref q_5, .ref q_6, .ref q_7, .ref q_1, .ref q_2, .ref q_3, .ref q_4, .int 0, .int 1, .int 0, .int 0, .int (-1), .int (-1), .int 0])), (x_paper_barred, .inl (ty 0, 504, .inl (kz_fl (fun _ => 0) 504 0))), (x_judge, .inr (1, [.ref x_machine, .ref x_judge_words, .null])), (x_judge_words, .inl (ty 0, 9, .inl (upd (upd (upd (fun _ => 0) 8 0) 4 0) 7 0)))] H := hP
  have hD : va_D A [(x, .inr (9, [.ref x_state, .ref x_images, .ref x_kept, .ref x_history, .ref x_drawnTower, .ref x_machine, .ref x_judge, .ref x_runner, .ref x_reader, .ref x_draft, .ref x_paper, .ref x_tape, .int 0, .int (-1), .int 0, .int (-1), .ref x_chances, .ref x_refusals, .int 0])), (x_state, .inr (6, [.ref x_state_tower, .int 1, .int 0, .int 0, .ref x_state_seenPlace, .ref x_state_seenRank, .int 0, .ref x_state_laws, .int 0, .int (-1)])), (x_paper_toOrder, .inl (ty 0, 0, .inl (fun _ => 0))), (q_1, .inl (ty 0, 1, .inl (fun _ => 0))), (q_2, .inl (ty 0, 1, .inl (fun _ => 0))), (q_3, .inl (ty 0, 1, .inl (fun _ => 0))), (q_4, .inl (ty 0, 1, .inl (fun _ => 0))), (q_6, .inl (ty 0, 6, .inl (fun _ => 0))), (q_7, .inl (ty 0, 6, .inl (fun _ => 0))), (q_5, .inl (ty 0, 1, .inl (upd (upd (upd (upd (upd (upd (fun _ => 0) 0 0) 0 8) 0 136) 0 1672) 0 18056) 0 181896))), (x_state_tower, .inr (8, [.ref x_state_tower_rank, .ref x_state_tower_head, .int 0, .int 0, .int 0])), (x_paper_digits, .inl (ty 0, 6, .inl (upd (upd (upd (upd (upd (upd (upd (upd (upd (upd (upd (upd (upd (upd (upd (upd (upd (upd (upd (upd (upd (upd (upd (upd (upd (upd (upd (fun _ => 0) 0 0) 0 0) 1 1) 0 0) 1 1) 2 2) 0 0) 1 1) 2 2) 3 3) 0 0) 1 1) 2 2) 3 3) 4 4) 0 0) 1 1) 2 2) 3 3) 4 4) 5 5) 0 0) 1 1) 2 2) 3 3) 4 4) 5 5))), (x_paper, .inr (3, [.ref x_paper_ranks, .ref x_paper_digits, .ref x_paper_barred, .ref x_paper_pays, .ref x_paper_measuredBarred, .ref x_paper_buckets, .ref q_5, .ref q_6, .ref q_7, .ref q_1, .ref q_2, .ref q_3, .ref q_4, .int 0, .int 1, .int 0, .int 0, .int (-1), .int (-1), .int 0])), (x_paper_barred, .inl (ty 0, 504, .inl (kz_fl (fun _ => 0) 504 0))), (x_judge, .inr (1, [.ref x_machine, .ref x_judge_words, .null])), (x_judge_words, .inl (ty 0, 9, .inl (upd (upd (upd (fun _ => 0) 8 0) 4 0) 7 0)))] := hD
  refine lv_aload_n hx hb dX9_reach_8 rfl (lv_at hl 0 rfl) ?_
  refine va_get (D := D) (ci := 9) (v := .ref x_paper) (C := RX9) (T := TX9) (N := 19) hx hb hts (by decide +kernel) hown hK hP 0 rfl rfl 10 (by decide) (hts (.fieldLink RX9 80 "TurnedFloors" "paper" "LTurnedFloors$Paper;") (by decide +kernel)) (fun _ h9 => h9) rfl dX9_reach_9 ?_
  refine kz_ki (wc := [(x_paper, .inr (3, [.ref x_paper_ranks, .ref x_paper_digits, .ref x_paper_barred, .ref x_paper_pays, .ref x_paper_measuredBarred, .ref x_paper_buckets, .ref q_5, .ref q_6, .ref q_7, .ref q_1, .ref q_2, .ref q_3, .ref q_4, .int 0, .int 1, .int 0, .int 0, .int (-1), .int (-1), .int 0])), (q_2, .inl (ty 0, 1, .inl (fun _ => 0))), (q_3, .inl (ty 0, 1, .inl (fun _ => 0)))]) (wr := [(x, .inr (9, [.ref x_state, .ref x_images, .ref x_kept, .ref x_history, .ref x_drawnTower, .ref x_machine, .ref x_judge, .ref x_runner, .ref x_reader, .ref x_draft, .ref x_paper, .ref x_tape, .int 0, .int (-1), .int 0, .int (-1), .ref x_chances, .ref x_refusals, .int 0])), (x_state, .inr (6, [.ref x_state_tower, .int 1, .int 0, .int 0, .ref x_state_seenPlace, .ref x_state_seenRank, .int 0, .ref x_state_laws, .int 0, .int (-1)])), (x_paper_toOrder, .inl (ty 0, 0, .inl (fun _ => 0))), (q_1, .inl (ty 0, 1, .inl (fun _ => 0))), (q_4, .inl (ty 0, 1, .inl (fun _ => 0))), (q_6, .inl (ty 0, 6, .inl (fun _ => 0))), (q_7, .inl (ty 0, 6, .inl (fun _ => 0))), (q_5, .inl (ty 0, 1, .inl (upd (upd (upd (upd (upd (upd (fun _ => 0) 0 0) 0 8) 0 136) 0 1672) 0 18056) 0 181896))), (x_state_tower, .inr (8, [.ref x_state_tower_rank, .ref x_state_tower_head, .int 0, .int 0, .int 0])), (x_paper_digits, .inl (ty 0, 6, .inl (upd (upd (upd (upd (upd (upd (upd (upd (upd (upd (upd (upd (upd (upd (upd (upd (upd (upd (upd (upd (upd (upd (upd (upd (upd (upd (upd (fun _ => 0) 0 0) 0 0) 1 1) 0 0) 1 1) 2 2) 0 0) 1 1) 2 2) 3 3) 0 0) 1 1) 2 2) 3 3) 4 4) 0 0) 1 1) 2 2) 3 3) 4 4) 5 5) 0 0) 1 1) 2 2) 3 3) 4 4) 5 5))), (x_paper_barred, .inl (ty 0, 504, .inl (kz_fl (fun _ => 0) 504 0))), (x_judge, .inr (1, [.ref x_machine, .ref x_judge_words, .null])), (x_judge_words, .inl (ty 0, 9, .inl (upd (upd (upd (fun _ => 0) 8 0) 4 0) 7 0)))]) (va_runV (As := []) (rest := []) ⟨hx, hb, hml, hown, hts⟩ (kX3_towersReached_104 l D ty eo _ x_paper x_paper_ranks x_paper_digits x_paper_barred x_paper_pays x_paper_measuredBarred x_paper_buckets q_5 q_6 q_7 q_1 q_2 q_3 q_4) (cwV 0 hts gX9_reach_X3_towersReached rfl rfl rfl (by decide +kernel) ⟨Nat.le_of_ble_eq_true rfl, Nat.le_of_ble_eq_true rfl⟩) (kz_preV (ci := 3) (q0 := 12) hK hN hE hP hD hS hA rfl rfl [12, 4, 5] (by decide) rfl) rfl rfl hl.1 rfl (lv_room (Nat.le_of_ble_eq_true rfl)) dX9_reach_12 ⟨Nat.le_of_ble_eq_true rfl, Nat.le_of_ble_eq_true rfl⟩) hP hD hS hA [12, 4, 5] [0, 1, 2, 3, 6, 7, 8, 9, 10, 11, 13, 14, 15] rfl rfl (by decide) (by decide) (fun r u H locs hw hP hD hS => ?_)
  obtain ⟨rfl, rfl⟩ := hw
  have hP : va_P D vwCl [(x, .inr (9, [.ref x_state, .ref x_images, .ref x_kept, .ref x_history, .ref x_drawnTower, .ref x_machine, .ref x_judge, .ref x_runner, .ref x_reader, .ref x_draft, .ref x_paper, .ref x_tape, .int 0, .int (-1), .int 0, .int (-1), .ref x_chances, .ref x_refusals, .int 0])), (x_state, .inr (6, [.ref x_state_tower, .int 1, .int 0, .int 0, .ref x_state_seenPlace, .ref x_state_seenRank, .int 0, .ref x_state_laws, .int 0, .int (-1)])), (x_paper_toOrder, .inl (ty 0, 0, .inl (fun _ => 0))), (q_1, .inl (ty 0, 1, .inl (fun _ => 0))), (q_4, .inl (ty 0, 1, .inl (fun _ => 0))), (q_6, .inl (ty 0, 6, .inl (fun _ => 0))), (q_7, .inl (ty 0, 6, .inl (fun _ => 0))), (q_5, .inl (ty 0, 1, .inl (upd (upd (upd (upd (upd (upd (fun _ => 0) 0 0) 0 8) 0 136) 0 1672) 0 18056) 0 181896))), (x_state_tower, .inr (8, [.ref x_state_tower_rank, .ref x_state_tower_head, .int 0, .int 0, .int 0])), (x_paper_digits, .inl (ty 0, 6, .inl (upd (upd (upd (upd (upd (upd (upd (upd (upd (upd (upd (upd (upd (upd (upd (upd (upd (upd (upd (upd (upd (upd (upd (upd (upd (upd (upd (fun _ => 0) 0 0) 0 0) 1 1) 0 0) 1 1) 2 2) 0 0) 1 1) 2 2) 3 3) 0 0) 1 1) 2 2) 3 3) 4 4) 0 0) 1 1) 2 2) 3 3) 4 4) 5 5) 0 0) 1 1) 2 2) 3 3) 4 4) 5 5))), (x_paper_barred, .inl (ty 0, 504, .inl (kz_fl (fun _ => 0) 504 0))), (x_judge, .inr (1, [.ref x_machine, .ref x_judge_words, .null])), (x_judge_words, .inl (ty 0, 9, .inl (upd (upd (upd (fun _ => 0) 8 0) 4 0) 7 0))), (q_3, .inl (ty 0, 1, .inl (upd (fun _ => 0) 0 0))), (q_2, .inl (ty 0, 1, .inl (upd (kz_fl (fun _ => 0) 1 (-1)) 0 0))), (x_paper, .inr (3, [.ref x_paper_ranks, .ref x_paper_digits, .ref x_paper_barred, .ref x_paper_pays, .ref x_paper_measuredBarred, .ref x_paper_buckets, .ref q_5, .ref q_6, .ref q_7, .ref q_1, .ref q_2, .ref q_3, .ref q_4, .int 0, .int 1, .int 0, .int 0, .int (-1), .int (-1), .int 1]))] H := hP
  have hD : va_D A [(x, .inr (9, [.ref x_state, .ref x_images, .ref x_kept, .ref x_history, .ref x_drawnTower, .ref x_machine, .ref x_judge, .ref x_runner, .ref x_reader, .ref x_draft, .ref x_paper, .ref x_tape, .int 0, .int (-1), .int 0, .int (-1), .ref x_chances, .ref x_refusals, .int 0])), (x_state, .inr (6, [.ref x_state_tower, .int 1, .int 0, .int 0, .ref x_state_seenPlace, .ref x_state_seenRank, .int 0, .ref x_state_laws, .int 0, .int (-1)])), (x_paper_toOrder, .inl (ty 0, 0, .inl (fun _ => 0))), (q_1, .inl (ty 0, 1, .inl (fun _ => 0))), (q_4, .inl (ty 0, 1, .inl (fun _ => 0))), (q_6, .inl (ty 0, 6, .inl (fun _ => 0))), (q_7, .inl (ty 0, 6, .inl (fun _ => 0))), (q_5, .inl (ty 0, 1, .inl (upd (upd (upd (upd (upd (upd (fun _ => 0) 0 0) 0 8) 0 136) 0 1672) 0 18056) 0 181896))), (x_state_tower, .inr (8, [.ref x_state_tower_rank, .ref x_state_tower_head, .int 0, .int 0, .int 0])), (x_paper_digits, .inl (ty 0, 6, .inl (upd (upd (upd (upd (upd (upd (upd (upd (upd (upd (upd (upd (upd (upd (upd (upd (upd (upd (upd (upd (upd (upd (upd (upd (upd (upd (upd (fun _ => 0) 0 0) 0 0) 1 1) 0 0) 1 1) 2 2) 0 0) 1 1) 2 2) 3 3) 0 0) 1 1) 2 2) 3 3) 4 4) 0 0) 1 1) 2 2) 3 3) 4 4) 5 5) 0 0) 1 1) 2 2) 3 3) 4 4) 5 5))), (x_paper_barred, .inl (ty 0, 504, .inl (kz_fl (fun _ => 0) 504 0))), (x_judge, .inr (1, [.ref x_machine, .ref x_judge_words, .null])), (x_judge_words, .inl (ty 0, 9, .inl (upd (upd (upd (fun _ => 0) 8 0) 4 0) 7 0))), (q_3, .inl (ty 0, 1, .inl (upd (fun _ => 0) 0 0))), (q_2, .inl (ty 0, 1, .inl (upd (kz_fl (fun _ => 0) 1 (-1)) 0 0))), (x_paper, .inr (3, [.ref x_paper_ranks, .ref x_paper_digits, .ref x_paper_barred, .ref x_paper_pays, .ref x_paper_measuredBarred, .ref x_paper_buckets, .ref q_5, .ref q_6, .ref q_7, .ref q_1, .ref q_2, .ref q_3, .ref q_4, .int 0, .int 1, .int 0, .int 0, .int (-1), .int (-1), .int 1]))] := hD
  refine W.widen (k := 7) (n := 17) (Nat.le_of_ble_eq_true rfl) (Nat.le_of_ble_eq_true rfl) ?_
  exact kz_iret hx hb hr hlocks hP hK hD hS dX9_reach_15 ⟨q_1, q_2, q_3, q_4, q_5, q_6, q_7, rfl, rfl⟩

set_option maxHeartbeats 4000000 in
set_option maxRecDepth 100000 in
theorem kX8_gapCount_107 (l : Launch) (D : va_G) (ty : Nat → ClassId) (eo : Nat → Nat) (sz : Nat) (x_state_tower x_state_tower_rank x_state_tower_head : Nat) : Met l yX8_gapCount wsX8_gapCount ({ frames := 0, cells := 0, slots := 0, locals := 0 }) (va_Pc [.ref x_state_tower] (kz_pre D ty eo [(x_state_tower, .inr (8, [.ref x_state_tower_rank, .ref x_state_tower_head, .int 0, .int 0, .int 0]))] sz)) (va_Qi (fun (r : Int32) (u : va_W) => 0 = r ∧ [(x_state_tower, .inr (8, [.ref x_state_tower_rank, .ref x_state_tower_head, .int 0, .int 0, .int 0]))] = u) (kz_B D ty (va_A [(x_state_tower, .inr (8, [.ref x_state_tower_rank, .ref x_state_tower_head, .int 0, .int 0, .int 0]))] sz)) (va_A [(x_state_tower, .inr (8, [.ref x_state_tower_rank, .ref x_state_tower_head, .int 0, .int 0, .int 0]))] sz)) 0 0 (va_A [(x_state_tower, .inr (8, [.ref x_state_tower_rank, .ref x_state_tower_head, .int 0, .int 0, .int 0]))] sz) := by
  refine Met.ofW (cc := cX8_gapCount) (maxL := 3) (ret := (some .int)) (by decide) rfl ?_
  intro p e s m args below meth c s₁ B hml hv
  obtain ⟨rfl, hsz, hP, hK, hD0, hN, hE⟩ := hv
  have hx := B.exec
  have hb := B.bytes
  have hr := B.returns
  have hts := atoms_spec (ws := wsX8_gapCount) B.pre
  have hown : s.vm.findClass RX8 = some m.cls := findClass_of_methodNamed B.named
  have hlocks := B.notSynchronized
  subst hsz
  have hD := hD0.self (sz := s.heap.size)
  generalize hAe : va_A [(x_state_tower, .inr (8, [.ref x_state_tower_rank, .ref x_state_tower_head, .int 0, .int 0, .int 0]))] s.heap.size = A at hD hE ⊢
  have hA : ∀ q : Nat, s.heap.size ≤ q → A q := fun q h => by rw [← hAe]; exact Or.inr h
  have hS : va_S A s.heap s.heap [] := va_S.rf
  have hl := lv_entry ([.ref x_state_tower]) (n := 3) (Nat.le_of_ble_eq_true rfl)
  rw [lg_entry_eq]
  generalize (lg_sl ([.ref x_state_tower]) ++ List.replicate (3 - (lg_sl ([.ref x_state_tower])).length) Slot.unset).toArray = ls at hl ⊢
  have hl : lv_has ls 3 [(0, .ref x_state_tower)] := hl
  refine lv_iconst (v := 0) hx hb dX8_gapCount_0 (by decide) ?_
  refine lv_istore_n (lv' := [(1, .int 0), (0, .ref x_state_tower)]) hx hb dX8_gapCount_1 rfl hl (by decide) rfl (fun ls hl => ?_)
  refine lv_iconst (v := 0) hx hb dX8_gapCount_2 (by decide) ?_
  refine lv_istore_n (lv' := [(2, .int 0), (1, .int 0), (0, .ref x_state_tower)]) hx hb dX8_gapCount_3 rfl hl (by decide) rfl (fun ls hl => ?_)
  refine lv_iload_n hx hb dX8_gapCount_4 rfl (lv_at hl 0 rfl) ?_
  refine lv_iconst (v := 1) hx hb dX8_gapCount_5 (by decide) ?_
  refine lv_iadd hx hb dX8_gapCount_6 ?_
  refine lv_topi (fun z_1 ez_1 => ?_)
  obtain rfl : z_1 = 1 := ez_1.trans (by first | rfl | decide +kernel)
  refine lv_aload_n hx hb dX8_gapCount_7 rfl (lv_at hl 2 rfl) ?_
  refine va_get (D := D) (ci := 8) (v := .int 0) (C := RX8) (T := TX8) (N := 5) hx hb hts (by decide +kernel) hown hK hP 0 rfl rfl 2 (by decide) (hts (.fieldLink RX8 18 "TurnedFloors$Tower" "floors" "I") (by decide +kernel)) (fun _ h9 => h9) rfl dX8_gapCount_8 ?_
  refine lv_icmp_ge (tgt := 64) hx hb dX8_gapCount_11 (by decide) (fun _ => ?_) (fun h => absurd (by decide) h)
  refine lv_aload_n hx hb dX8_gapCount_64 rfl (lv_at hl 2 rfl) ?_
  refine va_get (D := D) (ci := 8) (v := .int 0) (C := RX8) (T := TX8) (N := 5) hx hb hts (by decide +kernel) hown hK hP 0 rfl rfl 2 (by decide) (hts (.fieldLink RX8 18 "TurnedFloors$Tower" "floors" "I") (by decide +kernel)) (fun _ h9 => h9) rfl dX8_gapCount_65 ?_
  refine lv_if_ne (tgt := 75) hx hb dX8_gapCount_68 (by decide) (fun h => absurd (by decide) h) (fun _ => ?_)
  refine lv_iconst (v := 0) hx hb dX8_gapCount_71 (by decide) ?_
  refine lv_goto (tgt := 97) hx hb dX8_gapCount_72 (by decide) ?_
  exact kz_iret hx hb hr hlocks hP hK hD hS dX8_gapCount_97 ⟨rfl, rfl⟩

set_option maxHeartbeats 4000000 in
set_option maxRecDepth 100000 in
theorem fX9_gaps (l : Launch) (D : va_G) (ty : Nat → ClassId) (eo : Nat → Nat) (sz : Nat) (x x_state x_images x_kept x_history x_drawnTower x_machine x_judge x_runner x_reader x_draft x_paper x_tape x_chances x_refusals x_state_tower x_state_seenPlace x_state_seenRank x_state_laws x_state_tower_rank x_state_tower_head : Nat) : Met l yX9_gaps wsX9_gaps ({ frames := 1, cells := 0, slots := 0, locals := 22 }) (va_Pc [.ref x] (kz_pre D ty eo [(x, .inr (9, [.ref x_state, .ref x_images, .ref x_kept, .ref x_history, .ref x_drawnTower, .ref x_machine, .ref x_judge, .ref x_runner, .ref x_reader, .ref x_draft, .ref x_paper, .ref x_tape, .int 0, .int (-1), .int 0, .int (-1), .ref x_chances, .ref x_refusals, .int 0])), (x_state, .inr (6, [.ref x_state_tower, .int 1, .int 0, .int 0, .ref x_state_seenPlace, .ref x_state_seenRank, .int 0, .ref x_state_laws, .int 0, .int (-1)])), (x_state_tower, .inr (8, [.ref x_state_tower_rank, .ref x_state_tower_head, .int 0, .int 0, .int 0]))] sz)) (va_Qi (fun (r : Int32) (u : va_W) => 0 = r ∧ [(x, .inr (9, [.ref x_state, .ref x_images, .ref x_kept, .ref x_history, .ref x_drawnTower, .ref x_machine, .ref x_judge, .ref x_runner, .ref x_reader, .ref x_draft, .ref x_paper, .ref x_tape, .int 0, .int (-1), .int 0, .int (-1), .ref x_chances, .ref x_refusals, .int 0])), (x_state, .inr (6, [.ref x_state_tower, .int 1, .int 0, .int 0, .ref x_state_seenPlace, .ref x_state_seenRank, .int 0, .ref x_state_laws, .int 0, .int (-1)])), (x_state_tower, .inr (8, [.ref x_state_tower_rank, .ref x_state_tower_head, .int 0, .int 0, .int 0]))] = u) (kz_B D ty (va_A [(x, .inr (9, [.ref x_state, .ref x_images, .ref x_kept, .ref x_history, .ref x_drawnTower, .ref x_machine, .ref x_judge, .ref x_runner, .ref x_reader, .ref x_draft, .ref x_paper, .ref x_tape, .int 0, .int (-1), .int 0, .int (-1), .ref x_chances, .ref x_refusals, .int 0])), (x_state, .inr (6, [.ref x_state_tower, .int 1, .int 0, .int 0, .ref x_state_seenPlace, .ref x_state_seenRank, .int 0, .ref x_state_laws, .int 0, .int (-1)])), (x_state_tower, .inr (8, [.ref x_state_tower_rank, .ref x_state_tower_head, .int 0, .int 0, .int 0]))] sz)) (va_A [(x, .inr (9, [.ref x_state, .ref x_images, .ref x_kept, .ref x_history, .ref x_drawnTower, .ref x_machine, .ref x_judge, .ref x_runner, .ref x_reader, .ref x_draft, .ref x_paper, .ref x_tape, .int 0, .int (-1), .int 0, .int (-1), .ref x_chances, .ref x_refusals, .int 0])), (x_state, .inr (6, [.ref x_state_tower, .int 1, .int 0, .int 0, .ref x_state_seenPlace, .ref x_state_seenRank, .int 0, .ref x_state_laws, .int 0, .int (-1)])), (x_state_tower, .inr (8, [.ref x_state_tower_rank, .ref x_state_tower_head, .int 0, .int 0, .int 0]))] sz)) 0 0 (va_A [(x, .inr (9, [.ref x_state, .ref x_images, .ref x_kept, .ref x_history, .ref x_drawnTower, .ref x_machine, .ref x_judge, .ref x_runner, .ref x_reader, .ref x_draft, .ref x_paper, .ref x_tape, .int 0, .int (-1), .int 0, .int (-1), .ref x_chances, .ref x_refusals, .int 0])), (x_state, .inr (6, [.ref x_state_tower, .int 1, .int 0, .int 0, .ref x_state_seenPlace, .ref x_state_seenRank, .int 0, .ref x_state_laws, .int 0, .int (-1)])), (x_state_tower, .inr (8, [.ref x_state_tower_rank, .ref x_state_tower_head, .int 0, .int 0, .int 0]))] sz) := by
  refine Met.ofW (cc := cX9_gaps) (maxL := 1) (ret := (some .int)) (by decide) rfl ?_
  intro p e s m args below meth c s₁ B hml hv
  obtain ⟨rfl, hsz, hP, hK, hD0, hN, hE⟩ := hv
  have hx := B.exec
  have hb := B.bytes
  have hr := B.returns
  have hts := atoms_spec (ws := wsX9_gaps) B.pre
  have hown : s.vm.findClass RX9 = some m.cls := findClass_of_methodNamed B.named
  have hlocks := B.notSynchronized
  subst hsz
  have hD := hD0.self (sz := s.heap.size)
  generalize hAe : va_A [(x, .inr (9, [.ref x_state, .ref x_images, .ref x_kept, .ref x_history, .ref x_drawnTower, .ref x_machine, .ref x_judge, .ref x_runner, .ref x_reader, .ref x_draft, .ref x_paper, .ref x_tape, .int 0, .int (-1), .int 0, .int (-1), .ref x_chances, .ref x_refusals, .int 0])), (x_state, .inr (6, [.ref x_state_tower, .int 1, .int 0, .int 0, .ref x_state_seenPlace, .ref x_state_seenRank, .int 0, .ref x_state_laws, .int 0, .int (-1)])), (x_state_tower, .inr (8, [.ref x_state_tower_rank, .ref x_state_tower_head, .int 0, .int 0, .int 0]))] s.heap.size = A at hD hE ⊢
  have hA : ∀ q : Nat, s.heap.size ≤ q → A q := fun q h => by rw [← hAe]; exact Or.inr h
  have hS : va_S A s.heap s.heap [] := va_S.rf
  have hl := lv_entry ([.ref x]) (n := 1) (Nat.le_of_ble_eq_true rfl)
  rw [lg_entry_eq]
  generalize (lg_sl ([.ref x]) ++ List.replicate (1 - (lg_sl ([.ref x])).length) Slot.unset).toArray = ls at hl ⊢
  have hl : lv_has ls 1 [(0, .ref x)] := hl
  refine lv_aload_n hx hb dX9_gaps_0 rfl (lv_at hl 0 rfl) ?_
  refine va_get (D := D) (ci := 9) (v := .ref x_state) (C := RX9) (T := TX9) (N := 19) hx hb hts (by decide +kernel) hown hK hP 0 rfl rfl 0 (by decide) (hts (.fieldLink RX9 10 "TurnedFloors" "state" "LTurnedFloors$State;") (by decide +kernel)) (fun _ h9 => h9) rfl dX9_gaps_1 ?_
  refine va_getN (D := D) (ci := 6) (v := .ref x_state_tower) (C := RX6) (T := TX6) (N := 10) hx hb hts (by decide +kernel) hown hK hP 1 rfl rfl 0 (by decide) (hN.use (.fieldLinkNest "TurnedFloors" 122 "TurnedFloors$State" "tower" "LTurnedFloors$Tower;" "TurnedFloors") (by decide +kernel)) (fun _ h9 => h9) rfl dX9_gaps_4 ?_
  refine kz_ki (wc := [(x_state_tower, .inr (8, [.ref x_state_tower_rank, .ref x_state_tower_head, .int 0, .int 0, .int 0]))]) (wr := [(x, .inr (9, [.ref x_state, .ref x_images, .ref x_kept, .ref x_history, .ref x_drawnTower, .ref x_machine, .ref x_judge, .ref x_runner, .ref x_reader, .ref x_draft, .ref x_paper, .ref x_tape, .int 0, .int (-1), .int 0, .int (-1), .ref x_chances, .ref x_refusals, .int 0])), (x_state, .inr (6, [.ref x_state_tower, .int 1, .int 0, .int 0, .ref x_state_seenPlace, .ref x_state_seenRank, .int 0, .ref x_state_laws, .int 0, .int (-1)]))]) (va_runV (As := []) (rest := []) ⟨hx, hb, hml, hown, hts⟩ (kX8_gapCount_107 l D ty eo _ x_state_tower x_state_tower_rank x_state_tower_head) (cwV 0 hts gX9_gaps_X8_gapCount rfl rfl rfl (by decide +kernel) ⟨Nat.le_of_ble_eq_true rfl, Nat.le_of_ble_eq_true rfl⟩) (kz_preV (ci := 8) (q0 := 2) hK hN hE hP hD hS hA rfl rfl [2] (by decide) rfl) rfl rfl hl.1 rfl (lv_room (Nat.le_of_ble_eq_true rfl)) dX9_gaps_7 ⟨Nat.le_of_ble_eq_true rfl, Nat.le_of_ble_eq_true rfl⟩) hP hD hS hA [2] [0, 1] rfl rfl (by decide) (by decide) (fun r u H locs hw hP hD hS => ?_)
  obtain ⟨rfl, rfl⟩ := hw
  have hP : va_P D vwCl [(x, .inr (9, [.ref x_state, .ref x_images, .ref x_kept, .ref x_history, .ref x_drawnTower, .ref x_machine, .ref x_judge, .ref x_runner, .ref x_reader, .ref x_draft, .ref x_paper, .ref x_tape, .int 0, .int (-1), .int 0, .int (-1), .ref x_chances, .ref x_refusals, .int 0])), (x_state, .inr (6, [.ref x_state_tower, .int 1, .int 0, .int 0, .ref x_state_seenPlace, .ref x_state_seenRank, .int 0, .ref x_state_laws, .int 0, .int (-1)])), (x_state_tower, .inr (8, [.ref x_state_tower_rank, .ref x_state_tower_head, .int 0, .int 0, .int 0]))] H := hP
  have hD : va_D A [(x, .inr (9, [.ref x_state, .ref x_images, .ref x_kept, .ref x_history, .ref x_drawnTower, .ref x_machine, .ref x_judge, .ref x_runner, .ref x_reader, .ref x_draft, .ref x_paper, .ref x_tape, .int 0, .int (-1), .int 0, .int (-1), .ref x_chances, .ref x_refusals, .int 0])), (x_state, .inr (6, [.ref x_state_tower, .int 1, .int 0, .int 0, .ref x_state_seenPlace, .ref x_state_seenRank, .int 0, .ref x_state_laws, .int 0, .int (-1)])), (x_state_tower, .inr (8, [.ref x_state_tower_rank, .ref x_state_tower_head, .int 0, .int 0, .int 0]))] := hD
  exact kz_iret hx hb hr hlocks hP hK hD hS dX9_gaps_10 ⟨rfl, rfl⟩

set_option maxHeartbeats 4000000 in
set_option maxRecDepth 100000 in
theorem kX3_numberOfOrder_108 (l : Launch) (D : va_G) (ty : Nat → ClassId) (eo : Nat → Nat) (sz : Nat) (h0 h0_ranks h0_digits h0_barred h0_pays h0_measuredBarred h0_buckets h0_orders h0_turnedOrders h0_turnedHeads h0_toOrder h0_marks h0_line h0_links : Nat) (h0_floors : Int32) (h0_v14 h0_v15 h0_v16 h0_v17 h0_v18 h0_v19 : Value) (h0_digits_f : Nat → Int32) : Met l yX3_numberOfOrder wsX3_numberOfOrder ({ frames := 1, cells := 0, slots := 0, locals := 20 }) (va_Pc [.ref h0] (kz_pre D ty eo [(h0, .inr (3, [.ref h0_ranks, .ref h0_digits, .ref h0_barred, .ref h0_pays, .ref h0_measuredBarred, .ref h0_buckets, .ref h0_orders, .ref h0_turnedOrders, .ref h0_turnedHeads, .ref h0_toOrder, .ref h0_marks, .ref h0_line, .ref h0_links, .int h0_floors, h0_v14, h0_v15, h0_v16, h0_v17, h0_v18, h0_v19])), (h0_digits, .inl (ty 0, 6, .inl (upd (upd (upd (upd (upd (upd h0_digits_f 5 5) 4 4) 3 3) 2 2) 1 1) 0 0)))] sz)) (va_Qi (fun (r : Int32) (u : va_W) => 0 = r ∧ [(h0, .inr (3, [.ref h0_ranks, .ref h0_digits, .ref h0_barred, .ref h0_pays, .ref h0_measuredBarred, .ref h0_buckets, .ref h0_orders, .ref h0_turnedOrders, .ref h0_turnedHeads, .ref h0_toOrder, .ref h0_marks, .ref h0_line, .ref h0_links, .int h0_floors, h0_v14, h0_v15, h0_v16, h0_v17, h0_v18, h0_v19])), (h0_digits, .inl (ty 0, 6, .inl (upd (upd (upd (upd (upd (upd h0_digits_f 5 5) 4 4) 3 3) 2 2) 1 1) 0 0)))] = u) (kz_B D ty (va_A [(h0, .inr (3, [.ref h0_ranks, .ref h0_digits, .ref h0_barred, .ref h0_pays, .ref h0_measuredBarred, .ref h0_buckets, .ref h0_orders, .ref h0_turnedOrders, .ref h0_turnedHeads, .ref h0_toOrder, .ref h0_marks, .ref h0_line, .ref h0_links, .int h0_floors, h0_v14, h0_v15, h0_v16, h0_v17, h0_v18, h0_v19])), (h0_digits, .inl (ty 0, 6, .inl (upd (upd (upd (upd (upd (upd h0_digits_f 5 5) 4 4) 3 3) 2 2) 1 1) 0 0)))] sz)) (va_A [(h0, .inr (3, [.ref h0_ranks, .ref h0_digits, .ref h0_barred, .ref h0_pays, .ref h0_measuredBarred, .ref h0_buckets, .ref h0_orders, .ref h0_turnedOrders, .ref h0_turnedHeads, .ref h0_toOrder, .ref h0_marks, .ref h0_line, .ref h0_links, .int h0_floors, h0_v14, h0_v15, h0_v16, h0_v17, h0_v18, h0_v19])), (h0_digits, .inl (ty 0, 6, .inl (upd (upd (upd (upd (upd (upd h0_digits_f 5 5) 4 4) 3 3) 2 2) 1 1) 0 0)))] sz)) 0 0 (va_A [(h0, .inr (3, [.ref h0_ranks, .ref h0_digits, .ref h0_barred, .ref h0_pays, .ref h0_measuredBarred, .ref h0_buckets, .ref h0_orders, .ref h0_turnedOrders, .ref h0_turnedHeads, .ref h0_toOrder, .ref h0_marks, .ref h0_line, .ref h0_links, .int h0_floors, h0_v14, h0_v15, h0_v16, h0_v17, h0_v18, h0_v19])), (h0_digits, .inl (ty 0, 6, .inl (upd (upd (upd (upd (upd (upd h0_digits_f 5 5) 4 4) 3 3) 2 2) 1 1) 0 0)))] sz) := by
  refine Met.ofW (cc := cX3_numberOfOrder) (maxL := 5) (ret := (some .int)) (by decide) rfl ?_
  intro p e s m args below meth c s₁ B hml hv
  obtain ⟨rfl, hsz, hP, hK, hD0, hN, hE⟩ := hv
  have hx := B.exec
  have hb := B.bytes
  have hr := B.returns
  have hts := atoms_spec (ws := wsX3_numberOfOrder) B.pre
  have hown : s.vm.findClass RX3 = some m.cls := findClass_of_methodNamed B.named
  have hlocks := B.notSynchronized
  subst hsz
  have hD := hD0.self (sz := s.heap.size)
  generalize hAe : va_A [(h0, .inr (3, [.ref h0_ranks, .ref h0_digits, .ref h0_barred, .ref h0_pays, .ref h0_measuredBarred, .ref h0_buckets, .ref h0_orders, .ref h0_turnedOrders, .ref h0_turnedHeads, .ref h0_toOrder, .ref h0_marks, .ref h0_line, .ref h0_links, .int h0_floors, h0_v14, h0_v15, h0_v16, h0_v17, h0_v18, h0_v19])), (h0_digits, .inl (ty 0, 6, .inl (upd (upd (upd (upd (upd (upd h0_digits_f 5 5) 4 4) 3 3) 2 2) 1 1) 0 0)))] s.heap.size = A at hD hE ⊢
  have hA : ∀ q : Nat, s.heap.size ≤ q → A q := fun q h => by rw [← hAe]; exact Or.inr h
  have hS : va_S A s.heap s.heap [] := va_S.rf
  have hl := lv_entry ([.ref h0]) (n := 5) (Nat.le_of_ble_eq_true rfl)
  rw [lg_entry_eq]
  generalize (lg_sl ([.ref h0]) ++ List.replicate (5 - (lg_sl ([.ref h0])).length) Slot.unset).toArray = ls at hl ⊢
  have hl : lv_has ls 5 [(0, .ref h0)] := hl
  refine lv_iconst (v := 0) hx hb dX3_numberOfOrder_0 (by decide) ?_
  refine lv_istore_n (lv' := [(1, .int 0), (0, .ref h0)]) hx hb dX3_numberOfOrder_1 rfl hl (by decide) rfl (fun ls hl => ?_)
  refine lv_iconst (v := 0) hx hb dX3_numberOfOrder_2 (by decide) ?_
  refine lv_istore_n (lv' := [(2, .int 0), (1, .int 0), (0, .ref h0)]) hx hb dX3_numberOfOrder_3 rfl hl (by decide) rfl (fun ls hl => ?_)
  refine lv_iload_n hx hb dX3_numberOfOrder_4 rfl (lv_at hl 0 rfl) ?_
  refine lv_bipush (v := 6) hx hb dX3_numberOfOrder_5 (by decide) ?_
  refine lv_icmp_ge (tgt := 70) hx hb dX3_numberOfOrder_7 (by decide) (fun h => absurd h (by decide)) (fun _ => ?_)
  refine lv_iconst (v := 0) hx hb dX3_numberOfOrder_10 (by decide) ?_
  refine lv_istore_n (lv' := [(3, .int 0), (2, .int 0), (1, .int 0), (0, .ref h0)]) hx hb dX3_numberOfOrder_11 rfl hl (by decide) rfl (fun ls hl => ?_)
  refine lv_iconst (v := 0) hx hb dX3_numberOfOrder_12 (by decide) ?_
  refine lv_istore (lv' := [(4, .int 0), (3, .int 0), (2, .int 0), (1, .int 0), (0, .ref h0)]) hx hb dX3_numberOfOrder_13 hl (by decide) rfl (fun ls hl => ?_)
  refine lv_iload hx hb dX3_numberOfOrder_15 (lv_at hl 0 rfl) ?_
  refine lv_iload_n hx hb dX3_numberOfOrder_17 rfl (lv_at hl 2 rfl) ?_
  refine lv_icmp_ge (tgt := 54) hx hb dX3_numberOfOrder_18 (by decide) (fun _ => ?_) (fun h => absurd (by decide) h)
  refine lv_iload_n hx hb dX3_numberOfOrder_54 rfl (lv_at hl 3 rfl) ?_
  refine lv_iload_n hx hb dX3_numberOfOrder_55 rfl (lv_at hl 1 rfl) ?_
  refine va_gets hx hb hE.1 hS hown (hts (.fieldLink RX3 76 "TurnedFloors$Paper" "FACTORIALS" "[I") (by decide +kernel)) (fun _ h9 => h9) dX3_numberOfOrder_56 ?_
  refine lv_iload_n hx hb dX3_numberOfOrder_59 rfl (lv_at hl 2 rfl) ?_
  refine va_ti (v := .int 1) hx hb hE.2.1 hS (by simp only [vp_in]; decide) rfl dX3_numberOfOrder_60 ?_
  refine lv_imul hx hb dX3_numberOfOrder_61 ?_
  refine lv_topi (fun z_1 ez_1 => ?_)
  obtain rfl : z_1 = 0 := ez_1.trans (by first | rfl | decide +kernel)
  refine lv_iadd hx hb dX3_numberOfOrder_62 ?_
  refine lv_topi (fun z_2 ez_2 => ?_)
  obtain rfl : z_2 = 0 := ez_2.trans (by first | rfl | decide +kernel)
  refine lv_istore_n (lv' := [(1, .int 0), (4, .int 0), (3, .int 0), (2, .int 0), (0, .ref h0)]) hx hb dX3_numberOfOrder_63 rfl hl (by decide) rfl (fun ls hl => ?_)
  refine lv_iinc (v := 1) (lv' := [(2, .int 1), (1, .int 0), (4, .int 0), (3, .int 0), (0, .ref h0)]) hx hb dX3_numberOfOrder_64 hl (k := 3) rfl (by decide) (by decide) rfl (fun ls hl => ?_)
  refine lv_goto (tgt := 4) hx hb dX3_numberOfOrder_67 (by decide) ?_
  refine lv_iload_n hx hb dX3_numberOfOrder_4 rfl (lv_at hl 0 rfl) ?_
  refine lv_bipush (v := 6) hx hb dX3_numberOfOrder_5 (by decide) ?_
  refine lv_icmp_ge (tgt := 70) hx hb dX3_numberOfOrder_7 (by decide) (fun h => absurd h (by decide)) (fun _ => ?_)
  refine lv_iconst (v := 0) hx hb dX3_numberOfOrder_10 (by decide) ?_
  refine lv_istore_n (lv' := [(3, .int 0), (2, .int 1), (1, .int 0), (4, .int 0), (0, .ref h0)]) hx hb dX3_numberOfOrder_11 rfl hl (by decide) rfl (fun ls hl => ?_)
  refine lv_iconst (v := 0) hx hb dX3_numberOfOrder_12 (by decide) ?_
  refine lv_istore (lv' := [(4, .int 0), (3, .int 0), (2, .int 1), (1, .int 0), (0, .ref h0)]) hx hb dX3_numberOfOrder_13 hl (by decide) rfl (fun ls hl => ?_)
  refine lv_iload hx hb dX3_numberOfOrder_15 (lv_at hl 0 rfl) ?_
  refine lv_iload_n hx hb dX3_numberOfOrder_17 rfl (lv_at hl 2 rfl) ?_
  refine lv_icmp_ge (tgt := 54) hx hb dX3_numberOfOrder_18 (by decide) (fun h => absurd h (by decide)) (fun _ => ?_)
  refine lv_iload_n hx hb dX3_numberOfOrder_21 rfl (lv_at hl 1 rfl) ?_
  refine lv_aload_n hx hb dX3_numberOfOrder_22 rfl (lv_at hl 4 rfl) ?_
  refine va_get (D := D) (ci := 3) (v := .ref h0_digits) (C := RX3) (T := TX3) (N := 20) hx hb hts (by decide +kernel) hown hK hP 0 rfl rfl 1 (by decide) (hts (.fieldLink RX3 15 "TurnedFloors$Paper" "digits" "[I") (by decide +kernel)) (fun _ h9 => h9) rfl dX3_numberOfOrder_23 ?_
  refine lv_iload hx hb dX3_numberOfOrder_26 (lv_at hl 0 rfl) ?_
  refine va_iald hx hb hK hP 1 0 rfl rfl (by simp only [vp_in]; decide) dX3_numberOfOrder_28 ?_
  refine lv_topi (fun z_3 ez_3 => ?_)
  obtain rfl : z_3 = 0 := ez_3.trans (by first | rfl | decide +kernel)
  refine lv_aload_n hx hb dX3_numberOfOrder_29 rfl (lv_at hl 4 rfl) ?_
  refine va_get (D := D) (ci := 3) (v := .ref h0_digits) (C := RX3) (T := TX3) (N := 20) hx hb hts (by decide +kernel) hown hK hP 0 rfl rfl 1 (by decide) (hts (.fieldLink RX3 15 "TurnedFloors$Paper" "digits" "[I") (by decide +kernel)) (fun _ h9 => h9) rfl dX3_numberOfOrder_30 ?_
  refine lv_iload_n hx hb dX3_numberOfOrder_33 rfl (lv_at hl 2 rfl) ?_
  refine va_iald hx hb hK hP 1 0 rfl rfl (by simp only [vp_in]; decide) dX3_numberOfOrder_34 ?_
  refine lv_topi (fun z_4 ez_4 => ?_)
  obtain rfl : z_4 = 1 := ez_4.trans (by first | rfl | decide +kernel)
  refine lv_icmp_le (tgt := 42) hx hb dX3_numberOfOrder_35 (by decide) (fun _ => ?_) (fun h => absurd (by decide) h)
  refine lv_iconst (v := 0) hx hb dX3_numberOfOrder_42 (by decide) ?_
  refine kz_ki (wc := []) (wr := [(h0, .inr (3, [.ref h0_ranks, .ref h0_digits, .ref h0_barred, .ref h0_pays, .ref h0_measuredBarred, .ref h0_buckets, .ref h0_orders, .ref h0_turnedOrders, .ref h0_turnedHeads, .ref h0_toOrder, .ref h0_marks, .ref h0_line, .ref h0_links, .int h0_floors, h0_v14, h0_v15, h0_v16, h0_v17, h0_v18, h0_v19])), (h0_digits, .inl (ty 0, 6, .inl (upd (upd (upd (upd (upd (upd h0_digits_f 5 5) 4 4) 3 3) 2 2) 1 1) 0 0)))]) (va_runSN (As := [.int 0]) (rest := [.int 0]) ⟨hx, hb, hml, hown, hts⟩ (kcX9_bit l D ty eo _ 0) ⟨va_cnB 1 hts gX3_numberOfOrder_X9_bit_n133 rfl rfl rfl (hN.1 _ (by decide +kernel : (.methodLinkNest "TurnedFloors$Paper" 133 yX9_bit "TurnedFloors" : Cond) ∈ kzN1)) (hts (.initialized RX9) (by decide +kernel)) (by decide +kernel) ⟨Nat.le_of_ble_eq_true rfl, Nat.le_of_ble_eq_true rfl⟩, hts (.static yX9_bit) (by decide +kernel), trivial⟩ (kz_preS hK hN hE hP hD hS hA [] (by decide) rfl) rfl rfl hl.1 rfl (lv_room (Nat.le_of_ble_eq_true rfl)) dX3_numberOfOrder_43 ⟨Nat.le_of_ble_eq_true rfl, Nat.le_of_ble_eq_true rfl⟩) hP hD hS hA [] [0, 1] rfl rfl (by decide) (by decide) (fun r u H locs hw hP hD hS => ?_)
  rcases hw with ⟨c_5, rfl, rfl⟩ | ⟨c_6, rfl, rfl⟩
  · have hP : va_P D vwCl [(h0, .inr (3, [.ref h0_ranks, .ref h0_digits, .ref h0_barred, .ref h0_pays, .ref h0_measuredBarred, .ref h0_buckets, .ref h0_orders, .ref h0_turnedOrders, .ref h0_turnedHeads, .ref h0_toOrder, .ref h0_marks, .ref h0_line, .ref h0_links, .int h0_floors, h0_v14, h0_v15, h0_v16, h0_v17, h0_v18, h0_v19])), (h0_digits, .inl (ty 0, 6, .inl (upd (upd (upd (upd (upd (upd h0_digits_f 5 5) 4 4) 3 3) 2 2) 1 1) 0 0)))] H := hP
    have hD : va_D A [(h0, .inr (3, [.ref h0_ranks, .ref h0_digits, .ref h0_barred, .ref h0_pays, .ref h0_measuredBarred, .ref h0_buckets, .ref h0_orders, .ref h0_turnedOrders, .ref h0_turnedHeads, .ref h0_toOrder, .ref h0_marks, .ref h0_line, .ref h0_links, .int h0_floors, h0_v14, h0_v15, h0_v16, h0_v17, h0_v18, h0_v19])), (h0_digits, .inl (ty 0, 6, .inl (upd (upd (upd (upd (upd (upd h0_digits_f 5 5) 4 4) 3 3) 2 2) 1 1) 0 0)))] := hD
    refine lv_iadd hx hb dX3_numberOfOrder_46 ?_
    refine lv_topi (fun z_7 ez_7 => ?_)
    obtain rfl : z_7 = 0 := ez_7.trans (by first | rfl | decide +kernel)
    refine lv_istore_n (lv' := [(3, .int 0), (4, .int 0), (2, .int 1), (1, .int 0), (0, .ref h0)]) hx hb dX3_numberOfOrder_47 rfl hl (by decide) rfl (fun ls hl => ?_)
    refine lv_iinc (v := 1) (lv' := [(4, .int 1), (3, .int 0), (2, .int 1), (1, .int 0), (0, .ref h0)]) hx hb dX3_numberOfOrder_48 hl (k := 1) rfl (by decide) (by decide) rfl (fun ls hl => ?_)
    refine lv_goto (tgt := 15) hx hb dX3_numberOfOrder_51 (by decide) ?_
    refine lv_iload hx hb dX3_numberOfOrder_15 (lv_at hl 0 rfl) ?_
    refine lv_iload_n hx hb dX3_numberOfOrder_17 rfl (lv_at hl 2 rfl) ?_
    refine lv_icmp_ge (tgt := 54) hx hb dX3_numberOfOrder_18 (by decide) (fun _ => ?_) (fun h => absurd (by decide) h)
    refine lv_iload_n hx hb dX3_numberOfOrder_54 rfl (lv_at hl 3 rfl) ?_
    refine lv_iload_n hx hb dX3_numberOfOrder_55 rfl (lv_at hl 1 rfl) ?_
    refine va_gets hx hb hE.1 hS hown (hts (.fieldLink RX3 76 "TurnedFloors$Paper" "FACTORIALS" "[I") (by decide +kernel)) (fun _ h9 => h9) dX3_numberOfOrder_56 ?_
    refine lv_iload_n hx hb dX3_numberOfOrder_59 rfl (lv_at hl 2 rfl) ?_
    refine va_ti (v := .int 1) hx hb hE.2.1 hS (by simp only [vp_in]; decide) rfl dX3_numberOfOrder_60 ?_
    refine lv_imul hx hb dX3_numberOfOrder_61 ?_
    refine lv_topi (fun z_8 ez_8 => ?_)
    obtain rfl : z_8 = 0 := ez_8.trans (by first | rfl | decide +kernel)
    refine lv_iadd hx hb dX3_numberOfOrder_62 ?_
    refine lv_topi (fun z_9 ez_9 => ?_)
    obtain rfl : z_9 = 0 := ez_9.trans (by first | rfl | decide +kernel)
    refine lv_istore_n (lv' := [(1, .int 0), (4, .int 1), (3, .int 0), (2, .int 1), (0, .ref h0)]) hx hb dX3_numberOfOrder_63 rfl hl (by decide) rfl (fun ls hl => ?_)
    refine lv_iinc (v := 2) (lv' := [(2, .int 2), (1, .int 0), (4, .int 1), (3, .int 0), (0, .ref h0)]) hx hb dX3_numberOfOrder_64 hl (k := 3) rfl (by decide) (by decide) rfl (fun ls hl => ?_)
    refine lv_goto (tgt := 4) hx hb dX3_numberOfOrder_67 (by decide) ?_
    refine lv_iload_n hx hb dX3_numberOfOrder_4 rfl (lv_at hl 0 rfl) ?_
    refine lv_bipush (v := 6) hx hb dX3_numberOfOrder_5 (by decide) ?_
    refine lv_icmp_ge (tgt := 70) hx hb dX3_numberOfOrder_7 (by decide) (fun h => absurd h (by decide)) (fun _ => ?_)
    refine lv_iconst (v := 0) hx hb dX3_numberOfOrder_10 (by decide) ?_
    refine lv_istore_n (lv' := [(3, .int 0), (2, .int 2), (1, .int 0), (4, .int 1), (0, .ref h0)]) hx hb dX3_numberOfOrder_11 rfl hl (by decide) rfl (fun ls hl => ?_)
    refine lv_iconst (v := 0) hx hb dX3_numberOfOrder_12 (by decide) ?_
    refine lv_istore (lv' := [(4, .int 0), (3, .int 0), (2, .int 2), (1, .int 0), (0, .ref h0)]) hx hb dX3_numberOfOrder_13 hl (by decide) rfl (fun ls hl => ?_)
    refine lv_iload hx hb dX3_numberOfOrder_15 (lv_at hl 0 rfl) ?_
    refine lv_iload_n hx hb dX3_numberOfOrder_17 rfl (lv_at hl 2 rfl) ?_
    refine lv_icmp_ge (tgt := 54) hx hb dX3_numberOfOrder_18 (by decide) (fun h => absurd h (by decide)) (fun _ => ?_)
    refine lv_iload_n hx hb dX3_numberOfOrder_21 rfl (lv_at hl 1 rfl) ?_
    refine lv_aload_n hx hb dX3_numberOfOrder_22 rfl (lv_at hl 4 rfl) ?_
    refine va_get (D := D) (ci := 3) (v := .ref h0_digits) (C := RX3) (T := TX3) (N := 20) hx hb hts (by decide +kernel) hown hK hP 0 rfl rfl 1 (by decide) (hts (.fieldLink RX3 15 "TurnedFloors$Paper" "digits" "[I") (by decide +kernel)) (fun _ h9 => h9) rfl dX3_numberOfOrder_23 ?_
    refine lv_iload hx hb dX3_numberOfOrder_26 (lv_at hl 0 rfl) ?_
    refine va_iald hx hb hK hP 1 0 rfl rfl (by simp only [vp_in]; decide) dX3_numberOfOrder_28 ?_
    refine lv_topi (fun z_10 ez_10 => ?_)
    obtain rfl : z_10 = 0 := ez_10.trans (by first | rfl | decide +kernel)
    refine lv_aload_n hx hb dX3_numberOfOrder_29 rfl (lv_at hl 4 rfl) ?_
    refine va_get (D := D) (ci := 3) (v := .ref h0_digits) (C := RX3) (T := TX3) (N := 20) hx hb hts (by decide +kernel) hown hK hP 0 rfl rfl 1 (by decide) (hts (.fieldLink RX3 15 "TurnedFloors$Paper" "digits" "[I") (by decide +kernel)) (fun _ h9 => h9) rfl dX3_numberOfOrder_30 ?_
    refine lv_iload_n hx hb dX3_numberOfOrder_33 rfl (lv_at hl 2 rfl) ?_
    refine va_iald hx hb hK hP 1 0 rfl rfl (by simp only [vp_in]; decide) dX3_numberOfOrder_34 ?_
    refine lv_topi (fun z_11 ez_11 => ?_)
    obtain rfl : z_11 = 2 := ez_11.trans (by first | rfl | decide +kernel)
    refine lv_icmp_le (tgt := 42) hx hb dX3_numberOfOrder_35 (by decide) (fun _ => ?_) (fun h => absurd (by decide) h)
    refine lv_iconst (v := 0) hx hb dX3_numberOfOrder_42 (by decide) ?_
    refine kz_ki (wc := []) (wr := [(h0, .inr (3, [.ref h0_ranks, .ref h0_digits, .ref h0_barred, .ref h0_pays, .ref h0_measuredBarred, .ref h0_buckets, .ref h0_orders, .ref h0_turnedOrders, .ref h0_turnedHeads, .ref h0_toOrder, .ref h0_marks, .ref h0_line, .ref h0_links, .int h0_floors, h0_v14, h0_v15, h0_v16, h0_v17, h0_v18, h0_v19])), (h0_digits, .inl (ty 0, 6, .inl (upd (upd (upd (upd (upd (upd h0_digits_f 5 5) 4 4) 3 3) 2 2) 1 1) 0 0)))]) (va_runSN (As := [.int 0]) (rest := [.int 0]) ⟨hx, hb, hml, hown, hts⟩ (kcX9_bit l D ty eo _ 0) ⟨va_cnB 1 hts gX3_numberOfOrder_X9_bit_n133 rfl rfl rfl (hN.1 _ (by decide +kernel : (.methodLinkNest "TurnedFloors$Paper" 133 yX9_bit "TurnedFloors" : Cond) ∈ kzN1)) (hts (.initialized RX9) (by decide +kernel)) (by decide +kernel) ⟨Nat.le_of_ble_eq_true rfl, Nat.le_of_ble_eq_true rfl⟩, hts (.static yX9_bit) (by decide +kernel), trivial⟩ (kz_preS hK hN hE hP hD hS hA [] (by decide) rfl) rfl rfl hl.1 rfl (lv_room (Nat.le_of_ble_eq_true rfl)) dX3_numberOfOrder_43 ⟨Nat.le_of_ble_eq_true rfl, Nat.le_of_ble_eq_true rfl⟩) hP hD hS hA [] [0, 1] rfl rfl (by decide) (by decide) (fun r u H locs hw hP hD hS => ?_)
    rcases hw with ⟨c_12, rfl, rfl⟩ | ⟨c_13, rfl, rfl⟩
    · have hP : va_P D vwCl [(h0, .inr (3, [.ref h0_ranks, .ref h0_digits, .ref h0_barred, .ref h0_pays, .ref h0_measuredBarred, .ref h0_buckets, .ref h0_orders, .ref h0_turnedOrders, .ref h0_turnedHeads, .ref h0_toOrder, .ref h0_marks, .ref h0_line, .ref h0_links, .int h0_floors, h0_v14, h0_v15, h0_v16, h0_v17, h0_v18, h0_v19])), (h0_digits, .inl (ty 0, 6, .inl (upd (upd (upd (upd (upd (upd h0_digits_f 5 5) 4 4) 3 3) 2 2) 1 1) 0 0)))] H := hP
      have hD : va_D A [(h0, .inr (3, [.ref h0_ranks, .ref h0_digits, .ref h0_barred, .ref h0_pays, .ref h0_measuredBarred, .ref h0_buckets, .ref h0_orders, .ref h0_turnedOrders, .ref h0_turnedHeads, .ref h0_toOrder, .ref h0_marks, .ref h0_line, .ref h0_links, .int h0_floors, h0_v14, h0_v15, h0_v16, h0_v17, h0_v18, h0_v19])), (h0_digits, .inl (ty 0, 6, .inl (upd (upd (upd (upd (upd (upd h0_digits_f 5 5) 4 4) 3 3) 2 2) 1 1) 0 0)))] := hD
      refine lv_iadd hx hb dX3_numberOfOrder_46 ?_
      refine lv_topi (fun z_14 ez_14 => ?_)
      obtain rfl : z_14 = 0 := ez_14.trans (by first | rfl | decide +kernel)
      refine lv_istore_n (lv' := [(3, .int 0), (4, .int 0), (2, .int 2), (1, .int 0), (0, .ref h0)]) hx hb dX3_numberOfOrder_47 rfl hl (by decide) rfl (fun ls hl => ?_)
      refine lv_iinc (v := 1) (lv' := [(4, .int 1), (3, .int 0), (2, .int 2), (1, .int 0), (0, .ref h0)]) hx hb dX3_numberOfOrder_48 hl (k := 1) rfl (by decide) (by decide) rfl (fun ls hl => ?_)
      refine lv_goto (tgt := 15) hx hb dX3_numberOfOrder_51 (by decide) ?_
      refine lv_iload hx hb dX3_numberOfOrder_15 (lv_at hl 0 rfl) ?_
      refine lv_iload_n hx hb dX3_numberOfOrder_17 rfl (lv_at hl 2 rfl) ?_
      refine lv_icmp_ge (tgt := 54) hx hb dX3_numberOfOrder_18 (by decide) (fun h => absurd h (by decide)) (fun _ => ?_)
      refine lv_iload_n hx hb dX3_numberOfOrder_21 rfl (lv_at hl 1 rfl) ?_
      refine lv_aload_n hx hb dX3_numberOfOrder_22 rfl (lv_at hl 4 rfl) ?_
      refine va_get (D := D) (ci := 3) (v := .ref h0_digits) (C := RX3) (T := TX3) (N := 20) hx hb hts (by decide +kernel) hown hK hP 0 rfl rfl 1 (by decide) (hts (.fieldLink RX3 15 "TurnedFloors$Paper" "digits" "[I") (by decide +kernel)) (fun _ h9 => h9) rfl dX3_numberOfOrder_23 ?_
      refine lv_iload hx hb dX3_numberOfOrder_26 (lv_at hl 0 rfl) ?_
      refine va_iald hx hb hK hP 1 0 rfl rfl (by simp only [vp_in]; decide) dX3_numberOfOrder_28 ?_
      refine lv_topi (fun z_15 ez_15 => ?_)
      obtain rfl : z_15 = 1 := ez_15.trans (by first | rfl | decide +kernel)
      refine lv_aload_n hx hb dX3_numberOfOrder_29 rfl (lv_at hl 4 rfl) ?_
      refine va_get (D := D) (ci := 3) (v := .ref h0_digits) (C := RX3) (T := TX3) (N := 20) hx hb hts (by decide +kernel) hown hK hP 0 rfl rfl 1 (by decide) (hts (.fieldLink RX3 15 "TurnedFloors$Paper" "digits" "[I") (by decide +kernel)) (fun _ h9 => h9) rfl dX3_numberOfOrder_30 ?_
      refine lv_iload_n hx hb dX3_numberOfOrder_33 rfl (lv_at hl 2 rfl) ?_
      refine va_iald hx hb hK hP 1 0 rfl rfl (by simp only [vp_in]; decide) dX3_numberOfOrder_34 ?_
      refine lv_topi (fun z_16 ez_16 => ?_)
      obtain rfl : z_16 = 2 := ez_16.trans (by first | rfl | decide +kernel)
      refine lv_icmp_le (tgt := 42) hx hb dX3_numberOfOrder_35 (by decide) (fun _ => ?_) (fun h => absurd (by decide) h)
      refine lv_iconst (v := 0) hx hb dX3_numberOfOrder_42 (by decide) ?_
      refine kz_ki (wc := []) (wr := [(h0, .inr (3, [.ref h0_ranks, .ref h0_digits, .ref h0_barred, .ref h0_pays, .ref h0_measuredBarred, .ref h0_buckets, .ref h0_orders, .ref h0_turnedOrders, .ref h0_turnedHeads, .ref h0_toOrder, .ref h0_marks, .ref h0_line, .ref h0_links, .int h0_floors, h0_v14, h0_v15, h0_v16, h0_v17, h0_v18, h0_v19])), (h0_digits, .inl (ty 0, 6, .inl (upd (upd (upd (upd (upd (upd h0_digits_f 5 5) 4 4) 3 3) 2 2) 1 1) 0 0)))]) (va_runSN (As := [.int 0]) (rest := [.int 0]) ⟨hx, hb, hml, hown, hts⟩ (kcX9_bit l D ty eo _ 0) ⟨va_cnB 1 hts gX3_numberOfOrder_X9_bit_n133 rfl rfl rfl (hN.1 _ (by decide +kernel : (.methodLinkNest "TurnedFloors$Paper" 133 yX9_bit "TurnedFloors" : Cond) ∈ kzN1)) (hts (.initialized RX9) (by decide +kernel)) (by decide +kernel) ⟨Nat.le_of_ble_eq_true rfl, Nat.le_of_ble_eq_true rfl⟩, hts (.static yX9_bit) (by decide +kernel), trivial⟩ (kz_preS hK hN hE hP hD hS hA [] (by decide) rfl) rfl rfl hl.1 rfl (lv_room (Nat.le_of_ble_eq_true rfl)) dX3_numberOfOrder_43 ⟨Nat.le_of_ble_eq_true rfl, Nat.le_of_ble_eq_true rfl⟩) hP hD hS hA [] [0, 1] rfl rfl (by decide) (by decide) (fun r u H locs hw hP hD hS => ?_)
      rcases hw with ⟨c_17, rfl, rfl⟩ | ⟨c_18, rfl, rfl⟩
      · have hP : va_P D vwCl [(h0, .inr (3, [.ref h0_ranks, .ref h0_digits, .ref h0_barred, .ref h0_pays, .ref h0_measuredBarred, .ref h0_buckets, .ref h0_orders, .ref h0_turnedOrders, .ref h0_turnedHeads, .ref h0_toOrder, .ref h0_marks, .ref h0_line, .ref h0_links, .int h0_floors, h0_v14, h0_v15, h0_v16, h0_v17, h0_v18, h0_v19])), (h0_digits, .inl (ty 0, 6, .inl (upd (upd (upd (upd (upd (upd h0_digits_f 5 5) 4 4) 3 3) 2 2) 1 1) 0 0)))] H := hP
        have hD : va_D A [(h0, .inr (3, [.ref h0_ranks, .ref h0_digits, .ref h0_barred, .ref h0_pays, .ref h0_measuredBarred, .ref h0_buckets, .ref h0_orders, .ref h0_turnedOrders, .ref h0_turnedHeads, .ref h0_toOrder, .ref h0_marks, .ref h0_line, .ref h0_links, .int h0_floors, h0_v14, h0_v15, h0_v16, h0_v17, h0_v18, h0_v19])), (h0_digits, .inl (ty 0, 6, .inl (upd (upd (upd (upd (upd (upd h0_digits_f 5 5) 4 4) 3 3) 2 2) 1 1) 0 0)))] := hD
        refine lv_iadd hx hb dX3_numberOfOrder_46 ?_
        refine lv_topi (fun z_19 ez_19 => ?_)
        obtain rfl : z_19 = 0 := ez_19.trans (by first | rfl | decide +kernel)
        refine lv_istore_n (lv' := [(3, .int 0), (4, .int 1), (2, .int 2), (1, .int 0), (0, .ref h0)]) hx hb dX3_numberOfOrder_47 rfl hl (by decide) rfl (fun ls hl => ?_)
        refine lv_iinc (v := 2) (lv' := [(4, .int 2), (3, .int 0), (2, .int 2), (1, .int 0), (0, .ref h0)]) hx hb dX3_numberOfOrder_48 hl (k := 1) rfl (by decide) (by decide) rfl (fun ls hl => ?_)
        refine lv_goto (tgt := 15) hx hb dX3_numberOfOrder_51 (by decide) ?_
        refine lv_iload hx hb dX3_numberOfOrder_15 (lv_at hl 0 rfl) ?_
        refine lv_iload_n hx hb dX3_numberOfOrder_17 rfl (lv_at hl 2 rfl) ?_
        refine lv_icmp_ge (tgt := 54) hx hb dX3_numberOfOrder_18 (by decide) (fun _ => ?_) (fun h => absurd (by decide) h)
        refine lv_iload_n hx hb dX3_numberOfOrder_54 rfl (lv_at hl 3 rfl) ?_
        refine lv_iload_n hx hb dX3_numberOfOrder_55 rfl (lv_at hl 1 rfl) ?_
        refine va_gets hx hb hE.1 hS hown (hts (.fieldLink RX3 76 "TurnedFloors$Paper" "FACTORIALS" "[I") (by decide +kernel)) (fun _ h9 => h9) dX3_numberOfOrder_56 ?_
        refine lv_iload_n hx hb dX3_numberOfOrder_59 rfl (lv_at hl 2 rfl) ?_
        refine va_ti (v := .int 2) hx hb hE.2.1 hS (by simp only [vp_in]; decide) rfl dX3_numberOfOrder_60 ?_
        refine lv_imul hx hb dX3_numberOfOrder_61 ?_
        refine lv_topi (fun z_20 ez_20 => ?_)
        obtain rfl : z_20 = 0 := ez_20.trans (by first | rfl | decide +kernel)
        refine lv_iadd hx hb dX3_numberOfOrder_62 ?_
        refine lv_topi (fun z_21 ez_21 => ?_)
        obtain rfl : z_21 = 0 := ez_21.trans (by first | rfl | decide +kernel)
        refine lv_istore_n (lv' := [(1, .int 0), (4, .int 2), (3, .int 0), (2, .int 2), (0, .ref h0)]) hx hb dX3_numberOfOrder_63 rfl hl (by decide) rfl (fun ls hl => ?_)
        refine lv_iinc (v := 3) (lv' := [(2, .int 3), (1, .int 0), (4, .int 2), (3, .int 0), (0, .ref h0)]) hx hb dX3_numberOfOrder_64 hl (k := 3) rfl (by decide) (by decide) rfl (fun ls hl => ?_)
        refine lv_goto (tgt := 4) hx hb dX3_numberOfOrder_67 (by decide) ?_
        refine lv_iload_n hx hb dX3_numberOfOrder_4 rfl (lv_at hl 0 rfl) ?_
        refine lv_bipush (v := 6) hx hb dX3_numberOfOrder_5 (by decide) ?_
        refine lv_icmp_ge (tgt := 70) hx hb dX3_numberOfOrder_7 (by decide) (fun h => absurd h (by decide)) (fun _ => ?_)
        refine lv_iconst (v := 0) hx hb dX3_numberOfOrder_10 (by decide) ?_
        refine lv_istore_n (lv' := [(3, .int 0), (2, .int 3), (1, .int 0), (4, .int 2), (0, .ref h0)]) hx hb dX3_numberOfOrder_11 rfl hl (by decide) rfl (fun ls hl => ?_)
        refine lv_iconst (v := 0) hx hb dX3_numberOfOrder_12 (by decide) ?_
        refine lv_istore (lv' := [(4, .int 0), (3, .int 0), (2, .int 3), (1, .int 0), (0, .ref h0)]) hx hb dX3_numberOfOrder_13 hl (by decide) rfl (fun ls hl => ?_)
        refine lv_iload hx hb dX3_numberOfOrder_15 (lv_at hl 0 rfl) ?_
        refine lv_iload_n hx hb dX3_numberOfOrder_17 rfl (lv_at hl 2 rfl) ?_
        refine lv_icmp_ge (tgt := 54) hx hb dX3_numberOfOrder_18 (by decide) (fun h => absurd h (by decide)) (fun _ => ?_)
        refine lv_iload_n hx hb dX3_numberOfOrder_21 rfl (lv_at hl 1 rfl) ?_
        refine lv_aload_n hx hb dX3_numberOfOrder_22 rfl (lv_at hl 4 rfl) ?_
        refine va_get (D := D) (ci := 3) (v := .ref h0_digits) (C := RX3) (T := TX3) (N := 20) hx hb hts (by decide +kernel) hown hK hP 0 rfl rfl 1 (by decide) (hts (.fieldLink RX3 15 "TurnedFloors$Paper" "digits" "[I") (by decide +kernel)) (fun _ h9 => h9) rfl dX3_numberOfOrder_23 ?_
        refine lv_iload hx hb dX3_numberOfOrder_26 (lv_at hl 0 rfl) ?_
        refine va_iald hx hb hK hP 1 0 rfl rfl (by simp only [vp_in]; decide) dX3_numberOfOrder_28 ?_
        refine lv_topi (fun z_22 ez_22 => ?_)
        obtain rfl : z_22 = 0 := ez_22.trans (by first | rfl | decide +kernel)
        refine lv_aload_n hx hb dX3_numberOfOrder_29 rfl (lv_at hl 4 rfl) ?_
        refine va_get (D := D) (ci := 3) (v := .ref h0_digits) (C := RX3) (T := TX3) (N := 20) hx hb hts (by decide +kernel) hown hK hP 0 rfl rfl 1 (by decide) (hts (.fieldLink RX3 15 "TurnedFloors$Paper" "digits" "[I") (by decide +kernel)) (fun _ h9 => h9) rfl dX3_numberOfOrder_30 ?_
        refine lv_iload_n hx hb dX3_numberOfOrder_33 rfl (lv_at hl 2 rfl) ?_
        refine va_iald hx hb hK hP 1 0 rfl rfl (by simp only [vp_in]; decide) dX3_numberOfOrder_34 ?_
        refine lv_topi (fun z_23 ez_23 => ?_)
        obtain rfl : z_23 = 3 := ez_23.trans (by first | rfl | decide +kernel)
        refine lv_icmp_le (tgt := 42) hx hb dX3_numberOfOrder_35 (by decide) (fun _ => ?_) (fun h => absurd (by decide) h)
        refine lv_iconst (v := 0) hx hb dX3_numberOfOrder_42 (by decide) ?_
        refine kz_ki (wc := []) (wr := [(h0, .inr (3, [.ref h0_ranks, .ref h0_digits, .ref h0_barred, .ref h0_pays, .ref h0_measuredBarred, .ref h0_buckets, .ref h0_orders, .ref h0_turnedOrders, .ref h0_turnedHeads, .ref h0_toOrder, .ref h0_marks, .ref h0_line, .ref h0_links, .int h0_floors, h0_v14, h0_v15, h0_v16, h0_v17, h0_v18, h0_v19])), (h0_digits, .inl (ty 0, 6, .inl (upd (upd (upd (upd (upd (upd h0_digits_f 5 5) 4 4) 3 3) 2 2) 1 1) 0 0)))]) (va_runSN (As := [.int 0]) (rest := [.int 0]) ⟨hx, hb, hml, hown, hts⟩ (kcX9_bit l D ty eo _ 0) ⟨va_cnB 1 hts gX3_numberOfOrder_X9_bit_n133 rfl rfl rfl (hN.1 _ (by decide +kernel : (.methodLinkNest "TurnedFloors$Paper" 133 yX9_bit "TurnedFloors" : Cond) ∈ kzN1)) (hts (.initialized RX9) (by decide +kernel)) (by decide +kernel) ⟨Nat.le_of_ble_eq_true rfl, Nat.le_of_ble_eq_true rfl⟩, hts (.static yX9_bit) (by decide +kernel), trivial⟩ (kz_preS hK hN hE hP hD hS hA [] (by decide) rfl) rfl rfl hl.1 rfl (lv_room (Nat.le_of_ble_eq_true rfl)) dX3_numberOfOrder_43 ⟨Nat.le_of_ble_eq_true rfl, Nat.le_of_ble_eq_true rfl⟩) hP hD hS hA [] [0, 1] rfl rfl (by decide) (by decide) (fun r u H locs hw hP hD hS => ?_)
        rcases hw with ⟨c_24, rfl, rfl⟩ | ⟨c_25, rfl, rfl⟩
        · have hP : va_P D vwCl [(h0, .inr (3, [.ref h0_ranks, .ref h0_digits, .ref h0_barred, .ref h0_pays, .ref h0_measuredBarred, .ref h0_buckets, .ref h0_orders, .ref h0_turnedOrders, .ref h0_turnedHeads, .ref h0_toOrder, .ref h0_marks, .ref h0_line, .ref h0_links, .int h0_floors, h0_v14, h0_v15, h0_v16, h0_v17, h0_v18, h0_v19])), (h0_digits, .inl (ty 0, 6, .inl (upd (upd (upd (upd (upd (upd h0_digits_f 5 5) 4 4) 3 3) 2 2) 1 1) 0 0)))] H := hP
          have hD : va_D A [(h0, .inr (3, [.ref h0_ranks, .ref h0_digits, .ref h0_barred, .ref h0_pays, .ref h0_measuredBarred, .ref h0_buckets, .ref h0_orders, .ref h0_turnedOrders, .ref h0_turnedHeads, .ref h0_toOrder, .ref h0_marks, .ref h0_line, .ref h0_links, .int h0_floors, h0_v14, h0_v15, h0_v16, h0_v17, h0_v18, h0_v19])), (h0_digits, .inl (ty 0, 6, .inl (upd (upd (upd (upd (upd (upd h0_digits_f 5 5) 4 4) 3 3) 2 2) 1 1) 0 0)))] := hD
          refine lv_iadd hx hb dX3_numberOfOrder_46 ?_
          refine lv_topi (fun z_26 ez_26 => ?_)
          obtain rfl : z_26 = 0 := ez_26.trans (by first | rfl | decide +kernel)
          refine lv_istore_n (lv' := [(3, .int 0), (4, .int 0), (2, .int 3), (1, .int 0), (0, .ref h0)]) hx hb dX3_numberOfOrder_47 rfl hl (by decide) rfl (fun ls hl => ?_)
          refine lv_iinc (v := 1) (lv' := [(4, .int 1), (3, .int 0), (2, .int 3), (1, .int 0), (0, .ref h0)]) hx hb dX3_numberOfOrder_48 hl (k := 1) rfl (by decide) (by decide) rfl (fun ls hl => ?_)
          refine lv_goto (tgt := 15) hx hb dX3_numberOfOrder_51 (by decide) ?_
          refine lv_iload hx hb dX3_numberOfOrder_15 (lv_at hl 0 rfl) ?_
          refine lv_iload_n hx hb dX3_numberOfOrder_17 rfl (lv_at hl 2 rfl) ?_
          refine lv_icmp_ge (tgt := 54) hx hb dX3_numberOfOrder_18 (by decide) (fun h => absurd h (by decide)) (fun _ => ?_)
          refine lv_iload_n hx hb dX3_numberOfOrder_21 rfl (lv_at hl 1 rfl) ?_
          refine lv_aload_n hx hb dX3_numberOfOrder_22 rfl (lv_at hl 4 rfl) ?_
          refine va_get (D := D) (ci := 3) (v := .ref h0_digits) (C := RX3) (T := TX3) (N := 20) hx hb hts (by decide +kernel) hown hK hP 0 rfl rfl 1 (by decide) (hts (.fieldLink RX3 15 "TurnedFloors$Paper" "digits" "[I") (by decide +kernel)) (fun _ h9 => h9) rfl dX3_numberOfOrder_23 ?_
          refine lv_iload hx hb dX3_numberOfOrder_26 (lv_at hl 0 rfl) ?_
          refine va_iald hx hb hK hP 1 0 rfl rfl (by simp only [vp_in]; decide) dX3_numberOfOrder_28 ?_
          refine lv_topi (fun z_27 ez_27 => ?_)
          obtain rfl : z_27 = 1 := ez_27.trans (by first | rfl | decide +kernel)
          refine lv_aload_n hx hb dX3_numberOfOrder_29 rfl (lv_at hl 4 rfl) ?_
          refine va_get (D := D) (ci := 3) (v := .ref h0_digits) (C := RX3) (T := TX3) (N := 20) hx hb hts (by decide +kernel) hown hK hP 0 rfl rfl 1 (by decide) (hts (.fieldLink RX3 15 "TurnedFloors$Paper" "digits" "[I") (by decide +kernel)) (fun _ h9 => h9) rfl dX3_numberOfOrder_30 ?_
          refine lv_iload_n hx hb dX3_numberOfOrder_33 rfl (lv_at hl 2 rfl) ?_
          refine va_iald hx hb hK hP 1 0 rfl rfl (by simp only [vp_in]; decide) dX3_numberOfOrder_34 ?_
          refine lv_topi (fun z_28 ez_28 => ?_)
          obtain rfl : z_28 = 3 := ez_28.trans (by first | rfl | decide +kernel)
          refine lv_icmp_le (tgt := 42) hx hb dX3_numberOfOrder_35 (by decide) (fun _ => ?_) (fun h => absurd (by decide) h)
          refine lv_iconst (v := 0) hx hb dX3_numberOfOrder_42 (by decide) ?_
          refine kz_ki (wc := []) (wr := [(h0, .inr (3, [.ref h0_ranks, .ref h0_digits, .ref h0_barred, .ref h0_pays, .ref h0_measuredBarred, .ref h0_buckets, .ref h0_orders, .ref h0_turnedOrders, .ref h0_turnedHeads, .ref h0_toOrder, .ref h0_marks, .ref h0_line, .ref h0_links, .int h0_floors, h0_v14, h0_v15, h0_v16, h0_v17, h0_v18, h0_v19])), (h0_digits, .inl (ty 0, 6, .inl (upd (upd (upd (upd (upd (upd h0_digits_f 5 5) 4 4) 3 3) 2 2) 1 1) 0 0)))]) (va_runSN (As := [.int 0]) (rest := [.int 0]) ⟨hx, hb, hml, hown, hts⟩ (kcX9_bit l D ty eo _ 0) ⟨va_cnB 1 hts gX3_numberOfOrder_X9_bit_n133 rfl rfl rfl (hN.1 _ (by decide +kernel : (.methodLinkNest "TurnedFloors$Paper" 133 yX9_bit "TurnedFloors" : Cond) ∈ kzN1)) (hts (.initialized RX9) (by decide +kernel)) (by decide +kernel) ⟨Nat.le_of_ble_eq_true rfl, Nat.le_of_ble_eq_true rfl⟩, hts (.static yX9_bit) (by decide +kernel), trivial⟩ (kz_preS hK hN hE hP hD hS hA [] (by decide) rfl) rfl rfl hl.1 rfl (lv_room (Nat.le_of_ble_eq_true rfl)) dX3_numberOfOrder_43 ⟨Nat.le_of_ble_eq_true rfl, Nat.le_of_ble_eq_true rfl⟩) hP hD hS hA [] [0, 1] rfl rfl (by decide) (by decide) (fun r u H locs hw hP hD hS => ?_)
          rcases hw with ⟨c_29, rfl, rfl⟩ | ⟨c_30, rfl, rfl⟩
          · have hP : va_P D vwCl [(h0, .inr (3, [.ref h0_ranks, .ref h0_digits, .ref h0_barred, .ref h0_pays, .ref h0_measuredBarred, .ref h0_buckets, .ref h0_orders, .ref h0_turnedOrders, .ref h0_turnedHeads, .ref h0_toOrder, .ref h0_marks, .ref h0_line, .ref h0_links, .int h0_floors, h0_v14, h0_v15, h0_v16, h0_v17, h0_v18, h0_v19])), (h0_digits, .inl (ty 0, 6, .inl (upd (upd (upd (upd (upd (upd h0_digits_f 5 5) 4 4) 3 3) 2 2) 1 1) 0 0)))] H := hP
            have hD : va_D A [(h0, .inr (3, [.ref h0_ranks, .ref h0_digits, .ref h0_barred, .ref h0_pays, .ref h0_measuredBarred, .ref h0_buckets, .ref h0_orders, .ref h0_turnedOrders, .ref h0_turnedHeads, .ref h0_toOrder, .ref h0_marks, .ref h0_line, .ref h0_links, .int h0_floors, h0_v14, h0_v15, h0_v16, h0_v17, h0_v18, h0_v19])), (h0_digits, .inl (ty 0, 6, .inl (upd (upd (upd (upd (upd (upd h0_digits_f 5 5) 4 4) 3 3) 2 2) 1 1) 0 0)))] := hD
            refine lv_iadd hx hb dX3_numberOfOrder_46 ?_
            refine lv_topi (fun z_31 ez_31 => ?_)
            obtain rfl : z_31 = 0 := ez_31.trans (by first | rfl | decide +kernel)
            refine lv_istore_n (lv' := [(3, .int 0), (4, .int 1), (2, .int 3), (1, .int 0), (0, .ref h0)]) hx hb dX3_numberOfOrder_47 rfl hl (by decide) rfl (fun ls hl => ?_)
            refine lv_iinc (v := 2) (lv' := [(4, .int 2), (3, .int 0), (2, .int 3), (1, .int 0), (0, .ref h0)]) hx hb dX3_numberOfOrder_48 hl (k := 1) rfl (by decide) (by decide) rfl (fun ls hl => ?_)
            refine lv_goto (tgt := 15) hx hb dX3_numberOfOrder_51 (by decide) ?_
            refine lv_iload hx hb dX3_numberOfOrder_15 (lv_at hl 0 rfl) ?_
            refine lv_iload_n hx hb dX3_numberOfOrder_17 rfl (lv_at hl 2 rfl) ?_
            refine lv_icmp_ge (tgt := 54) hx hb dX3_numberOfOrder_18 (by decide) (fun h => absurd h (by decide)) (fun _ => ?_)
            refine lv_iload_n hx hb dX3_numberOfOrder_21 rfl (lv_at hl 1 rfl) ?_
            refine lv_aload_n hx hb dX3_numberOfOrder_22 rfl (lv_at hl 4 rfl) ?_
            refine va_get (D := D) (ci := 3) (v := .ref h0_digits) (C := RX3) (T := TX3) (N := 20) hx hb hts (by decide +kernel) hown hK hP 0 rfl rfl 1 (by decide) (hts (.fieldLink RX3 15 "TurnedFloors$Paper" "digits" "[I") (by decide +kernel)) (fun _ h9 => h9) rfl dX3_numberOfOrder_23 ?_
            refine lv_iload hx hb dX3_numberOfOrder_26 (lv_at hl 0 rfl) ?_
            refine va_iald hx hb hK hP 1 0 rfl rfl (by simp only [vp_in]; decide) dX3_numberOfOrder_28 ?_
            refine lv_topi (fun z_32 ez_32 => ?_)
            obtain rfl : z_32 = 2 := ez_32.trans (by first | rfl | decide +kernel)
            refine lv_aload_n hx hb dX3_numberOfOrder_29 rfl (lv_at hl 4 rfl) ?_
            refine va_get (D := D) (ci := 3) (v := .ref h0_digits) (C := RX3) (T := TX3) (N := 20) hx hb hts (by decide +kernel) hown hK hP 0 rfl rfl 1 (by decide) (hts (.fieldLink RX3 15 "TurnedFloors$Paper" "digits" "[I") (by decide +kernel)) (fun _ h9 => h9) rfl dX3_numberOfOrder_30 ?_
            refine lv_iload_n hx hb dX3_numberOfOrder_33 rfl (lv_at hl 2 rfl) ?_
            refine va_iald hx hb hK hP 1 0 rfl rfl (by simp only [vp_in]; decide) dX3_numberOfOrder_34 ?_
            refine lv_topi (fun z_33 ez_33 => ?_)
            obtain rfl : z_33 = 3 := ez_33.trans (by first | rfl | decide +kernel)
            refine lv_icmp_le (tgt := 42) hx hb dX3_numberOfOrder_35 (by decide) (fun _ => ?_) (fun h => absurd (by decide) h)
            refine lv_iconst (v := 0) hx hb dX3_numberOfOrder_42 (by decide) ?_
            refine kz_ki (wc := []) (wr := [(h0, .inr (3, [.ref h0_ranks, .ref h0_digits, .ref h0_barred, .ref h0_pays, .ref h0_measuredBarred, .ref h0_buckets, .ref h0_orders, .ref h0_turnedOrders, .ref h0_turnedHeads, .ref h0_toOrder, .ref h0_marks, .ref h0_line, .ref h0_links, .int h0_floors, h0_v14, h0_v15, h0_v16, h0_v17, h0_v18, h0_v19])), (h0_digits, .inl (ty 0, 6, .inl (upd (upd (upd (upd (upd (upd h0_digits_f 5 5) 4 4) 3 3) 2 2) 1 1) 0 0)))]) (va_runSN (As := [.int 0]) (rest := [.int 0]) ⟨hx, hb, hml, hown, hts⟩ (kcX9_bit l D ty eo _ 0) ⟨va_cnB 1 hts gX3_numberOfOrder_X9_bit_n133 rfl rfl rfl (hN.1 _ (by decide +kernel : (.methodLinkNest "TurnedFloors$Paper" 133 yX9_bit "TurnedFloors" : Cond) ∈ kzN1)) (hts (.initialized RX9) (by decide +kernel)) (by decide +kernel) ⟨Nat.le_of_ble_eq_true rfl, Nat.le_of_ble_eq_true rfl⟩, hts (.static yX9_bit) (by decide +kernel), trivial⟩ (kz_preS hK hN hE hP hD hS hA [] (by decide) rfl) rfl rfl hl.1 rfl (lv_room (Nat.le_of_ble_eq_true rfl)) dX3_numberOfOrder_43 ⟨Nat.le_of_ble_eq_true rfl, Nat.le_of_ble_eq_true rfl⟩) hP hD hS hA [] [0, 1] rfl rfl (by decide) (by decide) (fun r u H locs hw hP hD hS => ?_)
            rcases hw with ⟨c_34, rfl, rfl⟩ | ⟨c_35, rfl, rfl⟩
            · have hP : va_P D vwCl [(h0, .inr (3, [.ref h0_ranks, .ref h0_digits, .ref h0_barred, .ref h0_pays, .ref h0_measuredBarred, .ref h0_buckets, .ref h0_orders, .ref h0_turnedOrders, .ref h0_turnedHeads, .ref h0_toOrder, .ref h0_marks, .ref h0_line, .ref h0_links, .int h0_floors, h0_v14, h0_v15, h0_v16, h0_v17, h0_v18, h0_v19])), (h0_digits, .inl (ty 0, 6, .inl (upd (upd (upd (upd (upd (upd h0_digits_f 5 5) 4 4) 3 3) 2 2) 1 1) 0 0)))] H := hP
              have hD : va_D A [(h0, .inr (3, [.ref h0_ranks, .ref h0_digits, .ref h0_barred, .ref h0_pays, .ref h0_measuredBarred, .ref h0_buckets, .ref h0_orders, .ref h0_turnedOrders, .ref h0_turnedHeads, .ref h0_toOrder, .ref h0_marks, .ref h0_line, .ref h0_links, .int h0_floors, h0_v14, h0_v15, h0_v16, h0_v17, h0_v18, h0_v19])), (h0_digits, .inl (ty 0, 6, .inl (upd (upd (upd (upd (upd (upd h0_digits_f 5 5) 4 4) 3 3) 2 2) 1 1) 0 0)))] := hD
              refine lv_iadd hx hb dX3_numberOfOrder_46 ?_
              refine lv_topi (fun z_36 ez_36 => ?_)
              obtain rfl : z_36 = 0 := ez_36.trans (by first | rfl | decide +kernel)
              refine lv_istore_n (lv' := [(3, .int 0), (4, .int 2), (2, .int 3), (1, .int 0), (0, .ref h0)]) hx hb dX3_numberOfOrder_47 rfl hl (by decide) rfl (fun ls hl => ?_)
              refine lv_iinc (v := 3) (lv' := [(4, .int 3), (3, .int 0), (2, .int 3), (1, .int 0), (0, .ref h0)]) hx hb dX3_numberOfOrder_48 hl (k := 1) rfl (by decide) (by decide) rfl (fun ls hl => ?_)
              refine lv_goto (tgt := 15) hx hb dX3_numberOfOrder_51 (by decide) ?_
              refine lv_iload hx hb dX3_numberOfOrder_15 (lv_at hl 0 rfl) ?_
              refine lv_iload_n hx hb dX3_numberOfOrder_17 rfl (lv_at hl 2 rfl) ?_
              refine lv_icmp_ge (tgt := 54) hx hb dX3_numberOfOrder_18 (by decide) (fun _ => ?_) (fun h => absurd (by decide) h)
              refine lv_iload_n hx hb dX3_numberOfOrder_54 rfl (lv_at hl 3 rfl) ?_
              refine lv_iload_n hx hb dX3_numberOfOrder_55 rfl (lv_at hl 1 rfl) ?_
              refine va_gets hx hb hE.1 hS hown (hts (.fieldLink RX3 76 "TurnedFloors$Paper" "FACTORIALS" "[I") (by decide +kernel)) (fun _ h9 => h9) dX3_numberOfOrder_56 ?_
              refine lv_iload_n hx hb dX3_numberOfOrder_59 rfl (lv_at hl 2 rfl) ?_
              refine va_ti (v := .int 6) hx hb hE.2.1 hS (by simp only [vp_in]; decide) rfl dX3_numberOfOrder_60 ?_
              refine lv_imul hx hb dX3_numberOfOrder_61 ?_
              refine lv_topi (fun z_37 ez_37 => ?_)
              obtain rfl : z_37 = 0 := ez_37.trans (by first | rfl | decide +kernel)
              refine lv_iadd hx hb dX3_numberOfOrder_62 ?_
              refine lv_topi (fun z_38 ez_38 => ?_)
              obtain rfl : z_38 = 0 := ez_38.trans (by first | rfl | decide +kernel)
              refine lv_istore_n (lv' := [(1, .int 0), (4, .int 3), (3, .int 0), (2, .int 3), (0, .ref h0)]) hx hb dX3_numberOfOrder_63 rfl hl (by decide) rfl (fun ls hl => ?_)
              refine lv_iinc (v := 4) (lv' := [(2, .int 4), (1, .int 0), (4, .int 3), (3, .int 0), (0, .ref h0)]) hx hb dX3_numberOfOrder_64 hl (k := 3) rfl (by decide) (by decide) rfl (fun ls hl => ?_)
              refine lv_goto (tgt := 4) hx hb dX3_numberOfOrder_67 (by decide) ?_
              refine lv_iload_n hx hb dX3_numberOfOrder_4 rfl (lv_at hl 0 rfl) ?_
              refine lv_bipush (v := 6) hx hb dX3_numberOfOrder_5 (by decide) ?_
              refine lv_icmp_ge (tgt := 70) hx hb dX3_numberOfOrder_7 (by decide) (fun h => absurd h (by decide)) (fun _ => ?_)
              refine lv_iconst (v := 0) hx hb dX3_numberOfOrder_10 (by decide) ?_
              refine lv_istore_n (lv' := [(3, .int 0), (2, .int 4), (1, .int 0), (4, .int 3), (0, .ref h0)]) hx hb dX3_numberOfOrder_11 rfl hl (by decide) rfl (fun ls hl => ?_)
              refine lv_iconst (v := 0) hx hb dX3_numberOfOrder_12 (by decide) ?_
              refine lv_istore (lv' := [(4, .int 0), (3, .int 0), (2, .int 4), (1, .int 0), (0, .ref h0)]) hx hb dX3_numberOfOrder_13 hl (by decide) rfl (fun ls hl => ?_)
              refine lv_iload hx hb dX3_numberOfOrder_15 (lv_at hl 0 rfl) ?_
              refine lv_iload_n hx hb dX3_numberOfOrder_17 rfl (lv_at hl 2 rfl) ?_
              refine lv_icmp_ge (tgt := 54) hx hb dX3_numberOfOrder_18 (by decide) (fun h => absurd h (by decide)) (fun _ => ?_)
              refine lv_iload_n hx hb dX3_numberOfOrder_21 rfl (lv_at hl 1 rfl) ?_
              refine lv_aload_n hx hb dX3_numberOfOrder_22 rfl (lv_at hl 4 rfl) ?_
              refine va_get (D := D) (ci := 3) (v := .ref h0_digits) (C := RX3) (T := TX3) (N := 20) hx hb hts (by decide +kernel) hown hK hP 0 rfl rfl 1 (by decide) (hts (.fieldLink RX3 15 "TurnedFloors$Paper" "digits" "[I") (by decide +kernel)) (fun _ h9 => h9) rfl dX3_numberOfOrder_23 ?_
              refine lv_iload hx hb dX3_numberOfOrder_26 (lv_at hl 0 rfl) ?_
              refine va_iald hx hb hK hP 1 0 rfl rfl (by simp only [vp_in]; decide) dX3_numberOfOrder_28 ?_
              refine lv_topi (fun z_39 ez_39 => ?_)
              obtain rfl : z_39 = 0 := ez_39.trans (by first | rfl | decide +kernel)
              refine lv_aload_n hx hb dX3_numberOfOrder_29 rfl (lv_at hl 4 rfl) ?_
              refine va_get (D := D) (ci := 3) (v := .ref h0_digits) (C := RX3) (T := TX3) (N := 20) hx hb hts (by decide +kernel) hown hK hP 0 rfl rfl 1 (by decide) (hts (.fieldLink RX3 15 "TurnedFloors$Paper" "digits" "[I") (by decide +kernel)) (fun _ h9 => h9) rfl dX3_numberOfOrder_30 ?_
              refine lv_iload_n hx hb dX3_numberOfOrder_33 rfl (lv_at hl 2 rfl) ?_
              refine va_iald hx hb hK hP 1 0 rfl rfl (by simp only [vp_in]; decide) dX3_numberOfOrder_34 ?_
              refine lv_topi (fun z_40 ez_40 => ?_)
              obtain rfl : z_40 = 4 := ez_40.trans (by first | rfl | decide +kernel)
              refine lv_icmp_le (tgt := 42) hx hb dX3_numberOfOrder_35 (by decide) (fun _ => ?_) (fun h => absurd (by decide) h)
              refine lv_iconst (v := 0) hx hb dX3_numberOfOrder_42 (by decide) ?_
              refine kz_ki (wc := []) (wr := [(h0, .inr (3, [.ref h0_ranks, .ref h0_digits, .ref h0_barred, .ref h0_pays, .ref h0_measuredBarred, .ref h0_buckets, .ref h0_orders, .ref h0_turnedOrders, .ref h0_turnedHeads, .ref h0_toOrder, .ref h0_marks, .ref h0_line, .ref h0_links, .int h0_floors, h0_v14, h0_v15, h0_v16, h0_v17, h0_v18, h0_v19])), (h0_digits, .inl (ty 0, 6, .inl (upd (upd (upd (upd (upd (upd h0_digits_f 5 5) 4 4) 3 3) 2 2) 1 1) 0 0)))]) (va_runSN (As := [.int 0]) (rest := [.int 0]) ⟨hx, hb, hml, hown, hts⟩ (kcX9_bit l D ty eo _ 0) ⟨va_cnB 1 hts gX3_numberOfOrder_X9_bit_n133 rfl rfl rfl (hN.1 _ (by decide +kernel : (.methodLinkNest "TurnedFloors$Paper" 133 yX9_bit "TurnedFloors" : Cond) ∈ kzN1)) (hts (.initialized RX9) (by decide +kernel)) (by decide +kernel) ⟨Nat.le_of_ble_eq_true rfl, Nat.le_of_ble_eq_true rfl⟩, hts (.static yX9_bit) (by decide +kernel), trivial⟩ (kz_preS hK hN hE hP hD hS hA [] (by decide) rfl) rfl rfl hl.1 rfl (lv_room (Nat.le_of_ble_eq_true rfl)) dX3_numberOfOrder_43 ⟨Nat.le_of_ble_eq_true rfl, Nat.le_of_ble_eq_true rfl⟩) hP hD hS hA [] [0, 1] rfl rfl (by decide) (by decide) (fun r u H locs hw hP hD hS => ?_)
              rcases hw with ⟨c_41, rfl, rfl⟩ | ⟨c_42, rfl, rfl⟩
              · have hP : va_P D vwCl [(h0, .inr (3, [.ref h0_ranks, .ref h0_digits, .ref h0_barred, .ref h0_pays, .ref h0_measuredBarred, .ref h0_buckets, .ref h0_orders, .ref h0_turnedOrders, .ref h0_turnedHeads, .ref h0_toOrder, .ref h0_marks, .ref h0_line, .ref h0_links, .int h0_floors, h0_v14, h0_v15, h0_v16, h0_v17, h0_v18, h0_v19])), (h0_digits, .inl (ty 0, 6, .inl (upd (upd (upd (upd (upd (upd h0_digits_f 5 5) 4 4) 3 3) 2 2) 1 1) 0 0)))] H := hP
                have hD : va_D A [(h0, .inr (3, [.ref h0_ranks, .ref h0_digits, .ref h0_barred, .ref h0_pays, .ref h0_measuredBarred, .ref h0_buckets, .ref h0_orders, .ref h0_turnedOrders, .ref h0_turnedHeads, .ref h0_toOrder, .ref h0_marks, .ref h0_line, .ref h0_links, .int h0_floors, h0_v14, h0_v15, h0_v16, h0_v17, h0_v18, h0_v19])), (h0_digits, .inl (ty 0, 6, .inl (upd (upd (upd (upd (upd (upd h0_digits_f 5 5) 4 4) 3 3) 2 2) 1 1) 0 0)))] := hD
                refine lv_iadd hx hb dX3_numberOfOrder_46 ?_
                refine lv_topi (fun z_43 ez_43 => ?_)
                obtain rfl : z_43 = 0 := ez_43.trans (by first | rfl | decide +kernel)
                refine lv_istore_n (lv' := [(3, .int 0), (4, .int 0), (2, .int 4), (1, .int 0), (0, .ref h0)]) hx hb dX3_numberOfOrder_47 rfl hl (by decide) rfl (fun ls hl => ?_)
                refine lv_iinc (v := 1) (lv' := [(4, .int 1), (3, .int 0), (2, .int 4), (1, .int 0), (0, .ref h0)]) hx hb dX3_numberOfOrder_48 hl (k := 1) rfl (by decide) (by decide) rfl (fun ls hl => ?_)
                refine lv_goto (tgt := 15) hx hb dX3_numberOfOrder_51 (by decide) ?_
                refine lv_iload hx hb dX3_numberOfOrder_15 (lv_at hl 0 rfl) ?_
                refine lv_iload_n hx hb dX3_numberOfOrder_17 rfl (lv_at hl 2 rfl) ?_
                refine lv_icmp_ge (tgt := 54) hx hb dX3_numberOfOrder_18 (by decide) (fun h => absurd h (by decide)) (fun _ => ?_)
                refine lv_iload_n hx hb dX3_numberOfOrder_21 rfl (lv_at hl 1 rfl) ?_
                refine lv_aload_n hx hb dX3_numberOfOrder_22 rfl (lv_at hl 4 rfl) ?_
                refine va_get (D := D) (ci := 3) (v := .ref h0_digits) (C := RX3) (T := TX3) (N := 20) hx hb hts (by decide +kernel) hown hK hP 0 rfl rfl 1 (by decide) (hts (.fieldLink RX3 15 "TurnedFloors$Paper" "digits" "[I") (by decide +kernel)) (fun _ h9 => h9) rfl dX3_numberOfOrder_23 ?_
                refine lv_iload hx hb dX3_numberOfOrder_26 (lv_at hl 0 rfl) ?_
                refine va_iald hx hb hK hP 1 0 rfl rfl (by simp only [vp_in]; decide) dX3_numberOfOrder_28 ?_
                refine lv_topi (fun z_44 ez_44 => ?_)
                obtain rfl : z_44 = 1 := ez_44.trans (by first | rfl | decide +kernel)
                refine lv_aload_n hx hb dX3_numberOfOrder_29 rfl (lv_at hl 4 rfl) ?_
                refine va_get (D := D) (ci := 3) (v := .ref h0_digits) (C := RX3) (T := TX3) (N := 20) hx hb hts (by decide +kernel) hown hK hP 0 rfl rfl 1 (by decide) (hts (.fieldLink RX3 15 "TurnedFloors$Paper" "digits" "[I") (by decide +kernel)) (fun _ h9 => h9) rfl dX3_numberOfOrder_30 ?_
                refine lv_iload_n hx hb dX3_numberOfOrder_33 rfl (lv_at hl 2 rfl) ?_
                refine va_iald hx hb hK hP 1 0 rfl rfl (by simp only [vp_in]; decide) dX3_numberOfOrder_34 ?_
                refine lv_topi (fun z_45 ez_45 => ?_)
                obtain rfl : z_45 = 4 := ez_45.trans (by first | rfl | decide +kernel)
                refine lv_icmp_le (tgt := 42) hx hb dX3_numberOfOrder_35 (by decide) (fun _ => ?_) (fun h => absurd (by decide) h)
                refine lv_iconst (v := 0) hx hb dX3_numberOfOrder_42 (by decide) ?_
                refine kz_ki (wc := []) (wr := [(h0, .inr (3, [.ref h0_ranks, .ref h0_digits, .ref h0_barred, .ref h0_pays, .ref h0_measuredBarred, .ref h0_buckets, .ref h0_orders, .ref h0_turnedOrders, .ref h0_turnedHeads, .ref h0_toOrder, .ref h0_marks, .ref h0_line, .ref h0_links, .int h0_floors, h0_v14, h0_v15, h0_v16, h0_v17, h0_v18, h0_v19])), (h0_digits, .inl (ty 0, 6, .inl (upd (upd (upd (upd (upd (upd h0_digits_f 5 5) 4 4) 3 3) 2 2) 1 1) 0 0)))]) (va_runSN (As := [.int 0]) (rest := [.int 0]) ⟨hx, hb, hml, hown, hts⟩ (kcX9_bit l D ty eo _ 0) ⟨va_cnB 1 hts gX3_numberOfOrder_X9_bit_n133 rfl rfl rfl (hN.1 _ (by decide +kernel : (.methodLinkNest "TurnedFloors$Paper" 133 yX9_bit "TurnedFloors" : Cond) ∈ kzN1)) (hts (.initialized RX9) (by decide +kernel)) (by decide +kernel) ⟨Nat.le_of_ble_eq_true rfl, Nat.le_of_ble_eq_true rfl⟩, hts (.static yX9_bit) (by decide +kernel), trivial⟩ (kz_preS hK hN hE hP hD hS hA [] (by decide) rfl) rfl rfl hl.1 rfl (lv_room (Nat.le_of_ble_eq_true rfl)) dX3_numberOfOrder_43 ⟨Nat.le_of_ble_eq_true rfl, Nat.le_of_ble_eq_true rfl⟩) hP hD hS hA [] [0, 1] rfl rfl (by decide) (by decide) (fun r u H locs hw hP hD hS => ?_)
                rcases hw with ⟨c_46, rfl, rfl⟩ | ⟨c_47, rfl, rfl⟩
                · have hP : va_P D vwCl [(h0, .inr (3, [.ref h0_ranks, .ref h0_digits, .ref h0_barred, .ref h0_pays, .ref h0_measuredBarred, .ref h0_buckets, .ref h0_orders, .ref h0_turnedOrders, .ref h0_turnedHeads, .ref h0_toOrder, .ref h0_marks, .ref h0_line, .ref h0_links, .int h0_floors, h0_v14, h0_v15, h0_v16, h0_v17, h0_v18, h0_v19])), (h0_digits, .inl (ty 0, 6, .inl (upd (upd (upd (upd (upd (upd h0_digits_f 5 5) 4 4) 3 3) 2 2) 1 1) 0 0)))] H := hP
                  have hD : va_D A [(h0, .inr (3, [.ref h0_ranks, .ref h0_digits, .ref h0_barred, .ref h0_pays, .ref h0_measuredBarred, .ref h0_buckets, .ref h0_orders, .ref h0_turnedOrders, .ref h0_turnedHeads, .ref h0_toOrder, .ref h0_marks, .ref h0_line, .ref h0_links, .int h0_floors, h0_v14, h0_v15, h0_v16, h0_v17, h0_v18, h0_v19])), (h0_digits, .inl (ty 0, 6, .inl (upd (upd (upd (upd (upd (upd h0_digits_f 5 5) 4 4) 3 3) 2 2) 1 1) 0 0)))] := hD
                  refine lv_iadd hx hb dX3_numberOfOrder_46 ?_
                  refine lv_topi (fun z_48 ez_48 => ?_)
                  obtain rfl : z_48 = 0 := ez_48.trans (by first | rfl | decide +kernel)
                  refine lv_istore_n (lv' := [(3, .int 0), (4, .int 1), (2, .int 4), (1, .int 0), (0, .ref h0)]) hx hb dX3_numberOfOrder_47 rfl hl (by decide) rfl (fun ls hl => ?_)
                  refine lv_iinc (v := 2) (lv' := [(4, .int 2), (3, .int 0), (2, .int 4), (1, .int 0), (0, .ref h0)]) hx hb dX3_numberOfOrder_48 hl (k := 1) rfl (by decide) (by decide) rfl (fun ls hl => ?_)
                  refine lv_goto (tgt := 15) hx hb dX3_numberOfOrder_51 (by decide) ?_
                  refine lv_iload hx hb dX3_numberOfOrder_15 (lv_at hl 0 rfl) ?_
                  refine lv_iload_n hx hb dX3_numberOfOrder_17 rfl (lv_at hl 2 rfl) ?_
                  refine lv_icmp_ge (tgt := 54) hx hb dX3_numberOfOrder_18 (by decide) (fun h => absurd h (by decide)) (fun _ => ?_)
                  refine lv_iload_n hx hb dX3_numberOfOrder_21 rfl (lv_at hl 1 rfl) ?_
                  refine lv_aload_n hx hb dX3_numberOfOrder_22 rfl (lv_at hl 4 rfl) ?_
                  refine va_get (D := D) (ci := 3) (v := .ref h0_digits) (C := RX3) (T := TX3) (N := 20) hx hb hts (by decide +kernel) hown hK hP 0 rfl rfl 1 (by decide) (hts (.fieldLink RX3 15 "TurnedFloors$Paper" "digits" "[I") (by decide +kernel)) (fun _ h9 => h9) rfl dX3_numberOfOrder_23 ?_
                  refine lv_iload hx hb dX3_numberOfOrder_26 (lv_at hl 0 rfl) ?_
                  refine va_iald hx hb hK hP 1 0 rfl rfl (by simp only [vp_in]; decide) dX3_numberOfOrder_28 ?_
                  refine lv_topi (fun z_49 ez_49 => ?_)
                  obtain rfl : z_49 = 2 := ez_49.trans (by first | rfl | decide +kernel)
                  refine lv_aload_n hx hb dX3_numberOfOrder_29 rfl (lv_at hl 4 rfl) ?_
                  refine va_get (D := D) (ci := 3) (v := .ref h0_digits) (C := RX3) (T := TX3) (N := 20) hx hb hts (by decide +kernel) hown hK hP 0 rfl rfl 1 (by decide) (hts (.fieldLink RX3 15 "TurnedFloors$Paper" "digits" "[I") (by decide +kernel)) (fun _ h9 => h9) rfl dX3_numberOfOrder_30 ?_
                  refine lv_iload_n hx hb dX3_numberOfOrder_33 rfl (lv_at hl 2 rfl) ?_
                  refine va_iald hx hb hK hP 1 0 rfl rfl (by simp only [vp_in]; decide) dX3_numberOfOrder_34 ?_
                  refine lv_topi (fun z_50 ez_50 => ?_)
                  obtain rfl : z_50 = 4 := ez_50.trans (by first | rfl | decide +kernel)
                  refine lv_icmp_le (tgt := 42) hx hb dX3_numberOfOrder_35 (by decide) (fun _ => ?_) (fun h => absurd (by decide) h)
                  refine lv_iconst (v := 0) hx hb dX3_numberOfOrder_42 (by decide) ?_
                  refine kz_ki (wc := []) (wr := [(h0, .inr (3, [.ref h0_ranks, .ref h0_digits, .ref h0_barred, .ref h0_pays, .ref h0_measuredBarred, .ref h0_buckets, .ref h0_orders, .ref h0_turnedOrders, .ref h0_turnedHeads, .ref h0_toOrder, .ref h0_marks, .ref h0_line, .ref h0_links, .int h0_floors, h0_v14, h0_v15, h0_v16, h0_v17, h0_v18, h0_v19])), (h0_digits, .inl (ty 0, 6, .inl (upd (upd (upd (upd (upd (upd h0_digits_f 5 5) 4 4) 3 3) 2 2) 1 1) 0 0)))]) (va_runSN (As := [.int 0]) (rest := [.int 0]) ⟨hx, hb, hml, hown, hts⟩ (kcX9_bit l D ty eo _ 0) ⟨va_cnB 1 hts gX3_numberOfOrder_X9_bit_n133 rfl rfl rfl (hN.1 _ (by decide +kernel : (.methodLinkNest "TurnedFloors$Paper" 133 yX9_bit "TurnedFloors" : Cond) ∈ kzN1)) (hts (.initialized RX9) (by decide +kernel)) (by decide +kernel) ⟨Nat.le_of_ble_eq_true rfl, Nat.le_of_ble_eq_true rfl⟩, hts (.static yX9_bit) (by decide +kernel), trivial⟩ (kz_preS hK hN hE hP hD hS hA [] (by decide) rfl) rfl rfl hl.1 rfl (lv_room (Nat.le_of_ble_eq_true rfl)) dX3_numberOfOrder_43 ⟨Nat.le_of_ble_eq_true rfl, Nat.le_of_ble_eq_true rfl⟩) hP hD hS hA [] [0, 1] rfl rfl (by decide) (by decide) (fun r u H locs hw hP hD hS => ?_)
                  rcases hw with ⟨c_51, rfl, rfl⟩ | ⟨c_52, rfl, rfl⟩
                  · have hP : va_P D vwCl [(h0, .inr (3, [.ref h0_ranks, .ref h0_digits, .ref h0_barred, .ref h0_pays, .ref h0_measuredBarred, .ref h0_buckets, .ref h0_orders, .ref h0_turnedOrders, .ref h0_turnedHeads, .ref h0_toOrder, .ref h0_marks, .ref h0_line, .ref h0_links, .int h0_floors, h0_v14, h0_v15, h0_v16, h0_v17, h0_v18, h0_v19])), (h0_digits, .inl (ty 0, 6, .inl (upd (upd (upd (upd (upd (upd h0_digits_f 5 5) 4 4) 3 3) 2 2) 1 1) 0 0)))] H := hP
                    have hD : va_D A [(h0, .inr (3, [.ref h0_ranks, .ref h0_digits, .ref h0_barred, .ref h0_pays, .ref h0_measuredBarred, .ref h0_buckets, .ref h0_orders, .ref h0_turnedOrders, .ref h0_turnedHeads, .ref h0_toOrder, .ref h0_marks, .ref h0_line, .ref h0_links, .int h0_floors, h0_v14, h0_v15, h0_v16, h0_v17, h0_v18, h0_v19])), (h0_digits, .inl (ty 0, 6, .inl (upd (upd (upd (upd (upd (upd h0_digits_f 5 5) 4 4) 3 3) 2 2) 1 1) 0 0)))] := hD
                    refine lv_iadd hx hb dX3_numberOfOrder_46 ?_
                    refine lv_topi (fun z_53 ez_53 => ?_)
                    obtain rfl : z_53 = 0 := ez_53.trans (by first | rfl | decide +kernel)
                    refine lv_istore_n (lv' := [(3, .int 0), (4, .int 2), (2, .int 4), (1, .int 0), (0, .ref h0)]) hx hb dX3_numberOfOrder_47 rfl hl (by decide) rfl (fun ls hl => ?_)
                    refine lv_iinc (v := 3) (lv' := [(4, .int 3), (3, .int 0), (2, .int 4), (1, .int 0), (0, .ref h0)]) hx hb dX3_numberOfOrder_48 hl (k := 1) rfl (by decide) (by decide) rfl (fun ls hl => ?_)
                    refine lv_goto (tgt := 15) hx hb dX3_numberOfOrder_51 (by decide) ?_
                    refine lv_iload hx hb dX3_numberOfOrder_15 (lv_at hl 0 rfl) ?_
                    refine lv_iload_n hx hb dX3_numberOfOrder_17 rfl (lv_at hl 2 rfl) ?_
                    refine lv_icmp_ge (tgt := 54) hx hb dX3_numberOfOrder_18 (by decide) (fun h => absurd h (by decide)) (fun _ => ?_)
                    refine lv_iload_n hx hb dX3_numberOfOrder_21 rfl (lv_at hl 1 rfl) ?_
                    refine lv_aload_n hx hb dX3_numberOfOrder_22 rfl (lv_at hl 4 rfl) ?_
                    refine va_get (D := D) (ci := 3) (v := .ref h0_digits) (C := RX3) (T := TX3) (N := 20) hx hb hts (by decide +kernel) hown hK hP 0 rfl rfl 1 (by decide) (hts (.fieldLink RX3 15 "TurnedFloors$Paper" "digits" "[I") (by decide +kernel)) (fun _ h9 => h9) rfl dX3_numberOfOrder_23 ?_
                    refine lv_iload hx hb dX3_numberOfOrder_26 (lv_at hl 0 rfl) ?_
                    refine va_iald hx hb hK hP 1 0 rfl rfl (by simp only [vp_in]; decide) dX3_numberOfOrder_28 ?_
                    refine lv_topi (fun z_54 ez_54 => ?_)
                    obtain rfl : z_54 = 3 := ez_54.trans (by first | rfl | decide +kernel)
                    refine lv_aload_n hx hb dX3_numberOfOrder_29 rfl (lv_at hl 4 rfl) ?_
                    refine va_get (D := D) (ci := 3) (v := .ref h0_digits) (C := RX3) (T := TX3) (N := 20) hx hb hts (by decide +kernel) hown hK hP 0 rfl rfl 1 (by decide) (hts (.fieldLink RX3 15 "TurnedFloors$Paper" "digits" "[I") (by decide +kernel)) (fun _ h9 => h9) rfl dX3_numberOfOrder_30 ?_
                    refine lv_iload_n hx hb dX3_numberOfOrder_33 rfl (lv_at hl 2 rfl) ?_
                    refine va_iald hx hb hK hP 1 0 rfl rfl (by simp only [vp_in]; decide) dX3_numberOfOrder_34 ?_
                    refine lv_topi (fun z_55 ez_55 => ?_)
                    obtain rfl : z_55 = 4 := ez_55.trans (by first | rfl | decide +kernel)
                    refine lv_icmp_le (tgt := 42) hx hb dX3_numberOfOrder_35 (by decide) (fun _ => ?_) (fun h => absurd (by decide) h)
                    refine lv_iconst (v := 0) hx hb dX3_numberOfOrder_42 (by decide) ?_
                    refine kz_ki (wc := []) (wr := [(h0, .inr (3, [.ref h0_ranks, .ref h0_digits, .ref h0_barred, .ref h0_pays, .ref h0_measuredBarred, .ref h0_buckets, .ref h0_orders, .ref h0_turnedOrders, .ref h0_turnedHeads, .ref h0_toOrder, .ref h0_marks, .ref h0_line, .ref h0_links, .int h0_floors, h0_v14, h0_v15, h0_v16, h0_v17, h0_v18, h0_v19])), (h0_digits, .inl (ty 0, 6, .inl (upd (upd (upd (upd (upd (upd h0_digits_f 5 5) 4 4) 3 3) 2 2) 1 1) 0 0)))]) (va_runSN (As := [.int 0]) (rest := [.int 0]) ⟨hx, hb, hml, hown, hts⟩ (kcX9_bit l D ty eo _ 0) ⟨va_cnB 1 hts gX3_numberOfOrder_X9_bit_n133 rfl rfl rfl (hN.1 _ (by decide +kernel : (.methodLinkNest "TurnedFloors$Paper" 133 yX9_bit "TurnedFloors" : Cond) ∈ kzN1)) (hts (.initialized RX9) (by decide +kernel)) (by decide +kernel) ⟨Nat.le_of_ble_eq_true rfl, Nat.le_of_ble_eq_true rfl⟩, hts (.static yX9_bit) (by decide +kernel), trivial⟩ (kz_preS hK hN hE hP hD hS hA [] (by decide) rfl) rfl rfl hl.1 rfl (lv_room (Nat.le_of_ble_eq_true rfl)) dX3_numberOfOrder_43 ⟨Nat.le_of_ble_eq_true rfl, Nat.le_of_ble_eq_true rfl⟩) hP hD hS hA [] [0, 1] rfl rfl (by decide) (by decide) (fun r u H locs hw hP hD hS => ?_)
                    rcases hw with ⟨c_56, rfl, rfl⟩ | ⟨c_57, rfl, rfl⟩
                    · have hP : va_P D vwCl [(h0, .inr (3, [.ref h0_ranks, .ref h0_digits, .ref h0_barred, .ref h0_pays, .ref h0_measuredBarred, .ref h0_buckets, .ref h0_orders, .ref h0_turnedOrders, .ref h0_turnedHeads, .ref h0_toOrder, .ref h0_marks, .ref h0_line, .ref h0_links, .int h0_floors, h0_v14, h0_v15, h0_v16, h0_v17, h0_v18, h0_v19])), (h0_digits, .inl (ty 0, 6, .inl (upd (upd (upd (upd (upd (upd h0_digits_f 5 5) 4 4) 3 3) 2 2) 1 1) 0 0)))] H := hP
                      have hD : va_D A [(h0, .inr (3, [.ref h0_ranks, .ref h0_digits, .ref h0_barred, .ref h0_pays, .ref h0_measuredBarred, .ref h0_buckets, .ref h0_orders, .ref h0_turnedOrders, .ref h0_turnedHeads, .ref h0_toOrder, .ref h0_marks, .ref h0_line, .ref h0_links, .int h0_floors, h0_v14, h0_v15, h0_v16, h0_v17, h0_v18, h0_v19])), (h0_digits, .inl (ty 0, 6, .inl (upd (upd (upd (upd (upd (upd h0_digits_f 5 5) 4 4) 3 3) 2 2) 1 1) 0 0)))] := hD
                      refine lv_iadd hx hb dX3_numberOfOrder_46 ?_
                      refine lv_topi (fun z_58 ez_58 => ?_)
                      obtain rfl : z_58 = 0 := ez_58.trans (by first | rfl | decide +kernel)
                      refine lv_istore_n (lv' := [(3, .int 0), (4, .int 3), (2, .int 4), (1, .int 0), (0, .ref h0)]) hx hb dX3_numberOfOrder_47 rfl hl (by decide) rfl (fun ls hl => ?_)
                      refine lv_iinc (v := 4) (lv' := [(4, .int 4), (3, .int 0), (2, .int 4), (1, .int 0), (0, .ref h0)]) hx hb dX3_numberOfOrder_48 hl (k := 1) rfl (by decide) (by decide) rfl (fun ls hl => ?_)
                      refine lv_goto (tgt := 15) hx hb dX3_numberOfOrder_51 (by decide) ?_
                      refine lv_iload hx hb dX3_numberOfOrder_15 (lv_at hl 0 rfl) ?_
                      refine lv_iload_n hx hb dX3_numberOfOrder_17 rfl (lv_at hl 2 rfl) ?_
                      refine lv_icmp_ge (tgt := 54) hx hb dX3_numberOfOrder_18 (by decide) (fun _ => ?_) (fun h => absurd (by decide) h)
                      refine lv_iload_n hx hb dX3_numberOfOrder_54 rfl (lv_at hl 3 rfl) ?_
                      refine lv_iload_n hx hb dX3_numberOfOrder_55 rfl (lv_at hl 1 rfl) ?_
                      refine va_gets hx hb hE.1 hS hown (hts (.fieldLink RX3 76 "TurnedFloors$Paper" "FACTORIALS" "[I") (by decide +kernel)) (fun _ h9 => h9) dX3_numberOfOrder_56 ?_
                      refine lv_iload_n hx hb dX3_numberOfOrder_59 rfl (lv_at hl 2 rfl) ?_
                      refine va_ti (v := .int 24) hx hb hE.2.1 hS (by simp only [vp_in]; decide) rfl dX3_numberOfOrder_60 ?_
                      refine lv_imul hx hb dX3_numberOfOrder_61 ?_
                      refine lv_topi (fun z_59 ez_59 => ?_)
                      obtain rfl : z_59 = 0 := ez_59.trans (by first | rfl | decide +kernel)
                      refine lv_iadd hx hb dX3_numberOfOrder_62 ?_
                      refine lv_topi (fun z_60 ez_60 => ?_)
                      obtain rfl : z_60 = 0 := ez_60.trans (by first | rfl | decide +kernel)
                      refine lv_istore_n (lv' := [(1, .int 0), (4, .int 4), (3, .int 0), (2, .int 4), (0, .ref h0)]) hx hb dX3_numberOfOrder_63 rfl hl (by decide) rfl (fun ls hl => ?_)
                      refine lv_iinc (v := 5) (lv' := [(2, .int 5), (1, .int 0), (4, .int 4), (3, .int 0), (0, .ref h0)]) hx hb dX3_numberOfOrder_64 hl (k := 3) rfl (by decide) (by decide) rfl (fun ls hl => ?_)
                      refine lv_goto (tgt := 4) hx hb dX3_numberOfOrder_67 (by decide) ?_
                      refine lv_iload_n hx hb dX3_numberOfOrder_4 rfl (lv_at hl 0 rfl) ?_
                      refine lv_bipush (v := 6) hx hb dX3_numberOfOrder_5 (by decide) ?_
                      refine lv_icmp_ge (tgt := 70) hx hb dX3_numberOfOrder_7 (by decide) (fun h => absurd h (by decide)) (fun _ => ?_)
                      refine lv_iconst (v := 0) hx hb dX3_numberOfOrder_10 (by decide) ?_
                      refine lv_istore_n (lv' := [(3, .int 0), (2, .int 5), (1, .int 0), (4, .int 4), (0, .ref h0)]) hx hb dX3_numberOfOrder_11 rfl hl (by decide) rfl (fun ls hl => ?_)
                      refine lv_iconst (v := 0) hx hb dX3_numberOfOrder_12 (by decide) ?_
                      refine lv_istore (lv' := [(4, .int 0), (3, .int 0), (2, .int 5), (1, .int 0), (0, .ref h0)]) hx hb dX3_numberOfOrder_13 hl (by decide) rfl (fun ls hl => ?_)
                      refine lv_iload hx hb dX3_numberOfOrder_15 (lv_at hl 0 rfl) ?_
                      refine lv_iload_n hx hb dX3_numberOfOrder_17 rfl (lv_at hl 2 rfl) ?_
                      refine lv_icmp_ge (tgt := 54) hx hb dX3_numberOfOrder_18 (by decide) (fun h => absurd h (by decide)) (fun _ => ?_)
                      refine lv_iload_n hx hb dX3_numberOfOrder_21 rfl (lv_at hl 1 rfl) ?_
                      refine lv_aload_n hx hb dX3_numberOfOrder_22 rfl (lv_at hl 4 rfl) ?_
                      refine va_get (D := D) (ci := 3) (v := .ref h0_digits) (C := RX3) (T := TX3) (N := 20) hx hb hts (by decide +kernel) hown hK hP 0 rfl rfl 1 (by decide) (hts (.fieldLink RX3 15 "TurnedFloors$Paper" "digits" "[I") (by decide +kernel)) (fun _ h9 => h9) rfl dX3_numberOfOrder_23 ?_
                      refine lv_iload hx hb dX3_numberOfOrder_26 (lv_at hl 0 rfl) ?_
                      refine va_iald hx hb hK hP 1 0 rfl rfl (by simp only [vp_in]; decide) dX3_numberOfOrder_28 ?_
                      refine lv_topi (fun z_61 ez_61 => ?_)
                      obtain rfl : z_61 = 0 := ez_61.trans (by first | rfl | decide +kernel)
                      refine lv_aload_n hx hb dX3_numberOfOrder_29 rfl (lv_at hl 4 rfl) ?_
                      refine va_get (D := D) (ci := 3) (v := .ref h0_digits) (C := RX3) (T := TX3) (N := 20) hx hb hts (by decide +kernel) hown hK hP 0 rfl rfl 1 (by decide) (hts (.fieldLink RX3 15 "TurnedFloors$Paper" "digits" "[I") (by decide +kernel)) (fun _ h9 => h9) rfl dX3_numberOfOrder_30 ?_
                      refine lv_iload_n hx hb dX3_numberOfOrder_33 rfl (lv_at hl 2 rfl) ?_
                      refine va_iald hx hb hK hP 1 0 rfl rfl (by simp only [vp_in]; decide) dX3_numberOfOrder_34 ?_
                      refine lv_topi (fun z_62 ez_62 => ?_)
                      obtain rfl : z_62 = 5 := ez_62.trans (by first | rfl | decide +kernel)
                      refine lv_icmp_le (tgt := 42) hx hb dX3_numberOfOrder_35 (by decide) (fun _ => ?_) (fun h => absurd (by decide) h)
                      refine lv_iconst (v := 0) hx hb dX3_numberOfOrder_42 (by decide) ?_
                      refine kz_ki (wc := []) (wr := [(h0, .inr (3, [.ref h0_ranks, .ref h0_digits, .ref h0_barred, .ref h0_pays, .ref h0_measuredBarred, .ref h0_buckets, .ref h0_orders, .ref h0_turnedOrders, .ref h0_turnedHeads, .ref h0_toOrder, .ref h0_marks, .ref h0_line, .ref h0_links, .int h0_floors, h0_v14, h0_v15, h0_v16, h0_v17, h0_v18, h0_v19])), (h0_digits, .inl (ty 0, 6, .inl (upd (upd (upd (upd (upd (upd h0_digits_f 5 5) 4 4) 3 3) 2 2) 1 1) 0 0)))]) (va_runSN (As := [.int 0]) (rest := [.int 0]) ⟨hx, hb, hml, hown, hts⟩ (kcX9_bit l D ty eo _ 0) ⟨va_cnB 1 hts gX3_numberOfOrder_X9_bit_n133 rfl rfl rfl (hN.1 _ (by decide +kernel : (.methodLinkNest "TurnedFloors$Paper" 133 yX9_bit "TurnedFloors" : Cond) ∈ kzN1)) (hts (.initialized RX9) (by decide +kernel)) (by decide +kernel) ⟨Nat.le_of_ble_eq_true rfl, Nat.le_of_ble_eq_true rfl⟩, hts (.static yX9_bit) (by decide +kernel), trivial⟩ (kz_preS hK hN hE hP hD hS hA [] (by decide) rfl) rfl rfl hl.1 rfl (lv_room (Nat.le_of_ble_eq_true rfl)) dX3_numberOfOrder_43 ⟨Nat.le_of_ble_eq_true rfl, Nat.le_of_ble_eq_true rfl⟩) hP hD hS hA [] [0, 1] rfl rfl (by decide) (by decide) (fun r u H locs hw hP hD hS => ?_)
                      rcases hw with ⟨c_63, rfl, rfl⟩ | ⟨c_64, rfl, rfl⟩
                      · have hP : va_P D vwCl [(h0, .inr (3, [.ref h0_ranks, .ref h0_digits, .ref h0_barred, .ref h0_pays, .ref h0_measuredBarred, .ref h0_buckets, .ref h0_orders, .ref h0_turnedOrders, .ref h0_turnedHeads, .ref h0_toOrder, .ref h0_marks, .ref h0_line, .ref h0_links, .int h0_floors, h0_v14, h0_v15, h0_v16, h0_v17, h0_v18, h0_v19])), (h0_digits, .inl (ty 0, 6, .inl (upd (upd (upd (upd (upd (upd h0_digits_f 5 5) 4 4) 3 3) 2 2) 1 1) 0 0)))] H := hP
                        have hD : va_D A [(h0, .inr (3, [.ref h0_ranks, .ref h0_digits, .ref h0_barred, .ref h0_pays, .ref h0_measuredBarred, .ref h0_buckets, .ref h0_orders, .ref h0_turnedOrders, .ref h0_turnedHeads, .ref h0_toOrder, .ref h0_marks, .ref h0_line, .ref h0_links, .int h0_floors, h0_v14, h0_v15, h0_v16, h0_v17, h0_v18, h0_v19])), (h0_digits, .inl (ty 0, 6, .inl (upd (upd (upd (upd (upd (upd h0_digits_f 5 5) 4 4) 3 3) 2 2) 1 1) 0 0)))] := hD
                        refine lv_iadd hx hb dX3_numberOfOrder_46 ?_
                        refine lv_topi (fun z_65 ez_65 => ?_)
                        obtain rfl : z_65 = 0 := ez_65.trans (by first | rfl | decide +kernel)
                        refine lv_istore_n (lv' := [(3, .int 0), (4, .int 0), (2, .int 5), (1, .int 0), (0, .ref h0)]) hx hb dX3_numberOfOrder_47 rfl hl (by decide) rfl (fun ls hl => ?_)
                        refine lv_iinc (v := 1) (lv' := [(4, .int 1), (3, .int 0), (2, .int 5), (1, .int 0), (0, .ref h0)]) hx hb dX3_numberOfOrder_48 hl (k := 1) rfl (by decide) (by decide) rfl (fun ls hl => ?_)
                        refine lv_goto (tgt := 15) hx hb dX3_numberOfOrder_51 (by decide) ?_
                        refine lv_iload hx hb dX3_numberOfOrder_15 (lv_at hl 0 rfl) ?_
                        refine lv_iload_n hx hb dX3_numberOfOrder_17 rfl (lv_at hl 2 rfl) ?_
                        refine lv_icmp_ge (tgt := 54) hx hb dX3_numberOfOrder_18 (by decide) (fun h => absurd h (by decide)) (fun _ => ?_)
                        refine lv_iload_n hx hb dX3_numberOfOrder_21 rfl (lv_at hl 1 rfl) ?_
                        refine lv_aload_n hx hb dX3_numberOfOrder_22 rfl (lv_at hl 4 rfl) ?_
                        refine va_get (D := D) (ci := 3) (v := .ref h0_digits) (C := RX3) (T := TX3) (N := 20) hx hb hts (by decide +kernel) hown hK hP 0 rfl rfl 1 (by decide) (hts (.fieldLink RX3 15 "TurnedFloors$Paper" "digits" "[I") (by decide +kernel)) (fun _ h9 => h9) rfl dX3_numberOfOrder_23 ?_
                        refine lv_iload hx hb dX3_numberOfOrder_26 (lv_at hl 0 rfl) ?_
                        refine va_iald hx hb hK hP 1 0 rfl rfl (by simp only [vp_in]; decide) dX3_numberOfOrder_28 ?_
                        refine lv_topi (fun z_66 ez_66 => ?_)
                        obtain rfl : z_66 = 1 := ez_66.trans (by first | rfl | decide +kernel)
                        refine lv_aload_n hx hb dX3_numberOfOrder_29 rfl (lv_at hl 4 rfl) ?_
                        refine va_get (D := D) (ci := 3) (v := .ref h0_digits) (C := RX3) (T := TX3) (N := 20) hx hb hts (by decide +kernel) hown hK hP 0 rfl rfl 1 (by decide) (hts (.fieldLink RX3 15 "TurnedFloors$Paper" "digits" "[I") (by decide +kernel)) (fun _ h9 => h9) rfl dX3_numberOfOrder_30 ?_
                        refine lv_iload_n hx hb dX3_numberOfOrder_33 rfl (lv_at hl 2 rfl) ?_
                        refine va_iald hx hb hK hP 1 0 rfl rfl (by simp only [vp_in]; decide) dX3_numberOfOrder_34 ?_
                        refine lv_topi (fun z_67 ez_67 => ?_)
                        obtain rfl : z_67 = 5 := ez_67.trans (by first | rfl | decide +kernel)
                        refine lv_icmp_le (tgt := 42) hx hb dX3_numberOfOrder_35 (by decide) (fun _ => ?_) (fun h => absurd (by decide) h)
                        refine lv_iconst (v := 0) hx hb dX3_numberOfOrder_42 (by decide) ?_
                        refine kz_ki (wc := []) (wr := [(h0, .inr (3, [.ref h0_ranks, .ref h0_digits, .ref h0_barred, .ref h0_pays, .ref h0_measuredBarred, .ref h0_buckets, .ref h0_orders, .ref h0_turnedOrders, .ref h0_turnedHeads, .ref h0_toOrder, .ref h0_marks, .ref h0_line, .ref h0_links, .int h0_floors, h0_v14, h0_v15, h0_v16, h0_v17, h0_v18, h0_v19])), (h0_digits, .inl (ty 0, 6, .inl (upd (upd (upd (upd (upd (upd h0_digits_f 5 5) 4 4) 3 3) 2 2) 1 1) 0 0)))]) (va_runSN (As := [.int 0]) (rest := [.int 0]) ⟨hx, hb, hml, hown, hts⟩ (kcX9_bit l D ty eo _ 0) ⟨va_cnB 1 hts gX3_numberOfOrder_X9_bit_n133 rfl rfl rfl (hN.1 _ (by decide +kernel : (.methodLinkNest "TurnedFloors$Paper" 133 yX9_bit "TurnedFloors" : Cond) ∈ kzN1)) (hts (.initialized RX9) (by decide +kernel)) (by decide +kernel) ⟨Nat.le_of_ble_eq_true rfl, Nat.le_of_ble_eq_true rfl⟩, hts (.static yX9_bit) (by decide +kernel), trivial⟩ (kz_preS hK hN hE hP hD hS hA [] (by decide) rfl) rfl rfl hl.1 rfl (lv_room (Nat.le_of_ble_eq_true rfl)) dX3_numberOfOrder_43 ⟨Nat.le_of_ble_eq_true rfl, Nat.le_of_ble_eq_true rfl⟩) hP hD hS hA [] [0, 1] rfl rfl (by decide) (by decide) (fun r u H locs hw hP hD hS => ?_)
                        rcases hw with ⟨c_68, rfl, rfl⟩ | ⟨c_69, rfl, rfl⟩
                        · have hP : va_P D vwCl [(h0, .inr (3, [.ref h0_ranks, .ref h0_digits, .ref h0_barred, .ref h0_pays, .ref h0_measuredBarred, .ref h0_buckets, .ref h0_orders, .ref h0_turnedOrders, .ref h0_turnedHeads, .ref h0_toOrder, .ref h0_marks, .ref h0_line, .ref h0_links, .int h0_floors, h0_v14, h0_v15, h0_v16, h0_v17, h0_v18, h0_v19])), (h0_digits, .inl (ty 0, 6, .inl (upd (upd (upd (upd (upd (upd h0_digits_f 5 5) 4 4) 3 3) 2 2) 1 1) 0 0)))] H := hP
                          have hD : va_D A [(h0, .inr (3, [.ref h0_ranks, .ref h0_digits, .ref h0_barred, .ref h0_pays, .ref h0_measuredBarred, .ref h0_buckets, .ref h0_orders, .ref h0_turnedOrders, .ref h0_turnedHeads, .ref h0_toOrder, .ref h0_marks, .ref h0_line, .ref h0_links, .int h0_floors, h0_v14, h0_v15, h0_v16, h0_v17, h0_v18, h0_v19])), (h0_digits, .inl (ty 0, 6, .inl (upd (upd (upd (upd (upd (upd h0_digits_f 5 5) 4 4) 3 3) 2 2) 1 1) 0 0)))] := hD
                          refine lv_iadd hx hb dX3_numberOfOrder_46 ?_
                          refine lv_topi (fun z_70 ez_70 => ?_)
                          obtain rfl : z_70 = 0 := ez_70.trans (by first | rfl | decide +kernel)
                          refine lv_istore_n (lv' := [(3, .int 0), (4, .int 1), (2, .int 5), (1, .int 0), (0, .ref h0)]) hx hb dX3_numberOfOrder_47 rfl hl (by decide) rfl (fun ls hl => ?_)
                          refine lv_iinc (v := 2) (lv' := [(4, .int 2), (3, .int 0), (2, .int 5), (1, .int 0), (0, .ref h0)]) hx hb dX3_numberOfOrder_48 hl (k := 1) rfl (by decide) (by decide) rfl (fun ls hl => ?_)
                          refine lv_goto (tgt := 15) hx hb dX3_numberOfOrder_51 (by decide) ?_
                          refine lv_iload hx hb dX3_numberOfOrder_15 (lv_at hl 0 rfl) ?_
                          refine lv_iload_n hx hb dX3_numberOfOrder_17 rfl (lv_at hl 2 rfl) ?_
                          refine lv_icmp_ge (tgt := 54) hx hb dX3_numberOfOrder_18 (by decide) (fun h => absurd h (by decide)) (fun _ => ?_)
                          refine lv_iload_n hx hb dX3_numberOfOrder_21 rfl (lv_at hl 1 rfl) ?_
                          refine lv_aload_n hx hb dX3_numberOfOrder_22 rfl (lv_at hl 4 rfl) ?_
                          refine va_get (D := D) (ci := 3) (v := .ref h0_digits) (C := RX3) (T := TX3) (N := 20) hx hb hts (by decide +kernel) hown hK hP 0 rfl rfl 1 (by decide) (hts (.fieldLink RX3 15 "TurnedFloors$Paper" "digits" "[I") (by decide +kernel)) (fun _ h9 => h9) rfl dX3_numberOfOrder_23 ?_
                          refine lv_iload hx hb dX3_numberOfOrder_26 (lv_at hl 0 rfl) ?_
                          refine va_iald hx hb hK hP 1 0 rfl rfl (by simp only [vp_in]; decide) dX3_numberOfOrder_28 ?_
                          refine lv_topi (fun z_71 ez_71 => ?_)
                          obtain rfl : z_71 = 2 := ez_71.trans (by first | rfl | decide +kernel)
                          refine lv_aload_n hx hb dX3_numberOfOrder_29 rfl (lv_at hl 4 rfl) ?_
                          refine va_get (D := D) (ci := 3) (v := .ref h0_digits) (C := RX3) (T := TX3) (N := 20) hx hb hts (by decide +kernel) hown hK hP 0 rfl rfl 1 (by decide) (hts (.fieldLink RX3 15 "TurnedFloors$Paper" "digits" "[I") (by decide +kernel)) (fun _ h9 => h9) rfl dX3_numberOfOrder_30 ?_
                          refine lv_iload_n hx hb dX3_numberOfOrder_33 rfl (lv_at hl 2 rfl) ?_
                          refine va_iald hx hb hK hP 1 0 rfl rfl (by simp only [vp_in]; decide) dX3_numberOfOrder_34 ?_
                          refine lv_topi (fun z_72 ez_72 => ?_)
                          obtain rfl : z_72 = 5 := ez_72.trans (by first | rfl | decide +kernel)
                          refine lv_icmp_le (tgt := 42) hx hb dX3_numberOfOrder_35 (by decide) (fun _ => ?_) (fun h => absurd (by decide) h)
                          refine lv_iconst (v := 0) hx hb dX3_numberOfOrder_42 (by decide) ?_
                          refine kz_ki (wc := []) (wr := [(h0, .inr (3, [.ref h0_ranks, .ref h0_digits, .ref h0_barred, .ref h0_pays, .ref h0_measuredBarred, .ref h0_buckets, .ref h0_orders, .ref h0_turnedOrders, .ref h0_turnedHeads, .ref h0_toOrder, .ref h0_marks, .ref h0_line, .ref h0_links, .int h0_floors, h0_v14, h0_v15, h0_v16, h0_v17, h0_v18, h0_v19])), (h0_digits, .inl (ty 0, 6, .inl (upd (upd (upd (upd (upd (upd h0_digits_f 5 5) 4 4) 3 3) 2 2) 1 1) 0 0)))]) (va_runSN (As := [.int 0]) (rest := [.int 0]) ⟨hx, hb, hml, hown, hts⟩ (kcX9_bit l D ty eo _ 0) ⟨va_cnB 1 hts gX3_numberOfOrder_X9_bit_n133 rfl rfl rfl (hN.1 _ (by decide +kernel : (.methodLinkNest "TurnedFloors$Paper" 133 yX9_bit "TurnedFloors" : Cond) ∈ kzN1)) (hts (.initialized RX9) (by decide +kernel)) (by decide +kernel) ⟨Nat.le_of_ble_eq_true rfl, Nat.le_of_ble_eq_true rfl⟩, hts (.static yX9_bit) (by decide +kernel), trivial⟩ (kz_preS hK hN hE hP hD hS hA [] (by decide) rfl) rfl rfl hl.1 rfl (lv_room (Nat.le_of_ble_eq_true rfl)) dX3_numberOfOrder_43 ⟨Nat.le_of_ble_eq_true rfl, Nat.le_of_ble_eq_true rfl⟩) hP hD hS hA [] [0, 1] rfl rfl (by decide) (by decide) (fun r u H locs hw hP hD hS => ?_)
                          rcases hw with ⟨c_73, rfl, rfl⟩ | ⟨c_74, rfl, rfl⟩
                          · have hP : va_P D vwCl [(h0, .inr (3, [.ref h0_ranks, .ref h0_digits, .ref h0_barred, .ref h0_pays, .ref h0_measuredBarred, .ref h0_buckets, .ref h0_orders, .ref h0_turnedOrders, .ref h0_turnedHeads, .ref h0_toOrder, .ref h0_marks, .ref h0_line, .ref h0_links, .int h0_floors, h0_v14, h0_v15, h0_v16, h0_v17, h0_v18, h0_v19])), (h0_digits, .inl (ty 0, 6, .inl (upd (upd (upd (upd (upd (upd h0_digits_f 5 5) 4 4) 3 3) 2 2) 1 1) 0 0)))] H := hP
                            have hD : va_D A [(h0, .inr (3, [.ref h0_ranks, .ref h0_digits, .ref h0_barred, .ref h0_pays, .ref h0_measuredBarred, .ref h0_buckets, .ref h0_orders, .ref h0_turnedOrders, .ref h0_turnedHeads, .ref h0_toOrder, .ref h0_marks, .ref h0_line, .ref h0_links, .int h0_floors, h0_v14, h0_v15, h0_v16, h0_v17, h0_v18, h0_v19])), (h0_digits, .inl (ty 0, 6, .inl (upd (upd (upd (upd (upd (upd h0_digits_f 5 5) 4 4) 3 3) 2 2) 1 1) 0 0)))] := hD
                            refine lv_iadd hx hb dX3_numberOfOrder_46 ?_
                            refine lv_topi (fun z_75 ez_75 => ?_)
                            obtain rfl : z_75 = 0 := ez_75.trans (by first | rfl | decide +kernel)
                            refine lv_istore_n (lv' := [(3, .int 0), (4, .int 2), (2, .int 5), (1, .int 0), (0, .ref h0)]) hx hb dX3_numberOfOrder_47 rfl hl (by decide) rfl (fun ls hl => ?_)
                            refine lv_iinc (v := 3) (lv' := [(4, .int 3), (3, .int 0), (2, .int 5), (1, .int 0), (0, .ref h0)]) hx hb dX3_numberOfOrder_48 hl (k := 1) rfl (by decide) (by decide) rfl (fun ls hl => ?_)
                            refine lv_goto (tgt := 15) hx hb dX3_numberOfOrder_51 (by decide) ?_
                            refine lv_iload hx hb dX3_numberOfOrder_15 (lv_at hl 0 rfl) ?_
                            refine lv_iload_n hx hb dX3_numberOfOrder_17 rfl (lv_at hl 2 rfl) ?_
                            refine lv_icmp_ge (tgt := 54) hx hb dX3_numberOfOrder_18 (by decide) (fun h => absurd h (by decide)) (fun _ => ?_)
                            refine lv_iload_n hx hb dX3_numberOfOrder_21 rfl (lv_at hl 1 rfl) ?_
                            refine lv_aload_n hx hb dX3_numberOfOrder_22 rfl (lv_at hl 4 rfl) ?_
                            refine va_get (D := D) (ci := 3) (v := .ref h0_digits) (C := RX3) (T := TX3) (N := 20) hx hb hts (by decide +kernel) hown hK hP 0 rfl rfl 1 (by decide) (hts (.fieldLink RX3 15 "TurnedFloors$Paper" "digits" "[I") (by decide +kernel)) (fun _ h9 => h9) rfl dX3_numberOfOrder_23 ?_
                            refine lv_iload hx hb dX3_numberOfOrder_26 (lv_at hl 0 rfl) ?_
                            refine va_iald hx hb hK hP 1 0 rfl rfl (by simp only [vp_in]; decide) dX3_numberOfOrder_28 ?_
                            refine lv_topi (fun z_76 ez_76 => ?_)
                            obtain rfl : z_76 = 3 := ez_76.trans (by first | rfl | decide +kernel)
                            refine lv_aload_n hx hb dX3_numberOfOrder_29 rfl (lv_at hl 4 rfl) ?_
                            refine va_get (D := D) (ci := 3) (v := .ref h0_digits) (C := RX3) (T := TX3) (N := 20) hx hb hts (by decide +kernel) hown hK hP 0 rfl rfl 1 (by decide) (hts (.fieldLink RX3 15 "TurnedFloors$Paper" "digits" "[I") (by decide +kernel)) (fun _ h9 => h9) rfl dX3_numberOfOrder_30 ?_
                            refine lv_iload_n hx hb dX3_numberOfOrder_33 rfl (lv_at hl 2 rfl) ?_
                            refine va_iald hx hb hK hP 1 0 rfl rfl (by simp only [vp_in]; decide) dX3_numberOfOrder_34 ?_
                            refine lv_topi (fun z_77 ez_77 => ?_)
                            obtain rfl : z_77 = 5 := ez_77.trans (by first | rfl | decide +kernel)
                            refine lv_icmp_le (tgt := 42) hx hb dX3_numberOfOrder_35 (by decide) (fun _ => ?_) (fun h => absurd (by decide) h)
                            refine lv_iconst (v := 0) hx hb dX3_numberOfOrder_42 (by decide) ?_
                            refine kz_ki (wc := []) (wr := [(h0, .inr (3, [.ref h0_ranks, .ref h0_digits, .ref h0_barred, .ref h0_pays, .ref h0_measuredBarred, .ref h0_buckets, .ref h0_orders, .ref h0_turnedOrders, .ref h0_turnedHeads, .ref h0_toOrder, .ref h0_marks, .ref h0_line, .ref h0_links, .int h0_floors, h0_v14, h0_v15, h0_v16, h0_v17, h0_v18, h0_v19])), (h0_digits, .inl (ty 0, 6, .inl (upd (upd (upd (upd (upd (upd h0_digits_f 5 5) 4 4) 3 3) 2 2) 1 1) 0 0)))]) (va_runSN (As := [.int 0]) (rest := [.int 0]) ⟨hx, hb, hml, hown, hts⟩ (kcX9_bit l D ty eo _ 0) ⟨va_cnB 1 hts gX3_numberOfOrder_X9_bit_n133 rfl rfl rfl (hN.1 _ (by decide +kernel : (.methodLinkNest "TurnedFloors$Paper" 133 yX9_bit "TurnedFloors" : Cond) ∈ kzN1)) (hts (.initialized RX9) (by decide +kernel)) (by decide +kernel) ⟨Nat.le_of_ble_eq_true rfl, Nat.le_of_ble_eq_true rfl⟩, hts (.static yX9_bit) (by decide +kernel), trivial⟩ (kz_preS hK hN hE hP hD hS hA [] (by decide) rfl) rfl rfl hl.1 rfl (lv_room (Nat.le_of_ble_eq_true rfl)) dX3_numberOfOrder_43 ⟨Nat.le_of_ble_eq_true rfl, Nat.le_of_ble_eq_true rfl⟩) hP hD hS hA [] [0, 1] rfl rfl (by decide) (by decide) (fun r u H locs hw hP hD hS => ?_)
                            rcases hw with ⟨c_78, rfl, rfl⟩ | ⟨c_79, rfl, rfl⟩
                            · have hP : va_P D vwCl [(h0, .inr (3, [.ref h0_ranks, .ref h0_digits, .ref h0_barred, .ref h0_pays, .ref h0_measuredBarred, .ref h0_buckets, .ref h0_orders, .ref h0_turnedOrders, .ref h0_turnedHeads, .ref h0_toOrder, .ref h0_marks, .ref h0_line, .ref h0_links, .int h0_floors, h0_v14, h0_v15, h0_v16, h0_v17, h0_v18, h0_v19])), (h0_digits, .inl (ty 0, 6, .inl (upd (upd (upd (upd (upd (upd h0_digits_f 5 5) 4 4) 3 3) 2 2) 1 1) 0 0)))] H := hP
                              have hD : va_D A [(h0, .inr (3, [.ref h0_ranks, .ref h0_digits, .ref h0_barred, .ref h0_pays, .ref h0_measuredBarred, .ref h0_buckets, .ref h0_orders, .ref h0_turnedOrders, .ref h0_turnedHeads, .ref h0_toOrder, .ref h0_marks, .ref h0_line, .ref h0_links, .int h0_floors, h0_v14, h0_v15, h0_v16, h0_v17, h0_v18, h0_v19])), (h0_digits, .inl (ty 0, 6, .inl (upd (upd (upd (upd (upd (upd h0_digits_f 5 5) 4 4) 3 3) 2 2) 1 1) 0 0)))] := hD
                              refine lv_iadd hx hb dX3_numberOfOrder_46 ?_
                              refine lv_topi (fun z_80 ez_80 => ?_)
                              obtain rfl : z_80 = 0 := ez_80.trans (by first | rfl | decide +kernel)
                              refine lv_istore_n (lv' := [(3, .int 0), (4, .int 3), (2, .int 5), (1, .int 0), (0, .ref h0)]) hx hb dX3_numberOfOrder_47 rfl hl (by decide) rfl (fun ls hl => ?_)
                              refine lv_iinc (v := 4) (lv' := [(4, .int 4), (3, .int 0), (2, .int 5), (1, .int 0), (0, .ref h0)]) hx hb dX3_numberOfOrder_48 hl (k := 1) rfl (by decide) (by decide) rfl (fun ls hl => ?_)
                              refine lv_goto (tgt := 15) hx hb dX3_numberOfOrder_51 (by decide) ?_
                              refine lv_iload hx hb dX3_numberOfOrder_15 (lv_at hl 0 rfl) ?_
                              refine lv_iload_n hx hb dX3_numberOfOrder_17 rfl (lv_at hl 2 rfl) ?_
                              refine lv_icmp_ge (tgt := 54) hx hb dX3_numberOfOrder_18 (by decide) (fun h => absurd h (by decide)) (fun _ => ?_)
                              refine lv_iload_n hx hb dX3_numberOfOrder_21 rfl (lv_at hl 1 rfl) ?_
                              refine lv_aload_n hx hb dX3_numberOfOrder_22 rfl (lv_at hl 4 rfl) ?_
                              refine va_get (D := D) (ci := 3) (v := .ref h0_digits) (C := RX3) (T := TX3) (N := 20) hx hb hts (by decide +kernel) hown hK hP 0 rfl rfl 1 (by decide) (hts (.fieldLink RX3 15 "TurnedFloors$Paper" "digits" "[I") (by decide +kernel)) (fun _ h9 => h9) rfl dX3_numberOfOrder_23 ?_
                              refine lv_iload hx hb dX3_numberOfOrder_26 (lv_at hl 0 rfl) ?_
                              refine va_iald hx hb hK hP 1 0 rfl rfl (by simp only [vp_in]; decide) dX3_numberOfOrder_28 ?_
                              refine lv_topi (fun z_81 ez_81 => ?_)
                              obtain rfl : z_81 = 4 := ez_81.trans (by first | rfl | decide +kernel)
                              refine lv_aload_n hx hb dX3_numberOfOrder_29 rfl (lv_at hl 4 rfl) ?_
                              refine va_get (D := D) (ci := 3) (v := .ref h0_digits) (C := RX3) (T := TX3) (N := 20) hx hb hts (by decide +kernel) hown hK hP 0 rfl rfl 1 (by decide) (hts (.fieldLink RX3 15 "TurnedFloors$Paper" "digits" "[I") (by decide +kernel)) (fun _ h9 => h9) rfl dX3_numberOfOrder_30 ?_
                              refine lv_iload_n hx hb dX3_numberOfOrder_33 rfl (lv_at hl 2 rfl) ?_
                              refine va_iald hx hb hK hP 1 0 rfl rfl (by simp only [vp_in]; decide) dX3_numberOfOrder_34 ?_
                              refine lv_topi (fun z_82 ez_82 => ?_)
                              obtain rfl : z_82 = 5 := ez_82.trans (by first | rfl | decide +kernel)
                              refine lv_icmp_le (tgt := 42) hx hb dX3_numberOfOrder_35 (by decide) (fun _ => ?_) (fun h => absurd (by decide) h)
                              refine lv_iconst (v := 0) hx hb dX3_numberOfOrder_42 (by decide) ?_
                              refine kz_ki (wc := []) (wr := [(h0, .inr (3, [.ref h0_ranks, .ref h0_digits, .ref h0_barred, .ref h0_pays, .ref h0_measuredBarred, .ref h0_buckets, .ref h0_orders, .ref h0_turnedOrders, .ref h0_turnedHeads, .ref h0_toOrder, .ref h0_marks, .ref h0_line, .ref h0_links, .int h0_floors, h0_v14, h0_v15, h0_v16, h0_v17, h0_v18, h0_v19])), (h0_digits, .inl (ty 0, 6, .inl (upd (upd (upd (upd (upd (upd h0_digits_f 5 5) 4 4) 3 3) 2 2) 1 1) 0 0)))]) (va_runSN (As := [.int 0]) (rest := [.int 0]) ⟨hx, hb, hml, hown, hts⟩ (kcX9_bit l D ty eo _ 0) ⟨va_cnB 1 hts gX3_numberOfOrder_X9_bit_n133 rfl rfl rfl (hN.1 _ (by decide +kernel : (.methodLinkNest "TurnedFloors$Paper" 133 yX9_bit "TurnedFloors" : Cond) ∈ kzN1)) (hts (.initialized RX9) (by decide +kernel)) (by decide +kernel) ⟨Nat.le_of_ble_eq_true rfl, Nat.le_of_ble_eq_true rfl⟩, hts (.static yX9_bit) (by decide +kernel), trivial⟩ (kz_preS hK hN hE hP hD hS hA [] (by decide) rfl) rfl rfl hl.1 rfl (lv_room (Nat.le_of_ble_eq_true rfl)) dX3_numberOfOrder_43 ⟨Nat.le_of_ble_eq_true rfl, Nat.le_of_ble_eq_true rfl⟩) hP hD hS hA [] [0, 1] rfl rfl (by decide) (by decide) (fun r u H locs hw hP hD hS => ?_)
                              rcases hw with ⟨c_83, rfl, rfl⟩ | ⟨c_84, rfl, rfl⟩
                              · have hP : va_P D vwCl [(h0, .inr (3, [.ref h0_ranks, .ref h0_digits, .ref h0_barred, .ref h0_pays, .ref h0_measuredBarred, .ref h0_buckets, .ref h0_orders, .ref h0_turnedOrders, .ref h0_turnedHeads, .ref h0_toOrder, .ref h0_marks, .ref h0_line, .ref h0_links, .int h0_floors, h0_v14, h0_v15, h0_v16, h0_v17, h0_v18, h0_v19])), (h0_digits, .inl (ty 0, 6, .inl (upd (upd (upd (upd (upd (upd h0_digits_f 5 5) 4 4) 3 3) 2 2) 1 1) 0 0)))] H := hP
                                have hD : va_D A [(h0, .inr (3, [.ref h0_ranks, .ref h0_digits, .ref h0_barred, .ref h0_pays, .ref h0_measuredBarred, .ref h0_buckets, .ref h0_orders, .ref h0_turnedOrders, .ref h0_turnedHeads, .ref h0_toOrder, .ref h0_marks, .ref h0_line, .ref h0_links, .int h0_floors, h0_v14, h0_v15, h0_v16, h0_v17, h0_v18, h0_v19])), (h0_digits, .inl (ty 0, 6, .inl (upd (upd (upd (upd (upd (upd h0_digits_f 5 5) 4 4) 3 3) 2 2) 1 1) 0 0)))] := hD
                                refine lv_iadd hx hb dX3_numberOfOrder_46 ?_
                                refine lv_topi (fun z_85 ez_85 => ?_)
                                obtain rfl : z_85 = 0 := ez_85.trans (by first | rfl | decide +kernel)
                                refine lv_istore_n (lv' := [(3, .int 0), (4, .int 4), (2, .int 5), (1, .int 0), (0, .ref h0)]) hx hb dX3_numberOfOrder_47 rfl hl (by decide) rfl (fun ls hl => ?_)
                                refine lv_iinc (v := 5) (lv' := [(4, .int 5), (3, .int 0), (2, .int 5), (1, .int 0), (0, .ref h0)]) hx hb dX3_numberOfOrder_48 hl (k := 1) rfl (by decide) (by decide) rfl (fun ls hl => ?_)
                                refine lv_goto (tgt := 15) hx hb dX3_numberOfOrder_51 (by decide) ?_
                                refine lv_iload hx hb dX3_numberOfOrder_15 (lv_at hl 0 rfl) ?_
                                refine lv_iload_n hx hb dX3_numberOfOrder_17 rfl (lv_at hl 2 rfl) ?_
                                refine lv_icmp_ge (tgt := 54) hx hb dX3_numberOfOrder_18 (by decide) (fun _ => ?_) (fun h => absurd (by decide) h)
                                refine lv_iload_n hx hb dX3_numberOfOrder_54 rfl (lv_at hl 3 rfl) ?_
                                refine lv_iload_n hx hb dX3_numberOfOrder_55 rfl (lv_at hl 1 rfl) ?_
                                refine va_gets hx hb hE.1 hS hown (hts (.fieldLink RX3 76 "TurnedFloors$Paper" "FACTORIALS" "[I") (by decide +kernel)) (fun _ h9 => h9) dX3_numberOfOrder_56 ?_
                                refine lv_iload_n hx hb dX3_numberOfOrder_59 rfl (lv_at hl 2 rfl) ?_
                                refine va_ti (v := .int 120) hx hb hE.2.1 hS (by simp only [vp_in]; decide) rfl dX3_numberOfOrder_60 ?_
                                refine lv_imul hx hb dX3_numberOfOrder_61 ?_
                                refine lv_topi (fun z_86 ez_86 => ?_)
                                obtain rfl : z_86 = 0 := ez_86.trans (by first | rfl | decide +kernel)
                                refine lv_iadd hx hb dX3_numberOfOrder_62 ?_
                                refine lv_topi (fun z_87 ez_87 => ?_)
                                obtain rfl : z_87 = 0 := ez_87.trans (by first | rfl | decide +kernel)
                                refine lv_istore_n (lv' := [(1, .int 0), (4, .int 5), (3, .int 0), (2, .int 5), (0, .ref h0)]) hx hb dX3_numberOfOrder_63 rfl hl (by decide) rfl (fun ls hl => ?_)
                                refine lv_iinc (v := 6) (lv' := [(2, .int 6), (1, .int 0), (4, .int 5), (3, .int 0), (0, .ref h0)]) hx hb dX3_numberOfOrder_64 hl (k := 3) rfl (by decide) (by decide) rfl (fun ls hl => ?_)
                                refine lv_goto (tgt := 4) hx hb dX3_numberOfOrder_67 (by decide) ?_
                                refine lv_iload_n hx hb dX3_numberOfOrder_4 rfl (lv_at hl 0 rfl) ?_
                                refine lv_bipush (v := 6) hx hb dX3_numberOfOrder_5 (by decide) ?_
                                refine lv_icmp_ge (tgt := 70) hx hb dX3_numberOfOrder_7 (by decide) (fun _ => ?_) (fun h => absurd (by decide) h)
                                refine lv_iload_n hx hb dX3_numberOfOrder_70 rfl (lv_at hl 1 rfl) ?_
                                exact kz_iret hx hb hr hlocks hP hK hD hS dX3_numberOfOrder_71 ⟨rfl, rfl⟩
                              · exact absurd c_84 (by decide)
                            · exact absurd c_79 (by decide)
                          · exact absurd c_74 (by decide)
                        · exact absurd c_69 (by decide)
                      · exact absurd c_64 (by decide)
                    · exact absurd c_57 (by decide)
                  · exact absurd c_52 (by decide)
                · exact absurd c_47 (by decide)
              · exact absurd c_42 (by decide)
            · exact absurd c_35 (by decide)
          · exact absurd c_30 (by decide)
        · exact absurd c_25 (by decide)
      · exact absurd c_18 (by decide)
    · exact absurd c_13 (by decide)
  · exact absurd c_6 (by decide)

set_option maxHeartbeats 4000000 in
set_option maxRecDepth 100000 in
theorem kX3_numberOfOrder_111 (l : Launch) (D : va_G) (ty : Nat → ClassId) (eo : Nat → Nat) (sz : Nat) (x_paper x_paper_ranks x_paper_digits x_paper_barred x_paper_pays x_paper_measuredBarred x_paper_buckets q_5 q_6 q_7 q_1 q_2 q_3 q_4 : Nat) : Met l yX3_numberOfOrder wsX3_numberOfOrder ({ frames := 1, cells := 0, slots := 0, locals := 20 }) (va_Pc [.ref x_paper] (kz_pre D ty eo [(x_paper, .inr (3, [.ref x_paper_ranks, .ref x_paper_digits, .ref x_paper_barred, .ref x_paper_pays, .ref x_paper_measuredBarred, .ref x_paper_buckets, .ref q_5, .ref q_6, .ref q_7, .ref q_1, .ref q_2, .ref q_3, .ref q_4, .int 0, .int 1, .int 0, .int 0, .int (-1), .int (-1), .int 0])), (x_paper_digits, .inl (ty 0, 6, .inl (upd (upd (upd (upd (upd (upd (upd (upd (upd (upd (upd (upd (upd (upd (upd (upd (upd (upd (upd (upd (upd (upd (upd (upd (upd (upd (upd (upd (upd (upd (upd (upd (upd (fun _ => 0) 0 0) 0 0) 1 1) 0 0) 1 1) 2 2) 0 0) 1 1) 2 2) 3 3) 0 0) 1 1) 2 2) 3 3) 4 4) 0 0) 1 1) 2 2) 3 3) 4 4) 5 5) 0 0) 1 1) 2 2) 3 3) 4 4) 5 5) 5 5) 4 4) 3 3) 2 2) 1 1) 0 0)))] sz)) (va_Qi (fun (r : Int32) (u : va_W) => 0 = r ∧ [(x_paper, .inr (3, [.ref x_paper_ranks, .ref x_paper_digits, .ref x_paper_barred, .ref x_paper_pays, .ref x_paper_measuredBarred, .ref x_paper_buckets, .ref q_5, .ref q_6, .ref q_7, .ref q_1, .ref q_2, .ref q_3, .ref q_4, .int 0, .int 1, .int 0, .int 0, .int (-1), .int (-1), .int 0])), (x_paper_digits, .inl (ty 0, 6, .inl (upd (upd (upd (upd (upd (upd (upd (upd (upd (upd (upd (upd (upd (upd (upd (upd (upd (upd (upd (upd (upd (upd (upd (upd (upd (upd (upd (upd (upd (upd (upd (upd (upd (fun _ => 0) 0 0) 0 0) 1 1) 0 0) 1 1) 2 2) 0 0) 1 1) 2 2) 3 3) 0 0) 1 1) 2 2) 3 3) 4 4) 0 0) 1 1) 2 2) 3 3) 4 4) 5 5) 0 0) 1 1) 2 2) 3 3) 4 4) 5 5) 5 5) 4 4) 3 3) 2 2) 1 1) 0 0)))] = u) (kz_B D ty (va_A [(x_paper, .inr (3, [.ref x_paper_ranks, .ref x_paper_digits, .ref x_paper_barred, .ref x_paper_pays, .ref x_paper_measuredBarred, .ref x_paper_buckets, .ref q_5, .ref q_6, .ref q_7, .ref q_1, .ref q_2, .ref q_3, .ref q_4, .int 0, .int 1, .int 0, .int 0, .int (-1), .int (-1), .int 0])), (x_paper_digits, .inl (ty 0, 6, .inl (upd (upd (upd (upd (upd (upd (upd (upd (upd (upd (upd (upd (upd (upd (upd (upd (upd (upd (upd (upd (upd (upd (upd (upd (upd (upd (upd (upd (upd (upd (upd (upd (upd (fun _ => 0) 0 0) 0 0) 1 1) 0 0) 1 1) 2 2) 0 0) 1 1) 2 2) 3 3) 0 0) 1 1) 2 2) 3 3) 4 4) 0 0) 1 1) 2 2) 3 3) 4 4) 5 5) 0 0) 1 1) 2 2) 3 3) 4 4) 5 5) 5 5) 4 4) 3 3) 2 2) 1 1) 0 0)))] sz)) (va_A [(x_paper, .inr (3, [.ref x_paper_ranks, .ref x_paper_digits, .ref x_paper_barred, .ref x_paper_pays, .ref x_paper_measuredBarred, .ref x_paper_buckets, .ref q_5, .ref q_6, .ref q_7, .ref q_1, .ref q_2, .ref q_3, .ref q_4, .int 0, .int 1, .int 0, .int 0, .int (-1), .int (-1), .int 0])), (x_paper_digits, .inl (ty 0, 6, .inl (upd (upd (upd (upd (upd (upd (upd (upd (upd (upd (upd (upd (upd (upd (upd (upd (upd (upd (upd (upd (upd (upd (upd (upd (upd (upd (upd (upd (upd (upd (upd (upd (upd (fun _ => 0) 0 0) 0 0) 1 1) 0 0) 1 1) 2 2) 0 0) 1 1) 2 2) 3 3) 0 0) 1 1) 2 2) 3 3) 4 4) 0 0) 1 1) 2 2) 3 3) 4 4) 5 5) 0 0) 1 1) 2 2) 3 3) 4 4) 5 5) 5 5) 4 4) 3 3) 2 2) 1 1) 0 0)))] sz)) 0 0 (va_A [(x_paper, .inr (3, [.ref x_paper_ranks, .ref x_paper_digits, .ref x_paper_barred, .ref x_paper_pays, .ref x_paper_measuredBarred, .ref x_paper_buckets, .ref q_5, .ref q_6, .ref q_7, .ref q_1, .ref q_2, .ref q_3, .ref q_4, .int 0, .int 1, .int 0, .int 0, .int (-1), .int (-1), .int 0])), (x_paper_digits, .inl (ty 0, 6, .inl (upd (upd (upd (upd (upd (upd (upd (upd (upd (upd (upd (upd (upd (upd (upd (upd (upd (upd (upd (upd (upd (upd (upd (upd (upd (upd (upd (upd (upd (upd (upd (upd (upd (fun _ => 0) 0 0) 0 0) 1 1) 0 0) 1 1) 2 2) 0 0) 1 1) 2 2) 3 3) 0 0) 1 1) 2 2) 3 3) 4 4) 0 0) 1 1) 2 2) 3 3) 4 4) 5 5) 0 0) 1 1) 2 2) 3 3) 4 4) 5 5) 5 5) 4 4) 3 3) 2 2) 1 1) 0 0)))] sz) := by
  refine Met.ofW (cc := cX3_numberOfOrder) (maxL := 5) (ret := (some .int)) (by decide) rfl ?_
  intro p e s m args below meth c s₁ B hml hv
  obtain ⟨rfl, hsz, hP, hK, hD0, hN, hE⟩ := hv
  have hx := B.exec
  have hb := B.bytes
  have hr := B.returns
  have hts := atoms_spec (ws := wsX3_numberOfOrder) B.pre
  have hown : s.vm.findClass RX3 = some m.cls := findClass_of_methodNamed B.named
  have hlocks := B.notSynchronized
  subst hsz
  have hD := hD0.self (sz := s.heap.size)
  generalize hAe : va_A [(x_paper, .inr (3, [.ref x_paper_ranks, .ref x_paper_digits, .ref x_paper_barred, .ref x_paper_pays, .ref x_paper_measuredBarred, .ref x_paper_buckets, .ref q_5, .ref q_6, .ref q_7, .ref q_1, .ref q_2, .ref q_3, .ref q_4, .int 0, .int 1, .int 0, .int 0, .int (-1), .int (-1), .int 0])), (x_paper_digits, .inl (ty 0, 6, .inl (upd (upd (upd (upd (upd (upd (upd (upd (upd (upd (upd (upd (upd (upd (upd (upd (upd (upd (upd (upd (upd (upd (upd (upd (upd (upd (upd (upd (upd (upd (upd (upd (upd (fun _ => 0) 0 0) 0 0) 1 1) 0 0) 1 1) 2 2) 0 0) 1 1) 2 2) 3 3) 0 0) 1 1) 2 2) 3 3) 4 4) 0 0) 1 1) 2 2) 3 3) 4 4) 5 5) 0 0) 1 1) 2 2) 3 3) 4 4) 5 5) 5 5) 4 4) 3 3) 2 2) 1 1) 0 0)))] s.heap.size = A at hD hE ⊢
  have hA : ∀ q : Nat, s.heap.size ≤ q → A q := fun q h => by rw [← hAe]; exact Or.inr h
  have hS : va_S A s.heap s.heap [] := va_S.rf
  have hl := lv_entry ([.ref x_paper]) (n := 5) (Nat.le_of_ble_eq_true rfl)
  rw [lg_entry_eq]
  generalize (lg_sl ([.ref x_paper]) ++ List.replicate (5 - (lg_sl ([.ref x_paper])).length) Slot.unset).toArray = ls at hl ⊢
  have hl : lv_has ls 5 [(0, .ref x_paper)] := hl
  refine lv_iconst (v := 0) hx hb dX3_numberOfOrder_0 (by decide) ?_
  refine lv_istore_n (lv' := [(1, .int 0), (0, .ref x_paper)]) hx hb dX3_numberOfOrder_1 rfl hl (by decide) rfl (fun ls hl => ?_)
  refine lv_iconst (v := 0) hx hb dX3_numberOfOrder_2 (by decide) ?_
  refine lv_istore_n (lv' := [(2, .int 0), (1, .int 0), (0, .ref x_paper)]) hx hb dX3_numberOfOrder_3 rfl hl (by decide) rfl (fun ls hl => ?_)
  refine lv_iload_n hx hb dX3_numberOfOrder_4 rfl (lv_at hl 0 rfl) ?_
  refine lv_bipush (v := 6) hx hb dX3_numberOfOrder_5 (by decide) ?_
  refine lv_icmp_ge (tgt := 70) hx hb dX3_numberOfOrder_7 (by decide) (fun h => absurd h (by decide)) (fun _ => ?_)
  refine lv_iconst (v := 0) hx hb dX3_numberOfOrder_10 (by decide) ?_
  refine lv_istore_n (lv' := [(3, .int 0), (2, .int 0), (1, .int 0), (0, .ref x_paper)]) hx hb dX3_numberOfOrder_11 rfl hl (by decide) rfl (fun ls hl => ?_)
  refine lv_iconst (v := 0) hx hb dX3_numberOfOrder_12 (by decide) ?_
  refine lv_istore (lv' := [(4, .int 0), (3, .int 0), (2, .int 0), (1, .int 0), (0, .ref x_paper)]) hx hb dX3_numberOfOrder_13 hl (by decide) rfl (fun ls hl => ?_)
  refine lv_iload hx hb dX3_numberOfOrder_15 (lv_at hl 0 rfl) ?_
  refine lv_iload_n hx hb dX3_numberOfOrder_17 rfl (lv_at hl 2 rfl) ?_
  refine lv_icmp_ge (tgt := 54) hx hb dX3_numberOfOrder_18 (by decide) (fun _ => ?_) (fun h => absurd (by decide) h)
  refine lv_iload_n hx hb dX3_numberOfOrder_54 rfl (lv_at hl 3 rfl) ?_
  refine lv_iload_n hx hb dX3_numberOfOrder_55 rfl (lv_at hl 1 rfl) ?_
  refine va_gets hx hb hE.1 hS hown (hts (.fieldLink RX3 76 "TurnedFloors$Paper" "FACTORIALS" "[I") (by decide +kernel)) (fun _ h9 => h9) dX3_numberOfOrder_56 ?_
  refine lv_iload_n hx hb dX3_numberOfOrder_59 rfl (lv_at hl 2 rfl) ?_
  refine va_ti (v := .int 1) hx hb hE.2.1 hS (by simp only [vp_in]; decide) rfl dX3_numberOfOrder_60 ?_
  refine lv_imul hx hb dX3_numberOfOrder_61 ?_
  refine lv_topi (fun z_1 ez_1 => ?_)
  obtain rfl : z_1 = 0 := ez_1.trans (by first | rfl | decide +kernel)
  refine lv_iadd hx hb dX3_numberOfOrder_62 ?_
  refine lv_topi (fun z_2 ez_2 => ?_)
  obtain rfl : z_2 = 0 := ez_2.trans (by first | rfl | decide +kernel)
  refine lv_istore_n (lv' := [(1, .int 0), (4, .int 0), (3, .int 0), (2, .int 0), (0, .ref x_paper)]) hx hb dX3_numberOfOrder_63 rfl hl (by decide) rfl (fun ls hl => ?_)
  refine lv_iinc (v := 1) (lv' := [(2, .int 1), (1, .int 0), (4, .int 0), (3, .int 0), (0, .ref x_paper)]) hx hb dX3_numberOfOrder_64 hl (k := 3) rfl (by decide) (by decide) rfl (fun ls hl => ?_)
  refine lv_goto (tgt := 4) hx hb dX3_numberOfOrder_67 (by decide) ?_
  refine lv_iload_n hx hb dX3_numberOfOrder_4 rfl (lv_at hl 0 rfl) ?_
  refine lv_bipush (v := 6) hx hb dX3_numberOfOrder_5 (by decide) ?_
  refine lv_icmp_ge (tgt := 70) hx hb dX3_numberOfOrder_7 (by decide) (fun h => absurd h (by decide)) (fun _ => ?_)
  refine lv_iconst (v := 0) hx hb dX3_numberOfOrder_10 (by decide) ?_
  refine lv_istore_n (lv' := [(3, .int 0), (2, .int 1), (1, .int 0), (4, .int 0), (0, .ref x_paper)]) hx hb dX3_numberOfOrder_11 rfl hl (by decide) rfl (fun ls hl => ?_)
  refine lv_iconst (v := 0) hx hb dX3_numberOfOrder_12 (by decide) ?_
  refine lv_istore (lv' := [(4, .int 0), (3, .int 0), (2, .int 1), (1, .int 0), (0, .ref x_paper)]) hx hb dX3_numberOfOrder_13 hl (by decide) rfl (fun ls hl => ?_)
  refine lv_iload hx hb dX3_numberOfOrder_15 (lv_at hl 0 rfl) ?_
  refine lv_iload_n hx hb dX3_numberOfOrder_17 rfl (lv_at hl 2 rfl) ?_
  refine lv_icmp_ge (tgt := 54) hx hb dX3_numberOfOrder_18 (by decide) (fun h => absurd h (by decide)) (fun _ => ?_)
  refine lv_iload_n hx hb dX3_numberOfOrder_21 rfl (lv_at hl 1 rfl) ?_
  refine lv_aload_n hx hb dX3_numberOfOrder_22 rfl (lv_at hl 4 rfl) ?_
  refine va_get (D := D) (ci := 3) (v := .ref x_paper_digits) (C := RX3) (T := TX3) (N := 20) hx hb hts (by decide +kernel) hown hK hP 0 rfl rfl 1 (by decide) (hts (.fieldLink RX3 15 "TurnedFloors$Paper" "digits" "[I") (by decide +kernel)) (fun _ h9 => h9) rfl dX3_numberOfOrder_23 ?_
  refine lv_iload hx hb dX3_numberOfOrder_26 (lv_at hl 0 rfl) ?_
  refine va_iald hx hb hK hP 1 0 rfl rfl (by simp only [vp_in]; decide) dX3_numberOfOrder_28 ?_
  refine lv_topi (fun z_3 ez_3 => ?_)
  obtain rfl : z_3 = 0 := ez_3.trans (by first | rfl | decide +kernel)
  refine lv_aload_n hx hb dX3_numberOfOrder_29 rfl (lv_at hl 4 rfl) ?_
  refine va_get (D := D) (ci := 3) (v := .ref x_paper_digits) (C := RX3) (T := TX3) (N := 20) hx hb hts (by decide +kernel) hown hK hP 0 rfl rfl 1 (by decide) (hts (.fieldLink RX3 15 "TurnedFloors$Paper" "digits" "[I") (by decide +kernel)) (fun _ h9 => h9) rfl dX3_numberOfOrder_30 ?_
  refine lv_iload_n hx hb dX3_numberOfOrder_33 rfl (lv_at hl 2 rfl) ?_
  refine va_iald hx hb hK hP 1 0 rfl rfl (by simp only [vp_in]; decide) dX3_numberOfOrder_34 ?_
  refine lv_topi (fun z_4 ez_4 => ?_)
  obtain rfl : z_4 = 1 := ez_4.trans (by first | rfl | decide +kernel)
  refine lv_icmp_le (tgt := 42) hx hb dX3_numberOfOrder_35 (by decide) (fun _ => ?_) (fun h => absurd (by decide) h)
  refine lv_iconst (v := 0) hx hb dX3_numberOfOrder_42 (by decide) ?_
  refine kz_ki (wc := []) (wr := [(x_paper, .inr (3, [.ref x_paper_ranks, .ref x_paper_digits, .ref x_paper_barred, .ref x_paper_pays, .ref x_paper_measuredBarred, .ref x_paper_buckets, .ref q_5, .ref q_6, .ref q_7, .ref q_1, .ref q_2, .ref q_3, .ref q_4, .int 0, .int 1, .int 0, .int 0, .int (-1), .int (-1), .int 0])), (x_paper_digits, .inl (ty 0, 6, .inl (upd (upd (upd (upd (upd (upd (upd (upd (upd (upd (upd (upd (upd (upd (upd (upd (upd (upd (upd (upd (upd (upd (upd (upd (upd (upd (upd (upd (upd (upd (upd (upd (upd (fun _ => 0) 0 0) 0 0) 1 1) 0 0) 1 1) 2 2) 0 0) 1 1) 2 2) 3 3) 0 0) 1 1) 2 2) 3 3) 4 4) 0 0) 1 1) 2 2) 3 3) 4 4) 5 5) 0 0) 1 1) 2 2) 3 3) 4 4) 5 5) 5 5) 4 4) 3 3) 2 2) 1 1) 0 0)))]) (va_runSN (As := [.int 0]) (rest := [.int 0]) ⟨hx, hb, hml, hown, hts⟩ (kcX9_bit l D ty eo _ 0) ⟨va_cnB 1 hts gX3_numberOfOrder_X9_bit_n133 rfl rfl rfl (hN.1 _ (by decide +kernel : (.methodLinkNest "TurnedFloors$Paper" 133 yX9_bit "TurnedFloors" : Cond) ∈ kzN1)) (hts (.initialized RX9) (by decide +kernel)) (by decide +kernel) ⟨Nat.le_of_ble_eq_true rfl, Nat.le_of_ble_eq_true rfl⟩, hts (.static yX9_bit) (by decide +kernel), trivial⟩ (kz_preS hK hN hE hP hD hS hA [] (by decide) rfl) rfl rfl hl.1 rfl (lv_room (Nat.le_of_ble_eq_true rfl)) dX3_numberOfOrder_43 ⟨Nat.le_of_ble_eq_true rfl, Nat.le_of_ble_eq_true rfl⟩) hP hD hS hA [] [0, 1] rfl rfl (by decide) (by decide) (fun r u H locs hw hP hD hS => ?_)
  rcases hw with ⟨c_5, rfl, rfl⟩ | ⟨c_6, rfl, rfl⟩
  · have hP : va_P D vwCl [(x_paper, .inr (3, [.ref x_paper_ranks, .ref x_paper_digits, .ref x_paper_barred, .ref x_paper_pays, .ref x_paper_measuredBarred, .ref x_paper_buckets, .ref q_5, .ref q_6, .ref q_7, .ref q_1, .ref q_2, .ref q_3, .ref q_4, .int 0, .int 1, .int 0, .int 0, .int (-1), .int (-1), .int 0])), (x_paper_digits, .inl (ty 0, 6, .inl (upd (upd (upd (upd (upd (upd (upd (upd (upd (upd (upd (upd (upd (upd (upd (upd (upd (upd (upd (upd (upd (upd (upd (upd (upd (upd (upd (upd (upd (upd (upd (upd (upd (fun _ => 0) 0 0) 0 0) 1 1) 0 0) 1 1) 2 2) 0 0) 1 1) 2 2) 3 3) 0 0) 1 1) 2 2) 3 3) 4 4) 0 0) 1 1) 2 2) 3 3) 4 4) 5 5) 0 0) 1 1) 2 2) 3 3) 4 4) 5 5) 5 5) 4 4) 3 3) 2 2) 1 1) 0 0)))] H := hP
    have hD : va_D A [(x_paper, .inr (3, [.ref x_paper_ranks, .ref x_paper_digits, .ref x_paper_barred, .ref x_paper_pays, .ref x_paper_measuredBarred, .ref x_paper_buckets, .ref q_5, .ref q_6, .ref q_7, .ref q_1, .ref q_2, .ref q_3, .ref q_4, .int 0, .int 1, .int 0, .int 0, .int (-1), .int (-1), .int 0])), (x_paper_digits, .inl (ty 0, 6, .inl (upd (upd (upd (upd (upd (upd (upd (upd (upd (upd (upd (upd (upd (upd (upd (upd (upd (upd (upd (upd (upd (upd (upd (upd (upd (upd (upd (upd (upd (upd (upd (upd (upd (fun _ => 0) 0 0) 0 0) 1 1) 0 0) 1 1) 2 2) 0 0) 1 1) 2 2) 3 3) 0 0) 1 1) 2 2) 3 3) 4 4) 0 0) 1 1) 2 2) 3 3) 4 4) 5 5) 0 0) 1 1) 2 2) 3 3) 4 4) 5 5) 5 5) 4 4) 3 3) 2 2) 1 1) 0 0)))] := hD
    refine lv_iadd hx hb dX3_numberOfOrder_46 ?_
    refine lv_topi (fun z_7 ez_7 => ?_)
    obtain rfl : z_7 = 0 := ez_7.trans (by first | rfl | decide +kernel)
    refine lv_istore_n (lv' := [(3, .int 0), (4, .int 0), (2, .int 1), (1, .int 0), (0, .ref x_paper)]) hx hb dX3_numberOfOrder_47 rfl hl (by decide) rfl (fun ls hl => ?_)
    refine lv_iinc (v := 1) (lv' := [(4, .int 1), (3, .int 0), (2, .int 1), (1, .int 0), (0, .ref x_paper)]) hx hb dX3_numberOfOrder_48 hl (k := 1) rfl (by decide) (by decide) rfl (fun ls hl => ?_)
    refine lv_goto (tgt := 15) hx hb dX3_numberOfOrder_51 (by decide) ?_
    refine lv_iload hx hb dX3_numberOfOrder_15 (lv_at hl 0 rfl) ?_
    refine lv_iload_n hx hb dX3_numberOfOrder_17 rfl (lv_at hl 2 rfl) ?_
    refine lv_icmp_ge (tgt := 54) hx hb dX3_numberOfOrder_18 (by decide) (fun _ => ?_) (fun h => absurd (by decide) h)
    refine lv_iload_n hx hb dX3_numberOfOrder_54 rfl (lv_at hl 3 rfl) ?_
    refine lv_iload_n hx hb dX3_numberOfOrder_55 rfl (lv_at hl 1 rfl) ?_
    refine va_gets hx hb hE.1 hS hown (hts (.fieldLink RX3 76 "TurnedFloors$Paper" "FACTORIALS" "[I") (by decide +kernel)) (fun _ h9 => h9) dX3_numberOfOrder_56 ?_
    refine lv_iload_n hx hb dX3_numberOfOrder_59 rfl (lv_at hl 2 rfl) ?_
    refine va_ti (v := .int 1) hx hb hE.2.1 hS (by simp only [vp_in]; decide) rfl dX3_numberOfOrder_60 ?_
    refine lv_imul hx hb dX3_numberOfOrder_61 ?_
    refine lv_topi (fun z_8 ez_8 => ?_)
    obtain rfl : z_8 = 0 := ez_8.trans (by first | rfl | decide +kernel)
    refine lv_iadd hx hb dX3_numberOfOrder_62 ?_
    refine lv_topi (fun z_9 ez_9 => ?_)
    obtain rfl : z_9 = 0 := ez_9.trans (by first | rfl | decide +kernel)
    refine lv_istore_n (lv' := [(1, .int 0), (4, .int 1), (3, .int 0), (2, .int 1), (0, .ref x_paper)]) hx hb dX3_numberOfOrder_63 rfl hl (by decide) rfl (fun ls hl => ?_)
    refine lv_iinc (v := 2) (lv' := [(2, .int 2), (1, .int 0), (4, .int 1), (3, .int 0), (0, .ref x_paper)]) hx hb dX3_numberOfOrder_64 hl (k := 3) rfl (by decide) (by decide) rfl (fun ls hl => ?_)
    refine lv_goto (tgt := 4) hx hb dX3_numberOfOrder_67 (by decide) ?_
    refine lv_iload_n hx hb dX3_numberOfOrder_4 rfl (lv_at hl 0 rfl) ?_
    refine lv_bipush (v := 6) hx hb dX3_numberOfOrder_5 (by decide) ?_
    refine lv_icmp_ge (tgt := 70) hx hb dX3_numberOfOrder_7 (by decide) (fun h => absurd h (by decide)) (fun _ => ?_)
    refine lv_iconst (v := 0) hx hb dX3_numberOfOrder_10 (by decide) ?_
    refine lv_istore_n (lv' := [(3, .int 0), (2, .int 2), (1, .int 0), (4, .int 1), (0, .ref x_paper)]) hx hb dX3_numberOfOrder_11 rfl hl (by decide) rfl (fun ls hl => ?_)
    refine lv_iconst (v := 0) hx hb dX3_numberOfOrder_12 (by decide) ?_
    refine lv_istore (lv' := [(4, .int 0), (3, .int 0), (2, .int 2), (1, .int 0), (0, .ref x_paper)]) hx hb dX3_numberOfOrder_13 hl (by decide) rfl (fun ls hl => ?_)
    refine lv_iload hx hb dX3_numberOfOrder_15 (lv_at hl 0 rfl) ?_
    refine lv_iload_n hx hb dX3_numberOfOrder_17 rfl (lv_at hl 2 rfl) ?_
    refine lv_icmp_ge (tgt := 54) hx hb dX3_numberOfOrder_18 (by decide) (fun h => absurd h (by decide)) (fun _ => ?_)
    refine lv_iload_n hx hb dX3_numberOfOrder_21 rfl (lv_at hl 1 rfl) ?_
    refine lv_aload_n hx hb dX3_numberOfOrder_22 rfl (lv_at hl 4 rfl) ?_
    refine va_get (D := D) (ci := 3) (v := .ref x_paper_digits) (C := RX3) (T := TX3) (N := 20) hx hb hts (by decide +kernel) hown hK hP 0 rfl rfl 1 (by decide) (hts (.fieldLink RX3 15 "TurnedFloors$Paper" "digits" "[I") (by decide +kernel)) (fun _ h9 => h9) rfl dX3_numberOfOrder_23 ?_
    refine lv_iload hx hb dX3_numberOfOrder_26 (lv_at hl 0 rfl) ?_
    refine va_iald hx hb hK hP 1 0 rfl rfl (by simp only [vp_in]; decide) dX3_numberOfOrder_28 ?_
    refine lv_topi (fun z_10 ez_10 => ?_)
    obtain rfl : z_10 = 0 := ez_10.trans (by first | rfl | decide +kernel)
    refine lv_aload_n hx hb dX3_numberOfOrder_29 rfl (lv_at hl 4 rfl) ?_
    refine va_get (D := D) (ci := 3) (v := .ref x_paper_digits) (C := RX3) (T := TX3) (N := 20) hx hb hts (by decide +kernel) hown hK hP 0 rfl rfl 1 (by decide) (hts (.fieldLink RX3 15 "TurnedFloors$Paper" "digits" "[I") (by decide +kernel)) (fun _ h9 => h9) rfl dX3_numberOfOrder_30 ?_
    refine lv_iload_n hx hb dX3_numberOfOrder_33 rfl (lv_at hl 2 rfl) ?_
    refine va_iald hx hb hK hP 1 0 rfl rfl (by simp only [vp_in]; decide) dX3_numberOfOrder_34 ?_
    refine lv_topi (fun z_11 ez_11 => ?_)
    obtain rfl : z_11 = 2 := ez_11.trans (by first | rfl | decide +kernel)
    refine lv_icmp_le (tgt := 42) hx hb dX3_numberOfOrder_35 (by decide) (fun _ => ?_) (fun h => absurd (by decide) h)
    refine lv_iconst (v := 0) hx hb dX3_numberOfOrder_42 (by decide) ?_
    refine kz_ki (wc := []) (wr := [(x_paper, .inr (3, [.ref x_paper_ranks, .ref x_paper_digits, .ref x_paper_barred, .ref x_paper_pays, .ref x_paper_measuredBarred, .ref x_paper_buckets, .ref q_5, .ref q_6, .ref q_7, .ref q_1, .ref q_2, .ref q_3, .ref q_4, .int 0, .int 1, .int 0, .int 0, .int (-1), .int (-1), .int 0])), (x_paper_digits, .inl (ty 0, 6, .inl (upd (upd (upd (upd (upd (upd (upd (upd (upd (upd (upd (upd (upd (upd (upd (upd (upd (upd (upd (upd (upd (upd (upd (upd (upd (upd (upd (upd (upd (upd (upd (upd (upd (fun _ => 0) 0 0) 0 0) 1 1) 0 0) 1 1) 2 2) 0 0) 1 1) 2 2) 3 3) 0 0) 1 1) 2 2) 3 3) 4 4) 0 0) 1 1) 2 2) 3 3) 4 4) 5 5) 0 0) 1 1) 2 2) 3 3) 4 4) 5 5) 5 5) 4 4) 3 3) 2 2) 1 1) 0 0)))]) (va_runSN (As := [.int 0]) (rest := [.int 0]) ⟨hx, hb, hml, hown, hts⟩ (kcX9_bit l D ty eo _ 0) ⟨va_cnB 1 hts gX3_numberOfOrder_X9_bit_n133 rfl rfl rfl (hN.1 _ (by decide +kernel : (.methodLinkNest "TurnedFloors$Paper" 133 yX9_bit "TurnedFloors" : Cond) ∈ kzN1)) (hts (.initialized RX9) (by decide +kernel)) (by decide +kernel) ⟨Nat.le_of_ble_eq_true rfl, Nat.le_of_ble_eq_true rfl⟩, hts (.static yX9_bit) (by decide +kernel), trivial⟩ (kz_preS hK hN hE hP hD hS hA [] (by decide) rfl) rfl rfl hl.1 rfl (lv_room (Nat.le_of_ble_eq_true rfl)) dX3_numberOfOrder_43 ⟨Nat.le_of_ble_eq_true rfl, Nat.le_of_ble_eq_true rfl⟩) hP hD hS hA [] [0, 1] rfl rfl (by decide) (by decide) (fun r u H locs hw hP hD hS => ?_)
    rcases hw with ⟨c_12, rfl, rfl⟩ | ⟨c_13, rfl, rfl⟩
    · have hP : va_P D vwCl [(x_paper, .inr (3, [.ref x_paper_ranks, .ref x_paper_digits, .ref x_paper_barred, .ref x_paper_pays, .ref x_paper_measuredBarred, .ref x_paper_buckets, .ref q_5, .ref q_6, .ref q_7, .ref q_1, .ref q_2, .ref q_3, .ref q_4, .int 0, .int 1, .int 0, .int 0, .int (-1), .int (-1), .int 0])), (x_paper_digits, .inl (ty 0, 6, .inl (upd (upd (upd (upd (upd (upd (upd (upd (upd (upd (upd (upd (upd (upd (upd (upd (upd (upd (upd (upd (upd (upd (upd (upd (upd (upd (upd (upd (upd (upd (upd (upd (upd (fun _ => 0) 0 0) 0 0) 1 1) 0 0) 1 1) 2 2) 0 0) 1 1) 2 2) 3 3) 0 0) 1 1) 2 2) 3 3) 4 4) 0 0) 1 1) 2 2) 3 3) 4 4) 5 5) 0 0) 1 1) 2 2) 3 3) 4 4) 5 5) 5 5) 4 4) 3 3) 2 2) 1 1) 0 0)))] H := hP
      have hD : va_D A [(x_paper, .inr (3, [.ref x_paper_ranks, .ref x_paper_digits, .ref x_paper_barred, .ref x_paper_pays, .ref x_paper_measuredBarred, .ref x_paper_buckets, .ref q_5, .ref q_6, .ref q_7, .ref q_1, .ref q_2, .ref q_3, .ref q_4, .int 0, .int 1, .int 0, .int 0, .int (-1), .int (-1), .int 0])), (x_paper_digits, .inl (ty 0, 6, .inl (upd (upd (upd (upd (upd (upd (upd (upd (upd (upd (upd (upd (upd (upd (upd (upd (upd (upd (upd (upd (upd (upd (upd (upd (upd (upd (upd (upd (upd (upd (upd (upd (upd (fun _ => 0) 0 0) 0 0) 1 1) 0 0) 1 1) 2 2) 0 0) 1 1) 2 2) 3 3) 0 0) 1 1) 2 2) 3 3) 4 4) 0 0) 1 1) 2 2) 3 3) 4 4) 5 5) 0 0) 1 1) 2 2) 3 3) 4 4) 5 5) 5 5) 4 4) 3 3) 2 2) 1 1) 0 0)))] := hD
      refine lv_iadd hx hb dX3_numberOfOrder_46 ?_
      refine lv_topi (fun z_14 ez_14 => ?_)
      obtain rfl : z_14 = 0 := ez_14.trans (by first | rfl | decide +kernel)
      refine lv_istore_n (lv' := [(3, .int 0), (4, .int 0), (2, .int 2), (1, .int 0), (0, .ref x_paper)]) hx hb dX3_numberOfOrder_47 rfl hl (by decide) rfl (fun ls hl => ?_)
      refine lv_iinc (v := 1) (lv' := [(4, .int 1), (3, .int 0), (2, .int 2), (1, .int 0), (0, .ref x_paper)]) hx hb dX3_numberOfOrder_48 hl (k := 1) rfl (by decide) (by decide) rfl (fun ls hl => ?_)
      refine lv_goto (tgt := 15) hx hb dX3_numberOfOrder_51 (by decide) ?_
      refine lv_iload hx hb dX3_numberOfOrder_15 (lv_at hl 0 rfl) ?_
      refine lv_iload_n hx hb dX3_numberOfOrder_17 rfl (lv_at hl 2 rfl) ?_
      refine lv_icmp_ge (tgt := 54) hx hb dX3_numberOfOrder_18 (by decide) (fun h => absurd h (by decide)) (fun _ => ?_)
      refine lv_iload_n hx hb dX3_numberOfOrder_21 rfl (lv_at hl 1 rfl) ?_
      refine lv_aload_n hx hb dX3_numberOfOrder_22 rfl (lv_at hl 4 rfl) ?_
      refine va_get (D := D) (ci := 3) (v := .ref x_paper_digits) (C := RX3) (T := TX3) (N := 20) hx hb hts (by decide +kernel) hown hK hP 0 rfl rfl 1 (by decide) (hts (.fieldLink RX3 15 "TurnedFloors$Paper" "digits" "[I") (by decide +kernel)) (fun _ h9 => h9) rfl dX3_numberOfOrder_23 ?_
      refine lv_iload hx hb dX3_numberOfOrder_26 (lv_at hl 0 rfl) ?_
      refine va_iald hx hb hK hP 1 0 rfl rfl (by simp only [vp_in]; decide) dX3_numberOfOrder_28 ?_
      refine lv_topi (fun z_15 ez_15 => ?_)
      obtain rfl : z_15 = 1 := ez_15.trans (by first | rfl | decide +kernel)
      refine lv_aload_n hx hb dX3_numberOfOrder_29 rfl (lv_at hl 4 rfl) ?_
      refine va_get (D := D) (ci := 3) (v := .ref x_paper_digits) (C := RX3) (T := TX3) (N := 20) hx hb hts (by decide +kernel) hown hK hP 0 rfl rfl 1 (by decide) (hts (.fieldLink RX3 15 "TurnedFloors$Paper" "digits" "[I") (by decide +kernel)) (fun _ h9 => h9) rfl dX3_numberOfOrder_30 ?_
      refine lv_iload_n hx hb dX3_numberOfOrder_33 rfl (lv_at hl 2 rfl) ?_
      refine va_iald hx hb hK hP 1 0 rfl rfl (by simp only [vp_in]; decide) dX3_numberOfOrder_34 ?_
      refine lv_topi (fun z_16 ez_16 => ?_)
      obtain rfl : z_16 = 2 := ez_16.trans (by first | rfl | decide +kernel)
      refine lv_icmp_le (tgt := 42) hx hb dX3_numberOfOrder_35 (by decide) (fun _ => ?_) (fun h => absurd (by decide) h)
      refine lv_iconst (v := 0) hx hb dX3_numberOfOrder_42 (by decide) ?_
      refine kz_ki (wc := []) (wr := [(x_paper, .inr (3, [.ref x_paper_ranks, .ref x_paper_digits, .ref x_paper_barred, .ref x_paper_pays, .ref x_paper_measuredBarred, .ref x_paper_buckets, .ref q_5, .ref q_6, .ref q_7, .ref q_1, .ref q_2, .ref q_3, .ref q_4, .int 0, .int 1, .int 0, .int 0, .int (-1), .int (-1), .int 0])), (x_paper_digits, .inl (ty 0, 6, .inl (upd (upd (upd (upd (upd (upd (upd (upd (upd (upd (upd (upd (upd (upd (upd (upd (upd (upd (upd (upd (upd (upd (upd (upd (upd (upd (upd (upd (upd (upd (upd (upd (upd (fun _ => 0) 0 0) 0 0) 1 1) 0 0) 1 1) 2 2) 0 0) 1 1) 2 2) 3 3) 0 0) 1 1) 2 2) 3 3) 4 4) 0 0) 1 1) 2 2) 3 3) 4 4) 5 5) 0 0) 1 1) 2 2) 3 3) 4 4) 5 5) 5 5) 4 4) 3 3) 2 2) 1 1) 0 0)))]) (va_runSN (As := [.int 0]) (rest := [.int 0]) ⟨hx, hb, hml, hown, hts⟩ (kcX9_bit l D ty eo _ 0) ⟨va_cnB 1 hts gX3_numberOfOrder_X9_bit_n133 rfl rfl rfl (hN.1 _ (by decide +kernel : (.methodLinkNest "TurnedFloors$Paper" 133 yX9_bit "TurnedFloors" : Cond) ∈ kzN1)) (hts (.initialized RX9) (by decide +kernel)) (by decide +kernel) ⟨Nat.le_of_ble_eq_true rfl, Nat.le_of_ble_eq_true rfl⟩, hts (.static yX9_bit) (by decide +kernel), trivial⟩ (kz_preS hK hN hE hP hD hS hA [] (by decide) rfl) rfl rfl hl.1 rfl (lv_room (Nat.le_of_ble_eq_true rfl)) dX3_numberOfOrder_43 ⟨Nat.le_of_ble_eq_true rfl, Nat.le_of_ble_eq_true rfl⟩) hP hD hS hA [] [0, 1] rfl rfl (by decide) (by decide) (fun r u H locs hw hP hD hS => ?_)
      rcases hw with ⟨c_17, rfl, rfl⟩ | ⟨c_18, rfl, rfl⟩
      · have hP : va_P D vwCl [(x_paper, .inr (3, [.ref x_paper_ranks, .ref x_paper_digits, .ref x_paper_barred, .ref x_paper_pays, .ref x_paper_measuredBarred, .ref x_paper_buckets, .ref q_5, .ref q_6, .ref q_7, .ref q_1, .ref q_2, .ref q_3, .ref q_4, .int 0, .int 1, .int 0, .int 0, .int (-1), .int (-1), .int 0])), (x_paper_digits, .inl (ty 0, 6, .inl (upd (upd (upd (upd (upd (upd (upd (upd (upd (upd (upd (upd (upd (upd (upd (upd (upd (upd (upd (upd (upd (upd (upd (upd (upd (upd (upd (upd (upd (upd (upd (upd (upd (fun _ => 0) 0 0) 0 0) 1 1) 0 0) 1 1) 2 2) 0 0) 1 1) 2 2) 3 3) 0 0) 1 1) 2 2) 3 3) 4 4) 0 0) 1 1) 2 2) 3 3) 4 4) 5 5) 0 0) 1 1) 2 2) 3 3) 4 4) 5 5) 5 5) 4 4) 3 3) 2 2) 1 1) 0 0)))] H := hP
        have hD : va_D A [(x_paper, .inr (3, [.ref x_paper_ranks, .ref x_paper_digits, .ref x_paper_barred, .ref x_paper_pays, .ref x_paper_measuredBarred, .ref x_paper_buckets, .ref q_5, .ref q_6, .ref q_7, .ref q_1, .ref q_2, .ref q_3, .ref q_4, .int 0, .int 1, .int 0, .int 0, .int (-1), .int (-1), .int 0])), (x_paper_digits, .inl (ty 0, 6, .inl (upd (upd (upd (upd (upd (upd (upd (upd (upd (upd (upd (upd (upd (upd (upd (upd (upd (upd (upd (upd (upd (upd (upd (upd (upd (upd (upd (upd (upd (upd (upd (upd (upd (fun _ => 0) 0 0) 0 0) 1 1) 0 0) 1 1) 2 2) 0 0) 1 1) 2 2) 3 3) 0 0) 1 1) 2 2) 3 3) 4 4) 0 0) 1 1) 2 2) 3 3) 4 4) 5 5) 0 0) 1 1) 2 2) 3 3) 4 4) 5 5) 5 5) 4 4) 3 3) 2 2) 1 1) 0 0)))] := hD
        refine lv_iadd hx hb dX3_numberOfOrder_46 ?_
        refine lv_topi (fun z_19 ez_19 => ?_)
        obtain rfl : z_19 = 0 := ez_19.trans (by first | rfl | decide +kernel)
        refine lv_istore_n (lv' := [(3, .int 0), (4, .int 1), (2, .int 2), (1, .int 0), (0, .ref x_paper)]) hx hb dX3_numberOfOrder_47 rfl hl (by decide) rfl (fun ls hl => ?_)
        refine lv_iinc (v := 2) (lv' := [(4, .int 2), (3, .int 0), (2, .int 2), (1, .int 0), (0, .ref x_paper)]) hx hb dX3_numberOfOrder_48 hl (k := 1) rfl (by decide) (by decide) rfl (fun ls hl => ?_)
        refine lv_goto (tgt := 15) hx hb dX3_numberOfOrder_51 (by decide) ?_
        refine lv_iload hx hb dX3_numberOfOrder_15 (lv_at hl 0 rfl) ?_
        refine lv_iload_n hx hb dX3_numberOfOrder_17 rfl (lv_at hl 2 rfl) ?_
        refine lv_icmp_ge (tgt := 54) hx hb dX3_numberOfOrder_18 (by decide) (fun _ => ?_) (fun h => absurd (by decide) h)
        refine lv_iload_n hx hb dX3_numberOfOrder_54 rfl (lv_at hl 3 rfl) ?_
        refine lv_iload_n hx hb dX3_numberOfOrder_55 rfl (lv_at hl 1 rfl) ?_
        refine va_gets hx hb hE.1 hS hown (hts (.fieldLink RX3 76 "TurnedFloors$Paper" "FACTORIALS" "[I") (by decide +kernel)) (fun _ h9 => h9) dX3_numberOfOrder_56 ?_
        refine lv_iload_n hx hb dX3_numberOfOrder_59 rfl (lv_at hl 2 rfl) ?_
        refine va_ti (v := .int 2) hx hb hE.2.1 hS (by simp only [vp_in]; decide) rfl dX3_numberOfOrder_60 ?_
        refine lv_imul hx hb dX3_numberOfOrder_61 ?_
        refine lv_topi (fun z_20 ez_20 => ?_)
        obtain rfl : z_20 = 0 := ez_20.trans (by first | rfl | decide +kernel)
        refine lv_iadd hx hb dX3_numberOfOrder_62 ?_
        refine lv_topi (fun z_21 ez_21 => ?_)
        obtain rfl : z_21 = 0 := ez_21.trans (by first | rfl | decide +kernel)
        refine lv_istore_n (lv' := [(1, .int 0), (4, .int 2), (3, .int 0), (2, .int 2), (0, .ref x_paper)]) hx hb dX3_numberOfOrder_63 rfl hl (by decide) rfl (fun ls hl => ?_)
        refine lv_iinc (v := 3) (lv' := [(2, .int 3), (1, .int 0), (4, .int 2), (3, .int 0), (0, .ref x_paper)]) hx hb dX3_numberOfOrder_64 hl (k := 3) rfl (by decide) (by decide) rfl (fun ls hl => ?_)
        refine lv_goto (tgt := 4) hx hb dX3_numberOfOrder_67 (by decide) ?_
        refine lv_iload_n hx hb dX3_numberOfOrder_4 rfl (lv_at hl 0 rfl) ?_
        refine lv_bipush (v := 6) hx hb dX3_numberOfOrder_5 (by decide) ?_
        refine lv_icmp_ge (tgt := 70) hx hb dX3_numberOfOrder_7 (by decide) (fun h => absurd h (by decide)) (fun _ => ?_)
        refine lv_iconst (v := 0) hx hb dX3_numberOfOrder_10 (by decide) ?_
        refine lv_istore_n (lv' := [(3, .int 0), (2, .int 3), (1, .int 0), (4, .int 2), (0, .ref x_paper)]) hx hb dX3_numberOfOrder_11 rfl hl (by decide) rfl (fun ls hl => ?_)
        refine lv_iconst (v := 0) hx hb dX3_numberOfOrder_12 (by decide) ?_
        refine lv_istore (lv' := [(4, .int 0), (3, .int 0), (2, .int 3), (1, .int 0), (0, .ref x_paper)]) hx hb dX3_numberOfOrder_13 hl (by decide) rfl (fun ls hl => ?_)
        refine lv_iload hx hb dX3_numberOfOrder_15 (lv_at hl 0 rfl) ?_
        refine lv_iload_n hx hb dX3_numberOfOrder_17 rfl (lv_at hl 2 rfl) ?_
        refine lv_icmp_ge (tgt := 54) hx hb dX3_numberOfOrder_18 (by decide) (fun h => absurd h (by decide)) (fun _ => ?_)
        refine lv_iload_n hx hb dX3_numberOfOrder_21 rfl (lv_at hl 1 rfl) ?_
        refine lv_aload_n hx hb dX3_numberOfOrder_22 rfl (lv_at hl 4 rfl) ?_
        refine va_get (D := D) (ci := 3) (v := .ref x_paper_digits) (C := RX3) (T := TX3) (N := 20) hx hb hts (by decide +kernel) hown hK hP 0 rfl rfl 1 (by decide) (hts (.fieldLink RX3 15 "TurnedFloors$Paper" "digits" "[I") (by decide +kernel)) (fun _ h9 => h9) rfl dX3_numberOfOrder_23 ?_
        refine lv_iload hx hb dX3_numberOfOrder_26 (lv_at hl 0 rfl) ?_
        refine va_iald hx hb hK hP 1 0 rfl rfl (by simp only [vp_in]; decide) dX3_numberOfOrder_28 ?_
        refine lv_topi (fun z_22 ez_22 => ?_)
        obtain rfl : z_22 = 0 := ez_22.trans (by first | rfl | decide +kernel)
        refine lv_aload_n hx hb dX3_numberOfOrder_29 rfl (lv_at hl 4 rfl) ?_
        refine va_get (D := D) (ci := 3) (v := .ref x_paper_digits) (C := RX3) (T := TX3) (N := 20) hx hb hts (by decide +kernel) hown hK hP 0 rfl rfl 1 (by decide) (hts (.fieldLink RX3 15 "TurnedFloors$Paper" "digits" "[I") (by decide +kernel)) (fun _ h9 => h9) rfl dX3_numberOfOrder_30 ?_
        refine lv_iload_n hx hb dX3_numberOfOrder_33 rfl (lv_at hl 2 rfl) ?_
        refine va_iald hx hb hK hP 1 0 rfl rfl (by simp only [vp_in]; decide) dX3_numberOfOrder_34 ?_
        refine lv_topi (fun z_23 ez_23 => ?_)
        obtain rfl : z_23 = 3 := ez_23.trans (by first | rfl | decide +kernel)
        refine lv_icmp_le (tgt := 42) hx hb dX3_numberOfOrder_35 (by decide) (fun _ => ?_) (fun h => absurd (by decide) h)
        refine lv_iconst (v := 0) hx hb dX3_numberOfOrder_42 (by decide) ?_
        refine kz_ki (wc := []) (wr := [(x_paper, .inr (3, [.ref x_paper_ranks, .ref x_paper_digits, .ref x_paper_barred, .ref x_paper_pays, .ref x_paper_measuredBarred, .ref x_paper_buckets, .ref q_5, .ref q_6, .ref q_7, .ref q_1, .ref q_2, .ref q_3, .ref q_4, .int 0, .int 1, .int 0, .int 0, .int (-1), .int (-1), .int 0])), (x_paper_digits, .inl (ty 0, 6, .inl (upd (upd (upd (upd (upd (upd (upd (upd (upd (upd (upd (upd (upd (upd (upd (upd (upd (upd (upd (upd (upd (upd (upd (upd (upd (upd (upd (upd (upd (upd (upd (upd (upd (fun _ => 0) 0 0) 0 0) 1 1) 0 0) 1 1) 2 2) 0 0) 1 1) 2 2) 3 3) 0 0) 1 1) 2 2) 3 3) 4 4) 0 0) 1 1) 2 2) 3 3) 4 4) 5 5) 0 0) 1 1) 2 2) 3 3) 4 4) 5 5) 5 5) 4 4) 3 3) 2 2) 1 1) 0 0)))]) (va_runSN (As := [.int 0]) (rest := [.int 0]) ⟨hx, hb, hml, hown, hts⟩ (kcX9_bit l D ty eo _ 0) ⟨va_cnB 1 hts gX3_numberOfOrder_X9_bit_n133 rfl rfl rfl (hN.1 _ (by decide +kernel : (.methodLinkNest "TurnedFloors$Paper" 133 yX9_bit "TurnedFloors" : Cond) ∈ kzN1)) (hts (.initialized RX9) (by decide +kernel)) (by decide +kernel) ⟨Nat.le_of_ble_eq_true rfl, Nat.le_of_ble_eq_true rfl⟩, hts (.static yX9_bit) (by decide +kernel), trivial⟩ (kz_preS hK hN hE hP hD hS hA [] (by decide) rfl) rfl rfl hl.1 rfl (lv_room (Nat.le_of_ble_eq_true rfl)) dX3_numberOfOrder_43 ⟨Nat.le_of_ble_eq_true rfl, Nat.le_of_ble_eq_true rfl⟩) hP hD hS hA [] [0, 1] rfl rfl (by decide) (by decide) (fun r u H locs hw hP hD hS => ?_)
        rcases hw with ⟨c_24, rfl, rfl⟩ | ⟨c_25, rfl, rfl⟩
        · have hP : va_P D vwCl [(x_paper, .inr (3, [.ref x_paper_ranks, .ref x_paper_digits, .ref x_paper_barred, .ref x_paper_pays, .ref x_paper_measuredBarred, .ref x_paper_buckets, .ref q_5, .ref q_6, .ref q_7, .ref q_1, .ref q_2, .ref q_3, .ref q_4, .int 0, .int 1, .int 0, .int 0, .int (-1), .int (-1), .int 0])), (x_paper_digits, .inl (ty 0, 6, .inl (upd (upd (upd (upd (upd (upd (upd (upd (upd (upd (upd (upd (upd (upd (upd (upd (upd (upd (upd (upd (upd (upd (upd (upd (upd (upd (upd (upd (upd (upd (upd (upd (upd (fun _ => 0) 0 0) 0 0) 1 1) 0 0) 1 1) 2 2) 0 0) 1 1) 2 2) 3 3) 0 0) 1 1) 2 2) 3 3) 4 4) 0 0) 1 1) 2 2) 3 3) 4 4) 5 5) 0 0) 1 1) 2 2) 3 3) 4 4) 5 5) 5 5) 4 4) 3 3) 2 2) 1 1) 0 0)))] H := hP
          have hD : va_D A [(x_paper, .inr (3, [.ref x_paper_ranks, .ref x_paper_digits, .ref x_paper_barred, .ref x_paper_pays, .ref x_paper_measuredBarred, .ref x_paper_buckets, .ref q_5, .ref q_6, .ref q_7, .ref q_1, .ref q_2, .ref q_3, .ref q_4, .int 0, .int 1, .int 0, .int 0, .int (-1), .int (-1), .int 0])), (x_paper_digits, .inl (ty 0, 6, .inl (upd (upd (upd (upd (upd (upd (upd (upd (upd (upd (upd (upd (upd (upd (upd (upd (upd (upd (upd (upd (upd (upd (upd (upd (upd (upd (upd (upd (upd (upd (upd (upd (upd (fun _ => 0) 0 0) 0 0) 1 1) 0 0) 1 1) 2 2) 0 0) 1 1) 2 2) 3 3) 0 0) 1 1) 2 2) 3 3) 4 4) 0 0) 1 1) 2 2) 3 3) 4 4) 5 5) 0 0) 1 1) 2 2) 3 3) 4 4) 5 5) 5 5) 4 4) 3 3) 2 2) 1 1) 0 0)))] := hD
          refine lv_iadd hx hb dX3_numberOfOrder_46 ?_
          refine lv_topi (fun z_26 ez_26 => ?_)
          obtain rfl : z_26 = 0 := ez_26.trans (by first | rfl | decide +kernel)
          refine lv_istore_n (lv' := [(3, .int 0), (4, .int 0), (2, .int 3), (1, .int 0), (0, .ref x_paper)]) hx hb dX3_numberOfOrder_47 rfl hl (by decide) rfl (fun ls hl => ?_)
          refine lv_iinc (v := 1) (lv' := [(4, .int 1), (3, .int 0), (2, .int 3), (1, .int 0), (0, .ref x_paper)]) hx hb dX3_numberOfOrder_48 hl (k := 1) rfl (by decide) (by decide) rfl (fun ls hl => ?_)
          refine lv_goto (tgt := 15) hx hb dX3_numberOfOrder_51 (by decide) ?_
          refine lv_iload hx hb dX3_numberOfOrder_15 (lv_at hl 0 rfl) ?_
          refine lv_iload_n hx hb dX3_numberOfOrder_17 rfl (lv_at hl 2 rfl) ?_
          refine lv_icmp_ge (tgt := 54) hx hb dX3_numberOfOrder_18 (by decide) (fun h => absurd h (by decide)) (fun _ => ?_)
          refine lv_iload_n hx hb dX3_numberOfOrder_21 rfl (lv_at hl 1 rfl) ?_
          refine lv_aload_n hx hb dX3_numberOfOrder_22 rfl (lv_at hl 4 rfl) ?_
          refine va_get (D := D) (ci := 3) (v := .ref x_paper_digits) (C := RX3) (T := TX3) (N := 20) hx hb hts (by decide +kernel) hown hK hP 0 rfl rfl 1 (by decide) (hts (.fieldLink RX3 15 "TurnedFloors$Paper" "digits" "[I") (by decide +kernel)) (fun _ h9 => h9) rfl dX3_numberOfOrder_23 ?_
          refine lv_iload hx hb dX3_numberOfOrder_26 (lv_at hl 0 rfl) ?_
          refine va_iald hx hb hK hP 1 0 rfl rfl (by simp only [vp_in]; decide) dX3_numberOfOrder_28 ?_
          refine lv_topi (fun z_27 ez_27 => ?_)
          obtain rfl : z_27 = 1 := ez_27.trans (by first | rfl | decide +kernel)
          refine lv_aload_n hx hb dX3_numberOfOrder_29 rfl (lv_at hl 4 rfl) ?_
          refine va_get (D := D) (ci := 3) (v := .ref x_paper_digits) (C := RX3) (T := TX3) (N := 20) hx hb hts (by decide +kernel) hown hK hP 0 rfl rfl 1 (by decide) (hts (.fieldLink RX3 15 "TurnedFloors$Paper" "digits" "[I") (by decide +kernel)) (fun _ h9 => h9) rfl dX3_numberOfOrder_30 ?_
          refine lv_iload_n hx hb dX3_numberOfOrder_33 rfl (lv_at hl 2 rfl) ?_
          refine va_iald hx hb hK hP 1 0 rfl rfl (by simp only [vp_in]; decide) dX3_numberOfOrder_34 ?_
          refine lv_topi (fun z_28 ez_28 => ?_)
          obtain rfl : z_28 = 3 := ez_28.trans (by first | rfl | decide +kernel)
          refine lv_icmp_le (tgt := 42) hx hb dX3_numberOfOrder_35 (by decide) (fun _ => ?_) (fun h => absurd (by decide) h)
          refine lv_iconst (v := 0) hx hb dX3_numberOfOrder_42 (by decide) ?_
          refine kz_ki (wc := []) (wr := [(x_paper, .inr (3, [.ref x_paper_ranks, .ref x_paper_digits, .ref x_paper_barred, .ref x_paper_pays, .ref x_paper_measuredBarred, .ref x_paper_buckets, .ref q_5, .ref q_6, .ref q_7, .ref q_1, .ref q_2, .ref q_3, .ref q_4, .int 0, .int 1, .int 0, .int 0, .int (-1), .int (-1), .int 0])), (x_paper_digits, .inl (ty 0, 6, .inl (upd (upd (upd (upd (upd (upd (upd (upd (upd (upd (upd (upd (upd (upd (upd (upd (upd (upd (upd (upd (upd (upd (upd (upd (upd (upd (upd (upd (upd (upd (upd (upd (upd (fun _ => 0) 0 0) 0 0) 1 1) 0 0) 1 1) 2 2) 0 0) 1 1) 2 2) 3 3) 0 0) 1 1) 2 2) 3 3) 4 4) 0 0) 1 1) 2 2) 3 3) 4 4) 5 5) 0 0) 1 1) 2 2) 3 3) 4 4) 5 5) 5 5) 4 4) 3 3) 2 2) 1 1) 0 0)))]) (va_runSN (As := [.int 0]) (rest := [.int 0]) ⟨hx, hb, hml, hown, hts⟩ (kcX9_bit l D ty eo _ 0) ⟨va_cnB 1 hts gX3_numberOfOrder_X9_bit_n133 rfl rfl rfl (hN.1 _ (by decide +kernel : (.methodLinkNest "TurnedFloors$Paper" 133 yX9_bit "TurnedFloors" : Cond) ∈ kzN1)) (hts (.initialized RX9) (by decide +kernel)) (by decide +kernel) ⟨Nat.le_of_ble_eq_true rfl, Nat.le_of_ble_eq_true rfl⟩, hts (.static yX9_bit) (by decide +kernel), trivial⟩ (kz_preS hK hN hE hP hD hS hA [] (by decide) rfl) rfl rfl hl.1 rfl (lv_room (Nat.le_of_ble_eq_true rfl)) dX3_numberOfOrder_43 ⟨Nat.le_of_ble_eq_true rfl, Nat.le_of_ble_eq_true rfl⟩) hP hD hS hA [] [0, 1] rfl rfl (by decide) (by decide) (fun r u H locs hw hP hD hS => ?_)
          rcases hw with ⟨c_29, rfl, rfl⟩ | ⟨c_30, rfl, rfl⟩
          · have hP : va_P D vwCl [(x_paper, .inr (3, [.ref x_paper_ranks, .ref x_paper_digits, .ref x_paper_barred, .ref x_paper_pays, .ref x_paper_measuredBarred, .ref x_paper_buckets, .ref q_5, .ref q_6, .ref q_7, .ref q_1, .ref q_2, .ref q_3, .ref q_4, .int 0, .int 1, .int 0, .int 0, .int (-1), .int (-1), .int 0])), (x_paper_digits, .inl (ty 0, 6, .inl (upd (upd (upd (upd (upd (upd (upd (upd (upd (upd (upd (upd (upd (upd (upd (upd (upd (upd (upd (upd (upd (upd (upd (upd (upd (upd (upd (upd (upd (upd (upd (upd (upd (fun _ => 0) 0 0) 0 0) 1 1) 0 0) 1 1) 2 2) 0 0) 1 1) 2 2) 3 3) 0 0) 1 1) 2 2) 3 3) 4 4) 0 0) 1 1) 2 2) 3 3) 4 4) 5 5) 0 0) 1 1) 2 2) 3 3) 4 4) 5 5) 5 5) 4 4) 3 3) 2 2) 1 1) 0 0)))] H := hP
            have hD : va_D A [(x_paper, .inr (3, [.ref x_paper_ranks, .ref x_paper_digits, .ref x_paper_barred, .ref x_paper_pays, .ref x_paper_measuredBarred, .ref x_paper_buckets, .ref q_5, .ref q_6, .ref q_7, .ref q_1, .ref q_2, .ref q_3, .ref q_4, .int 0, .int 1, .int 0, .int 0, .int (-1), .int (-1), .int 0])), (x_paper_digits, .inl (ty 0, 6, .inl (upd (upd (upd (upd (upd (upd (upd (upd (upd (upd (upd (upd (upd (upd (upd (upd (upd (upd (upd (upd (upd (upd (upd (upd (upd (upd (upd (upd (upd (upd (upd (upd (upd (fun _ => 0) 0 0) 0 0) 1 1) 0 0) 1 1) 2 2) 0 0) 1 1) 2 2) 3 3) 0 0) 1 1) 2 2) 3 3) 4 4) 0 0) 1 1) 2 2) 3 3) 4 4) 5 5) 0 0) 1 1) 2 2) 3 3) 4 4) 5 5) 5 5) 4 4) 3 3) 2 2) 1 1) 0 0)))] := hD
            refine lv_iadd hx hb dX3_numberOfOrder_46 ?_
            refine lv_topi (fun z_31 ez_31 => ?_)
            obtain rfl : z_31 = 0 := ez_31.trans (by first | rfl | decide +kernel)
            refine lv_istore_n (lv' := [(3, .int 0), (4, .int 1), (2, .int 3), (1, .int 0), (0, .ref x_paper)]) hx hb dX3_numberOfOrder_47 rfl hl (by decide) rfl (fun ls hl => ?_)
            refine lv_iinc (v := 2) (lv' := [(4, .int 2), (3, .int 0), (2, .int 3), (1, .int 0), (0, .ref x_paper)]) hx hb dX3_numberOfOrder_48 hl (k := 1) rfl (by decide) (by decide) rfl (fun ls hl => ?_)
            refine lv_goto (tgt := 15) hx hb dX3_numberOfOrder_51 (by decide) ?_
            refine lv_iload hx hb dX3_numberOfOrder_15 (lv_at hl 0 rfl) ?_
            refine lv_iload_n hx hb dX3_numberOfOrder_17 rfl (lv_at hl 2 rfl) ?_
            refine lv_icmp_ge (tgt := 54) hx hb dX3_numberOfOrder_18 (by decide) (fun h => absurd h (by decide)) (fun _ => ?_)
            refine lv_iload_n hx hb dX3_numberOfOrder_21 rfl (lv_at hl 1 rfl) ?_
            refine lv_aload_n hx hb dX3_numberOfOrder_22 rfl (lv_at hl 4 rfl) ?_
            refine va_get (D := D) (ci := 3) (v := .ref x_paper_digits) (C := RX3) (T := TX3) (N := 20) hx hb hts (by decide +kernel) hown hK hP 0 rfl rfl 1 (by decide) (hts (.fieldLink RX3 15 "TurnedFloors$Paper" "digits" "[I") (by decide +kernel)) (fun _ h9 => h9) rfl dX3_numberOfOrder_23 ?_
            refine lv_iload hx hb dX3_numberOfOrder_26 (lv_at hl 0 rfl) ?_
            refine va_iald hx hb hK hP 1 0 rfl rfl (by simp only [vp_in]; decide) dX3_numberOfOrder_28 ?_
            refine lv_topi (fun z_32 ez_32 => ?_)
            obtain rfl : z_32 = 2 := ez_32.trans (by first | rfl | decide +kernel)
            refine lv_aload_n hx hb dX3_numberOfOrder_29 rfl (lv_at hl 4 rfl) ?_
            refine va_get (D := D) (ci := 3) (v := .ref x_paper_digits) (C := RX3) (T := TX3) (N := 20) hx hb hts (by decide +kernel) hown hK hP 0 rfl rfl 1 (by decide) (hts (.fieldLink RX3 15 "TurnedFloors$Paper" "digits" "[I") (by decide +kernel)) (fun _ h9 => h9) rfl dX3_numberOfOrder_30 ?_
            refine lv_iload_n hx hb dX3_numberOfOrder_33 rfl (lv_at hl 2 rfl) ?_
            refine va_iald hx hb hK hP 1 0 rfl rfl (by simp only [vp_in]; decide) dX3_numberOfOrder_34 ?_
            refine lv_topi (fun z_33 ez_33 => ?_)
            obtain rfl : z_33 = 3 := ez_33.trans (by first | rfl | decide +kernel)
            refine lv_icmp_le (tgt := 42) hx hb dX3_numberOfOrder_35 (by decide) (fun _ => ?_) (fun h => absurd (by decide) h)
            refine lv_iconst (v := 0) hx hb dX3_numberOfOrder_42 (by decide) ?_
            refine kz_ki (wc := []) (wr := [(x_paper, .inr (3, [.ref x_paper_ranks, .ref x_paper_digits, .ref x_paper_barred, .ref x_paper_pays, .ref x_paper_measuredBarred, .ref x_paper_buckets, .ref q_5, .ref q_6, .ref q_7, .ref q_1, .ref q_2, .ref q_3, .ref q_4, .int 0, .int 1, .int 0, .int 0, .int (-1), .int (-1), .int 0])), (x_paper_digits, .inl (ty 0, 6, .inl (upd (upd (upd (upd (upd (upd (upd (upd (upd (upd (upd (upd (upd (upd (upd (upd (upd (upd (upd (upd (upd (upd (upd (upd (upd (upd (upd (upd (upd (upd (upd (upd (upd (fun _ => 0) 0 0) 0 0) 1 1) 0 0) 1 1) 2 2) 0 0) 1 1) 2 2) 3 3) 0 0) 1 1) 2 2) 3 3) 4 4) 0 0) 1 1) 2 2) 3 3) 4 4) 5 5) 0 0) 1 1) 2 2) 3 3) 4 4) 5 5) 5 5) 4 4) 3 3) 2 2) 1 1) 0 0)))]) (va_runSN (As := [.int 0]) (rest := [.int 0]) ⟨hx, hb, hml, hown, hts⟩ (kcX9_bit l D ty eo _ 0) ⟨va_cnB 1 hts gX3_numberOfOrder_X9_bit_n133 rfl rfl rfl (hN.1 _ (by decide +kernel : (.methodLinkNest "TurnedFloors$Paper" 133 yX9_bit "TurnedFloors" : Cond) ∈ kzN1)) (hts (.initialized RX9) (by decide +kernel)) (by decide +kernel) ⟨Nat.le_of_ble_eq_true rfl, Nat.le_of_ble_eq_true rfl⟩, hts (.static yX9_bit) (by decide +kernel), trivial⟩ (kz_preS hK hN hE hP hD hS hA [] (by decide) rfl) rfl rfl hl.1 rfl (lv_room (Nat.le_of_ble_eq_true rfl)) dX3_numberOfOrder_43 ⟨Nat.le_of_ble_eq_true rfl, Nat.le_of_ble_eq_true rfl⟩) hP hD hS hA [] [0, 1] rfl rfl (by decide) (by decide) (fun r u H locs hw hP hD hS => ?_)
            rcases hw with ⟨c_34, rfl, rfl⟩ | ⟨c_35, rfl, rfl⟩
            · have hP : va_P D vwCl [(x_paper, .inr (3, [.ref x_paper_ranks, .ref x_paper_digits, .ref x_paper_barred, .ref x_paper_pays, .ref x_paper_measuredBarred, .ref x_paper_buckets, .ref q_5, .ref q_6, .ref q_7, .ref q_1, .ref q_2, .ref q_3, .ref q_4, .int 0, .int 1, .int 0, .int 0, .int (-1), .int (-1), .int 0])), (x_paper_digits, .inl (ty 0, 6, .inl (upd (upd (upd (upd (upd (upd (upd (upd (upd (upd (upd (upd (upd (upd (upd (upd (upd (upd (upd (upd (upd (upd (upd (upd (upd (upd (upd (upd (upd (upd (upd (upd (upd (fun _ => 0) 0 0) 0 0) 1 1) 0 0) 1 1) 2 2) 0 0) 1 1) 2 2) 3 3) 0 0) 1 1) 2 2) 3 3) 4 4) 0 0) 1 1) 2 2) 3 3) 4 4) 5 5) 0 0) 1 1) 2 2) 3 3) 4 4) 5 5) 5 5) 4 4) 3 3) 2 2) 1 1) 0 0)))] H := hP
              have hD : va_D A [(x_paper, .inr (3, [.ref x_paper_ranks, .ref x_paper_digits, .ref x_paper_barred, .ref x_paper_pays, .ref x_paper_measuredBarred, .ref x_paper_buckets, .ref q_5, .ref q_6, .ref q_7, .ref q_1, .ref q_2, .ref q_3, .ref q_4, .int 0, .int 1, .int 0, .int 0, .int (-1), .int (-1), .int 0])), (x_paper_digits, .inl (ty 0, 6, .inl (upd (upd (upd (upd (upd (upd (upd (upd (upd (upd (upd (upd (upd (upd (upd (upd (upd (upd (upd (upd (upd (upd (upd (upd (upd (upd (upd (upd (upd (upd (upd (upd (upd (fun _ => 0) 0 0) 0 0) 1 1) 0 0) 1 1) 2 2) 0 0) 1 1) 2 2) 3 3) 0 0) 1 1) 2 2) 3 3) 4 4) 0 0) 1 1) 2 2) 3 3) 4 4) 5 5) 0 0) 1 1) 2 2) 3 3) 4 4) 5 5) 5 5) 4 4) 3 3) 2 2) 1 1) 0 0)))] := hD
              refine lv_iadd hx hb dX3_numberOfOrder_46 ?_
              refine lv_topi (fun z_36 ez_36 => ?_)
              obtain rfl : z_36 = 0 := ez_36.trans (by first | rfl | decide +kernel)
              refine lv_istore_n (lv' := [(3, .int 0), (4, .int 2), (2, .int 3), (1, .int 0), (0, .ref x_paper)]) hx hb dX3_numberOfOrder_47 rfl hl (by decide) rfl (fun ls hl => ?_)
              refine lv_iinc (v := 3) (lv' := [(4, .int 3), (3, .int 0), (2, .int 3), (1, .int 0), (0, .ref x_paper)]) hx hb dX3_numberOfOrder_48 hl (k := 1) rfl (by decide) (by decide) rfl (fun ls hl => ?_)
              refine lv_goto (tgt := 15) hx hb dX3_numberOfOrder_51 (by decide) ?_
              refine lv_iload hx hb dX3_numberOfOrder_15 (lv_at hl 0 rfl) ?_
              refine lv_iload_n hx hb dX3_numberOfOrder_17 rfl (lv_at hl 2 rfl) ?_
              refine lv_icmp_ge (tgt := 54) hx hb dX3_numberOfOrder_18 (by decide) (fun _ => ?_) (fun h => absurd (by decide) h)
              refine lv_iload_n hx hb dX3_numberOfOrder_54 rfl (lv_at hl 3 rfl) ?_
              refine lv_iload_n hx hb dX3_numberOfOrder_55 rfl (lv_at hl 1 rfl) ?_
              refine va_gets hx hb hE.1 hS hown (hts (.fieldLink RX3 76 "TurnedFloors$Paper" "FACTORIALS" "[I") (by decide +kernel)) (fun _ h9 => h9) dX3_numberOfOrder_56 ?_
              refine lv_iload_n hx hb dX3_numberOfOrder_59 rfl (lv_at hl 2 rfl) ?_
              refine va_ti (v := .int 6) hx hb hE.2.1 hS (by simp only [vp_in]; decide) rfl dX3_numberOfOrder_60 ?_
              refine lv_imul hx hb dX3_numberOfOrder_61 ?_
              refine lv_topi (fun z_37 ez_37 => ?_)
              obtain rfl : z_37 = 0 := ez_37.trans (by first | rfl | decide +kernel)
              refine lv_iadd hx hb dX3_numberOfOrder_62 ?_
              refine lv_topi (fun z_38 ez_38 => ?_)
              obtain rfl : z_38 = 0 := ez_38.trans (by first | rfl | decide +kernel)
              refine lv_istore_n (lv' := [(1, .int 0), (4, .int 3), (3, .int 0), (2, .int 3), (0, .ref x_paper)]) hx hb dX3_numberOfOrder_63 rfl hl (by decide) rfl (fun ls hl => ?_)
              refine lv_iinc (v := 4) (lv' := [(2, .int 4), (1, .int 0), (4, .int 3), (3, .int 0), (0, .ref x_paper)]) hx hb dX3_numberOfOrder_64 hl (k := 3) rfl (by decide) (by decide) rfl (fun ls hl => ?_)
              refine lv_goto (tgt := 4) hx hb dX3_numberOfOrder_67 (by decide) ?_
              refine lv_iload_n hx hb dX3_numberOfOrder_4 rfl (lv_at hl 0 rfl) ?_
              refine lv_bipush (v := 6) hx hb dX3_numberOfOrder_5 (by decide) ?_
              refine lv_icmp_ge (tgt := 70) hx hb dX3_numberOfOrder_7 (by decide) (fun h => absurd h (by decide)) (fun _ => ?_)
              refine lv_iconst (v := 0) hx hb dX3_numberOfOrder_10 (by decide) ?_
              refine lv_istore_n (lv' := [(3, .int 0), (2, .int 4), (1, .int 0), (4, .int 3), (0, .ref x_paper)]) hx hb dX3_numberOfOrder_11 rfl hl (by decide) rfl (fun ls hl => ?_)
              refine lv_iconst (v := 0) hx hb dX3_numberOfOrder_12 (by decide) ?_
              refine lv_istore (lv' := [(4, .int 0), (3, .int 0), (2, .int 4), (1, .int 0), (0, .ref x_paper)]) hx hb dX3_numberOfOrder_13 hl (by decide) rfl (fun ls hl => ?_)
              refine lv_iload hx hb dX3_numberOfOrder_15 (lv_at hl 0 rfl) ?_
              refine lv_iload_n hx hb dX3_numberOfOrder_17 rfl (lv_at hl 2 rfl) ?_
              refine lv_icmp_ge (tgt := 54) hx hb dX3_numberOfOrder_18 (by decide) (fun h => absurd h (by decide)) (fun _ => ?_)
              refine lv_iload_n hx hb dX3_numberOfOrder_21 rfl (lv_at hl 1 rfl) ?_
              refine lv_aload_n hx hb dX3_numberOfOrder_22 rfl (lv_at hl 4 rfl) ?_
              refine va_get (D := D) (ci := 3) (v := .ref x_paper_digits) (C := RX3) (T := TX3) (N := 20) hx hb hts (by decide +kernel) hown hK hP 0 rfl rfl 1 (by decide) (hts (.fieldLink RX3 15 "TurnedFloors$Paper" "digits" "[I") (by decide +kernel)) (fun _ h9 => h9) rfl dX3_numberOfOrder_23 ?_
              refine lv_iload hx hb dX3_numberOfOrder_26 (lv_at hl 0 rfl) ?_
              refine va_iald hx hb hK hP 1 0 rfl rfl (by simp only [vp_in]; decide) dX3_numberOfOrder_28 ?_
              refine lv_topi (fun z_39 ez_39 => ?_)
              obtain rfl : z_39 = 0 := ez_39.trans (by first | rfl | decide +kernel)
              refine lv_aload_n hx hb dX3_numberOfOrder_29 rfl (lv_at hl 4 rfl) ?_
              refine va_get (D := D) (ci := 3) (v := .ref x_paper_digits) (C := RX3) (T := TX3) (N := 20) hx hb hts (by decide +kernel) hown hK hP 0 rfl rfl 1 (by decide) (hts (.fieldLink RX3 15 "TurnedFloors$Paper" "digits" "[I") (by decide +kernel)) (fun _ h9 => h9) rfl dX3_numberOfOrder_30 ?_
              refine lv_iload_n hx hb dX3_numberOfOrder_33 rfl (lv_at hl 2 rfl) ?_
              refine va_iald hx hb hK hP 1 0 rfl rfl (by simp only [vp_in]; decide) dX3_numberOfOrder_34 ?_
              refine lv_topi (fun z_40 ez_40 => ?_)
              obtain rfl : z_40 = 4 := ez_40.trans (by first | rfl | decide +kernel)
              refine lv_icmp_le (tgt := 42) hx hb dX3_numberOfOrder_35 (by decide) (fun _ => ?_) (fun h => absurd (by decide) h)
              refine lv_iconst (v := 0) hx hb dX3_numberOfOrder_42 (by decide) ?_
              refine kz_ki (wc := []) (wr := [(x_paper, .inr (3, [.ref x_paper_ranks, .ref x_paper_digits, .ref x_paper_barred, .ref x_paper_pays, .ref x_paper_measuredBarred, .ref x_paper_buckets, .ref q_5, .ref q_6, .ref q_7, .ref q_1, .ref q_2, .ref q_3, .ref q_4, .int 0, .int 1, .int 0, .int 0, .int (-1), .int (-1), .int 0])), (x_paper_digits, .inl (ty 0, 6, .inl (upd (upd (upd (upd (upd (upd (upd (upd (upd (upd (upd (upd (upd (upd (upd (upd (upd (upd (upd (upd (upd (upd (upd (upd (upd (upd (upd (upd (upd (upd (upd (upd (upd (fun _ => 0) 0 0) 0 0) 1 1) 0 0) 1 1) 2 2) 0 0) 1 1) 2 2) 3 3) 0 0) 1 1) 2 2) 3 3) 4 4) 0 0) 1 1) 2 2) 3 3) 4 4) 5 5) 0 0) 1 1) 2 2) 3 3) 4 4) 5 5) 5 5) 4 4) 3 3) 2 2) 1 1) 0 0)))]) (va_runSN (As := [.int 0]) (rest := [.int 0]) ⟨hx, hb, hml, hown, hts⟩ (kcX9_bit l D ty eo _ 0) ⟨va_cnB 1 hts gX3_numberOfOrder_X9_bit_n133 rfl rfl rfl (hN.1 _ (by decide +kernel : (.methodLinkNest "TurnedFloors$Paper" 133 yX9_bit "TurnedFloors" : Cond) ∈ kzN1)) (hts (.initialized RX9) (by decide +kernel)) (by decide +kernel) ⟨Nat.le_of_ble_eq_true rfl, Nat.le_of_ble_eq_true rfl⟩, hts (.static yX9_bit) (by decide +kernel), trivial⟩ (kz_preS hK hN hE hP hD hS hA [] (by decide) rfl) rfl rfl hl.1 rfl (lv_room (Nat.le_of_ble_eq_true rfl)) dX3_numberOfOrder_43 ⟨Nat.le_of_ble_eq_true rfl, Nat.le_of_ble_eq_true rfl⟩) hP hD hS hA [] [0, 1] rfl rfl (by decide) (by decide) (fun r u H locs hw hP hD hS => ?_)
              rcases hw with ⟨c_41, rfl, rfl⟩ | ⟨c_42, rfl, rfl⟩
              · have hP : va_P D vwCl [(x_paper, .inr (3, [.ref x_paper_ranks, .ref x_paper_digits, .ref x_paper_barred, .ref x_paper_pays, .ref x_paper_measuredBarred, .ref x_paper_buckets, .ref q_5, .ref q_6, .ref q_7, .ref q_1, .ref q_2, .ref q_3, .ref q_4, .int 0, .int 1, .int 0, .int 0, .int (-1), .int (-1), .int 0])), (x_paper_digits, .inl (ty 0, 6, .inl (upd (upd (upd (upd (upd (upd (upd (upd (upd (upd (upd (upd (upd (upd (upd (upd (upd (upd (upd (upd (upd (upd (upd (upd (upd (upd (upd (upd (upd (upd (upd (upd (upd (fun _ => 0) 0 0) 0 0) 1 1) 0 0) 1 1) 2 2) 0 0) 1 1) 2 2) 3 3) 0 0) 1 1) 2 2) 3 3) 4 4) 0 0) 1 1) 2 2) 3 3) 4 4) 5 5) 0 0) 1 1) 2 2) 3 3) 4 4) 5 5) 5 5) 4 4) 3 3) 2 2) 1 1) 0 0)))] H := hP
                have hD : va_D A [(x_paper, .inr (3, [.ref x_paper_ranks, .ref x_paper_digits, .ref x_paper_barred, .ref x_paper_pays, .ref x_paper_measuredBarred, .ref x_paper_buckets, .ref q_5, .ref q_6, .ref q_7, .ref q_1, .ref q_2, .ref q_3, .ref q_4, .int 0, .int 1, .int 0, .int 0, .int (-1), .int (-1), .int 0])), (x_paper_digits, .inl (ty 0, 6, .inl (upd (upd (upd (upd (upd (upd (upd (upd (upd (upd (upd (upd (upd (upd (upd (upd (upd (upd (upd (upd (upd (upd (upd (upd (upd (upd (upd (upd (upd (upd (upd (upd (upd (fun _ => 0) 0 0) 0 0) 1 1) 0 0) 1 1) 2 2) 0 0) 1 1) 2 2) 3 3) 0 0) 1 1) 2 2) 3 3) 4 4) 0 0) 1 1) 2 2) 3 3) 4 4) 5 5) 0 0) 1 1) 2 2) 3 3) 4 4) 5 5) 5 5) 4 4) 3 3) 2 2) 1 1) 0 0)))] := hD
                refine lv_iadd hx hb dX3_numberOfOrder_46 ?_
                refine lv_topi (fun z_43 ez_43 => ?_)
                obtain rfl : z_43 = 0 := ez_43.trans (by first | rfl | decide +kernel)
                refine lv_istore_n (lv' := [(3, .int 0), (4, .int 0), (2, .int 4), (1, .int 0), (0, .ref x_paper)]) hx hb dX3_numberOfOrder_47 rfl hl (by decide) rfl (fun ls hl => ?_)
                refine lv_iinc (v := 1) (lv' := [(4, .int 1), (3, .int 0), (2, .int 4), (1, .int 0), (0, .ref x_paper)]) hx hb dX3_numberOfOrder_48 hl (k := 1) rfl (by decide) (by decide) rfl (fun ls hl => ?_)
                refine lv_goto (tgt := 15) hx hb dX3_numberOfOrder_51 (by decide) ?_
                refine lv_iload hx hb dX3_numberOfOrder_15 (lv_at hl 0 rfl) ?_
                refine lv_iload_n hx hb dX3_numberOfOrder_17 rfl (lv_at hl 2 rfl) ?_
                refine lv_icmp_ge (tgt := 54) hx hb dX3_numberOfOrder_18 (by decide) (fun h => absurd h (by decide)) (fun _ => ?_)
                refine lv_iload_n hx hb dX3_numberOfOrder_21 rfl (lv_at hl 1 rfl) ?_
                refine lv_aload_n hx hb dX3_numberOfOrder_22 rfl (lv_at hl 4 rfl) ?_
                refine va_get (D := D) (ci := 3) (v := .ref x_paper_digits) (C := RX3) (T := TX3) (N := 20) hx hb hts (by decide +kernel) hown hK hP 0 rfl rfl 1 (by decide) (hts (.fieldLink RX3 15 "TurnedFloors$Paper" "digits" "[I") (by decide +kernel)) (fun _ h9 => h9) rfl dX3_numberOfOrder_23 ?_
                refine lv_iload hx hb dX3_numberOfOrder_26 (lv_at hl 0 rfl) ?_
                refine va_iald hx hb hK hP 1 0 rfl rfl (by simp only [vp_in]; decide) dX3_numberOfOrder_28 ?_
                refine lv_topi (fun z_44 ez_44 => ?_)
                obtain rfl : z_44 = 1 := ez_44.trans (by first | rfl | decide +kernel)
                refine lv_aload_n hx hb dX3_numberOfOrder_29 rfl (lv_at hl 4 rfl) ?_
                refine va_get (D := D) (ci := 3) (v := .ref x_paper_digits) (C := RX3) (T := TX3) (N := 20) hx hb hts (by decide +kernel) hown hK hP 0 rfl rfl 1 (by decide) (hts (.fieldLink RX3 15 "TurnedFloors$Paper" "digits" "[I") (by decide +kernel)) (fun _ h9 => h9) rfl dX3_numberOfOrder_30 ?_
                refine lv_iload_n hx hb dX3_numberOfOrder_33 rfl (lv_at hl 2 rfl) ?_
                refine va_iald hx hb hK hP 1 0 rfl rfl (by simp only [vp_in]; decide) dX3_numberOfOrder_34 ?_
                refine lv_topi (fun z_45 ez_45 => ?_)
                obtain rfl : z_45 = 4 := ez_45.trans (by first | rfl | decide +kernel)
                refine lv_icmp_le (tgt := 42) hx hb dX3_numberOfOrder_35 (by decide) (fun _ => ?_) (fun h => absurd (by decide) h)
                refine lv_iconst (v := 0) hx hb dX3_numberOfOrder_42 (by decide) ?_
                refine kz_ki (wc := []) (wr := [(x_paper, .inr (3, [.ref x_paper_ranks, .ref x_paper_digits, .ref x_paper_barred, .ref x_paper_pays, .ref x_paper_measuredBarred, .ref x_paper_buckets, .ref q_5, .ref q_6, .ref q_7, .ref q_1, .ref q_2, .ref q_3, .ref q_4, .int 0, .int 1, .int 0, .int 0, .int (-1), .int (-1), .int 0])), (x_paper_digits, .inl (ty 0, 6, .inl (upd (upd (upd (upd (upd (upd (upd (upd (upd (upd (upd (upd (upd (upd (upd (upd (upd (upd (upd (upd (upd (upd (upd (upd (upd (upd (upd (upd (upd (upd (upd (upd (upd (fun _ => 0) 0 0) 0 0) 1 1) 0 0) 1 1) 2 2) 0 0) 1 1) 2 2) 3 3) 0 0) 1 1) 2 2) 3 3) 4 4) 0 0) 1 1) 2 2) 3 3) 4 4) 5 5) 0 0) 1 1) 2 2) 3 3) 4 4) 5 5) 5 5) 4 4) 3 3) 2 2) 1 1) 0 0)))]) (va_runSN (As := [.int 0]) (rest := [.int 0]) ⟨hx, hb, hml, hown, hts⟩ (kcX9_bit l D ty eo _ 0) ⟨va_cnB 1 hts gX3_numberOfOrder_X9_bit_n133 rfl rfl rfl (hN.1 _ (by decide +kernel : (.methodLinkNest "TurnedFloors$Paper" 133 yX9_bit "TurnedFloors" : Cond) ∈ kzN1)) (hts (.initialized RX9) (by decide +kernel)) (by decide +kernel) ⟨Nat.le_of_ble_eq_true rfl, Nat.le_of_ble_eq_true rfl⟩, hts (.static yX9_bit) (by decide +kernel), trivial⟩ (kz_preS hK hN hE hP hD hS hA [] (by decide) rfl) rfl rfl hl.1 rfl (lv_room (Nat.le_of_ble_eq_true rfl)) dX3_numberOfOrder_43 ⟨Nat.le_of_ble_eq_true rfl, Nat.le_of_ble_eq_true rfl⟩) hP hD hS hA [] [0, 1] rfl rfl (by decide) (by decide) (fun r u H locs hw hP hD hS => ?_)
                rcases hw with ⟨c_46, rfl, rfl⟩ | ⟨c_47, rfl, rfl⟩
                · have hP : va_P D vwCl [(x_paper, .inr (3, [.ref x_paper_ranks, .ref x_paper_digits, .ref x_paper_barred, .ref x_paper_pays, .ref x_paper_measuredBarred, .ref x_paper_buckets, .ref q_5, .ref q_6, .ref q_7, .ref q_1, .ref q_2, .ref q_3, .ref q_4, .int 0, .int 1, .int 0, .int 0, .int (-1), .int (-1), .int 0])), (x_paper_digits, .inl (ty 0, 6, .inl (upd (upd (upd (upd (upd (upd (upd (upd (upd (upd (upd (upd (upd (upd (upd (upd (upd (upd (upd (upd (upd (upd (upd (upd (upd (upd (upd (upd (upd (upd (upd (upd (upd (fun _ => 0) 0 0) 0 0) 1 1) 0 0) 1 1) 2 2) 0 0) 1 1) 2 2) 3 3) 0 0) 1 1) 2 2) 3 3) 4 4) 0 0) 1 1) 2 2) 3 3) 4 4) 5 5) 0 0) 1 1) 2 2) 3 3) 4 4) 5 5) 5 5) 4 4) 3 3) 2 2) 1 1) 0 0)))] H := hP
                  have hD : va_D A [(x_paper, .inr (3, [.ref x_paper_ranks, .ref x_paper_digits, .ref x_paper_barred, .ref x_paper_pays, .ref x_paper_measuredBarred, .ref x_paper_buckets, .ref q_5, .ref q_6, .ref q_7, .ref q_1, .ref q_2, .ref q_3, .ref q_4, .int 0, .int 1, .int 0, .int 0, .int (-1), .int (-1), .int 0])), (x_paper_digits, .inl (ty 0, 6, .inl (upd (upd (upd (upd (upd (upd (upd (upd (upd (upd (upd (upd (upd (upd (upd (upd (upd (upd (upd (upd (upd (upd (upd (upd (upd (upd (upd (upd (upd (upd (upd (upd (upd (fun _ => 0) 0 0) 0 0) 1 1) 0 0) 1 1) 2 2) 0 0) 1 1) 2 2) 3 3) 0 0) 1 1) 2 2) 3 3) 4 4) 0 0) 1 1) 2 2) 3 3) 4 4) 5 5) 0 0) 1 1) 2 2) 3 3) 4 4) 5 5) 5 5) 4 4) 3 3) 2 2) 1 1) 0 0)))] := hD
                  refine lv_iadd hx hb dX3_numberOfOrder_46 ?_
                  refine lv_topi (fun z_48 ez_48 => ?_)
                  obtain rfl : z_48 = 0 := ez_48.trans (by first | rfl | decide +kernel)
                  refine lv_istore_n (lv' := [(3, .int 0), (4, .int 1), (2, .int 4), (1, .int 0), (0, .ref x_paper)]) hx hb dX3_numberOfOrder_47 rfl hl (by decide) rfl (fun ls hl => ?_)
                  refine lv_iinc (v := 2) (lv' := [(4, .int 2), (3, .int 0), (2, .int 4), (1, .int 0), (0, .ref x_paper)]) hx hb dX3_numberOfOrder_48 hl (k := 1) rfl (by decide) (by decide) rfl (fun ls hl => ?_)
                  refine lv_goto (tgt := 15) hx hb dX3_numberOfOrder_51 (by decide) ?_
                  refine lv_iload hx hb dX3_numberOfOrder_15 (lv_at hl 0 rfl) ?_
                  refine lv_iload_n hx hb dX3_numberOfOrder_17 rfl (lv_at hl 2 rfl) ?_
                  refine lv_icmp_ge (tgt := 54) hx hb dX3_numberOfOrder_18 (by decide) (fun h => absurd h (by decide)) (fun _ => ?_)
                  refine lv_iload_n hx hb dX3_numberOfOrder_21 rfl (lv_at hl 1 rfl) ?_
                  refine lv_aload_n hx hb dX3_numberOfOrder_22 rfl (lv_at hl 4 rfl) ?_
                  refine va_get (D := D) (ci := 3) (v := .ref x_paper_digits) (C := RX3) (T := TX3) (N := 20) hx hb hts (by decide +kernel) hown hK hP 0 rfl rfl 1 (by decide) (hts (.fieldLink RX3 15 "TurnedFloors$Paper" "digits" "[I") (by decide +kernel)) (fun _ h9 => h9) rfl dX3_numberOfOrder_23 ?_
                  refine lv_iload hx hb dX3_numberOfOrder_26 (lv_at hl 0 rfl) ?_
                  refine va_iald hx hb hK hP 1 0 rfl rfl (by simp only [vp_in]; decide) dX3_numberOfOrder_28 ?_
                  refine lv_topi (fun z_49 ez_49 => ?_)
                  obtain rfl : z_49 = 2 := ez_49.trans (by first | rfl | decide +kernel)
                  refine lv_aload_n hx hb dX3_numberOfOrder_29 rfl (lv_at hl 4 rfl) ?_
                  refine va_get (D := D) (ci := 3) (v := .ref x_paper_digits) (C := RX3) (T := TX3) (N := 20) hx hb hts (by decide +kernel) hown hK hP 0 rfl rfl 1 (by decide) (hts (.fieldLink RX3 15 "TurnedFloors$Paper" "digits" "[I") (by decide +kernel)) (fun _ h9 => h9) rfl dX3_numberOfOrder_30 ?_
                  refine lv_iload_n hx hb dX3_numberOfOrder_33 rfl (lv_at hl 2 rfl) ?_
                  refine va_iald hx hb hK hP 1 0 rfl rfl (by simp only [vp_in]; decide) dX3_numberOfOrder_34 ?_
                  refine lv_topi (fun z_50 ez_50 => ?_)
                  obtain rfl : z_50 = 4 := ez_50.trans (by first | rfl | decide +kernel)
                  refine lv_icmp_le (tgt := 42) hx hb dX3_numberOfOrder_35 (by decide) (fun _ => ?_) (fun h => absurd (by decide) h)
                  refine lv_iconst (v := 0) hx hb dX3_numberOfOrder_42 (by decide) ?_
                  refine kz_ki (wc := []) (wr := [(x_paper, .inr (3, [.ref x_paper_ranks, .ref x_paper_digits, .ref x_paper_barred, .ref x_paper_pays, .ref x_paper_measuredBarred, .ref x_paper_buckets, .ref q_5, .ref q_6, .ref q_7, .ref q_1, .ref q_2, .ref q_3, .ref q_4, .int 0, .int 1, .int 0, .int 0, .int (-1), .int (-1), .int 0])), (x_paper_digits, .inl (ty 0, 6, .inl (upd (upd (upd (upd (upd (upd (upd (upd (upd (upd (upd (upd (upd (upd (upd (upd (upd (upd (upd (upd (upd (upd (upd (upd (upd (upd (upd (upd (upd (upd (upd (upd (upd (fun _ => 0) 0 0) 0 0) 1 1) 0 0) 1 1) 2 2) 0 0) 1 1) 2 2) 3 3) 0 0) 1 1) 2 2) 3 3) 4 4) 0 0) 1 1) 2 2) 3 3) 4 4) 5 5) 0 0) 1 1) 2 2) 3 3) 4 4) 5 5) 5 5) 4 4) 3 3) 2 2) 1 1) 0 0)))]) (va_runSN (As := [.int 0]) (rest := [.int 0]) ⟨hx, hb, hml, hown, hts⟩ (kcX9_bit l D ty eo _ 0) ⟨va_cnB 1 hts gX3_numberOfOrder_X9_bit_n133 rfl rfl rfl (hN.1 _ (by decide +kernel : (.methodLinkNest "TurnedFloors$Paper" 133 yX9_bit "TurnedFloors" : Cond) ∈ kzN1)) (hts (.initialized RX9) (by decide +kernel)) (by decide +kernel) ⟨Nat.le_of_ble_eq_true rfl, Nat.le_of_ble_eq_true rfl⟩, hts (.static yX9_bit) (by decide +kernel), trivial⟩ (kz_preS hK hN hE hP hD hS hA [] (by decide) rfl) rfl rfl hl.1 rfl (lv_room (Nat.le_of_ble_eq_true rfl)) dX3_numberOfOrder_43 ⟨Nat.le_of_ble_eq_true rfl, Nat.le_of_ble_eq_true rfl⟩) hP hD hS hA [] [0, 1] rfl rfl (by decide) (by decide) (fun r u H locs hw hP hD hS => ?_)
                  rcases hw with ⟨c_51, rfl, rfl⟩ | ⟨c_52, rfl, rfl⟩
                  · have hP : va_P D vwCl [(x_paper, .inr (3, [.ref x_paper_ranks, .ref x_paper_digits, .ref x_paper_barred, .ref x_paper_pays, .ref x_paper_measuredBarred, .ref x_paper_buckets, .ref q_5, .ref q_6, .ref q_7, .ref q_1, .ref q_2, .ref q_3, .ref q_4, .int 0, .int 1, .int 0, .int 0, .int (-1), .int (-1), .int 0])), (x_paper_digits, .inl (ty 0, 6, .inl (upd (upd (upd (upd (upd (upd (upd (upd (upd (upd (upd (upd (upd (upd (upd (upd (upd (upd (upd (upd (upd (upd (upd (upd (upd (upd (upd (upd (upd (upd (upd (upd (upd (fun _ => 0) 0 0) 0 0) 1 1) 0 0) 1 1) 2 2) 0 0) 1 1) 2 2) 3 3) 0 0) 1 1) 2 2) 3 3) 4 4) 0 0) 1 1) 2 2) 3 3) 4 4) 5 5) 0 0) 1 1) 2 2) 3 3) 4 4) 5 5) 5 5) 4 4) 3 3) 2 2) 1 1) 0 0)))] H := hP
                    have hD : va_D A [(x_paper, .inr (3, [.ref x_paper_ranks, .ref x_paper_digits, .ref x_paper_barred, .ref x_paper_pays, .ref x_paper_measuredBarred, .ref x_paper_buckets, .ref q_5, .ref q_6, .ref q_7, .ref q_1, .ref q_2, .ref q_3, .ref q_4, .int 0, .int 1, .int 0, .int 0, .int (-1), .int (-1), .int 0])), (x_paper_digits, .inl (ty 0, 6, .inl (upd (upd (upd (upd (upd (upd (upd (upd (upd (upd (upd (upd (upd (upd (upd (upd (upd (upd (upd (upd (upd (upd (upd (upd (upd (upd (upd (upd (upd (upd (upd (upd (upd (fun _ => 0) 0 0) 0 0) 1 1) 0 0) 1 1) 2 2) 0 0) 1 1) 2 2) 3 3) 0 0) 1 1) 2 2) 3 3) 4 4) 0 0) 1 1) 2 2) 3 3) 4 4) 5 5) 0 0) 1 1) 2 2) 3 3) 4 4) 5 5) 5 5) 4 4) 3 3) 2 2) 1 1) 0 0)))] := hD
                    refine lv_iadd hx hb dX3_numberOfOrder_46 ?_
                    refine lv_topi (fun z_53 ez_53 => ?_)
                    obtain rfl : z_53 = 0 := ez_53.trans (by first | rfl | decide +kernel)
                    refine lv_istore_n (lv' := [(3, .int 0), (4, .int 2), (2, .int 4), (1, .int 0), (0, .ref x_paper)]) hx hb dX3_numberOfOrder_47 rfl hl (by decide) rfl (fun ls hl => ?_)
                    refine lv_iinc (v := 3) (lv' := [(4, .int 3), (3, .int 0), (2, .int 4), (1, .int 0), (0, .ref x_paper)]) hx hb dX3_numberOfOrder_48 hl (k := 1) rfl (by decide) (by decide) rfl (fun ls hl => ?_)
                    refine lv_goto (tgt := 15) hx hb dX3_numberOfOrder_51 (by decide) ?_
                    refine lv_iload hx hb dX3_numberOfOrder_15 (lv_at hl 0 rfl) ?_
                    refine lv_iload_n hx hb dX3_numberOfOrder_17 rfl (lv_at hl 2 rfl) ?_
                    refine lv_icmp_ge (tgt := 54) hx hb dX3_numberOfOrder_18 (by decide) (fun h => absurd h (by decide)) (fun _ => ?_)
                    refine lv_iload_n hx hb dX3_numberOfOrder_21 rfl (lv_at hl 1 rfl) ?_
                    refine lv_aload_n hx hb dX3_numberOfOrder_22 rfl (lv_at hl 4 rfl) ?_
                    refine va_get (D := D) (ci := 3) (v := .ref x_paper_digits) (C := RX3) (T := TX3) (N := 20) hx hb hts (by decide +kernel) hown hK hP 0 rfl rfl 1 (by decide) (hts (.fieldLink RX3 15 "TurnedFloors$Paper" "digits" "[I") (by decide +kernel)) (fun _ h9 => h9) rfl dX3_numberOfOrder_23 ?_
                    refine lv_iload hx hb dX3_numberOfOrder_26 (lv_at hl 0 rfl) ?_
                    refine va_iald hx hb hK hP 1 0 rfl rfl (by simp only [vp_in]; decide) dX3_numberOfOrder_28 ?_
                    refine lv_topi (fun z_54 ez_54 => ?_)
                    obtain rfl : z_54 = 3 := ez_54.trans (by first | rfl | decide +kernel)
                    refine lv_aload_n hx hb dX3_numberOfOrder_29 rfl (lv_at hl 4 rfl) ?_
                    refine va_get (D := D) (ci := 3) (v := .ref x_paper_digits) (C := RX3) (T := TX3) (N := 20) hx hb hts (by decide +kernel) hown hK hP 0 rfl rfl 1 (by decide) (hts (.fieldLink RX3 15 "TurnedFloors$Paper" "digits" "[I") (by decide +kernel)) (fun _ h9 => h9) rfl dX3_numberOfOrder_30 ?_
                    refine lv_iload_n hx hb dX3_numberOfOrder_33 rfl (lv_at hl 2 rfl) ?_
                    refine va_iald hx hb hK hP 1 0 rfl rfl (by simp only [vp_in]; decide) dX3_numberOfOrder_34 ?_
                    refine lv_topi (fun z_55 ez_55 => ?_)
                    obtain rfl : z_55 = 4 := ez_55.trans (by first | rfl | decide +kernel)
                    refine lv_icmp_le (tgt := 42) hx hb dX3_numberOfOrder_35 (by decide) (fun _ => ?_) (fun h => absurd (by decide) h)
                    refine lv_iconst (v := 0) hx hb dX3_numberOfOrder_42 (by decide) ?_
                    refine kz_ki (wc := []) (wr := [(x_paper, .inr (3, [.ref x_paper_ranks, .ref x_paper_digits, .ref x_paper_barred, .ref x_paper_pays, .ref x_paper_measuredBarred, .ref x_paper_buckets, .ref q_5, .ref q_6, .ref q_7, .ref q_1, .ref q_2, .ref q_3, .ref q_4, .int 0, .int 1, .int 0, .int 0, .int (-1), .int (-1), .int 0])), (x_paper_digits, .inl (ty 0, 6, .inl (upd (upd (upd (upd (upd (upd (upd (upd (upd (upd (upd (upd (upd (upd (upd (upd (upd (upd (upd (upd (upd (upd (upd (upd (upd (upd (upd (upd (upd (upd (upd (upd (upd (fun _ => 0) 0 0) 0 0) 1 1) 0 0) 1 1) 2 2) 0 0) 1 1) 2 2) 3 3) 0 0) 1 1) 2 2) 3 3) 4 4) 0 0) 1 1) 2 2) 3 3) 4 4) 5 5) 0 0) 1 1) 2 2) 3 3) 4 4) 5 5) 5 5) 4 4) 3 3) 2 2) 1 1) 0 0)))]) (va_runSN (As := [.int 0]) (rest := [.int 0]) ⟨hx, hb, hml, hown, hts⟩ (kcX9_bit l D ty eo _ 0) ⟨va_cnB 1 hts gX3_numberOfOrder_X9_bit_n133 rfl rfl rfl (hN.1 _ (by decide +kernel : (.methodLinkNest "TurnedFloors$Paper" 133 yX9_bit "TurnedFloors" : Cond) ∈ kzN1)) (hts (.initialized RX9) (by decide +kernel)) (by decide +kernel) ⟨Nat.le_of_ble_eq_true rfl, Nat.le_of_ble_eq_true rfl⟩, hts (.static yX9_bit) (by decide +kernel), trivial⟩ (kz_preS hK hN hE hP hD hS hA [] (by decide) rfl) rfl rfl hl.1 rfl (lv_room (Nat.le_of_ble_eq_true rfl)) dX3_numberOfOrder_43 ⟨Nat.le_of_ble_eq_true rfl, Nat.le_of_ble_eq_true rfl⟩) hP hD hS hA [] [0, 1] rfl rfl (by decide) (by decide) (fun r u H locs hw hP hD hS => ?_)
                    rcases hw with ⟨c_56, rfl, rfl⟩ | ⟨c_57, rfl, rfl⟩
                    · have hP : va_P D vwCl [(x_paper, .inr (3, [.ref x_paper_ranks, .ref x_paper_digits, .ref x_paper_barred, .ref x_paper_pays, .ref x_paper_measuredBarred, .ref x_paper_buckets, .ref q_5, .ref q_6, .ref q_7, .ref q_1, .ref q_2, .ref q_3, .ref q_4, .int 0, .int 1, .int 0, .int 0, .int (-1), .int (-1), .int 0])), (x_paper_digits, .inl (ty 0, 6, .inl (upd (upd (upd (upd (upd (upd (upd (upd (upd (upd (upd (upd (upd (upd (upd (upd (upd (upd (upd (upd (upd (upd (upd (upd (upd (upd (upd (upd (upd (upd (upd (upd (upd (fun _ => 0) 0 0) 0 0) 1 1) 0 0) 1 1) 2 2) 0 0) 1 1) 2 2) 3 3) 0 0) 1 1) 2 2) 3 3) 4 4) 0 0) 1 1) 2 2) 3 3) 4 4) 5 5) 0 0) 1 1) 2 2) 3 3) 4 4) 5 5) 5 5) 4 4) 3 3) 2 2) 1 1) 0 0)))] H := hP
                      have hD : va_D A [(x_paper, .inr (3, [.ref x_paper_ranks, .ref x_paper_digits, .ref x_paper_barred, .ref x_paper_pays, .ref x_paper_measuredBarred, .ref x_paper_buckets, .ref q_5, .ref q_6, .ref q_7, .ref q_1, .ref q_2, .ref q_3, .ref q_4, .int 0, .int 1, .int 0, .int 0, .int (-1), .int (-1), .int 0])), (x_paper_digits, .inl (ty 0, 6, .inl (upd (upd (upd (upd (upd (upd (upd (upd (upd (upd (upd (upd (upd (upd (upd (upd (upd (upd (upd (upd (upd (upd (upd (upd (upd (upd (upd (upd (upd (upd (upd (upd (upd (fun _ => 0) 0 0) 0 0) 1 1) 0 0) 1 1) 2 2) 0 0) 1 1) 2 2) 3 3) 0 0) 1 1) 2 2) 3 3) 4 4) 0 0) 1 1) 2 2) 3 3) 4 4) 5 5) 0 0) 1 1) 2 2) 3 3) 4 4) 5 5) 5 5) 4 4) 3 3) 2 2) 1 1) 0 0)))] := hD
                      refine lv_iadd hx hb dX3_numberOfOrder_46 ?_
                      refine lv_topi (fun z_58 ez_58 => ?_)
                      obtain rfl : z_58 = 0 := ez_58.trans (by first | rfl | decide +kernel)
                      refine lv_istore_n (lv' := [(3, .int 0), (4, .int 3), (2, .int 4), (1, .int 0), (0, .ref x_paper)]) hx hb dX3_numberOfOrder_47 rfl hl (by decide) rfl (fun ls hl => ?_)
                      refine lv_iinc (v := 4) (lv' := [(4, .int 4), (3, .int 0), (2, .int 4), (1, .int 0), (0, .ref x_paper)]) hx hb dX3_numberOfOrder_48 hl (k := 1) rfl (by decide) (by decide) rfl (fun ls hl => ?_)
                      refine lv_goto (tgt := 15) hx hb dX3_numberOfOrder_51 (by decide) ?_
                      refine lv_iload hx hb dX3_numberOfOrder_15 (lv_at hl 0 rfl) ?_
                      refine lv_iload_n hx hb dX3_numberOfOrder_17 rfl (lv_at hl 2 rfl) ?_
                      refine lv_icmp_ge (tgt := 54) hx hb dX3_numberOfOrder_18 (by decide) (fun _ => ?_) (fun h => absurd (by decide) h)
                      refine lv_iload_n hx hb dX3_numberOfOrder_54 rfl (lv_at hl 3 rfl) ?_
                      refine lv_iload_n hx hb dX3_numberOfOrder_55 rfl (lv_at hl 1 rfl) ?_
                      refine va_gets hx hb hE.1 hS hown (hts (.fieldLink RX3 76 "TurnedFloors$Paper" "FACTORIALS" "[I") (by decide +kernel)) (fun _ h9 => h9) dX3_numberOfOrder_56 ?_
                      refine lv_iload_n hx hb dX3_numberOfOrder_59 rfl (lv_at hl 2 rfl) ?_
                      refine va_ti (v := .int 24) hx hb hE.2.1 hS (by simp only [vp_in]; decide) rfl dX3_numberOfOrder_60 ?_
                      refine lv_imul hx hb dX3_numberOfOrder_61 ?_
                      refine lv_topi (fun z_59 ez_59 => ?_)
                      obtain rfl : z_59 = 0 := ez_59.trans (by first | rfl | decide +kernel)
                      refine lv_iadd hx hb dX3_numberOfOrder_62 ?_
                      refine lv_topi (fun z_60 ez_60 => ?_)
                      obtain rfl : z_60 = 0 := ez_60.trans (by first | rfl | decide +kernel)
                      refine lv_istore_n (lv' := [(1, .int 0), (4, .int 4), (3, .int 0), (2, .int 4), (0, .ref x_paper)]) hx hb dX3_numberOfOrder_63 rfl hl (by decide) rfl (fun ls hl => ?_)
                      refine lv_iinc (v := 5) (lv' := [(2, .int 5), (1, .int 0), (4, .int 4), (3, .int 0), (0, .ref x_paper)]) hx hb dX3_numberOfOrder_64 hl (k := 3) rfl (by decide) (by decide) rfl (fun ls hl => ?_)
                      refine lv_goto (tgt := 4) hx hb dX3_numberOfOrder_67 (by decide) ?_
                      refine lv_iload_n hx hb dX3_numberOfOrder_4 rfl (lv_at hl 0 rfl) ?_
                      refine lv_bipush (v := 6) hx hb dX3_numberOfOrder_5 (by decide) ?_
                      refine lv_icmp_ge (tgt := 70) hx hb dX3_numberOfOrder_7 (by decide) (fun h => absurd h (by decide)) (fun _ => ?_)
                      refine lv_iconst (v := 0) hx hb dX3_numberOfOrder_10 (by decide) ?_
                      refine lv_istore_n (lv' := [(3, .int 0), (2, .int 5), (1, .int 0), (4, .int 4), (0, .ref x_paper)]) hx hb dX3_numberOfOrder_11 rfl hl (by decide) rfl (fun ls hl => ?_)
                      refine lv_iconst (v := 0) hx hb dX3_numberOfOrder_12 (by decide) ?_
                      refine lv_istore (lv' := [(4, .int 0), (3, .int 0), (2, .int 5), (1, .int 0), (0, .ref x_paper)]) hx hb dX3_numberOfOrder_13 hl (by decide) rfl (fun ls hl => ?_)
                      refine lv_iload hx hb dX3_numberOfOrder_15 (lv_at hl 0 rfl) ?_
                      refine lv_iload_n hx hb dX3_numberOfOrder_17 rfl (lv_at hl 2 rfl) ?_
                      refine lv_icmp_ge (tgt := 54) hx hb dX3_numberOfOrder_18 (by decide) (fun h => absurd h (by decide)) (fun _ => ?_)
                      refine lv_iload_n hx hb dX3_numberOfOrder_21 rfl (lv_at hl 1 rfl) ?_
                      refine lv_aload_n hx hb dX3_numberOfOrder_22 rfl (lv_at hl 4 rfl) ?_
                      refine va_get (D := D) (ci := 3) (v := .ref x_paper_digits) (C := RX3) (T := TX3) (N := 20) hx hb hts (by decide +kernel) hown hK hP 0 rfl rfl 1 (by decide) (hts (.fieldLink RX3 15 "TurnedFloors$Paper" "digits" "[I") (by decide +kernel)) (fun _ h9 => h9) rfl dX3_numberOfOrder_23 ?_
                      refine lv_iload hx hb dX3_numberOfOrder_26 (lv_at hl 0 rfl) ?_
                      refine va_iald hx hb hK hP 1 0 rfl rfl (by simp only [vp_in]; decide) dX3_numberOfOrder_28 ?_
                      refine lv_topi (fun z_61 ez_61 => ?_)
                      obtain rfl : z_61 = 0 := ez_61.trans (by first | rfl | decide +kernel)
                      refine lv_aload_n hx hb dX3_numberOfOrder_29 rfl (lv_at hl 4 rfl) ?_
                      refine va_get (D := D) (ci := 3) (v := .ref x_paper_digits) (C := RX3) (T := TX3) (N := 20) hx hb hts (by decide +kernel) hown hK hP 0 rfl rfl 1 (by decide) (hts (.fieldLink RX3 15 "TurnedFloors$Paper" "digits" "[I") (by decide +kernel)) (fun _ h9 => h9) rfl dX3_numberOfOrder_30 ?_
                      refine lv_iload_n hx hb dX3_numberOfOrder_33 rfl (lv_at hl 2 rfl) ?_
                      refine va_iald hx hb hK hP 1 0 rfl rfl (by simp only [vp_in]; decide) dX3_numberOfOrder_34 ?_
                      refine lv_topi (fun z_62 ez_62 => ?_)
                      obtain rfl : z_62 = 5 := ez_62.trans (by first | rfl | decide +kernel)
                      refine lv_icmp_le (tgt := 42) hx hb dX3_numberOfOrder_35 (by decide) (fun _ => ?_) (fun h => absurd (by decide) h)
                      refine lv_iconst (v := 0) hx hb dX3_numberOfOrder_42 (by decide) ?_
                      refine kz_ki (wc := []) (wr := [(x_paper, .inr (3, [.ref x_paper_ranks, .ref x_paper_digits, .ref x_paper_barred, .ref x_paper_pays, .ref x_paper_measuredBarred, .ref x_paper_buckets, .ref q_5, .ref q_6, .ref q_7, .ref q_1, .ref q_2, .ref q_3, .ref q_4, .int 0, .int 1, .int 0, .int 0, .int (-1), .int (-1), .int 0])), (x_paper_digits, .inl (ty 0, 6, .inl (upd (upd (upd (upd (upd (upd (upd (upd (upd (upd (upd (upd (upd (upd (upd (upd (upd (upd (upd (upd (upd (upd (upd (upd (upd (upd (upd (upd (upd (upd (upd (upd (upd (fun _ => 0) 0 0) 0 0) 1 1) 0 0) 1 1) 2 2) 0 0) 1 1) 2 2) 3 3) 0 0) 1 1) 2 2) 3 3) 4 4) 0 0) 1 1) 2 2) 3 3) 4 4) 5 5) 0 0) 1 1) 2 2) 3 3) 4 4) 5 5) 5 5) 4 4) 3 3) 2 2) 1 1) 0 0)))]) (va_runSN (As := [.int 0]) (rest := [.int 0]) ⟨hx, hb, hml, hown, hts⟩ (kcX9_bit l D ty eo _ 0) ⟨va_cnB 1 hts gX3_numberOfOrder_X9_bit_n133 rfl rfl rfl (hN.1 _ (by decide +kernel : (.methodLinkNest "TurnedFloors$Paper" 133 yX9_bit "TurnedFloors" : Cond) ∈ kzN1)) (hts (.initialized RX9) (by decide +kernel)) (by decide +kernel) ⟨Nat.le_of_ble_eq_true rfl, Nat.le_of_ble_eq_true rfl⟩, hts (.static yX9_bit) (by decide +kernel), trivial⟩ (kz_preS hK hN hE hP hD hS hA [] (by decide) rfl) rfl rfl hl.1 rfl (lv_room (Nat.le_of_ble_eq_true rfl)) dX3_numberOfOrder_43 ⟨Nat.le_of_ble_eq_true rfl, Nat.le_of_ble_eq_true rfl⟩) hP hD hS hA [] [0, 1] rfl rfl (by decide) (by decide) (fun r u H locs hw hP hD hS => ?_)
                      rcases hw with ⟨c_63, rfl, rfl⟩ | ⟨c_64, rfl, rfl⟩
                      · have hP : va_P D vwCl [(x_paper, .inr (3, [.ref x_paper_ranks, .ref x_paper_digits, .ref x_paper_barred, .ref x_paper_pays, .ref x_paper_measuredBarred, .ref x_paper_buckets, .ref q_5, .ref q_6, .ref q_7, .ref q_1, .ref q_2, .ref q_3, .ref q_4, .int 0, .int 1, .int 0, .int 0, .int (-1), .int (-1), .int 0])), (x_paper_digits, .inl (ty 0, 6, .inl (upd (upd (upd (upd (upd (upd (upd (upd (upd (upd (upd (upd (upd (upd (upd (upd (upd (upd (upd (upd (upd (upd (upd (upd (upd (upd (upd (upd (upd (upd (upd (upd (upd (fun _ => 0) 0 0) 0 0) 1 1) 0 0) 1 1) 2 2) 0 0) 1 1) 2 2) 3 3) 0 0) 1 1) 2 2) 3 3) 4 4) 0 0) 1 1) 2 2) 3 3) 4 4) 5 5) 0 0) 1 1) 2 2) 3 3) 4 4) 5 5) 5 5) 4 4) 3 3) 2 2) 1 1) 0 0)))] H := hP
                        have hD : va_D A [(x_paper, .inr (3, [.ref x_paper_ranks, .ref x_paper_digits, .ref x_paper_barred, .ref x_paper_pays, .ref x_paper_measuredBarred, .ref x_paper_buckets, .ref q_5, .ref q_6, .ref q_7, .ref q_1, .ref q_2, .ref q_3, .ref q_4, .int 0, .int 1, .int 0, .int 0, .int (-1), .int (-1), .int 0])), (x_paper_digits, .inl (ty 0, 6, .inl (upd (upd (upd (upd (upd (upd (upd (upd (upd (upd (upd (upd (upd (upd (upd (upd (upd (upd (upd (upd (upd (upd (upd (upd (upd (upd (upd (upd (upd (upd (upd (upd (upd (fun _ => 0) 0 0) 0 0) 1 1) 0 0) 1 1) 2 2) 0 0) 1 1) 2 2) 3 3) 0 0) 1 1) 2 2) 3 3) 4 4) 0 0) 1 1) 2 2) 3 3) 4 4) 5 5) 0 0) 1 1) 2 2) 3 3) 4 4) 5 5) 5 5) 4 4) 3 3) 2 2) 1 1) 0 0)))] := hD
                        refine lv_iadd hx hb dX3_numberOfOrder_46 ?_
                        refine lv_topi (fun z_65 ez_65 => ?_)
                        obtain rfl : z_65 = 0 := ez_65.trans (by first | rfl | decide +kernel)
                        refine lv_istore_n (lv' := [(3, .int 0), (4, .int 0), (2, .int 5), (1, .int 0), (0, .ref x_paper)]) hx hb dX3_numberOfOrder_47 rfl hl (by decide) rfl (fun ls hl => ?_)
                        refine lv_iinc (v := 1) (lv' := [(4, .int 1), (3, .int 0), (2, .int 5), (1, .int 0), (0, .ref x_paper)]) hx hb dX3_numberOfOrder_48 hl (k := 1) rfl (by decide) (by decide) rfl (fun ls hl => ?_)
                        refine lv_goto (tgt := 15) hx hb dX3_numberOfOrder_51 (by decide) ?_
                        refine lv_iload hx hb dX3_numberOfOrder_15 (lv_at hl 0 rfl) ?_
                        refine lv_iload_n hx hb dX3_numberOfOrder_17 rfl (lv_at hl 2 rfl) ?_
                        refine lv_icmp_ge (tgt := 54) hx hb dX3_numberOfOrder_18 (by decide) (fun h => absurd h (by decide)) (fun _ => ?_)
                        refine lv_iload_n hx hb dX3_numberOfOrder_21 rfl (lv_at hl 1 rfl) ?_
                        refine lv_aload_n hx hb dX3_numberOfOrder_22 rfl (lv_at hl 4 rfl) ?_
                        refine va_get (D := D) (ci := 3) (v := .ref x_paper_digits) (C := RX3) (T := TX3) (N := 20) hx hb hts (by decide +kernel) hown hK hP 0 rfl rfl 1 (by decide) (hts (.fieldLink RX3 15 "TurnedFloors$Paper" "digits" "[I") (by decide +kernel)) (fun _ h9 => h9) rfl dX3_numberOfOrder_23 ?_
                        refine lv_iload hx hb dX3_numberOfOrder_26 (lv_at hl 0 rfl) ?_
                        refine va_iald hx hb hK hP 1 0 rfl rfl (by simp only [vp_in]; decide) dX3_numberOfOrder_28 ?_
                        refine lv_topi (fun z_66 ez_66 => ?_)
                        obtain rfl : z_66 = 1 := ez_66.trans (by first | rfl | decide +kernel)
                        refine lv_aload_n hx hb dX3_numberOfOrder_29 rfl (lv_at hl 4 rfl) ?_
                        refine va_get (D := D) (ci := 3) (v := .ref x_paper_digits) (C := RX3) (T := TX3) (N := 20) hx hb hts (by decide +kernel) hown hK hP 0 rfl rfl 1 (by decide) (hts (.fieldLink RX3 15 "TurnedFloors$Paper" "digits" "[I") (by decide +kernel)) (fun _ h9 => h9) rfl dX3_numberOfOrder_30 ?_
                        refine lv_iload_n hx hb dX3_numberOfOrder_33 rfl (lv_at hl 2 rfl) ?_
                        refine va_iald hx hb hK hP 1 0 rfl rfl (by simp only [vp_in]; decide) dX3_numberOfOrder_34 ?_
                        refine lv_topi (fun z_67 ez_67 => ?_)
                        obtain rfl : z_67 = 5 := ez_67.trans (by first | rfl | decide +kernel)
                        refine lv_icmp_le (tgt := 42) hx hb dX3_numberOfOrder_35 (by decide) (fun _ => ?_) (fun h => absurd (by decide) h)
                        refine lv_iconst (v := 0) hx hb dX3_numberOfOrder_42 (by decide) ?_
                        refine kz_ki (wc := []) (wr := [(x_paper, .inr (3, [.ref x_paper_ranks, .ref x_paper_digits, .ref x_paper_barred, .ref x_paper_pays, .ref x_paper_measuredBarred, .ref x_paper_buckets, .ref q_5, .ref q_6, .ref q_7, .ref q_1, .ref q_2, .ref q_3, .ref q_4, .int 0, .int 1, .int 0, .int 0, .int (-1), .int (-1), .int 0])), (x_paper_digits, .inl (ty 0, 6, .inl (upd (upd (upd (upd (upd (upd (upd (upd (upd (upd (upd (upd (upd (upd (upd (upd (upd (upd (upd (upd (upd (upd (upd (upd (upd (upd (upd (upd (upd (upd (upd (upd (upd (fun _ => 0) 0 0) 0 0) 1 1) 0 0) 1 1) 2 2) 0 0) 1 1) 2 2) 3 3) 0 0) 1 1) 2 2) 3 3) 4 4) 0 0) 1 1) 2 2) 3 3) 4 4) 5 5) 0 0) 1 1) 2 2) 3 3) 4 4) 5 5) 5 5) 4 4) 3 3) 2 2) 1 1) 0 0)))]) (va_runSN (As := [.int 0]) (rest := [.int 0]) ⟨hx, hb, hml, hown, hts⟩ (kcX9_bit l D ty eo _ 0) ⟨va_cnB 1 hts gX3_numberOfOrder_X9_bit_n133 rfl rfl rfl (hN.1 _ (by decide +kernel : (.methodLinkNest "TurnedFloors$Paper" 133 yX9_bit "TurnedFloors" : Cond) ∈ kzN1)) (hts (.initialized RX9) (by decide +kernel)) (by decide +kernel) ⟨Nat.le_of_ble_eq_true rfl, Nat.le_of_ble_eq_true rfl⟩, hts (.static yX9_bit) (by decide +kernel), trivial⟩ (kz_preS hK hN hE hP hD hS hA [] (by decide) rfl) rfl rfl hl.1 rfl (lv_room (Nat.le_of_ble_eq_true rfl)) dX3_numberOfOrder_43 ⟨Nat.le_of_ble_eq_true rfl, Nat.le_of_ble_eq_true rfl⟩) hP hD hS hA [] [0, 1] rfl rfl (by decide) (by decide) (fun r u H locs hw hP hD hS => ?_)
                        rcases hw with ⟨c_68, rfl, rfl⟩ | ⟨c_69, rfl, rfl⟩
                        · have hP : va_P D vwCl [(x_paper, .inr (3, [.ref x_paper_ranks, .ref x_paper_digits, .ref x_paper_barred, .ref x_paper_pays, .ref x_paper_measuredBarred, .ref x_paper_buckets, .ref q_5, .ref q_6, .ref q_7, .ref q_1, .ref q_2, .ref q_3, .ref q_4, .int 0, .int 1, .int 0, .int 0, .int (-1), .int (-1), .int 0])), (x_paper_digits, .inl (ty 0, 6, .inl (upd (upd (upd (upd (upd (upd (upd (upd (upd (upd (upd (upd (upd (upd (upd (upd (upd (upd (upd (upd (upd (upd (upd (upd (upd (upd (upd (upd (upd (upd (upd (upd (upd (fun _ => 0) 0 0) 0 0) 1 1) 0 0) 1 1) 2 2) 0 0) 1 1) 2 2) 3 3) 0 0) 1 1) 2 2) 3 3) 4 4) 0 0) 1 1) 2 2) 3 3) 4 4) 5 5) 0 0) 1 1) 2 2) 3 3) 4 4) 5 5) 5 5) 4 4) 3 3) 2 2) 1 1) 0 0)))] H := hP
                          have hD : va_D A [(x_paper, .inr (3, [.ref x_paper_ranks, .ref x_paper_digits, .ref x_paper_barred, .ref x_paper_pays, .ref x_paper_measuredBarred, .ref x_paper_buckets, .ref q_5, .ref q_6, .ref q_7, .ref q_1, .ref q_2, .ref q_3, .ref q_4, .int 0, .int 1, .int 0, .int 0, .int (-1), .int (-1), .int 0])), (x_paper_digits, .inl (ty 0, 6, .inl (upd (upd (upd (upd (upd (upd (upd (upd (upd (upd (upd (upd (upd (upd (upd (upd (upd (upd (upd (upd (upd (upd (upd (upd (upd (upd (upd (upd (upd (upd (upd (upd (upd (fun _ => 0) 0 0) 0 0) 1 1) 0 0) 1 1) 2 2) 0 0) 1 1) 2 2) 3 3) 0 0) 1 1) 2 2) 3 3) 4 4) 0 0) 1 1) 2 2) 3 3) 4 4) 5 5) 0 0) 1 1) 2 2) 3 3) 4 4) 5 5) 5 5) 4 4) 3 3) 2 2) 1 1) 0 0)))] := hD
                          refine lv_iadd hx hb dX3_numberOfOrder_46 ?_
                          refine lv_topi (fun z_70 ez_70 => ?_)
                          obtain rfl : z_70 = 0 := ez_70.trans (by first | rfl | decide +kernel)
                          refine lv_istore_n (lv' := [(3, .int 0), (4, .int 1), (2, .int 5), (1, .int 0), (0, .ref x_paper)]) hx hb dX3_numberOfOrder_47 rfl hl (by decide) rfl (fun ls hl => ?_)
                          refine lv_iinc (v := 2) (lv' := [(4, .int 2), (3, .int 0), (2, .int 5), (1, .int 0), (0, .ref x_paper)]) hx hb dX3_numberOfOrder_48 hl (k := 1) rfl (by decide) (by decide) rfl (fun ls hl => ?_)
                          refine lv_goto (tgt := 15) hx hb dX3_numberOfOrder_51 (by decide) ?_
                          refine lv_iload hx hb dX3_numberOfOrder_15 (lv_at hl 0 rfl) ?_
                          refine lv_iload_n hx hb dX3_numberOfOrder_17 rfl (lv_at hl 2 rfl) ?_
                          refine lv_icmp_ge (tgt := 54) hx hb dX3_numberOfOrder_18 (by decide) (fun h => absurd h (by decide)) (fun _ => ?_)
                          refine lv_iload_n hx hb dX3_numberOfOrder_21 rfl (lv_at hl 1 rfl) ?_
                          refine lv_aload_n hx hb dX3_numberOfOrder_22 rfl (lv_at hl 4 rfl) ?_
                          refine va_get (D := D) (ci := 3) (v := .ref x_paper_digits) (C := RX3) (T := TX3) (N := 20) hx hb hts (by decide +kernel) hown hK hP 0 rfl rfl 1 (by decide) (hts (.fieldLink RX3 15 "TurnedFloors$Paper" "digits" "[I") (by decide +kernel)) (fun _ h9 => h9) rfl dX3_numberOfOrder_23 ?_
                          refine lv_iload hx hb dX3_numberOfOrder_26 (lv_at hl 0 rfl) ?_
                          refine va_iald hx hb hK hP 1 0 rfl rfl (by simp only [vp_in]; decide) dX3_numberOfOrder_28 ?_
                          refine lv_topi (fun z_71 ez_71 => ?_)
                          obtain rfl : z_71 = 2 := ez_71.trans (by first | rfl | decide +kernel)
                          refine lv_aload_n hx hb dX3_numberOfOrder_29 rfl (lv_at hl 4 rfl) ?_
                          refine va_get (D := D) (ci := 3) (v := .ref x_paper_digits) (C := RX3) (T := TX3) (N := 20) hx hb hts (by decide +kernel) hown hK hP 0 rfl rfl 1 (by decide) (hts (.fieldLink RX3 15 "TurnedFloors$Paper" "digits" "[I") (by decide +kernel)) (fun _ h9 => h9) rfl dX3_numberOfOrder_30 ?_
                          refine lv_iload_n hx hb dX3_numberOfOrder_33 rfl (lv_at hl 2 rfl) ?_
                          refine va_iald hx hb hK hP 1 0 rfl rfl (by simp only [vp_in]; decide) dX3_numberOfOrder_34 ?_
                          refine lv_topi (fun z_72 ez_72 => ?_)
                          obtain rfl : z_72 = 5 := ez_72.trans (by first | rfl | decide +kernel)
                          refine lv_icmp_le (tgt := 42) hx hb dX3_numberOfOrder_35 (by decide) (fun _ => ?_) (fun h => absurd (by decide) h)
                          refine lv_iconst (v := 0) hx hb dX3_numberOfOrder_42 (by decide) ?_
                          refine kz_ki (wc := []) (wr := [(x_paper, .inr (3, [.ref x_paper_ranks, .ref x_paper_digits, .ref x_paper_barred, .ref x_paper_pays, .ref x_paper_measuredBarred, .ref x_paper_buckets, .ref q_5, .ref q_6, .ref q_7, .ref q_1, .ref q_2, .ref q_3, .ref q_4, .int 0, .int 1, .int 0, .int 0, .int (-1), .int (-1), .int 0])), (x_paper_digits, .inl (ty 0, 6, .inl (upd (upd (upd (upd (upd (upd (upd (upd (upd (upd (upd (upd (upd (upd (upd (upd (upd (upd (upd (upd (upd (upd (upd (upd (upd (upd (upd (upd (upd (upd (upd (upd (upd (fun _ => 0) 0 0) 0 0) 1 1) 0 0) 1 1) 2 2) 0 0) 1 1) 2 2) 3 3) 0 0) 1 1) 2 2) 3 3) 4 4) 0 0) 1 1) 2 2) 3 3) 4 4) 5 5) 0 0) 1 1) 2 2) 3 3) 4 4) 5 5) 5 5) 4 4) 3 3) 2 2) 1 1) 0 0)))]) (va_runSN (As := [.int 0]) (rest := [.int 0]) ⟨hx, hb, hml, hown, hts⟩ (kcX9_bit l D ty eo _ 0) ⟨va_cnB 1 hts gX3_numberOfOrder_X9_bit_n133 rfl rfl rfl (hN.1 _ (by decide +kernel : (.methodLinkNest "TurnedFloors$Paper" 133 yX9_bit "TurnedFloors" : Cond) ∈ kzN1)) (hts (.initialized RX9) (by decide +kernel)) (by decide +kernel) ⟨Nat.le_of_ble_eq_true rfl, Nat.le_of_ble_eq_true rfl⟩, hts (.static yX9_bit) (by decide +kernel), trivial⟩ (kz_preS hK hN hE hP hD hS hA [] (by decide) rfl) rfl rfl hl.1 rfl (lv_room (Nat.le_of_ble_eq_true rfl)) dX3_numberOfOrder_43 ⟨Nat.le_of_ble_eq_true rfl, Nat.le_of_ble_eq_true rfl⟩) hP hD hS hA [] [0, 1] rfl rfl (by decide) (by decide) (fun r u H locs hw hP hD hS => ?_)
                          rcases hw with ⟨c_73, rfl, rfl⟩ | ⟨c_74, rfl, rfl⟩
                          · have hP : va_P D vwCl [(x_paper, .inr (3, [.ref x_paper_ranks, .ref x_paper_digits, .ref x_paper_barred, .ref x_paper_pays, .ref x_paper_measuredBarred, .ref x_paper_buckets, .ref q_5, .ref q_6, .ref q_7, .ref q_1, .ref q_2, .ref q_3, .ref q_4, .int 0, .int 1, .int 0, .int 0, .int (-1), .int (-1), .int 0])), (x_paper_digits, .inl (ty 0, 6, .inl (upd (upd (upd (upd (upd (upd (upd (upd (upd (upd (upd (upd (upd (upd (upd (upd (upd (upd (upd (upd (upd (upd (upd (upd (upd (upd (upd (upd (upd (upd (upd (upd (upd (fun _ => 0) 0 0) 0 0) 1 1) 0 0) 1 1) 2 2) 0 0) 1 1) 2 2) 3 3) 0 0) 1 1) 2 2) 3 3) 4 4) 0 0) 1 1) 2 2) 3 3) 4 4) 5 5) 0 0) 1 1) 2 2) 3 3) 4 4) 5 5) 5 5) 4 4) 3 3) 2 2) 1 1) 0 0)))] H := hP
                            have hD : va_D A [(x_paper, .inr (3, [.ref x_paper_ranks, .ref x_paper_digits, .ref x_paper_barred, .ref x_paper_pays, .ref x_paper_measuredBarred, .ref x_paper_buckets, .ref q_5, .ref q_6, .ref q_7, .ref q_1, .ref q_2, .ref q_3, .ref q_4, .int 0, .int 1, .int 0, .int 0, .int (-1), .int (-1), .int 0])), (x_paper_digits, .inl (ty 0, 6, .inl (upd (upd (upd (upd (upd (upd (upd (upd (upd (upd (upd (upd (upd (upd (upd (upd (upd (upd (upd (upd (upd (upd (upd (upd (upd (upd (upd (upd (upd (upd (upd (upd (upd (fun _ => 0) 0 0) 0 0) 1 1) 0 0) 1 1) 2 2) 0 0) 1 1) 2 2) 3 3) 0 0) 1 1) 2 2) 3 3) 4 4) 0 0) 1 1) 2 2) 3 3) 4 4) 5 5) 0 0) 1 1) 2 2) 3 3) 4 4) 5 5) 5 5) 4 4) 3 3) 2 2) 1 1) 0 0)))] := hD
                            refine lv_iadd hx hb dX3_numberOfOrder_46 ?_
                            refine lv_topi (fun z_75 ez_75 => ?_)
                            obtain rfl : z_75 = 0 := ez_75.trans (by first | rfl | decide +kernel)
                            refine lv_istore_n (lv' := [(3, .int 0), (4, .int 2), (2, .int 5), (1, .int 0), (0, .ref x_paper)]) hx hb dX3_numberOfOrder_47 rfl hl (by decide) rfl (fun ls hl => ?_)
                            refine lv_iinc (v := 3) (lv' := [(4, .int 3), (3, .int 0), (2, .int 5), (1, .int 0), (0, .ref x_paper)]) hx hb dX3_numberOfOrder_48 hl (k := 1) rfl (by decide) (by decide) rfl (fun ls hl => ?_)
                            refine lv_goto (tgt := 15) hx hb dX3_numberOfOrder_51 (by decide) ?_
                            refine lv_iload hx hb dX3_numberOfOrder_15 (lv_at hl 0 rfl) ?_
                            refine lv_iload_n hx hb dX3_numberOfOrder_17 rfl (lv_at hl 2 rfl) ?_
                            refine lv_icmp_ge (tgt := 54) hx hb dX3_numberOfOrder_18 (by decide) (fun h => absurd h (by decide)) (fun _ => ?_)
                            refine lv_iload_n hx hb dX3_numberOfOrder_21 rfl (lv_at hl 1 rfl) ?_
                            refine lv_aload_n hx hb dX3_numberOfOrder_22 rfl (lv_at hl 4 rfl) ?_
                            refine va_get (D := D) (ci := 3) (v := .ref x_paper_digits) (C := RX3) (T := TX3) (N := 20) hx hb hts (by decide +kernel) hown hK hP 0 rfl rfl 1 (by decide) (hts (.fieldLink RX3 15 "TurnedFloors$Paper" "digits" "[I") (by decide +kernel)) (fun _ h9 => h9) rfl dX3_numberOfOrder_23 ?_
                            refine lv_iload hx hb dX3_numberOfOrder_26 (lv_at hl 0 rfl) ?_
                            refine va_iald hx hb hK hP 1 0 rfl rfl (by simp only [vp_in]; decide) dX3_numberOfOrder_28 ?_
                            refine lv_topi (fun z_76 ez_76 => ?_)
                            obtain rfl : z_76 = 3 := ez_76.trans (by first | rfl | decide +kernel)
                            refine lv_aload_n hx hb dX3_numberOfOrder_29 rfl (lv_at hl 4 rfl) ?_
                            refine va_get (D := D) (ci := 3) (v := .ref x_paper_digits) (C := RX3) (T := TX3) (N := 20) hx hb hts (by decide +kernel) hown hK hP 0 rfl rfl 1 (by decide) (hts (.fieldLink RX3 15 "TurnedFloors$Paper" "digits" "[I") (by decide +kernel)) (fun _ h9 => h9) rfl dX3_numberOfOrder_30 ?_
                            refine lv_iload_n hx hb dX3_numberOfOrder_33 rfl (lv_at hl 2 rfl) ?_
                            refine va_iald hx hb hK hP 1 0 rfl rfl (by simp only [vp_in]; decide) dX3_numberOfOrder_34 ?_
                            refine lv_topi (fun z_77 ez_77 => ?_)
                            obtain rfl : z_77 = 5 := ez_77.trans (by first | rfl | decide +kernel)
                            refine lv_icmp_le (tgt := 42) hx hb dX3_numberOfOrder_35 (by decide) (fun _ => ?_) (fun h => absurd (by decide) h)
                            refine lv_iconst (v := 0) hx hb dX3_numberOfOrder_42 (by decide) ?_
                            refine kz_ki (wc := []) (wr := [(x_paper, .inr (3, [.ref x_paper_ranks, .ref x_paper_digits, .ref x_paper_barred, .ref x_paper_pays, .ref x_paper_measuredBarred, .ref x_paper_buckets, .ref q_5, .ref q_6, .ref q_7, .ref q_1, .ref q_2, .ref q_3, .ref q_4, .int 0, .int 1, .int 0, .int 0, .int (-1), .int (-1), .int 0])), (x_paper_digits, .inl (ty 0, 6, .inl (upd (upd (upd (upd (upd (upd (upd (upd (upd (upd (upd (upd (upd (upd (upd (upd (upd (upd (upd (upd (upd (upd (upd (upd (upd (upd (upd (upd (upd (upd (upd (upd (upd (fun _ => 0) 0 0) 0 0) 1 1) 0 0) 1 1) 2 2) 0 0) 1 1) 2 2) 3 3) 0 0) 1 1) 2 2) 3 3) 4 4) 0 0) 1 1) 2 2) 3 3) 4 4) 5 5) 0 0) 1 1) 2 2) 3 3) 4 4) 5 5) 5 5) 4 4) 3 3) 2 2) 1 1) 0 0)))]) (va_runSN (As := [.int 0]) (rest := [.int 0]) ⟨hx, hb, hml, hown, hts⟩ (kcX9_bit l D ty eo _ 0) ⟨va_cnB 1 hts gX3_numberOfOrder_X9_bit_n133 rfl rfl rfl (hN.1 _ (by decide +kernel : (.methodLinkNest "TurnedFloors$Paper" 133 yX9_bit "TurnedFloors" : Cond) ∈ kzN1)) (hts (.initialized RX9) (by decide +kernel)) (by decide +kernel) ⟨Nat.le_of_ble_eq_true rfl, Nat.le_of_ble_eq_true rfl⟩, hts (.static yX9_bit) (by decide +kernel), trivial⟩ (kz_preS hK hN hE hP hD hS hA [] (by decide) rfl) rfl rfl hl.1 rfl (lv_room (Nat.le_of_ble_eq_true rfl)) dX3_numberOfOrder_43 ⟨Nat.le_of_ble_eq_true rfl, Nat.le_of_ble_eq_true rfl⟩) hP hD hS hA [] [0, 1] rfl rfl (by decide) (by decide) (fun r u H locs hw hP hD hS => ?_)
                            rcases hw with ⟨c_78, rfl, rfl⟩ | ⟨c_79, rfl, rfl⟩
                            · have hP : va_P D vwCl [(x_paper, .inr (3, [.ref x_paper_ranks, .ref x_paper_digits, .ref x_paper_barred, .ref x_paper_pays, .ref x_paper_measuredBarred, .ref x_paper_buckets, .ref q_5, .ref q_6, .ref q_7, .ref q_1, .ref q_2, .ref q_3, .ref q_4, .int 0, .int 1, .int 0, .int 0, .int (-1), .int (-1), .int 0])), (x_paper_digits, .inl (ty 0, 6, .inl (upd (upd (upd (upd (upd (upd (upd (upd (upd (upd (upd (upd (upd (upd (upd (upd (upd (upd (upd (upd (upd (upd (upd (upd (upd (upd (upd (upd (upd (upd (upd (upd (upd (fun _ => 0) 0 0) 0 0) 1 1) 0 0) 1 1) 2 2) 0 0) 1 1) 2 2) 3 3) 0 0) 1 1) 2 2) 3 3) 4 4) 0 0) 1 1) 2 2) 3 3) 4 4) 5 5) 0 0) 1 1) 2 2) 3 3) 4 4) 5 5) 5 5) 4 4) 3 3) 2 2) 1 1) 0 0)))] H := hP
                              have hD : va_D A [(x_paper, .inr (3, [.ref x_paper_ranks, .ref x_paper_digits, .ref x_paper_barred, .ref x_paper_pays, .ref x_paper_measuredBarred, .ref x_paper_buckets, .ref q_5, .ref q_6, .ref q_7, .ref q_1, .ref q_2, .ref q_3, .ref q_4, .int 0, .int 1, .int 0, .int 0, .int (-1), .int (-1), .int 0])), (x_paper_digits, .inl (ty 0, 6, .inl (upd (upd (upd (upd (upd (upd (upd (upd (upd (upd (upd (upd (upd (upd (upd (upd (upd (upd (upd (upd (upd (upd (upd (upd (upd (upd (upd (upd (upd (upd (upd (upd (upd (fun _ => 0) 0 0) 0 0) 1 1) 0 0) 1 1) 2 2) 0 0) 1 1) 2 2) 3 3) 0 0) 1 1) 2 2) 3 3) 4 4) 0 0) 1 1) 2 2) 3 3) 4 4) 5 5) 0 0) 1 1) 2 2) 3 3) 4 4) 5 5) 5 5) 4 4) 3 3) 2 2) 1 1) 0 0)))] := hD
                              refine lv_iadd hx hb dX3_numberOfOrder_46 ?_
                              refine lv_topi (fun z_80 ez_80 => ?_)
                              obtain rfl : z_80 = 0 := ez_80.trans (by first | rfl | decide +kernel)
                              refine lv_istore_n (lv' := [(3, .int 0), (4, .int 3), (2, .int 5), (1, .int 0), (0, .ref x_paper)]) hx hb dX3_numberOfOrder_47 rfl hl (by decide) rfl (fun ls hl => ?_)
                              refine lv_iinc (v := 4) (lv' := [(4, .int 4), (3, .int 0), (2, .int 5), (1, .int 0), (0, .ref x_paper)]) hx hb dX3_numberOfOrder_48 hl (k := 1) rfl (by decide) (by decide) rfl (fun ls hl => ?_)
                              refine lv_goto (tgt := 15) hx hb dX3_numberOfOrder_51 (by decide) ?_
                              refine lv_iload hx hb dX3_numberOfOrder_15 (lv_at hl 0 rfl) ?_
                              refine lv_iload_n hx hb dX3_numberOfOrder_17 rfl (lv_at hl 2 rfl) ?_
                              refine lv_icmp_ge (tgt := 54) hx hb dX3_numberOfOrder_18 (by decide) (fun h => absurd h (by decide)) (fun _ => ?_)
                              refine lv_iload_n hx hb dX3_numberOfOrder_21 rfl (lv_at hl 1 rfl) ?_
                              refine lv_aload_n hx hb dX3_numberOfOrder_22 rfl (lv_at hl 4 rfl) ?_
                              refine va_get (D := D) (ci := 3) (v := .ref x_paper_digits) (C := RX3) (T := TX3) (N := 20) hx hb hts (by decide +kernel) hown hK hP 0 rfl rfl 1 (by decide) (hts (.fieldLink RX3 15 "TurnedFloors$Paper" "digits" "[I") (by decide +kernel)) (fun _ h9 => h9) rfl dX3_numberOfOrder_23 ?_
                              refine lv_iload hx hb dX3_numberOfOrder_26 (lv_at hl 0 rfl) ?_
                              refine va_iald hx hb hK hP 1 0 rfl rfl (by simp only [vp_in]; decide) dX3_numberOfOrder_28 ?_
                              refine lv_topi (fun z_81 ez_81 => ?_)
                              obtain rfl : z_81 = 4 := ez_81.trans (by first | rfl | decide +kernel)
                              refine lv_aload_n hx hb dX3_numberOfOrder_29 rfl (lv_at hl 4 rfl) ?_
                              refine va_get (D := D) (ci := 3) (v := .ref x_paper_digits) (C := RX3) (T := TX3) (N := 20) hx hb hts (by decide +kernel) hown hK hP 0 rfl rfl 1 (by decide) (hts (.fieldLink RX3 15 "TurnedFloors$Paper" "digits" "[I") (by decide +kernel)) (fun _ h9 => h9) rfl dX3_numberOfOrder_30 ?_
                              refine lv_iload_n hx hb dX3_numberOfOrder_33 rfl (lv_at hl 2 rfl) ?_
                              refine va_iald hx hb hK hP 1 0 rfl rfl (by simp only [vp_in]; decide) dX3_numberOfOrder_34 ?_
                              refine lv_topi (fun z_82 ez_82 => ?_)
                              obtain rfl : z_82 = 5 := ez_82.trans (by first | rfl | decide +kernel)
                              refine lv_icmp_le (tgt := 42) hx hb dX3_numberOfOrder_35 (by decide) (fun _ => ?_) (fun h => absurd (by decide) h)
                              refine lv_iconst (v := 0) hx hb dX3_numberOfOrder_42 (by decide) ?_
                              refine kz_ki (wc := []) (wr := [(x_paper, .inr (3, [.ref x_paper_ranks, .ref x_paper_digits, .ref x_paper_barred, .ref x_paper_pays, .ref x_paper_measuredBarred, .ref x_paper_buckets, .ref q_5, .ref q_6, .ref q_7, .ref q_1, .ref q_2, .ref q_3, .ref q_4, .int 0, .int 1, .int 0, .int 0, .int (-1), .int (-1), .int 0])), (x_paper_digits, .inl (ty 0, 6, .inl (upd (upd (upd (upd (upd (upd (upd (upd (upd (upd (upd (upd (upd (upd (upd (upd (upd (upd (upd (upd (upd (upd (upd (upd (upd (upd (upd (upd (upd (upd (upd (upd (upd (fun _ => 0) 0 0) 0 0) 1 1) 0 0) 1 1) 2 2) 0 0) 1 1) 2 2) 3 3) 0 0) 1 1) 2 2) 3 3) 4 4) 0 0) 1 1) 2 2) 3 3) 4 4) 5 5) 0 0) 1 1) 2 2) 3 3) 4 4) 5 5) 5 5) 4 4) 3 3) 2 2) 1 1) 0 0)))]) (va_runSN (As := [.int 0]) (rest := [.int 0]) ⟨hx, hb, hml, hown, hts⟩ (kcX9_bit l D ty eo _ 0) ⟨va_cnB 1 hts gX3_numberOfOrder_X9_bit_n133 rfl rfl rfl (hN.1 _ (by decide +kernel : (.methodLinkNest "TurnedFloors$Paper" 133 yX9_bit "TurnedFloors" : Cond) ∈ kzN1)) (hts (.initialized RX9) (by decide +kernel)) (by decide +kernel) ⟨Nat.le_of_ble_eq_true rfl, Nat.le_of_ble_eq_true rfl⟩, hts (.static yX9_bit) (by decide +kernel), trivial⟩ (kz_preS hK hN hE hP hD hS hA [] (by decide) rfl) rfl rfl hl.1 rfl (lv_room (Nat.le_of_ble_eq_true rfl)) dX3_numberOfOrder_43 ⟨Nat.le_of_ble_eq_true rfl, Nat.le_of_ble_eq_true rfl⟩) hP hD hS hA [] [0, 1] rfl rfl (by decide) (by decide) (fun r u H locs hw hP hD hS => ?_)
                              rcases hw with ⟨c_83, rfl, rfl⟩ | ⟨c_84, rfl, rfl⟩
                              · have hP : va_P D vwCl [(x_paper, .inr (3, [.ref x_paper_ranks, .ref x_paper_digits, .ref x_paper_barred, .ref x_paper_pays, .ref x_paper_measuredBarred, .ref x_paper_buckets, .ref q_5, .ref q_6, .ref q_7, .ref q_1, .ref q_2, .ref q_3, .ref q_4, .int 0, .int 1, .int 0, .int 0, .int (-1), .int (-1), .int 0])), (x_paper_digits, .inl (ty 0, 6, .inl (upd (upd (upd (upd (upd (upd (upd (upd (upd (upd (upd (upd (upd (upd (upd (upd (upd (upd (upd (upd (upd (upd (upd (upd (upd (upd (upd (upd (upd (upd (upd (upd (upd (fun _ => 0) 0 0) 0 0) 1 1) 0 0) 1 1) 2 2) 0 0) 1 1) 2 2) 3 3) 0 0) 1 1) 2 2) 3 3) 4 4) 0 0) 1 1) 2 2) 3 3) 4 4) 5 5) 0 0) 1 1) 2 2) 3 3) 4 4) 5 5) 5 5) 4 4) 3 3) 2 2) 1 1) 0 0)))] H := hP
                                have hD : va_D A [(x_paper, .inr (3, [.ref x_paper_ranks, .ref x_paper_digits, .ref x_paper_barred, .ref x_paper_pays, .ref x_paper_measuredBarred, .ref x_paper_buckets, .ref q_5, .ref q_6, .ref q_7, .ref q_1, .ref q_2, .ref q_3, .ref q_4, .int 0, .int 1, .int 0, .int 0, .int (-1), .int (-1), .int 0])), (x_paper_digits, .inl (ty 0, 6, .inl (upd (upd (upd (upd (upd (upd (upd (upd (upd (upd (upd (upd (upd (upd (upd (upd (upd (upd (upd (upd (upd (upd (upd (upd (upd (upd (upd (upd (upd (upd (upd (upd (upd (fun _ => 0) 0 0) 0 0) 1 1) 0 0) 1 1) 2 2) 0 0) 1 1) 2 2) 3 3) 0 0) 1 1) 2 2) 3 3) 4 4) 0 0) 1 1) 2 2) 3 3) 4 4) 5 5) 0 0) 1 1) 2 2) 3 3) 4 4) 5 5) 5 5) 4 4) 3 3) 2 2) 1 1) 0 0)))] := hD
                                refine lv_iadd hx hb dX3_numberOfOrder_46 ?_
                                refine lv_topi (fun z_85 ez_85 => ?_)
                                obtain rfl : z_85 = 0 := ez_85.trans (by first | rfl | decide +kernel)
                                refine lv_istore_n (lv' := [(3, .int 0), (4, .int 4), (2, .int 5), (1, .int 0), (0, .ref x_paper)]) hx hb dX3_numberOfOrder_47 rfl hl (by decide) rfl (fun ls hl => ?_)
                                refine lv_iinc (v := 5) (lv' := [(4, .int 5), (3, .int 0), (2, .int 5), (1, .int 0), (0, .ref x_paper)]) hx hb dX3_numberOfOrder_48 hl (k := 1) rfl (by decide) (by decide) rfl (fun ls hl => ?_)
                                refine lv_goto (tgt := 15) hx hb dX3_numberOfOrder_51 (by decide) ?_
                                refine lv_iload hx hb dX3_numberOfOrder_15 (lv_at hl 0 rfl) ?_
                                refine lv_iload_n hx hb dX3_numberOfOrder_17 rfl (lv_at hl 2 rfl) ?_
                                refine lv_icmp_ge (tgt := 54) hx hb dX3_numberOfOrder_18 (by decide) (fun _ => ?_) (fun h => absurd (by decide) h)
                                refine lv_iload_n hx hb dX3_numberOfOrder_54 rfl (lv_at hl 3 rfl) ?_
                                refine lv_iload_n hx hb dX3_numberOfOrder_55 rfl (lv_at hl 1 rfl) ?_
                                refine va_gets hx hb hE.1 hS hown (hts (.fieldLink RX3 76 "TurnedFloors$Paper" "FACTORIALS" "[I") (by decide +kernel)) (fun _ h9 => h9) dX3_numberOfOrder_56 ?_
                                refine lv_iload_n hx hb dX3_numberOfOrder_59 rfl (lv_at hl 2 rfl) ?_
                                refine va_ti (v := .int 120) hx hb hE.2.1 hS (by simp only [vp_in]; decide) rfl dX3_numberOfOrder_60 ?_
                                refine lv_imul hx hb dX3_numberOfOrder_61 ?_
                                refine lv_topi (fun z_86 ez_86 => ?_)
                                obtain rfl : z_86 = 0 := ez_86.trans (by first | rfl | decide +kernel)
                                refine lv_iadd hx hb dX3_numberOfOrder_62 ?_
                                refine lv_topi (fun z_87 ez_87 => ?_)
                                obtain rfl : z_87 = 0 := ez_87.trans (by first | rfl | decide +kernel)
                                refine lv_istore_n (lv' := [(1, .int 0), (4, .int 5), (3, .int 0), (2, .int 5), (0, .ref x_paper)]) hx hb dX3_numberOfOrder_63 rfl hl (by decide) rfl (fun ls hl => ?_)
                                refine lv_iinc (v := 6) (lv' := [(2, .int 6), (1, .int 0), (4, .int 5), (3, .int 0), (0, .ref x_paper)]) hx hb dX3_numberOfOrder_64 hl (k := 3) rfl (by decide) (by decide) rfl (fun ls hl => ?_)
                                refine lv_goto (tgt := 4) hx hb dX3_numberOfOrder_67 (by decide) ?_
                                refine lv_iload_n hx hb dX3_numberOfOrder_4 rfl (lv_at hl 0 rfl) ?_
                                refine lv_bipush (v := 6) hx hb dX3_numberOfOrder_5 (by decide) ?_
                                refine lv_icmp_ge (tgt := 70) hx hb dX3_numberOfOrder_7 (by decide) (fun _ => ?_) (fun h => absurd (by decide) h)
                                refine lv_iload_n hx hb dX3_numberOfOrder_70 rfl (lv_at hl 1 rfl) ?_
                                exact kz_iret hx hb hr hlocks hP hK hD hS dX3_numberOfOrder_71 ⟨rfl, rfl⟩
                              · exact absurd c_84 (by decide)
                            · exact absurd c_79 (by decide)
                          · exact absurd c_74 (by decide)
                        · exact absurd c_69 (by decide)
                      · exact absurd c_64 (by decide)
                    · exact absurd c_57 (by decide)
                  · exact absurd c_52 (by decide)
                · exact absurd c_47 (by decide)
              · exact absurd c_42 (by decide)
            · exact absurd c_35 (by decide)
          · exact absurd c_30 (by decide)
        · exact absurd c_25 (by decide)
      · exact absurd c_18 (by decide)
    · exact absurd c_13 (by decide)
  · exact absurd c_6 (by decide)

set_option maxHeartbeats 4000000 in
set_option maxRecDepth 100000 in
theorem kX3_fits_113 (l : Launch) (D : va_G) (ty : Nat → ClassId) (eo : Nat → Nat) (sz : Nat) (x_paper x_paper_ranks x_paper_digits x_paper_barred x_paper_pays x_paper_measuredBarred x_paper_buckets q_5 q_6 q_7 q_1 q_2 q_3 q_4 : Nat) : Met l yX3_fits wsX3_fits ({ frames := 0, cells := 0, slots := 0, locals := 0 }) (va_Pc [.ref x_paper, .int 0, .int 1, .int 0] (kz_pre D ty eo [(x_paper, .inr (3, [.ref x_paper_ranks, .ref x_paper_digits, .ref x_paper_barred, .ref x_paper_pays, .ref x_paper_measuredBarred, .ref x_paper_buckets, .ref q_5, .ref q_6, .ref q_7, .ref q_1, .ref q_2, .ref q_3, .ref q_4, .int 0, .int 1, .int 0, .int 0, .int (-1), .int (-1), .int 1]))] sz)) (va_Qi (fun (r : Int32) (u : va_W) => 1 = r ∧ [(x_paper, .inr (3, [.ref x_paper_ranks, .ref x_paper_digits, .ref x_paper_barred, .ref x_paper_pays, .ref x_paper_measuredBarred, .ref x_paper_buckets, .ref q_5, .ref q_6, .ref q_7, .ref q_1, .ref q_2, .ref q_3, .ref q_4, .int 0, .int 1, .int 0, .int 0, .int (-1), .int (-1), .int 1]))] = u) (kz_B D ty (va_A [(x_paper, .inr (3, [.ref x_paper_ranks, .ref x_paper_digits, .ref x_paper_barred, .ref x_paper_pays, .ref x_paper_measuredBarred, .ref x_paper_buckets, .ref q_5, .ref q_6, .ref q_7, .ref q_1, .ref q_2, .ref q_3, .ref q_4, .int 0, .int 1, .int 0, .int 0, .int (-1), .int (-1), .int 1]))] sz)) (va_A [(x_paper, .inr (3, [.ref x_paper_ranks, .ref x_paper_digits, .ref x_paper_barred, .ref x_paper_pays, .ref x_paper_measuredBarred, .ref x_paper_buckets, .ref q_5, .ref q_6, .ref q_7, .ref q_1, .ref q_2, .ref q_3, .ref q_4, .int 0, .int 1, .int 0, .int 0, .int (-1), .int (-1), .int 1]))] sz)) 0 0 (va_A [(x_paper, .inr (3, [.ref x_paper_ranks, .ref x_paper_digits, .ref x_paper_barred, .ref x_paper_pays, .ref x_paper_measuredBarred, .ref x_paper_buckets, .ref q_5, .ref q_6, .ref q_7, .ref q_1, .ref q_2, .ref q_3, .ref q_4, .int 0, .int 1, .int 0, .int 0, .int (-1), .int (-1), .int 1]))] sz) := by
  refine Met.ofW (cc := cX3_fits) (maxL := 5) (ret := (some .boolean)) (by decide) rfl ?_
  intro p e s m args below meth c s₁ B hml hv
  obtain ⟨rfl, hsz, hP, hK, hD0, hN, hE⟩ := hv
  have hx := B.exec
  have hb := B.bytes
  have hr := B.returns
  have hts := atoms_spec (ws := wsX3_fits) B.pre
  have hown : s.vm.findClass RX3 = some m.cls := findClass_of_methodNamed B.named
  have hlocks := B.notSynchronized
  subst hsz
  have hD := hD0.self (sz := s.heap.size)
  generalize hAe : va_A [(x_paper, .inr (3, [.ref x_paper_ranks, .ref x_paper_digits, .ref x_paper_barred, .ref x_paper_pays, .ref x_paper_measuredBarred, .ref x_paper_buckets, .ref q_5, .ref q_6, .ref q_7, .ref q_1, .ref q_2, .ref q_3, .ref q_4, .int 0, .int 1, .int 0, .int 0, .int (-1), .int (-1), .int 1]))] s.heap.size = A at hD hE ⊢
  have hA : ∀ q : Nat, s.heap.size ≤ q → A q := fun q h => by rw [← hAe]; exact Or.inr h
  have hS : va_S A s.heap s.heap [] := va_S.rf
  have hl := lv_entry ([.ref x_paper, .int 0, .int 1, .int 0]) (n := 5) (Nat.le_of_ble_eq_true rfl)
  rw [lg_entry_eq]
  generalize (lg_sl ([.ref x_paper, .int 0, .int 1, .int 0]) ++ List.replicate (5 - (lg_sl ([.ref x_paper, .int 0, .int 1, .int 0])).length) Slot.unset).toArray = ls at hl ⊢
  have hl : lv_has ls 5 [(0, .ref x_paper), (1, .int 0), (2, .int 1), (3, .int 0)] := hl
  refine lv_iload_n hx hb dX3_fits_0 rfl (lv_at hl 1 rfl) ?_
  refine lv_aload_n hx hb dX3_fits_1 rfl (lv_at hl 0 rfl) ?_
  refine va_get (D := D) (ci := 3) (v := .int 0) (C := RX3) (T := TX3) (N := 20) hx hb hts (by decide +kernel) hown hK hP 0 rfl rfl 13 (by decide) (hts (.fieldLink RX3 51 "TurnedFloors$Paper" "floors" "I") (by decide +kernel)) (fun _ h9 => h9) rfl dX3_fits_2 ?_
  refine lv_ishr hx hb dX3_fits_5 ?_
  refine lv_topi (fun z_1 ez_1 => ?_)
  obtain rfl : z_1 = 0 := ez_1.trans (by first | rfl | decide +kernel)
  refine lv_istore (lv' := [(4, .int 0), (0, .ref x_paper), (1, .int 0), (2, .int 1), (3, .int 0)]) hx hb dX3_fits_6 hl (by decide) rfl (fun ls hl => ?_)
  refine lv_iload_n hx hb dX3_fits_8 rfl (lv_at hl 3 rfl) ?_
  refine lv_iconst (v := 1) hx hb dX3_fits_9 (by decide) ?_
  refine lv_icmp_ne (tgt := 25) hx hb dX3_fits_10 (by decide) (fun h => absurd (by decide) h) (fun _ => ?_)
  refine lv_iload hx hb dX3_fits_13 (lv_at hl 0 rfl) ?_
  refine lv_iload_n hx hb dX3_fits_15 rfl (lv_at hl 4 rfl) ?_
  refine lv_icmp_ne (tgt := 23) hx hb dX3_fits_16 (by decide) (fun h => absurd (by decide) h) (fun _ => ?_)
  refine lv_iconst (v := 1) hx hb dX3_fits_19 (by decide) ?_
  refine lv_goto (tgt := 24) hx hb dX3_fits_20 (by decide) ?_
  exact kz_zret hx hb hr hlocks rfl hP hK hD hS dX3_fits_24 ⟨rfl, rfl⟩

set_option maxHeartbeats 4000000 in
set_option maxRecDepth 100000 in
theorem kX3_nearest_112 (l : Launch) (D : va_G) (ty : Nat → ClassId) (eo : Nat → Nat) (sz : Nat) (x_paper x_paper_ranks x_paper_digits x_paper_barred x_paper_pays x_paper_measuredBarred x_paper_buckets q_5 q_6 q_7 q_1 q_2 q_3 q_4 : Nat) : Met l yX3_nearest wsX3_nearest ({ frames := 1, cells := 0, slots := 0, locals := 24 }) (va_Pc [.ref x_paper, .int 1, .int 0] (kz_pre D ty eo [(x_paper, .inr (3, [.ref x_paper_ranks, .ref x_paper_digits, .ref x_paper_barred, .ref x_paper_pays, .ref x_paper_measuredBarred, .ref x_paper_buckets, .ref q_5, .ref q_6, .ref q_7, .ref q_1, .ref q_2, .ref q_3, .ref q_4, .int 0, .int 1, .int 0, .int 0, .int (-1), .int (-1), .int 0])), (q_2, .inl (ty 0, 1, .inl (fun _ => 0))), (q_3, .inl (ty 0, 1, .inl (fun _ => 0)))] sz)) (va_Qi (fun (r : Int32) (u : va_W) => 0 = r ∧ [(q_3, .inl (ty 0, 1, .inl (upd (fun _ => 0) 0 0))), (q_2, .inl (ty 0, 1, .inl (upd (kz_fl (fun _ => 0) 1 (-1)) 0 0))), (x_paper, .inr (3, [.ref x_paper_ranks, .ref x_paper_digits, .ref x_paper_barred, .ref x_paper_pays, .ref x_paper_measuredBarred, .ref x_paper_buckets, .ref q_5, .ref q_6, .ref q_7, .ref q_1, .ref q_2, .ref q_3, .ref q_4, .int 0, .int 1, .int 0, .int 0, .int (-1), .int (-1), .int 1]))] = u) (kz_B D ty (va_A [(x_paper, .inr (3, [.ref x_paper_ranks, .ref x_paper_digits, .ref x_paper_barred, .ref x_paper_pays, .ref x_paper_measuredBarred, .ref x_paper_buckets, .ref q_5, .ref q_6, .ref q_7, .ref q_1, .ref q_2, .ref q_3, .ref q_4, .int 0, .int 1, .int 0, .int 0, .int (-1), .int (-1), .int 0])), (q_2, .inl (ty 0, 1, .inl (fun _ => 0))), (q_3, .inl (ty 0, 1, .inl (fun _ => 0)))] sz)) (va_A [(x_paper, .inr (3, [.ref x_paper_ranks, .ref x_paper_digits, .ref x_paper_barred, .ref x_paper_pays, .ref x_paper_measuredBarred, .ref x_paper_buckets, .ref q_5, .ref q_6, .ref q_7, .ref q_1, .ref q_2, .ref q_3, .ref q_4, .int 0, .int 1, .int 0, .int 0, .int (-1), .int (-1), .int 0])), (q_2, .inl (ty 0, 1, .inl (fun _ => 0))), (q_3, .inl (ty 0, 1, .inl (fun _ => 0)))] sz)) 0 0 (va_A [(x_paper, .inr (3, [.ref x_paper_ranks, .ref x_paper_digits, .ref x_paper_barred, .ref x_paper_pays, .ref x_paper_measuredBarred, .ref x_paper_buckets, .ref q_5, .ref q_6, .ref q_7, .ref q_1, .ref q_2, .ref q_3, .ref q_4, .int 0, .int 1, .int 0, .int 0, .int (-1), .int (-1), .int 0])), (q_2, .inl (ty 0, 1, .inl (fun _ => 0))), (q_3, .inl (ty 0, 1, .inl (fun _ => 0)))] sz) := by
  refine Met.ofW (cc := cX3_nearest) (maxL := 7) (ret := (some .int)) (by decide) rfl ?_
  intro p e s m args below meth c s₁ B hml hv
  obtain ⟨rfl, hsz, hP, hK, hD0, hN, hE⟩ := hv
  have hx := B.exec
  have hb := B.bytes
  have hr := B.returns
  have hts := atoms_spec (ws := wsX3_nearest) B.pre
  have hown : s.vm.findClass RX3 = some m.cls := findClass_of_methodNamed B.named
  have hlocks := B.notSynchronized
  subst hsz
  have hD := hD0.self (sz := s.heap.size)
  generalize hAe : va_A [(x_paper, .inr (3, [.ref x_paper_ranks, .ref x_paper_digits, .ref x_paper_barred, .ref x_paper_pays, .ref x_paper_measuredBarred, .ref x_paper_buckets, .ref q_5, .ref q_6, .ref q_7, .ref q_1, .ref q_2, .ref q_3, .ref q_4, .int 0, .int 1, .int 0, .int 0, .int (-1), .int (-1), .int 0])), (q_2, .inl (ty 0, 1, .inl (fun _ => 0))), (q_3, .inl (ty 0, 1, .inl (fun _ => 0)))] s.heap.size = A at hD hE ⊢
  have hA : ∀ q : Nat, s.heap.size ≤ q → A q := fun q h => by rw [← hAe]; exact Or.inr h
  have hS : va_S A s.heap s.heap [] := va_S.rf
  have hl := lv_entry ([.ref x_paper, .int 1, .int 0]) (n := 7) (Nat.le_of_ble_eq_true rfl)
  rw [lg_entry_eq]
  generalize (lg_sl ([.ref x_paper, .int 1, .int 0]) ++ List.replicate (7 - (lg_sl ([.ref x_paper, .int 1, .int 0])).length) Slot.unset).toArray = ls at hl ⊢
  have hl : lv_has ls 7 [(0, .ref x_paper), (1, .int 1), (2, .int 0)] := hl
  refine lv_aload_n hx hb dX3_nearest_0 rfl (lv_at hl 0 rfl) ?_
  refine va_get (D := D) (ci := 3) (v := .ref q_2) (C := RX3) (T := TX3) (N := 20) hx hb hts (by decide +kernel) hown hK hP 0 rfl rfl 10 (by decide) (hts (.fieldLink RX3 42 "TurnedFloors$Paper" "marks" "[I") (by decide +kernel)) (fun _ h9 => h9) rfl dX3_nearest_1 ?_
  refine lv_iconst (v := (-1)) hx hb dX3_nearest_4 (by decide) ?_
  refine kz_kv (wc := [(q_2, .inl (ty 0, 1, .inl (fun _ => 0)))]) (wr := [(x_paper, .inr (3, [.ref x_paper_ranks, .ref x_paper_digits, .ref x_paper_barred, .ref x_paper_pays, .ref x_paper_measuredBarred, .ref x_paper_buckets, .ref q_5, .ref q_6, .ref q_7, .ref q_1, .ref q_2, .ref q_3, .ref q_4, .int 0, .int 1, .int 0, .int 0, .int (-1), .int (-1), .int 0])), (q_3, .inl (ty 0, 1, .inl (fun _ => 0)))]) (va_runS (As := [.ref q_2, .int (-1)]) (rest := []) ⟨hx, hb, hml, hown, hts⟩ (cJ7_fillI l D ty eo _ q_2 1 (fun _ => 0) (-1) (by decide)) (va_cwS 2 hts gX3_nearest_J7_fill_53178 rfl rfl rfl (by decide +kernel) ⟨Nat.le_of_ble_eq_true rfl, Nat.le_of_ble_eq_true rfl⟩) (kz_preS hK hN hE hP hD hS hA [1] (by decide) rfl) rfl rfl hl.1 rfl (lv_room (Nat.le_of_ble_eq_true rfl)) dX3_nearest_5 ⟨Nat.le_of_ble_eq_true rfl, Nat.le_of_ble_eq_true rfl⟩) hP hD hS hA [1] [0, 2] rfl rfl (by decide) (by decide) (fun u H locs hw hP hD hS => ?_)
  obtain rfl := hw
  have hP : va_P D vwCl [(x_paper, .inr (3, [.ref x_paper_ranks, .ref x_paper_digits, .ref x_paper_barred, .ref x_paper_pays, .ref x_paper_measuredBarred, .ref x_paper_buckets, .ref q_5, .ref q_6, .ref q_7, .ref q_1, .ref q_2, .ref q_3, .ref q_4, .int 0, .int 1, .int 0, .int 0, .int (-1), .int (-1), .int 0])), (q_3, .inl (ty 0, 1, .inl (fun _ => 0))), (q_2, .inl (ty 0, 1, .inl (kz_fl (fun _ => 0) 1 (-1))))] H := hP
  have hD : va_D A [(x_paper, .inr (3, [.ref x_paper_ranks, .ref x_paper_digits, .ref x_paper_barred, .ref x_paper_pays, .ref x_paper_measuredBarred, .ref x_paper_buckets, .ref q_5, .ref q_6, .ref q_7, .ref q_1, .ref q_2, .ref q_3, .ref q_4, .int 0, .int 1, .int 0, .int 0, .int (-1), .int (-1), .int 0])), (q_3, .inl (ty 0, 1, .inl (fun _ => 0))), (q_2, .inl (ty 0, 1, .inl (kz_fl (fun _ => 0) 1 (-1))))] := hD
  refine lv_aload_n hx hb dX3_nearest_8 rfl (lv_at hl 0 rfl) ?_
  refine va_get (D := D) (ci := 3) (v := .ref q_2) (C := RX3) (T := TX3) (N := 20) hx hb hts (by decide +kernel) hown hK hP 0 rfl rfl 10 (by decide) (hts (.fieldLink RX3 42 "TurnedFloors$Paper" "marks" "[I") (by decide +kernel)) (fun _ h9 => h9) rfl dX3_nearest_9 ?_
  refine lv_aload_n hx hb dX3_nearest_12 rfl (lv_at hl 0 rfl) ?_
  refine va_get (D := D) (ci := 3) (v := .int 0) (C := RX3) (T := TX3) (N := 20) hx hb hts (by decide +kernel) hown hK hP 0 rfl rfl 15 (by decide) (hts (.fieldLink RX3 58 "TurnedFloors$Paper" "start" "I") (by decide +kernel)) (fun _ h9 => h9) rfl dX3_nearest_13 ?_
  refine lv_iconst (v := 0) hx hb dX3_nearest_16 (by decide) ?_
  refine va_iast hx hb hK hP hD hS 2 0 rfl rfl (by simp only [vp_in]; decide) dX3_nearest_17 (fun H locs hP hD hS => ?_)
  have hP : va_P D vwCl [(x_paper, .inr (3, [.ref x_paper_ranks, .ref x_paper_digits, .ref x_paper_barred, .ref x_paper_pays, .ref x_paper_measuredBarred, .ref x_paper_buckets, .ref q_5, .ref q_6, .ref q_7, .ref q_1, .ref q_2, .ref q_3, .ref q_4, .int 0, .int 1, .int 0, .int 0, .int (-1), .int (-1), .int 0])), (q_3, .inl (ty 0, 1, .inl (fun _ => 0))), (q_2, .inl (ty 0, 1, .inl (upd (kz_fl (fun _ => 0) 1 (-1)) 0 0)))] H := hP
  have hD : va_D A [(x_paper, .inr (3, [.ref x_paper_ranks, .ref x_paper_digits, .ref x_paper_barred, .ref x_paper_pays, .ref x_paper_measuredBarred, .ref x_paper_buckets, .ref q_5, .ref q_6, .ref q_7, .ref q_1, .ref q_2, .ref q_3, .ref q_4, .int 0, .int 1, .int 0, .int 0, .int (-1), .int (-1), .int 0])), (q_3, .inl (ty 0, 1, .inl (fun _ => 0))), (q_2, .inl (ty 0, 1, .inl (upd (kz_fl (fun _ => 0) 1 (-1)) 0 0)))] := hD
  refine lv_aload_n hx hb dX3_nearest_18 rfl (lv_at hl 0 rfl) ?_
  refine va_get (D := D) (ci := 3) (v := .ref q_3) (C := RX3) (T := TX3) (N := 20) hx hb hts (by decide +kernel) hown hK hP 0 rfl rfl 11 (by decide) (hts (.fieldLink RX3 45 "TurnedFloors$Paper" "line" "[I") (by decide +kernel)) (fun _ h9 => h9) rfl dX3_nearest_19 ?_
  refine lv_iconst (v := 0) hx hb dX3_nearest_22 (by decide) ?_
  refine lv_aload_n hx hb dX3_nearest_23 rfl (lv_at hl 0 rfl) ?_
  refine va_get (D := D) (ci := 3) (v := .int 0) (C := RX3) (T := TX3) (N := 20) hx hb hts (by decide +kernel) hown hK hP 0 rfl rfl 15 (by decide) (hts (.fieldLink RX3 58 "TurnedFloors$Paper" "start" "I") (by decide +kernel)) (fun _ h9 => h9) rfl dX3_nearest_24 ?_
  refine va_iast hx hb hK hP hD hS 1 0 rfl rfl (by simp only [vp_in]; decide) dX3_nearest_27 (fun H locs hP hD hS => ?_)
  have hP : va_P D vwCl [(x_paper, .inr (3, [.ref x_paper_ranks, .ref x_paper_digits, .ref x_paper_barred, .ref x_paper_pays, .ref x_paper_measuredBarred, .ref x_paper_buckets, .ref q_5, .ref q_6, .ref q_7, .ref q_1, .ref q_2, .ref q_3, .ref q_4, .int 0, .int 1, .int 0, .int 0, .int (-1), .int (-1), .int 0])), (q_3, .inl (ty 0, 1, .inl (upd (fun _ => 0) 0 0))), (q_2, .inl (ty 0, 1, .inl (upd (kz_fl (fun _ => 0) 1 (-1)) 0 0)))] H := hP
  have hD : va_D A [(x_paper, .inr (3, [.ref x_paper_ranks, .ref x_paper_digits, .ref x_paper_barred, .ref x_paper_pays, .ref x_paper_measuredBarred, .ref x_paper_buckets, .ref q_5, .ref q_6, .ref q_7, .ref q_1, .ref q_2, .ref q_3, .ref q_4, .int 0, .int 1, .int 0, .int 0, .int (-1), .int (-1), .int 0])), (q_3, .inl (ty 0, 1, .inl (upd (fun _ => 0) 0 0))), (q_2, .inl (ty 0, 1, .inl (upd (kz_fl (fun _ => 0) 1 (-1)) 0 0)))] := hD
  refine lv_aload_n hx hb dX3_nearest_28 rfl (lv_at hl 0 rfl) ?_
  refine lv_iconst (v := 1) hx hb dX3_nearest_29 (by decide) ?_
  refine va_put (D := D) (ci := 3) (v := .int 1) (ty := .int) (C := RX3) (T := TX3) (N := 20) hx hb hts (by decide +kernel) tyX3 tyX3_ok nmX3 hown hK hP hD hS 0 rfl rfl 19 (by decide) (hts (.fieldLink RX3 70 "TurnedFloors$Paper" "visited" "I") (by decide +kernel)) (fun _ h9 => h9) rfl (by decide +kernel) rfl rfl (Nat.le_of_ble_eq_true rfl) dX3_nearest_30 (fun H locs hP hD hS => ?_)
  have hP : va_P D vwCl [(x_paper, .inr (3, [.ref x_paper_ranks, .ref x_paper_digits, .ref x_paper_barred, .ref x_paper_pays, .ref x_paper_measuredBarred, .ref x_paper_buckets, .ref q_5, .ref q_6, .ref q_7, .ref q_1, .ref q_2, .ref q_3, .ref q_4, .int 0, .int 1, .int 0, .int 0, .int (-1), .int (-1), .int 1])), (q_3, .inl (ty 0, 1, .inl (upd (fun _ => 0) 0 0))), (q_2, .inl (ty 0, 1, .inl (upd (kz_fl (fun _ => 0) 1 (-1)) 0 0)))] H := hP
  have hD : va_D A [(x_paper, .inr (3, [.ref x_paper_ranks, .ref x_paper_digits, .ref x_paper_barred, .ref x_paper_pays, .ref x_paper_measuredBarred, .ref x_paper_buckets, .ref q_5, .ref q_6, .ref q_7, .ref q_1, .ref q_2, .ref q_3, .ref q_4, .int 0, .int 1, .int 0, .int 0, .int (-1), .int (-1), .int 1])), (q_3, .inl (ty 0, 1, .inl (upd (fun _ => 0) 0 0))), (q_2, .inl (ty 0, 1, .inl (upd (kz_fl (fun _ => 0) 1 (-1)) 0 0)))] := hD
  refine lv_iconst (v := 0) hx hb dX3_nearest_33 (by decide) ?_
  refine lv_istore_n (lv' := [(3, .int 0), (0, .ref x_paper), (1, .int 1), (2, .int 0)]) hx hb dX3_nearest_34 rfl hl (by decide) rfl (fun ls hl => ?_)
  refine lv_iload_n hx hb dX3_nearest_35 rfl (lv_at hl 0 rfl) ?_
  refine lv_aload_n hx hb dX3_nearest_36 rfl (lv_at hl 1 rfl) ?_
  refine va_get (D := D) (ci := 3) (v := .int 1) (C := RX3) (T := TX3) (N := 20) hx hb hts (by decide +kernel) hown hK hP 0 rfl rfl 14 (by decide) (hts (.fieldLink RX3 55 "TurnedFloors$Paper" "size" "I") (by decide +kernel)) (fun _ h9 => h9) rfl dX3_nearest_37 ?_
  refine lv_icmp_ge (tgt := 187) hx hb dX3_nearest_40 (by decide) (fun h => absurd h (by decide)) (fun _ => ?_)
  refine lv_iload_n hx hb dX3_nearest_43 rfl (lv_at hl 0 rfl) ?_
  refine lv_aload_n hx hb dX3_nearest_44 rfl (lv_at hl 1 rfl) ?_
  refine va_get (D := D) (ci := 3) (v := .int 1) (C := RX3) (T := TX3) (N := 20) hx hb hts (by decide +kernel) hown hK hP 0 rfl rfl 19 (by decide) (hts (.fieldLink RX3 70 "TurnedFloors$Paper" "visited" "I") (by decide +kernel)) (fun _ h9 => h9) rfl dX3_nearest_45 ?_
  refine lv_icmp_ge (tgt := 187) hx hb dX3_nearest_48 (by decide) (fun h => absurd h (by decide)) (fun _ => ?_)
  refine lv_aload_n hx hb dX3_nearest_51 rfl (lv_at hl 1 rfl) ?_
  refine va_get (D := D) (ci := 3) (v := .ref q_3) (C := RX3) (T := TX3) (N := 20) hx hb hts (by decide +kernel) hown hK hP 0 rfl rfl 11 (by decide) (hts (.fieldLink RX3 45 "TurnedFloors$Paper" "line" "[I") (by decide +kernel)) (fun _ h9 => h9) rfl dX3_nearest_52 ?_
  refine lv_iload_n hx hb dX3_nearest_55 rfl (lv_at hl 0 rfl) ?_
  refine va_iald hx hb hK hP 1 0 rfl rfl (by simp only [vp_in]; decide) dX3_nearest_56 ?_
  refine lv_topi (fun z_1 ez_1 => ?_)
  obtain rfl : z_1 = 0 := ez_1.trans (by first | rfl | decide +kernel)
  refine lv_istore (lv' := [(4, .int 0), (3, .int 0), (0, .ref x_paper), (1, .int 1), (2, .int 0)]) hx hb dX3_nearest_57 hl (by decide) rfl (fun ls hl => ?_)
  refine lv_aload_n hx hb dX3_nearest_59 rfl (lv_at hl 2 rfl) ?_
  refine lv_iload hx hb dX3_nearest_60 (lv_at hl 0 rfl) ?_
  refine lv_iload_n hx hb dX3_nearest_62 rfl (lv_at hl 3 rfl) ?_
  refine lv_iload_n hx hb dX3_nearest_63 rfl (lv_at hl 4 rfl) ?_
  refine kz_ki (wc := [(x_paper, .inr (3, [.ref x_paper_ranks, .ref x_paper_digits, .ref x_paper_barred, .ref x_paper_pays, .ref x_paper_measuredBarred, .ref x_paper_buckets, .ref q_5, .ref q_6, .ref q_7, .ref q_1, .ref q_2, .ref q_3, .ref q_4, .int 0, .int 1, .int 0, .int 0, .int (-1), .int (-1), .int 1]))]) (wr := [(q_3, .inl (ty 0, 1, .inl (upd (fun _ => 0) 0 0))), (q_2, .inl (ty 0, 1, .inl (upd (kz_fl (fun _ => 0) 1 (-1)) 0 0)))]) (va_runV (As := [.int 0, .int 1, .int 0]) (rest := []) ⟨hx, hb, hml, hown, hts⟩ (kX3_fits_113 l D ty eo _ x_paper x_paper_ranks x_paper_digits x_paper_barred x_paper_pays x_paper_measuredBarred x_paper_buckets q_5 q_6 q_7 q_1 q_2 q_3 q_4) (cwV 3 hts gX3_nearest_X3_fits rfl rfl rfl (by decide +kernel) ⟨Nat.le_of_ble_eq_true rfl, Nat.le_of_ble_eq_true rfl⟩) (kz_preV (ci := 3) (q0 := 0) hK hN hE hP hD hS hA rfl rfl [0] (by decide) rfl) rfl rfl hl.1 rfl (lv_room (Nat.le_of_ble_eq_true rfl)) dX3_nearest_64 ⟨Nat.le_of_ble_eq_true rfl, Nat.le_of_ble_eq_true rfl⟩) hP hD hS hA [0] [1, 2] rfl rfl (by decide) (by decide) (fun r u H locs hw hP hD hS => ?_)
  obtain ⟨rfl, rfl⟩ := hw
  have hP : va_P D vwCl [(q_3, .inl (ty 0, 1, .inl (upd (fun _ => 0) 0 0))), (q_2, .inl (ty 0, 1, .inl (upd (kz_fl (fun _ => 0) 1 (-1)) 0 0))), (x_paper, .inr (3, [.ref x_paper_ranks, .ref x_paper_digits, .ref x_paper_barred, .ref x_paper_pays, .ref x_paper_measuredBarred, .ref x_paper_buckets, .ref q_5, .ref q_6, .ref q_7, .ref q_1, .ref q_2, .ref q_3, .ref q_4, .int 0, .int 1, .int 0, .int 0, .int (-1), .int (-1), .int 1]))] H := hP
  have hD : va_D A [(q_3, .inl (ty 0, 1, .inl (upd (fun _ => 0) 0 0))), (q_2, .inl (ty 0, 1, .inl (upd (kz_fl (fun _ => 0) 1 (-1)) 0 0))), (x_paper, .inr (3, [.ref x_paper_ranks, .ref x_paper_digits, .ref x_paper_barred, .ref x_paper_pays, .ref x_paper_measuredBarred, .ref x_paper_buckets, .ref q_5, .ref q_6, .ref q_7, .ref q_1, .ref q_2, .ref q_3, .ref q_4, .int 0, .int 1, .int 0, .int 0, .int (-1), .int (-1), .int 1]))] := hD
  refine lv_if_eq (tgt := 78) hx hb dX3_nearest_67 (by decide) (fun h => absurd h (by decide)) (fun _ => ?_)
  refine lv_aload_n hx hb dX3_nearest_70 rfl (lv_at hl 2 rfl) ?_
  refine va_get (D := D) (ci := 3) (v := .ref q_2) (C := RX3) (T := TX3) (N := 20) hx hb hts (by decide +kernel) hown hK hP 2 rfl rfl 10 (by decide) (hts (.fieldLink RX3 42 "TurnedFloors$Paper" "marks" "[I") (by decide +kernel)) (fun _ h9 => h9) rfl dX3_nearest_71 ?_
  refine lv_iload hx hb dX3_nearest_74 (lv_at hl 0 rfl) ?_
  refine va_iald hx hb hK hP 1 0 rfl rfl (by simp only [vp_in]; decide) dX3_nearest_76 ?_
  refine lv_topi (fun z_2 ez_2 => ?_)
  obtain rfl : z_2 = 0 := ez_2.trans (by first | rfl | decide +kernel)
  exact kz_iret hx hb hr hlocks hP hK hD hS dX3_nearest_77 ⟨rfl, rfl⟩

set_option maxHeartbeats 4000000 in
set_option maxRecDepth 100000 in
theorem kX3_turnsToNumber_110 (l : Launch) (D : va_G) (ty : Nat → ClassId) (eo : Nat → Nat) (sz : Nat) (x_paper : Nat) (a1 : Int32) (x_paper_ranks x_paper_digits x_paper_barred x_paper_pays x_paper_measuredBarred x_paper_buckets q_5 q_6 q_7 q_1 q_2 q_3 q_4 : Nat) : Met l yX3_turnsToNumber wsX3_turnsToNumber ({ frames := 2, cells := 0, slots := 0, locals := 50 }) (va_Pc [.ref x_paper, .int a1] (kz_pre D ty eo [(x_paper, .inr (3, [.ref x_paper_ranks, .ref x_paper_digits, .ref x_paper_barred, .ref x_paper_pays, .ref x_paper_measuredBarred, .ref x_paper_buckets, .ref q_5, .ref q_6, .ref q_7, .ref q_1, .ref q_2, .ref q_3, .ref q_4, .int 0, .int 1, .int 0, .int 0, .int (-1), .int (-1), .int 0])), (x_paper_digits, .inl (ty 0, 6, .inl (upd (upd (upd (upd (upd (upd (upd (upd (upd (upd (upd (upd (upd (upd (upd (upd (upd (upd (upd (upd (upd (upd (upd (upd (upd (upd (upd (fun _ => 0) 0 0) 0 0) 1 1) 0 0) 1 1) 2 2) 0 0) 1 1) 2 2) 3 3) 0 0) 1 1) 2 2) 3 3) 4 4) 0 0) 1 1) 2 2) 3 3) 4 4) 5 5) 0 0) 1 1) 2 2) 3 3) 4 4) 5 5))), (q_2, .inl (ty 0, 1, .inl (fun _ => 0))), (q_3, .inl (ty 0, 1, .inl (fun _ => 0)))] sz)) (va_Qi (fun (r : Int32) (u : va_W) => (0 ≤ a1 ∧ ¬ a1 = 0 ∧ (-1) = r ∧ [(x_paper, .inr (3, [.ref x_paper_ranks, .ref x_paper_digits, .ref x_paper_barred, .ref x_paper_pays, .ref x_paper_measuredBarred, .ref x_paper_buckets, .ref q_5, .ref q_6, .ref q_7, .ref q_1, .ref q_2, .ref q_3, .ref q_4, .int 0, .int 1, .int 0, .int 0, .int (-1), .int (-1), .int 0])), (x_paper_digits, .inl (ty 0, 6, .inl (upd (upd (upd (upd (upd (upd (upd (upd (upd (upd (upd (upd (upd (upd (upd (upd (upd (upd (upd (upd (upd (upd (upd (upd (upd (upd (upd (upd (upd (upd (upd (upd (upd (fun _ => 0) 0 0) 0 0) 1 1) 0 0) 1 1) 2 2) 0 0) 1 1) 2 2) 3 3) 0 0) 1 1) 2 2) 3 3) 4 4) 0 0) 1 1) 2 2) 3 3) 4 4) 5 5) 0 0) 1 1) 2 2) 3 3) 4 4) 5 5) 5 5) 4 4) 3 3) 2 2) 1 1) 0 0))), (q_2, .inl (ty 0, 1, .inl (fun _ => 0))), (q_3, .inl (ty 0, 1, .inl (fun _ => 0)))] = u) ∨ (0 ≤ a1 ∧ a1 = 0 ∧ 0 = r ∧ [(x_paper_digits, .inl (ty 0, 6, .inl (upd (upd (upd (upd (upd (upd (upd (upd (upd (upd (upd (upd (upd (upd (upd (upd (upd (upd (upd (upd (upd (upd (upd (upd (upd (upd (upd (upd (upd (upd (upd (upd (upd (fun _ => 0) 0 0) 0 0) 1 1) 0 0) 1 1) 2 2) 0 0) 1 1) 2 2) 3 3) 0 0) 1 1) 2 2) 3 3) 4 4) 0 0) 1 1) 2 2) 3 3) 4 4) 5 5) 0 0) 1 1) 2 2) 3 3) 4 4) 5 5) 5 5) 4 4) 3 3) 2 2) 1 1) 0 0))), (q_3, .inl (ty 0, 1, .inl (upd (fun _ => 0) 0 0))), (q_2, .inl (ty 0, 1, .inl (upd (kz_fl (fun _ => 0) 1 (-1)) 0 0))), (x_paper, .inr (3, [.ref x_paper_ranks, .ref x_paper_digits, .ref x_paper_barred, .ref x_paper_pays, .ref x_paper_measuredBarred, .ref x_paper_buckets, .ref q_5, .ref q_6, .ref q_7, .ref q_1, .ref q_2, .ref q_3, .ref q_4, .int 0, .int 1, .int 0, .int 0, .int (-1), .int (-1), .int 1]))] = u) ∨ (¬ 0 ≤ a1 ∧ (-1) = r ∧ [(x_paper, .inr (3, [.ref x_paper_ranks, .ref x_paper_digits, .ref x_paper_barred, .ref x_paper_pays, .ref x_paper_measuredBarred, .ref x_paper_buckets, .ref q_5, .ref q_6, .ref q_7, .ref q_1, .ref q_2, .ref q_3, .ref q_4, .int 0, .int 1, .int 0, .int 0, .int (-1), .int (-1), .int 0])), (x_paper_digits, .inl (ty 0, 6, .inl (upd (upd (upd (upd (upd (upd (upd (upd (upd (upd (upd (upd (upd (upd (upd (upd (upd (upd (upd (upd (upd (upd (upd (upd (upd (upd (upd (fun _ => 0) 0 0) 0 0) 1 1) 0 0) 1 1) 2 2) 0 0) 1 1) 2 2) 3 3) 0 0) 1 1) 2 2) 3 3) 4 4) 0 0) 1 1) 2 2) 3 3) 4 4) 5 5) 0 0) 1 1) 2 2) 3 3) 4 4) 5 5))), (q_2, .inl (ty 0, 1, .inl (fun _ => 0))), (q_3, .inl (ty 0, 1, .inl (fun _ => 0)))] = u)) (kz_B D ty (va_A [(x_paper, .inr (3, [.ref x_paper_ranks, .ref x_paper_digits, .ref x_paper_barred, .ref x_paper_pays, .ref x_paper_measuredBarred, .ref x_paper_buckets, .ref q_5, .ref q_6, .ref q_7, .ref q_1, .ref q_2, .ref q_3, .ref q_4, .int 0, .int 1, .int 0, .int 0, .int (-1), .int (-1), .int 0])), (x_paper_digits, .inl (ty 0, 6, .inl (upd (upd (upd (upd (upd (upd (upd (upd (upd (upd (upd (upd (upd (upd (upd (upd (upd (upd (upd (upd (upd (upd (upd (upd (upd (upd (upd (fun _ => 0) 0 0) 0 0) 1 1) 0 0) 1 1) 2 2) 0 0) 1 1) 2 2) 3 3) 0 0) 1 1) 2 2) 3 3) 4 4) 0 0) 1 1) 2 2) 3 3) 4 4) 5 5) 0 0) 1 1) 2 2) 3 3) 4 4) 5 5))), (q_2, .inl (ty 0, 1, .inl (fun _ => 0))), (q_3, .inl (ty 0, 1, .inl (fun _ => 0)))] sz)) (va_A [(x_paper, .inr (3, [.ref x_paper_ranks, .ref x_paper_digits, .ref x_paper_barred, .ref x_paper_pays, .ref x_paper_measuredBarred, .ref x_paper_buckets, .ref q_5, .ref q_6, .ref q_7, .ref q_1, .ref q_2, .ref q_3, .ref q_4, .int 0, .int 1, .int 0, .int 0, .int (-1), .int (-1), .int 0])), (x_paper_digits, .inl (ty 0, 6, .inl (upd (upd (upd (upd (upd (upd (upd (upd (upd (upd (upd (upd (upd (upd (upd (upd (upd (upd (upd (upd (upd (upd (upd (upd (upd (upd (upd (fun _ => 0) 0 0) 0 0) 1 1) 0 0) 1 1) 2 2) 0 0) 1 1) 2 2) 3 3) 0 0) 1 1) 2 2) 3 3) 4 4) 0 0) 1 1) 2 2) 3 3) 4 4) 5 5) 0 0) 1 1) 2 2) 3 3) 4 4) 5 5))), (q_2, .inl (ty 0, 1, .inl (fun _ => 0))), (q_3, .inl (ty 0, 1, .inl (fun _ => 0)))] sz)) 0 0 (va_A [(x_paper, .inr (3, [.ref x_paper_ranks, .ref x_paper_digits, .ref x_paper_barred, .ref x_paper_pays, .ref x_paper_measuredBarred, .ref x_paper_buckets, .ref q_5, .ref q_6, .ref q_7, .ref q_1, .ref q_2, .ref q_3, .ref q_4, .int 0, .int 1, .int 0, .int 0, .int (-1), .int (-1), .int 0])), (x_paper_digits, .inl (ty 0, 6, .inl (upd (upd (upd (upd (upd (upd (upd (upd (upd (upd (upd (upd (upd (upd (upd (upd (upd (upd (upd (upd (upd (upd (upd (upd (upd (upd (upd (fun _ => 0) 0 0) 0 0) 1 1) 0 0) 1 1) 2 2) 0 0) 1 1) 2 2) 3 3) 0 0) 1 1) 2 2) 3 3) 4 4) 0 0) 1 1) 2 2) 3 3) 4 4) 5 5) 0 0) 1 1) 2 2) 3 3) 4 4) 5 5))), (q_2, .inl (ty 0, 1, .inl (fun _ => 0))), (q_3, .inl (ty 0, 1, .inl (fun _ => 0)))] sz) := by
  refine Met.ofW (cc := cX3_turnsToNumber) (maxL := 5) (ret := (some .int)) (by decide) rfl ?_
  intro p e s m args below meth c s₁ B hml hv
  obtain ⟨rfl, hsz, hP, hK, hD0, hN, hE⟩ := hv
  have hx := B.exec
  have hb := B.bytes
  have hr := B.returns
  have hts := atoms_spec (ws := wsX3_turnsToNumber) B.pre
  have hown : s.vm.findClass RX3 = some m.cls := findClass_of_methodNamed B.named
  have hlocks := B.notSynchronized
  subst hsz
  have hD := hD0.self (sz := s.heap.size)
  generalize hAe : va_A [(x_paper, .inr (3, [.ref x_paper_ranks, .ref x_paper_digits, .ref x_paper_barred, .ref x_paper_pays, .ref x_paper_measuredBarred, .ref x_paper_buckets, .ref q_5, .ref q_6, .ref q_7, .ref q_1, .ref q_2, .ref q_3, .ref q_4, .int 0, .int 1, .int 0, .int 0, .int (-1), .int (-1), .int 0])), (x_paper_digits, .inl (ty 0, 6, .inl (upd (upd (upd (upd (upd (upd (upd (upd (upd (upd (upd (upd (upd (upd (upd (upd (upd (upd (upd (upd (upd (upd (upd (upd (upd (upd (upd (fun _ => 0) 0 0) 0 0) 1 1) 0 0) 1 1) 2 2) 0 0) 1 1) 2 2) 3 3) 0 0) 1 1) 2 2) 3 3) 4 4) 0 0) 1 1) 2 2) 3 3) 4 4) 5 5) 0 0) 1 1) 2 2) 3 3) 4 4) 5 5))), (q_2, .inl (ty 0, 1, .inl (fun _ => 0))), (q_3, .inl (ty 0, 1, .inl (fun _ => 0)))] s.heap.size = A at hD hE ⊢
  have hA : ∀ q : Nat, s.heap.size ≤ q → A q := fun q h => by rw [← hAe]; exact Or.inr h
  have hS : va_S A s.heap s.heap [] := va_S.rf
  have hl := lv_entry ([.ref x_paper, .int a1]) (n := 5) (Nat.le_of_ble_eq_true rfl)
  rw [lg_entry_eq]
  generalize (lg_sl ([.ref x_paper, .int a1]) ++ List.replicate (5 - (lg_sl ([.ref x_paper, .int a1])).length) Slot.unset).toArray = ls at hl ⊢
  have hl : lv_has ls 5 [(0, .ref x_paper), (1, .int a1)] := hl
  refine lv_iload_n hx hb dX3_turnsToNumber_0 rfl (lv_at hl 1 rfl) ?_
  refine lv_if_ge (tgt := 6) hx hb dX3_turnsToNumber_1 (by decide) (fun c_1 => ?_) (fun c_1 => ?_)
  · refine lv_iload_n hx hb dX3_turnsToNumber_6 rfl (lv_at hl 1 rfl) ?_
    refine lv_istore_n (lv' := [(2, .int a1), (0, .ref x_paper), (1, .int a1)]) hx hb dX3_turnsToNumber_7 rfl hl (by decide) rfl (fun ls hl => ?_)
    refine lv_iconst (v := 0) hx hb dX3_turnsToNumber_8 (by decide) ?_
    refine lv_istore_n (lv' := [(3, .int 0), (2, .int a1), (0, .ref x_paper), (1, .int a1)]) hx hb dX3_turnsToNumber_9 rfl hl (by decide) rfl (fun ls hl => ?_)
    refine lv_iconst (v := 5) hx hb dX3_turnsToNumber_10 (by decide) ?_
    refine lv_istore (lv' := [(4, .int 5), (3, .int 0), (2, .int a1), (0, .ref x_paper), (1, .int a1)]) hx hb dX3_turnsToNumber_11 hl (by decide) rfl (fun ls hl => ?_)
    refine lv_iload hx hb dX3_turnsToNumber_13 (lv_at hl 0 rfl) ?_
    refine lv_if_lt (tgt := 89) hx hb dX3_turnsToNumber_15 (by decide) (fun h => absurd h (by decide)) (fun _ => ?_)
    refine lv_aload_n hx hb dX3_turnsToNumber_18 rfl (lv_at hl 3 rfl) ?_
    refine va_get (D := D) (ci := 3) (v := .ref x_paper_digits) (C := RX3) (T := TX3) (N := 20) hx hb hts (by decide +kernel) hown hK hP 0 rfl rfl 1 (by decide) (hts (.fieldLink RX3 15 "TurnedFloors$Paper" "digits" "[I") (by decide +kernel)) (fun _ h9 => h9) rfl dX3_turnsToNumber_19 ?_
    refine lv_iload hx hb dX3_turnsToNumber_22 (lv_at hl 0 rfl) ?_
    refine lv_iload hx hb dX3_turnsToNumber_24 (lv_at hl 0 rfl) ?_
    refine va_iast hx hb hK hP hD hS 1 0 rfl rfl (by simp only [vp_in]; decide) dX3_turnsToNumber_26 (fun H locs hP hD hS => ?_)
    have hP : va_P D vwCl [(x_paper, .inr (3, [.ref x_paper_ranks, .ref x_paper_digits, .ref x_paper_barred, .ref x_paper_pays, .ref x_paper_measuredBarred, .ref x_paper_buckets, .ref q_5, .ref q_6, .ref q_7, .ref q_1, .ref q_2, .ref q_3, .ref q_4, .int 0, .int 1, .int 0, .int 0, .int (-1), .int (-1), .int 0])), (x_paper_digits, .inl (ty 0, 6, .inl (upd (upd (upd (upd (upd (upd (upd (upd (upd (upd (upd (upd (upd (upd (upd (upd (upd (upd (upd (upd (upd (upd (upd (upd (upd (upd (upd (upd (fun _ => 0) 0 0) 0 0) 1 1) 0 0) 1 1) 2 2) 0 0) 1 1) 2 2) 3 3) 0 0) 1 1) 2 2) 3 3) 4 4) 0 0) 1 1) 2 2) 3 3) 4 4) 5 5) 0 0) 1 1) 2 2) 3 3) 4 4) 5 5) 5 5))), (q_2, .inl (ty 0, 1, .inl (fun _ => 0))), (q_3, .inl (ty 0, 1, .inl (fun _ => 0)))] H := hP
    have hD : va_D A [(x_paper, .inr (3, [.ref x_paper_ranks, .ref x_paper_digits, .ref x_paper_barred, .ref x_paper_pays, .ref x_paper_measuredBarred, .ref x_paper_buckets, .ref q_5, .ref q_6, .ref q_7, .ref q_1, .ref q_2, .ref q_3, .ref q_4, .int 0, .int 1, .int 0, .int 0, .int (-1), .int (-1), .int 0])), (x_paper_digits, .inl (ty 0, 6, .inl (upd (upd (upd (upd (upd (upd (upd (upd (upd (upd (upd (upd (upd (upd (upd (upd (upd (upd (upd (upd (upd (upd (upd (upd (upd (upd (upd (upd (fun _ => 0) 0 0) 0 0) 1 1) 0 0) 1 1) 2 2) 0 0) 1 1) 2 2) 3 3) 0 0) 1 1) 2 2) 3 3) 4 4) 0 0) 1 1) 2 2) 3 3) 4 4) 5 5) 0 0) 1 1) 2 2) 3 3) 4 4) 5 5) 5 5))), (q_2, .inl (ty 0, 1, .inl (fun _ => 0))), (q_3, .inl (ty 0, 1, .inl (fun _ => 0)))] := hD
    refine lv_iload hx hb dX3_turnsToNumber_27 (lv_at hl 0 rfl) ?_
    refine lv_aload_n hx hb dX3_turnsToNumber_29 rfl (lv_at hl 3 rfl) ?_
    refine va_get (D := D) (ci := 3) (v := .int 0) (C := RX3) (T := TX3) (N := 20) hx hb hts (by decide +kernel) hown hK hP 0 rfl rfl 13 (by decide) (hts (.fieldLink RX3 51 "TurnedFloors$Paper" "floors" "I") (by decide +kernel)) (fun _ h9 => h9) rfl dX3_turnsToNumber_30 ?_
    refine lv_icmp_ge (tgt := 83) hx hb dX3_turnsToNumber_33 (by decide) (fun _ => ?_) (fun h => absurd (by decide) h)
    refine lv_iinc (v := 4) (lv' := [(4, .int 4), (3, .int 0), (2, .int a1), (0, .ref x_paper), (1, .int a1)]) hx hb dX3_turnsToNumber_83 hl (k := 0) rfl (by decide) (by decide) rfl (fun ls hl => ?_)
    refine lv_goto (tgt := 13) hx hb dX3_turnsToNumber_86 (by decide) ?_
    refine lv_iload hx hb dX3_turnsToNumber_13 (lv_at hl 0 rfl) ?_
    refine lv_if_lt (tgt := 89) hx hb dX3_turnsToNumber_15 (by decide) (fun h => absurd h (by decide)) (fun _ => ?_)
    refine lv_aload_n hx hb dX3_turnsToNumber_18 rfl (lv_at hl 3 rfl) ?_
    refine va_get (D := D) (ci := 3) (v := .ref x_paper_digits) (C := RX3) (T := TX3) (N := 20) hx hb hts (by decide +kernel) hown hK hP 0 rfl rfl 1 (by decide) (hts (.fieldLink RX3 15 "TurnedFloors$Paper" "digits" "[I") (by decide +kernel)) (fun _ h9 => h9) rfl dX3_turnsToNumber_19 ?_
    refine lv_iload hx hb dX3_turnsToNumber_22 (lv_at hl 0 rfl) ?_
    refine lv_iload hx hb dX3_turnsToNumber_24 (lv_at hl 0 rfl) ?_
    refine va_iast hx hb hK hP hD hS 1 0 rfl rfl (by simp only [vp_in]; decide) dX3_turnsToNumber_26 (fun H locs hP hD hS => ?_)
    have hP : va_P D vwCl [(x_paper, .inr (3, [.ref x_paper_ranks, .ref x_paper_digits, .ref x_paper_barred, .ref x_paper_pays, .ref x_paper_measuredBarred, .ref x_paper_buckets, .ref q_5, .ref q_6, .ref q_7, .ref q_1, .ref q_2, .ref q_3, .ref q_4, .int 0, .int 1, .int 0, .int 0, .int (-1), .int (-1), .int 0])), (x_paper_digits, .inl (ty 0, 6, .inl (upd (upd (upd (upd (upd (upd (upd (upd (upd (upd (upd (upd (upd (upd (upd (upd (upd (upd (upd (upd (upd (upd (upd (upd (upd (upd (upd (upd (upd (fun _ => 0) 0 0) 0 0) 1 1) 0 0) 1 1) 2 2) 0 0) 1 1) 2 2) 3 3) 0 0) 1 1) 2 2) 3 3) 4 4) 0 0) 1 1) 2 2) 3 3) 4 4) 5 5) 0 0) 1 1) 2 2) 3 3) 4 4) 5 5) 5 5) 4 4))), (q_2, .inl (ty 0, 1, .inl (fun _ => 0))), (q_3, .inl (ty 0, 1, .inl (fun _ => 0)))] H := hP
    have hD : va_D A [(x_paper, .inr (3, [.ref x_paper_ranks, .ref x_paper_digits, .ref x_paper_barred, .ref x_paper_pays, .ref x_paper_measuredBarred, .ref x_paper_buckets, .ref q_5, .ref q_6, .ref q_7, .ref q_1, .ref q_2, .ref q_3, .ref q_4, .int 0, .int 1, .int 0, .int 0, .int (-1), .int (-1), .int 0])), (x_paper_digits, .inl (ty 0, 6, .inl (upd (upd (upd (upd (upd (upd (upd (upd (upd (upd (upd (upd (upd (upd (upd (upd (upd (upd (upd (upd (upd (upd (upd (upd (upd (upd (upd (upd (upd (fun _ => 0) 0 0) 0 0) 1 1) 0 0) 1 1) 2 2) 0 0) 1 1) 2 2) 3 3) 0 0) 1 1) 2 2) 3 3) 4 4) 0 0) 1 1) 2 2) 3 3) 4 4) 5 5) 0 0) 1 1) 2 2) 3 3) 4 4) 5 5) 5 5) 4 4))), (q_2, .inl (ty 0, 1, .inl (fun _ => 0))), (q_3, .inl (ty 0, 1, .inl (fun _ => 0)))] := hD
    refine lv_iload hx hb dX3_turnsToNumber_27 (lv_at hl 0 rfl) ?_
    refine lv_aload_n hx hb dX3_turnsToNumber_29 rfl (lv_at hl 3 rfl) ?_
    refine va_get (D := D) (ci := 3) (v := .int 0) (C := RX3) (T := TX3) (N := 20) hx hb hts (by decide +kernel) hown hK hP 0 rfl rfl 13 (by decide) (hts (.fieldLink RX3 51 "TurnedFloors$Paper" "floors" "I") (by decide +kernel)) (fun _ h9 => h9) rfl dX3_turnsToNumber_30 ?_
    refine lv_icmp_ge (tgt := 83) hx hb dX3_turnsToNumber_33 (by decide) (fun _ => ?_) (fun h => absurd (by decide) h)
    refine lv_iinc (v := 3) (lv' := [(4, .int 3), (3, .int 0), (2, .int a1), (0, .ref x_paper), (1, .int a1)]) hx hb dX3_turnsToNumber_83 hl (k := 0) rfl (by decide) (by decide) rfl (fun ls hl => ?_)
    refine lv_goto (tgt := 13) hx hb dX3_turnsToNumber_86 (by decide) ?_
    refine lv_iload hx hb dX3_turnsToNumber_13 (lv_at hl 0 rfl) ?_
    refine lv_if_lt (tgt := 89) hx hb dX3_turnsToNumber_15 (by decide) (fun h => absurd h (by decide)) (fun _ => ?_)
    refine lv_aload_n hx hb dX3_turnsToNumber_18 rfl (lv_at hl 3 rfl) ?_
    refine va_get (D := D) (ci := 3) (v := .ref x_paper_digits) (C := RX3) (T := TX3) (N := 20) hx hb hts (by decide +kernel) hown hK hP 0 rfl rfl 1 (by decide) (hts (.fieldLink RX3 15 "TurnedFloors$Paper" "digits" "[I") (by decide +kernel)) (fun _ h9 => h9) rfl dX3_turnsToNumber_19 ?_
    refine lv_iload hx hb dX3_turnsToNumber_22 (lv_at hl 0 rfl) ?_
    refine lv_iload hx hb dX3_turnsToNumber_24 (lv_at hl 0 rfl) ?_
    refine va_iast hx hb hK hP hD hS 1 0 rfl rfl (by simp only [vp_in]; decide) dX3_turnsToNumber_26 (fun H locs hP hD hS => ?_)
    have hP : va_P D vwCl [(x_paper, .inr (3, [.ref x_paper_ranks, .ref x_paper_digits, .ref x_paper_barred, .ref x_paper_pays, .ref x_paper_measuredBarred, .ref x_paper_buckets, .ref q_5, .ref q_6, .ref q_7, .ref q_1, .ref q_2, .ref q_3, .ref q_4, .int 0, .int 1, .int 0, .int 0, .int (-1), .int (-1), .int 0])), (x_paper_digits, .inl (ty 0, 6, .inl (upd (upd (upd (upd (upd (upd (upd (upd (upd (upd (upd (upd (upd (upd (upd (upd (upd (upd (upd (upd (upd (upd (upd (upd (upd (upd (upd (upd (upd (upd (fun _ => 0) 0 0) 0 0) 1 1) 0 0) 1 1) 2 2) 0 0) 1 1) 2 2) 3 3) 0 0) 1 1) 2 2) 3 3) 4 4) 0 0) 1 1) 2 2) 3 3) 4 4) 5 5) 0 0) 1 1) 2 2) 3 3) 4 4) 5 5) 5 5) 4 4) 3 3))), (q_2, .inl (ty 0, 1, .inl (fun _ => 0))), (q_3, .inl (ty 0, 1, .inl (fun _ => 0)))] H := hP
    have hD : va_D A [(x_paper, .inr (3, [.ref x_paper_ranks, .ref x_paper_digits, .ref x_paper_barred, .ref x_paper_pays, .ref x_paper_measuredBarred, .ref x_paper_buckets, .ref q_5, .ref q_6, .ref q_7, .ref q_1, .ref q_2, .ref q_3, .ref q_4, .int 0, .int 1, .int 0, .int 0, .int (-1), .int (-1), .int 0])), (x_paper_digits, .inl (ty 0, 6, .inl (upd (upd (upd (upd (upd (upd (upd (upd (upd (upd (upd (upd (upd (upd (upd (upd (upd (upd (upd (upd (upd (upd (upd (upd (upd (upd (upd (upd (upd (upd (fun _ => 0) 0 0) 0 0) 1 1) 0 0) 1 1) 2 2) 0 0) 1 1) 2 2) 3 3) 0 0) 1 1) 2 2) 3 3) 4 4) 0 0) 1 1) 2 2) 3 3) 4 4) 5 5) 0 0) 1 1) 2 2) 3 3) 4 4) 5 5) 5 5) 4 4) 3 3))), (q_2, .inl (ty 0, 1, .inl (fun _ => 0))), (q_3, .inl (ty 0, 1, .inl (fun _ => 0)))] := hD
    refine lv_iload hx hb dX3_turnsToNumber_27 (lv_at hl 0 rfl) ?_
    refine lv_aload_n hx hb dX3_turnsToNumber_29 rfl (lv_at hl 3 rfl) ?_
    refine va_get (D := D) (ci := 3) (v := .int 0) (C := RX3) (T := TX3) (N := 20) hx hb hts (by decide +kernel) hown hK hP 0 rfl rfl 13 (by decide) (hts (.fieldLink RX3 51 "TurnedFloors$Paper" "floors" "I") (by decide +kernel)) (fun _ h9 => h9) rfl dX3_turnsToNumber_30 ?_
    refine lv_icmp_ge (tgt := 83) hx hb dX3_turnsToNumber_33 (by decide) (fun _ => ?_) (fun h => absurd (by decide) h)
    refine lv_iinc (v := 2) (lv' := [(4, .int 2), (3, .int 0), (2, .int a1), (0, .ref x_paper), (1, .int a1)]) hx hb dX3_turnsToNumber_83 hl (k := 0) rfl (by decide) (by decide) rfl (fun ls hl => ?_)
    refine lv_goto (tgt := 13) hx hb dX3_turnsToNumber_86 (by decide) ?_
    refine lv_iload hx hb dX3_turnsToNumber_13 (lv_at hl 0 rfl) ?_
    refine lv_if_lt (tgt := 89) hx hb dX3_turnsToNumber_15 (by decide) (fun h => absurd h (by decide)) (fun _ => ?_)
    refine lv_aload_n hx hb dX3_turnsToNumber_18 rfl (lv_at hl 3 rfl) ?_
    refine va_get (D := D) (ci := 3) (v := .ref x_paper_digits) (C := RX3) (T := TX3) (N := 20) hx hb hts (by decide +kernel) hown hK hP 0 rfl rfl 1 (by decide) (hts (.fieldLink RX3 15 "TurnedFloors$Paper" "digits" "[I") (by decide +kernel)) (fun _ h9 => h9) rfl dX3_turnsToNumber_19 ?_
    refine lv_iload hx hb dX3_turnsToNumber_22 (lv_at hl 0 rfl) ?_
    refine lv_iload hx hb dX3_turnsToNumber_24 (lv_at hl 0 rfl) ?_
    refine va_iast hx hb hK hP hD hS 1 0 rfl rfl (by simp only [vp_in]; decide) dX3_turnsToNumber_26 (fun H locs hP hD hS => ?_)
    have hP : va_P D vwCl [(x_paper, .inr (3, [.ref x_paper_ranks, .ref x_paper_digits, .ref x_paper_barred, .ref x_paper_pays, .ref x_paper_measuredBarred, .ref x_paper_buckets, .ref q_5, .ref q_6, .ref q_7, .ref q_1, .ref q_2, .ref q_3, .ref q_4, .int 0, .int 1, .int 0, .int 0, .int (-1), .int (-1), .int 0])), (x_paper_digits, .inl (ty 0, 6, .inl (upd (upd (upd (upd (upd (upd (upd (upd (upd (upd (upd (upd (upd (upd (upd (upd (upd (upd (upd (upd (upd (upd (upd (upd (upd (upd (upd (upd (upd (upd (upd (fun _ => 0) 0 0) 0 0) 1 1) 0 0) 1 1) 2 2) 0 0) 1 1) 2 2) 3 3) 0 0) 1 1) 2 2) 3 3) 4 4) 0 0) 1 1) 2 2) 3 3) 4 4) 5 5) 0 0) 1 1) 2 2) 3 3) 4 4) 5 5) 5 5) 4 4) 3 3) 2 2))), (q_2, .inl (ty 0, 1, .inl (fun _ => 0))), (q_3, .inl (ty 0, 1, .inl (fun _ => 0)))] H := hP
    have hD : va_D A [(x_paper, .inr (3, [.ref x_paper_ranks, .ref x_paper_digits, .ref x_paper_barred, .ref x_paper_pays, .ref x_paper_measuredBarred, .ref x_paper_buckets, .ref q_5, .ref q_6, .ref q_7, .ref q_1, .ref q_2, .ref q_3, .ref q_4, .int 0, .int 1, .int 0, .int 0, .int (-1), .int (-1), .int 0])), (x_paper_digits, .inl (ty 0, 6, .inl (upd (upd (upd (upd (upd (upd (upd (upd (upd (upd (upd (upd (upd (upd (upd (upd (upd (upd (upd (upd (upd (upd (upd (upd (upd (upd (upd (upd (upd (upd (upd (fun _ => 0) 0 0) 0 0) 1 1) 0 0) 1 1) 2 2) 0 0) 1 1) 2 2) 3 3) 0 0) 1 1) 2 2) 3 3) 4 4) 0 0) 1 1) 2 2) 3 3) 4 4) 5 5) 0 0) 1 1) 2 2) 3 3) 4 4) 5 5) 5 5) 4 4) 3 3) 2 2))), (q_2, .inl (ty 0, 1, .inl (fun _ => 0))), (q_3, .inl (ty 0, 1, .inl (fun _ => 0)))] := hD
    refine lv_iload hx hb dX3_turnsToNumber_27 (lv_at hl 0 rfl) ?_
    refine lv_aload_n hx hb dX3_turnsToNumber_29 rfl (lv_at hl 3 rfl) ?_
    refine va_get (D := D) (ci := 3) (v := .int 0) (C := RX3) (T := TX3) (N := 20) hx hb hts (by decide +kernel) hown hK hP 0 rfl rfl 13 (by decide) (hts (.fieldLink RX3 51 "TurnedFloors$Paper" "floors" "I") (by decide +kernel)) (fun _ h9 => h9) rfl dX3_turnsToNumber_30 ?_
    refine lv_icmp_ge (tgt := 83) hx hb dX3_turnsToNumber_33 (by decide) (fun _ => ?_) (fun h => absurd (by decide) h)
    refine lv_iinc (v := 1) (lv' := [(4, .int 1), (3, .int 0), (2, .int a1), (0, .ref x_paper), (1, .int a1)]) hx hb dX3_turnsToNumber_83 hl (k := 0) rfl (by decide) (by decide) rfl (fun ls hl => ?_)
    refine lv_goto (tgt := 13) hx hb dX3_turnsToNumber_86 (by decide) ?_
    refine lv_iload hx hb dX3_turnsToNumber_13 (lv_at hl 0 rfl) ?_
    refine lv_if_lt (tgt := 89) hx hb dX3_turnsToNumber_15 (by decide) (fun h => absurd h (by decide)) (fun _ => ?_)
    refine lv_aload_n hx hb dX3_turnsToNumber_18 rfl (lv_at hl 3 rfl) ?_
    refine va_get (D := D) (ci := 3) (v := .ref x_paper_digits) (C := RX3) (T := TX3) (N := 20) hx hb hts (by decide +kernel) hown hK hP 0 rfl rfl 1 (by decide) (hts (.fieldLink RX3 15 "TurnedFloors$Paper" "digits" "[I") (by decide +kernel)) (fun _ h9 => h9) rfl dX3_turnsToNumber_19 ?_
    refine lv_iload hx hb dX3_turnsToNumber_22 (lv_at hl 0 rfl) ?_
    refine lv_iload hx hb dX3_turnsToNumber_24 (lv_at hl 0 rfl) ?_
    refine va_iast hx hb hK hP hD hS 1 0 rfl rfl (by simp only [vp_in]; decide) dX3_turnsToNumber_26 (fun H locs hP hD hS => ?_)
    have hP : va_P D vwCl [(x_paper, .inr (3, [.ref x_paper_ranks, .ref x_paper_digits, .ref x_paper_barred, .ref x_paper_pays, .ref x_paper_measuredBarred, .ref x_paper_buckets, .ref q_5, .ref q_6, .ref q_7, .ref q_1, .ref q_2, .ref q_3, .ref q_4, .int 0, .int 1, .int 0, .int 0, .int (-1), .int (-1), .int 0])), (x_paper_digits, .inl (ty 0, 6, .inl (upd (upd (upd (upd (upd (upd (upd (upd (upd (upd (upd (upd (upd (upd (upd (upd (upd (upd (upd (upd (upd (upd (upd (upd (upd (upd (upd (upd (upd (upd (upd (upd (fun _ => 0) 0 0) 0 0) 1 1) 0 0) 1 1) 2 2) 0 0) 1 1) 2 2) 3 3) 0 0) 1 1) 2 2) 3 3) 4 4) 0 0) 1 1) 2 2) 3 3) 4 4) 5 5) 0 0) 1 1) 2 2) 3 3) 4 4) 5 5) 5 5) 4 4) 3 3) 2 2) 1 1))), (q_2, .inl (ty 0, 1, .inl (fun _ => 0))), (q_3, .inl (ty 0, 1, .inl (fun _ => 0)))] H := hP
    have hD : va_D A [(x_paper, .inr (3, [.ref x_paper_ranks, .ref x_paper_digits, .ref x_paper_barred, .ref x_paper_pays, .ref x_paper_measuredBarred, .ref x_paper_buckets, .ref q_5, .ref q_6, .ref q_7, .ref q_1, .ref q_2, .ref q_3, .ref q_4, .int 0, .int 1, .int 0, .int 0, .int (-1), .int (-1), .int 0])), (x_paper_digits, .inl (ty 0, 6, .inl (upd (upd (upd (upd (upd (upd (upd (upd (upd (upd (upd (upd (upd (upd (upd (upd (upd (upd (upd (upd (upd (upd (upd (upd (upd (upd (upd (upd (upd (upd (upd (upd (fun _ => 0) 0 0) 0 0) 1 1) 0 0) 1 1) 2 2) 0 0) 1 1) 2 2) 3 3) 0 0) 1 1) 2 2) 3 3) 4 4) 0 0) 1 1) 2 2) 3 3) 4 4) 5 5) 0 0) 1 1) 2 2) 3 3) 4 4) 5 5) 5 5) 4 4) 3 3) 2 2) 1 1))), (q_2, .inl (ty 0, 1, .inl (fun _ => 0))), (q_3, .inl (ty 0, 1, .inl (fun _ => 0)))] := hD
    refine lv_iload hx hb dX3_turnsToNumber_27 (lv_at hl 0 rfl) ?_
    refine lv_aload_n hx hb dX3_turnsToNumber_29 rfl (lv_at hl 3 rfl) ?_
    refine va_get (D := D) (ci := 3) (v := .int 0) (C := RX3) (T := TX3) (N := 20) hx hb hts (by decide +kernel) hown hK hP 0 rfl rfl 13 (by decide) (hts (.fieldLink RX3 51 "TurnedFloors$Paper" "floors" "I") (by decide +kernel)) (fun _ h9 => h9) rfl dX3_turnsToNumber_30 ?_
    refine lv_icmp_ge (tgt := 83) hx hb dX3_turnsToNumber_33 (by decide) (fun _ => ?_) (fun h => absurd (by decide) h)
    refine lv_iinc (v := 0) (lv' := [(4, .int 0), (3, .int 0), (2, .int a1), (0, .ref x_paper), (1, .int a1)]) hx hb dX3_turnsToNumber_83 hl (k := 0) rfl (by decide) (by decide) rfl (fun ls hl => ?_)
    refine lv_goto (tgt := 13) hx hb dX3_turnsToNumber_86 (by decide) ?_
    refine lv_iload hx hb dX3_turnsToNumber_13 (lv_at hl 0 rfl) ?_
    refine lv_if_lt (tgt := 89) hx hb dX3_turnsToNumber_15 (by decide) (fun h => absurd h (by decide)) (fun _ => ?_)
    refine lv_aload_n hx hb dX3_turnsToNumber_18 rfl (lv_at hl 3 rfl) ?_
    refine va_get (D := D) (ci := 3) (v := .ref x_paper_digits) (C := RX3) (T := TX3) (N := 20) hx hb hts (by decide +kernel) hown hK hP 0 rfl rfl 1 (by decide) (hts (.fieldLink RX3 15 "TurnedFloors$Paper" "digits" "[I") (by decide +kernel)) (fun _ h9 => h9) rfl dX3_turnsToNumber_19 ?_
    refine lv_iload hx hb dX3_turnsToNumber_22 (lv_at hl 0 rfl) ?_
    refine lv_iload hx hb dX3_turnsToNumber_24 (lv_at hl 0 rfl) ?_
    refine va_iast hx hb hK hP hD hS 1 0 rfl rfl (by simp only [vp_in]; decide) dX3_turnsToNumber_26 (fun H locs hP hD hS => ?_)
    have hP : va_P D vwCl [(x_paper, .inr (3, [.ref x_paper_ranks, .ref x_paper_digits, .ref x_paper_barred, .ref x_paper_pays, .ref x_paper_measuredBarred, .ref x_paper_buckets, .ref q_5, .ref q_6, .ref q_7, .ref q_1, .ref q_2, .ref q_3, .ref q_4, .int 0, .int 1, .int 0, .int 0, .int (-1), .int (-1), .int 0])), (x_paper_digits, .inl (ty 0, 6, .inl (upd (upd (upd (upd (upd (upd (upd (upd (upd (upd (upd (upd (upd (upd (upd (upd (upd (upd (upd (upd (upd (upd (upd (upd (upd (upd (upd (upd (upd (upd (upd (upd (upd (fun _ => 0) 0 0) 0 0) 1 1) 0 0) 1 1) 2 2) 0 0) 1 1) 2 2) 3 3) 0 0) 1 1) 2 2) 3 3) 4 4) 0 0) 1 1) 2 2) 3 3) 4 4) 5 5) 0 0) 1 1) 2 2) 3 3) 4 4) 5 5) 5 5) 4 4) 3 3) 2 2) 1 1) 0 0))), (q_2, .inl (ty 0, 1, .inl (fun _ => 0))), (q_3, .inl (ty 0, 1, .inl (fun _ => 0)))] H := hP
    have hD : va_D A [(x_paper, .inr (3, [.ref x_paper_ranks, .ref x_paper_digits, .ref x_paper_barred, .ref x_paper_pays, .ref x_paper_measuredBarred, .ref x_paper_buckets, .ref q_5, .ref q_6, .ref q_7, .ref q_1, .ref q_2, .ref q_3, .ref q_4, .int 0, .int 1, .int 0, .int 0, .int (-1), .int (-1), .int 0])), (x_paper_digits, .inl (ty 0, 6, .inl (upd (upd (upd (upd (upd (upd (upd (upd (upd (upd (upd (upd (upd (upd (upd (upd (upd (upd (upd (upd (upd (upd (upd (upd (upd (upd (upd (upd (upd (upd (upd (upd (upd (fun _ => 0) 0 0) 0 0) 1 1) 0 0) 1 1) 2 2) 0 0) 1 1) 2 2) 3 3) 0 0) 1 1) 2 2) 3 3) 4 4) 0 0) 1 1) 2 2) 3 3) 4 4) 5 5) 0 0) 1 1) 2 2) 3 3) 4 4) 5 5) 5 5) 4 4) 3 3) 2 2) 1 1) 0 0))), (q_2, .inl (ty 0, 1, .inl (fun _ => 0))), (q_3, .inl (ty 0, 1, .inl (fun _ => 0)))] := hD
    refine lv_iload hx hb dX3_turnsToNumber_27 (lv_at hl 0 rfl) ?_
    refine lv_aload_n hx hb dX3_turnsToNumber_29 rfl (lv_at hl 3 rfl) ?_
    refine va_get (D := D) (ci := 3) (v := .int 0) (C := RX3) (T := TX3) (N := 20) hx hb hts (by decide +kernel) hown hK hP 0 rfl rfl 13 (by decide) (hts (.fieldLink RX3 51 "TurnedFloors$Paper" "floors" "I") (by decide +kernel)) (fun _ h9 => h9) rfl dX3_turnsToNumber_30 ?_
    refine lv_icmp_ge (tgt := 83) hx hb dX3_turnsToNumber_33 (by decide) (fun _ => ?_) (fun h => absurd (by decide) h)
    refine lv_iinc (v := (-1)) (lv' := [(4, .int (-1)), (3, .int 0), (2, .int a1), (0, .ref x_paper), (1, .int a1)]) hx hb dX3_turnsToNumber_83 hl (k := 0) rfl (by decide) (by decide) rfl (fun ls hl => ?_)
    refine lv_goto (tgt := 13) hx hb dX3_turnsToNumber_86 (by decide) ?_
    refine lv_iload hx hb dX3_turnsToNumber_13 (lv_at hl 0 rfl) ?_
    refine lv_if_lt (tgt := 89) hx hb dX3_turnsToNumber_15 (by decide) (fun _ => ?_) (fun h => absurd (by decide) h)
    refine lv_iload_n hx hb dX3_turnsToNumber_89 rfl (lv_at hl 2 rfl) ?_
    refine lv_if_ne (tgt := 105) hx hb dX3_turnsToNumber_90 (by decide) (fun c_2 => ?_) (fun c_2 => ?_)
    · refine lv_iconst (v := (-1)) hx hb dX3_turnsToNumber_105 (by decide) ?_
      exact kz_iret hx hb hr hlocks hP hK hD hS dX3_turnsToNumber_106 (Or.inl ⟨c_1, c_2, rfl, rfl⟩)
    · refine lv_iload_n hx hb dX3_turnsToNumber_93 rfl (lv_at hl 1 rfl) ?_
      refine lv_iconst (v := 1) hx hb dX3_turnsToNumber_94 (by decide) ?_
      refine lv_aload_n hx hb dX3_turnsToNumber_95 rfl (lv_at hl 3 rfl) ?_
      refine va_get (D := D) (ci := 3) (v := .int 0) (C := RX3) (T := TX3) (N := 20) hx hb hts (by decide +kernel) hown hK hP 0 rfl rfl 13 (by decide) (hts (.fieldLink RX3 51 "TurnedFloors$Paper" "floors" "I") (by decide +kernel)) (fun _ h9 => h9) rfl dX3_turnsToNumber_96 ?_
      refine lv_ishl hx hb dX3_turnsToNumber_99 ?_
      refine lv_topi (fun z_3 ez_3 => ?_)
      obtain rfl : z_3 = 1 := ez_3.trans (by first | rfl | decide +kernel)
      refine lv_iconst (v := 1) hx hb dX3_turnsToNumber_100 (by decide) ?_
      refine lv_isub hx hb dX3_turnsToNumber_101 ?_
      refine lv_topi (fun z_4 ez_4 => ?_)
      obtain rfl : z_4 = 0 := ez_4.trans (by first | rfl | decide +kernel)
      refine lv_icmp_eq (tgt := 107) hx hb dX3_turnsToNumber_102 (by decide) (fun _ => ?_) (fun h => absurd (by decide) h)
      refine lv_aload_n hx hb dX3_turnsToNumber_107 rfl (lv_at hl 3 rfl) ?_
      refine lv_iconst (v := 1) hx hb dX3_turnsToNumber_108 (by decide) ?_
      refine lv_aload_n hx hb dX3_turnsToNumber_109 rfl (lv_at hl 3 rfl) ?_
      refine kz_ki (wc := [(x_paper, .inr (3, [.ref x_paper_ranks, .ref x_paper_digits, .ref x_paper_barred, .ref x_paper_pays, .ref x_paper_measuredBarred, .ref x_paper_buckets, .ref q_5, .ref q_6, .ref q_7, .ref q_1, .ref q_2, .ref q_3, .ref q_4, .int 0, .int 1, .int 0, .int 0, .int (-1), .int (-1), .int 0])), (x_paper_digits, .inl (ty 0, 6, .inl (upd (upd (upd (upd (upd (upd (upd (upd (upd (upd (upd (upd (upd (upd (upd (upd (upd (upd (upd (upd (upd (upd (upd (upd (upd (upd (upd (upd (upd (upd (upd (upd (upd (fun _ => 0) 0 0) 0 0) 1 1) 0 0) 1 1) 2 2) 0 0) 1 1) 2 2) 3 3) 0 0) 1 1) 2 2) 3 3) 4 4) 0 0) 1 1) 2 2) 3 3) 4 4) 5 5) 0 0) 1 1) 2 2) 3 3) 4 4) 5 5) 5 5) 4 4) 3 3) 2 2) 1 1) 0 0)))]) (wr := [(q_2, .inl (ty 0, 1, .inl (fun _ => 0))), (q_3, .inl (ty 0, 1, .inl (fun _ => 0)))]) (va_runV (As := []) (rest := [.int 1, .ref x_paper]) ⟨hx, hb, hml, hown, hts⟩ (kX3_numberOfOrder_111 l D ty eo _ x_paper x_paper_ranks x_paper_digits x_paper_barred x_paper_pays x_paper_measuredBarred x_paper_buckets q_5 q_6 q_7 q_1 q_2 q_3 q_4) (cwV 0 hts gX3_turnsToNumber_X3_numberOfOrder rfl rfl rfl (by decide +kernel) ⟨Nat.le_of_ble_eq_true rfl, Nat.le_of_ble_eq_true rfl⟩) (kz_preV (ci := 3) (q0 := 0) hK hN hE hP hD hS hA rfl rfl [0, 1] (by decide) rfl) rfl rfl hl.1 rfl (lv_room (Nat.le_of_ble_eq_true rfl)) dX3_turnsToNumber_110 ⟨Nat.le_of_ble_eq_true rfl, Nat.le_of_ble_eq_true rfl⟩) hP hD hS hA [0, 1] [2, 3] rfl rfl (by decide) (by decide) (fun r u H locs hw hP hD hS => ?_)
      obtain ⟨rfl, rfl⟩ := hw
      have hP : va_P D vwCl [(q_2, .inl (ty 0, 1, .inl (fun _ => 0))), (q_3, .inl (ty 0, 1, .inl (fun _ => 0))), (x_paper, .inr (3, [.ref x_paper_ranks, .ref x_paper_digits, .ref x_paper_barred, .ref x_paper_pays, .ref x_paper_measuredBarred, .ref x_paper_buckets, .ref q_5, .ref q_6, .ref q_7, .ref q_1, .ref q_2, .ref q_3, .ref q_4, .int 0, .int 1, .int 0, .int 0, .int (-1), .int (-1), .int 0])), (x_paper_digits, .inl (ty 0, 6, .inl (upd (upd (upd (upd (upd (upd (upd (upd (upd (upd (upd (upd (upd (upd (upd (upd (upd (upd (upd (upd (upd (upd (upd (upd (upd (upd (upd (upd (upd (upd (upd (upd (upd (fun _ => 0) 0 0) 0 0) 1 1) 0 0) 1 1) 2 2) 0 0) 1 1) 2 2) 3 3) 0 0) 1 1) 2 2) 3 3) 4 4) 0 0) 1 1) 2 2) 3 3) 4 4) 5 5) 0 0) 1 1) 2 2) 3 3) 4 4) 5 5) 5 5) 4 4) 3 3) 2 2) 1 1) 0 0)))] H := hP
      have hD : va_D A [(q_2, .inl (ty 0, 1, .inl (fun _ => 0))), (q_3, .inl (ty 0, 1, .inl (fun _ => 0))), (x_paper, .inr (3, [.ref x_paper_ranks, .ref x_paper_digits, .ref x_paper_barred, .ref x_paper_pays, .ref x_paper_measuredBarred, .ref x_paper_buckets, .ref q_5, .ref q_6, .ref q_7, .ref q_1, .ref q_2, .ref q_3, .ref q_4, .int 0, .int 1, .int 0, .int 0, .int (-1), .int (-1), .int 0])), (x_paper_digits, .inl (ty 0, 6, .inl (upd (upd (upd (upd (upd (upd (upd (upd (upd (upd (upd (upd (upd (upd (upd (upd (upd (upd (upd (upd (upd (upd (upd (upd (upd (upd (upd (upd (upd (upd (upd (upd (upd (fun _ => 0) 0 0) 0 0) 1 1) 0 0) 1 1) 2 2) 0 0) 1 1) 2 2) 3 3) 0 0) 1 1) 2 2) 3 3) 4 4) 0 0) 1 1) 2 2) 3 3) 4 4) 5 5) 0 0) 1 1) 2 2) 3 3) 4 4) 5 5) 5 5) 4 4) 3 3) 2 2) 1 1) 0 0)))] := hD
      refine kz_ki (wc := [(x_paper, .inr (3, [.ref x_paper_ranks, .ref x_paper_digits, .ref x_paper_barred, .ref x_paper_pays, .ref x_paper_measuredBarred, .ref x_paper_buckets, .ref q_5, .ref q_6, .ref q_7, .ref q_1, .ref q_2, .ref q_3, .ref q_4, .int 0, .int 1, .int 0, .int 0, .int (-1), .int (-1), .int 0])), (q_2, .inl (ty 0, 1, .inl (fun _ => 0))), (q_3, .inl (ty 0, 1, .inl (fun _ => 0)))]) (wr := [(x_paper_digits, .inl (ty 0, 6, .inl (upd (upd (upd (upd (upd (upd (upd (upd (upd (upd (upd (upd (upd (upd (upd (upd (upd (upd (upd (upd (upd (upd (upd (upd (upd (upd (upd (upd (upd (upd (upd (upd (upd (fun _ => 0) 0 0) 0 0) 1 1) 0 0) 1 1) 2 2) 0 0) 1 1) 2 2) 3 3) 0 0) 1 1) 2 2) 3 3) 4 4) 0 0) 1 1) 2 2) 3 3) 4 4) 5 5) 0 0) 1 1) 2 2) 3 3) 4 4) 5 5) 5 5) 4 4) 3 3) 2 2) 1 1) 0 0)))]) (va_runV (As := [.int 1, .int 0]) (rest := []) ⟨hx, hb, hml, hown, hts⟩ (kX3_nearest_112 l D ty eo _ x_paper x_paper_ranks x_paper_digits x_paper_barred x_paper_pays x_paper_measuredBarred x_paper_buckets q_5 q_6 q_7 q_1 q_2 q_3 q_4) (cwV 2 hts gX3_turnsToNumber_X3_nearest rfl rfl rfl (by decide +kernel) ⟨Nat.le_of_ble_eq_true rfl, Nat.le_of_ble_eq_true rfl⟩) (kz_preV (ci := 3) (q0 := 2) hK hN hE hP hD hS hA rfl rfl [2, 0, 1] (by decide) rfl) rfl rfl hl.1 rfl (lv_room (Nat.le_of_ble_eq_true rfl)) dX3_turnsToNumber_113 ⟨Nat.le_of_ble_eq_true rfl, Nat.le_of_ble_eq_true rfl⟩) hP hD hS hA [2, 0, 1] [3] rfl rfl (by decide) (by decide) (fun r u H locs hw hP hD hS => ?_)
      obtain ⟨rfl, rfl⟩ := hw
      have hP : va_P D vwCl [(x_paper_digits, .inl (ty 0, 6, .inl (upd (upd (upd (upd (upd (upd (upd (upd (upd (upd (upd (upd (upd (upd (upd (upd (upd (upd (upd (upd (upd (upd (upd (upd (upd (upd (upd (upd (upd (upd (upd (upd (upd (fun _ => 0) 0 0) 0 0) 1 1) 0 0) 1 1) 2 2) 0 0) 1 1) 2 2) 3 3) 0 0) 1 1) 2 2) 3 3) 4 4) 0 0) 1 1) 2 2) 3 3) 4 4) 5 5) 0 0) 1 1) 2 2) 3 3) 4 4) 5 5) 5 5) 4 4) 3 3) 2 2) 1 1) 0 0))), (q_3, .inl (ty 0, 1, .inl (upd (fun _ => 0) 0 0))), (q_2, .inl (ty 0, 1, .inl (upd (kz_fl (fun _ => 0) 1 (-1)) 0 0))), (x_paper, .inr (3, [.ref x_paper_ranks, .ref x_paper_digits, .ref x_paper_barred, .ref x_paper_pays, .ref x_paper_measuredBarred, .ref x_paper_buckets, .ref q_5, .ref q_6, .ref q_7, .ref q_1, .ref q_2, .ref q_3, .ref q_4, .int 0, .int 1, .int 0, .int 0, .int (-1), .int (-1), .int 1]))] H := hP
      have hD : va_D A [(x_paper_digits, .inl (ty 0, 6, .inl (upd (upd (upd (upd (upd (upd (upd (upd (upd (upd (upd (upd (upd (upd (upd (upd (upd (upd (upd (upd (upd (upd (upd (upd (upd (upd (upd (upd (upd (upd (upd (upd (upd (fun _ => 0) 0 0) 0 0) 1 1) 0 0) 1 1) 2 2) 0 0) 1 1) 2 2) 3 3) 0 0) 1 1) 2 2) 3 3) 4 4) 0 0) 1 1) 2 2) 3 3) 4 4) 5 5) 0 0) 1 1) 2 2) 3 3) 4 4) 5 5) 5 5) 4 4) 3 3) 2 2) 1 1) 0 0))), (q_3, .inl (ty 0, 1, .inl (upd (fun _ => 0) 0 0))), (q_2, .inl (ty 0, 1, .inl (upd (kz_fl (fun _ => 0) 1 (-1)) 0 0))), (x_paper, .inr (3, [.ref x_paper_ranks, .ref x_paper_digits, .ref x_paper_barred, .ref x_paper_pays, .ref x_paper_measuredBarred, .ref x_paper_buckets, .ref q_5, .ref q_6, .ref q_7, .ref q_1, .ref q_2, .ref q_3, .ref q_4, .int 0, .int 1, .int 0, .int 0, .int (-1), .int (-1), .int 1]))] := hD
      exact kz_iret hx hb hr hlocks hP hK hD hS dX3_turnsToNumber_116 (Or.inr (Or.inl ⟨c_1, c_2, rfl, rfl⟩))
  · refine lv_iconst (v := (-1)) hx hb dX3_turnsToNumber_4 (by decide) ?_
    exact kz_iret hx hb hr hlocks hP hK hD hS dX3_turnsToNumber_5 (Or.inr (Or.inr ⟨c_1, rfl, rfl⟩))
