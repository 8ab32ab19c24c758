set_option maxHeartbeats 4000000 in
set_option maxRecDepth 100000 in
theorem fX9_few (l : Launch) (D : va_G) (ty : Nat → ClassId) (eo : Nat → Nat) (sz : Nat) (x x_state x_images x_kept x_history x_drawnTower x_machine x_judge x_runner x_reader x_draft x_paper x_tape x_chances x_refusals x_state_tower x_state_seenPlace x_state_seenRank x_state_laws : Nat) (p1 p2 : Int32) : Met l yX9_few wsX9_few ({ frames := 1, cells := 0, slots := 0, locals := 24 }) (va_Pc [.ref x, .int p1, .int p2] (kz_pre D ty eo [(x, .inr (9, [.ref x_state, .ref x_images, .ref x_kept, .ref x_history, .ref x_drawnTower, .ref x_machine, .ref x_judge, .ref x_runner, .ref x_reader, .ref x_draft, .ref x_paper, .ref x_tape, .int 0, .int (-1), .int 0, .int (-1), .ref x_chances, .ref x_refusals, .int 0])), (x_chances, .inl (ty 1, 20, .inr (.inl (fun _ => 0)))), (x_state, .inr (6, [.ref x_state_tower, .int 1, .int 0, .int 0, .ref x_state_seenPlace, .ref x_state_seenRank, .int 0, .ref x_state_laws, .int 0, .int (-1)]))] sz)) (va_Ql (fun (r : Int64) (u : va_W) => (p1 < 1 ∧ (-1) = r ∧ [(x, .inr (9, [.ref x_state, .ref x_images, .ref x_kept, .ref x_history, .ref x_drawnTower, .ref x_machine, .ref x_judge, .ref x_runner, .ref x_reader, .ref x_draft, .ref x_paper, .ref x_tape, .int 0, .int (-1), .int 0, .int (-1), .ref x_chances, .ref x_refusals, .int 0])), (x_chances, .inl (ty 1, 20, .inr (.inl (fun _ => 0)))), (x_state, .inr (6, [.ref x_state_tower, .int 1, .int 0, .int 0, .ref x_state_seenPlace, .ref x_state_seenRank, .int 0, .ref x_state_laws, .int 0, .int (-1)]))] = u) ∨ (¬ p1 < 1 ∧ 20 < p1 ∧ (-1) = r ∧ [(x, .inr (9, [.ref x_state, .ref x_images, .ref x_kept, .ref x_history, .ref x_drawnTower, .ref x_machine, .ref x_judge, .ref x_runner, .ref x_reader, .ref x_draft, .ref x_paper, .ref x_tape, .int 0, .int (-1), .int 0, .int (-1), .ref x_chances, .ref x_refusals, .int 0])), (x_chances, .inl (ty 1, 20, .inr (.inl (fun _ => 0)))), (x_state, .inr (6, [.ref x_state_tower, .int 1, .int 0, .int 0, .ref x_state_seenPlace, .ref x_state_seenRank, .int 0, .ref x_state_laws, .int 0, .int (-1)]))] = u) ∨ (¬ p1 < 1 ∧ ¬ 20 < p1 ∧ p2 < 0 ∧ (-1) = r ∧ [(x, .inr (9, [.ref x_state, .ref x_images, .ref x_kept, .ref x_history, .ref x_drawnTower, .ref x_machine, .ref x_judge, .ref x_runner, .ref x_reader, .ref x_draft, .ref x_paper, .ref x_tape, .int 0, .int (-1), .int 0, .int (-1), .ref x_chances, .ref x_refusals, .int 0])), (x_chances, .inl (ty 1, 20, .inr (.inl (fun _ => 0)))), (x_state, .inr (6, [.ref x_state_tower, .int 1, .int 0, .int 0, .ref x_state_seenPlace, .ref x_state_seenRank, .int 0, .ref x_state_laws, .int 0, .int (-1)]))] = u) ∨ (¬ p1 < 1 ∧ ¬ 20 < p1 ∧ ¬ p2 < 0 ∧ ¬ p2 ≤ 99 ∧ (-1) = r ∧ [(x, .inr (9, [.ref x_state, .ref x_images, .ref x_kept, .ref x_history, .ref x_drawnTower, .ref x_machine, .ref x_judge, .ref x_runner, .ref x_reader, .ref x_draft, .ref x_paper, .ref x_tape, .int 0, .int (-1), .int 0, .int (-1), .ref x_chances, .ref x_refusals, .int 0])), (x_chances, .inl (ty 1, 20, .inr (.inl (fun _ => 0)))), (x_state, .inr (6, [.ref x_state_tower, .int 1, .int 0, .int 0, .ref x_state_seenPlace, .ref x_state_seenRank, .int 0, .ref x_state_laws, .int 0, .int (-1)]))] = u) ∨ (∃ fz : Nat → Int64, ¬ p1 < 1 ∧ ¬ 20 < p1 ∧ ¬ p2 < 0 ∧ p2 ≤ 99 ∧ (kz_few 9 1 (Int32.toNatClampNeg p1) (Int32.toNatClampNeg p2)) = r ∧ [(x, .inr (9, [.ref x_state, .ref x_images, .ref x_kept, .ref x_history, .ref x_drawnTower, .ref x_machine, .ref x_judge, .ref x_runner, .ref x_reader, .ref x_draft, .ref x_paper, .ref x_tape, .int 0, .int (-1), .int 0, .int (-1), .ref x_chances, .ref x_refusals, .int 0])), (x_state, .inr (6, [.ref x_state_tower, .int 1, .int 0, .int 0, .ref x_state_seenPlace, .ref x_state_seenRank, .int 0, .ref x_state_laws, .int 0, .int (-1)])), (x_chances, .inl (ty 1, 20, .inr (.inl fz)))] = u)) (kz_B D ty (va_A [(x, .inr (9, [.ref x_state, .ref x_images, .ref x_kept, .ref x_history, .ref x_drawnTower, .ref x_machine, .ref x_judge, .ref x_runner, .ref x_reader, .ref x_draft, .ref x_paper, .ref x_tape, .int 0, .int (-1), .int 0, .int (-1), .ref x_chances, .ref x_refusals, .int 0])), (x_chances, .inl (ty 1, 20, .inr (.inl (fun _ => 0)))), (x_state, .inr (6, [.ref x_state_tower, .int 1, .int 0, .int 0, .ref x_state_seenPlace, .ref x_state_seenRank, .int 0, .ref x_state_laws, .int 0, .int (-1)]))] sz)) (va_A [(x, .inr (9, [.ref x_state, .ref x_images, .ref x_kept, .ref x_history, .ref x_drawnTower, .ref x_machine, .ref x_judge, .ref x_runner, .ref x_reader, .ref x_draft, .ref x_paper, .ref x_tape, .int 0, .int (-1), .int 0, .int (-1), .ref x_chances, .ref x_refusals, .int 0])), (x_chances, .inl (ty 1, 20, .inr (.inl (fun _ => 0)))), (x_state, .inr (6, [.ref x_state_tower, .int 1, .int 0, .int 0, .ref x_state_seenPlace, .ref x_state_seenRank, .int 0, .ref x_state_laws, .int 0, .int (-1)]))] sz)) 0 0 (va_A [(x, .inr (9, [.ref x_state, .ref x_images, .ref x_kept, .ref x_history, .ref x_drawnTower, .ref x_machine, .ref x_judge, .ref x_runner, .ref x_reader, .ref x_draft, .ref x_paper, .ref x_tape, .int 0, .int (-1), .int 0, .int (-1), .ref x_chances, .ref x_refusals, .int 0])), (x_chances, .inl (ty 1, 20, .inr (.inl (fun _ => 0)))), (x_state, .inr (6, [.ref x_state_tower, .int 1, .int 0, .int 0, .ref x_state_seenPlace, .ref x_state_seenRank, .int 0, .ref x_state_laws, .int 0, .int (-1)]))] sz) := by
  refine Met.ofW (cc := cX9_few) (maxL := 9) (ret := (some .long)) (by decide) rfl ?_
  intro p e s m args below meth c s₁ B hml hv
  obtain ⟨rfl, hsz, hP, hK, hD0, hN, hE⟩ := hv
  have hx := B.exec
  have hb := B.bytes
  have hr := B.returns
  have hts := atoms_spec (ws := wsX9_few) B.pre
  have hown : s.vm.findClass RX9 = some m.cls := findClass_of_methodNamed B.named
  have hlocks := B.notSynchronized
  subst hsz
  have hD := hD0.self (sz := s.heap.size)
  generalize hAe : va_A [(x, .inr (9, [.ref x_state, .ref x_images, .ref x_kept, .ref x_history, .ref x_drawnTower, .ref x_machine, .ref x_judge, .ref x_runner, .ref x_reader, .ref x_draft, .ref x_paper, .ref x_tape, .int 0, .int (-1), .int 0, .int (-1), .ref x_chances, .ref x_refusals, .int 0])), (x_chances, .inl (ty 1, 20, .inr (.inl (fun _ => 0)))), (x_state, .inr (6, [.ref x_state_tower, .int 1, .int 0, .int 0, .ref x_state_seenPlace, .ref x_state_seenRank, .int 0, .ref x_state_laws, .int 0, .int (-1)]))] s.heap.size = A at hD hE ⊢
  have hA : ∀ q : Nat, s.heap.size ≤ q → A q := fun q h => by rw [← hAe]; exact Or.inr h
  have hS : va_S A s.heap s.heap [] := va_S.rf
  have hl := lv_entry ([.ref x, .int p1, .int p2]) (n := 9) (Nat.le_of_ble_eq_true rfl)
  rw [lg_entry_eq]
  generalize (lg_sl ([.ref x, .int p1, .int p2]) ++ List.replicate (9 - (lg_sl ([.ref x, .int p1, .int p2])).length) Slot.unset).toArray = ls at hl ⊢
  have hl : lv_has ls 9 [(0, .ref x), (1, .int p1), (2, .int p2)] := hl
  refine lv_iload_n hx hb dX9_few_0 rfl (lv_at hl 1 rfl) ?_
  refine lv_iconst (v := 1) hx hb dX9_few_1 (by decide) ?_
  refine lv_icmp_lt (tgt := 21) hx hb dX9_few_2 (by decide) (fun c_1 => ?_) (fun c_1 => ?_)
  · refine lv_ldc2 (v := (-1)) hx hb hown (hts (.constantLong RX9 291 (-1)) (by decide +kernel)) dX9_few_21 ?_
    exact kz_lret hx hb hr hlocks hP hK hD hS dX9_few_24 (Or.inl ⟨c_1, rfl, rfl⟩)
  · refine lv_iload_n hx hb dX9_few_5 rfl (lv_at hl 1 rfl) ?_
    refine lv_bipush (v := 20) hx hb dX9_few_6 (by decide) ?_
    refine lv_icmp_gt (tgt := 21) hx hb dX9_few_8 (by decide) (fun c_2 => ?_) (fun c_2 => ?_)
    · refine lv_ldc2 (v := (-1)) hx hb hown (hts (.constantLong RX9 291 (-1)) (by decide +kernel)) dX9_few_21 ?_
      exact kz_lret hx hb hr hlocks hP hK hD hS dX9_few_24 (Or.inr (Or.inl ⟨c_1, c_2, rfl, rfl⟩))
    · refine lv_iload_n hx hb dX9_few_11 rfl (lv_at hl 2 rfl) ?_
      refine lv_if_lt (tgt := 21) hx hb dX9_few_12 (by decide) (fun c_3 => ?_) (fun c_3 => ?_)
      · refine lv_ldc2 (v := (-1)) hx hb hown (hts (.constantLong RX9 291 (-1)) (by decide +kernel)) dX9_few_21 ?_
        exact kz_lret hx hb hr hlocks hP hK hD hS dX9_few_24 (Or.inr (Or.inr (Or.inl ⟨c_1, c_2, c_3, rfl, rfl⟩)))
      · refine lv_iload_n hx hb dX9_few_15 rfl (lv_at hl 2 rfl) ?_
        refine lv_bipush (v := 99) hx hb dX9_few_16 (by decide) ?_
        refine lv_icmp_le (tgt := 25) hx hb dX9_few_18 (by decide) (fun c_4 => ?_) (fun c_4 => ?_)
        · refine lv_aload_n hx hb dX9_few_25 rfl (lv_at hl 0 rfl) ?_
          refine va_get (D := D) (ci := 9) (v := .ref x_chances) (C := RX9) (T := TX9) (N := 19) hx hb hts (by decide +kernel) hown hK hP 0 rfl rfl 16 (by decide) (hts (.fieldLink RX9 101 "TurnedFloors" "chances" "[J") (by decide +kernel)) (fun _ h9 => h9) rfl dX9_few_26 ?_
          refine lv_lconst (v := 0) hx hb dX9_few_29 (by decide) ?_
          refine kz_kv (wc := [(x_chances, .inl (ty 1, 20, .inr (.inl (fun _ => 0))))]) (wr := [(x, .inr (9, [.ref x_state, .ref x_images, .ref x_kept, .ref x_history, .ref x_drawnTower, .ref x_machine, .ref x_judge, .ref x_runner, .ref x_reader, .ref x_draft, .ref x_paper, .ref x_tape, .int 0, .int (-1), .int 0, .int (-1), .ref x_chances, .ref x_refusals, .int 0])), (x_state, .inr (6, [.ref x_state_tower, .int 1, .int 0, .int 0, .ref x_state_seenPlace, .ref x_state_seenRank, .int 0, .ref x_state_laws, .int 0, .int (-1)]))]) (va_runS (As := [.ref x_chances, .long 0]) (rest := []) ⟨hx, hb, hml, hown, hts⟩ (cJ7_fillL l D ty eo _ x_chances 20 (fun _ => 0) 0 (by decide)) (va_cwS 2 hts gX9_few_J7_fill_d0a16 rfl rfl rfl (by decide +kernel) ⟨Nat.le_of_ble_eq_true rfl, Nat.le_of_ble_eq_true rfl⟩) (kz_preS hK hN hE hP hD hS hA [1] (by decide) rfl) rfl rfl hl.1 rfl (lv_room (Nat.le_of_ble_eq_true rfl)) dX9_few_30 ⟨Nat.le_of_ble_eq_true rfl, Nat.le_of_ble_eq_true rfl⟩) hP hD hS hA [1] [0, 2] rfl rfl (by decide) (by decide) (fun u H locs hw hp hd hs => ?_)
          obtain rfl := hw
          refine kz_re (w2 := [(x, .inr (9, [.ref x_state, .ref x_images, .ref x_kept, .ref x_history, .ref x_drawnTower, .ref x_machine, .ref x_judge, .ref x_runner, .ref x_reader, .ref x_draft, .ref x_paper, .ref x_tape, .int 0, .int (-1), .int 0, .int (-1), .ref x_chances, .ref x_refusals, .int 0])), (x_state, .inr (6, [.ref x_state_tower, .int 1, .int 0, .int 0, .ref x_state_seenPlace, .ref x_state_seenRank, .int 0, .ref x_state_laws, .int 0, .int (-1)])), (x_chances, .inl (ty 1, 20, .inr (.inl (kz_flL (fun _ => 0) 20 0))))]) hp hd hs rfl ?_
          clear hp hd hs hP hD hS
          intro hP hD hS
          refine lv_aload_n hx hb dX9_few_33 rfl (lv_at hl 0 rfl) ?_
          refine va_get (D := D) (ci := 9) (v := .ref x_chances) (C := RX9) (T := TX9) (N := 19) hx hb hts (by decide +kernel) hown hK hP 0 rfl rfl 16 (by decide) (hts (.fieldLink RX9 101 "TurnedFloors" "chances" "[J") (by decide +kernel)) (fun _ h9 => h9) rfl dX9_few_34 ?_
          refine lv_iconst (v := 0) hx hb dX9_few_37 (by decide) ?_
          refine lv_ldc2 (v := 1000000000000) hx hb hown (hts (.constantLong RX9 299 1000000000000) (by decide +kernel)) dX9_few_38 ?_
          refine va_last hx hb hK hP hD hS 2 1 rfl rfl (by simp only [vp_in]; decide) dX9_few_41 (fun H locs hp hd hs => ?_)
          refine kz_re (w2 := [(x, .inr (9, [.ref x_state, .ref x_images, .ref x_kept, .ref x_history, .ref x_drawnTower, .ref x_machine, .ref x_judge, .ref x_runner, .ref x_reader, .ref x_draft, .ref x_paper, .ref x_tape, .int 0, .int (-1), .int 0, .int (-1), .ref x_chances, .ref x_refusals, .int 0])), (x_state, .inr (6, [.ref x_state_tower, .int 1, .int 0, .int 0, .ref x_state_seenPlace, .ref x_state_seenRank, .int 0, .ref x_state_laws, .int 0, .int (-1)])), (x_chances, .inl (ty 1, 20, .inr (.inl (vp_updL (kz_flL (fun _ => 0) 20 0) 0 1000000000000))))]) hp hd hs rfl ?_
          clear hp hd hs hP hD hS
          intro hP hD hS
          refine lv_iconst (v := 0) hx hb dX9_few_42 (by decide) ?_
          refine lv_istore_n (lv' := [(3, .int 0), (0, .ref x), (1, .int p1), (2, .int p2)]) hx hb dX9_few_43 rfl hl (by decide) rfl (fun ls hl => ?_)
          obtain ⟨k, hk1, hk2, hk⟩ := kz_in (p := p1) (lo := 1) (hi := 20) (by simp only [Int32.lt_iff_toInt_lt, Int32.le_iff_toInt_le, Int32.reduceToInt] at c_1; omega) (by simp only [Int32.lt_iff_toInt_lt, Int32.le_iff_toInt_le, Int32.reduceToInt] at c_2; omega) (by decide)
          obtain ⟨n, -, hn2, hn⟩ := kz_in (p := p2) (lo := 0) (hi := 99) (by simp only [Int32.lt_iff_toInt_lt, Int32.le_iff_toInt_le, Int32.reduceToInt] at c_3; omega) (by simp only [Int32.lt_iff_toInt_lt, Int32.le_iff_toInt_le, Int32.reduceToInt] at c_4; omega) (by decide)
          have hF : ∀ j, j < k → (vp_updL (kz_flL (fun _ => 0) 20 0) 0 1000000000000) j = kz_F0 j := by
            intro j hj
            have hj20 : j < 20 := by omega
            simp only [vp_updL, kz_flL, kz_F0, if_pos hj20]
          generalize (vp_updL (kz_flL (fun _ => 0) 20 0) 0 1000000000000) = F at hP hD hF
          refine kz_loop n (fun i H locs ls => va_P D vwCl [(x, .inr (9, [.ref x_state, .ref x_images, .ref x_kept, .ref x_history, .ref x_drawnTower, .ref x_machine, .ref x_judge, .ref x_runner, .ref x_reader, .ref x_draft, .ref x_paper, .ref x_tape, .int 0, .int (-1), .int 0, .int (-1), .ref x_chances, .ref x_refusals, .int 0])), (x_state, .inr (6, [.ref x_state_tower, .int 1, .int 0, .int 0, .ref x_state_seenPlace, .ref x_state_seenRank, .int 0, .ref x_state_laws, .int 0, .int (-1)])), (x_chances, .inl (ty 1, 20, .inr (.inl (kz_G 9 1 k F i))))] H ∧ va_D A [(x, .inr (9, [.ref x_state, .ref x_images, .ref x_kept, .ref x_history, .ref x_drawnTower, .ref x_machine, .ref x_judge, .ref x_runner, .ref x_reader, .ref x_draft, .ref x_paper, .ref x_tape, .int 0, .int (-1), .int 0, .int (-1), .ref x_chances, .ref x_refusals, .int 0])), (x_state, .inr (6, [.ref x_state_tower, .int 1, .int 0, .int 0, .ref x_state_seenPlace, .ref x_state_seenRank, .int 0, .ref x_state_laws, .int 0, .int (-1)])), (x_chances, .inl (ty 1, 20, .inr (.inl (kz_G 9 1 k F i))))] ∧ va_S A s.heap H locs ∧ lv_has ls 9 [(3, .int (nI i)), (0, .ref x), (1, .int p1), (2, .int p2)]) (fun i H locs ls hi hI ih => ?_) _ _ _ ⟨hP, hD, hS, by rw [nI_0]; exact lv_sub hl [0, 1, 2, 3] rfl⟩
          obtain ⟨hP, hD, hS, hl⟩ := hI
          refine lv_iload_n hx hb dX9_few_44 rfl (lv_at hl 0 rfl) ?_
          refine lv_iload_n hx hb dX9_few_45 rfl (lv_at hl 3 rfl) ?_
          refine lv_icmp_ge (tgt := 141) hx hb dX9_few_46 (by decide) (fun h9 => ?_) (fun h9 => ?_)
          · obtain rfl : i = n := by
              rw [hn] at h9
              rcases Nat.lt_or_ge i n with q | q
              · exact absurd h9 (nI_ge q (by omega))
              · omega
            refine lv_lconst (v := 0) hx hb dX9_few_141 (by decide) ?_
            refine lv_lstore_n (lv' := [(3, .long 0), (0, .ref x), (1, .int p1), (2, .int p2)]) hx hb dX9_few_142 rfl hl (by decide) rfl (fun ls hl => ?_)
            refine lv_iconst (v := 0) hx hb dX9_few_143 (by decide) ?_
            refine lv_istore (lv' := [(5, .int 0), (3, .long 0), (0, .ref x), (1, .int p1), (2, .int p2)]) hx hb dX9_few_144 hl (by decide) rfl (fun ls hl => ?_)
            refine kz_loop k (fun j H locs ls => va_P D vwCl [(x, .inr (9, [.ref x_state, .ref x_images, .ref x_kept, .ref x_history, .ref x_drawnTower, .ref x_machine, .ref x_judge, .ref x_runner, .ref x_reader, .ref x_draft, .ref x_paper, .ref x_tape, .int 0, .int (-1), .int 0, .int (-1), .ref x_chances, .ref x_refusals, .int 0])), (x_state, .inr (6, [.ref x_state_tower, .int 1, .int 0, .int 0, .ref x_state_seenPlace, .ref x_state_seenRank, .int 0, .ref x_state_laws, .int 0, .int (-1)])), (x_chances, .inl (ty 1, 20, .inr (.inl (kz_G 9 1 k F i))))] H ∧ va_D A [(x, .inr (9, [.ref x_state, .ref x_images, .ref x_kept, .ref x_history, .ref x_drawnTower, .ref x_machine, .ref x_judge, .ref x_runner, .ref x_reader, .ref x_draft, .ref x_paper, .ref x_tape, .int 0, .int (-1), .int 0, .int (-1), .ref x_chances, .ref x_refusals, .int 0])), (x_state, .inr (6, [.ref x_state_tower, .int 1, .int 0, .int 0, .ref x_state_seenPlace, .ref x_state_seenRank, .int 0, .ref x_state_laws, .int 0, .int (-1)])), (x_chances, .inl (ty 1, 20, .inr (.inl (kz_G 9 1 k F i))))] ∧ va_S A s.heap H locs ∧ lv_has ls 9 [(5, .int (nI j)), (3, .long (kz_sum (kz_G 9 1 k F i) j)), (0, .ref x), (1, .int p1), (2, .int p2)]) (fun j H locs ls hj hI ih2 => ?_) _ _ _ ⟨hP, hD, hS, by rw [nI_0]; exact hl⟩
            obtain ⟨hP, hD, hS, hl⟩ := hI
            refine lv_iload hx hb dX9_few_146 (lv_at hl 0 rfl) ?_
            refine lv_iload_n hx hb dX9_few_148 rfl (lv_at hl 3 rfl) ?_
            refine lv_icmp_ge (tgt := 168) hx hb dX9_few_149 (by decide) (fun h8 => ?_) (fun h8 => ?_)
            · obtain rfl : j = k := by
                rw [hk] at h8
                rcases Nat.lt_or_ge j k with q | q
                · exact absurd h8 (nI_ge q (by omega))
                · omega
              refine lv_lload_n hx hb dX9_few_168 rfl (lv_at hl 1 rfl) ?_
              exact kz_lret hx hb hr hlocks hP hK hD hS dX9_few_169 (Or.inr (Or.inr (Or.inr (Or.inr ⟨kz_G 9 1 j F i, c_1, c_2, c_3, c_4, (by rw [hk, hn, nI_clamp (by omega), nI_clamp (by omega)]; exact (kz_few_of hF).symm), rfl⟩))))
            · have hjk : j < k := by
                rcases Nat.lt_or_ge j k with q | q
                · exact q
                · exact absurd (by rw [hk]; exact nI_le q (by omega)) h8
              refine lv_lload_n hx hb dX9_few_152 rfl (lv_at hl 1 rfl) ?_
              refine lv_aload_n hx hb dX9_few_153 rfl (lv_at hl 2 rfl) ?_
              refine va_get (D := D) (ci := 9) (v := .ref x_chances) (C := RX9) (T := TX9) (N := 19) hx hb hts (by decide +kernel) hown hK hP 0 rfl rfl 16 (by decide) (hts (.fieldLink RX9 101 "TurnedFloors" "chances" "[J") (by decide +kernel)) (fun _ h9 => h9) rfl dX9_few_154 ?_
              refine lv_iload hx hb dX9_few_157 (lv_at hl 0 rfl) ?_
              refine va_lald hx hb hK hP 2 1 rfl rfl (vp_in_nI (show j < 20 by omega) (by decide)) dX9_few_159 ?_
              refine lv_ladd hx hb dX9_few_160 ?_
              refine lv_lstore_n (lv' := [(3, .long ((kz_sum (kz_G 9 1 k F i) j) + ((kz_G 9 1 k F i) (Int32.toNatClampNeg (nI j))))), (5, .int (nI j)), (0, .ref x), (1, .int p1), (2, .int p2)]) hx hb dX9_few_161 rfl hl (by decide) rfl (fun ls hl => ?_)
              refine lv_iinc (v := (nI j) + 1) (lv' := [(5, .int ((nI j) + 1)), (3, .long ((kz_sum (kz_G 9 1 k F i) j) + ((kz_G 9 1 k F i) (Int32.toNatClampNeg (nI j))))), (0, .ref x), (1, .int p1), (2, .int p2)]) hx hb dX9_few_162 hl (k := 1) rfl rfl (by decide) rfl (fun ls hl => ?_)
              refine lv_goto (tgt := 146) hx hb dX9_few_165 (by decide) ?_
              refine ih2 _ _ _ hjk ⟨hP, hD, hS, ?_⟩
              have hl := lv_sub hl [0, 1, 2, 3, 4] rfl
              rw [nI_1, nI_clamp (show j < 2 ^ 31 by omega)] at hl
              exact hl
          · have hlt : i < n := by
              rcases Nat.lt_or_ge i n with q | q
              · exact q
              · exact absurd (by rw [hn]; exact nI_le q (by omega)) h9
            refine lv_iload_n hx hb dX9_few_49 rfl (lv_at hl 2 rfl) ?_
            refine lv_iconst (v := 1) hx hb dX9_few_50 (by decide) ?_
            refine lv_isub hx hb dX9_few_51 ?_
            refine lv_istore (lv' := [(4, .int (p1 - 1)), (3, .int (nI i)), (0, .ref x), (1, .int p1), (2, .int p2)]) hx hb dX9_few_52 hl (by decide) rfl (fun ls hl => ?_)
            have hl : lv_has ls 9 [(4, .int (kz_dn k 0)), (3, .int (nI i)), (0, .ref x), (1, .int p1), (2, .int p2)] := by
              rw [← kz_dn_0 (show 0 < k by omega), ← hk]
              exact hl
            refine kz_loop k (fun t H locs ls => va_P D vwCl [(x, .inr (9, [.ref x_state, .ref x_images, .ref x_kept, .ref x_history, .ref x_drawnTower, .ref x_machine, .ref x_judge, .ref x_runner, .ref x_reader, .ref x_draft, .ref x_paper, .ref x_tape, .int 0, .int (-1), .int 0, .int (-1), .ref x_chances, .ref x_refusals, .int 0])), (x_state, .inr (6, [.ref x_state_tower, .int 1, .int 0, .int 0, .ref x_state_seenPlace, .ref x_state_seenRank, .int 0, .ref x_state_laws, .int 0, .int (-1)])), (x_chances, .inl (ty 1, 20, .inr (.inl (kz_M 9 1 k (kz_G 9 1 k F i) t))))] H ∧ va_D A [(x, .inr (9, [.ref x_state, .ref x_images, .ref x_kept, .ref x_history, .ref x_drawnTower, .ref x_machine, .ref x_judge, .ref x_runner, .ref x_reader, .ref x_draft, .ref x_paper, .ref x_tape, .int 0, .int (-1), .int 0, .int (-1), .ref x_chances, .ref x_refusals, .int 0])), (x_state, .inr (6, [.ref x_state_tower, .int 1, .int 0, .int 0, .ref x_state_seenPlace, .ref x_state_seenRank, .int 0, .ref x_state_laws, .int 0, .int (-1)])), (x_chances, .inl (ty 1, 20, .inr (.inl (kz_M 9 1 k (kz_G 9 1 k F i) t))))] ∧ va_S A s.heap H locs ∧ lv_has ls 9 [(4, .int (kz_dn k t)), (3, .int (nI i)), (0, .ref x), (1, .int p1), (2, .int p2)]) (fun t H locs ls ht hI ih2 => ?_) _ _ _ ⟨by rw [kz_M_0]; exact hP, by rw [kz_M_0]; exact hD, hS, hl⟩
            obtain ⟨hP, hD, hS, hl⟩ := hI
            refine lv_iload hx hb dX9_few_54 (lv_at hl 0 rfl) ?_
            refine lv_if_lt (tgt := 135) hx hb dX9_few_56 (by decide) (fun h8 => ?_) (fun h8 => ?_)
            · have htk : t = k := by
                rcases Nat.lt_or_ge t k with q | q
                · rw [kz_dn_lt q] at h8; exact absurd h8 (nI_pos (by omega))
                · omega
              rw [htk, kz_M_k] at hP hD
              refine lv_iinc (v := nI (i + 1)) (lv' := [(3, .int (nI (i + 1))), (4, .int (kz_dn k t)), (0, .ref x), (1, .int p1), (2, .int p2)]) hx hb dX9_few_135 hl (k := 1) rfl (nI_1 i) (by decide) rfl (fun ls hl => ?_)
              refine lv_goto (tgt := 44) hx hb dX9_few_138 (by decide) ?_
              exact ih _ _ _ hlt ⟨hP, hD, hS, lv_sub hl [0, 2, 3, 4] rfl⟩
            · have htk : t < k := by
                rcases Nat.lt_or_ge t k with q | q
                · exact q
                · have e4 : t = k := by omega
                  rw [e4, kz_dn_k] at h8; exact absurd (by decide) h8
              have hdn := kz_dn_s htk
              rw [kz_dn_lt htk] at hl
              generalize hj : k - 1 - t = j at hl hdn
              rcases j with _ | j
              · skip
                refine lv_aload_n hx hb dX9_few_59 rfl (lv_at hl 2 rfl) ?_
                refine va_get (D := D) (ci := 9) (v := .ref x_chances) (C := RX9) (T := TX9) (N := 19) hx hb hts (by decide +kernel) hown hK hP 0 rfl rfl 16 (by decide) (hts (.fieldLink RX9 101 "TurnedFloors" "chances" "[J") (by decide +kernel)) (fun _ h9 => h9) rfl dX9_few_60 ?_
                refine lv_iload hx hb dX9_few_63 (lv_at hl 0 rfl) ?_
                refine kz_topi 0 (by first | exact nI_0 | (simp only [Int32.lt_iff_toInt_lt, Int32.le_iff_toInt_le, ← Int32.toInt_inj, Int32.reduceToInt] at nI_0 ⊢; omega)) ?_
                refine va_lald hx hb hK hP 2 1 rfl rfl (by simp only [vp_in]; decide) dX9_few_65 ?_
                refine kz_topl ((kz_M 9 1 k (kz_G 9 1 k F i) t) 0) (by first | rfl | decide +kernel) ?_
                refine lv_bipush (v := 10) hx hb dX9_few_66 (by decide) ?_
                refine lv_aload_n hx hb dX9_few_68 rfl (lv_at hl 2 rfl) ?_
                refine va_get (D := D) (ci := 9) (v := .ref x_state) (C := RX9) (T := TX9) (N := 19) hx hb hts (by decide +kernel) hown hK hP 0 rfl rfl 0 (by decide) (hts (.fieldLink RX9 10 "TurnedFloors" "state" "LTurnedFloors$State;") (by decide +kernel)) (fun _ h9 => h9) rfl dX9_few_69 ?_
                refine va_getN (D := D) (ci := 6) (v := .int 1) (C := RX6) (T := TX6) (N := 10) hx hb hts (by decide +kernel) hown hK hP 1 rfl rfl 1 (by decide) (hN.use (.fieldLinkNest "TurnedFloors" 301 "TurnedFloors$State" "slips" "I" "TurnedFloors") (by decide +kernel)) (fun _ h9 => h9) rfl dX9_few_72 ?_
                refine lv_isub hx hb dX9_few_75 ?_
                refine kz_topi 9 (by first | rfl | decide +kernel) ?_
                refine lv_i2l (v := 9) hx hb dX9_few_76 (by decide +kernel) ?_
                refine lv_lmul hx hb dX9_few_77 ?_
                refine lv_ldc2 (v := 10) hx hb hown (hts (.constantLong RX9 304 10) (by decide +kernel)) dX9_few_78 ?_
                refine lv_ldiv hx hb dX9_few_81 (by decide) ?_
                refine lv_lstore (lv' := [(5, .long ((((kz_M 9 1 k (kz_G 9 1 k F i) t) 0) * 9) / 10)), (4, .int (nI 0)), (3, .int (nI i)), (0, .ref x), (1, .int p1), (2, .int p2)]) hx hb dX9_few_82 hl (by decide) rfl (fun ls hl => ?_)
                refine lv_iload hx hb dX9_few_84 (lv_at hl 1 rfl) ?_
                refine kz_topi 0 (by first | exact nI_0 | (simp only [Int32.lt_iff_toInt_lt, Int32.le_iff_toInt_le, ← Int32.toInt_inj, Int32.reduceToInt] at nI_0 ⊢; omega)) ?_
                refine lv_if_ne (tgt := 93) hx hb dX9_few_86 (by decide) (fun h => absurd (by decide) h) (fun _ => ?_)
                refine lv_lconst (v := 0) hx hb dX9_few_89 (by decide) ?_
                refine lv_goto (tgt := 115) hx hb dX9_few_90 (by decide) ?_
                refine lv_lstore (lv' := [(7, .long 0), (5, .long ((((kz_M 9 1 k (kz_G 9 1 k F i) t) 0) * 9) / 10)), (4, .int (nI 0)), (3, .int (nI i)), (0, .ref x), (1, .int p1), (2, .int p2)]) hx hb dX9_few_115 hl (by decide) rfl (fun ls hl => ?_)
                refine lv_aload_n hx hb dX9_few_117 rfl (lv_at hl 4 rfl) ?_
                refine va_get (D := D) (ci := 9) (v := .ref x_chances) (C := RX9) (T := TX9) (N := 19) hx hb hts (by decide +kernel) hown hK hP 0 rfl rfl 16 (by decide) (hts (.fieldLink RX9 101 "TurnedFloors" "chances" "[J") (by decide +kernel)) (fun _ h9 => h9) rfl dX9_few_118 ?_
                refine lv_iload hx hb dX9_few_121 (lv_at hl 2 rfl) ?_
                refine kz_topi 0 (by first | exact nI_0 | (simp only [Int32.lt_iff_toInt_lt, Int32.le_iff_toInt_le, ← Int32.toInt_inj, Int32.reduceToInt] at nI_0 ⊢; omega)) ?_
                refine lv_lload hx hb dX9_few_123 (lv_at hl 1 rfl) ?_
                refine lv_lload hx hb dX9_few_125 (lv_at hl 0 rfl) ?_
                refine lv_ladd hx hb dX9_few_127 ?_
                refine va_last hx hb hK hP hD hS 2 1 rfl rfl (by simp only [vp_in]; decide) dX9_few_128 (fun H locs hp hd hs => ?_)
                refine kz_re (w2 := [(x, .inr (9, [.ref x_state, .ref x_images, .ref x_kept, .ref x_history, .ref x_drawnTower, .ref x_machine, .ref x_judge, .ref x_runner, .ref x_reader, .ref x_draft, .ref x_paper, .ref x_tape, .int 0, .int (-1), .int 0, .int (-1), .ref x_chances, .ref x_refusals, .int 0])), (x_state, .inr (6, [.ref x_state_tower, .int 1, .int 0, .int 0, .ref x_state_seenPlace, .ref x_state_seenRank, .int 0, .ref x_state_laws, .int 0, .int (-1)])), (x_chances, .inl (ty 1, 20, .inr (.inl (vp_updL (kz_M 9 1 k (kz_G 9 1 k F i) t) 0 (((((kz_M 9 1 k (kz_G 9 1 k F i) t) 0) * 9) / 10) + 0)))))]) hp hd hs rfl ?_
                clear hp hd hs hP hD hS
                intro hP hD hS
                refine lv_iinc (v := (nI 0) + (-1)) (lv' := [(4, .int ((nI 0) + (-1))), (7, .long 0), (5, .long ((((kz_M 9 1 k (kz_G 9 1 k F i) t) 0) * 9) / 10)), (3, .int (nI i)), (0, .ref x), (1, .int p1), (2, .int p2)]) hx hb dX9_few_129 hl (k := 2) rfl rfl (by decide) rfl (fun ls hl => ?_)
                refine lv_goto (tgt := 54) hx hb dX9_few_132 (by decide) ?_
                have e9 : vp_updL (kz_M 9 1 k (kz_G 9 1 k F i) t) 0 (((((kz_M 9 1 k (kz_G 9 1 k F i) t) 0) * 9) / 10) + 0) = kz_M 9 1 k (kz_G 9 1 k F i) (t + 1) := by
                  refine kz_M_s htk hj.symm ?_
                  rw [kz_M_at (show 0 < k - t by omega)]
                  simp only [kz_T]
                  rw [if_pos (show 0 < k by omega)]; exact (if_pos trivial).symm
                rw [e9] at hP hD
                refine ih2 _ _ _ htk ⟨hP, hD, hS, ?_⟩
                have hl := lv_sub hl [0, 3, 4, 5, 6] rfl
                rw [← hdn]
                exact hl
              · have hne : ¬ nI (j + 1) = 0 := nI_ne0 (by omega) (by omega)
                refine lv_aload_n hx hb dX9_few_59 rfl (lv_at hl 2 rfl) ?_
                refine va_get (D := D) (ci := 9) (v := .ref x_chances) (C := RX9) (T := TX9) (N := 19) hx hb hts (by decide +kernel) hown hK hP 0 rfl rfl 16 (by decide) (hts (.fieldLink RX9 101 "TurnedFloors" "chances" "[J") (by decide +kernel)) (fun _ h9 => h9) rfl dX9_few_60 ?_
                refine lv_iload hx hb dX9_few_63 (lv_at hl 0 rfl) ?_
                refine va_lald hx hb hK hP 2 1 rfl rfl (vp_in_nI (show j + 1 < 20 by omega) (by decide)) dX9_few_65 ?_
                refine lv_bipush (v := 10) hx hb dX9_few_66 (by decide) ?_
                refine lv_aload_n hx hb dX9_few_68 rfl (lv_at hl 2 rfl) ?_
                refine va_get (D := D) (ci := 9) (v := .ref x_state) (C := RX9) (T := TX9) (N := 19) hx hb hts (by decide +kernel) hown hK hP 0 rfl rfl 0 (by decide) (hts (.fieldLink RX9 10 "TurnedFloors" "state" "LTurnedFloors$State;") (by decide +kernel)) (fun _ h9 => h9) rfl dX9_few_69 ?_
                refine va_getN (D := D) (ci := 6) (v := .int 1) (C := RX6) (T := TX6) (N := 10) hx hb hts (by decide +kernel) hown hK hP 1 rfl rfl 1 (by decide) (hN.use (.fieldLinkNest "TurnedFloors" 301 "TurnedFloors$State" "slips" "I" "TurnedFloors") (by decide +kernel)) (fun _ h9 => h9) rfl dX9_few_72 ?_
                refine lv_isub hx hb dX9_few_75 ?_
                refine kz_topi 9 (by first | rfl | decide +kernel) ?_
                refine lv_i2l (v := 9) hx hb dX9_few_76 (by decide +kernel) ?_
                refine lv_lmul hx hb dX9_few_77 ?_
                refine lv_ldc2 (v := 10) hx hb hown (hts (.constantLong RX9 304 10) (by decide +kernel)) dX9_few_78 ?_
                refine lv_ldiv hx hb dX9_few_81 (by decide) ?_
                refine lv_lstore (lv' := [(5, .long ((((kz_M 9 1 k (kz_G 9 1 k F i) t) (Int32.toNatClampNeg (nI (j + 1)))) * 9) / 10)), (4, .int (nI (j + 1))), (3, .int (nI i)), (0, .ref x), (1, .int p1), (2, .int p2)]) hx hb dX9_few_82 hl (by decide) rfl (fun ls hl => ?_)
                refine lv_iload hx hb dX9_few_84 (lv_at hl 1 rfl) ?_
                refine lv_if_ne (tgt := 93) hx hb dX9_few_86 (by decide) (fun _ => ?_) (fun h => absurd h hne)
                refine lv_aload_n hx hb dX9_few_93 rfl (lv_at hl 3 rfl) ?_
                refine va_get (D := D) (ci := 9) (v := .ref x_chances) (C := RX9) (T := TX9) (N := 19) hx hb hts (by decide +kernel) hown hK hP 0 rfl rfl 16 (by decide) (hts (.fieldLink RX9 101 "TurnedFloors" "chances" "[J") (by decide +kernel)) (fun _ h9 => h9) rfl dX9_few_94 ?_
                refine lv_iload hx hb dX9_few_97 (lv_at hl 1 rfl) ?_
                refine lv_iconst (v := 1) hx hb dX9_few_99 (by decide) ?_
                refine lv_isub hx hb dX9_few_100 ?_
                refine va_lald hx hb hK hP 2 1 rfl rfl (by rw [nI_pred]; exact vp_in_nI (show j < 20 by omega) (by decide)) dX9_few_101 ?_
                refine lv_aload_n hx hb dX9_few_102 rfl (lv_at hl 3 rfl) ?_
                refine va_get (D := D) (ci := 9) (v := .ref x_state) (C := RX9) (T := TX9) (N := 19) hx hb hts (by decide +kernel) hown hK hP 0 rfl rfl 0 (by decide) (hts (.fieldLink RX9 10 "TurnedFloors" "state" "LTurnedFloors$State;") (by decide +kernel)) (fun _ h9 => h9) rfl dX9_few_103 ?_
                refine va_getN (D := D) (ci := 6) (v := .int 1) (C := RX6) (T := TX6) (N := 10) hx hb hts (by decide +kernel) hown hK hP 1 rfl rfl 1 (by decide) (hN.use (.fieldLinkNest "TurnedFloors" 301 "TurnedFloors$State" "slips" "I" "TurnedFloors") (by decide +kernel)) (fun _ h9 => h9) rfl dX9_few_106 ?_
                refine lv_i2l (v := 1) hx hb dX9_few_109 (by decide +kernel) ?_
                refine lv_lmul hx hb dX9_few_110 ?_
                refine lv_ldc2 (v := 10) hx hb hown (hts (.constantLong RX9 304 10) (by decide +kernel)) dX9_few_111 ?_
                refine lv_ldiv hx hb dX9_few_114 (by decide) ?_
                refine lv_lstore (lv' := [(7, .long ((((kz_M 9 1 k (kz_G 9 1 k F i) t) (Int32.toNatClampNeg ((nI (j + 1)) - 1))) * 1) / 10)), (5, .long ((((kz_M 9 1 k (kz_G 9 1 k F i) t) (Int32.toNatClampNeg (nI (j + 1)))) * 9) / 10)), (4, .int (nI (j + 1))), (3, .int (nI i)), (0, .ref x), (1, .int p1), (2, .int p2)]) hx hb dX9_few_115 hl (by decide) rfl (fun ls hl => ?_)
                refine lv_aload_n hx hb dX9_few_117 rfl (lv_at hl 4 rfl) ?_
                refine va_get (D := D) (ci := 9) (v := .ref x_chances) (C := RX9) (T := TX9) (N := 19) hx hb hts (by decide +kernel) hown hK hP 0 rfl rfl 16 (by decide) (hts (.fieldLink RX9 101 "TurnedFloors" "chances" "[J") (by decide +kernel)) (fun _ h9 => h9) rfl dX9_few_118 ?_
                refine lv_iload hx hb dX9_few_121 (lv_at hl 2 rfl) ?_
                refine lv_lload hx hb dX9_few_123 (lv_at hl 1 rfl) ?_
                refine lv_lload hx hb dX9_few_125 (lv_at hl 0 rfl) ?_
                refine lv_ladd hx hb dX9_few_127 ?_
                refine va_last hx hb hK hP hD hS 2 1 rfl rfl (vp_in_nI (show j + 1 < 20 by omega) (by decide)) dX9_few_128 (fun H locs hp hd hs => ?_)
                refine kz_re (w2 := [(x, .inr (9, [.ref x_state, .ref x_images, .ref x_kept, .ref x_history, .ref x_drawnTower, .ref x_machine, .ref x_judge, .ref x_runner, .ref x_reader, .ref x_draft, .ref x_paper, .ref x_tape, .int 0, .int (-1), .int 0, .int (-1), .ref x_chances, .ref x_refusals, .int 0])), (x_state, .inr (6, [.ref x_state_tower, .int 1, .int 0, .int 0, .ref x_state_seenPlace, .ref x_state_seenRank, .int 0, .ref x_state_laws, .int 0, .int (-1)])), (x_chances, .inl (ty 1, 20, .inr (.inl (vp_updL (kz_M 9 1 k (kz_G 9 1 k F i) t) (Int32.toNatClampNeg (nI (j + 1))) (((((kz_M 9 1 k (kz_G 9 1 k F i) t) (Int32.toNatClampNeg (nI (j + 1)))) * 9) / 10) + ((((kz_M 9 1 k (kz_G 9 1 k F i) t) (Int32.toNatClampNeg ((nI (j + 1)) - 1))) * 1) / 10))))))]) hp hd hs rfl ?_
                clear hp hd hs hP hD hS
                intro hP hD hS
                refine lv_iinc (v := (nI (j + 1)) + (-1)) (lv' := [(4, .int ((nI (j + 1)) + (-1))), (7, .long ((((kz_M 9 1 k (kz_G 9 1 k F i) t) (Int32.toNatClampNeg ((nI (j + 1)) - 1))) * 1) / 10)), (5, .long ((((kz_M 9 1 k (kz_G 9 1 k F i) t) (Int32.toNatClampNeg (nI (j + 1)))) * 9) / 10)), (3, .int (nI i)), (0, .ref x), (1, .int p1), (2, .int p2)]) hx hb dX9_few_129 hl (k := 2) rfl rfl (by decide) rfl (fun ls hl => ?_)
                refine lv_goto (tgt := 54) hx hb dX9_few_132 (by decide) ?_
                have e9 : vp_updL (kz_M 9 1 k (kz_G 9 1 k F i) t) (Int32.toNatClampNeg (nI (j + 1))) (((((kz_M 9 1 k (kz_G 9 1 k F i) t) (Int32.toNatClampNeg (nI (j + 1)))) * 9) / 10) + ((((kz_M 9 1 k (kz_G 9 1 k F i) t) (Int32.toNatClampNeg ((nI (j + 1)) - 1))) * 1) / 10)) = kz_M 9 1 k (kz_G 9 1 k F i) (t + 1) := by
                  rw [nI_clamp (show j + 1 < 2 ^ 31 by omega), nI_pred, nI_clamp (show j < 2 ^ 31 by omega)]
                  refine kz_M_s htk hj.symm ?_
                  rw [kz_M_at (show j + 1 < k - t by omega), kz_M_at (show j < k - t by omega)]
                  simp only [kz_T]
                  rw [if_pos (show j + 1 < k by omega), if_neg (show ¬ j + 1 = 0 by omega)]
                  rfl
                rw [e9] at hP hD
                refine ih2 _ _ _ htk ⟨hP, hD, hS, ?_⟩
                have hl := lv_sub hl [0, 3, 4, 5, 6] rfl
                rw [← hdn]
                exact hl
        · refine lv_ldc2 (v := (-1)) hx hb hown (hts (.constantLong RX9 291 (-1)) (by decide +kernel)) dX9_few_21 ?_
          exact kz_lret hx hb hr hlocks hP hK hD hS dX9_few_24 (Or.inr (Or.inr (Or.inr (Or.inl ⟨c_1, c_2, c_3, c_4, rfl, rfl⟩))))
