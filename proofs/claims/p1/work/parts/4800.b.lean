set_option maxHeartbeats 4000000 in
set_option maxRecDepth 100000 in
theorem fX10_few (l : Launch) (D : va_G) (ty : Nat → ClassId) (eo : Nat → Nat) (sz : Nat) (mo mo_refused mo_kept mo_images mo_hasImage mo_aside mo_words mo_tape mo_five mo_code mo_value mo_placed mo_asked mo_tipping mo_left0 mo_leftAhead mo_rankAt mo_orderBy mo_headsBy mo_line mo_price mo_dist mo_rowMany mo_queue mo_waits mo_alike mo_shares mo_drawnMoved : Nat) (p1 p2 : Int32) : Met l yX10_few wsX10_few ({ frames := 1, cells := 0, slots := 0, locals := 22 }) (va_Pc [.ref mo, .int p1, .int p2] (kz_pre D ty eo [(mo, .inr (10, [.int 0, .ref mo_refused, .ref mo_kept, .ref mo_images, .ref mo_hasImage, .ref mo_aside, .int 0, .ref mo_words, .int 0, .int 0, .int 0, .ref mo_tape, .ref mo_five, .int 0, .int (-1), .ref mo_code, .ref mo_value, .ref mo_placed, .int 0, .int 0, .int 0, .int 0, .int 0, .int 0, .int 0, .int 0, .ref mo_asked, .int 0, .int 0, .ref mo_tipping, .ref mo_left0, .ref mo_leftAhead, .int 0, .ref mo_rankAt, .ref mo_orderBy, .ref mo_headsBy, .ref mo_line, .int 0, .int 0, .ref mo_price, .ref mo_dist, .ref mo_rowMany, .ref mo_queue, .ref mo_waits, .ref mo_alike, .ref mo_shares, .int (-1), .int 0, .int 0, .int 0, .int 0, .int 0, .long 0, .ref mo_drawnMoved, .int (-1), .int 0])), (mo_shares, .inl (ty 1, 21, .inr (.inl (fun _ => 0)))), (mo_kept, .inl (ty 0, 5640, .inl (upd (upd (fun _ => 0) 26 1) 32 (-1))))] sz)) (va_Ql (fun (r : Int64) (u : va_W) => (p1 < 1 ∧ (-1) = r ∧ [(mo, .inr (10, [.int 0, .ref mo_refused, .ref mo_kept, .ref mo_images, .ref mo_hasImage, .ref mo_aside, .int 0, .ref mo_words, .int 0, .int 0, .int 0, .ref mo_tape, .ref mo_five, .int 0, .int (-1), .ref mo_code, .ref mo_value, .ref mo_placed, .int 0, .int 0, .int 0, .int 0, .int 0, .int 0, .int 0, .int 0, .ref mo_asked, .int 0, .int 0, .ref mo_tipping, .ref mo_left0, .ref mo_leftAhead, .int 0, .ref mo_rankAt, .ref mo_orderBy, .ref mo_headsBy, .ref mo_line, .int 0, .int 0, .ref mo_price, .ref mo_dist, .ref mo_rowMany, .ref mo_queue, .ref mo_waits, .ref mo_alike, .ref mo_shares, .int (-1), .int 0, .int 0, .int 0, .int 0, .int 0, .long 0, .ref mo_drawnMoved, .int (-1), .int 0])), (mo_shares, .inl (ty 1, 21, .inr (.inl (fun _ => 0)))), (mo_kept, .inl (ty 0, 5640, .inl (upd (upd (fun _ => 0) 26 1) 32 (-1))))] = u) ∨ (¬ p1 < 1 ∧ 20 < p1 ∧ (-1) = r ∧ [(mo, .inr (10, [.int 0, .ref mo_refused, .ref mo_kept, .ref mo_images, .ref mo_hasImage, .ref mo_aside, .int 0, .ref mo_words, .int 0, .int 0, .int 0, .ref mo_tape, .ref mo_five, .int 0, .int (-1), .ref mo_code, .ref mo_value, .ref mo_placed, .int 0, .int 0, .int 0, .int 0, .int 0, .int 0, .int 0, .int 0, .ref mo_asked, .int 0, .int 0, .ref mo_tipping, .ref mo_left0, .ref mo_leftAhead, .int 0, .ref mo_rankAt, .ref mo_orderBy, .ref mo_headsBy, .ref mo_line, .int 0, .int 0, .ref mo_price, .ref mo_dist, .ref mo_rowMany, .ref mo_queue, .ref mo_waits, .ref mo_alike, .ref mo_shares, .int (-1), .int 0, .int 0, .int 0, .int 0, .int 0, .long 0, .ref mo_drawnMoved, .int (-1), .int 0])), (mo_shares, .inl (ty 1, 21, .inr (.inl (fun _ => 0)))), (mo_kept, .inl (ty 0, 5640, .inl (upd (upd (fun _ => 0) 26 1) 32 (-1))))] = u) ∨ (¬ p1 < 1 ∧ ¬ 20 < p1 ∧ p2 < 0 ∧ (-1) = r ∧ [(mo, .inr (10, [.int 0, .ref mo_refused, .ref mo_kept, .ref mo_images, .ref mo_hasImage, .ref mo_aside, .int 0, .ref mo_words, .int 0, .int 0, .int 0, .ref mo_tape, .ref mo_five, .int 0, .int (-1), .ref mo_code, .ref mo_value, .ref mo_placed, .int 0, .int 0, .int 0, .int 0, .int 0, .int 0, .int 0, .int 0, .ref mo_asked, .int 0, .int 0, .ref mo_tipping, .ref mo_left0, .ref mo_leftAhead, .int 0, .ref mo_rankAt, .ref mo_orderBy, .ref mo_headsBy, .ref mo_line, .int 0, .int 0, .ref mo_price, .ref mo_dist, .ref mo_rowMany, .ref mo_queue, .ref mo_waits, .ref mo_alike, .ref mo_shares, .int (-1), .int 0, .int 0, .int 0, .int 0, .int 0, .long 0, .ref mo_drawnMoved, .int (-1), .int 0])), (mo_shares, .inl (ty 1, 21, .inr (.inl (fun _ => 0)))), (mo_kept, .inl (ty 0, 5640, .inl (upd (upd (fun _ => 0) 26 1) 32 (-1))))] = u) ∨ (¬ p1 < 1 ∧ ¬ 20 < p1 ∧ ¬ p2 < 0 ∧ 99 < p2 ∧ (-1) = r ∧ [(mo, .inr (10, [.int 0, .ref mo_refused, .ref mo_kept, .ref mo_images, .ref mo_hasImage, .ref mo_aside, .int 0, .ref mo_words, .int 0, .int 0, .int 0, .ref mo_tape, .ref mo_five, .int 0, .int (-1), .ref mo_code, .ref mo_value, .ref mo_placed, .int 0, .int 0, .int 0, .int 0, .int 0, .int 0, .int 0, .int 0, .ref mo_asked, .int 0, .int 0, .ref mo_tipping, .ref mo_left0, .ref mo_leftAhead, .int 0, .ref mo_rankAt, .ref mo_orderBy, .ref mo_headsBy, .ref mo_line, .int 0, .int 0, .ref mo_price, .ref mo_dist, .ref mo_rowMany, .ref mo_queue, .ref mo_waits, .ref mo_alike, .ref mo_shares, .int (-1), .int 0, .int 0, .int 0, .int 0, .int 0, .long 0, .ref mo_drawnMoved, .int (-1), .int 0])), (mo_shares, .inl (ty 1, 21, .inr (.inl (fun _ => 0)))), (mo_kept, .inl (ty 0, 5640, .inl (upd (upd (fun _ => 0) 26 1) 32 (-1))))] = u) ∨ (∃ fz : Nat → Int64, ¬ p1 < 1 ∧ ¬ 20 < p1 ∧ ¬ p2 < 0 ∧ ¬ 99 < p2 ∧ (kz_few 9 1 (Int32.toNatClampNeg p1) (Int32.toNatClampNeg p2)) = r ∧ [(mo, .inr (10, [.int 0, .ref mo_refused, .ref mo_kept, .ref mo_images, .ref mo_hasImage, .ref mo_aside, .int 0, .ref mo_words, .int 0, .int 0, .int 0, .ref mo_tape, .ref mo_five, .int 0, .int (-1), .ref mo_code, .ref mo_value, .ref mo_placed, .int 0, .int 0, .int 0, .int 0, .int 0, .int 0, .int 0, .int 0, .ref mo_asked, .int 0, .int 0, .ref mo_tipping, .ref mo_left0, .ref mo_leftAhead, .int 0, .ref mo_rankAt, .ref mo_orderBy, .ref mo_headsBy, .ref mo_line, .int 0, .int 0, .ref mo_price, .ref mo_dist, .ref mo_rowMany, .ref mo_queue, .ref mo_waits, .ref mo_alike, .ref mo_shares, .int (-1), .int 0, .int 0, .int 0, .int 0, .int 0, .long 0, .ref mo_drawnMoved, .int (-1), .int 0])), (mo_shares, .inl (ty 1, 21, .inr (.inl fz))), (mo_kept, .inl (ty 0, 5640, .inl (upd (upd (fun _ => 0) 26 1) 32 (-1))))] = u)) (kz_B D ty (va_A [(mo, .inr (10, [.int 0, .ref mo_refused, .ref mo_kept, .ref mo_images, .ref mo_hasImage, .ref mo_aside, .int 0, .ref mo_words, .int 0, .int 0, .int 0, .ref mo_tape, .ref mo_five, .int 0, .int (-1), .ref mo_code, .ref mo_value, .ref mo_placed, .int 0, .int 0, .int 0, .int 0, .int 0, .int 0, .int 0, .int 0, .ref mo_asked, .int 0, .int 0, .ref mo_tipping, .ref mo_left0, .ref mo_leftAhead, .int 0, .ref mo_rankAt, .ref mo_orderBy, .ref mo_headsBy, .ref mo_line, .int 0, .int 0, .ref mo_price, .ref mo_dist, .ref mo_rowMany, .ref mo_queue, .ref mo_waits, .ref mo_alike, .ref mo_shares, .int (-1), .int 0, .int 0, .int 0, .int 0, .int 0, .long 0, .ref mo_drawnMoved, .int (-1), .int 0])), (mo_shares, .inl (ty 1, 21, .inr (.inl (fun _ => 0)))), (mo_kept, .inl (ty 0, 5640, .inl (upd (upd (fun _ => 0) 26 1) 32 (-1))))] sz)) (va_A [(mo, .inr (10, [.int 0, .ref mo_refused, .ref mo_kept, .ref mo_images, .ref mo_hasImage, .ref mo_aside, .int 0, .ref mo_words, .int 0, .int 0, .int 0, .ref mo_tape, .ref mo_five, .int 0, .int (-1), .ref mo_code, .ref mo_value, .ref mo_placed, .int 0, .int 0, .int 0, .int 0, .int 0, .int 0, .int 0, .int 0, .ref mo_asked, .int 0, .int 0, .ref mo_tipping, .ref mo_left0, .ref mo_leftAhead, .int 0, .ref mo_rankAt, .ref mo_orderBy, .ref mo_headsBy, .ref mo_line, .int 0, .int 0, .ref mo_price, .ref mo_dist, .ref mo_rowMany, .ref mo_queue, .ref mo_waits, .ref mo_alike, .ref mo_shares, .int (-1), .int 0, .int 0, .int 0, .int 0, .int 0, .long 0, .ref mo_drawnMoved, .int (-1), .int 0])), (mo_shares, .inl (ty 1, 21, .inr (.inl (fun _ => 0)))), (mo_kept, .inl (ty 0, 5640, .inl (upd (upd (fun _ => 0) 26 1) 32 (-1))))] sz)) 0 0 (va_A [(mo, .inr (10, [.int 0, .ref mo_refused, .ref mo_kept, .ref mo_images, .ref mo_hasImage, .ref mo_aside, .int 0, .ref mo_words, .int 0, .int 0, .int 0, .ref mo_tape, .ref mo_five, .int 0, .int (-1), .ref mo_code, .ref mo_value, .ref mo_placed, .int 0, .int 0, .int 0, .int 0, .int 0, .int 0, .int 0, .int 0, .ref mo_asked, .int 0, .int 0, .ref mo_tipping, .ref mo_left0, .ref mo_leftAhead, .int 0, .ref mo_rankAt, .ref mo_orderBy, .ref mo_headsBy, .ref mo_line, .int 0, .int 0, .ref mo_price, .ref mo_dist, .ref mo_rowMany, .ref mo_queue, .ref mo_waits, .ref mo_alike, .ref mo_shares, .int (-1), .int 0, .int 0, .int 0, .int 0, .int 0, .long 0, .ref mo_drawnMoved, .int (-1), .int 0])), (mo_shares, .inl (ty 1, 21, .inr (.inl (fun _ => 0)))), (mo_kept, .inl (ty 0, 5640, .inl (upd (upd (fun _ => 0) 26 1) 32 (-1))))] sz) := by
  refine Met.ofW (cc := cX10_few) (maxL := 6) (ret := (some .long)) (by decide) rfl ?_
  intro p e s m args below meth c s₁ B hml hv
  obtain ⟨rfl, hsz, hP, hK, hD0, hN, hE⟩ := hv
  have hx := B.exec
  have hb := B.bytes
  have hr := B.returns
  have hts := atoms_spec (ws := wsX10_few) B.pre
  have hown : s.vm.findClass RX10 = some m.cls := findClass_of_methodNamed B.named
  have hlocks := B.notSynchronized
  subst hsz
  have hD := hD0.self (sz := s.heap.size)
  generalize hAe : va_A [(mo, .inr (10, [.int 0, .ref mo_refused, .ref mo_kept, .ref mo_images, .ref mo_hasImage, .ref mo_aside, .int 0, .ref mo_words, .int 0, .int 0, .int 0, .ref mo_tape, .ref mo_five, .int 0, .int (-1), .ref mo_code, .ref mo_value, .ref mo_placed, .int 0, .int 0, .int 0, .int 0, .int 0, .int 0, .int 0, .int 0, .ref mo_asked, .int 0, .int 0, .ref mo_tipping, .ref mo_left0, .ref mo_leftAhead, .int 0, .ref mo_rankAt, .ref mo_orderBy, .ref mo_headsBy, .ref mo_line, .int 0, .int 0, .ref mo_price, .ref mo_dist, .ref mo_rowMany, .ref mo_queue, .ref mo_waits, .ref mo_alike, .ref mo_shares, .int (-1), .int 0, .int 0, .int 0, .int 0, .int 0, .long 0, .ref mo_drawnMoved, .int (-1), .int 0])), (mo_shares, .inl (ty 1, 21, .inr (.inl (fun _ => 0)))), (mo_kept, .inl (ty 0, 5640, .inl (upd (upd (fun _ => 0) 26 1) 32 (-1))))] s.heap.size = A at hD hE ⊢
  have hA : ∀ q : Nat, s.heap.size ≤ q → A q := fun q h => by rw [← hAe]; exact Or.inr h
  have hS : va_S A s.heap s.heap [] := va_S.rf
  have hl := lv_entry ([.ref mo, .int p1, .int p2]) (n := 6) (Nat.le_of_ble_eq_true rfl)
  rw [lg_entry_eq]
  generalize (lg_sl ([.ref mo, .int p1, .int p2]) ++ List.replicate (6 - (lg_sl ([.ref mo, .int p1, .int p2])).length) Slot.unset).toArray = ls at hl ⊢
  have hl : lv_has ls 6 [(0, .ref mo), (1, .int p1), (2, .int p2)] := hl
  refine lv_iload_n hx hb dX10_few_0 rfl (lv_at hl 1 rfl) ?_
  refine lv_iconst (v := 1) hx hb dX10_few_1 (by decide) ?_
  refine lv_bipush (v := 20) hx hb dX10_few_2 (by decide) ?_
  refine kz_ki (wc := []) (wr := [(mo, .inr (10, [.int 0, .ref mo_refused, .ref mo_kept, .ref mo_images, .ref mo_hasImage, .ref mo_aside, .int 0, .ref mo_words, .int 0, .int 0, .int 0, .ref mo_tape, .ref mo_five, .int 0, .int (-1), .ref mo_code, .ref mo_value, .ref mo_placed, .int 0, .int 0, .int 0, .int 0, .int 0, .int 0, .int 0, .int 0, .ref mo_asked, .int 0, .int 0, .ref mo_tipping, .ref mo_left0, .ref mo_leftAhead, .int 0, .ref mo_rankAt, .ref mo_orderBy, .ref mo_headsBy, .ref mo_line, .int 0, .int 0, .ref mo_price, .ref mo_dist, .ref mo_rowMany, .ref mo_queue, .ref mo_waits, .ref mo_alike, .ref mo_shares, .int (-1), .int 0, .int 0, .int 0, .int 0, .int 0, .long 0, .ref mo_drawnMoved, .int (-1), .int 0])), (mo_shares, .inl (ty 1, 21, .inr (.inl (fun _ => 0)))), (mo_kept, .inl (ty 0, 5640, .inl (upd (upd (fun _ => 0) 26 1) 32 (-1))))]) (va_runS (As := [.int p1, .int 1, .int 20]) (rest := []) ⟨hx, hb, hml, hown, hts⟩ (kcX10_lies l D ty eo _ p1 1 20) (va_cwS 3 hts gX10_few_X10_lies rfl rfl rfl (by decide +kernel) ⟨Nat.le_of_ble_eq_true rfl, Nat.le_of_ble_eq_true rfl⟩) (kz_preS hK hN hE hP hD hS hA [] (by decide) rfl) rfl rfl hl.1 rfl (lv_room (Nat.le_of_ble_eq_true rfl)) dX10_few_4 ⟨Nat.le_of_ble_eq_true rfl, Nat.le_of_ble_eq_true rfl⟩) hP hD hS hA [] [0, 1, 2] rfl rfl (by decide) (by decide) (fun r u H locs hw hp hd hs => ?_)
  rcases hw with ⟨c_1, rfl, rfl⟩ | ⟨c_2, c_3, rfl, rfl⟩ | ⟨c_4, c_5, rfl, rfl⟩
  · refine kz_re (w2 := [(mo, .inr (10, [.int 0, .ref mo_refused, .ref mo_kept, .ref mo_images, .ref mo_hasImage, .ref mo_aside, .int 0, .ref mo_words, .int 0, .int 0, .int 0, .ref mo_tape, .ref mo_five, .int 0, .int (-1), .ref mo_code, .ref mo_value, .ref mo_placed, .int 0, .int 0, .int 0, .int 0, .int 0, .int 0, .int 0, .int 0, .ref mo_asked, .int 0, .int 0, .ref mo_tipping, .ref mo_left0, .ref mo_leftAhead, .int 0, .ref mo_rankAt, .ref mo_orderBy, .ref mo_headsBy, .ref mo_line, .int 0, .int 0, .ref mo_price, .ref mo_dist, .ref mo_rowMany, .ref mo_queue, .ref mo_waits, .ref mo_alike, .ref mo_shares, .int (-1), .int 0, .int 0, .int 0, .int 0, .int 0, .long 0, .ref mo_drawnMoved, .int (-1), .int 0])), (mo_shares, .inl (ty 1, 21, .inr (.inl (fun _ => 0)))), (mo_kept, .inl (ty 0, 5640, .inl (upd (upd (fun _ => 0) 26 1) 32 (-1))))]) hp hd hs rfl ?_
    clear hp hd hs hP hD hS
    intro hP hD hS
    refine lv_if_eq (tgt := 20) hx hb dX10_few_7 (by decide) (fun _ => ?_) (fun h => absurd (by decide) h)
    refine lv_ldc2 (v := (-1)) hx hb hown (hts (.constantLong RX10 466 (-1)) (by decide +kernel)) dX10_few_20 ?_
    exact kz_lret hx hb hr hlocks hP hK hD hS dX10_few_23 (Or.inl ⟨c_1, rfl, rfl⟩)
  · refine kz_re (w2 := [(mo, .inr (10, [.int 0, .ref mo_refused, .ref mo_kept, .ref mo_images, .ref mo_hasImage, .ref mo_aside, .int 0, .ref mo_words, .int 0, .int 0, .int 0, .ref mo_tape, .ref mo_five, .int 0, .int (-1), .ref mo_code, .ref mo_value, .ref mo_placed, .int 0, .int 0, .int 0, .int 0, .int 0, .int 0, .int 0, .int 0, .ref mo_asked, .int 0, .int 0, .ref mo_tipping, .ref mo_left0, .ref mo_leftAhead, .int 0, .ref mo_rankAt, .ref mo_orderBy, .ref mo_headsBy, .ref mo_line, .int 0, .int 0, .ref mo_price, .ref mo_dist, .ref mo_rowMany, .ref mo_queue, .ref mo_waits, .ref mo_alike, .ref mo_shares, .int (-1), .int 0, .int 0, .int 0, .int 0, .int 0, .long 0, .ref mo_drawnMoved, .int (-1), .int 0])), (mo_shares, .inl (ty 1, 21, .inr (.inl (fun _ => 0)))), (mo_kept, .inl (ty 0, 5640, .inl (upd (upd (fun _ => 0) 26 1) 32 (-1))))]) hp hd hs rfl ?_
    clear hp hd hs hP hD hS
    intro hP hD hS
    refine lv_if_eq (tgt := 20) hx hb dX10_few_7 (by decide) (fun _ => ?_) (fun h => absurd (by decide) h)
    refine lv_ldc2 (v := (-1)) hx hb hown (hts (.constantLong RX10 466 (-1)) (by decide +kernel)) dX10_few_20 ?_
    exact kz_lret hx hb hr hlocks hP hK hD hS dX10_few_23 (Or.inr (Or.inl ⟨c_2, c_3, rfl, rfl⟩))
  · refine kz_re (w2 := [(mo, .inr (10, [.int 0, .ref mo_refused, .ref mo_kept, .ref mo_images, .ref mo_hasImage, .ref mo_aside, .int 0, .ref mo_words, .int 0, .int 0, .int 0, .ref mo_tape, .ref mo_five, .int 0, .int (-1), .ref mo_code, .ref mo_value, .ref mo_placed, .int 0, .int 0, .int 0, .int 0, .int 0, .int 0, .int 0, .int 0, .ref mo_asked, .int 0, .int 0, .ref mo_tipping, .ref mo_left0, .ref mo_leftAhead, .int 0, .ref mo_rankAt, .ref mo_orderBy, .ref mo_headsBy, .ref mo_line, .int 0, .int 0, .ref mo_price, .ref mo_dist, .ref mo_rowMany, .ref mo_queue, .ref mo_waits, .ref mo_alike, .ref mo_shares, .int (-1), .int 0, .int 0, .int 0, .int 0, .int 0, .long 0, .ref mo_drawnMoved, .int (-1), .int 0])), (mo_shares, .inl (ty 1, 21, .inr (.inl (fun _ => 0)))), (mo_kept, .inl (ty 0, 5640, .inl (upd (upd (fun _ => 0) 26 1) 32 (-1))))]) hp hd hs rfl ?_
    clear hp hd hs hP hD hS
    intro hP hD hS
    refine lv_if_eq (tgt := 20) hx hb dX10_few_7 (by decide) (fun h => absurd h (by decide)) (fun _ => ?_)
    refine lv_iload_n hx hb dX10_few_10 rfl (lv_at hl 2 rfl) ?_
    refine lv_iconst (v := 0) hx hb dX10_few_11 (by decide) ?_
    refine lv_bipush (v := 99) hx hb dX10_few_12 (by decide) ?_
    refine kz_ki (wc := []) (wr := [(mo, .inr (10, [.int 0, .ref mo_refused, .ref mo_kept, .ref mo_images, .ref mo_hasImage, .ref mo_aside, .int 0, .ref mo_words, .int 0, .int 0, .int 0, .ref mo_tape, .ref mo_five, .int 0, .int (-1), .ref mo_code, .ref mo_value, .ref mo_placed, .int 0, .int 0, .int 0, .int 0, .int 0, .int 0, .int 0, .int 0, .ref mo_asked, .int 0, .int 0, .ref mo_tipping, .ref mo_left0, .ref mo_leftAhead, .int 0, .ref mo_rankAt, .ref mo_orderBy, .ref mo_headsBy, .ref mo_line, .int 0, .int 0, .ref mo_price, .ref mo_dist, .ref mo_rowMany, .ref mo_queue, .ref mo_waits, .ref mo_alike, .ref mo_shares, .int (-1), .int 0, .int 0, .int 0, .int 0, .int 0, .long 0, .ref mo_drawnMoved, .int (-1), .int 0])), (mo_shares, .inl (ty 1, 21, .inr (.inl (fun _ => 0)))), (mo_kept, .inl (ty 0, 5640, .inl (upd (upd (fun _ => 0) 26 1) 32 (-1))))]) (va_runS (As := [.int p2, .int 0, .int 99]) (rest := []) ⟨hx, hb, hml, hown, hts⟩ (kcX10_lies l D ty eo _ p2 0 99) (va_cwS 3 hts gX10_few_X10_lies rfl rfl rfl (by decide +kernel) ⟨Nat.le_of_ble_eq_true rfl, Nat.le_of_ble_eq_true rfl⟩) (kz_preS hK hN hE hP hD hS hA [] (by decide) rfl) rfl rfl hl.1 rfl (lv_room (Nat.le_of_ble_eq_true rfl)) dX10_few_14 ⟨Nat.le_of_ble_eq_true rfl, Nat.le_of_ble_eq_true rfl⟩) hP hD hS hA [] [0, 1, 2] rfl rfl (by decide) (by decide) (fun r u H locs hw hp hd hs => ?_)
    rcases hw with ⟨c_6, rfl, rfl⟩ | ⟨c_7, c_8, rfl, rfl⟩ | ⟨c_9, c_10, rfl, rfl⟩
    · refine kz_re (w2 := [(mo, .inr (10, [.int 0, .ref mo_refused, .ref mo_kept, .ref mo_images, .ref mo_hasImage, .ref mo_aside, .int 0, .ref mo_words, .int 0, .int 0, .int 0, .ref mo_tape, .ref mo_five, .int 0, .int (-1), .ref mo_code, .ref mo_value, .ref mo_placed, .int 0, .int 0, .int 0, .int 0, .int 0, .int 0, .int 0, .int 0, .ref mo_asked, .int 0, .int 0, .ref mo_tipping, .ref mo_left0, .ref mo_leftAhead, .int 0, .ref mo_rankAt, .ref mo_orderBy, .ref mo_headsBy, .ref mo_line, .int 0, .int 0, .ref mo_price, .ref mo_dist, .ref mo_rowMany, .ref mo_queue, .ref mo_waits, .ref mo_alike, .ref mo_shares, .int (-1), .int 0, .int 0, .int 0, .int 0, .int 0, .long 0, .ref mo_drawnMoved, .int (-1), .int 0])), (mo_shares, .inl (ty 1, 21, .inr (.inl (fun _ => 0)))), (mo_kept, .inl (ty 0, 5640, .inl (upd (upd (fun _ => 0) 26 1) 32 (-1))))]) hp hd hs rfl ?_
      clear hp hd hs hP hD hS
      intro hP hD hS
      refine lv_if_ne (tgt := 24) hx hb dX10_few_17 (by decide) (fun h => absurd (by decide) h) (fun _ => ?_)
      refine lv_ldc2 (v := (-1)) hx hb hown (hts (.constantLong RX10 466 (-1)) (by decide +kernel)) dX10_few_20 ?_
      exact kz_lret hx hb hr hlocks hP hK hD hS dX10_few_23 (Or.inr (Or.inr (Or.inl ⟨c_4, c_5, c_6, rfl, rfl⟩)))
    · refine kz_re (w2 := [(mo, .inr (10, [.int 0, .ref mo_refused, .ref mo_kept, .ref mo_images, .ref mo_hasImage, .ref mo_aside, .int 0, .ref mo_words, .int 0, .int 0, .int 0, .ref mo_tape, .ref mo_five, .int 0, .int (-1), .ref mo_code, .ref mo_value, .ref mo_placed, .int 0, .int 0, .int 0, .int 0, .int 0, .int 0, .int 0, .int 0, .ref mo_asked, .int 0, .int 0, .ref mo_tipping, .ref mo_left0, .ref mo_leftAhead, .int 0, .ref mo_rankAt, .ref mo_orderBy, .ref mo_headsBy, .ref mo_line, .int 0, .int 0, .ref mo_price, .ref mo_dist, .ref mo_rowMany, .ref mo_queue, .ref mo_waits, .ref mo_alike, .ref mo_shares, .int (-1), .int 0, .int 0, .int 0, .int 0, .int 0, .long 0, .ref mo_drawnMoved, .int (-1), .int 0])), (mo_shares, .inl (ty 1, 21, .inr (.inl (fun _ => 0)))), (mo_kept, .inl (ty 0, 5640, .inl (upd (upd (fun _ => 0) 26 1) 32 (-1))))]) hp hd hs rfl ?_
      clear hp hd hs hP hD hS
      intro hP hD hS
      refine lv_if_ne (tgt := 24) hx hb dX10_few_17 (by decide) (fun h => absurd (by decide) h) (fun _ => ?_)
      refine lv_ldc2 (v := (-1)) hx hb hown (hts (.constantLong RX10 466 (-1)) (by decide +kernel)) dX10_few_20 ?_
      exact kz_lret hx hb hr hlocks hP hK hD hS dX10_few_23 (Or.inr (Or.inr (Or.inr (Or.inl ⟨c_4, c_5, c_7, c_8, rfl, rfl⟩))))
    · refine kz_re (w2 := [(mo, .inr (10, [.int 0, .ref mo_refused, .ref mo_kept, .ref mo_images, .ref mo_hasImage, .ref mo_aside, .int 0, .ref mo_words, .int 0, .int 0, .int 0, .ref mo_tape, .ref mo_five, .int 0, .int (-1), .ref mo_code, .ref mo_value, .ref mo_placed, .int 0, .int 0, .int 0, .int 0, .int 0, .int 0, .int 0, .int 0, .ref mo_asked, .int 0, .int 0, .ref mo_tipping, .ref mo_left0, .ref mo_leftAhead, .int 0, .ref mo_rankAt, .ref mo_orderBy, .ref mo_headsBy, .ref mo_line, .int 0, .int 0, .ref mo_price, .ref mo_dist, .ref mo_rowMany, .ref mo_queue, .ref mo_waits, .ref mo_alike, .ref mo_shares, .int (-1), .int 0, .int 0, .int 0, .int 0, .int 0, .long 0, .ref mo_drawnMoved, .int (-1), .int 0])), (mo_shares, .inl (ty 1, 21, .inr (.inl (fun _ => 0)))), (mo_kept, .inl (ty 0, 5640, .inl (upd (upd (fun _ => 0) 26 1) 32 (-1))))]) hp hd hs rfl ?_
      clear hp hd hs hP hD hS
      intro hP hD hS
      refine lv_if_ne (tgt := 24) hx hb dX10_few_17 (by decide) (fun _ => ?_) (fun h => absurd h (by decide))
      refine lv_iconst (v := 0) hx hb dX10_few_24 (by decide) ?_
      refine lv_istore_n (lv' := [(3, .int 0), (0, .ref mo), (1, .int p1), (2, .int p2)]) hx hb dX10_few_25 rfl hl (by decide) rfl (fun ls hl => ?_)
      refine lv_iload_n hx hb dX10_few_26 rfl (lv_at hl 0 rfl) ?_
      refine lv_bipush (v := 20) hx hb dX10_few_27 (by decide) ?_
      refine lv_icmp_gt (tgt := 55) hx hb dX10_few_29 (by decide) (fun h => absurd h (by decide)) (fun _ => ?_)
      refine lv_aload_n hx hb dX10_few_32 rfl (lv_at hl 1 rfl) ?_
      refine va_get (D := D) (ci := 10) (v := .ref mo_shares) (C := RX10) (T := TX10) (N := 56) hx hb hts (by decide +kernel) hown hK hP 0 rfl rfl 45 (by decide) (hts (.fieldLink RX10 106 "TurnedFloorsModel" "shares" "[J") (by decide +kernel)) (fun _ h9 => h9) rfl dX10_few_33 ?_
      refine lv_iload_n hx hb dX10_few_36 rfl (lv_at hl 0 rfl) ?_
      refine lv_iload_n hx hb dX10_few_37 rfl (lv_at hl 0 rfl) ?_
      refine lv_if_ne (tgt := 47) hx hb dX10_few_38 (by decide) (fun h => absurd (by decide) h) (fun _ => ?_)
      refine lv_ldc2 (v := 1000000000000) hx hb hown (hts (.constantLong RX10 468 1000000000000) (by decide +kernel)) dX10_few_41 ?_
      refine lv_goto (tgt := 48) hx hb dX10_few_44 (by decide) ?_
      refine va_last hx hb hK hP hD hS 1 1 rfl rfl (by simp only [vp_in]; decide) dX10_few_48 (fun H locs hp hd hs => ?_)
      refine kz_re (w2 := [(mo, .inr (10, [.int 0, .ref mo_refused, .ref mo_kept, .ref mo_images, .ref mo_hasImage, .ref mo_aside, .int 0, .ref mo_words, .int 0, .int 0, .int 0, .ref mo_tape, .ref mo_five, .int 0, .int (-1), .ref mo_code, .ref mo_value, .ref mo_placed, .int 0, .int 0, .int 0, .int 0, .int 0, .int 0, .int 0, .int 0, .ref mo_asked, .int 0, .int 0, .ref mo_tipping, .ref mo_left0, .ref mo_leftAhead, .int 0, .ref mo_rankAt, .ref mo_orderBy, .ref mo_headsBy, .ref mo_line, .int 0, .int 0, .ref mo_price, .ref mo_dist, .ref mo_rowMany, .ref mo_queue, .ref mo_waits, .ref mo_alike, .ref mo_shares, .int (-1), .int 0, .int 0, .int 0, .int 0, .int 0, .long 0, .ref mo_drawnMoved, .int (-1), .int 0])), (mo_shares, .inl (ty 1, 21, .inr (.inl (vp_updL (fun _ => 0) 0 1000000000000)))), (mo_kept, .inl (ty 0, 5640, .inl (upd (upd (fun _ => 0) 26 1) 32 (-1))))]) hp hd hs rfl ?_
      clear hp hd hs hP hD hS
      intro hP hD hS
      refine lv_iinc (v := 1) (lv' := [(3, .int 1), (0, .ref mo), (1, .int p1), (2, .int p2)]) hx hb dX10_few_49 hl (k := 0) rfl (by decide) (by decide) rfl (fun ls hl => ?_)
      refine lv_goto (tgt := 26) hx hb dX10_few_52 (by decide) ?_
      refine lv_iload_n hx hb dX10_few_26 rfl (lv_at hl 0 rfl) ?_
      refine lv_bipush (v := 20) hx hb dX10_few_27 (by decide) ?_
      refine lv_icmp_gt (tgt := 55) hx hb dX10_few_29 (by decide) (fun h => absurd h (by decide)) (fun _ => ?_)
      refine lv_aload_n hx hb dX10_few_32 rfl (lv_at hl 1 rfl) ?_
      refine va_get (D := D) (ci := 10) (v := .ref mo_shares) (C := RX10) (T := TX10) (N := 56) hx hb hts (by decide +kernel) hown hK hP 0 rfl rfl 45 (by decide) (hts (.fieldLink RX10 106 "TurnedFloorsModel" "shares" "[J") (by decide +kernel)) (fun _ h9 => h9) rfl dX10_few_33 ?_
      refine lv_iload_n hx hb dX10_few_36 rfl (lv_at hl 0 rfl) ?_
      refine lv_iload_n hx hb dX10_few_37 rfl (lv_at hl 0 rfl) ?_
      refine lv_if_ne (tgt := 47) hx hb dX10_few_38 (by decide) (fun _ => ?_) (fun h => absurd h (by decide))
      refine lv_lconst (v := 0) hx hb dX10_few_47 (by decide) ?_
      refine va_last hx hb hK hP hD hS 1 1 rfl rfl (by simp only [vp_in]; decide) dX10_few_48 (fun H locs hp hd hs => ?_)
      refine kz_re (w2 := [(mo, .inr (10, [.int 0, .ref mo_refused, .ref mo_kept, .ref mo_images, .ref mo_hasImage, .ref mo_aside, .int 0, .ref mo_words, .int 0, .int 0, .int 0, .ref mo_tape, .ref mo_five, .int 0, .int (-1), .ref mo_code, .ref mo_value, .ref mo_placed, .int 0, .int 0, .int 0, .int 0, .int 0, .int 0, .int 0, .int 0, .ref mo_asked, .int 0, .int 0, .ref mo_tipping, .ref mo_left0, .ref mo_leftAhead, .int 0, .ref mo_rankAt, .ref mo_orderBy, .ref mo_headsBy, .ref mo_line, .int 0, .int 0, .ref mo_price, .ref mo_dist, .ref mo_rowMany, .ref mo_queue, .ref mo_waits, .ref mo_alike, .ref mo_shares, .int (-1), .int 0, .int 0, .int 0, .int 0, .int 0, .long 0, .ref mo_drawnMoved, .int (-1), .int 0])), (mo_shares, .inl (ty 1, 21, .inr (.inl (vp_updL (vp_updL (fun _ => 0) 0 1000000000000) 1 0)))), (mo_kept, .inl (ty 0, 5640, .inl (upd (upd (fun _ => 0) 26 1) 32 (-1))))]) hp hd hs rfl ?_
      clear hp hd hs hP hD hS
      intro hP hD hS
      refine lv_iinc (v := 2) (lv' := [(3, .int 2), (0, .ref mo), (1, .int p1), (2, .int p2)]) hx hb dX10_few_49 hl (k := 0) rfl (by decide) (by decide) rfl (fun ls hl => ?_)
      refine lv_goto (tgt := 26) hx hb dX10_few_52 (by decide) ?_
      refine lv_iload_n hx hb dX10_few_26 rfl (lv_at hl 0 rfl) ?_
      refine lv_bipush (v := 20) hx hb dX10_few_27 (by decide) ?_
      refine lv_icmp_gt (tgt := 55) hx hb dX10_few_29 (by decide) (fun h => absurd h (by decide)) (fun _ => ?_)
      refine lv_aload_n hx hb dX10_few_32 rfl (lv_at hl 1 rfl) ?_
      refine va_get (D := D) (ci := 10) (v := .ref mo_shares) (C := RX10) (T := TX10) (N := 56) hx hb hts (by decide +kernel) hown hK hP 0 rfl rfl 45 (by decide) (hts (.fieldLink RX10 106 "TurnedFloorsModel" "shares" "[J") (by decide +kernel)) (fun _ h9 => h9) rfl dX10_few_33 ?_
      refine lv_iload_n hx hb dX10_few_36 rfl (lv_at hl 0 rfl) ?_
      refine lv_iload_n hx hb dX10_few_37 rfl (lv_at hl 0 rfl) ?_
      refine lv_if_ne (tgt := 47) hx hb dX10_few_38 (by decide) (fun _ => ?_) (fun h => absurd h (by decide))
      refine lv_lconst (v := 0) hx hb dX10_few_47 (by decide) ?_
      refine va_last hx hb hK hP hD hS 1 1 rfl rfl (by simp only [vp_in]; decide) dX10_few_48 (fun H locs hp hd hs => ?_)
      refine kz_re (w2 := [(mo, .inr (10, [.int 0, .ref mo_refused, .ref mo_kept, .ref mo_images, .ref mo_hasImage, .ref mo_aside, .int 0, .ref mo_words, .int 0, .int 0, .int 0, .ref mo_tape, .ref mo_five, .int 0, .int (-1), .ref mo_code, .ref mo_value, .ref mo_placed, .int 0, .int 0, .int 0, .int 0, .int 0, .int 0, .int 0, .int 0, .ref mo_asked, .int 0, .int 0, .ref mo_tipping, .ref mo_left0, .ref mo_leftAhead, .int 0, .ref mo_rankAt, .ref mo_orderBy, .ref mo_headsBy, .ref mo_line, .int 0, .int 0, .ref mo_price, .ref mo_dist, .ref mo_rowMany, .ref mo_queue, .ref mo_waits, .ref mo_alike, .ref mo_shares, .int (-1), .int 0, .int 0, .int 0, .int 0, .int 0, .long 0, .ref mo_drawnMoved, .int (-1), .int 0])), (mo_shares, .inl (ty 1, 21, .inr (.inl (vp_updL (vp_updL (vp_updL (fun _ => 0) 0 1000000000000) 1 0) 2 0)))), (mo_kept, .inl (ty 0, 5640, .inl (upd (upd (fun _ => 0) 26 1) 32 (-1))))]) hp hd hs rfl ?_
      clear hp hd hs hP hD hS
      intro hP hD hS
      refine lv_iinc (v := 3) (lv' := [(3, .int 3), (0, .ref mo), (1, .int p1), (2, .int p2)]) hx hb dX10_few_49 hl (k := 0) rfl (by decide) (by decide) rfl (fun ls hl => ?_)
      refine lv_goto (tgt := 26) hx hb dX10_few_52 (by decide) ?_
      refine lv_iload_n hx hb dX10_few_26 rfl (lv_at hl 0 rfl) ?_
      refine lv_bipush (v := 20) hx hb dX10_few_27 (by decide) ?_
      refine lv_icmp_gt (tgt := 55) hx hb dX10_few_29 (by decide) (fun h => absurd h (by decide)) (fun _ => ?_)
      refine lv_aload_n hx hb dX10_few_32 rfl (lv_at hl 1 rfl) ?_
      refine va_get (D := D) (ci := 10) (v := .ref mo_shares) (C := RX10) (T := TX10) (N := 56) hx hb hts (by decide +kernel) hown hK hP 0 rfl rfl 45 (by decide) (hts (.fieldLink RX10 106 "TurnedFloorsModel" "shares" "[J") (by decide +kernel)) (fun _ h9 => h9) rfl dX10_few_33 ?_
      refine lv_iload_n hx hb dX10_few_36 rfl (lv_at hl 0 rfl) ?_
      refine lv_iload_n hx hb dX10_few_37 rfl (lv_at hl 0 rfl) ?_
      refine lv_if_ne (tgt := 47) hx hb dX10_few_38 (by decide) (fun _ => ?_) (fun h => absurd h (by decide))
      refine lv_lconst (v := 0) hx hb dX10_few_47 (by decide) ?_
      refine va_last hx hb hK hP hD hS 1 1 rfl rfl (by simp only [vp_in]; decide) dX10_few_48 (fun H locs hp hd hs => ?_)
      refine kz_re (w2 := [(mo, .inr (10, [.int 0, .ref mo_refused, .ref mo_kept, .ref mo_images, .ref mo_hasImage, .ref mo_aside, .int 0, .ref mo_words, .int 0, .int 0, .int 0, .ref mo_tape, .ref mo_five, .int 0, .int (-1), .ref mo_code, .ref mo_value, .ref mo_placed, .int 0, .int 0, .int 0, .int 0, .int 0, .int 0, .int 0, .int 0, .ref mo_asked, .int 0, .int 0, .ref mo_tipping, .ref mo_left0, .ref mo_leftAhead, .int 0, .ref mo_rankAt, .ref mo_orderBy, .ref mo_headsBy, .ref mo_line, .int 0, .int 0, .ref mo_price, .ref mo_dist, .ref mo_rowMany, .ref mo_queue, .ref mo_waits, .ref mo_alike, .ref mo_shares, .int (-1), .int 0, .int 0, .int 0, .int 0, .int 0, .long 0, .ref mo_drawnMoved, .int (-1), .int 0])), (mo_shares, .inl (ty 1, 21, .inr (.inl (vp_updL (vp_updL (vp_updL (vp_updL (fun _ => 0) 0 1000000000000) 1 0) 2 0) 3 0)))), (mo_kept, .inl (ty 0, 5640, .inl (upd (upd (fun _ => 0) 26 1) 32 (-1))))]) hp hd hs rfl ?_
      clear hp hd hs hP hD hS
      intro hP hD hS
      refine lv_iinc (v := 4) (lv' := [(3, .int 4), (0, .ref mo), (1, .int p1), (2, .int p2)]) hx hb dX10_few_49 hl (k := 0) rfl (by decide) (by decide) rfl (fun ls hl => ?_)
      refine lv_goto (tgt := 26) hx hb dX10_few_52 (by decide) ?_
      refine lv_iload_n hx hb dX10_few_26 rfl (lv_at hl 0 rfl) ?_
      refine lv_bipush (v := 20) hx hb dX10_few_27 (by decide) ?_
      refine lv_icmp_gt (tgt := 55) hx hb dX10_few_29 (by decide) (fun h => absurd h (by decide)) (fun _ => ?_)
      refine lv_aload_n hx hb dX10_few_32 rfl (lv_at hl 1 rfl) ?_
      refine va_get (D := D) (ci := 10) (v := .ref mo_shares) (C := RX10) (T := TX10) (N := 56) hx hb hts (by decide +kernel) hown hK hP 0 rfl rfl 45 (by decide) (hts (.fieldLink RX10 106 "TurnedFloorsModel" "shares" "[J") (by decide +kernel)) (fun _ h9 => h9) rfl dX10_few_33 ?_
      refine lv_iload_n hx hb dX10_few_36 rfl (lv_at hl 0 rfl) ?_
      refine lv_iload_n hx hb dX10_few_37 rfl (lv_at hl 0 rfl) ?_
      refine lv_if_ne (tgt := 47) hx hb dX10_few_38 (by decide) (fun _ => ?_) (fun h => absurd h (by decide))
      refine lv_lconst (v := 0) hx hb dX10_few_47 (by decide) ?_
      refine va_last hx hb hK hP hD hS 1 1 rfl rfl (by simp only [vp_in]; decide) dX10_few_48 (fun H locs hp hd hs => ?_)
      refine kz_re (w2 := [(mo, .inr (10, [.int 0, .ref mo_refused, .ref mo_kept, .ref mo_images, .ref mo_hasImage, .ref mo_aside, .int 0, .ref mo_words, .int 0, .int 0, .int 0, .ref mo_tape, .ref mo_five, .int 0, .int (-1), .ref mo_code, .ref mo_value, .ref mo_placed, .int 0, .int 0, .int 0, .int 0, .int 0, .int 0, .int 0, .int 0, .ref mo_asked, .int 0, .int 0, .ref mo_tipping, .ref mo_left0, .ref mo_leftAhead, .int 0, .ref mo_rankAt, .ref mo_orderBy, .ref mo_headsBy, .ref mo_line, .int 0, .int 0, .ref mo_price, .ref mo_dist, .ref mo_rowMany, .ref mo_queue, .ref mo_waits, .ref mo_alike, .ref mo_shares, .int (-1), .int 0, .int 0, .int 0, .int 0, .int 0, .long 0, .ref mo_drawnMoved, .int (-1), .int 0])), (mo_shares, .inl (ty 1, 21, .inr (.inl (vp_updL (vp_updL (vp_updL (vp_updL (vp_updL (fun _ => 0) 0 1000000000000) 1 0) 2 0) 3 0) 4 0)))), (mo_kept, .inl (ty 0, 5640, .inl (upd (upd (fun _ => 0) 26 1) 32 (-1))))]) hp hd hs rfl ?_
      clear hp hd hs hP hD hS
      intro hP hD hS
      refine lv_iinc (v := 5) (lv' := [(3, .int 5), (0, .ref mo), (1, .int p1), (2, .int p2)]) hx hb dX10_few_49 hl (k := 0) rfl (by decide) (by decide) rfl (fun ls hl => ?_)
      refine lv_goto (tgt := 26) hx hb dX10_few_52 (by decide) ?_
      refine lv_iload_n hx hb dX10_few_26 rfl (lv_at hl 0 rfl) ?_
      refine lv_bipush (v := 20) hx hb dX10_few_27 (by decide) ?_
      refine lv_icmp_gt (tgt := 55) hx hb dX10_few_29 (by decide) (fun h => absurd h (by decide)) (fun _ => ?_)
      refine lv_aload_n hx hb dX10_few_32 rfl (lv_at hl 1 rfl) ?_
      refine va_get (D := D) (ci := 10) (v := .ref mo_shares) (C := RX10) (T := TX10) (N := 56) hx hb hts (by decide +kernel) hown hK hP 0 rfl rfl 45 (by decide) (hts (.fieldLink RX10 106 "TurnedFloorsModel" "shares" "[J") (by decide +kernel)) (fun _ h9 => h9) rfl dX10_few_33 ?_
      refine lv_iload_n hx hb dX10_few_36 rfl (lv_at hl 0 rfl) ?_
      refine lv_iload_n hx hb dX10_few_37 rfl (lv_at hl 0 rfl) ?_
      refine lv_if_ne (tgt := 47) hx hb dX10_few_38 (by decide) (fun _ => ?_) (fun h => absurd h (by decide))
      refine lv_lconst (v := 0) hx hb dX10_few_47 (by decide) ?_
      refine va_last hx hb hK hP hD hS 1 1 rfl rfl (by simp only [vp_in]; decide) dX10_few_48 (fun H locs hp hd hs => ?_)
      refine kz_re (w2 := [(mo, .inr (10, [.int 0, .ref mo_refused, .ref mo_kept, .ref mo_images, .ref mo_hasImage, .ref mo_aside, .int 0, .ref mo_words, .int 0, .int 0, .int 0, .ref mo_tape, .ref mo_five, .int 0, .int (-1), .ref mo_code, .ref mo_value, .ref mo_placed, .int 0, .int 0, .int 0, .int 0, .int 0, .int 0, .int 0, .int 0, .ref mo_asked, .int 0, .int 0, .ref mo_tipping, .ref mo_left0, .ref mo_leftAhead, .int 0, .ref mo_rankAt, .ref mo_orderBy, .ref mo_headsBy, .ref mo_line, .int 0, .int 0, .ref mo_price, .ref mo_dist, .ref mo_rowMany, .ref mo_queue, .ref mo_waits, .ref mo_alike, .ref mo_shares, .int (-1), .int 0, .int 0, .int 0, .int 0, .int 0, .long 0, .ref mo_drawnMoved, .int (-1), .int 0])), (mo_shares, .inl (ty 1, 21, .inr (.inl (vp_updL (vp_updL (vp_updL (vp_updL (vp_updL (vp_updL (fun _ => 0) 0 1000000000000) 1 0) 2 0) 3 0) 4 0) 5 0)))), (mo_kept, .inl (ty 0, 5640, .inl (upd (upd (fun _ => 0) 26 1) 32 (-1))))]) hp hd hs rfl ?_
      clear hp hd hs hP hD hS
      intro hP hD hS
      refine lv_iinc (v := 6) (lv' := [(3, .int 6), (0, .ref mo), (1, .int p1), (2, .int p2)]) hx hb dX10_few_49 hl (k := 0) rfl (by decide) (by decide) rfl (fun ls hl => ?_)
      refine lv_goto (tgt := 26) hx hb dX10_few_52 (by decide) ?_
      refine lv_iload_n hx hb dX10_few_26 rfl (lv_at hl 0 rfl) ?_
      refine lv_bipush (v := 20) hx hb dX10_few_27 (by decide) ?_
      refine lv_icmp_gt (tgt := 55) hx hb dX10_few_29 (by decide) (fun h => absurd h (by decide)) (fun _ => ?_)
      refine lv_aload_n hx hb dX10_few_32 rfl (lv_at hl 1 rfl) ?_
      refine va_get (D := D) (ci := 10) (v := .ref mo_shares) (C := RX10) (T := TX10) (N := 56) hx hb hts (by decide +kernel) hown hK hP 0 rfl rfl 45 (by decide) (hts (.fieldLink RX10 106 "TurnedFloorsModel" "shares" "[J") (by decide +kernel)) (fun _ h9 => h9) rfl dX10_few_33 ?_
      refine lv_iload_n hx hb dX10_few_36 rfl (lv_at hl 0 rfl) ?_
      refine lv_iload_n hx hb dX10_few_37 rfl (lv_at hl 0 rfl) ?_
      refine lv_if_ne (tgt := 47) hx hb dX10_few_38 (by decide) (fun _ => ?_) (fun h => absurd h (by decide))
      refine lv_lconst (v := 0) hx hb dX10_few_47 (by decide) ?_
      refine va_last hx hb hK hP hD hS 1 1 rfl rfl (by simp only [vp_in]; decide) dX10_few_48 (fun H locs hp hd hs => ?_)
      refine kz_re (w2 := [(mo, .inr (10, [.int 0, .ref mo_refused, .ref mo_kept, .ref mo_images, .ref mo_hasImage, .ref mo_aside, .int 0, .ref mo_words, .int 0, .int 0, .int 0, .ref mo_tape, .ref mo_five, .int 0, .int (-1), .ref mo_code, .ref mo_value, .ref mo_placed, .int 0, .int 0, .int 0, .int 0, .int 0, .int 0, .int 0, .int 0, .ref mo_asked, .int 0, .int 0, .ref mo_tipping, .ref mo_left0, .ref mo_leftAhead, .int 0, .ref mo_rankAt, .ref mo_orderBy, .ref mo_headsBy, .ref mo_line, .int 0, .int 0, .ref mo_price, .ref mo_dist, .ref mo_rowMany, .ref mo_queue, .ref mo_waits, .ref mo_alike, .ref mo_shares, .int (-1), .int 0, .int 0, .int 0, .int 0, .int 0, .long 0, .ref mo_drawnMoved, .int (-1), .int 0])), (mo_shares, .inl (ty 1, 21, .inr (.inl (vp_updL (vp_updL (vp_updL (vp_updL (vp_updL (vp_updL (vp_updL (fun _ => 0) 0 1000000000000) 1 0) 2 0) 3 0) 4 0) 5 0) 6 0)))), (mo_kept, .inl (ty 0, 5640, .inl (upd (upd (fun _ => 0) 26 1) 32 (-1))))]) hp hd hs rfl ?_
      clear hp hd hs hP hD hS
      intro hP hD hS
      refine lv_iinc (v := 7) (lv' := [(3, .int 7), (0, .ref mo), (1, .int p1), (2, .int p2)]) hx hb dX10_few_49 hl (k := 0) rfl (by decide) (by decide) rfl (fun ls hl => ?_)
      refine lv_goto (tgt := 26) hx hb dX10_few_52 (by decide) ?_
      refine lv_iload_n hx hb dX10_few_26 rfl (lv_at hl 0 rfl) ?_
      refine lv_bipush (v := 20) hx hb dX10_few_27 (by decide) ?_
      refine lv_icmp_gt (tgt := 55) hx hb dX10_few_29 (by decide) (fun h => absurd h (by decide)) (fun _ => ?_)
      refine lv_aload_n hx hb dX10_few_32 rfl (lv_at hl 1 rfl) ?_
      refine va_get (D := D) (ci := 10) (v := .ref mo_shares) (C := RX10) (T := TX10) (N := 56) hx hb hts (by decide +kernel) hown hK hP 0 rfl rfl 45 (by decide) (hts (.fieldLink RX10 106 "TurnedFloorsModel" "shares" "[J") (by decide +kernel)) (fun _ h9 => h9) rfl dX10_few_33 ?_
      refine lv_iload_n hx hb dX10_few_36 rfl (lv_at hl 0 rfl) ?_
      refine lv_iload_n hx hb dX10_few_37 rfl (lv_at hl 0 rfl) ?_
      refine lv_if_ne (tgt := 47) hx hb dX10_few_38 (by decide) (fun _ => ?_) (fun h => absurd h (by decide))
      refine lv_lconst (v := 0) hx hb dX10_few_47 (by decide) ?_
      refine va_last hx hb hK hP hD hS 1 1 rfl rfl (by simp only [vp_in]; decide) dX10_few_48 (fun H locs hp hd hs => ?_)
      refine kz_re (w2 := [(mo, .inr (10, [.int 0, .ref mo_refused, .ref mo_kept, .ref mo_images, .ref mo_hasImage, .ref mo_aside, .int 0, .ref mo_words, .int 0, .int 0, .int 0, .ref mo_tape, .ref mo_five, .int 0, .int (-1), .ref mo_code, .ref mo_value, .ref mo_placed, .int 0, .int 0, .int 0, .int 0, .int 0, .int 0, .int 0, .int 0, .ref mo_asked, .int 0, .int 0, .ref mo_tipping, .ref mo_left0, .ref mo_leftAhead, .int 0, .ref mo_rankAt, .ref mo_orderBy, .ref mo_headsBy, .ref mo_line, .int 0, .int 0, .ref mo_price, .ref mo_dist, .ref mo_rowMany, .ref mo_queue, .ref mo_waits, .ref mo_alike, .ref mo_shares, .int (-1), .int 0, .int 0, .int 0, .int 0, .int 0, .long 0, .ref mo_drawnMoved, .int (-1), .int 0])), (mo_shares, .inl (ty 1, 21, .inr (.inl (vp_updL (vp_updL (vp_updL (vp_updL (vp_updL (vp_updL (vp_updL (vp_updL (fun _ => 0) 0 1000000000000) 1 0) 2 0) 3 0) 4 0) 5 0) 6 0) 7 0)))), (mo_kept, .inl (ty 0, 5640, .inl (upd (upd (fun _ => 0) 26 1) 32 (-1))))]) hp hd hs rfl ?_
      clear hp hd hs hP hD hS
      intro hP hD hS
      refine lv_iinc (v := 8) (lv' := [(3, .int 8), (0, .ref mo), (1, .int p1), (2, .int p2)]) hx hb dX10_few_49 hl (k := 0) rfl (by decide) (by decide) rfl (fun ls hl => ?_)
      refine lv_goto (tgt := 26) hx hb dX10_few_52 (by decide) ?_
      refine lv_iload_n hx hb dX10_few_26 rfl (lv_at hl 0 rfl) ?_
      refine lv_bipush (v := 20) hx hb dX10_few_27 (by decide) ?_
      refine lv_icmp_gt (tgt := 55) hx hb dX10_few_29 (by decide) (fun h => absurd h (by decide)) (fun _ => ?_)
      refine lv_aload_n hx hb dX10_few_32 rfl (lv_at hl 1 rfl) ?_
      refine va_get (D := D) (ci := 10) (v := .ref mo_shares) (C := RX10) (T := TX10) (N := 56) hx hb hts (by decide +kernel) hown hK hP 0 rfl rfl 45 (by decide) (hts (.fieldLink RX10 106 "TurnedFloorsModel" "shares" "[J") (by decide +kernel)) (fun _ h9 => h9) rfl dX10_few_33 ?_
      refine lv_iload_n hx hb dX10_few_36 rfl (lv_at hl 0 rfl) ?_
      refine lv_iload_n hx hb dX10_few_37 rfl (lv_at hl 0 rfl) ?_
      refine lv_if_ne (tgt := 47) hx hb dX10_few_38 (by decide) (fun _ => ?_) (fun h => absurd h (by decide))
      refine lv_lconst (v := 0) hx hb dX10_few_47 (by decide) ?_
      refine va_last hx hb hK hP hD hS 1 1 rfl rfl (by simp only [vp_in]; decide) dX10_few_48 (fun H locs hp hd hs => ?_)
      refine kz_re (w2 := [(mo, .inr (10, [.int 0, .ref mo_refused, .ref mo_kept, .ref mo_images, .ref mo_hasImage, .ref mo_aside, .int 0, .ref mo_words, .int 0, .int 0, .int 0, .ref mo_tape, .ref mo_five, .int 0, .int (-1), .ref mo_code, .ref mo_value, .ref mo_placed, .int 0, .int 0, .int 0, .int 0, .int 0, .int 0, .int 0, .int 0, .ref mo_asked, .int 0, .int 0, .ref mo_tipping, .ref mo_left0, .ref mo_leftAhead, .int 0, .ref mo_rankAt, .ref mo_orderBy, .ref mo_headsBy, .ref mo_line, .int 0, .int 0, .ref mo_price, .ref mo_dist, .ref mo_rowMany, .ref mo_queue, .ref mo_waits, .ref mo_alike, .ref mo_shares, .int (-1), .int 0, .int 0, .int 0, .int 0, .int 0, .long 0, .ref mo_drawnMoved, .int (-1), .int 0])), (mo_shares, .inl (ty 1, 21, .inr (.inl (vp_updL (vp_updL (vp_updL (vp_updL (vp_updL (vp_updL (vp_updL (vp_updL (vp_updL (fun _ => 0) 0 1000000000000) 1 0) 2 0) 3 0) 4 0) 5 0) 6 0) 7 0) 8 0)))), (mo_kept, .inl (ty 0, 5640, .inl (upd (upd (fun _ => 0) 26 1) 32 (-1))))]) hp hd hs rfl ?_
      clear hp hd hs hP hD hS
      intro hP hD hS
      refine lv_iinc (v := 9) (lv' := [(3, .int 9), (0, .ref mo), (1, .int p1), (2, .int p2)]) hx hb dX10_few_49 hl (k := 0) rfl (by decide) (by decide) rfl (fun ls hl => ?_)
      refine lv_goto (tgt := 26) hx hb dX10_few_52 (by decide) ?_
      refine lv_iload_n hx hb dX10_few_26 rfl (lv_at hl 0 rfl) ?_
      refine lv_bipush (v := 20) hx hb dX10_few_27 (by decide) ?_
      refine lv_icmp_gt (tgt := 55) hx hb dX10_few_29 (by decide) (fun h => absurd h (by decide)) (fun _ => ?_)
      refine lv_aload_n hx hb dX10_few_32 rfl (lv_at hl 1 rfl) ?_
      refine va_get (D := D) (ci := 10) (v := .ref mo_shares) (C := RX10) (T := TX10) (N := 56) hx hb hts (by decide +kernel) hown hK hP 0 rfl rfl 45 (by decide) (hts (.fieldLink RX10 106 "TurnedFloorsModel" "shares" "[J") (by decide +kernel)) (fun _ h9 => h9) rfl dX10_few_33 ?_
      refine lv_iload_n hx hb dX10_few_36 rfl (lv_at hl 0 rfl) ?_
      refine lv_iload_n hx hb dX10_few_37 rfl (lv_at hl 0 rfl) ?_
      refine lv_if_ne (tgt := 47) hx hb dX10_few_38 (by decide) (fun _ => ?_) (fun h => absurd h (by decide))
      refine lv_lconst (v := 0) hx hb dX10_few_47 (by decide) ?_
      refine va_last hx hb hK hP hD hS 1 1 rfl rfl (by simp only [vp_in]; decide) dX10_few_48 (fun H locs hp hd hs => ?_)
      refine kz_re (w2 := [(mo, .inr (10, [.int 0, .ref mo_refused, .ref mo_kept, .ref mo_images, .ref mo_hasImage, .ref mo_aside, .int 0, .ref mo_words, .int 0, .int 0, .int 0, .ref mo_tape, .ref mo_five, .int 0, .int (-1), .ref mo_code, .ref mo_value, .ref mo_placed, .int 0, .int 0, .int 0, .int 0, .int 0, .int 0, .int 0, .int 0, .ref mo_asked, .int 0, .int 0, .ref mo_tipping, .ref mo_left0, .ref mo_leftAhead, .int 0, .ref mo_rankAt, .ref mo_orderBy, .ref mo_headsBy, .ref mo_line, .int 0, .int 0, .ref mo_price, .ref mo_dist, .ref mo_rowMany, .ref mo_queue, .ref mo_waits, .ref mo_alike, .ref mo_shares, .int (-1), .int 0, .int 0, .int 0, .int 0, .int 0, .long 0, .ref mo_drawnMoved, .int (-1), .int 0])), (mo_shares, .inl (ty 1, 21, .inr (.inl (vp_updL (vp_updL (vp_updL (vp_updL (vp_updL (vp_updL (vp_updL (vp_updL (vp_updL (vp_updL (fun _ => 0) 0 1000000000000) 1 0) 2 0) 3 0) 4 0) 5 0) 6 0) 7 0) 8 0) 9 0)))), (mo_kept, .inl (ty 0, 5640, .inl (upd (upd (fun _ => 0) 26 1) 32 (-1))))]) hp hd hs rfl ?_
      clear hp hd hs hP hD hS
      intro hP hD hS
      refine lv_iinc (v := 10) (lv' := [(3, .int 10), (0, .ref mo), (1, .int p1), (2, .int p2)]) hx hb dX10_few_49 hl (k := 0) rfl (by decide) (by decide) rfl (fun ls hl => ?_)
      refine lv_goto (tgt := 26) hx hb dX10_few_52 (by decide) ?_
      refine lv_iload_n hx hb dX10_few_26 rfl (lv_at hl 0 rfl) ?_
      refine lv_bipush (v := 20) hx hb dX10_few_27 (by decide) ?_
      refine lv_icmp_gt (tgt := 55) hx hb dX10_few_29 (by decide) (fun h => absurd h (by decide)) (fun _ => ?_)
      refine lv_aload_n hx hb dX10_few_32 rfl (lv_at hl 1 rfl) ?_
      refine va_get (D := D) (ci := 10) (v := .ref mo_shares) (C := RX10) (T := TX10) (N := 56) hx hb hts (by decide +kernel) hown hK hP 0 rfl rfl 45 (by decide) (hts (.fieldLink RX10 106 "TurnedFloorsModel" "shares" "[J") (by decide +kernel)) (fun _ h9 => h9) rfl dX10_few_33 ?_
      refine lv_iload_n hx hb dX10_few_36 rfl (lv_at hl 0 rfl) ?_
      refine lv_iload_n hx hb dX10_few_37 rfl (lv_at hl 0 rfl) ?_
      refine lv_if_ne (tgt := 47) hx hb dX10_few_38 (by decide) (fun _ => ?_) (fun h => absurd h (by decide))
      refine lv_lconst (v := 0) hx hb dX10_few_47 (by decide) ?_
      refine va_last hx hb hK hP hD hS 1 1 rfl rfl (by simp only [vp_in]; decide) dX10_few_48 (fun H locs hp hd hs => ?_)
      refine kz_re (w2 := [(mo, .inr (10, [.int 0, .ref mo_refused, .ref mo_kept, .ref mo_images, .ref mo_hasImage, .ref mo_aside, .int 0, .ref mo_words, .int 0, .int 0, .int 0, .ref mo_tape, .ref mo_five, .int 0, .int (-1), .ref mo_code, .ref mo_value, .ref mo_placed, .int 0, .int 0, .int 0, .int 0, .int 0, .int 0, .int 0, .int 0, .ref mo_asked, .int 0, .int 0, .ref mo_tipping, .ref mo_left0, .ref mo_leftAhead, .int 0, .ref mo_rankAt, .ref mo_orderBy, .ref mo_headsBy, .ref mo_line, .int 0, .int 0, .ref mo_price, .ref mo_dist, .ref mo_rowMany, .ref mo_queue, .ref mo_waits, .ref mo_alike, .ref mo_shares, .int (-1), .int 0, .int 0, .int 0, .int 0, .int 0, .long 0, .ref mo_drawnMoved, .int (-1), .int 0])), (mo_shares, .inl (ty 1, 21, .inr (.inl (vp_updL (vp_updL (vp_updL (vp_updL (vp_updL (vp_updL (vp_updL (vp_updL (vp_updL (vp_updL (vp_updL (fun _ => 0) 0 1000000000000) 1 0) 2 0) 3 0) 4 0) 5 0) 6 0) 7 0) 8 0) 9 0) 10 0)))), (mo_kept, .inl (ty 0, 5640, .inl (upd (upd (fun _ => 0) 26 1) 32 (-1))))]) hp hd hs rfl ?_
      clear hp hd hs hP hD hS
      intro hP hD hS
      refine lv_iinc (v := 11) (lv' := [(3, .int 11), (0, .ref mo), (1, .int p1), (2, .int p2)]) hx hb dX10_few_49 hl (k := 0) rfl (by decide) (by decide) rfl (fun ls hl => ?_)
      refine lv_goto (tgt := 26) hx hb dX10_few_52 (by decide) ?_
      refine lv_iload_n hx hb dX10_few_26 rfl (lv_at hl 0 rfl) ?_
      refine lv_bipush (v := 20) hx hb dX10_few_27 (by decide) ?_
      refine lv_icmp_gt (tgt := 55) hx hb dX10_few_29 (by decide) (fun h => absurd h (by decide)) (fun _ => ?_)
      refine lv_aload_n hx hb dX10_few_32 rfl (lv_at hl 1 rfl) ?_
      refine va_get (D := D) (ci := 10) (v := .ref mo_shares) (C := RX10) (T := TX10) (N := 56) hx hb hts (by decide +kernel) hown hK hP 0 rfl rfl 45 (by decide) (hts (.fieldLink RX10 106 "TurnedFloorsModel" "shares" "[J") (by decide +kernel)) (fun _ h9 => h9) rfl dX10_few_33 ?_
      refine lv_iload_n hx hb dX10_few_36 rfl (lv_at hl 0 rfl) ?_
      refine lv_iload_n hx hb dX10_few_37 rfl (lv_at hl 0 rfl) ?_
      refine lv_if_ne (tgt := 47) hx hb dX10_few_38 (by decide) (fun _ => ?_) (fun h => absurd h (by decide))
      refine lv_lconst (v := 0) hx hb dX10_few_47 (by decide) ?_
      refine va_last hx hb hK hP hD hS 1 1 rfl rfl (by simp only [vp_in]; decide) dX10_few_48 (fun H locs hp hd hs => ?_)
      refine kz_re (w2 := [(mo, .inr (10, [.int 0, .ref mo_refused, .ref mo_kept, .ref mo_images, .ref mo_hasImage, .ref mo_aside, .int 0, .ref mo_words, .int 0, .int 0, .int 0, .ref mo_tape, .ref mo_five, .int 0, .int (-1), .ref mo_code, .ref mo_value, .ref mo_placed, .int 0, .int 0, .int 0, .int 0, .int 0, .int 0, .int 0, .int 0, .ref mo_asked, .int 0, .int 0, .ref mo_tipping, .ref mo_left0, .ref mo_leftAhead, .int 0, .ref mo_rankAt, .ref mo_orderBy, .ref mo_headsBy, .ref mo_line, .int 0, .int 0, .ref mo_price, .ref mo_dist, .ref mo_rowMany, .ref mo_queue, .ref mo_waits, .ref mo_alike, .ref mo_shares, .int (-1), .int 0, .int 0, .int 0, .int 0, .int 0, .long 0, .ref mo_drawnMoved, .int (-1), .int 0])), (mo_shares, .inl (ty 1, 21, .inr (.inl (vp_updL (vp_updL (vp_updL (vp_updL (vp_updL (vp_updL (vp_updL (vp_updL (vp_updL (vp_updL (vp_updL (vp_updL (fun _ => 0) 0 1000000000000) 1 0) 2 0) 3 0) 4 0) 5 0) 6 0) 7 0) 8 0) 9 0) 10 0) 11 0)))), (mo_kept, .inl (ty 0, 5640, .inl (upd (upd (fun _ => 0) 26 1) 32 (-1))))]) hp hd hs rfl ?_
      clear hp hd hs hP hD hS
      intro hP hD hS
      refine lv_iinc (v := 12) (lv' := [(3, .int 12), (0, .ref mo), (1, .int p1), (2, .int p2)]) hx hb dX10_few_49 hl (k := 0) rfl (by decide) (by decide) rfl (fun ls hl => ?_)
      refine lv_goto (tgt := 26) hx hb dX10_few_52 (by decide) ?_
      refine lv_iload_n hx hb dX10_few_26 rfl (lv_at hl 0 rfl) ?_
      refine lv_bipush (v := 20) hx hb dX10_few_27 (by decide) ?_
      refine lv_icmp_gt (tgt := 55) hx hb dX10_few_29 (by decide) (fun h => absurd h (by decide)) (fun _ => ?_)
      refine lv_aload_n hx hb dX10_few_32 rfl (lv_at hl 1 rfl) ?_
      refine va_get (D := D) (ci := 10) (v := .ref mo_shares) (C := RX10) (T := TX10) (N := 56) hx hb hts (by decide +kernel) hown hK hP 0 rfl rfl 45 (by decide) (hts (.fieldLink RX10 106 "TurnedFloorsModel" "shares" "[J") (by decide +kernel)) (fun _ h9 => h9) rfl dX10_few_33 ?_
      refine lv_iload_n hx hb dX10_few_36 rfl (lv_at hl 0 rfl) ?_
      refine lv_iload_n hx hb dX10_few_37 rfl (lv_at hl 0 rfl) ?_
      refine lv_if_ne (tgt := 47) hx hb dX10_few_38 (by decide) (fun _ => ?_) (fun h => absurd h (by decide))
      refine lv_lconst (v := 0) hx hb dX10_few_47 (by decide) ?_
      refine va_last hx hb hK hP hD hS 1 1 rfl rfl (by simp only [vp_in]; decide) dX10_few_48 (fun H locs hp hd hs => ?_)
      refine kz_re (w2 := [(mo, .inr (10, [.int 0, .ref mo_refused, .ref mo_kept, .ref mo_images, .ref mo_hasImage, .ref mo_aside, .int 0, .ref mo_words, .int 0, .int 0, .int 0, .ref mo_tape, .ref mo_five, .int 0, .int (-1), .ref mo_code, .ref mo_value, .ref mo_placed, .int 0, .int 0, .int 0, .int 0, .int 0, .int 0, .int 0, .int 0, .ref mo_asked, .int 0, .int 0, .ref mo_tipping, .ref mo_left0, .ref mo_leftAhead, .int 0, .ref mo_rankAt, .ref mo_orderBy, .ref mo_headsBy, .ref mo_line, .int 0, .int 0, .ref mo_price, .ref mo_dist, .ref mo_rowMany, .ref mo_queue, .ref mo_waits, .ref mo_alike, .ref mo_shares, .int (-1), .int 0, .int 0, .int 0, .int 0, .int 0, .long 0, .ref mo_drawnMoved, .int (-1), .int 0])), (mo_shares, .inl (ty 1, 21, .inr (.inl (vp_updL (vp_updL (vp_updL (vp_updL (vp_updL (vp_updL (vp_updL (vp_updL (vp_updL (vp_updL (vp_updL (vp_updL (vp_updL (fun _ => 0) 0 1000000000000) 1 0) 2 0) 3 0) 4 0) 5 0) 6 0) 7 0) 8 0) 9 0) 10 0) 11 0) 12 0)))), (mo_kept, .inl (ty 0, 5640, .inl (upd (upd (fun _ => 0) 26 1) 32 (-1))))]) hp hd hs rfl ?_
      clear hp hd hs hP hD hS
      intro hP hD hS
      refine lv_iinc (v := 13) (lv' := [(3, .int 13), (0, .ref mo), (1, .int p1), (2, .int p2)]) hx hb dX10_few_49 hl (k := 0) rfl (by decide) (by decide) rfl (fun ls hl => ?_)
      refine lv_goto (tgt := 26) hx hb dX10_few_52 (by decide) ?_
      refine lv_iload_n hx hb dX10_few_26 rfl (lv_at hl 0 rfl) ?_
      refine lv_bipush (v := 20) hx hb dX10_few_27 (by decide) ?_
      refine lv_icmp_gt (tgt := 55) hx hb dX10_few_29 (by decide) (fun h => absurd h (by decide)) (fun _ => ?_)
      refine lv_aload_n hx hb dX10_few_32 rfl (lv_at hl 1 rfl) ?_
      refine va_get (D := D) (ci := 10) (v := .ref mo_shares) (C := RX10) (T := TX10) (N := 56) hx hb hts (by decide +kernel) hown hK hP 0 rfl rfl 45 (by decide) (hts (.fieldLink RX10 106 "TurnedFloorsModel" "shares" "[J") (by decide +kernel)) (fun _ h9 => h9) rfl dX10_few_33 ?_
      refine lv_iload_n hx hb dX10_few_36 rfl (lv_at hl 0 rfl) ?_
      refine lv_iload_n hx hb dX10_few_37 rfl (lv_at hl 0 rfl) ?_
      refine lv_if_ne (tgt := 47) hx hb dX10_few_38 (by decide) (fun _ => ?_) (fun h => absurd h (by decide))
      refine lv_lconst (v := 0) hx hb dX10_few_47 (by decide) ?_
      refine va_last hx hb hK hP hD hS 1 1 rfl rfl (by simp only [vp_in]; decide) dX10_few_48 (fun H locs hp hd hs => ?_)
      refine kz_re (w2 := [(mo, .inr (10, [.int 0, .ref mo_refused, .ref mo_kept, .ref mo_images, .ref mo_hasImage, .ref mo_aside, .int 0, .ref mo_words, .int 0, .int 0, .int 0, .ref mo_tape, .ref mo_five, .int 0, .int (-1), .ref mo_code, .ref mo_value, .ref mo_placed, .int 0, .int 0, .int 0, .int 0, .int 0, .int 0, .int 0, .int 0, .ref mo_asked, .int 0, .int 0, .ref mo_tipping, .ref mo_left0, .ref mo_leftAhead, .int 0, .ref mo_rankAt, .ref mo_orderBy, .ref mo_headsBy, .ref mo_line, .int 0, .int 0, .ref mo_price, .ref mo_dist, .ref mo_rowMany, .ref mo_queue, .ref mo_waits, .ref mo_alike, .ref mo_shares, .int (-1), .int 0, .int 0, .int 0, .int 0, .int 0, .long 0, .ref mo_drawnMoved, .int (-1), .int 0])), (mo_shares, .inl (ty 1, 21, .inr (.inl (vp_updL (vp_updL (vp_updL (vp_updL (vp_updL (vp_updL (vp_updL (vp_updL (vp_updL (vp_updL (vp_updL (vp_updL (vp_updL (vp_updL (fun _ => 0) 0 1000000000000) 1 0) 2 0) 3 0) 4 0) 5 0) 6 0) 7 0) 8 0) 9 0) 10 0) 11 0) 12 0) 13 0)))), (mo_kept, .inl (ty 0, 5640, .inl (upd (upd (fun _ => 0) 26 1) 32 (-1))))]) hp hd hs rfl ?_
      clear hp hd hs hP hD hS
      intro hP hD hS
      refine lv_iinc (v := 14) (lv' := [(3, .int 14), (0, .ref mo), (1, .int p1), (2, .int p2)]) hx hb dX10_few_49 hl (k := 0) rfl (by decide) (by decide) rfl (fun ls hl => ?_)
      refine lv_goto (tgt := 26) hx hb dX10_few_52 (by decide) ?_
      refine lv_iload_n hx hb dX10_few_26 rfl (lv_at hl 0 rfl) ?_
      refine lv_bipush (v := 20) hx hb dX10_few_27 (by decide) ?_
      refine lv_icmp_gt (tgt := 55) hx hb dX10_few_29 (by decide) (fun h => absurd h (by decide)) (fun _ => ?_)
      refine lv_aload_n hx hb dX10_few_32 rfl (lv_at hl 1 rfl) ?_
      refine va_get (D := D) (ci := 10) (v := .ref mo_shares) (C := RX10) (T := TX10) (N := 56) hx hb hts (by decide +kernel) hown hK hP 0 rfl rfl 45 (by decide) (hts (.fieldLink RX10 106 "TurnedFloorsModel" "shares" "[J") (by decide +kernel)) (fun _ h9 => h9) rfl dX10_few_33 ?_
      refine lv_iload_n hx hb dX10_few_36 rfl (lv_at hl 0 rfl) ?_
      refine lv_iload_n hx hb dX10_few_37 rfl (lv_at hl 0 rfl) ?_
      refine lv_if_ne (tgt := 47) hx hb dX10_few_38 (by decide) (fun _ => ?_) (fun h => absurd h (by decide))
      refine lv_lconst (v := 0) hx hb dX10_few_47 (by decide) ?_
      refine va_last hx hb hK hP hD hS 1 1 rfl rfl (by simp only [vp_in]; decide) dX10_few_48 (fun H locs hp hd hs => ?_)
      refine kz_re (w2 := [(mo, .inr (10, [.int 0, .ref mo_refused, .ref mo_kept, .ref mo_images, .ref mo_hasImage, .ref mo_aside, .int 0, .ref mo_words, .int 0, .int 0, .int 0, .ref mo_tape, .ref mo_five, .int 0, .int (-1), .ref mo_code, .ref mo_value, .ref mo_placed, .int 0, .int 0, .int 0, .int 0, .int 0, .int 0, .int 0, .int 0, .ref mo_asked, .int 0, .int 0, .ref mo_tipping, .ref mo_left0, .ref mo_leftAhead, .int 0, .ref mo_rankAt, .ref mo_orderBy, .ref mo_headsBy, .ref mo_line, .int 0, .int 0, .ref mo_price, .ref mo_dist, .ref mo_rowMany, .ref mo_queue, .ref mo_waits, .ref mo_alike, .ref mo_shares, .int (-1), .int 0, .int 0, .int 0, .int 0, .int 0, .long 0, .ref mo_drawnMoved, .int (-1), .int 0])), (mo_shares, .inl (ty 1, 21, .inr (.inl (vp_updL (vp_updL (vp_updL (vp_updL (vp_updL (vp_updL (vp_updL (vp_updL (vp_updL (vp_updL (vp_updL (vp_updL (vp_updL (vp_updL (vp_updL (fun _ => 0) 0 1000000000000) 1 0) 2 0) 3 0) 4 0) 5 0) 6 0) 7 0) 8 0) 9 0) 10 0) 11 0) 12 0) 13 0) 14 0)))), (mo_kept, .inl (ty 0, 5640, .inl (upd (upd (fun _ => 0) 26 1) 32 (-1))))]) hp hd hs rfl ?_
      clear hp hd hs hP hD hS
      intro hP hD hS
      refine lv_iinc (v := 15) (lv' := [(3, .int 15), (0, .ref mo), (1, .int p1), (2, .int p2)]) hx hb dX10_few_49 hl (k := 0) rfl (by decide) (by decide) rfl (fun ls hl => ?_)
      refine lv_goto (tgt := 26) hx hb dX10_few_52 (by decide) ?_
      refine lv_iload_n hx hb dX10_few_26 rfl (lv_at hl 0 rfl) ?_
      refine lv_bipush (v := 20) hx hb dX10_few_27 (by decide) ?_
      refine lv_icmp_gt (tgt := 55) hx hb dX10_few_29 (by decide) (fun h => absurd h (by decide)) (fun _ => ?_)
      refine lv_aload_n hx hb dX10_few_32 rfl (lv_at hl 1 rfl) ?_
      refine va_get (D := D) (ci := 10) (v := .ref mo_shares) (C := RX10) (T := TX10) (N := 56) hx hb hts (by decide +kernel) hown hK hP 0 rfl rfl 45 (by decide) (hts (.fieldLink RX10 106 "TurnedFloorsModel" "shares" "[J") (by decide +kernel)) (fun _ h9 => h9) rfl dX10_few_33 ?_
      refine lv_iload_n hx hb dX10_few_36 rfl (lv_at hl 0 rfl) ?_
      refine lv_iload_n hx hb dX10_few_37 rfl (lv_at hl 0 rfl) ?_
      refine lv_if_ne (tgt := 47) hx hb dX10_few_38 (by decide) (fun _ => ?_) (fun h => absurd h (by decide))
      refine lv_lconst (v := 0) hx hb dX10_few_47 (by decide) ?_
      refine va_last hx hb hK hP hD hS 1 1 rfl rfl (by simp only [vp_in]; decide) dX10_few_48 (fun H locs hp hd hs => ?_)
      refine kz_re (w2 := [(mo, .inr (10, [.int 0, .ref mo_refused, .ref mo_kept, .ref mo_images, .ref mo_hasImage, .ref mo_aside, .int 0, .ref mo_words, .int 0, .int 0, .int 0, .ref mo_tape, .ref mo_five, .int 0, .int (-1), .ref mo_code, .ref mo_value, .ref mo_placed, .int 0, .int 0, .int 0, .int 0, .int 0, .int 0, .int 0, .int 0, .ref mo_asked, .int 0, .int 0, .ref mo_tipping, .ref mo_left0, .ref mo_leftAhead, .int 0, .ref mo_rankAt, .ref mo_orderBy, .ref mo_headsBy, .ref mo_line, .int 0, .int 0, .ref mo_price, .ref mo_dist, .ref mo_rowMany, .ref mo_queue, .ref mo_waits, .ref mo_alike, .ref mo_shares, .int (-1), .int 0, .int 0, .int 0, .int 0, .int 0, .long 0, .ref mo_drawnMoved, .int (-1), .int 0])), (mo_shares, .inl (ty 1, 21, .inr (.inl (vp_updL (vp_updL (vp_updL (vp_updL (vp_updL (vp_updL (vp_updL (vp_updL (vp_updL (vp_updL (vp_updL (vp_updL (vp_updL (vp_updL (vp_updL (vp_updL (fun _ => 0) 0 1000000000000) 1 0) 2 0) 3 0) 4 0) 5 0) 6 0) 7 0) 8 0) 9 0) 10 0) 11 0) 12 0) 13 0) 14 0) 15 0)))), (mo_kept, .inl (ty 0, 5640, .inl (upd (upd (fun _ => 0) 26 1) 32 (-1))))]) hp hd hs rfl ?_
      clear hp hd hs hP hD hS
      intro hP hD hS
      refine lv_iinc (v := 16) (lv' := [(3, .int 16), (0, .ref mo), (1, .int p1), (2, .int p2)]) hx hb dX10_few_49 hl (k := 0) rfl (by decide) (by decide) rfl (fun ls hl => ?_)
      refine lv_goto (tgt := 26) hx hb dX10_few_52 (by decide) ?_
      refine lv_iload_n hx hb dX10_few_26 rfl (lv_at hl 0 rfl) ?_
      refine lv_bipush (v := 20) hx hb dX10_few_27 (by decide) ?_
      refine lv_icmp_gt (tgt := 55) hx hb dX10_few_29 (by decide) (fun h => absurd h (by decide)) (fun _ => ?_)
      refine lv_aload_n hx hb dX10_few_32 rfl (lv_at hl 1 rfl) ?_
      refine va_get (D := D) (ci := 10) (v := .ref mo_shares) (C := RX10) (T := TX10) (N := 56) hx hb hts (by decide +kernel) hown hK hP 0 rfl rfl 45 (by decide) (hts (.fieldLink RX10 106 "TurnedFloorsModel" "shares" "[J") (by decide +kernel)) (fun _ h9 => h9) rfl dX10_few_33 ?_
      refine lv_iload_n hx hb dX10_few_36 rfl (lv_at hl 0 rfl) ?_
      refine lv_iload_n hx hb dX10_few_37 rfl (lv_at hl 0 rfl) ?_
      refine lv_if_ne (tgt := 47) hx hb dX10_few_38 (by decide) (fun _ => ?_) (fun h => absurd h (by decide))
      refine lv_lconst (v := 0) hx hb dX10_few_47 (by decide) ?_
      refine va_last hx hb hK hP hD hS 1 1 rfl rfl (by simp only [vp_in]; decide) dX10_few_48 (fun H locs hp hd hs => ?_)
      refine kz_re (w2 := [(mo, .inr (10, [.int 0, .ref mo_refused, .ref mo_kept, .ref mo_images, .ref mo_hasImage, .ref mo_aside, .int 0, .ref mo_words, .int 0, .int 0, .int 0, .ref mo_tape, .ref mo_five, .int 0, .int (-1), .ref mo_code, .ref mo_value, .ref mo_placed, .int 0, .int 0, .int 0, .int 0, .int 0, .int 0, .int 0, .int 0, .ref mo_asked, .int 0, .int 0, .ref mo_tipping, .ref mo_left0, .ref mo_leftAhead, .int 0, .ref mo_rankAt, .ref mo_orderBy, .ref mo_headsBy, .ref mo_line, .int 0, .int 0, .ref mo_price, .ref mo_dist, .ref mo_rowMany, .ref mo_queue, .ref mo_waits, .ref mo_alike, .ref mo_shares, .int (-1), .int 0, .int 0, .int 0, .int 0, .int 0, .long 0, .ref mo_drawnMoved, .int (-1), .int 0])), (mo_shares, .inl (ty 1, 21, .inr (.inl (vp_updL (vp_updL (vp_updL (vp_updL (vp_updL (vp_updL (vp_updL (vp_updL (vp_updL (vp_updL (vp_updL (vp_updL (vp_updL (vp_updL (vp_updL (vp_updL (vp_updL (fun _ => 0) 0 1000000000000) 1 0) 2 0) 3 0) 4 0) 5 0) 6 0) 7 0) 8 0) 9 0) 10 0) 11 0) 12 0) 13 0) 14 0) 15 0) 16 0)))), (mo_kept, .inl (ty 0, 5640, .inl (upd (upd (fun _ => 0) 26 1) 32 (-1))))]) hp hd hs rfl ?_
      clear hp hd hs hP hD hS
      intro hP hD hS
      refine lv_iinc (v := 17) (lv' := [(3, .int 17), (0, .ref mo), (1, .int p1), (2, .int p2)]) hx hb dX10_few_49 hl (k := 0) rfl (by decide) (by decide) rfl (fun ls hl => ?_)
      refine lv_goto (tgt := 26) hx hb dX10_few_52 (by decide) ?_
      refine lv_iload_n hx hb dX10_few_26 rfl (lv_at hl 0 rfl) ?_
      refine lv_bipush (v := 20) hx hb dX10_few_27 (by decide) ?_
      refine lv_icmp_gt (tgt := 55) hx hb dX10_few_29 (by decide) (fun h => absurd h (by decide)) (fun _ => ?_)
      refine lv_aload_n hx hb dX10_few_32 rfl (lv_at hl 1 rfl) ?_
      refine va_get (D := D) (ci := 10) (v := .ref mo_shares) (C := RX10) (T := TX10) (N := 56) hx hb hts (by decide +kernel) hown hK hP 0 rfl rfl 45 (by decide) (hts (.fieldLink RX10 106 "TurnedFloorsModel" "shares" "[J") (by decide +kernel)) (fun _ h9 => h9) rfl dX10_few_33 ?_
      refine lv_iload_n hx hb dX10_few_36 rfl (lv_at hl 0 rfl) ?_
      refine lv_iload_n hx hb dX10_few_37 rfl (lv_at hl 0 rfl) ?_
      refine lv_if_ne (tgt := 47) hx hb dX10_few_38 (by decide) (fun _ => ?_) (fun h => absurd h (by decide))
      refine lv_lconst (v := 0) hx hb dX10_few_47 (by decide) ?_
      refine va_last hx hb hK hP hD hS 1 1 rfl rfl (by simp only [vp_in]; decide) dX10_few_48 (fun H locs hp hd hs => ?_)
      refine kz_re (w2 := [(mo, .inr (10, [.int 0, .ref mo_refused, .ref mo_kept, .ref mo_images, .ref mo_hasImage, .ref mo_aside, .int 0, .ref mo_words, .int 0, .int 0, .int 0, .ref mo_tape, .ref mo_five, .int 0, .int (-1), .ref mo_code, .ref mo_value, .ref mo_placed, .int 0, .int 0, .int 0, .int 0, .int 0, .int 0, .int 0, .int 0, .ref mo_asked, .int 0, .int 0, .ref mo_tipping, .ref mo_left0, .ref mo_leftAhead, .int 0, .ref mo_rankAt, .ref mo_orderBy, .ref mo_headsBy, .ref mo_line, .int 0, .int 0, .ref mo_price, .ref mo_dist, .ref mo_rowMany, .ref mo_queue, .ref mo_waits, .ref mo_alike, .ref mo_shares, .int (-1), .int 0, .int 0, .int 0, .int 0, .int 0, .long 0, .ref mo_drawnMoved, .int (-1), .int 0])), (mo_shares, .inl (ty 1, 21, .inr (.inl (vp_updL (vp_updL (vp_updL (vp_updL (vp_updL (vp_updL (vp_updL (vp_updL (vp_updL (vp_updL (vp_updL (vp_updL (vp_updL (vp_updL (vp_updL (vp_updL (vp_updL (vp_updL (fun _ => 0) 0 1000000000000) 1 0) 2 0) 3 0) 4 0) 5 0) 6 0) 7 0) 8 0) 9 0) 10 0) 11 0) 12 0) 13 0) 14 0) 15 0) 16 0) 17 0)))), (mo_kept, .inl (ty 0, 5640, .inl (upd (upd (fun _ => 0) 26 1) 32 (-1))))]) hp hd hs rfl ?_
      clear hp hd hs hP hD hS
      intro hP hD hS
      refine lv_iinc (v := 18) (lv' := [(3, .int 18), (0, .ref mo), (1, .int p1), (2, .int p2)]) hx hb dX10_few_49 hl (k := 0) rfl (by decide) (by decide) rfl (fun ls hl => ?_)
      refine lv_goto (tgt := 26) hx hb dX10_few_52 (by decide) ?_
      refine lv_iload_n hx hb dX10_few_26 rfl (lv_at hl 0 rfl) ?_
      refine lv_bipush (v := 20) hx hb dX10_few_27 (by decide) ?_
      refine lv_icmp_gt (tgt := 55) hx hb dX10_few_29 (by decide) (fun h => absurd h (by decide)) (fun _ => ?_)
      refine lv_aload_n hx hb dX10_few_32 rfl (lv_at hl 1 rfl) ?_
      refine va_get (D := D) (ci := 10) (v := .ref mo_shares) (C := RX10) (T := TX10) (N := 56) hx hb hts (by decide +kernel) hown hK hP 0 rfl rfl 45 (by decide) (hts (.fieldLink RX10 106 "TurnedFloorsModel" "shares" "[J") (by decide +kernel)) (fun _ h9 => h9) rfl dX10_few_33 ?_
      refine lv_iload_n hx hb dX10_few_36 rfl (lv_at hl 0 rfl) ?_
      refine lv_iload_n hx hb dX10_few_37 rfl (lv_at hl 0 rfl) ?_
      refine lv_if_ne (tgt := 47) hx hb dX10_few_38 (by decide) (fun _ => ?_) (fun h => absurd h (by decide))
      refine lv_lconst (v := 0) hx hb dX10_few_47 (by decide) ?_
      refine va_last hx hb hK hP hD hS 1 1 rfl rfl (by simp only [vp_in]; decide) dX10_few_48 (fun H locs hp hd hs => ?_)
      refine kz_re (w2 := [(mo, .inr (10, [.int 0, .ref mo_refused, .ref mo_kept, .ref mo_images, .ref mo_hasImage, .ref mo_aside, .int 0, .ref mo_words, .int 0, .int 0, .int 0, .ref mo_tape, .ref mo_five, .int 0, .int (-1), .ref mo_code, .ref mo_value, .ref mo_placed, .int 0, .int 0, .int 0, .int 0, .int 0, .int 0, .int 0, .int 0, .ref mo_asked, .int 0, .int 0, .ref mo_tipping, .ref mo_left0, .ref mo_leftAhead, .int 0, .ref mo_rankAt, .ref mo_orderBy, .ref mo_headsBy, .ref mo_line, .int 0, .int 0, .ref mo_price, .ref mo_dist, .ref mo_rowMany, .ref mo_queue, .ref mo_waits, .ref mo_alike, .ref mo_shares, .int (-1), .int 0, .int 0, .int 0, .int 0, .int 0, .long 0, .ref mo_drawnMoved, .int (-1), .int 0])), (mo_shares, .inl (ty 1, 21, .inr (.inl (vp_updL (vp_updL (vp_updL (vp_updL (vp_updL (vp_updL (vp_updL (vp_updL (vp_updL (vp_updL (vp_updL (vp_updL (vp_updL (vp_updL (vp_updL (vp_updL (vp_updL (vp_updL (vp_updL (fun _ => 0) 0 1000000000000) 1 0) 2 0) 3 0) 4 0) 5 0) 6 0) 7 0) 8 0) 9 0) 10 0) 11 0) 12 0) 13 0) 14 0) 15 0) 16 0) 17 0) 18 0)))), (mo_kept, .inl (ty 0, 5640, .inl (upd (upd (fun _ => 0) 26 1) 32 (-1))))]) hp hd hs rfl ?_
      clear hp hd hs hP hD hS
      intro hP hD hS
      refine lv_iinc (v := 19) (lv' := [(3, .int 19), (0, .ref mo), (1, .int p1), (2, .int p2)]) hx hb dX10_few_49 hl (k := 0) rfl (by decide) (by decide) rfl (fun ls hl => ?_)
      refine lv_goto (tgt := 26) hx hb dX10_few_52 (by decide) ?_
      refine lv_iload_n hx hb dX10_few_26 rfl (lv_at hl 0 rfl) ?_
      refine lv_bipush (v := 20) hx hb dX10_few_27 (by decide) ?_
      refine lv_icmp_gt (tgt := 55) hx hb dX10_few_29 (by decide) (fun h => absurd h (by decide)) (fun _ => ?_)
      refine lv_aload_n hx hb dX10_few_32 rfl (lv_at hl 1 rfl) ?_
      refine va_get (D := D) (ci := 10) (v := .ref mo_shares) (C := RX10) (T := TX10) (N := 56) hx hb hts (by decide +kernel) hown hK hP 0 rfl rfl 45 (by decide) (hts (.fieldLink RX10 106 "TurnedFloorsModel" "shares" "[J") (by decide +kernel)) (fun _ h9 => h9) rfl dX10_few_33 ?_
      refine lv_iload_n hx hb dX10_few_36 rfl (lv_at hl 0 rfl) ?_
      refine lv_iload_n hx hb dX10_few_37 rfl (lv_at hl 0 rfl) ?_
      refine lv_if_ne (tgt := 47) hx hb dX10_few_38 (by decide) (fun _ => ?_) (fun h => absurd h (by decide))
      refine lv_lconst (v := 0) hx hb dX10_few_47 (by decide) ?_
      refine va_last hx hb hK hP hD hS 1 1 rfl rfl (by simp only [vp_in]; decide) dX10_few_48 (fun H locs hp hd hs => ?_)
      refine kz_re (w2 := [(mo, .inr (10, [.int 0, .ref mo_refused, .ref mo_kept, .ref mo_images, .ref mo_hasImage, .ref mo_aside, .int 0, .ref mo_words, .int 0, .int 0, .int 0, .ref mo_tape, .ref mo_five, .int 0, .int (-1), .ref mo_code, .ref mo_value, .ref mo_placed, .int 0, .int 0, .int 0, .int 0, .int 0, .int 0, .int 0, .int 0, .ref mo_asked, .int 0, .int 0, .ref mo_tipping, .ref mo_left0, .ref mo_leftAhead, .int 0, .ref mo_rankAt, .ref mo_orderBy, .ref mo_headsBy, .ref mo_line, .int 0, .int 0, .ref mo_price, .ref mo_dist, .ref mo_rowMany, .ref mo_queue, .ref mo_waits, .ref mo_alike, .ref mo_shares, .int (-1), .int 0, .int 0, .int 0, .int 0, .int 0, .long 0, .ref mo_drawnMoved, .int (-1), .int 0])), (mo_shares, .inl (ty 1, 21, .inr (.inl (vp_updL (vp_updL (vp_updL (vp_updL (vp_updL (vp_updL (vp_updL (vp_updL (vp_updL (vp_updL (vp_updL (vp_updL (vp_updL (vp_updL (vp_updL (vp_updL (vp_updL (vp_updL (vp_updL (vp_updL (fun _ => 0) 0 1000000000000) 1 0) 2 0) 3 0) 4 0) 5 0) 6 0) 7 0) 8 0) 9 0) 10 0) 11 0) 12 0) 13 0) 14 0) 15 0) 16 0) 17 0) 18 0) 19 0)))), (mo_kept, .inl (ty 0, 5640, .inl (upd (upd (fun _ => 0) 26 1) 32 (-1))))]) hp hd hs rfl ?_
      clear hp hd hs hP hD hS
      intro hP hD hS
      refine lv_iinc (v := 20) (lv' := [(3, .int 20), (0, .ref mo), (1, .int p1), (2, .int p2)]) hx hb dX10_few_49 hl (k := 0) rfl (by decide) (by decide) rfl (fun ls hl => ?_)
      refine lv_goto (tgt := 26) hx hb dX10_few_52 (by decide) ?_
      refine lv_iload_n hx hb dX10_few_26 rfl (lv_at hl 0 rfl) ?_
      refine lv_bipush (v := 20) hx hb dX10_few_27 (by decide) ?_
      refine lv_icmp_gt (tgt := 55) hx hb dX10_few_29 (by decide) (fun h => absurd h (by decide)) (fun _ => ?_)
      refine lv_aload_n hx hb dX10_few_32 rfl (lv_at hl 1 rfl) ?_
      refine va_get (D := D) (ci := 10) (v := .ref mo_shares) (C := RX10) (T := TX10) (N := 56) hx hb hts (by decide +kernel) hown hK hP 0 rfl rfl 45 (by decide) (hts (.fieldLink RX10 106 "TurnedFloorsModel" "shares" "[J") (by decide +kernel)) (fun _ h9 => h9) rfl dX10_few_33 ?_
      refine lv_iload_n hx hb dX10_few_36 rfl (lv_at hl 0 rfl) ?_
      refine lv_iload_n hx hb dX10_few_37 rfl (lv_at hl 0 rfl) ?_
      refine lv_if_ne (tgt := 47) hx hb dX10_few_38 (by decide) (fun _ => ?_) (fun h => absurd h (by decide))
      refine lv_lconst (v := 0) hx hb dX10_few_47 (by decide) ?_
      refine va_last hx hb hK hP hD hS 1 1 rfl rfl (by simp only [vp_in]; decide) dX10_few_48 (fun H locs hp hd hs => ?_)
      refine kz_re (w2 := [(mo, .inr (10, [.int 0, .ref mo_refused, .ref mo_kept, .ref mo_images, .ref mo_hasImage, .ref mo_aside, .int 0, .ref mo_words, .int 0, .int 0, .int 0, .ref mo_tape, .ref mo_five, .int 0, .int (-1), .ref mo_code, .ref mo_value, .ref mo_placed, .int 0, .int 0, .int 0, .int 0, .int 0, .int 0, .int 0, .int 0, .ref mo_asked, .int 0, .int 0, .ref mo_tipping, .ref mo_left0, .ref mo_leftAhead, .int 0, .ref mo_rankAt, .ref mo_orderBy, .ref mo_headsBy, .ref mo_line, .int 0, .int 0, .ref mo_price, .ref mo_dist, .ref mo_rowMany, .ref mo_queue, .ref mo_waits, .ref mo_alike, .ref mo_shares, .int (-1), .int 0, .int 0, .int 0, .int 0, .int 0, .long 0, .ref mo_drawnMoved, .int (-1), .int 0])), (mo_shares, .inl (ty 1, 21, .inr (.inl (vp_updL (vp_updL (vp_updL (vp_updL (vp_updL (vp_updL (vp_updL (vp_updL (vp_updL (vp_updL (vp_updL (vp_updL (vp_updL (vp_updL (vp_updL (vp_updL (vp_updL (vp_updL (vp_updL (vp_updL (vp_updL (fun _ => 0) 0 1000000000000) 1 0) 2 0) 3 0) 4 0) 5 0) 6 0) 7 0) 8 0) 9 0) 10 0) 11 0) 12 0) 13 0) 14 0) 15 0) 16 0) 17 0) 18 0) 19 0) 20 0)))), (mo_kept, .inl (ty 0, 5640, .inl (upd (upd (fun _ => 0) 26 1) 32 (-1))))]) hp hd hs rfl ?_
      clear hp hd hs hP hD hS
      intro hP hD hS
      refine lv_iinc (v := 21) (lv' := [(3, .int 21), (0, .ref mo), (1, .int p1), (2, .int p2)]) hx hb dX10_few_49 hl (k := 0) rfl (by decide) (by decide) rfl (fun ls hl => ?_)
      refine lv_goto (tgt := 26) hx hb dX10_few_52 (by decide) ?_
      refine lv_iload_n hx hb dX10_few_26 rfl (lv_at hl 0 rfl) ?_
      refine lv_bipush (v := 20) hx hb dX10_few_27 (by decide) ?_
      refine lv_icmp_gt (tgt := 55) hx hb dX10_few_29 (by decide) (fun _ => ?_) (fun h => absurd (by decide) h)
      refine lv_iconst (v := 0) hx hb dX10_few_55 (by decide) ?_
      refine lv_istore_n (lv' := [(3, .int 0), (0, .ref mo), (1, .int p1), (2, .int p2)]) hx hb dX10_few_56 rfl hl (by decide) rfl (fun ls hl => ?_)
      obtain ⟨k, hk1, hk2, hk⟩ := kz_in (p := p1) (lo := 1) (hi := 20) (by simp only [Int32.lt_iff_toInt_lt, Int32.le_iff_toInt_le, Int32.reduceToInt] at c_4 c_5; omega) (by simp only [Int32.lt_iff_toInt_lt, Int32.le_iff_toInt_le, Int32.reduceToInt] at c_4 c_5; omega) (by decide)
      obtain ⟨n, -, hn2, hn⟩ := kz_in (p := p2) (lo := 0) (hi := 99) (by simp only [Int32.lt_iff_toInt_lt, Int32.le_iff_toInt_le, Int32.reduceToInt] at c_9 c_10; omega) (by simp only [Int32.lt_iff_toInt_lt, Int32.le_iff_toInt_le, Int32.reduceToInt] at c_9 c_10; omega) (by decide)
      have hF : ∀ j, j < k → (vp_updL (vp_updL (vp_updL (vp_updL (vp_updL (vp_updL (vp_updL (vp_updL (vp_updL (vp_updL (vp_updL (vp_updL (vp_updL (vp_updL (vp_updL (vp_updL (vp_updL (vp_updL (vp_updL (vp_updL (vp_updL (fun _ => 0) 0 1000000000000) 1 0) 2 0) 3 0) 4 0) 5 0) 6 0) 7 0) 8 0) 9 0) 10 0) 11 0) 12 0) 13 0) 14 0) 15 0) 16 0) 17 0) 18 0) 19 0) 20 0) j = kz_F0 j := by
        intro j hj
        have hj20 : j < 20 := by omega
        simp only [vp_updL, kz_F0]
        rcases (show j = 0 ∨ j = 1 ∨ j = 2 ∨ j = 3 ∨ j = 4 ∨ j = 5 ∨ j = 6 ∨ j = 7 ∨ j = 8 ∨ j = 9 ∨ j = 10 ∨ j = 11 ∨ j = 12 ∨ j = 13 ∨ j = 14 ∨ j = 15 ∨ j = 16 ∨ j = 17 ∨ j = 18 ∨ j = 19 by omega) with rfl | rfl | rfl | rfl | rfl | rfl | rfl | rfl | rfl | rfl | rfl | rfl | rfl | rfl | rfl | rfl | rfl | rfl | rfl | rfl <;> rfl
      generalize (vp_updL (vp_updL (vp_updL (vp_updL (vp_updL (vp_updL (vp_updL (vp_updL (vp_updL (vp_updL (vp_updL (vp_updL (vp_updL (vp_updL (vp_updL (vp_updL (vp_updL (vp_updL (vp_updL (vp_updL (vp_updL (fun _ => 0) 0 1000000000000) 1 0) 2 0) 3 0) 4 0) 5 0) 6 0) 7 0) 8 0) 9 0) 10 0) 11 0) 12 0) 13 0) 14 0) 15 0) 16 0) 17 0) 18 0) 19 0) 20 0) = F at hP hD hF
      refine kz_loop n (fun i H locs ls => va_P D vwCl [(mo, .inr (10, [.int 0, .ref mo_refused, .ref mo_kept, .ref mo_images, .ref mo_hasImage, .ref mo_aside, .int 0, .ref mo_words, .int 0, .int 0, .int 0, .ref mo_tape, .ref mo_five, .int 0, .int (-1), .ref mo_code, .ref mo_value, .ref mo_placed, .int 0, .int 0, .int 0, .int 0, .int 0, .int 0, .int 0, .int 0, .ref mo_asked, .int 0, .int 0, .ref mo_tipping, .ref mo_left0, .ref mo_leftAhead, .int 0, .ref mo_rankAt, .ref mo_orderBy, .ref mo_headsBy, .ref mo_line, .int 0, .int 0, .ref mo_price, .ref mo_dist, .ref mo_rowMany, .ref mo_queue, .ref mo_waits, .ref mo_alike, .ref mo_shares, .int (-1), .int 0, .int 0, .int 0, .int 0, .int 0, .long 0, .ref mo_drawnMoved, .int (-1), .int 0])), (mo_shares, .inl (ty 1, 21, .inr (.inl (kz_H 9 1 k F i)))), (mo_kept, .inl (ty 0, 5640, .inl (upd (upd (fun _ => 0) 26 1) 32 (-1))))] H ∧ va_D A [(mo, .inr (10, [.int 0, .ref mo_refused, .ref mo_kept, .ref mo_images, .ref mo_hasImage, .ref mo_aside, .int 0, .ref mo_words, .int 0, .int 0, .int 0, .ref mo_tape, .ref mo_five, .int 0, .int (-1), .ref mo_code, .ref mo_value, .ref mo_placed, .int 0, .int 0, .int 0, .int 0, .int 0, .int 0, .int 0, .int 0, .ref mo_asked, .int 0, .int 0, .ref mo_tipping, .ref mo_left0, .ref mo_leftAhead, .int 0, .ref mo_rankAt, .ref mo_orderBy, .ref mo_headsBy, .ref mo_line, .int 0, .int 0, .ref mo_price, .ref mo_dist, .ref mo_rowMany, .ref mo_queue, .ref mo_waits, .ref mo_alike, .ref mo_shares, .int (-1), .int 0, .int 0, .int 0, .int 0, .int 0, .long 0, .ref mo_drawnMoved, .int (-1), .int 0])), (mo_shares, .inl (ty 1, 21, .inr (.inl (kz_H 9 1 k F i)))), (mo_kept, .inl (ty 0, 5640, .inl (upd (upd (fun _ => 0) 26 1) 32 (-1))))] ∧ va_S A s.heap H locs ∧ lv_has ls 6 [(3, .int (nI i)), (0, .ref mo), (1, .int p1), (2, .int p2)]) (fun i H locs ls hi hI ih => ?_) _ _ _ ⟨hP, hD, hS, by rw [nI_0]; exact lv_sub hl [0, 1, 2, 3] rfl⟩
      obtain ⟨hP, hD, hS, hl⟩ := hI
      refine lv_iload_n hx hb dX10_few_57 rfl (lv_at hl 0 rfl) ?_
      refine lv_iload_n hx hb dX10_few_58 rfl (lv_at hl 3 rfl) ?_
      refine lv_icmp_ge (tgt := 146) hx hb dX10_few_59 (by decide) (fun h9 => ?_) (fun h9 => ?_)
      · obtain rfl : i = n := by
          rw [hn] at h9
          rcases Nat.lt_or_ge i n with q | q
          · exact absurd h9 (nI_ge q (by omega))
          · omega
        refine lv_lconst (v := 0) hx hb dX10_few_146 (by decide) ?_
        refine lv_lstore_n (lv' := [(3, .long 0), (0, .ref mo), (1, .int p1), (2, .int p2)]) hx hb dX10_few_147 rfl hl (by decide) rfl (fun ls hl => ?_)
        refine lv_iconst (v := 0) hx hb dX10_few_148 (by decide) ?_
        refine lv_istore (lv' := [(5, .int 0), (3, .long 0), (0, .ref mo), (1, .int p1), (2, .int p2)]) hx hb dX10_few_149 hl (by decide) rfl (fun ls hl => ?_)
        refine kz_loop k (fun j H locs ls => va_P D vwCl [(mo, .inr (10, [.int 0, .ref mo_refused, .ref mo_kept, .ref mo_images, .ref mo_hasImage, .ref mo_aside, .int 0, .ref mo_words, .int 0, .int 0, .int 0, .ref mo_tape, .ref mo_five, .int 0, .int (-1), .ref mo_code, .ref mo_value, .ref mo_placed, .int 0, .int 0, .int 0, .int 0, .int 0, .int 0, .int 0, .int 0, .ref mo_asked, .int 0, .int 0, .ref mo_tipping, .ref mo_left0, .ref mo_leftAhead, .int 0, .ref mo_rankAt, .ref mo_orderBy, .ref mo_headsBy, .ref mo_line, .int 0, .int 0, .ref mo_price, .ref mo_dist, .ref mo_rowMany, .ref mo_queue, .ref mo_waits, .ref mo_alike, .ref mo_shares, .int (-1), .int 0, .int 0, .int 0, .int 0, .int 0, .long 0, .ref mo_drawnMoved, .int (-1), .int 0])), (mo_shares, .inl (ty 1, 21, .inr (.inl (kz_H 9 1 k F i)))), (mo_kept, .inl (ty 0, 5640, .inl (upd (upd (fun _ => 0) 26 1) 32 (-1))))] H ∧ va_D A [(mo, .inr (10, [.int 0, .ref mo_refused, .ref mo_kept, .ref mo_images, .ref mo_hasImage, .ref mo_aside, .int 0, .ref mo_words, .int 0, .int 0, .int 0, .ref mo_tape, .ref mo_five, .int 0, .int (-1), .ref mo_code, .ref mo_value, .ref mo_placed, .int 0, .int 0, .int 0, .int 0, .int 0, .int 0, .int 0, .int 0, .ref mo_asked, .int 0, .int 0, .ref mo_tipping, .ref mo_left0, .ref mo_leftAhead, .int 0, .ref mo_rankAt, .ref mo_orderBy, .ref mo_headsBy, .ref mo_line, .int 0, .int 0, .ref mo_price, .ref mo_dist, .ref mo_rowMany, .ref mo_queue, .ref mo_waits, .ref mo_alike, .ref mo_shares, .int (-1), .int 0, .int 0, .int 0, .int 0, .int 0, .long 0, .ref mo_drawnMoved, .int (-1), .int 0])), (mo_shares, .inl (ty 1, 21, .inr (.inl (kz_H 9 1 k F i)))), (mo_kept, .inl (ty 0, 5640, .inl (upd (upd (fun _ => 0) 26 1) 32 (-1))))] ∧ va_S A s.heap H locs ∧ lv_has ls 6 [(5, .int (nI j)), (3, .long (kz_sum (kz_H 9 1 k F i) j)), (0, .ref mo), (1, .int p1), (2, .int p2)]) (fun j H locs ls hj hI ih2 => ?_) _ _ _ ⟨hP, hD, hS, by rw [nI_0]; exact hl⟩
        obtain ⟨hP, hD, hS, hl⟩ := hI
        refine lv_iload hx hb dX10_few_151 (lv_at hl 0 rfl) ?_
        refine lv_iload_n hx hb dX10_few_153 rfl (lv_at hl 3 rfl) ?_
        refine lv_icmp_ge (tgt := 173) hx hb dX10_few_154 (by decide) (fun h8 => ?_) (fun h8 => ?_)
        · obtain rfl : j = k := by
            rw [hk] at h8
            rcases Nat.lt_or_ge j k with q | q
            · exact absurd h8 (nI_ge q (by omega))
            · omega
          refine lv_lload_n hx hb dX10_few_173 rfl (lv_at hl 1 rfl) ?_
          exact kz_lret hx hb hr hlocks hP hK hD hS dX10_few_174 (Or.inr (Or.inr (Or.inr (Or.inr ⟨kz_H 9 1 j F i, c_4, c_5, c_9, c_10, (by rw [hk, hn, nI_clamp (by omega), nI_clamp (by omega)]; exact ((kz_sum_congr j (kz_H_G (by omega) i)).trans (kz_few_of hF)).symm), rfl⟩))))
        · have hjk : j < k := by
            rcases Nat.lt_or_ge j k with q | q
            · exact q
            · exact absurd (by rw [hk]; exact nI_le q (by omega)) h8
          refine lv_lload_n hx hb dX10_few_157 rfl (lv_at hl 1 rfl) ?_
          refine lv_aload_n hx hb dX10_few_158 rfl (lv_at hl 2 rfl) ?_
          refine va_get (D := D) (ci := 10) (v := .ref mo_shares) (C := RX10) (T := TX10) (N := 56) hx hb hts (by decide +kernel) hown hK hP 0 rfl rfl 45 (by decide) (hts (.fieldLink RX10 106 "TurnedFloorsModel" "shares" "[J") (by decide +kernel)) (fun _ h9 => h9) rfl dX10_few_159 ?_
          refine lv_iload hx hb dX10_few_162 (lv_at hl 0 rfl) ?_
          refine va_lald hx hb hK hP 1 1 rfl rfl (vp_in_nI (show j < 21 by omega) (by decide)) dX10_few_164 ?_
          refine lv_ladd hx hb dX10_few_165 ?_
          refine lv_lstore_n (lv' := [(3, .long ((kz_sum (kz_H 9 1 k F i) j) + ((kz_H 9 1 k F i) (Int32.toNatClampNeg (nI j))))), (5, .int (nI j)), (0, .ref mo), (1, .int p1), (2, .int p2)]) hx hb dX10_few_166 rfl hl (by decide) rfl (fun ls hl => ?_)
          refine lv_iinc (v := (nI j) + 1) (lv' := [(5, .int ((nI j) + 1)), (3, .long ((kz_sum (kz_H 9 1 k F i) j) + ((kz_H 9 1 k F i) (Int32.toNatClampNeg (nI j))))), (0, .ref mo), (1, .int p1), (2, .int p2)]) hx hb dX10_few_167 hl (k := 1) rfl rfl (by decide) rfl (fun ls hl => ?_)
          refine lv_goto (tgt := 151) hx hb dX10_few_170 (by decide) ?_
          refine ih2 _ _ _ hjk ⟨hP, hD, hS, ?_⟩
          have hl := lv_sub hl [0, 1, 2, 3, 4] rfl
          rw [nI_1, nI_clamp (show j < 2 ^ 31 by omega)] at hl
          exact hl
      · have hlt : i < n := by
          rcases Nat.lt_or_ge i n with q | q
          · exact q
          · exact absurd (by rw [hn]; exact nI_le q (by omega)) h9
        refine lv_iload_n hx hb dX10_few_62 rfl (lv_at hl 2 rfl) ?_
        refine lv_iconst (v := 1) hx hb dX10_few_63 (by decide) ?_
        refine lv_isub hx hb dX10_few_64 ?_
        refine lv_istore (lv' := [(4, .int (p1 - 1)), (3, .int (nI i)), (0, .ref mo), (1, .int p1), (2, .int p2)]) hx hb dX10_few_65 hl (by decide) rfl (fun ls hl => ?_)
        have hl : lv_has ls 6 [(4, .int (kz_dn k 0)), (3, .int (nI i)), (0, .ref mo), (1, .int p1), (2, .int p2)] := by
          rw [← kz_dn_0 (show 0 < k by omega), ← hk]
          exact hl
        refine kz_loop k (fun t H locs ls => va_P D vwCl [(mo, .inr (10, [.int 0, .ref mo_refused, .ref mo_kept, .ref mo_images, .ref mo_hasImage, .ref mo_aside, .int 0, .ref mo_words, .int 0, .int 0, .int 0, .ref mo_tape, .ref mo_five, .int 0, .int (-1), .ref mo_code, .ref mo_value, .ref mo_placed, .int 0, .int 0, .int 0, .int 0, .int 0, .int 0, .int 0, .int 0, .ref mo_asked, .int 0, .int 0, .ref mo_tipping, .ref mo_left0, .ref mo_leftAhead, .int 0, .ref mo_rankAt, .ref mo_orderBy, .ref mo_headsBy, .ref mo_line, .int 0, .int 0, .ref mo_price, .ref mo_dist, .ref mo_rowMany, .ref mo_queue, .ref mo_waits, .ref mo_alike, .ref mo_shares, .int (-1), .int 0, .int 0, .int 0, .int 0, .int 0, .long 0, .ref mo_drawnMoved, .int (-1), .int 0])), (mo_shares, .inl (ty 1, 21, .inr (.inl (kz_N2 9 1 k (kz_H 9 1 k F i) t)))), (mo_kept, .inl (ty 0, 5640, .inl (upd (upd (fun _ => 0) 26 1) 32 (-1))))] H ∧ va_D A [(mo, .inr (10, [.int 0, .ref mo_refused, .ref mo_kept, .ref mo_images, .ref mo_hasImage, .ref mo_aside, .int 0, .ref mo_words, .int 0, .int 0, .int 0, .ref mo_tape, .ref mo_five, .int 0, .int (-1), .ref mo_code, .ref mo_value, .ref mo_placed, .int 0, .int 0, .int 0, .int 0, .int 0, .int 0, .int 0, .int 0, .ref mo_asked, .int 0, .int 0, .ref mo_tipping, .ref mo_left0, .ref mo_leftAhead, .int 0, .ref mo_rankAt, .ref mo_orderBy, .ref mo_headsBy, .ref mo_line, .int 0, .int 0, .ref mo_price, .ref mo_dist, .ref mo_rowMany, .ref mo_queue, .ref mo_waits, .ref mo_alike, .ref mo_shares, .int (-1), .int 0, .int 0, .int 0, .int 0, .int 0, .long 0, .ref mo_drawnMoved, .int (-1), .int 0])), (mo_shares, .inl (ty 1, 21, .inr (.inl (kz_N2 9 1 k (kz_H 9 1 k F i) t)))), (mo_kept, .inl (ty 0, 5640, .inl (upd (upd (fun _ => 0) 26 1) 32 (-1))))] ∧ va_S A s.heap H locs ∧ lv_has ls 6 [(4, .int (kz_dn k t)), (3, .int (nI i)), (0, .ref mo), (1, .int p1), (2, .int p2)]) (fun t H locs ls ht hI ih2 => ?_) _ _ _ ⟨by rw [kz_N2_0]; exact hP, by rw [kz_N2_0]; exact hD, hS, hl⟩
        obtain ⟨hP, hD, hS, hl⟩ := hI
        refine lv_iload hx hb dX10_few_67 (lv_at hl 0 rfl) ?_
        refine lv_if_lt (tgt := 140) hx hb dX10_few_69 (by decide) (fun h8 => ?_) (fun h8 => ?_)
        · have htk : t = k := by
            rcases Nat.lt_or_ge t k with q | q
            · rw [kz_dn_lt q] at h8; exact absurd h8 (nI_pos (by omega))
            · omega
          rw [htk] at hP hD
          refine lv_iinc (v := nI (i + 1)) (lv' := [(3, .int (nI (i + 1))), (4, .int (kz_dn k t)), (0, .ref mo), (1, .int p1), (2, .int p2)]) hx hb dX10_few_140 hl (k := 1) rfl (nI_1 i) (by decide) rfl (fun ls hl => ?_)
          refine lv_goto (tgt := 57) hx hb dX10_few_143 (by decide) ?_
          exact ih _ _ _ hlt ⟨hP, hD, hS, lv_sub hl [0, 2, 3, 4] rfl⟩
        · have htk : t < k := by
            rcases Nat.lt_or_ge t k with q | q
            · exact q
            · have e4 : t = k := by omega
              rw [e4, kz_dn_k] at h8; exact absurd (by decide) h8
          have hdn := kz_dn_s htk
          rw [kz_dn_lt htk] at hl
          generalize hj : k - 1 - t = j at hl hdn
          refine lv_aload_n hx hb dX10_few_72 rfl (lv_at hl 2 rfl) ?_
          refine va_get (D := D) (ci := 10) (v := .ref mo_shares) (C := RX10) (T := TX10) (N := 56) hx hb hts (by decide +kernel) hown hK hP 0 rfl rfl 45 (by decide) (hts (.fieldLink RX10 106 "TurnedFloorsModel" "shares" "[J") (by decide +kernel)) (fun _ h9 => h9) rfl dX10_few_73 ?_
          refine lv_iload hx hb dX10_few_76 (lv_at hl 0 rfl) ?_
          refine lv_iconst (v := 1) hx hb dX10_few_78 (by decide) ?_
          refine lv_iadd hx hb dX10_few_79 ?_
          refine lv_dup2_11 hx hb dX10_few_80 rfl rfl ?_
          refine va_lald hx hb hK hP 1 1 rfl rfl (by rw [nI_1]; exact vp_in_nI (show j + 1 < 21 by omega) (by decide)) dX10_few_81 ?_
          refine lv_aload_n hx hb dX10_few_82 rfl (lv_at hl 2 rfl) ?_
          refine va_get (D := D) (ci := 10) (v := .ref mo_shares) (C := RX10) (T := TX10) (N := 56) hx hb hts (by decide +kernel) hown hK hP 0 rfl rfl 45 (by decide) (hts (.fieldLink RX10 106 "TurnedFloorsModel" "shares" "[J") (by decide +kernel)) (fun _ h9 => h9) rfl dX10_few_83 ?_
          refine lv_iload hx hb dX10_few_86 (lv_at hl 0 rfl) ?_
          refine va_lald hx hb hK hP 1 1 rfl rfl (vp_in_nI (show j < 21 by omega) (by decide)) dX10_few_88 ?_
          refine lv_aload_n hx hb dX10_few_89 rfl (lv_at hl 2 rfl) ?_
          refine va_get (D := D) (ci := 10) (v := .ref mo_kept) (C := RX10) (T := TX10) (N := 56) hx hb hts (by decide +kernel) hown hK hP 0 rfl rfl 2 (by decide) (hts (.fieldLink RX10 28 "TurnedFloorsModel" "kept" "[I") (by decide +kernel)) (fun _ h9 => h9) rfl dX10_few_90 ?_
          refine lv_bipush (v := 26) hx hb dX10_few_93 (by decide) ?_
          refine va_iald hx hb hK hP 2 0 rfl rfl (by simp only [vp_in]; decide) dX10_few_95 ?_
          refine kz_topi 1 (by first | rfl | decide +kernel) ?_
          refine lv_i2l (v := 1) hx hb dX10_few_96 (by decide +kernel) ?_
          refine lv_lmul hx hb dX10_few_97 ?_
          refine lv_ldc2 (v := 10) hx hb hown (hts (.constantLong RX10 470 10) (by decide +kernel)) dX10_few_98 ?_
          refine lv_ldiv hx hb dX10_few_101 (by decide) ?_
          refine lv_ladd hx hb dX10_few_102 ?_
          refine va_last hx hb hK hP hD hS 1 1 rfl rfl (by rw [nI_1]; exact vp_in_nI (show j + 1 < 21 by omega) (by decide)) dX10_few_103 (fun H locs hp hd hs => ?_)
          refine kz_re (w2 := [(mo, .inr (10, [.int 0, .ref mo_refused, .ref mo_kept, .ref mo_images, .ref mo_hasImage, .ref mo_aside, .int 0, .ref mo_words, .int 0, .int 0, .int 0, .ref mo_tape, .ref mo_five, .int 0, .int (-1), .ref mo_code, .ref mo_value, .ref mo_placed, .int 0, .int 0, .int 0, .int 0, .int 0, .int 0, .int 0, .int 0, .ref mo_asked, .int 0, .int 0, .ref mo_tipping, .ref mo_left0, .ref mo_leftAhead, .int 0, .ref mo_rankAt, .ref mo_orderBy, .ref mo_headsBy, .ref mo_line, .int 0, .int 0, .ref mo_price, .ref mo_dist, .ref mo_rowMany, .ref mo_queue, .ref mo_waits, .ref mo_alike, .ref mo_shares, .int (-1), .int 0, .int 0, .int 0, .int 0, .int 0, .long 0, .ref mo_drawnMoved, .int (-1), .int 0])), (mo_shares, .inl (ty 1, 21, .inr (.inl (vp_updL (kz_N2 9 1 k (kz_H 9 1 k F i) t) (Int32.toNatClampNeg ((nI j) + 1)) (((kz_N2 9 1 k (kz_H 9 1 k F i) t) (Int32.toNatClampNeg ((nI j) + 1))) + ((((kz_N2 9 1 k (kz_H 9 1 k F i) t) (Int32.toNatClampNeg (nI j))) * 1) / 10)))))), (mo_kept, .inl (ty 0, 5640, .inl (upd (upd (fun _ => 0) 26 1) 32 (-1))))]) hp hd hs rfl ?_
          clear hp hd hs hP hD hS
          intro hP hD hS
          refine lv_aload_n hx hb dX10_few_104 rfl (lv_at hl 2 rfl) ?_
          refine va_get (D := D) (ci := 10) (v := .ref mo_shares) (C := RX10) (T := TX10) (N := 56) hx hb hts (by decide +kernel) hown hK hP 0 rfl rfl 45 (by decide) (hts (.fieldLink RX10 106 "TurnedFloorsModel" "shares" "[J") (by decide +kernel)) (fun _ h9 => h9) rfl dX10_few_105 ?_
          refine lv_iload hx hb dX10_few_108 (lv_at hl 0 rfl) ?_
          refine lv_aload_n hx hb dX10_few_110 rfl (lv_at hl 2 rfl) ?_
          refine va_get (D := D) (ci := 10) (v := .ref mo_shares) (C := RX10) (T := TX10) (N := 56) hx hb hts (by decide +kernel) hown hK hP 0 rfl rfl 45 (by decide) (hts (.fieldLink RX10 106 "TurnedFloorsModel" "shares" "[J") (by decide +kernel)) (fun _ h9 => h9) rfl dX10_few_111 ?_
          refine lv_iload hx hb dX10_few_114 (lv_at hl 0 rfl) ?_
          refine va_lald hx hb hK hP 1 1 rfl rfl (vp_in_nI (show j < 21 by omega) (by decide)) dX10_few_116 ?_
          refine lv_bipush (v := 10) hx hb dX10_few_117 (by decide) ?_
          refine lv_aload_n hx hb dX10_few_119 rfl (lv_at hl 2 rfl) ?_
          refine va_get (D := D) (ci := 10) (v := .ref mo_kept) (C := RX10) (T := TX10) (N := 56) hx hb hts (by decide +kernel) hown hK hP 0 rfl rfl 2 (by decide) (hts (.fieldLink RX10 28 "TurnedFloorsModel" "kept" "[I") (by decide +kernel)) (fun _ h9 => h9) rfl dX10_few_120 ?_
          refine lv_bipush (v := 26) hx hb dX10_few_123 (by decide) ?_
          refine va_iald hx hb hK hP 2 0 rfl rfl (by simp only [vp_in]; decide) dX10_few_125 ?_
          refine kz_topi 1 (by first | rfl | decide +kernel) ?_
          refine lv_isub hx hb dX10_few_126 ?_
          refine kz_topi 9 (by first | rfl | decide +kernel) ?_
          refine lv_i2l (v := 9) hx hb dX10_few_127 (by decide +kernel) ?_
          refine lv_lmul hx hb dX10_few_128 ?_
          refine lv_ldc2 (v := 10) hx hb hown (hts (.constantLong RX10 470 10) (by decide +kernel)) dX10_few_129 ?_
          refine lv_ldiv hx hb dX10_few_132 (by decide) ?_
          refine va_last hx hb hK hP hD hS 1 1 rfl rfl (vp_in_nI (show j < 21 by omega) (by decide)) dX10_few_133 (fun H locs hp hd hs => ?_)
          refine kz_re (w2 := [(mo, .inr (10, [.int 0, .ref mo_refused, .ref mo_kept, .ref mo_images, .ref mo_hasImage, .ref mo_aside, .int 0, .ref mo_words, .int 0, .int 0, .int 0, .ref mo_tape, .ref mo_five, .int 0, .int (-1), .ref mo_code, .ref mo_value, .ref mo_placed, .int 0, .int 0, .int 0, .int 0, .int 0, .int 0, .int 0, .int 0, .ref mo_asked, .int 0, .int 0, .ref mo_tipping, .ref mo_left0, .ref mo_leftAhead, .int 0, .ref mo_rankAt, .ref mo_orderBy, .ref mo_headsBy, .ref mo_line, .int 0, .int 0, .ref mo_price, .ref mo_dist, .ref mo_rowMany, .ref mo_queue, .ref mo_waits, .ref mo_alike, .ref mo_shares, .int (-1), .int 0, .int 0, .int 0, .int 0, .int 0, .long 0, .ref mo_drawnMoved, .int (-1), .int 0])), (mo_shares, .inl (ty 1, 21, .inr (.inl (vp_updL (vp_updL (kz_N2 9 1 k (kz_H 9 1 k F i) t) (Int32.toNatClampNeg ((nI j) + 1)) (((kz_N2 9 1 k (kz_H 9 1 k F i) t) (Int32.toNatClampNeg ((nI j) + 1))) + ((((kz_N2 9 1 k (kz_H 9 1 k F i) t) (Int32.toNatClampNeg (nI j))) * 1) / 10))) (Int32.toNatClampNeg (nI j)) ((((vp_updL (kz_N2 9 1 k (kz_H 9 1 k F i) t) (Int32.toNatClampNeg ((nI j) + 1)) (((kz_N2 9 1 k (kz_H 9 1 k F i) t) (Int32.toNatClampNeg ((nI j) + 1))) + ((((kz_N2 9 1 k (kz_H 9 1 k F i) t) (Int32.toNatClampNeg (nI j))) * 1) / 10))) (Int32.toNatClampNeg (nI j))) * 9) / 10))))), (mo_kept, .inl (ty 0, 5640, .inl (upd (upd (fun _ => 0) 26 1) 32 (-1))))]) hp hd hs rfl ?_
          clear hp hd hs hP hD hS
          intro hP hD hS
          refine lv_iinc (v := (nI j) + (-1)) (lv' := [(4, .int ((nI j) + (-1))), (3, .int (nI i)), (0, .ref mo), (1, .int p1), (2, .int p2)]) hx hb dX10_few_134 hl (k := 0) rfl rfl (by decide) rfl (fun ls hl => ?_)
          refine lv_goto (tgt := 67) hx hb dX10_few_137 (by decide) ?_
          have e9 : vp_updL (vp_updL (kz_N2 9 1 k (kz_H 9 1 k F i) t) (Int32.toNatClampNeg ((nI j) + 1)) (((kz_N2 9 1 k (kz_H 9 1 k F i) t) (Int32.toNatClampNeg ((nI j) + 1))) + ((((kz_N2 9 1 k (kz_H 9 1 k F i) t) (Int32.toNatClampNeg (nI j))) * 1) / 10))) (Int32.toNatClampNeg (nI j)) ((((vp_updL (kz_N2 9 1 k (kz_H 9 1 k F i) t) (Int32.toNatClampNeg ((nI j) + 1)) (((kz_N2 9 1 k (kz_H 9 1 k F i) t) (Int32.toNatClampNeg ((nI j) + 1))) + ((((kz_N2 9 1 k (kz_H 9 1 k F i) t) (Int32.toNatClampNeg (nI j))) * 1) / 10))) (Int32.toNatClampNeg (nI j))) * 9) / 10) = kz_N2 9 1 k (kz_H 9 1 k F i) (t + 1) := by
            rw [nI_1, nI_clamp (show j + 1 < 2 ^ 31 by omega), nI_clamp (show j < 2 ^ 31 by omega)]
            refine kz_N2_s htk hj.symm rfl ?_
            simp only [vp_updL]
            rw [if_neg (show ¬ j = j + 1 by omega)]
          rw [e9] at hP hD
          refine ih2 _ _ _ htk ⟨hP, hD, hS, ?_⟩
          have hl := lv_sub hl [0, 1, 2, 3, 4] rfl
          rw [← hdn]
          exact hl

set_option maxHeartbeats 4000000 in
set_option maxRecDepth 100000 in
theorem fX10_image (l : Launch) (D : va_G) (ty : Nat → ClassId) (eo : Nat → Nat) (sz : Nat) (mo mo_refused mo_kept mo_images mo_hasImage mo_aside mo_words mo_tape mo_five mo_code mo_value mo_placed mo_asked mo_tipping mo_left0 mo_leftAhead mo_rankAt mo_orderBy mo_headsBy mo_line mo_price mo_dist mo_rowMany mo_queue mo_waits mo_alike mo_shares mo_drawnMoved : Nat) (p1 : Int32) : Met l yX10_image wsX10_image ({ frames := 1, cells := 0, slots := 0, locals := 22 }) (va_Pc [.ref mo, .int p1] (kz_pre D ty eo [(mo, .inr (10, [.int 0, .ref mo_refused, .ref mo_kept, .ref mo_images, .ref mo_hasImage, .ref mo_aside, .int 0, .ref mo_words, .int 0, .int 0, .int 0, .ref mo_tape, .ref mo_five, .int 0, .int (-1), .ref mo_code, .ref mo_value, .ref mo_placed, .int 0, .int 0, .int 0, .int 0, .int 0, .int 0, .int 0, .int 0, .ref mo_asked, .int 0, .int 0, .ref mo_tipping, .ref mo_left0, .ref mo_leftAhead, .int 0, .ref mo_rankAt, .ref mo_orderBy, .ref mo_headsBy, .ref mo_line, .int 0, .int 0, .ref mo_price, .ref mo_dist, .ref mo_rowMany, .ref mo_queue, .ref mo_waits, .ref mo_alike, .ref mo_shares, .int (-1), .int 0, .int 0, .int 0, .int 0, .int 0, .long 0, .ref mo_drawnMoved, .int (-1), .int 0])), (mo_images, .inl (ty 0, 11280, .inl (fun _ => 0))), (mo_kept, .inl (ty 0, 5640, .inl (upd (upd (fun _ => 0) 26 1) 32 (-1)))), (mo_hasImage, .inl (ty 2, 2, .inl (fun _ => 0))), (mo_refused, .inl (ty 0, 7, .inl (fun _ => 0)))] sz)) (va_Qi (fun (r : Int32) (u : va_W) => (p1 < 0 ∧ (-1) = r ∧ [(mo_images, .inl (ty 0, 11280, .inl (fun _ => 0))), (mo_kept, .inl (ty 0, 5640, .inl (upd (upd (fun _ => 0) 26 1) 32 (-1)))), (mo_hasImage, .inl (ty 2, 2, .inl (fun _ => 0))), (mo, .inr (10, [.int (-1), .ref mo_refused, .ref mo_kept, .ref mo_images, .ref mo_hasImage, .ref mo_aside, .int 0, .ref mo_words, .int 0, .int 0, .int 0, .ref mo_tape, .ref mo_five, .int 0, .int (-1), .ref mo_code, .ref mo_value, .ref mo_placed, .int 0, .int 0, .int 0, .int 0, .int 0, .int 0, .int 0, .int 0, .ref mo_asked, .int 0, .int 0, .ref mo_tipping, .ref mo_left0, .ref mo_leftAhead, .int 0, .ref mo_rankAt, .ref mo_orderBy, .ref mo_headsBy, .ref mo_line, .int 0, .int 0, .ref mo_price, .ref mo_dist, .ref mo_rowMany, .ref mo_queue, .ref mo_waits, .ref mo_alike, .ref mo_shares, .int (-1), .int 0, .int 0, .int 0, .int 0, .int 0, .long 0, .ref mo_drawnMoved, .int (-1), .int 0])), (mo_refused, .inl (ty 0, 7, .inl (upd (fun _ => 0) 1 1)))] = u) ∨ (¬ p1 < 0 ∧ 1 < p1 ∧ (-1) = r ∧ [(mo_images, .inl (ty 0, 11280, .inl (fun _ => 0))), (mo_kept, .inl (ty 0, 5640, .inl (upd (upd (fun _ => 0) 26 1) 32 (-1)))), (mo_hasImage, .inl (ty 2, 2, .inl (fun _ => 0))), (mo, .inr (10, [.int (-1), .ref mo_refused, .ref mo_kept, .ref mo_images, .ref mo_hasImage, .ref mo_aside, .int 0, .ref mo_words, .int 0, .int 0, .int 0, .ref mo_tape, .ref mo_five, .int 0, .int (-1), .ref mo_code, .ref mo_value, .ref mo_placed, .int 0, .int 0, .int 0, .int 0, .int 0, .int 0, .int 0, .int 0, .ref mo_asked, .int 0, .int 0, .ref mo_tipping, .ref mo_left0, .ref mo_leftAhead, .int 0, .ref mo_rankAt, .ref mo_orderBy, .ref mo_headsBy, .ref mo_line, .int 0, .int 0, .ref mo_price, .ref mo_dist, .ref mo_rowMany, .ref mo_queue, .ref mo_waits, .ref mo_alike, .ref mo_shares, .int (-1), .int 0, .int 0, .int 0, .int 0, .int 0, .long 0, .ref mo_drawnMoved, .int (-1), .int 0])), (mo_refused, .inl (ty 0, 7, .inl (upd (fun _ => 0) 1 1)))] = u) ∨ (¬ p1 < 0 ∧ ¬ 1 < p1 ∧ p1 = 0 ∧ 0 = r ∧ [(mo_images, .inl (ty 0, 11280, .inl (va_cpy (upd (upd (fun _ => 0) 26 1) 32 (-1)) (fun _ => 0) 0 0 5640))), (mo_kept, .inl (ty 0, 5640, .inl (upd (upd (fun _ => 0) 26 1) 32 (-1)))), (mo_hasImage, .inl (ty 2, 2, .inl (upd (fun _ => 0) 0 1))), (mo_refused, .inl (ty 0, 7, .inl (fun _ => 0))), (mo, .inr (10, [.int 0, .ref mo_refused, .ref mo_kept, .ref mo_images, .ref mo_hasImage, .ref mo_aside, .int 0, .ref mo_words, .int 0, .int 0, .int 0, .ref mo_tape, .ref mo_five, .int 0, .int (-1), .ref mo_code, .ref mo_value, .ref mo_placed, .int 0, .int 0, .int 0, .int 0, .int 0, .int 0, .int 0, .int 0, .ref mo_asked, .int 0, .int 0, .ref mo_tipping, .ref mo_left0, .ref mo_leftAhead, .int 0, .ref mo_rankAt, .ref mo_orderBy, .ref mo_headsBy, .ref mo_line, .int 0, .int 0, .ref mo_price, .ref mo_dist, .ref mo_rowMany, .ref mo_queue, .ref mo_waits, .ref mo_alike, .ref mo_shares, .int (-1), .int 0, .int 0, .int 0, .int 0, .int 0, .long 0, .ref mo_drawnMoved, .int (-1), .int 0]))] = u) ∨ (¬ p1 < 0 ∧ ¬ 1 < p1 ∧ p1 = 1 ∧ 0 = r ∧ [(mo_images, .inl (ty 0, 11280, .inl (va_cpy (upd (upd (fun _ => 0) 26 1) 32 (-1)) (fun _ => 0) 0 5640 5640))), (mo_kept, .inl (ty 0, 5640, .inl (upd (upd (fun _ => 0) 26 1) 32 (-1)))), (mo_hasImage, .inl (ty 2, 2, .inl (upd (fun _ => 0) 1 1))), (mo_refused, .inl (ty 0, 7, .inl (fun _ => 0))), (mo, .inr (10, [.int 0, .ref mo_refused, .ref mo_kept, .ref mo_images, .ref mo_hasImage, .ref mo_aside, .int 0, .ref mo_words, .int 0, .int 0, .int 0, .ref mo_tape, .ref mo_five, .int 0, .int (-1), .ref mo_code, .ref mo_value, .ref mo_placed, .int 0, .int 0, .int 0, .int 0, .int 0, .int 0, .int 0, .int 0, .ref mo_asked, .int 0, .int 0, .ref mo_tipping, .ref mo_left0, .ref mo_leftAhead, .int 0, .ref mo_rankAt, .ref mo_orderBy, .ref mo_headsBy, .ref mo_line, .int 0, .int 0, .ref mo_price, .ref mo_dist, .ref mo_rowMany, .ref mo_queue, .ref mo_waits, .ref mo_alike, .ref mo_shares, .int (-1), .int 0, .int 0, .int 0, .int 0, .int 0, .long 0, .ref mo_drawnMoved, .int (-1), .int 0]))] = u)) (kz_B D ty (va_A [(mo, .inr (10, [.int 0, .ref mo_refused, .ref mo_kept, .ref mo_images, .ref mo_hasImage, .ref mo_aside, .int 0, .ref mo_words, .int 0, .int 0, .int 0, .ref mo_tape, .ref mo_five, .int 0, .int (-1), .ref mo_code, .ref mo_value, .ref mo_placed, .int 0, .int 0, .int 0, .int 0, .int 0, .int 0, .int 0, .int 0, .ref mo_asked, .int 0, .int 0, .ref mo_tipping, .ref mo_left0, .ref mo_leftAhead, .int 0, .ref mo_rankAt, .ref mo_orderBy, .ref mo_headsBy, .ref mo_line, .int 0, .int 0, .ref mo_price, .ref mo_dist, .ref mo_rowMany, .ref mo_queue, .ref mo_waits, .ref mo_alike, .ref mo_shares, .int (-1), .int 0, .int 0, .int 0, .int 0, .int 0, .long 0, .ref mo_drawnMoved, .int (-1), .int 0])), (mo_images, .inl (ty 0, 11280, .inl (fun _ => 0))), (mo_kept, .inl (ty 0, 5640, .inl (upd (upd (fun _ => 0) 26 1) 32 (-1)))), (mo_hasImage, .inl (ty 2, 2, .inl (fun _ => 0))), (mo_refused, .inl (ty 0, 7, .inl (fun _ => 0)))] sz)) (va_A [(mo, .inr (10, [.int 0, .ref mo_refused, .ref mo_kept, .ref mo_images, .ref mo_hasImage, .ref mo_aside, .int 0, .ref mo_words, .int 0, .int 0, .int 0, .ref mo_tape, .ref mo_five, .int 0, .int (-1), .ref mo_code, .ref mo_value, .ref mo_placed, .int 0, .int 0, .int 0, .int 0, .int 0, .int 0, .int 0, .int 0, .ref mo_asked, .int 0, .int 0, .ref mo_tipping, .ref mo_left0, .ref mo_leftAhead, .int 0, .ref mo_rankAt, .ref mo_orderBy, .ref mo_headsBy, .ref mo_line, .int 0, .int 0, .ref mo_price, .ref mo_dist, .ref mo_rowMany, .ref mo_queue, .ref mo_waits, .ref mo_alike, .ref mo_shares, .int (-1), .int 0, .int 0, .int 0, .int 0, .int 0, .long 0, .ref mo_drawnMoved, .int (-1), .int 0])), (mo_images, .inl (ty 0, 11280, .inl (fun _ => 0))), (mo_kept, .inl (ty 0, 5640, .inl (upd (upd (fun _ => 0) 26 1) 32 (-1)))), (mo_hasImage, .inl (ty 2, 2, .inl (fun _ => 0))), (mo_refused, .inl (ty 0, 7, .inl (fun _ => 0)))] sz)) 0 0 (va_A [(mo, .inr (10, [.int 0, .ref mo_refused, .ref mo_kept, .ref mo_images, .ref mo_hasImage, .ref mo_aside, .int 0, .ref mo_words, .int 0, .int 0, .int 0, .ref mo_tape, .ref mo_five, .int 0, .int (-1), .ref mo_code, .ref mo_value, .ref mo_placed, .int 0, .int 0, .int 0, .int 0, .int 0, .int 0, .int 0, .int 0, .ref mo_asked, .int 0, .int 0, .ref mo_tipping, .ref mo_left0, .ref mo_leftAhead, .int 0, .ref mo_rankAt, .ref mo_orderBy, .ref mo_headsBy, .ref mo_line, .int 0, .int 0, .ref mo_price, .ref mo_dist, .ref mo_rowMany, .ref mo_queue, .ref mo_waits, .ref mo_alike, .ref mo_shares, .int (-1), .int 0, .int 0, .int 0, .int 0, .int 0, .long 0, .ref mo_drawnMoved, .int (-1), .int 0])), (mo_images, .inl (ty 0, 11280, .inl (fun _ => 0))), (mo_kept, .inl (ty 0, 5640, .inl (upd (upd (fun _ => 0) 26 1) 32 (-1)))), (mo_hasImage, .inl (ty 2, 2, .inl (fun _ => 0))), (mo_refused, .inl (ty 0, 7, .inl (fun _ => 0)))] sz) := by
  refine Met.ofW (cc := cX10_image) (maxL := 3) (ret := (some .int)) (by decide) rfl ?_
  intro p e s m args below meth c s₁ B hml hv
  obtain ⟨rfl, hsz, hP, hK, hD0, hN, hE⟩ := hv
  have hx := B.exec
  have hb := B.bytes
  have hr := B.returns
  have hts := atoms_spec (ws := wsX10_image) B.pre
  have hown : s.vm.findClass RX10 = some m.cls := findClass_of_methodNamed B.named
  have hlocks := B.notSynchronized
  subst hsz
  have hD := hD0.self (sz := s.heap.size)
  generalize hAe : va_A [(mo, .inr (10, [.int 0, .ref mo_refused, .ref mo_kept, .ref mo_images, .ref mo_hasImage, .ref mo_aside, .int 0, .ref mo_words, .int 0, .int 0, .int 0, .ref mo_tape, .ref mo_five, .int 0, .int (-1), .ref mo_code, .ref mo_value, .ref mo_placed, .int 0, .int 0, .int 0, .int 0, .int 0, .int 0, .int 0, .int 0, .ref mo_asked, .int 0, .int 0, .ref mo_tipping, .ref mo_left0, .ref mo_leftAhead, .int 0, .ref mo_rankAt, .ref mo_orderBy, .ref mo_headsBy, .ref mo_line, .int 0, .int 0, .ref mo_price, .ref mo_dist, .ref mo_rowMany, .ref mo_queue, .ref mo_waits, .ref mo_alike, .ref mo_shares, .int (-1), .int 0, .int 0, .int 0, .int 0, .int 0, .long 0, .ref mo_drawnMoved, .int (-1), .int 0])), (mo_images, .inl (ty 0, 11280, .inl (fun _ => 0))), (mo_kept, .inl (ty 0, 5640, .inl (upd (upd (fun _ => 0) 26 1) 32 (-1)))), (mo_hasImage, .inl (ty 2, 2, .inl (fun _ => 0))), (mo_refused, .inl (ty 0, 7, .inl (fun _ => 0)))] s.heap.size = A at hD hE ⊢
  have hA : ∀ q : Nat, s.heap.size ≤ q → A q := fun q h => by rw [← hAe]; exact Or.inr h
  have hS : va_S A s.heap s.heap [] := va_S.rf
  have hl := lv_entry ([.ref mo, .int p1]) (n := 3) (Nat.le_of_ble_eq_true rfl)
  rw [lg_entry_eq]
  generalize (lg_sl ([.ref mo, .int p1]) ++ List.replicate (3 - (lg_sl ([.ref mo, .int p1])).length) Slot.unset).toArray = ls at hl ⊢
  have hl : lv_has ls 3 [(0, .ref mo), (1, .int p1)] := hl
  refine lv_iload_n hx hb dX10_image_0 rfl (lv_at hl 1 rfl) ?_
  refine lv_iconst (v := 0) hx hb dX10_image_1 (by decide) ?_
  refine lv_iconst (v := 1) hx hb dX10_image_2 (by decide) ?_
  refine kz_ki (wc := []) (wr := [(mo, .inr (10, [.int 0, .ref mo_refused, .ref mo_kept, .ref mo_images, .ref mo_hasImage, .ref mo_aside, .int 0, .ref mo_words, .int 0, .int 0, .int 0, .ref mo_tape, .ref mo_five, .int 0, .int (-1), .ref mo_code, .ref mo_value, .ref mo_placed, .int 0, .int 0, .int 0, .int 0, .int 0, .int 0, .int 0, .int 0, .ref mo_asked, .int 0, .int 0, .ref mo_tipping, .ref mo_left0, .ref mo_leftAhead, .int 0, .ref mo_rankAt, .ref mo_orderBy, .ref mo_headsBy, .ref mo_line, .int 0, .int 0, .ref mo_price, .ref mo_dist, .ref mo_rowMany, .ref mo_queue, .ref mo_waits, .ref mo_alike, .ref mo_shares, .int (-1), .int 0, .int 0, .int 0, .int 0, .int 0, .long 0, .ref mo_drawnMoved, .int (-1), .int 0])), (mo_images, .inl (ty 0, 11280, .inl (fun _ => 0))), (mo_kept, .inl (ty 0, 5640, .inl (upd (upd (fun _ => 0) 26 1) 32 (-1)))), (mo_hasImage, .inl (ty 2, 2, .inl (fun _ => 0))), (mo_refused, .inl (ty 0, 7, .inl (fun _ => 0)))]) (va_runS (As := [.int p1, .int 0, .int 1]) (rest := []) ⟨hx, hb, hml, hown, hts⟩ (kcX10_lies l D ty eo _ p1 0 1) (va_cwS 3 hts gX10_image_X10_lies rfl rfl rfl (by decide +kernel) ⟨Nat.le_of_ble_eq_true rfl, Nat.le_of_ble_eq_true rfl⟩) (kz_preS hK hN hE hP hD hS hA [] (by decide) rfl) rfl rfl hl.1 rfl (lv_room (Nat.le_of_ble_eq_true rfl)) dX10_image_3 ⟨Nat.le_of_ble_eq_true rfl, Nat.le_of_ble_eq_true rfl⟩) hP hD hS hA [] [0, 1, 2, 3, 4] rfl rfl (by decide) (by decide) (fun r u H locs hw hp hd hs => ?_)
  rcases hw with ⟨c_1, rfl, rfl⟩ | ⟨c_2, c_3, rfl, rfl⟩ | ⟨c_4, c_5, rfl, rfl⟩
  · refine kz_re (w2 := [(mo, .inr (10, [.int 0, .ref mo_refused, .ref mo_kept, .ref mo_images, .ref mo_hasImage, .ref mo_aside, .int 0, .ref mo_words, .int 0, .int 0, .int 0, .ref mo_tape, .ref mo_five, .int 0, .int (-1), .ref mo_code, .ref mo_value, .ref mo_placed, .int 0, .int 0, .int 0, .int 0, .int 0, .int 0, .int 0, .int 0, .ref mo_asked, .int 0, .int 0, .ref mo_tipping, .ref mo_left0, .ref mo_leftAhead, .int 0, .ref mo_rankAt, .ref mo_orderBy, .ref mo_headsBy, .ref mo_line, .int 0, .int 0, .ref mo_price, .ref mo_dist, .ref mo_rowMany, .ref mo_queue, .ref mo_waits, .ref mo_alike, .ref mo_shares, .int (-1), .int 0, .int 0, .int 0, .int 0, .int 0, .long 0, .ref mo_drawnMoved, .int (-1), .int 0])), (mo_images, .inl (ty 0, 11280, .inl (fun _ => 0))), (mo_kept, .inl (ty 0, 5640, .inl (upd (upd (fun _ => 0) 26 1) 32 (-1)))), (mo_hasImage, .inl (ty 2, 2, .inl (fun _ => 0))), (mo_refused, .inl (ty 0, 7, .inl (fun _ => 0)))]) hp hd hs rfl ?_
    clear hp hd hs hP hD hS
    intro hP hD hS
    refine lv_if_ne (tgt := 15) hx hb dX10_image_6 (by decide) (fun h => absurd (by decide) h) (fun _ => ?_)
    refine lv_aload_n hx hb dX10_image_9 rfl (lv_at hl 0 rfl) ?_
    refine lv_iconst (v := (-1)) hx hb dX10_image_10 (by decide) ?_
    refine kz_ki (wc := [(mo, .inr (10, [.int 0, .ref mo_refused, .ref mo_kept, .ref mo_images, .ref mo_hasImage, .ref mo_aside, .int 0, .ref mo_words, .int 0, .int 0, .int 0, .ref mo_tape, .ref mo_five, .int 0, .int (-1), .ref mo_code, .ref mo_value, .ref mo_placed, .int 0, .int 0, .int 0, .int 0, .int 0, .int 0, .int 0, .int 0, .ref mo_asked, .int 0, .int 0, .ref mo_tipping, .ref mo_left0, .ref mo_leftAhead, .int 0, .ref mo_rankAt, .ref mo_orderBy, .ref mo_headsBy, .ref mo_line, .int 0, .int 0, .ref mo_price, .ref mo_dist, .ref mo_rowMany, .ref mo_queue, .ref mo_waits, .ref mo_alike, .ref mo_shares, .int (-1), .int 0, .int 0, .int 0, .int 0, .int 0, .long 0, .ref mo_drawnMoved, .int (-1), .int 0])), (mo_refused, .inl (ty 0, 7, .inl (fun _ => 0)))]) (wr := [(mo_images, .inl (ty 0, 11280, .inl (fun _ => 0))), (mo_kept, .inl (ty 0, 5640, .inl (upd (upd (fun _ => 0) 26 1) 32 (-1)))), (mo_hasImage, .inl (ty 2, 2, .inl (fun _ => 0)))]) (va_runV (As := [.int (-1)]) (rest := []) ⟨hx, hb, hml, hown, hts⟩ (kX10_refuses_122 l D ty eo _ mo mo_refused mo_kept mo_images mo_hasImage mo_aside mo_words mo_tape mo_five mo_code mo_value mo_placed mo_asked mo_tipping mo_left0 mo_leftAhead mo_rankAt mo_orderBy mo_headsBy mo_line mo_price mo_dist mo_rowMany mo_queue mo_waits mo_alike mo_shares mo_drawnMoved) (cwV 1 hts gX10_image_X10_refuses rfl rfl rfl (by decide +kernel) ⟨Nat.le_of_ble_eq_true rfl, Nat.le_of_ble_eq_true rfl⟩) (kz_preV (ci := 10) (q0 := 0) hK hN hE hP hD hS hA rfl rfl [0, 4] (by decide) rfl) rfl rfl hl.1 rfl (lv_room (Nat.le_of_ble_eq_true rfl)) dX10_image_11 ⟨Nat.le_of_ble_eq_true rfl, Nat.le_of_ble_eq_true rfl⟩) hP hD hS hA [0, 4] [1, 2, 3] rfl rfl (by decide) (by decide) (fun r u H locs hw hp hd hs => ?_)
    obtain ⟨rfl, rfl⟩ := hw
    refine kz_re (w2 := [(mo_images, .inl (ty 0, 11280, .inl (fun _ => 0))), (mo_kept, .inl (ty 0, 5640, .inl (upd (upd (fun _ => 0) 26 1) 32 (-1)))), (mo_hasImage, .inl (ty 2, 2, .inl (fun _ => 0))), (mo, .inr (10, [.int (-1), .ref mo_refused, .ref mo_kept, .ref mo_images, .ref mo_hasImage, .ref mo_aside, .int 0, .ref mo_words, .int 0, .int 0, .int 0, .ref mo_tape, .ref mo_five, .int 0, .int (-1), .ref mo_code, .ref mo_value, .ref mo_placed, .int 0, .int 0, .int 0, .int 0, .int 0, .int 0, .int 0, .int 0, .ref mo_asked, .int 0, .int 0, .ref mo_tipping, .ref mo_left0, .ref mo_leftAhead, .int 0, .ref mo_rankAt, .ref mo_orderBy, .ref mo_headsBy, .ref mo_line, .int 0, .int 0, .ref mo_price, .ref mo_dist, .ref mo_rowMany, .ref mo_queue, .ref mo_waits, .ref mo_alike, .ref mo_shares, .int (-1), .int 0, .int 0, .int 0, .int 0, .int 0, .long 0, .ref mo_drawnMoved, .int (-1), .int 0])), (mo_refused, .inl (ty 0, 7, .inl (upd (fun _ => 0) 1 1)))]) hp hd hs rfl ?_
    clear hp hd hs hP hD hS
    intro hP hD hS
    exact kz_iret hx hb hr hlocks hP hK hD hS dX10_image_14 (Or.inl ⟨c_1, rfl, rfl⟩)
  · refine kz_re (w2 := [(mo, .inr (10, [.int 0, .ref mo_refused, .ref mo_kept, .ref mo_images, .ref mo_hasImage, .ref mo_aside, .int 0, .ref mo_words, .int 0, .int 0, .int 0, .ref mo_tape, .ref mo_five, .int 0, .int (-1), .ref mo_code, .ref mo_value, .ref mo_placed, .int 0, .int 0, .int 0, .int 0, .int 0, .int 0, .int 0, .int 0, .ref mo_asked, .int 0, .int 0, .ref mo_tipping, .ref mo_left0, .ref mo_leftAhead, .int 0, .ref mo_rankAt, .ref mo_orderBy, .ref mo_headsBy, .ref mo_line, .int 0, .int 0, .ref mo_price, .ref mo_dist, .ref mo_rowMany, .ref mo_queue, .ref mo_waits, .ref mo_alike, .ref mo_shares, .int (-1), .int 0, .int 0, .int 0, .int 0, .int 0, .long 0, .ref mo_drawnMoved, .int (-1), .int 0])), (mo_images, .inl (ty 0, 11280, .inl (fun _ => 0))), (mo_kept, .inl (ty 0, 5640, .inl (upd (upd (fun _ => 0) 26 1) 32 (-1)))), (mo_hasImage, .inl (ty 2, 2, .inl (fun _ => 0))), (mo_refused, .inl (ty 0, 7, .inl (fun _ => 0)))]) hp hd hs rfl ?_
    clear hp hd hs hP hD hS
    intro hP hD hS
    refine lv_if_ne (tgt := 15) hx hb dX10_image_6 (by decide) (fun h => absurd (by decide) h) (fun _ => ?_)
    refine lv_aload_n hx hb dX10_image_9 rfl (lv_at hl 0 rfl) ?_
    refine lv_iconst (v := (-1)) hx hb dX10_image_10 (by decide) ?_
    refine kz_ki (wc := [(mo, .inr (10, [.int 0, .ref mo_refused, .ref mo_kept, .ref mo_images, .ref mo_hasImage, .ref mo_aside, .int 0, .ref mo_words, .int 0, .int 0, .int 0, .ref mo_tape, .ref mo_five, .int 0, .int (-1), .ref mo_code, .ref mo_value, .ref mo_placed, .int 0, .int 0, .int 0, .int 0, .int 0, .int 0, .int 0, .int 0, .ref mo_asked, .int 0, .int 0, .ref mo_tipping, .ref mo_left0, .ref mo_leftAhead, .int 0, .ref mo_rankAt, .ref mo_orderBy, .ref mo_headsBy, .ref mo_line, .int 0, .int 0, .ref mo_price, .ref mo_dist, .ref mo_rowMany, .ref mo_queue, .ref mo_waits, .ref mo_alike, .ref mo_shares, .int (-1), .int 0, .int 0, .int 0, .int 0, .int 0, .long 0, .ref mo_drawnMoved, .int (-1), .int 0])), (mo_refused, .inl (ty 0, 7, .inl (fun _ => 0)))]) (wr := [(mo_images, .inl (ty 0, 11280, .inl (fun _ => 0))), (mo_kept, .inl (ty 0, 5640, .inl (upd (upd (fun _ => 0) 26 1) 32 (-1)))), (mo_hasImage, .inl (ty 2, 2, .inl (fun _ => 0)))]) (va_runV (As := [.int (-1)]) (rest := []) ⟨hx, hb, hml, hown, hts⟩ (kX10_refuses_122 l D ty eo _ mo mo_refused mo_kept mo_images mo_hasImage mo_aside mo_words mo_tape mo_five mo_code mo_value mo_placed mo_asked mo_tipping mo_left0 mo_leftAhead mo_rankAt mo_orderBy mo_headsBy mo_line mo_price mo_dist mo_rowMany mo_queue mo_waits mo_alike mo_shares mo_drawnMoved) (cwV 1 hts gX10_image_X10_refuses rfl rfl rfl (by decide +kernel) ⟨Nat.le_of_ble_eq_true rfl, Nat.le_of_ble_eq_true rfl⟩) (kz_preV (ci := 10) (q0 := 0) hK hN hE hP hD hS hA rfl rfl [0, 4] (by decide) rfl) rfl rfl hl.1 rfl (lv_room (Nat.le_of_ble_eq_true rfl)) dX10_image_11 ⟨Nat.le_of_ble_eq_true rfl, Nat.le_of_ble_eq_true rfl⟩) hP hD hS hA [0, 4] [1, 2, 3] rfl rfl (by decide) (by decide) (fun r u H locs hw hp hd hs => ?_)
    obtain ⟨rfl, rfl⟩ := hw
    refine kz_re (w2 := [(mo_images, .inl (ty 0, 11280, .inl (fun _ => 0))), (mo_kept, .inl (ty 0, 5640, .inl (upd (upd (fun _ => 0) 26 1) 32 (-1)))), (mo_hasImage, .inl (ty 2, 2, .inl (fun _ => 0))), (mo, .inr (10, [.int (-1), .ref mo_refused, .ref mo_kept, .ref mo_images, .ref mo_hasImage, .ref mo_aside, .int 0, .ref mo_words, .int 0, .int 0, .int 0, .ref mo_tape, .ref mo_five, .int 0, .int (-1), .ref mo_code, .ref mo_value, .ref mo_placed, .int 0, .int 0, .int 0, .int 0, .int 0, .int 0, .int 0, .int 0, .ref mo_asked, .int 0, .int 0, .ref mo_tipping, .ref mo_left0, .ref mo_leftAhead, .int 0, .ref mo_rankAt, .ref mo_orderBy, .ref mo_headsBy, .ref mo_line, .int 0, .int 0, .ref mo_price, .ref mo_dist, .ref mo_rowMany, .ref mo_queue, .ref mo_waits, .ref mo_alike, .ref mo_shares, .int (-1), .int 0, .int 0, .int 0, .int 0, .int 0, .long 0, .ref mo_drawnMoved, .int (-1), .int 0])), (mo_refused, .inl (ty 0, 7, .inl (upd (fun _ => 0) 1 1)))]) hp hd hs rfl ?_
    clear hp hd hs hP hD hS
    intro hP hD hS
    exact kz_iret hx hb hr hlocks hP hK hD hS dX10_image_14 (Or.inr (Or.inl ⟨c_2, c_3, rfl, rfl⟩))
  · refine kz_re (w2 := [(mo, .inr (10, [.int 0, .ref mo_refused, .ref mo_kept, .ref mo_images, .ref mo_hasImage, .ref mo_aside, .int 0, .ref mo_words, .int 0, .int 0, .int 0, .ref mo_tape, .ref mo_five, .int 0, .int (-1), .ref mo_code, .ref mo_value, .ref mo_placed, .int 0, .int 0, .int 0, .int 0, .int 0, .int 0, .int 0, .int 0, .ref mo_asked, .int 0, .int 0, .ref mo_tipping, .ref mo_left0, .ref mo_leftAhead, .int 0, .ref mo_rankAt, .ref mo_orderBy, .ref mo_headsBy, .ref mo_line, .int 0, .int 0, .ref mo_price, .ref mo_dist, .ref mo_rowMany, .ref mo_queue, .ref mo_waits, .ref mo_alike, .ref mo_shares, .int (-1), .int 0, .int 0, .int 0, .int 0, .int 0, .long 0, .ref mo_drawnMoved, .int (-1), .int 0])), (mo_images, .inl (ty 0, 11280, .inl (fun _ => 0))), (mo_kept, .inl (ty 0, 5640, .inl (upd (upd (fun _ => 0) 26 1) 32 (-1)))), (mo_hasImage, .inl (ty 2, 2, .inl (fun _ => 0))), (mo_refused, .inl (ty 0, 7, .inl (fun _ => 0)))]) hp hd hs rfl ?_
    clear hp hd hs hP hD hS
    intro hP hD hS
    refine lv_if_ne (tgt := 15) hx hb dX10_image_6 (by decide) (fun _ => ?_) (fun h => absurd h (by decide))
    refine lv_iconst (v := 0) hx hb dX10_image_15 (by decide) ?_
    refine lv_istore_n (lv' := [(2, .int 0), (0, .ref mo), (1, .int p1)]) hx hb dX10_image_16 rfl hl (by decide) rfl (fun ls hl => ?_)
    rcases (show p1 = 0 ∨ p1 = 1 by simp only [Int32.lt_iff_toInt_lt, Int32.le_iff_toInt_le, ← Int32.toInt_inj, Int32.reduceToInt] at c_4 c_5 ⊢; omega) with c9 | c9
    · refine kz_loop 5640 (fun i H locs ls => va_P D vwCl [(mo, .inr (10, [.int 0, .ref mo_refused, .ref mo_kept, .ref mo_images, .ref mo_hasImage, .ref mo_aside, .int 0, .ref mo_words, .int 0, .int 0, .int 0, .ref mo_tape, .ref mo_five, .int 0, .int (-1), .ref mo_code, .ref mo_value, .ref mo_placed, .int 0, .int 0, .int 0, .int 0, .int 0, .int 0, .int 0, .int 0, .ref mo_asked, .int 0, .int 0, .ref mo_tipping, .ref mo_left0, .ref mo_leftAhead, .int 0, .ref mo_rankAt, .ref mo_orderBy, .ref mo_headsBy, .ref mo_line, .int 0, .int 0, .ref mo_price, .ref mo_dist, .ref mo_rowMany, .ref mo_queue, .ref mo_waits, .ref mo_alike, .ref mo_shares, .int (-1), .int 0, .int 0, .int 0, .int 0, .int 0, .long 0, .ref mo_drawnMoved, .int (-1), .int 0])), (mo_images, .inl (ty 0, 11280, .inl (va_cpy (upd (upd (fun _ => 0) 26 1) 32 (-1)) (fun _ => 0) 0 0 i))), (mo_kept, .inl (ty 0, 5640, .inl (upd (upd (fun _ => 0) 26 1) 32 (-1)))), (mo_hasImage, .inl (ty 2, 2, .inl (fun _ => 0))), (mo_refused, .inl (ty 0, 7, .inl (fun _ => 0)))] H ∧ va_D A [(mo, .inr (10, [.int 0, .ref mo_refused, .ref mo_kept, .ref mo_images, .ref mo_hasImage, .ref mo_aside, .int 0, .ref mo_words, .int 0, .int 0, .int 0, .ref mo_tape, .ref mo_five, .int 0, .int (-1), .ref mo_code, .ref mo_value, .ref mo_placed, .int 0, .int 0, .int 0, .int 0, .int 0, .int 0, .int 0, .int 0, .ref mo_asked, .int 0, .int 0, .ref mo_tipping, .ref mo_left0, .ref mo_leftAhead, .int 0, .ref mo_rankAt, .ref mo_orderBy, .ref mo_headsBy, .ref mo_line, .int 0, .int 0, .ref mo_price, .ref mo_dist, .ref mo_rowMany, .ref mo_queue, .ref mo_waits, .ref mo_alike, .ref mo_shares, .int (-1), .int 0, .int 0, .int 0, .int 0, .int 0, .long 0, .ref mo_drawnMoved, .int (-1), .int 0])), (mo_images, .inl (ty 0, 11280, .inl (va_cpy (upd (upd (fun _ => 0) 26 1) 32 (-1)) (fun _ => 0) 0 0 i))), (mo_kept, .inl (ty 0, 5640, .inl (upd (upd (fun _ => 0) 26 1) 32 (-1)))), (mo_hasImage, .inl (ty 2, 2, .inl (fun _ => 0))), (mo_refused, .inl (ty 0, 7, .inl (fun _ => 0)))] ∧ va_S A s.heap H locs ∧ lv_has ls 3 [(2, .int (nI i)), (0, .ref mo), (1, .int p1)]) (fun i H locs ls hi hI ih => ?_) _ _ _ ⟨by rw [kz_cpy_0]; exact hP, by rw [kz_cpy_0]; exact hD, hS, by rw [nI_0]; exact lv_sub hl [0, 1, 2] rfl⟩
      obtain ⟨hP, hD, hS, hl⟩ := hI
      refine lv_iload_n hx hb dX10_image_17 rfl (lv_at hl 0 rfl) ?_
      refine lv_sipush (v := 5640) hx hb dX10_image_18 (by decide) ?_
      refine lv_icmp_ge (tgt := 48) hx hb dX10_image_21 (by decide) (fun h9 => ?_) (fun h9 => ?_)
      · have hie : i = 5640 := by
          rcases Nat.lt_or_ge i 5640 with q | q
          · exact absurd h9 (nI_ge q (by decide))
          · omega
        rw [hie] at hP hD hl
        refine lv_aload_n hx hb dX10_image_48 rfl (lv_at hl 1 rfl) ?_
        refine va_get (D := D) (ci := 10) (v := .ref mo_hasImage) (C := RX10) (T := TX10) (N := 56) hx hb hts (by decide +kernel) hown hK hP 0 rfl rfl 4 (by decide) (hts (.fieldLink RX10 34 "TurnedFloorsModel" "hasImage" "[Z") (by decide +kernel)) (fun _ h9 => h9) rfl dX10_image_49 ?_
        refine lv_iload_n hx hb dX10_image_52 rfl (lv_at hl 2 rfl) ?_
        refine kz_topi 0 (by simp only [Int32.lt_iff_toInt_lt, Int32.le_iff_toInt_le, ← Int32.toInt_inj, Int32.reduceToInt] at c_4 c_5 c9 ⊢; omega) ?_
        refine lv_iconst (v := 1) hx hb dX10_image_53 (by decide) ?_
        refine va_zast hx hb hK hP hD hS 3 2 rfl rfl (by simp only [vp_in]; decide) dX10_image_54 (fun H locs hp hd hs => ?_)
        refine kz_re (w2 := [(mo, .inr (10, [.int 0, .ref mo_refused, .ref mo_kept, .ref mo_images, .ref mo_hasImage, .ref mo_aside, .int 0, .ref mo_words, .int 0, .int 0, .int 0, .ref mo_tape, .ref mo_five, .int 0, .int (-1), .ref mo_code, .ref mo_value, .ref mo_placed, .int 0, .int 0, .int 0, .int 0, .int 0, .int 0, .int 0, .int 0, .ref mo_asked, .int 0, .int 0, .ref mo_tipping, .ref mo_left0, .ref mo_leftAhead, .int 0, .ref mo_rankAt, .ref mo_orderBy, .ref mo_headsBy, .ref mo_line, .int 0, .int 0, .ref mo_price, .ref mo_dist, .ref mo_rowMany, .ref mo_queue, .ref mo_waits, .ref mo_alike, .ref mo_shares, .int (-1), .int 0, .int 0, .int 0, .int 0, .int 0, .long 0, .ref mo_drawnMoved, .int (-1), .int 0])), (mo_images, .inl (ty 0, 11280, .inl (va_cpy (upd (upd (fun _ => 0) 26 1) 32 (-1)) (fun _ => 0) 0 0 5640))), (mo_kept, .inl (ty 0, 5640, .inl (upd (upd (fun _ => 0) 26 1) 32 (-1)))), (mo_hasImage, .inl (ty 2, 2, .inl (upd (fun _ => 0) 0 1))), (mo_refused, .inl (ty 0, 7, .inl (fun _ => 0)))]) hp hd hs rfl ?_
        clear hp hd hs hP hD hS
        intro hP hD hS
        refine lv_aload_n hx hb dX10_image_55 rfl (lv_at hl 1 rfl) ?_
        refine lv_iconst (v := 0) hx hb dX10_image_56 (by decide) ?_
        refine kz_ki (wc := [(mo, .inr (10, [.int 0, .ref mo_refused, .ref mo_kept, .ref mo_images, .ref mo_hasImage, .ref mo_aside, .int 0, .ref mo_words, .int 0, .int 0, .int 0, .ref mo_tape, .ref mo_five, .int 0, .int (-1), .ref mo_code, .ref mo_value, .ref mo_placed, .int 0, .int 0, .int 0, .int 0, .int 0, .int 0, .int 0, .int 0, .ref mo_asked, .int 0, .int 0, .ref mo_tipping, .ref mo_left0, .ref mo_leftAhead, .int 0, .ref mo_rankAt, .ref mo_orderBy, .ref mo_headsBy, .ref mo_line, .int 0, .int 0, .ref mo_price, .ref mo_dist, .ref mo_rowMany, .ref mo_queue, .ref mo_waits, .ref mo_alike, .ref mo_shares, .int (-1), .int 0, .int 0, .int 0, .int 0, .int 0, .long 0, .ref mo_drawnMoved, .int (-1), .int 0]))]) (wr := [(mo_images, .inl (ty 0, 11280, .inl (va_cpy (upd (upd (fun _ => 0) 26 1) 32 (-1)) (fun _ => 0) 0 0 5640))), (mo_kept, .inl (ty 0, 5640, .inl (upd (upd (fun _ => 0) 26 1) 32 (-1)))), (mo_hasImage, .inl (ty 2, 2, .inl (upd (fun _ => 0) 0 1))), (mo_refused, .inl (ty 0, 7, .inl (fun _ => 0)))]) (va_runV (As := [.int 0]) (rest := []) ⟨hx, hb, hml, hown, hts⟩ (kcX10_good l D ty eo _ mo (.int 0) (.ref mo_refused) (.ref mo_kept) (.ref mo_images) (.ref mo_hasImage) (.ref mo_aside) (.int 0) (.ref mo_words) (.int 0) (.int 0) (.int 0) (.ref mo_tape) (.ref mo_five) (.int 0) (.int (-1)) (.ref mo_code) (.ref mo_value) (.ref mo_placed) (.int 0) (.int 0) (.int 0) (.int 0) (.int 0) (.int 0) (.int 0) (.int 0) (.ref mo_asked) (.int 0) (.int 0) (.ref mo_tipping) (.ref mo_left0) (.ref mo_leftAhead) (.int 0) (.ref mo_rankAt) (.ref mo_orderBy) (.ref mo_headsBy) (.ref mo_line) (.int 0) (.int 0) (.ref mo_price) (.ref mo_dist) (.ref mo_rowMany) (.ref mo_queue) (.ref mo_waits) (.ref mo_alike) (.ref mo_shares) (.int (-1)) (.int 0) (.int 0) (.int 0) (.int 0) (.int 0) (.long 0) (.ref mo_drawnMoved) (.int (-1)) (.int 0) 0) (cwV 1 hts gX10_image_X10_good rfl rfl rfl (by decide +kernel) ⟨Nat.le_of_ble_eq_true rfl, Nat.le_of_ble_eq_true rfl⟩) (kz_preV (ci := 10) (q0 := 0) hK hN hE hP hD hS hA rfl rfl [0] (by decide) rfl) rfl rfl hl.1 rfl (lv_room (Nat.le_of_ble_eq_true rfl)) dX10_image_57 ⟨Nat.le_of_ble_eq_true rfl, Nat.le_of_ble_eq_true rfl⟩) hP hD hS hA [0] [1, 2, 3, 4] rfl rfl (by decide) (by decide) (fun r u H locs hw hp hd hs => ?_)
        obtain ⟨rfl, rfl⟩ := hw
        refine kz_re (w2 := [(mo_images, .inl (ty 0, 11280, .inl (va_cpy (upd (upd (fun _ => 0) 26 1) 32 (-1)) (fun _ => 0) 0 0 5640))), (mo_kept, .inl (ty 0, 5640, .inl (upd (upd (fun _ => 0) 26 1) 32 (-1)))), (mo_hasImage, .inl (ty 2, 2, .inl (upd (fun _ => 0) 0 1))), (mo_refused, .inl (ty 0, 7, .inl (fun _ => 0))), (mo, .inr (10, [.int 0, .ref mo_refused, .ref mo_kept, .ref mo_images, .ref mo_hasImage, .ref mo_aside, .int 0, .ref mo_words, .int 0, .int 0, .int 0, .ref mo_tape, .ref mo_five, .int 0, .int (-1), .ref mo_code, .ref mo_value, .ref mo_placed, .int 0, .int 0, .int 0, .int 0, .int 0, .int 0, .int 0, .int 0, .ref mo_asked, .int 0, .int 0, .ref mo_tipping, .ref mo_left0, .ref mo_leftAhead, .int 0, .ref mo_rankAt, .ref mo_orderBy, .ref mo_headsBy, .ref mo_line, .int 0, .int 0, .ref mo_price, .ref mo_dist, .ref mo_rowMany, .ref mo_queue, .ref mo_waits, .ref mo_alike, .ref mo_shares, .int (-1), .int 0, .int 0, .int 0, .int 0, .int 0, .long 0, .ref mo_drawnMoved, .int (-1), .int 0]))]) hp hd hs rfl ?_
        clear hp hd hs hP hD hS
        intro hP hD hS
        exact kz_iret hx hb hr hlocks hP hK hD hS dX10_image_60 (Or.inr (Or.inr (Or.inl ⟨c_4, c_5, c9, rfl, rfl⟩)))
      · have hlt : i < 5640 := by
          rcases Nat.lt_or_ge i 5640 with q | q
          · exact q
          · exact absurd (nI_le q (by omega)) h9
        have e5 : (0 : Int32) + nI i = nI (0 + i) := nI_add 0 i
        refine lv_aload_n hx hb dX10_image_24 rfl (lv_at hl 1 rfl) ?_
        refine va_get (D := D) (ci := 10) (v := .ref mo_images) (C := RX10) (T := TX10) (N := 56) hx hb hts (by decide +kernel) hown hK hP 0 rfl rfl 3 (by decide) (hts (.fieldLink RX10 31 "TurnedFloorsModel" "images" "[I") (by decide +kernel)) (fun _ h9 => h9) rfl dX10_image_25 ?_
        refine lv_sipush (v := 5640) hx hb dX10_image_28 (by decide) ?_
        refine lv_iload_n hx hb dX10_image_31 rfl (lv_at hl 2 rfl) ?_
        refine kz_topi 0 (by simp only [Int32.lt_iff_toInt_lt, Int32.le_iff_toInt_le, ← Int32.toInt_inj, Int32.reduceToInt] at c_4 c_5 c9 ⊢; omega) ?_
        refine lv_imul hx hb dX10_image_32 ?_
        refine kz_topi 0 (by first | rfl | decide +kernel) ?_
        refine lv_iload_n hx hb dX10_image_33 rfl (lv_at hl 0 rfl) ?_
        refine lv_iadd hx hb dX10_image_34 ?_
        refine lv_aload_n hx hb dX10_image_35 rfl (lv_at hl 1 rfl) ?_
        refine va_get (D := D) (ci := 10) (v := .ref mo_kept) (C := RX10) (T := TX10) (N := 56) hx hb hts (by decide +kernel) hown hK hP 0 rfl rfl 2 (by decide) (hts (.fieldLink RX10 28 "TurnedFloorsModel" "kept" "[I") (by decide +kernel)) (fun _ h9 => h9) rfl dX10_image_36 ?_
        refine lv_iload_n hx hb dX10_image_39 rfl (lv_at hl 0 rfl) ?_
        refine va_iald hx hb hK hP 2 0 rfl rfl (vp_in_nI hlt (by decide)) dX10_image_40 ?_
        refine va_iast hx hb hK hP hD hS 1 0 rfl rfl (by rw [e5]; exact vp_in_nI (show 0 + i < 11280 by omega) (by decide)) dX10_image_41 (fun H locs hp hd hs => ?_)
        refine kz_re (w2 := [(mo, .inr (10, [.int 0, .ref mo_refused, .ref mo_kept, .ref mo_images, .ref mo_hasImage, .ref mo_aside, .int 0, .ref mo_words, .int 0, .int 0, .int 0, .ref mo_tape, .ref mo_five, .int 0, .int (-1), .ref mo_code, .ref mo_value, .ref mo_placed, .int 0, .int 0, .int 0, .int 0, .int 0, .int 0, .int 0, .int 0, .ref mo_asked, .int 0, .int 0, .ref mo_tipping, .ref mo_left0, .ref mo_leftAhead, .int 0, .ref mo_rankAt, .ref mo_orderBy, .ref mo_headsBy, .ref mo_line, .int 0, .int 0, .ref mo_price, .ref mo_dist, .ref mo_rowMany, .ref mo_queue, .ref mo_waits, .ref mo_alike, .ref mo_shares, .int (-1), .int 0, .int 0, .int 0, .int 0, .int 0, .long 0, .ref mo_drawnMoved, .int (-1), .int 0])), (mo_images, .inl (ty 0, 11280, .inl (upd (va_cpy (upd (upd (fun _ => 0) 26 1) 32 (-1)) (fun _ => 0) 0 0 i) (Int32.toNatClampNeg (0 + (nI i))) ((upd (upd (fun _ => 0) 26 1) 32 (-1)) (Int32.toNatClampNeg (nI i)))))), (mo_kept, .inl (ty 0, 5640, .inl (upd (upd (fun _ => 0) 26 1) 32 (-1)))), (mo_hasImage, .inl (ty 2, 2, .inl (fun _ => 0))), (mo_refused, .inl (ty 0, 7, .inl (fun _ => 0)))]) hp hd hs rfl ?_
        clear hp hd hs hP hD hS
        intro hP hD hS
        refine lv_iinc (v := (nI i) + 1) (lv' := [(2, .int ((nI i) + 1)), (0, .ref mo), (1, .int p1)]) hx hb dX10_image_42 hl (k := 0) rfl rfl (by decide) rfl (fun ls hl => ?_)
        refine lv_goto (tgt := 17) hx hb dX10_image_45 (by decide) ?_
        have e9 : upd (va_cpy (upd (upd (fun _ => 0) 26 1) 32 (-1)) (fun _ => 0) 0 0 i) (Int32.toNatClampNeg (0 + (nI i))) ((upd (upd (fun _ => 0) 26 1) 32 (-1)) (Int32.toNatClampNeg (nI i))) = va_cpy (upd (upd (fun _ => 0) 26 1) 32 (-1)) (fun _ => 0) 0 0 (i + 1) := by
          rw [e5, nI_clamp (show 0 + i < 2 ^ 31 by omega), nI_clamp (show i < 2 ^ 31 by omega)]
          exact kz_cpy_s _ _ 0 i
        rw [e9] at hP hD
        refine ih _ _ _ hlt ⟨hP, hD, hS, ?_⟩
        have hl := lv_sub hl [0, 1, 2] rfl
        rw [nI_1] at hl
        exact hl
    · refine kz_loop 5640 (fun i H locs ls => va_P D vwCl [(mo, .inr (10, [.int 0, .ref mo_refused, .ref mo_kept, .ref mo_images, .ref mo_hasImage, .ref mo_aside, .int 0, .ref mo_words, .int 0, .int 0, .int 0, .ref mo_tape, .ref mo_five, .int 0, .int (-1), .ref mo_code, .ref mo_value, .ref mo_placed, .int 0, .int 0, .int 0, .int 0, .int 0, .int 0, .int 0, .int 0, .ref mo_asked, .int 0, .int 0, .ref mo_tipping, .ref mo_left0, .ref mo_leftAhead, .int 0, .ref mo_rankAt, .ref mo_orderBy, .ref mo_headsBy, .ref mo_line, .int 0, .int 0, .ref mo_price, .ref mo_dist, .ref mo_rowMany, .ref mo_queue, .ref mo_waits, .ref mo_alike, .ref mo_shares, .int (-1), .int 0, .int 0, .int 0, .int 0, .int 0, .long 0, .ref mo_drawnMoved, .int (-1), .int 0])), (mo_images, .inl (ty 0, 11280, .inl (va_cpy (upd (upd (fun _ => 0) 26 1) 32 (-1)) (fun _ => 0) 0 5640 i))), (mo_kept, .inl (ty 0, 5640, .inl (upd (upd (fun _ => 0) 26 1) 32 (-1)))), (mo_hasImage, .inl (ty 2, 2, .inl (fun _ => 0))), (mo_refused, .inl (ty 0, 7, .inl (fun _ => 0)))] H ∧ va_D A [(mo, .inr (10, [.int 0, .ref mo_refused, .ref mo_kept, .ref mo_images, .ref mo_hasImage, .ref mo_aside, .int 0, .ref mo_words, .int 0, .int 0, .int 0, .ref mo_tape, .ref mo_five, .int 0, .int (-1), .ref mo_code, .ref mo_value, .ref mo_placed, .int 0, .int 0, .int 0, .int 0, .int 0, .int 0, .int 0, .int 0, .ref mo_asked, .int 0, .int 0, .ref mo_tipping, .ref mo_left0, .ref mo_leftAhead, .int 0, .ref mo_rankAt, .ref mo_orderBy, .ref mo_headsBy, .ref mo_line, .int 0, .int 0, .ref mo_price, .ref mo_dist, .ref mo_rowMany, .ref mo_queue, .ref mo_waits, .ref mo_alike, .ref mo_shares, .int (-1), .int 0, .int 0, .int 0, .int 0, .int 0, .long 0, .ref mo_drawnMoved, .int (-1), .int 0])), (mo_images, .inl (ty 0, 11280, .inl (va_cpy (upd (upd (fun _ => 0) 26 1) 32 (-1)) (fun _ => 0) 0 5640 i))), (mo_kept, .inl (ty 0, 5640, .inl (upd (upd (fun _ => 0) 26 1) 32 (-1)))), (mo_hasImage, .inl (ty 2, 2, .inl (fun _ => 0))), (mo_refused, .inl (ty 0, 7, .inl (fun _ => 0)))] ∧ va_S A s.heap H locs ∧ lv_has ls 3 [(2, .int (nI i)), (0, .ref mo), (1, .int p1)]) (fun i H locs ls hi hI ih => ?_) _ _ _ ⟨by rw [kz_cpy_0]; exact hP, by rw [kz_cpy_0]; exact hD, hS, by rw [nI_0]; exact lv_sub hl [0, 1, 2] rfl⟩
      obtain ⟨hP, hD, hS, hl⟩ := hI
      refine lv_iload_n hx hb dX10_image_17 rfl (lv_at hl 0 rfl) ?_
      refine lv_sipush (v := 5640) hx hb dX10_image_18 (by decide) ?_
      refine lv_icmp_ge (tgt := 48) hx hb dX10_image_21 (by decide) (fun h9 => ?_) (fun h9 => ?_)
      · have hie : i = 5640 := by
          rcases Nat.lt_or_ge i 5640 with q | q
          · exact absurd h9 (nI_ge q (by decide))
          · omega
        rw [hie] at hP hD hl
        refine lv_aload_n hx hb dX10_image_48 rfl (lv_at hl 1 rfl) ?_
        refine va_get (D := D) (ci := 10) (v := .ref mo_hasImage) (C := RX10) (T := TX10) (N := 56) hx hb hts (by decide +kernel) hown hK hP 0 rfl rfl 4 (by decide) (hts (.fieldLink RX10 34 "TurnedFloorsModel" "hasImage" "[Z") (by decide +kernel)) (fun _ h9 => h9) rfl dX10_image_49 ?_
        refine lv_iload_n hx hb dX10_image_52 rfl (lv_at hl 2 rfl) ?_
        refine kz_topi 1 (by simp only [Int32.lt_iff_toInt_lt, Int32.le_iff_toInt_le, ← Int32.toInt_inj, Int32.reduceToInt] at c_4 c_5 c9 ⊢; omega) ?_
        refine lv_iconst (v := 1) hx hb dX10_image_53 (by decide) ?_
        refine va_zast hx hb hK hP hD hS 3 2 rfl rfl (by simp only [vp_in]; decide) dX10_image_54 (fun H locs hp hd hs => ?_)
        refine kz_re (w2 := [(mo, .inr (10, [.int 0, .ref mo_refused, .ref mo_kept, .ref mo_images, .ref mo_hasImage, .ref mo_aside, .int 0, .ref mo_words, .int 0, .int 0, .int 0, .ref mo_tape, .ref mo_five, .int 0, .int (-1), .ref mo_code, .ref mo_value, .ref mo_placed, .int 0, .int 0, .int 0, .int 0, .int 0, .int 0, .int 0, .int 0, .ref mo_asked, .int 0, .int 0, .ref mo_tipping, .ref mo_left0, .ref mo_leftAhead, .int 0, .ref mo_rankAt, .ref mo_orderBy, .ref mo_headsBy, .ref mo_line, .int 0, .int 0, .ref mo_price, .ref mo_dist, .ref mo_rowMany, .ref mo_queue, .ref mo_waits, .ref mo_alike, .ref mo_shares, .int (-1), .int 0, .int 0, .int 0, .int 0, .int 0, .long 0, .ref mo_drawnMoved, .int (-1), .int 0])), (mo_images, .inl (ty 0, 11280, .inl (va_cpy (upd (upd (fun _ => 0) 26 1) 32 (-1)) (fun _ => 0) 0 5640 5640))), (mo_kept, .inl (ty 0, 5640, .inl (upd (upd (fun _ => 0) 26 1) 32 (-1)))), (mo_hasImage, .inl (ty 2, 2, .inl (upd (fun _ => 0) 1 1))), (mo_refused, .inl (ty 0, 7, .inl (fun _ => 0)))]) hp hd hs rfl ?_
        clear hp hd hs hP hD hS
        intro hP hD hS
        refine lv_aload_n hx hb dX10_image_55 rfl (lv_at hl 1 rfl) ?_
        refine lv_iconst (v := 0) hx hb dX10_image_56 (by decide) ?_
        refine kz_ki (wc := [(mo, .inr (10, [.int 0, .ref mo_refused, .ref mo_kept, .ref mo_images, .ref mo_hasImage, .ref mo_aside, .int 0, .ref mo_words, .int 0, .int 0, .int 0, .ref mo_tape, .ref mo_five, .int 0, .int (-1), .ref mo_code, .ref mo_value, .ref mo_placed, .int 0, .int 0, .int 0, .int 0, .int 0, .int 0, .int 0, .int 0, .ref mo_asked, .int 0, .int 0, .ref mo_tipping, .ref mo_left0, .ref mo_leftAhead, .int 0, .ref mo_rankAt, .ref mo_orderBy, .ref mo_headsBy, .ref mo_line, .int 0, .int 0, .ref mo_price, .ref mo_dist, .ref mo_rowMany, .ref mo_queue, .ref mo_waits, .ref mo_alike, .ref mo_shares, .int (-1), .int 0, .int 0, .int 0, .int 0, .int 0, .long 0, .ref mo_drawnMoved, .int (-1), .int 0]))]) (wr := [(mo_images, .inl (ty 0, 11280, .inl (va_cpy (upd (upd (fun _ => 0) 26 1) 32 (-1)) (fun _ => 0) 0 5640 5640))), (mo_kept, .inl (ty 0, 5640, .inl (upd (upd (fun _ => 0) 26 1) 32 (-1)))), (mo_hasImage, .inl (ty 2, 2, .inl (upd (fun _ => 0) 1 1))), (mo_refused, .inl (ty 0, 7, .inl (fun _ => 0)))]) (va_runV (As := [.int 0]) (rest := []) ⟨hx, hb, hml, hown, hts⟩ (kcX10_good l D ty eo _ mo (.int 0) (.ref mo_refused) (.ref mo_kept) (.ref mo_images) (.ref mo_hasImage) (.ref mo_aside) (.int 0) (.ref mo_words) (.int 0) (.int 0) (.int 0) (.ref mo_tape) (.ref mo_five) (.int 0) (.int (-1)) (.ref mo_code) (.ref mo_value) (.ref mo_placed) (.int 0) (.int 0) (.int 0) (.int 0) (.int 0) (.int 0) (.int 0) (.int 0) (.ref mo_asked) (.int 0) (.int 0) (.ref mo_tipping) (.ref mo_left0) (.ref mo_leftAhead) (.int 0) (.ref mo_rankAt) (.ref mo_orderBy) (.ref mo_headsBy) (.ref mo_line) (.int 0) (.int 0) (.ref mo_price) (.ref mo_dist) (.ref mo_rowMany) (.ref mo_queue) (.ref mo_waits) (.ref mo_alike) (.ref mo_shares) (.int (-1)) (.int 0) (.int 0) (.int 0) (.int 0) (.int 0) (.long 0) (.ref mo_drawnMoved) (.int (-1)) (.int 0) 0) (cwV 1 hts gX10_image_X10_good rfl rfl rfl (by decide +kernel) ⟨Nat.le_of_ble_eq_true rfl, Nat.le_of_ble_eq_true rfl⟩) (kz_preV (ci := 10) (q0 := 0) hK hN hE hP hD hS hA rfl rfl [0] (by decide) rfl) rfl rfl hl.1 rfl (lv_room (Nat.le_of_ble_eq_true rfl)) dX10_image_57 ⟨Nat.le_of_ble_eq_true rfl, Nat.le_of_ble_eq_true rfl⟩) hP hD hS hA [0] [1, 2, 3, 4] rfl rfl (by decide) (by decide) (fun r u H locs hw hp hd hs => ?_)
        obtain ⟨rfl, rfl⟩ := hw
        refine kz_re (w2 := [(mo_images, .inl (ty 0, 11280, .inl (va_cpy (upd (upd (fun _ => 0) 26 1) 32 (-1)) (fun _ => 0) 0 5640 5640))), (mo_kept, .inl (ty 0, 5640, .inl (upd (upd (fun _ => 0) 26 1) 32 (-1)))), (mo_hasImage, .inl (ty 2, 2, .inl (upd (fun _ => 0) 1 1))), (mo_refused, .inl (ty 0, 7, .inl (fun _ => 0))), (mo, .inr (10, [.int 0, .ref mo_refused, .ref mo_kept, .ref mo_images, .ref mo_hasImage, .ref mo_aside, .int 0, .ref mo_words, .int 0, .int 0, .int 0, .ref mo_tape, .ref mo_five, .int 0, .int (-1), .ref mo_code, .ref mo_value, .ref mo_placed, .int 0, .int 0, .int 0, .int 0, .int 0, .int 0, .int 0, .int 0, .ref mo_asked, .int 0, .int 0, .ref mo_tipping, .ref mo_left0, .ref mo_leftAhead, .int 0, .ref mo_rankAt, .ref mo_orderBy, .ref mo_headsBy, .ref mo_line, .int 0, .int 0, .ref mo_price, .ref mo_dist, .ref mo_rowMany, .ref mo_queue, .ref mo_waits, .ref mo_alike, .ref mo_shares, .int (-1), .int 0, .int 0, .int 0, .int 0, .int 0, .long 0, .ref mo_drawnMoved, .int (-1), .int 0]))]) hp hd hs rfl ?_
        clear hp hd hs hP hD hS
        intro hP hD hS
        exact kz_iret hx hb hr hlocks hP hK hD hS dX10_image_60 (Or.inr (Or.inr (Or.inr ⟨c_4, c_5, c9, rfl, rfl⟩)))
      · have hlt : i < 5640 := by
          rcases Nat.lt_or_ge i 5640 with q | q
          · exact q
          · exact absurd (nI_le q (by omega)) h9
        have e5 : (5640 : Int32) + nI i = nI (5640 + i) := nI_add 5640 i
        refine lv_aload_n hx hb dX10_image_24 rfl (lv_at hl 1 rfl) ?_
        refine va_get (D := D) (ci := 10) (v := .ref mo_images) (C := RX10) (T := TX10) (N := 56) hx hb hts (by decide +kernel) hown hK hP 0 rfl rfl 3 (by decide) (hts (.fieldLink RX10 31 "TurnedFloorsModel" "images" "[I") (by decide +kernel)) (fun _ h9 => h9) rfl dX10_image_25 ?_
        refine lv_sipush (v := 5640) hx hb dX10_image_28 (by decide) ?_
        refine lv_iload_n hx hb dX10_image_31 rfl (lv_at hl 2 rfl) ?_
        refine kz_topi 1 (by simp only [Int32.lt_iff_toInt_lt, Int32.le_iff_toInt_le, ← Int32.toInt_inj, Int32.reduceToInt] at c_4 c_5 c9 ⊢; omega) ?_
        refine lv_imul hx hb dX10_image_32 ?_
        refine kz_topi 5640 (by first | rfl | decide +kernel) ?_
        refine lv_iload_n hx hb dX10_image_33 rfl (lv_at hl 0 rfl) ?_
        refine lv_iadd hx hb dX10_image_34 ?_
        refine lv_aload_n hx hb dX10_image_35 rfl (lv_at hl 1 rfl) ?_
        refine va_get (D := D) (ci := 10) (v := .ref mo_kept) (C := RX10) (T := TX10) (N := 56) hx hb hts (by decide +kernel) hown hK hP 0 rfl rfl 2 (by decide) (hts (.fieldLink RX10 28 "TurnedFloorsModel" "kept" "[I") (by decide +kernel)) (fun _ h9 => h9) rfl dX10_image_36 ?_
        refine lv_iload_n hx hb dX10_image_39 rfl (lv_at hl 0 rfl) ?_
        refine va_iald hx hb hK hP 2 0 rfl rfl (vp_in_nI hlt (by decide)) dX10_image_40 ?_
        refine va_iast hx hb hK hP hD hS 1 0 rfl rfl (by rw [e5]; exact vp_in_nI (show 5640 + i < 11280 by omega) (by decide)) dX10_image_41 (fun H locs hp hd hs => ?_)
        refine kz_re (w2 := [(mo, .inr (10, [.int 0, .ref mo_refused, .ref mo_kept, .ref mo_images, .ref mo_hasImage, .ref mo_aside, .int 0, .ref mo_words, .int 0, .int 0, .int 0, .ref mo_tape, .ref mo_five, .int 0, .int (-1), .ref mo_code, .ref mo_value, .ref mo_placed, .int 0, .int 0, .int 0, .int 0, .int 0, .int 0, .int 0, .int 0, .ref mo_asked, .int 0, .int 0, .ref mo_tipping, .ref mo_left0, .ref mo_leftAhead, .int 0, .ref mo_rankAt, .ref mo_orderBy, .ref mo_headsBy, .ref mo_line, .int 0, .int 0, .ref mo_price, .ref mo_dist, .ref mo_rowMany, .ref mo_queue, .ref mo_waits, .ref mo_alike, .ref mo_shares, .int (-1), .int 0, .int 0, .int 0, .int 0, .int 0, .long 0, .ref mo_drawnMoved, .int (-1), .int 0])), (mo_images, .inl (ty 0, 11280, .inl (upd (va_cpy (upd (upd (fun _ => 0) 26 1) 32 (-1)) (fun _ => 0) 0 5640 i) (Int32.toNatClampNeg (5640 + (nI i))) ((upd (upd (fun _ => 0) 26 1) 32 (-1)) (Int32.toNatClampNeg (nI i)))))), (mo_kept, .inl (ty 0, 5640, .inl (upd (upd (fun _ => 0) 26 1) 32 (-1)))), (mo_hasImage, .inl (ty 2, 2, .inl (fun _ => 0))), (mo_refused, .inl (ty 0, 7, .inl (fun _ => 0)))]) hp hd hs rfl ?_
        clear hp hd hs hP hD hS
        intro hP hD hS
        refine lv_iinc (v := (nI i) + 1) (lv' := [(2, .int ((nI i) + 1)), (0, .ref mo), (1, .int p1)]) hx hb dX10_image_42 hl (k := 0) rfl rfl (by decide) rfl (fun ls hl => ?_)
        refine lv_goto (tgt := 17) hx hb dX10_image_45 (by decide) ?_
        have e9 : upd (va_cpy (upd (upd (fun _ => 0) 26 1) 32 (-1)) (fun _ => 0) 0 5640 i) (Int32.toNatClampNeg (5640 + (nI i))) ((upd (upd (fun _ => 0) 26 1) 32 (-1)) (Int32.toNatClampNeg (nI i))) = va_cpy (upd (upd (fun _ => 0) 26 1) 32 (-1)) (fun _ => 0) 0 5640 (i + 1) := by
          rw [e5, nI_clamp (show 5640 + i < 2 ^ 31 by omega), nI_clamp (show i < 2 ^ 31 by omega)]
          exact kz_cpy_s _ _ 5640 i
        rw [e9] at hP hD
        refine ih _ _ _ hlt ⟨hP, hD, hS, ?_⟩
        have hl := lv_sub hl [0, 1, 2] rfl
        rw [nI_1] at hl
        exact hl
