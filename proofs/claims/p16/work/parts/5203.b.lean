section
theorem u9_wsX9_asks_X9 : ∀ w ∈ u_ws RX9 TX9 19, w ∈ wsX9_asks := fun w h => List.mem_cons_of_mem _ (vW9_wsX90 w h)
theorem u9_wsX9_asks_X6 : ∀ w ∈ u_ws RX6 TX6 10, w ∈ wsX9_asks := fun w h => List.mem_cons_of_mem _ (vW9_wsX60 w h)
theorem u9_wsX9_asks_X8 : ∀ w ∈ u_ws RX8 TX8 5, w ∈ wsX9_asks := fun w h => List.mem_cons_of_mem _ (vW9_wsX80 w h)
theorem f9_wsX9_asks_423 : (Cond.fieldLink RX9 10 "TurnedFloors" "state" "LTurnedFloors$State;") ∈ wsX9_asks := List.mem_cons_of_mem _ mvW9_0
theorem u9_wsX6_term_X6 : ∀ w ∈ u_ws RX6 TX6 10, w ∈ wsX6_term := fun w h => List.mem_cons_of_mem _ (vW9_wsX60 w h)
theorem u9_wsX6_term_X8 : ∀ w ∈ u_ws RX8 TX8 5, w ∈ wsX6_term := fun w h => List.mem_cons_of_mem _ (vW9_wsX80 w h)
theorem f9_wsX6_term_426 : (Cond.fieldLink RX6 12 "TurnedFloors$State" "tower" "LTurnedFloors$Tower;") ∈ wsX6_term := List.mem_cons_of_mem _ mvW9_135
theorem f9_wsX6_term_427 : (Cond.fieldLink RX6 18 "TurnedFloors$State" "slips" "I") ∈ wsX6_term := List.mem_cons_of_mem _ mvW9_136
theorem f9_wsX6_term_428 : (Cond.fieldLink RX6 22 "TurnedFloors$State" "mood" "I") ∈ wsX6_term := List.mem_cons_of_mem _ mvW9_137
theorem f9_wsX6_term_429 : (Cond.fieldLink RX6 25 "TurnedFloors$State" "headsMatter" "I") ∈ wsX6_term := List.mem_cons_of_mem _ mvW9_138
theorem u9_wsX6_setTerm_X6 : ∀ w ∈ u_ws RX6 TX6 10, w ∈ wsX6_setTerm := fun w h => List.mem_cons_of_mem _ (vW9_wsX60 w h)
theorem u9_wsX6_setTerm_X8 : ∀ w ∈ u_ws RX8 TX8 5, w ∈ wsX6_setTerm := fun w h => List.mem_cons_of_mem _ (vW9_wsX80 w h)
theorem f9_wsX6_setTerm_432 : (Cond.fieldLink RX6 12 "TurnedFloors$State" "tower" "LTurnedFloors$Tower;") ∈ wsX6_setTerm := List.mem_cons_of_mem _ mvW9_135
theorem f9_wsX6_setTerm_433 : (Cond.fieldLink RX6 18 "TurnedFloors$State" "slips" "I") ∈ wsX6_setTerm := List.mem_cons_of_mem _ mvW9_136
theorem f9_wsX6_setTerm_434 : (Cond.fieldLink RX6 22 "TurnedFloors$State" "mood" "I") ∈ wsX6_setTerm := List.mem_cons_of_mem _ mvW9_137
theorem f9_wsX6_setTerm_435 : (Cond.fieldLink RX6 25 "TurnedFloors$State" "headsMatter" "I") ∈ wsX6_setTerm := List.mem_cons_of_mem _ mvW9_138
theorem u9_wsX9_terms_X9 : ∀ w ∈ u_ws RX9 TX9 19, w ∈ wsX9_terms := fun w h => List.mem_cons_of_mem _ (vW9_wsX90 w h)
theorem f9_wsX9_terms_437 : (Cond.fieldLink RX9 10 "TurnedFloors" "state" "LTurnedFloors$State;") ∈ wsX9_terms := List.mem_cons_of_mem _ mvW9_0
theorem f9_wsX9_terms_438 : (Cond.fieldLink RX9 27 "TurnedFloors" "history" "LTurnedFloors$History;") ∈ wsX9_terms := List.mem_cons_of_mem _ mvW9_1
theorem u9_wsX9_feedFour_X9 : ∀ w ∈ u_ws RX9 TX9 19, w ∈ wsX9_feedFour := fun w h => List.mem_cons_of_mem _ (vW9_wsX90 w h)
theorem f9_wsX9_feedFour_440 : (Cond.fieldLink RX9 88 "TurnedFloors" "tapeLength" "I") ∈ wsX9_feedFour := List.mem_cons_of_mem _ mvW9_143
theorem f9_wsX9_feedFour_441 : (Cond.fieldLink RX9 84 "TurnedFloors" "tape" "[I") ∈ wsX9_feedFour := List.mem_cons_of_mem _ mvW9_148
theorem u9_wsX9_feed_X9 : ∀ w ∈ u_ws RX9 TX9 19, w ∈ wsX9_feed := fun w h => List.mem_cons_of_mem _ (vW9_wsX90 w h)
theorem f9_wsX9_feed_443 : (Cond.fieldLink RX9 88 "TurnedFloors" "tapeLength" "I") ∈ wsX9_feed := List.mem_cons_of_mem _ mvW9_143
theorem u9_wsX9_end_X9 : ∀ w ∈ u_ws RX9 TX9 19, w ∈ wsX9_end := fun w h => List.mem_cons_of_mem _ (vW9_wsX90 w h)
theorem f9_wsX9_end_445 : (Cond.fieldLink RX9 88 "TurnedFloors" "tapeLength" "I") ∈ wsX9_end := List.mem_cons_of_mem _ mvW9_143
theorem u9_wsX9_isNewFloor_X9 : ∀ w ∈ u_ws RX9 TX9 19, w ∈ wsX9_isNewFloor := fun w h => List.mem_cons_of_mem _ (vW9_wsX90 w h)
theorem u9_wsX9_isNewFloor_X6 : ∀ w ∈ u_ws RX6 TX6 10, w ∈ wsX9_isNewFloor := fun w h => List.mem_cons_of_mem _ (vW9_wsX60 w h)
theorem f9_wsX9_isNewFloor_448 : (Cond.fieldLink RX9 10 "TurnedFloors" "state" "LTurnedFloors$State;") ∈ wsX9_isNewFloor := List.mem_cons_of_mem _ mvW9_0
theorem u9_wsX9_row_X9 : ∀ w ∈ u_ws RX9 TX9 19, w ∈ wsX9_row := fun w h => List.mem_cons_of_mem _ (vW9_wsX90 w h)
theorem u9_wsX9_row_X6 : ∀ w ∈ u_ws RX6 TX6 10, w ∈ wsX9_row := fun w h => List.mem_cons_of_mem _ (vW9_wsX60 w h)
theorem f9_wsX9_row_451 : (Cond.fieldLink RX9 88 "TurnedFloors" "tapeLength" "I") ∈ wsX9_row := List.mem_cons_of_mem _ mvW9_143
theorem f9_wsX9_row_452 : (Cond.fieldLink RX9 95 "TurnedFloors" "brickCount" "I") ∈ wsX9_row := List.mem_cons_of_mem _ mvW9_149
theorem f9_wsX9_row_453 : (Cond.fieldLink RX9 27 "TurnedFloors" "history" "LTurnedFloors$History;") ∈ wsX9_row := List.mem_cons_of_mem _ mvW9_1
theorem f9_wsX9_row_454 : (Cond.fieldLink RX9 84 "TurnedFloors" "tape" "[I") ∈ wsX9_row := List.mem_cons_of_mem _ mvW9_148
theorem f9_wsX9_row_455 : (Cond.fieldLink RX9 10 "TurnedFloors" "state" "LTurnedFloors$State;") ∈ wsX9_row := List.mem_cons_of_mem _ mvW9_0
theorem u9_wsX9_bricks_X9 : ∀ w ∈ u_ws RX9 TX9 19, w ∈ wsX9_bricks := fun w h => List.mem_cons_of_mem _ (vW9_wsX90 w h)
theorem f9_wsX9_bricks_457 : (Cond.fieldLink RX9 95 "TurnedFloors" "brickCount" "I") ∈ wsX9_bricks := List.mem_cons_of_mem _ mvW9_149
set_option maxHeartbeats 4000000 in
set_option maxRecDepth 100000 in
theorem WX9_asks_s0_68 {p : Program} {l : Launch} {e : Env} {s : State} {m : MethodId} {args : Array Value} {below : List Frame} {meth : Method} {c : Code} {D : va_G} {ty : Nat → ClassId} {eo : Nat → Nat} {A : Nat → Prop} {ad : Nat → Nat} {o1 : Int32} {o2 : dK} (C : dc_C p s m args meth c cX9_asks (some .int) 3 RX9 wsX9_asks D ty eo A)   (q : dK) (y0 : Int32) (H : Heap) (locs : List Loc) (ls : Array Slot) (h : zX9_asks_s0_68  q y0 = some (o1, o2)) (hP : va_P D vwCl (wF ty ad q) H) (hD : va_D A (wF ty ad q)) (hS : va_S A s.heap H locs) (hl : lv_has ls 3 []) : W p l e ({ frames := 4, cells := 0, slots := 0, locals := 103 } : Room) s m args below meth c H locs 0 0 (MQ below (va_Qi (fun (r : Int32) (u : va_W) => o1 = r ∧ wF ty ad o2 = u) (kz_B D ty A) A) args s 0 0 A) (F0 m 68 ls [.int y0]) := by
  have C0 := C
  obtain ⟨hx, hb, hr, hts, hown, hlocks, hml, hK, hN, hE, hA⟩ := C
  unfold zX9_asks_s0_68 at h
  cases h
  exact kz_iret hx hb hr hlocks hP hK hD hS dX9_asks_68 ⟨rfl, rfl⟩
set_option maxHeartbeats 4000000 in
set_option maxRecDepth 100000 in
theorem WX9_asks_s0_19 {p : Program} {l : Launch} {e : Env} {s : State} {m : MethodId} {args : Array Value} {below : List Frame} {meth : Method} {c : Code} {D : va_G} {ty : Nat → ClassId} {eo : Nat → Nat} {A : Nat → Prop} {ad : Nat → Nat} {o1 : Int32} {o2 : dK} (C : dc_C p s m args meth c cX9_asks (some .int) 3 RX9 wsX9_asks D ty eo A)   (q : dK)  (H : Heap) (locs : List Loc) (ls : Array Slot) (h : zX9_asks_s0_19  q = some (o1, o2)) (hP : va_P D vwCl (wF ty ad q) H) (hD : va_D A (wF ty ad q)) (hS : va_S A s.heap H locs) (hl : lv_has ls 3 []) : W p l e ({ frames := 4, cells := 0, slots := 0, locals := 103 } : Room) s m args below meth c H locs 0 0 (MQ below (va_Qi (fun (r : Int32) (u : va_W) => o1 = r ∧ wF ty ad o2 = u) (kz_B D ty A) A) args s 0 0 A) (F0 m 19 ls []) := by
  have C0 := C
  obtain ⟨hx, hb, hr, hts, hown, hlocks, hml, hK, hN, hE, hA⟩ := C
  unfold zX9_asks_s0_19 at h
  refine lv_iconst (v := (-1)) hx hb dX9_asks_19 (by decide) ?_
  cases h
  exact kz_iret hx hb hr hlocks hP hK hD hS dX9_asks_20 ⟨rfl, rfl⟩
set_option maxHeartbeats 4000000 in
set_option maxRecDepth 100000 in
theorem qX9_asks_s0 (l : Launch) (D : va_G) (ty : Nat → ClassId) (eo : Nat → Nat) (sz : Nat) (ad : Nat → Nat) (q : dK) (p1 : Int32) (p2 : Int32) (o1 : Int32) (o2 : dK) (h : zX9_asks_s0 q p1 p2 = some (o1, o2)) : Met l yX9_asks wsX9_asks ({ frames := 4, cells := 0, slots := 0, locals := 103 } : Room) (va_Pc [.ref (ad 0), .int p1, .int p2] (kz_pre D ty eo (wF ty ad q) sz)) (va_Qi (fun (r : Int32) (u : va_W) => o1 = r ∧ wF ty ad o2 = u) (kz_B D ty (va_A (wF ty ad q) sz)) (va_A (wF ty ad q) sz)) 0 0 (va_A (wF ty ad q) sz) := by
  refine Met.ofW (cc := cX9_asks) (maxL := 3) (ret := (some .int)) (by decide) rfl ?_
  intro p e s m args below meth c s₁ B hml hv
  obtain ⟨rfl, hsz, hP, hK, hD0, hN, hE⟩ := hv
  have hx := B.exec
  have hb := B.bytes
  have hr := B.returns
  have hts := atoms_spec (ws := wsX9_asks) B.pre
  have hown : s.vm.findClass RX9 = some m.cls := findClass_of_methodNamed B.named
  have hlocks := B.notSynchronized
  subst hsz
  have hD := hD0.self (sz := s.heap.size)
  generalize hAe : va_A (wF ty ad q) s.heap.size = A at hD hE ⊢
  have hA : ∀ q : Nat, s.heap.size ≤ q → A q := fun q h => by rw [← hAe]; exact Or.inr h
  clear hAe
  have hS : va_S A s.heap s.heap [] := va_S.rf
  have hl := lv_entry ([.ref (ad 0), .int p1, .int p2]) (n := 3) (Nat.le_of_ble_eq_true rfl)
  rw [lg_entry_eq]
  generalize (lg_sl ([.ref (ad 0), .int p1, .int p2]) ++ List.replicate (3 - (lg_sl ([.ref (ad 0), .int p1, .int p2])).length) Slot.unset).toArray = ls at hl ⊢
  have hl : lv_has ls 3 [(0, .ref (ad 0)), (1, .int p1), (2, .int p2)] := hl
  have C : dc_C p s m _ meth c cX9_asks (some .int) 3 RX9 wsX9_asks D ty eo A := ⟨hx, hb, hr, hts, hown, hlocks, hml, hK, hN, hE, hA⟩
  unfold zX9_asks_s0 at h
  refine lv_iload_n hx hb dX9_asks_0 rfl (lv_at hl 1 rfl) ?_
  refine lv_iconst (v := 1) hx hb dX9_asks_1 (by decide) ?_
  refine lv_icmp_lt (tgt := 19) hx hb dX9_asks_2 (by decide) (fun c9 => ?_) (fun c9 => ?_)
  · rw [if_pos c9] at h
    exact WX9_asks_s0_19 C  _ _ _ _ h hP hD hS (lv_sub hl [] rfl)
  · rw [if_neg c9] at h
    refine lv_iload_n hx hb dX9_asks_5 rfl (lv_at hl 1 rfl) ?_
    refine lv_aload_n hx hb dX9_asks_6 rfl (lv_at hl 0 rfl) ?_
    refine va_get (D := D) (ci := 9) (v := .ref (ad 1)) (C := RX9) (T := TX9) (N := 19) hx hb hts u9_wsX9_asks_X9 hown hK hP 0 rfl rfl 0 (by decide) (hts (.fieldLink RX9 10 "TurnedFloors" "state" "LTurnedFloors$State;") f9_wsX9_asks_423) (fun _ h9 => h9) rfl dX9_asks_7 ?_
    refine va_getN (D := D) (ci := 6) (v := .ref (ad 2)) (C := RX6) (T := TX6) (N := 10) hx hb hts u9_wsX9_asks_X6 hown hK hP 1 rfl rfl 0 (by decide) (hN.use (.fieldLinkNest "TurnedFloors" 122 "TurnedFloors$State" "tower" "LTurnedFloors$Tower;" "TurnedFloors") nn9_0) (fun _ h9 => h9) rfl dX9_asks_10 ?_
    refine va_getN (D := D) (ci := 8) (v := .int (q.1 2 2)) (C := RX8) (T := TX8) (N := 5) hx hb hts u9_wsX9_asks_X8 hown hK hP 2 rfl rfl 2 (by decide) (hN.use (.fieldLinkNest "TurnedFloors" 135 "TurnedFloors$Tower" "floors" "I" "TurnedFloors") nn9_1) (fun _ h9 => h9) rfl dX9_asks_13 ?_
    refine lv_icmp_le (tgt := 21) hx hb dX9_asks_16 (by decide) (fun c9 => ?_) (fun c9 => ?_)
    · rw [if_pos c9] at h
      refine lv_iload_n hx hb dX9_asks_21 rfl (lv_at hl 2 rfl) ?_
      refine lv_if_ne (tgt := 41) hx hb dX9_asks_22 (by decide) (fun c9 => ?_) (fun c9 => ?_)
      · rw [if_neg c9] at h
        refine lv_iload_n hx hb dX9_asks_41 rfl (lv_at hl 2 rfl) ?_
        refine lv_iconst (v := 1) hx hb dX9_asks_42 (by decide) ?_
        refine lv_icmp_ne (tgt := 67) hx hb dX9_asks_43 (by decide) (fun c9 => ?_) (fun c9 => ?_)
        · rw [if_neg c9] at h
          refine lv_iconst (v := (-1)) hx hb dX9_asks_67 (by decide) ?_
          exact WX9_asks_s0_68 C  _ _ _ _ _ h hP hD hS (lv_sub hl [] rfl)
        · rw [if_pos c9] at h
          refine lv_aload_n hx hb dX9_asks_46 rfl (lv_at hl 0 rfl) ?_
          obtain ⟨q3, h2, h⟩ := dV_some h
          refine dw_kq (va_runV (As := []) (rest := []) ⟨hx, hb, hml, hown, hts⟩ (qX9_seated_s0 l D ty eo _ ad q  q3 h2) (cwV 0 hts gX9_asks_X9_seated rfl rfl rfl hd_X9_seated_v ⟨Nat.le_of_ble_eq_true rfl, Nat.le_of_ble_eq_true rfl⟩) (pvF_9_0 hK hN hE hP hD hS hA) rfl rfl hl.1 rfl (lv_room (Nat.le_of_ble_eq_true rfl)) dX9_asks_47 ⟨Nat.le_of_ble_eq_true rfl, Nat.le_of_ble_eq_true rfl⟩) hP hD hS hA (fun r9 u9 H locs hw hp hd hs => ?_)
          clear hP hD hS
          obtain ⟨rfl, rfl⟩ := hw
          have hP := hp; have hD := hd; have hS := hs; clear hp hd hs
          refine lv_aload_n hx hb dX9_asks_50 rfl (lv_at hl 0 rfl) ?_
          refine va_get (D := D) (ci := 9) (v := .ref (ad 1)) (C := RX9) (T := TX9) (N := 19) hx hb hts u9_wsX9_asks_X9 hown hK hP 0 rfl rfl 0 (by decide) (hts (.fieldLink RX9 10 "TurnedFloors" "state" "LTurnedFloors$State;") f9_wsX9_asks_423) (fun _ h9 => h9) rfl dX9_asks_51 ?_
          refine va_getN (D := D) (ci := 6) (v := .ref (ad 2)) (C := RX6) (T := TX6) (N := 10) hx hb hts u9_wsX9_asks_X6 hown hK hP 1 rfl rfl 0 (by decide) (hN.use (.fieldLinkNest "TurnedFloors" 122 "TurnedFloors$State" "tower" "LTurnedFloors$Tower;" "TurnedFloors") nn9_0) (fun _ h9 => h9) rfl dX9_asks_54 ?_
          refine lv_iload_n hx hb dX9_asks_57 rfl (lv_at hl 1 rfl) ?_
          obtain ⟨r4, q6, h5, h⟩ := dB_some h
          refine dw_ki (va_runV (As := [.ref (ad 2), .int p1]) (rest := []) ⟨hx, hb, hml, hown, hts⟩ (qX1_bars_s20_s2 l D ty eo _ ad q3 p1 r4 q6 h5) (cwV 2 hts gX9_asks_X1_bars rfl rfl rfl hd_X1_bars_v ⟨Nat.le_of_ble_eq_true rfl, Nat.le_of_ble_eq_true rfl⟩) (pvF_1_20 hK hN hE hP hD hS hA) rfl rfl hl.1 rfl (lv_room (Nat.le_of_ble_eq_true rfl)) dX9_asks_58 ⟨Nat.le_of_ble_eq_true rfl, Nat.le_of_ble_eq_true rfl⟩) hD hS hA (fun r9 u9 H locs hw hp hd hs => ?_)
          clear hP hD hS
          obtain ⟨rfl, rfl⟩ := hw
          have hP := hp; have hD := hd; have hS := hs; clear hp hd hs
          obtain ⟨r7, h8, h⟩ := dV_some h
          refine dw_ks (va_runS (As := [.int r4]) (rest := []) ⟨hx, hb, hml, hown, hts⟩ (qX9_bit l D ty eo _ r4 _ h8) (va_cwS 1 hts gX9_asks_X9_bit rfl rfl rfl hd_X9_bit ⟨Nat.le_of_ble_eq_true rfl, Nat.le_of_ble_eq_true rfl⟩) (pvS_0 hK hN hE hP hD hS hA) rfl rfl hl.1 rfl (lv_room (Nat.le_of_ble_eq_true rfl)) dX9_asks_61 ⟨Nat.le_of_ble_eq_true rfl, Nat.le_of_ble_eq_true rfl⟩) hP hD hS hA (fun _ _ h9 => h9.2.symm) (fun r9 u9 H locs hw hp hd hs => ?_)
          obtain ⟨rfl, -⟩ := hw
          clear hP hD hS
          have hP := hp; have hD := hd; have hS := hs; clear hp hd hs
          refine lv_goto (tgt := 68) hx hb dX9_asks_64 (by decide) ?_
          exact WX9_asks_s0_68 C  _ _ _ _ _ h hP hD hS (lv_sub hl [] rfl)
      · rw [if_pos c9] at h
        refine lv_aload_n hx hb dX9_asks_25 rfl (lv_at hl 0 rfl) ?_
        obtain ⟨q11, h10, h⟩ := dV_some h
        refine dw_kq (va_runV (As := []) (rest := []) ⟨hx, hb, hml, hown, hts⟩ (qX9_seated_s0 l D ty eo _ ad q  q11 h10) (cwV 0 hts gX9_asks_X9_seated rfl rfl rfl hd_X9_seated_v ⟨Nat.le_of_ble_eq_true rfl, Nat.le_of_ble_eq_true rfl⟩) (pvF_9_0 hK hN hE hP hD hS hA) rfl rfl hl.1 rfl (lv_room (Nat.le_of_ble_eq_true rfl)) dX9_asks_26 ⟨Nat.le_of_ble_eq_true rfl, Nat.le_of_ble_eq_true rfl⟩) hP hD hS hA (fun r9 u9 H locs hw hp hd hs => ?_)
        clear hP hD hS
        obtain ⟨rfl, rfl⟩ := hw
        have hP := hp; have hD := hd; have hS := hs; clear hp hd hs
        refine lv_aload_n hx hb dX9_asks_29 rfl (lv_at hl 0 rfl) ?_
        refine va_get (D := D) (ci := 9) (v := .ref (ad 1)) (C := RX9) (T := TX9) (N := 19) hx hb hts u9_wsX9_asks_X9 hown hK hP 0 rfl rfl 0 (by decide) (hts (.fieldLink RX9 10 "TurnedFloors" "state" "LTurnedFloors$State;") f9_wsX9_asks_423) (fun _ h9 => h9) rfl dX9_asks_30 ?_
        refine va_getN (D := D) (ci := 6) (v := .ref (ad 2)) (C := RX6) (T := TX6) (N := 10) hx hb hts u9_wsX9_asks_X6 hown hK hP 1 rfl rfl 0 (by decide) (hN.use (.fieldLinkNest "TurnedFloors" 122 "TurnedFloors$State" "tower" "LTurnedFloors$Tower;" "TurnedFloors") nn9_0) (fun _ h9 => h9) rfl dX9_asks_33 ?_
        refine lv_iload_n hx hb dX9_asks_36 rfl (lv_at hl 1 rfl) ?_
        obtain ⟨r12, q14, h13, h⟩ := dB_some h
        refine dw_ki (va_runV (As := [.ref (ad 2), .int p1]) (rest := []) ⟨hx, hb, hml, hown, hts⟩ (qX1_payOf_s20_s2 l D ty eo _ ad q11 p1 r12 q14 h13) (cwV 2 hts gX9_asks_X1_payOf rfl rfl rfl hd_X1_payOf_v ⟨Nat.le_of_ble_eq_true rfl, Nat.le_of_ble_eq_true rfl⟩) (pvF_1_20 hK hN hE hP hD hS hA) rfl rfl hl.1 rfl (lv_room (Nat.le_of_ble_eq_true rfl)) dX9_asks_37 ⟨Nat.le_of_ble_eq_true rfl, Nat.le_of_ble_eq_true rfl⟩) hD hS hA (fun r9 u9 H locs hw hp hd hs => ?_)
        clear hP hD hS
        obtain ⟨rfl, rfl⟩ := hw
        have hP := hp; have hD := hd; have hS := hs; clear hp hd hs
        cases h
        exact kz_iret hx hb hr hlocks hP hK hD hS dX9_asks_40 ⟨rfl, rfl⟩
    · rw [if_neg c9] at h
      exact WX9_asks_s0_19 C  _ _ _ _ h hP hD hS (lv_sub hl [] rfl)

set_option maxHeartbeats 4000000 in
set_option maxRecDepth 100000 in
theorem qX9_mostOfTerm (l : Launch) (D : va_G) (ty : Nat → ClassId) (eo : Nat → Nat) (sz : Nat) (p1 : Int32) (o1 : Int32) (h : zX9_mostOfTerm p1 = some o1) : Met l yX9_mostOfTerm wsX9_mostOfTerm ({ frames := 0, cells := 0, slots := 0, locals := 0 } : Room) (va_Pc [.int p1] (kz_pre D ty eo (([] : va_W)) sz)) (va_Qi (fun (r : Int32) (u : va_W) => o1 = r ∧ ([] : va_W) = u) (kz_B D ty (va_A (([] : va_W)) sz)) (va_A (([] : va_W)) sz)) 0 0 (va_A (([] : va_W)) sz) := by
  refine Met.ofW (cc := cX9_mostOfTerm) (maxL := 1) (ret := (some .int)) (by decide) rfl ?_
  intro p e s m args below meth c s₁ B hml hv
  obtain ⟨rfl, hsz, hP, hK, hD0, hN, hE⟩ := hv
  have hx := B.exec
  have hb := B.bytes
  have hr := B.returns
  have hts := atoms_spec (ws := wsX9_mostOfTerm) B.pre
  have hown : s.vm.findClass RX9 = some m.cls := findClass_of_methodNamed B.named
  have hlocks := B.notSynchronized
  subst hsz
  have hD := hD0.self (sz := s.heap.size)
  generalize hAe : va_A (([] : va_W)) s.heap.size = A at hD hE ⊢
  have hA : ∀ q : Nat, s.heap.size ≤ q → A q := fun q h => by rw [← hAe]; exact Or.inr h
  clear hAe
  have hS : va_S A s.heap s.heap [] := va_S.rf
  have hl := lv_entry ([.int p1]) (n := 1) (Nat.le_of_ble_eq_true rfl)
  rw [lg_entry_eq]
  generalize (lg_sl ([.int p1]) ++ List.replicate (1 - (lg_sl ([.int p1])).length) Slot.unset).toArray = ls at hl ⊢
  have hl : lv_has ls 1 [(0, .int p1)] := hl
  have C : dc_C p s m _ meth c cX9_mostOfTerm (some .int) 1 RX9 wsX9_mostOfTerm D ty eo A := ⟨hx, hb, hr, hts, hown, hlocks, hml, hK, hN, hE, hA⟩
  unfold zX9_mostOfTerm at h
  refine lv_iload_n hx hb dX9_mostOfTerm_0 rfl (lv_at hl 0 rfl) ?_
  by_cases c1 : p1 = 0
  · rw [if_pos c1] at h
    refine lv_tableIn (off := 31) (tgt := 32) hx hb dX9_mostOfTerm_1 (by rw [c1]; decide) (by rw [c1]; decide) (by rw [c1]; decide) (by decide) ?_
    refine lv_sipush (v := 999) hx hb dX9_mostOfTerm_32 (by decide) ?_
    cases h
    exact kz_iret hx hb hr hlocks hP hK hD hS dX9_mostOfTerm_35 ⟨rfl, rfl⟩
  rw [if_neg c1] at h
  by_cases c2 : p1 = 1
  · rw [if_pos c2] at h
    refine lv_tableIn (off := 35) (tgt := 36) hx hb dX9_mostOfTerm_1 (by rw [c2]; decide) (by rw [c2]; decide) (by rw [c2]; decide) (by decide) ?_
    refine lv_bipush (v := 10) hx hb dX9_mostOfTerm_36 (by decide) ?_
    cases h
    exact kz_iret hx hb hr hlocks hP hK hD hS dX9_mostOfTerm_38 ⟨rfl, rfl⟩
  rw [if_neg c2] at h
  by_cases c3 : p1 = 2
  · rw [if_pos c3] at h
    refine lv_tableIn (off := 38) (tgt := 39) hx hb dX9_mostOfTerm_1 (by rw [c3]; decide) (by rw [c3]; decide) (by rw [c3]; decide) (by decide) ?_
    refine lv_bipush (v := 9) hx hb dX9_mostOfTerm_39 (by decide) ?_
    cases h
    exact kz_iret hx hb hr hlocks hP hK hD hS dX9_mostOfTerm_41 ⟨rfl, rfl⟩
  rw [if_neg c3] at h
  by_cases c4 : p1 = 3
  · rw [if_pos c4] at h
    refine lv_tableIn (off := 41) (tgt := 42) hx hb dX9_mostOfTerm_1 (by rw [c4]; decide) (by rw [c4]; decide) (by rw [c4]; decide) (by decide) ?_
    refine lv_iconst (v := 1) hx hb dX9_mostOfTerm_42 (by decide) ?_
    cases h
    exact kz_iret hx hb hr hlocks hP hK hD hS dX9_mostOfTerm_43 ⟨rfl, rfl⟩
  rw [if_neg c4] at h
  refine lv_tableOut (tgt := 44) hx hb dX9_mostOfTerm_1 (by simp only [← Int32.toInt_inj, Int32.reduceToInt] at c1 c2 c3 c4; omega) (by decide) ?_
  refine lv_iconst (v := (-1)) hx hb dX9_mostOfTerm_44 (by decide) ?_
  cases h
  exact kz_iret hx hb hr hlocks hP hK hD hS dX9_mostOfTerm_45 ⟨rfl, rfl⟩

set_option maxHeartbeats 4000000 in
set_option maxRecDepth 100000 in
theorem qX6_term_s1 (l : Launch) (D : va_G) (ty : Nat → ClassId) (eo : Nat → Nat) (sz : Nat) (ad : Nat → Nat) (q : dK) (p1 : Int32) (o1 : Int32) (o2 : dK) (h : zX6_term_s1 q p1 = some (o1, o2)) : Met l yX6_term wsX6_term ({ frames := 0, cells := 0, slots := 0, locals := 0 } : Room) (va_Pc [.ref (ad 1), .int p1] (kz_pre D ty eo (wF ty ad q) sz)) (va_Qi (fun (r : Int32) (u : va_W) => o1 = r ∧ wF ty ad o2 = u) (kz_B D ty (va_A (wF ty ad q) sz)) (va_A (wF ty ad q) sz)) 0 0 (va_A (wF ty ad q) sz) := by
  refine Met.ofW (cc := cX6_term) (maxL := 2) (ret := (some .int)) (by decide) rfl ?_
  intro p e s m args below meth c s₁ B hml hv
  obtain ⟨rfl, hsz, hP, hK, hD0, hN, hE⟩ := hv
  have hx := B.exec
  have hb := B.bytes
  have hr := B.returns
  have hts := atoms_spec (ws := wsX6_term) B.pre
  have hown : s.vm.findClass RX6 = some m.cls := findClass_of_methodNamed B.named
  have hlocks := B.notSynchronized
  subst hsz
  have hD := hD0.self (sz := s.heap.size)
  generalize hAe : va_A (wF ty ad q) s.heap.size = A at hD hE ⊢
  have hA : ∀ q : Nat, s.heap.size ≤ q → A q := fun q h => by rw [← hAe]; exact Or.inr h
  clear hAe
  have hS : va_S A s.heap s.heap [] := va_S.rf
  have hl := lv_entry ([.ref (ad 1), .int p1]) (n := 2) (Nat.le_of_ble_eq_true rfl)
  rw [lg_entry_eq]
  generalize (lg_sl ([.ref (ad 1), .int p1]) ++ List.replicate (2 - (lg_sl ([.ref (ad 1), .int p1])).length) Slot.unset).toArray = ls at hl ⊢
  have hl : lv_has ls 2 [(0, .ref (ad 1)), (1, .int p1)] := hl
  have C : dc_C p s m _ meth c cX6_term (some .int) 2 RX6 wsX6_term D ty eo A := ⟨hx, hb, hr, hts, hown, hlocks, hml, hK, hN, hE, hA⟩
  unfold zX6_term_s1 at h
  refine lv_iload_n hx hb dX6_term_0 rfl (lv_at hl 1 rfl) ?_
  by_cases c1 : p1 = 0
  · rw [if_pos c1] at h
    refine lv_tableIn (off := 31) (tgt := 32) hx hb dX6_term_1 (by rw [c1]; decide) (by rw [c1]; decide) (by rw [c1]; decide) (by decide) ?_
    refine lv_aload_n hx hb dX6_term_32 rfl (lv_at hl 0 rfl) ?_
    refine va_get (D := D) (ci := 6) (v := .ref (ad 2)) (C := RX6) (T := TX6) (N := 10) hx hb hts u9_wsX6_term_X6 hown hK hP 1 rfl rfl 0 (by decide) (hts (.fieldLink RX6 12 "TurnedFloors$State" "tower" "LTurnedFloors$Tower;") f9_wsX6_term_426) (fun _ h9 => h9) rfl dX6_term_33 ?_
    refine va_getN (D := D) (ci := 8) (v := .int (q.1 2 4)) (C := RX8) (T := TX8) (N := 5) hx hb hts u9_wsX6_term_X8 hown hK hP 2 rfl rfl 4 (by decide) (hN.use (.fieldLinkNest "TurnedFloors$State" 58 "TurnedFloors$Tower" "year" "I" "TurnedFloors") nn9_15) (fun _ h9 => h9) rfl dX6_term_36 ?_
    cases h
    exact kz_iret hx hb hr hlocks hP hK hD hS dX6_term_39 ⟨rfl, rfl⟩
  rw [if_neg c1] at h
  by_cases c2 : p1 = 1
  · rw [if_pos c2] at h
    refine lv_tableIn (off := 39) (tgt := 40) hx hb dX6_term_1 (by rw [c2]; decide) (by rw [c2]; decide) (by rw [c2]; decide) (by decide) ?_
    refine lv_aload_n hx hb dX6_term_40 rfl (lv_at hl 0 rfl) ?_
    refine va_get (D := D) (ci := 6) (v := .int (q.1 1 1)) (C := RX6) (T := TX6) (N := 10) hx hb hts u9_wsX6_term_X6 hown hK hP 1 rfl rfl 1 (by decide) (hts (.fieldLink RX6 18 "TurnedFloors$State" "slips" "I") f9_wsX6_term_427) (fun _ h9 => h9) rfl dX6_term_41 ?_
    cases h
    exact kz_iret hx hb hr hlocks hP hK hD hS dX6_term_44 ⟨rfl, rfl⟩
  rw [if_neg c2] at h
  by_cases c3 : p1 = 2
  · rw [if_pos c3] at h
    refine lv_tableIn (off := 44) (tgt := 45) hx hb dX6_term_1 (by rw [c3]; decide) (by rw [c3]; decide) (by rw [c3]; decide) (by decide) ?_
    refine lv_aload_n hx hb dX6_term_45 rfl (lv_at hl 0 rfl) ?_
    refine va_get (D := D) (ci := 6) (v := .int (q.1 1 2)) (C := RX6) (T := TX6) (N := 10) hx hb hts u9_wsX6_term_X6 hown hK hP 1 rfl rfl 2 (by decide) (hts (.fieldLink RX6 22 "TurnedFloors$State" "mood" "I") f9_wsX6_term_428) (fun _ h9 => h9) rfl dX6_term_46 ?_
    cases h
    exact kz_iret hx hb hr hlocks hP hK hD hS dX6_term_49 ⟨rfl, rfl⟩
  rw [if_neg c3] at h
  by_cases c4 : p1 = 3
  · rw [if_pos c4] at h
    refine lv_tableIn (off := 49) (tgt := 50) hx hb dX6_term_1 (by rw [c4]; decide) (by rw [c4]; decide) (by rw [c4]; decide) (by decide) ?_
    refine lv_aload_n hx hb dX6_term_50 rfl (lv_at hl 0 rfl) ?_
    refine va_get (D := D) (ci := 6) (v := .int (q.1 1 3)) (C := RX6) (T := TX6) (N := 10) hx hb hts u9_wsX6_term_X6 hown hK hP 1 rfl rfl 3 (by decide) (hts (.fieldLink RX6 25 "TurnedFloors$State" "headsMatter" "I") f9_wsX6_term_429) (fun _ h9 => h9) rfl dX6_term_51 ?_
    cases h
    exact kz_iret hx hb hr hlocks hP hK hD hS dX6_term_54 ⟨rfl, rfl⟩
  rw [if_neg c4] at h
  refine lv_tableOut (tgt := 55) hx hb dX6_term_1 (by simp only [← Int32.toInt_inj, Int32.reduceToInt] at c1 c2 c3 c4; omega) (by decide) ?_
  refine lv_iconst (v := (-1)) hx hb dX6_term_55 (by decide) ?_
  cases h
  exact kz_iret hx hb hr hlocks hP hK hD hS dX6_term_56 ⟨rfl, rfl⟩

set_option maxHeartbeats 4000000 in
set_option maxRecDepth 100000 in
theorem WX6_setTerm_s1_67 {p : Program} {l : Launch} {e : Env} {s : State} {m : MethodId} {args : Array Value} {below : List Frame} {meth : Method} {c : Code} {D : va_G} {ty : Nat → ClassId} {eo : Nat → Nat} {A : Nat → Prop} {ad : Nat → Nat} {o2 : dK} (C : dc_C p s m args meth c cX6_setTerm none 3 RX6 wsX6_setTerm D ty eo A)   (q : dK)  (H : Heap) (locs : List Loc) (ls : Array Slot) (h : zX6_setTerm_s1_67  q = some o2) (hP : va_P D vwCl (wF ty ad q) H) (hD : va_D A (wF ty ad q)) (hS : va_S A s.heap H locs) (hl : lv_has ls 3 []) : W p l e ({ frames := 0, cells := 0, slots := 0, locals := 0 } : Room) s m args below meth c H locs 0 0 (MQ below (va_Qv (fun (u : va_W) => wF ty ad o2 = u) (kz_B D ty A) A) args s 0 0 A) (F0 m 67 ls []) := by
  have C0 := C
  obtain ⟨hx, hb, hr, hts, hown, hlocks, hml, hK, hN, hE, hA⟩ := C
  unfold zX6_setTerm_s1_67 at h
  cases h
  exact kz_vret hx hb hr hlocks hP hK hD hS dX6_setTerm_67 rfl
set_option maxHeartbeats 4000000 in
set_option maxRecDepth 100000 in
theorem qX6_setTerm_s1 (l : Launch) (D : va_G) (ty : Nat → ClassId) (eo : Nat → Nat) (sz : Nat) (ad : Nat → Nat) (q : dK) (p1 : Int32) (p2 : Int32) (o2 : dK) (h : zX6_setTerm_s1 q p1 p2 = some o2) : Met l yX6_setTerm wsX6_setTerm ({ frames := 0, cells := 0, slots := 0, locals := 0 } : Room) (va_Pc [.ref (ad 1), .int p1, .int p2] (kz_pre D ty eo (wF ty ad q) sz)) (va_Qv (fun (u : va_W) => wF ty ad o2 = u) (kz_B D ty (va_A (wF ty ad q) sz)) (va_A (wF ty ad q) sz)) 0 0 (va_A (wF ty ad q) sz) := by
  refine Met.ofW (cc := cX6_setTerm) (maxL := 3) (ret := none) (by decide) rfl ?_
  intro p e s m args below meth c s₁ B hml hv
  obtain ⟨rfl, hsz, hP, hK, hD0, hN, hE⟩ := hv
  have hx := B.exec
  have hb := B.bytes
  have hr := B.returns
  have hts := atoms_spec (ws := wsX6_setTerm) B.pre
  have hown : s.vm.findClass RX6 = some m.cls := findClass_of_methodNamed B.named
  have hlocks := B.notSynchronized
  subst hsz
  have hD := hD0.self (sz := s.heap.size)
  generalize hAe : va_A (wF ty ad q) s.heap.size = A at hD hE ⊢
  have hA : ∀ q : Nat, s.heap.size ≤ q → A q := fun q h => by rw [← hAe]; exact Or.inr h
  clear hAe
  have hS : va_S A s.heap s.heap [] := va_S.rf
  have hl := lv_entry ([.ref (ad 1), .int p1, .int p2]) (n := 3) (Nat.le_of_ble_eq_true rfl)
  rw [lg_entry_eq]
  generalize (lg_sl ([.ref (ad 1), .int p1, .int p2]) ++ List.replicate (3 - (lg_sl ([.ref (ad 1), .int p1, .int p2])).length) Slot.unset).toArray = ls at hl ⊢
  have hl : lv_has ls 3 [(0, .ref (ad 1)), (1, .int p1), (2, .int p2)] := hl
  have C : dc_C p s m _ meth c cX6_setTerm none 3 RX6 wsX6_setTerm D ty eo A := ⟨hx, hb, hr, hts, hown, hlocks, hml, hK, hN, hE, hA⟩
  unfold zX6_setTerm_s1 at h
  refine lv_iload_n hx hb dX6_setTerm_0 rfl (lv_at hl 1 rfl) ?_
  by_cases c1 : p1 = 0
  · rw [if_pos c1] at h
    refine lv_tableIn (off := 31) (tgt := 32) hx hb dX6_setTerm_1 (by rw [c1]; decide) (by rw [c1]; decide) (by rw [c1]; decide) (by decide) ?_
    refine lv_aload_n hx hb dX6_setTerm_32 rfl (lv_at hl 0 rfl) ?_
    refine va_get (D := D) (ci := 6) (v := .ref (ad 2)) (C := RX6) (T := TX6) (N := 10) hx hb hts u9_wsX6_setTerm_X6 hown hK hP 1 rfl rfl 0 (by decide) (hts (.fieldLink RX6 12 "TurnedFloors$State" "tower" "LTurnedFloors$Tower;") f9_wsX6_setTerm_432) (fun _ h9 => h9) rfl dX6_setTerm_33 ?_
    refine lv_iload_n hx hb dX6_setTerm_36 rfl (lv_at hl 2 rfl) ?_
    refine va_putN (D := D) (ci := 8) (v := .int p2) (ty := .int) (C := RX8) (T := TX8) (N := 5) hx hb hts u9_wsX6_setTerm_X8 tyX8 tyX8_ok nmX8 hown hK hP hD hS 2 rfl rfl 4 (by decide) (hN.use (.fieldLinkNest "TurnedFloors$State" 58 "TurnedFloors$Tower" "year" "I" "TurnedFloors") nn9_15) (fun _ h9 => h9) rfl (by decide +kernel) rfl rfl (Nat.le_of_ble_eq_true rfl) dX6_setTerm_37 (fun H locs hp hd hs => ?_)
    obtain ⟨q2, eq2, h⟩ := dL_some h
    refine kz_re (w2 := wF ty ad q2) hp hd hs (by rw [← eq2]; exact wF_f2_4 ty ad q p2) ?_
    clear hp hd hs hP hD hS
    intro hP hD hS
    refine lv_goto (tgt := 67) hx hb dX6_setTerm_40 (by decide) ?_
    exact WX6_setTerm_s1_67 C  _ _ _ _ h hP hD hS (lv_sub hl [] rfl)
  rw [if_neg c1] at h
  by_cases c3 : p1 = 1
  · rw [if_pos c3] at h
    refine lv_tableIn (off := 42) (tgt := 43) hx hb dX6_setTerm_1 (by rw [c3]; decide) (by rw [c3]; decide) (by rw [c3]; decide) (by decide) ?_
    refine lv_aload_n hx hb dX6_setTerm_43 rfl (lv_at hl 0 rfl) ?_
    refine lv_iload_n hx hb dX6_setTerm_44 rfl (lv_at hl 2 rfl) ?_
    refine va_put (D := D) (ci := 6) (v := .int p2) (ty := .int) (C := RX6) (T := TX6) (N := 10) hx hb hts u9_wsX6_setTerm_X6 tyX6 tyX6_ok nmX6 hown hK hP hD hS 1 rfl rfl 1 (by decide) (hts (.fieldLink RX6 18 "TurnedFloors$State" "slips" "I") f9_wsX6_setTerm_433) (fun _ h9 => h9) rfl (by decide +kernel) rfl rfl (Nat.le_of_ble_eq_true rfl) dX6_setTerm_45 (fun H locs hp hd hs => ?_)
    obtain ⟨q4, eq4, h⟩ := dL_some h
    refine kz_re (w2 := wF ty ad q4) hp hd hs (by rw [← eq4]; exact wF_f1_1 ty ad q p2) ?_
    clear hp hd hs hP hD hS
    intro hP hD hS
    refine lv_goto (tgt := 67) hx hb dX6_setTerm_48 (by decide) ?_
    exact WX6_setTerm_s1_67 C  _ _ _ _ h hP hD hS (lv_sub hl [] rfl)
  rw [if_neg c3] at h
  by_cases c5 : p1 = 2
  · rw [if_pos c5] at h
    refine lv_tableIn (off := 50) (tgt := 51) hx hb dX6_setTerm_1 (by rw [c5]; decide) (by rw [c5]; decide) (by rw [c5]; decide) (by decide) ?_
    refine lv_aload_n hx hb dX6_setTerm_51 rfl (lv_at hl 0 rfl) ?_
    refine lv_iload_n hx hb dX6_setTerm_52 rfl (lv_at hl 2 rfl) ?_
    refine va_put (D := D) (ci := 6) (v := .int p2) (ty := .int) (C := RX6) (T := TX6) (N := 10) hx hb hts u9_wsX6_setTerm_X6 tyX6 tyX6_ok nmX6 hown hK hP hD hS 1 rfl rfl 2 (by decide) (hts (.fieldLink RX6 22 "TurnedFloors$State" "mood" "I") f9_wsX6_setTerm_434) (fun _ h9 => h9) rfl (by decide +kernel) rfl rfl (Nat.le_of_ble_eq_true rfl) dX6_setTerm_53 (fun H locs hp hd hs => ?_)
    obtain ⟨q6, eq6, h⟩ := dL_some h
    refine kz_re (w2 := wF ty ad q6) hp hd hs (by rw [← eq6]; exact wF_f1_2 ty ad q p2) ?_
    clear hp hd hs hP hD hS
    intro hP hD hS
    refine lv_goto (tgt := 67) hx hb dX6_setTerm_56 (by decide) ?_
    exact WX6_setTerm_s1_67 C  _ _ _ _ h hP hD hS (lv_sub hl [] rfl)
  rw [if_neg c5] at h
  by_cases c7 : p1 = 3
  · rw [if_pos c7] at h
    refine lv_tableIn (off := 58) (tgt := 59) hx hb dX6_setTerm_1 (by rw [c7]; decide) (by rw [c7]; decide) (by rw [c7]; decide) (by decide) ?_
    refine lv_aload_n hx hb dX6_setTerm_59 rfl (lv_at hl 0 rfl) ?_
    refine lv_iload_n hx hb dX6_setTerm_60 rfl (lv_at hl 2 rfl) ?_
    refine va_put (D := D) (ci := 6) (v := .int p2) (ty := .int) (C := RX6) (T := TX6) (N := 10) hx hb hts u9_wsX6_setTerm_X6 tyX6 tyX6_ok nmX6 hown hK hP hD hS 1 rfl rfl 3 (by decide) (hts (.fieldLink RX6 25 "TurnedFloors$State" "headsMatter" "I") f9_wsX6_setTerm_435) (fun _ h9 => h9) rfl (by decide +kernel) rfl rfl (Nat.le_of_ble_eq_true rfl) dX6_setTerm_61 (fun H locs hp hd hs => ?_)
    obtain ⟨q8, eq8, h⟩ := dL_some h
    refine kz_re (w2 := wF ty ad q8) hp hd hs (by rw [← eq8]; exact wF_f1_3 ty ad q p2) ?_
    clear hp hd hs hP hD hS
    intro hP hD hS
    refine lv_goto (tgt := 67) hx hb dX6_setTerm_64 (by decide) ?_
    exact WX6_setTerm_s1_67 C  _ _ _ _ h hP hD hS (lv_sub hl [] rfl)
  rw [if_neg c7] at h
  refine lv_tableOut (tgt := 67) hx hb dX6_setTerm_1 (by simp only [← Int32.toInt_inj, Int32.reduceToInt] at c1 c3 c5 c7; omega) (by decide) ?_
  exact WX6_setTerm_s1_67 C  _ _ _ _ h hP hD hS (lv_sub hl [] rfl)

set_option maxHeartbeats 4000000 in
set_option maxRecDepth 100000 in
theorem WX9_terms_s0_12 {p : Program} {l : Launch} {e : Env} {s : State} {m : MethodId} {args : Array Value} {below : List Frame} {meth : Method} {c : Code} {D : va_G} {ty : Nat → ClassId} {eo : Nat → Nat} {A : Nat → Prop} {ad : Nat → Nat} {o1 : Int32} {o2 : dK} (C : dc_C p s m args meth c cX9_terms (some .int) 4 RX9 wsX9_terms D ty eo A)   (q : dK)  (H : Heap) (locs : List Loc) (ls : Array Slot) (h : zX9_terms_s0_12  q = some (o1, o2)) (hP : va_P D vwCl (wF ty ad q) H) (hD : va_D A (wF ty ad q)) (hS : va_S A s.heap H locs) (hl : lv_has ls 4 [(0, .ref (ad 0))]) : W p l e ({ frames := 1, cells := 0, slots := 0, locals := 22 } : Room) s m args below meth c H locs 0 0 (MQ below (va_Qi (fun (r : Int32) (u : va_W) => o1 = r ∧ wF ty ad o2 = u) (kz_B D ty A) A) args s 0 0 A) (F0 m 12 ls []) := by
  have C0 := C
  obtain ⟨hx, hb, hr, hts, hown, hlocks, hml, hK, hN, hE, hA⟩ := C
  unfold zX9_terms_s0_12 at h
  refine lv_aload_n hx hb dX9_terms_12 rfl (lv_at hl 0 rfl) ?_
  refine lv_iconst (v := (-1)) hx hb dX9_terms_13 (by decide) ?_
  obtain ⟨r1, q3, h2, h⟩ := dB_some h
  refine dw_ki (va_runV (As := [.int (-1)]) (rest := []) ⟨hx, hb, hml, hown, hts⟩ (qX9_refuse_s0 l D ty eo _ ad q (-1) r1 q3 h2) (cwV 1 hts gX9_terms_X9_refuse rfl rfl rfl hd_X9_refuse_v ⟨Nat.le_of_ble_eq_true rfl, Nat.le_of_ble_eq_true rfl⟩) (pvF_9_0 hK hN hE hP hD hS hA) rfl rfl hl.1 rfl (lv_room (Nat.le_of_ble_eq_true rfl)) dX9_terms_14 ⟨Nat.le_of_ble_eq_true rfl, Nat.le_of_ble_eq_true rfl⟩) hD hS hA (fun r9 u9 H locs hw hp hd hs => ?_)
  clear hP hD hS
  obtain ⟨rfl, rfl⟩ := hw
  have hP := hp; have hD := hd; have hS := hs; clear hp hd hs
  cases h
  exact kz_iret hx hb hr hlocks hP hK hD hS dX9_terms_17 ⟨rfl, rfl⟩
set_option maxHeartbeats 4000000 in
set_option maxRecDepth 100000 in
theorem qX9_terms_s0 (l : Launch) (D : va_G) (ty : Nat → ClassId) (eo : Nat → Nat) (sz : Nat) (ad : Nat → Nat) (q : dK) (p1 : Int32) (p2 : Int32) (o1 : Int32) (o2 : dK) (h : zX9_terms_s0 q p1 p2 = some (o1, o2)) : Met l yX9_terms wsX9_terms ({ frames := 1, cells := 0, slots := 0, locals := 22 } : Room) (va_Pc [.ref (ad 0), .int p1, .int p2] (kz_pre D ty eo (wF ty ad q) sz)) (va_Qi (fun (r : Int32) (u : va_W) => o1 = r ∧ wF ty ad o2 = u) (kz_B D ty (va_A (wF ty ad q) sz)) (va_A (wF ty ad q) sz)) 0 0 (va_A (wF ty ad q) sz) := by
  refine Met.ofW (cc := cX9_terms) (maxL := 4) (ret := (some .int)) (by decide) rfl ?_
  intro p e s m args below meth c s₁ B hml hv
  obtain ⟨rfl, hsz, hP, hK, hD0, hN, hE⟩ := hv
  have hx := B.exec
  have hb := B.bytes
  have hr := B.returns
  have hts := atoms_spec (ws := wsX9_terms) B.pre
  have hown : s.vm.findClass RX9 = some m.cls := findClass_of_methodNamed B.named
  have hlocks := B.notSynchronized
  subst hsz
  have hD := hD0.self (sz := s.heap.size)
  generalize hAe : va_A (wF ty ad q) s.heap.size = A at hD hE ⊢
  have hA : ∀ q : Nat, s.heap.size ≤ q → A q := fun q h => by rw [← hAe]; exact Or.inr h
  clear hAe
  have hS : va_S A s.heap s.heap [] := va_S.rf
  have hl := lv_entry ([.ref (ad 0), .int p1, .int p2]) (n := 4) (Nat.le_of_ble_eq_true rfl)
  rw [lg_entry_eq]
  generalize (lg_sl ([.ref (ad 0), .int p1, .int p2]) ++ List.replicate (4 - (lg_sl ([.ref (ad 0), .int p1, .int p2])).length) Slot.unset).toArray = ls at hl ⊢
  have hl : lv_has ls 4 [(0, .ref (ad 0)), (1, .int p1), (2, .int p2)] := hl
  have C : dc_C p s m _ meth c cX9_terms (some .int) 4 RX9 wsX9_terms D ty eo A := ⟨hx, hb, hr, hts, hown, hlocks, hml, hK, hN, hE, hA⟩
  unfold zX9_terms_s0 at h
  refine lv_iload_n hx hb dX9_terms_0 rfl (lv_at hl 2 rfl) ?_
  refine lv_if_lt (tgt := 12) hx hb dX9_terms_1 (by decide) (fun c9 => ?_) (fun c9 => ?_)
  · rw [if_pos c9] at h
    exact WX9_terms_s0_12 C  _ _ _ _ h hP hD hS (lv_sub hl [0] rfl)
  · rw [if_neg c9] at h
    refine lv_iload_n hx hb dX9_terms_4 rfl (lv_at hl 2 rfl) ?_
    refine lv_iload_n hx hb dX9_terms_5 rfl (lv_at hl 1 rfl) ?_
    obtain ⟨r1, h2, h⟩ := dV_some h
    refine dw_ks (va_runS (As := [.int p1]) (rest := [.int p2]) ⟨hx, hb, hml, hown, hts⟩ (qX9_mostOfTerm l D ty eo _ p1 _ h2) (va_cwS 1 hts gX9_terms_X9_mostOfTerm rfl rfl rfl hd_X9_mostOfTerm ⟨Nat.le_of_ble_eq_true rfl, Nat.le_of_ble_eq_true rfl⟩) (pvS_0 hK hN hE hP hD hS hA) rfl rfl hl.1 rfl (lv_room (Nat.le_of_ble_eq_true rfl)) dX9_terms_6 ⟨Nat.le_of_ble_eq_true rfl, Nat.le_of_ble_eq_true rfl⟩) hP hD hS hA (fun _ _ h9 => h9.2.symm) (fun r9 u9 H locs hw hp hd hs => ?_)
    obtain ⟨rfl, -⟩ := hw
    clear hP hD hS
    have hP := hp; have hD := hd; have hS := hs; clear hp hd hs
    refine lv_icmp_le (tgt := 18) hx hb dX9_terms_9 (by decide) (fun c9 => ?_) (fun c9 => ?_)
    · rw [if_pos c9] at h
      refine lv_aload_n hx hb dX9_terms_18 rfl (lv_at hl 0 rfl) ?_
      refine va_get (D := D) (ci := 9) (v := .ref (ad 1)) (C := RX9) (T := TX9) (N := 19) hx hb hts u9_wsX9_terms_X9 hown hK hP 0 rfl rfl 0 (by decide) (hts (.fieldLink RX9 10 "TurnedFloors" "state" "LTurnedFloors$State;") f9_wsX9_terms_437) (fun _ h9 => h9) rfl dX9_terms_19 ?_
      refine lv_iload_n hx hb dX9_terms_22 rfl (lv_at hl 1 rfl) ?_
      obtain ⟨r3, q5, h4, h⟩ := dB_some h
      refine dw_ki (va_runV (As := [.int p1]) (rest := []) ⟨hx, hb, hml, hown, hts⟩ (qX6_term_s1 l D ty eo _ ad q p1 r3 q5 h4) (cwV 1 hts gX9_terms_X6_term rfl rfl rfl hd_X6_term_v ⟨Nat.le_of_ble_eq_true rfl, Nat.le_of_ble_eq_true rfl⟩) (pvF_6_1 hK hN hE hP hD hS hA) rfl rfl hl.1 rfl (lv_room (Nat.le_of_ble_eq_true rfl)) dX9_terms_23 ⟨Nat.le_of_ble_eq_true rfl, Nat.le_of_ble_eq_true rfl⟩) hD hS hA (fun r9 u9 H locs hw hp hd hs => ?_)
      clear hP hD hS
      obtain ⟨rfl, rfl⟩ := hw
      have hP := hp; have hD := hd; have hS := hs; clear hp hd hs
      refine lv_istore_n (lv' := [(3, .int r3), (0, .ref (ad 0)), (1, .int p1), (2, .int p2)]) hx hb dX9_terms_26 rfl hl (by decide) rfl (fun ls hl => ?_)
      refine lv_aload_n hx hb dX9_terms_27 rfl (lv_at hl 1 rfl) ?_
      refine va_get (D := D) (ci := 9) (v := .ref (ad 1)) (C := RX9) (T := TX9) (N := 19) hx hb hts u9_wsX9_terms_X9 hown hK hP 0 rfl rfl 0 (by decide) (hts (.fieldLink RX9 10 "TurnedFloors" "state" "LTurnedFloors$State;") f9_wsX9_terms_437) (fun _ h9 => h9) rfl dX9_terms_28 ?_
      refine lv_iload_n hx hb dX9_terms_31 rfl (lv_at hl 2 rfl) ?_
      refine lv_iload_n hx hb dX9_terms_32 rfl (lv_at hl 3 rfl) ?_
      obtain ⟨q8, h7, h⟩ := dV_some h
      refine dw_kv (va_runV (As := [.int p1, .int p2]) (rest := []) ⟨hx, hb, hml, hown, hts⟩ (qX6_setTerm_s1 l D ty eo _ ad q5 p1 p2 q8 h7) (cwV 2 hts gX9_terms_X6_setTerm rfl rfl rfl hd_X6_setTerm_v ⟨Nat.le_of_ble_eq_true rfl, Nat.le_of_ble_eq_true rfl⟩) (pvF_6_1 hK hN hE hP hD hS hA) rfl rfl hl.1 rfl (lv_room (Nat.le_of_ble_eq_true rfl)) dX9_terms_33 ⟨Nat.le_of_ble_eq_true rfl, Nat.le_of_ble_eq_true rfl⟩) hD hS hA (fun u9 H locs hw hp hd hs => ?_)
      clear hP hD hS
      obtain rfl := hw
      have hP := hp; have hD := hd; have hS := hs; clear hp hd hs
      refine lv_aload_n hx hb dX9_terms_36 rfl (lv_at hl 1 rfl) ?_
      refine va_get (D := D) (ci := 9) (v := .ref (ad 10)) (C := RX9) (T := TX9) (N := 19) hx hb hts u9_wsX9_terms_X9 hown hK hP 0 rfl rfl 3 (by decide) (hts (.fieldLink RX9 27 "TurnedFloors" "history" "LTurnedFloors$History;") f9_wsX9_terms_438) (fun _ h9 => h9) rfl dX9_terms_37 ?_
      obtain ⟨q11, h10, h⟩ := dV_some h
      refine dw_kv (va_runV (As := []) (rest := []) ⟨hx, hb, hml, hown, hts⟩ (qX0_clear_s10 l D ty eo _ ad q8  q11 h10) (cwV 0 hts gX9_terms_X0_clear rfl rfl rfl hd_X0_clear_v ⟨Nat.le_of_ble_eq_true rfl, Nat.le_of_ble_eq_true rfl⟩) (pvF_0_10 hK hN hE hP hD hS hA) rfl rfl hl.1 rfl (lv_room (Nat.le_of_ble_eq_true rfl)) dX9_terms_40 ⟨Nat.le_of_ble_eq_true rfl, Nat.le_of_ble_eq_true rfl⟩) hD hS hA (fun u9 H locs hw hp hd hs => ?_)
      clear hP hD hS
      obtain rfl := hw
      have hP := hp; have hD := hd; have hS := hs; clear hp hd hs
      refine lv_aload_n hx hb dX9_terms_43 rfl (lv_at hl 1 rfl) ?_
      refine lv_iload_n hx hb dX9_terms_44 rfl (lv_at hl 0 rfl) ?_
      obtain ⟨r12, q14, h13, h⟩ := dB_some h
      refine dw_ki (va_runV (As := [.int r3]) (rest := []) ⟨hx, hb, hml, hown, hts⟩ (qX9_accept_s0 l D ty eo _ ad q11 r3 r12 q14 h13) (cwV 1 hts gX9_terms_X9_accept rfl rfl rfl hd_X9_accept_v ⟨Nat.le_of_ble_eq_true rfl, Nat.le_of_ble_eq_true rfl⟩) (pvF_9_0 hK hN hE hP hD hS hA) rfl rfl hl.1 rfl (lv_room (Nat.le_of_ble_eq_true rfl)) dX9_terms_45 ⟨Nat.le_of_ble_eq_true rfl, Nat.le_of_ble_eq_true rfl⟩) hD hS hA (fun r9 u9 H locs hw hp hd hs => ?_)
      clear hP hD hS
      obtain ⟨rfl, rfl⟩ := hw
      have hP := hp; have hD := hd; have hS := hs; clear hp hd hs
      cases h
      exact kz_iret hx hb hr hlocks hP hK hD hS dX9_terms_48 ⟨rfl, rfl⟩
    · rw [if_neg c9] at h
      exact WX9_terms_s0_12 C  _ _ _ _ h hP hD hS (lv_sub hl [0] rfl)

set_option maxHeartbeats 4000000 in
set_option maxRecDepth 100000 in
theorem WX9_feedFour_s0_43 {p : Program} {l : Launch} {e : Env} {s : State} {m : MethodId} {args : Array Value} {below : List Frame} {meth : Method} {c : Code} {D : va_G} {ty : Nat → ClassId} {eo : Nat → Nat} {A : Nat → Prop} {ad : Nat → Nat} {o2 : dK} (C : dc_C p s m args meth c cX9_feedFour none 3 RX9 wsX9_feedFour D ty eo A) {k3 : dK → Int32 → Int32 → Option (dK)} (hk3 : ∀ (q : dK) (x1 : Int32) (x2 : Int32) (H : Heap) (locs : List Loc) (ls : Array Slot), k3 q x1 x2 = some o2 → va_P D vwCl (wF ty ad q) H → va_D A (wF ty ad q) → va_S A s.heap H locs → lv_has ls 3 [(0, .ref (ad 0)), (1, .int x1), (2, .int x2)] → W p l e ({ frames := 0, cells := 0, slots := 0, locals := 0 } : Room) s m args below meth c H locs 0 0 (MQ below (va_Qv (fun (u : va_W) => wF ty ad o2 = u) (kz_B D ty A) A) args s 0 0 A) (F0 m 3 ls [])) (q : dK) (x1 : Int32) (x2 : Int32) (H : Heap) (locs : List Loc) (ls : Array Slot) (h : zX9_feedFour_s0_43 k3 q x1 x2 = some o2) (hP : va_P D vwCl (wF ty ad q) H) (hD : va_D A (wF ty ad q)) (hS : va_S A s.heap H locs) (hl : lv_has ls 3 [(0, .ref (ad 0)), (1, .int x1), (2, .int x2)]) : W p l e ({ frames := 0, cells := 0, slots := 0, locals := 0 } : Room) s m args below meth c H locs 0 0 (MQ below (va_Qv (fun (u : va_W) => wF ty ad o2 = u) (kz_B D ty A) A) args s 0 0 A) (F0 m 43 ls []) := by
  have C0 := C
  obtain ⟨hx, hb, hr, hts, hown, hlocks, hml, hK, hN, hE, hA⟩ := C
  unfold zX9_feedFour_s0_43 at h
  refine lv_iinc (v := x2 + (-8)) (lv' := [(2, .int (x2 + (-8))), (0, .ref (ad 0)), (1, .int x1)]) hx hb dX9_feedFour_43 hl (k := 2) rfl rfl (by decide) rfl (fun ls hl => ?_)
  refine lv_goto (tgt := 3) hx hb dX9_feedFour_46 (by decide) ?_
  exact hk3 _ _ _ _ _ _ h hP hD hS (lv_sub hl [1, 2, 0] rfl)
set_option maxHeartbeats 4000000 in
set_option maxRecDepth 100000 in
theorem WX9_feedFour_s0_3b {p : Program} {l : Launch} {e : Env} {s : State} {m : MethodId} {args : Array Value} {below : List Frame} {meth : Method} {c : Code} {D : va_G} {ty : Nat → ClassId} {eo : Nat → Nat} {A : Nat → Prop} {ad : Nat → Nat} {o2 : dK} (C : dc_C p s m args meth c cX9_feedFour none 3 RX9 wsX9_feedFour D ty eo A) {k3 : dK → Int32 → Int32 → Option (dK)} (hk3 : ∀ (q : dK) (x1 : Int32) (x2 : Int32) (H : Heap) (locs : List Loc) (ls : Array Slot), k3 q x1 x2 = some o2 → va_P D vwCl (wF ty ad q) H → va_D A (wF ty ad q) → va_S A s.heap H locs → lv_has ls 3 [(0, .ref (ad 0)), (1, .int x1), (2, .int x2)] → W p l e ({ frames := 0, cells := 0, slots := 0, locals := 0 } : Room) s m args below meth c H locs 0 0 (MQ below (va_Qv (fun (u : va_W) => wF ty ad o2 = u) (kz_B D ty A) A) args s 0 0 A) (F0 m 3 ls [])) (q : dK) (x1 : Int32) (x2 : Int32) (H : Heap) (locs : List Loc) (ls : Array Slot) (h : zX9_feedFour_s0_3b k3 q x1 x2 = some o2) (hP : va_P D vwCl (wF ty ad q) H) (hD : va_D A (wF ty ad q)) (hS : va_S A s.heap H locs) (hl : lv_has ls 3 [(0, .ref (ad 0)), (1, .int x1), (2, .int x2)]) : W p l e ({ frames := 0, cells := 0, slots := 0, locals := 0 } : Room) s m args below meth c H locs 0 0 (MQ below (va_Qv (fun (u : va_W) => wF ty ad o2 = u) (kz_B D ty A) A) args s 0 0 A) (F0 m 3 ls []) := by
  have C0 := C
  obtain ⟨hx, hb, hr, hts, hown, hlocks, hml, hK, hN, hE, hA⟩ := C
  unfold zX9_feedFour_s0_3b at h
  refine lv_iload_n hx hb dX9_feedFour_3 rfl (lv_at hl 2 rfl) ?_
  refine lv_if_lt (tgt := 49) hx hb dX9_feedFour_4 (by decide) (fun c9 => ?_) (fun c9 => ?_)
  · rw [if_pos c9] at h
    cases h
    exact kz_vret hx hb hr hlocks hP hK hD hS dX9_feedFour_49 rfl
  · rw [if_neg c9] at h
    refine lv_aload_n hx hb dX9_feedFour_7 rfl (lv_at hl 0 rfl) ?_
    refine va_get (D := D) (ci := 9) (v := .int (q.1 0 12)) (C := RX9) (T := TX9) (N := 19) hx hb hts u9_wsX9_feedFour_X9 hown hK hP 0 rfl rfl 12 (by decide) (hts (.fieldLink RX9 88 "TurnedFloors" "tapeLength" "I") f9_wsX9_feedFour_440) (fun _ h9 => h9) rfl dX9_feedFour_8 ?_
    refine lv_sipush (v := 400) hx hb dX9_feedFour_11 (by decide) ?_
    refine lv_icmp_ge (tgt := 43) hx hb dX9_feedFour_14 (by decide) (fun c9 => ?_) (fun c9 => ?_)
    · rw [if_pos c9] at h
      exact WX9_feedFour_s0_43 C0 hk3 _ _ _ _ _ _ h hP hD hS (lv_sub hl [0, 1, 2] rfl)
    · rw [if_neg c9] at h
      refine lv_aload_n hx hb dX9_feedFour_17 rfl (lv_at hl 0 rfl) ?_
      refine va_get (D := D) (ci := 9) (v := .ref (ad 46)) (C := RX9) (T := TX9) (N := 19) hx hb hts u9_wsX9_feedFour_X9 hown hK hP 0 rfl rfl 11 (by decide) (hts (.fieldLink RX9 84 "TurnedFloors" "tape" "[I") f9_wsX9_feedFour_441) (fun _ h9 => h9) rfl dX9_feedFour_18 ?_
      refine lv_aload_n hx hb dX9_feedFour_21 rfl (lv_at hl 0 rfl) ?_
      refine va_get (D := D) (ci := 9) (v := .int (q.1 0 12)) (C := RX9) (T := TX9) (N := 19) hx hb hts u9_wsX9_feedFour_X9 hown hK hP 0 rfl rfl 12 (by decide) (hts (.fieldLink RX9 88 "TurnedFloors" "tapeLength" "I") f9_wsX9_feedFour_440) (fun _ h9 => h9) rfl dX9_feedFour_22 ?_
      refine lv_iload_n hx hb dX9_feedFour_25 rfl (lv_at hl 1 rfl) ?_
      refine lv_iload_n hx hb dX9_feedFour_26 rfl (lv_at hl 2 rfl) ?_
      refine lv_iushr (v := ((x1 : Int32).toUInt32 >>> ((x2 : Int32).toUInt32 &&& Int32.toUInt32 31)).toInt32) hx hb dX9_feedFour_27 rfl ?_
      obtain ⟨v1, ev1, h⟩ := dL_some h
      refine kz_topi v1 ev1 ?_
      refine lv_sipush (v := 255) hx hb dX9_feedFour_28 (by decide) ?_
      refine lv_iand hx hb dX9_feedFour_31 ?_
      obtain ⟨g2, h⟩ := dG_some h
      refine va_iast hx hb hK hP hD hS 46 0 rfl rfl (dg_in g2) dX9_feedFour_32 (fun H locs hp hd hs => ?_)
      obtain ⟨q3, eq3, h⟩ := dL_some h
      refine kz_re (w2 := wF ty ad q3) hp hd hs (by rw [← eq3]; exact wF_a46 ty ad q (Int32.toNatClampNeg (q.1 0 12)) (v1 &&& 255 : Int32)) ?_
      clear hp hd hs hP hD hS
      intro hP hD hS
      refine lv_aload_n hx hb dX9_feedFour_33 rfl (lv_at hl 0 rfl) ?_
      refine lv_dup hx hb dX9_feedFour_34 rfl ?_
      refine va_get (D := D) (ci := 9) (v := .int (q3.1 0 12)) (C := RX9) (T := TX9) (N := 19) hx hb hts u9_wsX9_feedFour_X9 hown hK hP 0 rfl rfl 12 (by decide) (hts (.fieldLink RX9 88 "TurnedFloors" "tapeLength" "I") f9_wsX9_feedFour_440) (fun _ h9 => h9) rfl dX9_feedFour_35 ?_
      refine lv_iconst (v := 1) hx hb dX9_feedFour_38 (by decide) ?_
      refine lv_iadd hx hb dX9_feedFour_39 ?_
      refine va_put (D := D) (ci := 9) (v := .int ((q3.1 0 12) + 1 : Int32)) (ty := .int) (C := RX9) (T := TX9) (N := 19) hx hb hts u9_wsX9_feedFour_X9 tyX9 tyX9_ok nmX9 hown hK hP hD hS 0 rfl rfl 12 (by decide) (hts (.fieldLink RX9 88 "TurnedFloors" "tapeLength" "I") f9_wsX9_feedFour_440) (fun _ h9 => h9) rfl (by decide +kernel) rfl rfl (Nat.le_of_ble_eq_true rfl) dX9_feedFour_40 (fun H locs hp hd hs => ?_)
      obtain ⟨q4, eq4, h⟩ := dL_some h
      refine kz_re (w2 := wF ty ad q4) hp hd hs (by rw [← eq4]; exact wF_f0_12 ty ad q3 ((q3.1 0 12) + 1 : Int32)) ?_
      clear hp hd hs hP hD hS
      intro hP hD hS
      exact WX9_feedFour_s0_43 C0 hk3 _ _ _ _ _ _ h hP hD hS (lv_sub hl [0, 1, 2] rfl)
set_option maxHeartbeats 4000000 in
set_option maxRecDepth 100000 in
theorem WX9_feedFour_s0_3 {p : Program} {l : Launch} {e : Env} {s : State} {m : MethodId} {args : Array Value} {below : List Frame} {meth : Method} {c : Code} {D : va_G} {ty : Nat → ClassId} {eo : Nat → Nat} {A : Nat → Prop} {ad : Nat → Nat} {o2 : dK} (C : dc_C p s m args meth c cX9_feedFour none 3 RX9 wsX9_feedFour D ty eo A)   (n : Nat) (q : dK) (x1 : Int32) (x2 : Int32) (H : Heap) (locs : List Loc) (ls : Array Slot) (h : zX9_feedFour_s0_3  n q x1 x2 = some o2) (hP : va_P D vwCl (wF ty ad q) H) (hD : va_D A (wF ty ad q)) (hS : va_S A s.heap H locs) (hl : lv_has ls 3 [(0, .ref (ad 0)), (1, .int x1), (2, .int x2)]) : W p l e ({ frames := 0, cells := 0, slots := 0, locals := 0 } : Room) s m args below meth c H locs 0 0 (MQ below (va_Qv (fun (u : va_W) => wF ty ad o2 = u) (kz_B D ty A) A) args s 0 0 A) (F0 m 3 ls []) := by
  exact dFix_W (F := fun k (a : dK × Int32 × Int32) => zX9_feedFour_s0_3b  (fun q x1 x2 => k (q, x1, x2)) a.1 a.2.1 a.2.2) (o := o2) (P := fun (a : dK × Int32 × Int32) H locs ls => va_P D vwCl (wF ty ad a.1) H ∧ va_D A (wF ty ad a.1) ∧ va_S A s.heap H locs ∧ lv_has ls 3 [(0, .ref (ad 0)), (1, .int a.2.1), (2, .int a.2.2)]) (G := fun H locs ls => W p l e ({ frames := 0, cells := 0, slots := 0, locals := 0 } : Room) s m args below meth c H locs 0 0 (MQ below (va_Qv (fun (u : va_W) => wF ty ad o2 = u) (kz_B D ty A) A) args s 0 0 A) (F0 m 3 ls []))
    (fun k hk a H locs ls h hp => WX9_feedFour_s0_3b C  (fun q x1 x2 H locs ls h h1 h2 h3 h4 => hk (q, x1, x2) H locs ls h ⟨h1, h2, h3, h4⟩) a.1 a.2.1 a.2.2 H locs ls h hp.1 hp.2.1 hp.2.2.1 hp.2.2.2) n (q, x1, x2) H locs ls h ⟨hP, hD, hS, hl⟩
set_option maxHeartbeats 4000000 in
set_option maxRecDepth 100000 in
theorem qX9_feedFour_s0 (l : Launch) (D : va_G) (ty : Nat → ClassId) (eo : Nat → Nat) (sz : Nat) (ad : Nat → Nat) (q : dK) (p1 : Int32) (o2 : dK) (h : zX9_feedFour_s0 q p1 = some o2) : Met l yX9_feedFour wsX9_feedFour ({ frames := 0, cells := 0, slots := 0, locals := 0 } : Room) (va_Pc [.ref (ad 0), .int p1] (kz_pre D ty eo (wF ty ad q) sz)) (va_Qv (fun (u : va_W) => wF ty ad o2 = u) (kz_B D ty (va_A (wF ty ad q) sz)) (va_A (wF ty ad q) sz)) 0 0 (va_A (wF ty ad q) sz) := by
  refine Met.ofW (cc := cX9_feedFour) (maxL := 3) (ret := none) (by decide) rfl ?_
  intro p e s m args below meth c s₁ B hml hv
  obtain ⟨rfl, hsz, hP, hK, hD0, hN, hE⟩ := hv
  have hx := B.exec
  have hb := B.bytes
  have hr := B.returns
  have hts := atoms_spec (ws := wsX9_feedFour) B.pre
  have hown : s.vm.findClass RX9 = some m.cls := findClass_of_methodNamed B.named
  have hlocks := B.notSynchronized
  subst hsz
  have hD := hD0.self (sz := s.heap.size)
  generalize hAe : va_A (wF ty ad q) s.heap.size = A at hD hE ⊢
  have hA : ∀ q : Nat, s.heap.size ≤ q → A q := fun q h => by rw [← hAe]; exact Or.inr h
  clear hAe
  have hS : va_S A s.heap s.heap [] := va_S.rf
  have hl := lv_entry ([.ref (ad 0), .int p1]) (n := 3) (Nat.le_of_ble_eq_true rfl)
  rw [lg_entry_eq]
  generalize (lg_sl ([.ref (ad 0), .int p1]) ++ List.replicate (3 - (lg_sl ([.ref (ad 0), .int p1])).length) Slot.unset).toArray = ls at hl ⊢
  have hl : lv_has ls 3 [(0, .ref (ad 0)), (1, .int p1)] := hl
  have C : dc_C p s m _ meth c cX9_feedFour none 3 RX9 wsX9_feedFour D ty eo A := ⟨hx, hb, hr, hts, hown, hlocks, hml, hK, hN, hE, hA⟩
  unfold zX9_feedFour_s0 at h
  refine lv_bipush (v := 24) hx hb dX9_feedFour_0 (by decide) ?_
  refine lv_istore_n (lv' := [(2, .int 24), (0, .ref (ad 0)), (1, .int p1)]) hx hb dX9_feedFour_2 rfl hl (by decide) rfl (fun ls hl => ?_)
  exact WX9_feedFour_s0_3 C  _ _ _ _ _ _ _ h hP hD hS (lv_sub hl [1, 2, 0] rfl)

set_option maxHeartbeats 4000000 in
set_option maxRecDepth 100000 in
theorem qX9_feed_s0 (l : Launch) (D : va_G) (ty : Nat → ClassId) (eo : Nat → Nat) (sz : Nat) (ad : Nat → Nat) (q : dK) (p1 : Int32) (p2 : Int32) (p3 : Int32) (p4 : Int32) (p5 : Int32) (o1 : Int32) (o2 : dK) (h : zX9_feed_s0 q p1 p2 p3 p4 p5 = some (o1, o2)) : Met l yX9_feed wsX9_feed ({ frames := 1, cells := 0, slots := 0, locals := 22 } : Room) (va_Pc [.ref (ad 0), .int p1, .int p2, .int p3, .int p4, .int p5] (kz_pre D ty eo (wF ty ad q) sz)) (va_Qi (fun (r : Int32) (u : va_W) => o1 = r ∧ wF ty ad o2 = u) (kz_B D ty (va_A (wF ty ad q) sz)) (va_A (wF ty ad q) sz)) 0 0 (va_A (wF ty ad q) sz) := by
  refine Met.ofW (cc := cX9_feed) (maxL := 6) (ret := (some .int)) (by decide) rfl ?_
  intro p e s m args below meth c s₁ B hml hv
  obtain ⟨rfl, hsz, hP, hK, hD0, hN, hE⟩ := hv
  have hx := B.exec
  have hb := B.bytes
  have hr := B.returns
  have hts := atoms_spec (ws := wsX9_feed) B.pre
  have hown : s.vm.findClass RX9 = some m.cls := findClass_of_methodNamed B.named
  have hlocks := B.notSynchronized
  subst hsz
  have hD := hD0.self (sz := s.heap.size)
  generalize hAe : va_A (wF ty ad q) s.heap.size = A at hD hE ⊢
  have hA : ∀ q : Nat, s.heap.size ≤ q → A q := fun q h => by rw [← hAe]; exact Or.inr h
  clear hAe
  have hS : va_S A s.heap s.heap [] := va_S.rf
  have hl := lv_entry ([.ref (ad 0), .int p1, .int p2, .int p3, .int p4, .int p5]) (n := 6) (Nat.le_of_ble_eq_true rfl)
  rw [lg_entry_eq]
  generalize (lg_sl ([.ref (ad 0), .int p1, .int p2, .int p3, .int p4, .int p5]) ++ List.replicate (6 - (lg_sl ([.ref (ad 0), .int p1, .int p2, .int p3, .int p4, .int p5])).length) Slot.unset).toArray = ls at hl ⊢
  have hl : lv_has ls 6 [(0, .ref (ad 0)), (1, .int p1), (2, .int p2), (3, .int p3), (4, .int p4), (5, .int p5)] := hl
  have C : dc_C p s m _ meth c cX9_feed (some .int) 6 RX9 wsX9_feed D ty eo A := ⟨hx, hb, hr, hts, hown, hlocks, hml, hK, hN, hE, hA⟩
  unfold zX9_feed_s0 at h
  refine lv_aload_n hx hb dX9_feed_0 rfl (lv_at hl 0 rfl) ?_
  refine va_get (D := D) (ci := 9) (v := .int (q.1 0 12)) (C := RX9) (T := TX9) (N := 19) hx hb hts u9_wsX9_feed_X9 hown hK hP 0 rfl rfl 12 (by decide) (hts (.fieldLink RX9 88 "TurnedFloors" "tapeLength" "I") f9_wsX9_feed_443) (fun _ h9 => h9) rfl dX9_feed_1 ?_
  refine lv_bipush (v := 20) hx hb dX9_feed_4 (by decide) ?_
  refine lv_iadd hx hb dX9_feed_6 ?_
  refine lv_sipush (v := 400) hx hb dX9_feed_7 (by decide) ?_
  refine lv_icmp_le (tgt := 15) hx hb dX9_feed_10 (by decide) (fun c9 => ?_) (fun c9 => ?_)
  · rw [if_pos c9] at h
    refine lv_aload_n hx hb dX9_feed_15 rfl (lv_at hl 0 rfl) ?_
    refine lv_iload_n hx hb dX9_feed_16 rfl (lv_at hl 1 rfl) ?_
    obtain ⟨q3, h2, h⟩ := dV_some h
    refine dw_kv (va_runV (As := [.int p1]) (rest := []) ⟨hx, hb, hml, hown, hts⟩ (qX9_feedFour_s0 l D ty eo _ ad q p1 q3 h2) (cwV 1 hts gX9_feed_X9_feedFour rfl rfl rfl hd_X9_feedFour_v ⟨Nat.le_of_ble_eq_true rfl, Nat.le_of_ble_eq_true rfl⟩) (pvF_9_0 hK hN hE hP hD hS hA) rfl rfl hl.1 rfl (lv_room (Nat.le_of_ble_eq_true rfl)) dX9_feed_17 ⟨Nat.le_of_ble_eq_true rfl, Nat.le_of_ble_eq_true rfl⟩) hD hS hA (fun u9 H locs hw hp hd hs => ?_)
    clear hP hD hS
    obtain rfl := hw
    have hP := hp; have hD := hd; have hS := hs; clear hp hd hs
    refine lv_aload_n hx hb dX9_feed_20 rfl (lv_at hl 0 rfl) ?_
    refine lv_iload_n hx hb dX9_feed_21 rfl (lv_at hl 2 rfl) ?_
    obtain ⟨q6, h5, h⟩ := dV_some h
    refine dw_kv (va_runV (As := [.int p2]) (rest := []) ⟨hx, hb, hml, hown, hts⟩ (qX9_feedFour_s0 l D ty eo _ ad q3 p2 q6 h5) (cwV 1 hts gX9_feed_X9_feedFour rfl rfl rfl hd_X9_feedFour_v ⟨Nat.le_of_ble_eq_true rfl, Nat.le_of_ble_eq_true rfl⟩) (pvF_9_0 hK hN hE hP hD hS hA) rfl rfl hl.1 rfl (lv_room (Nat.le_of_ble_eq_true rfl)) dX9_feed_22 ⟨Nat.le_of_ble_eq_true rfl, Nat.le_of_ble_eq_true rfl⟩) hD hS hA (fun u9 H locs hw hp hd hs => ?_)
    clear hP hD hS
    obtain rfl := hw
    have hP := hp; have hD := hd; have hS := hs; clear hp hd hs
    refine lv_aload_n hx hb dX9_feed_25 rfl (lv_at hl 0 rfl) ?_
    refine lv_iload_n hx hb dX9_feed_26 rfl (lv_at hl 3 rfl) ?_
    obtain ⟨q9, h8, h⟩ := dV_some h
    refine dw_kv (va_runV (As := [.int p3]) (rest := []) ⟨hx, hb, hml, hown, hts⟩ (qX9_feedFour_s0 l D ty eo _ ad q6 p3 q9 h8) (cwV 1 hts gX9_feed_X9_feedFour rfl rfl rfl hd_X9_feedFour_v ⟨Nat.le_of_ble_eq_true rfl, Nat.le_of_ble_eq_true rfl⟩) (pvF_9_0 hK hN hE hP hD hS hA) rfl rfl hl.1 rfl (lv_room (Nat.le_of_ble_eq_true rfl)) dX9_feed_27 ⟨Nat.le_of_ble_eq_true rfl, Nat.le_of_ble_eq_true rfl⟩) hD hS hA (fun u9 H locs hw hp hd hs => ?_)
    clear hP hD hS
    obtain rfl := hw
    have hP := hp; have hD := hd; have hS := hs; clear hp hd hs
    refine lv_aload_n hx hb dX9_feed_30 rfl (lv_at hl 0 rfl) ?_
    refine lv_iload hx hb dX9_feed_31 (lv_at hl 4 rfl) ?_
    obtain ⟨q12, h11, h⟩ := dV_some h
    refine dw_kv (va_runV (As := [.int p4]) (rest := []) ⟨hx, hb, hml, hown, hts⟩ (qX9_feedFour_s0 l D ty eo _ ad q9 p4 q12 h11) (cwV 1 hts gX9_feed_X9_feedFour rfl rfl rfl hd_X9_feedFour_v ⟨Nat.le_of_ble_eq_true rfl, Nat.le_of_ble_eq_true rfl⟩) (pvF_9_0 hK hN hE hP hD hS hA) rfl rfl hl.1 rfl (lv_room (Nat.le_of_ble_eq_true rfl)) dX9_feed_33 ⟨Nat.le_of_ble_eq_true rfl, Nat.le_of_ble_eq_true rfl⟩) hD hS hA (fun u9 H locs hw hp hd hs => ?_)
    clear hP hD hS
    obtain rfl := hw
    have hP := hp; have hD := hd; have hS := hs; clear hp hd hs
    refine lv_aload_n hx hb dX9_feed_36 rfl (lv_at hl 0 rfl) ?_
    refine lv_iload hx hb dX9_feed_37 (lv_at hl 5 rfl) ?_
    obtain ⟨q15, h14, h⟩ := dV_some h
    refine dw_kv (va_runV (As := [.int p5]) (rest := []) ⟨hx, hb, hml, hown, hts⟩ (qX9_feedFour_s0 l D ty eo _ ad q12 p5 q15 h14) (cwV 1 hts gX9_feed_X9_feedFour rfl rfl rfl hd_X9_feedFour_v ⟨Nat.le_of_ble_eq_true rfl, Nat.le_of_ble_eq_true rfl⟩) (pvF_9_0 hK hN hE hP hD hS hA) rfl rfl hl.1 rfl (lv_room (Nat.le_of_ble_eq_true rfl)) dX9_feed_39 ⟨Nat.le_of_ble_eq_true rfl, Nat.le_of_ble_eq_true rfl⟩) hD hS hA (fun u9 H locs hw hp hd hs => ?_)
    clear hP hD hS
    obtain rfl := hw
    have hP := hp; have hD := hd; have hS := hs; clear hp hd hs
    refine lv_aload_n hx hb dX9_feed_42 rfl (lv_at hl 0 rfl) ?_
    refine va_get (D := D) (ci := 9) (v := .int (q15.1 0 12)) (C := RX9) (T := TX9) (N := 19) hx hb hts u9_wsX9_feed_X9 hown hK hP 0 rfl rfl 12 (by decide) (hts (.fieldLink RX9 88 "TurnedFloors" "tapeLength" "I") f9_wsX9_feed_443) (fun _ h9 => h9) rfl dX9_feed_43 ?_
    cases h
    exact kz_iret hx hb hr hlocks hP hK hD hS dX9_feed_46 ⟨rfl, rfl⟩
  · rw [if_neg c9] at h
    refine lv_iconst (v := (-1)) hx hb dX9_feed_13 (by decide) ?_
    cases h
    exact kz_iret hx hb hr hlocks hP hK hD hS dX9_feed_14 ⟨rfl, rfl⟩

set_option maxHeartbeats 4000000 in
set_option maxRecDepth 100000 in
theorem WX9_end_s0_12 {p : Program} {l : Launch} {e : Env} {s : State} {m : MethodId} {args : Array Value} {below : List Frame} {meth : Method} {c : Code} {D : va_G} {ty : Nat → ClassId} {eo : Nat → Nat} {A : Nat → Prop} {ad : Nat → Nat} {o1 : Int32} {o2 : dK} (C : dc_C p s m args meth c cX9_end (some .int) 2 RX9 wsX9_end D ty eo A)   (q : dK)  (H : Heap) (locs : List Loc) (ls : Array Slot) (h : zX9_end_s0_12  q = some (o1, o2)) (hP : va_P D vwCl (wF ty ad q) H) (hD : va_D A (wF ty ad q)) (hS : va_S A s.heap H locs) (hl : lv_has ls 2 []) : W p l e ({ frames := 0, cells := 0, slots := 0, locals := 0 } : Room) s m args below meth c H locs 0 0 (MQ below (va_Qi (fun (r : Int32) (u : va_W) => o1 = r ∧ wF ty ad o2 = u) (kz_B D ty A) A) args s 0 0 A) (F0 m 12 ls []) := by
  have C0 := C
  obtain ⟨hx, hb, hr, hts, hown, hlocks, hml, hK, hN, hE, hA⟩ := C
  unfold zX9_end_s0_12 at h
  refine lv_iconst (v := (-1)) hx hb dX9_end_12 (by decide) ?_
  cases h
  exact kz_iret hx hb hr hlocks hP hK hD hS dX9_end_13 ⟨rfl, rfl⟩
set_option maxHeartbeats 4000000 in
set_option maxRecDepth 100000 in
theorem qX9_end_s0 (l : Launch) (D : va_G) (ty : Nat → ClassId) (eo : Nat → Nat) (sz : Nat) (ad : Nat → Nat) (q : dK) (p1 : Int32) (o1 : Int32) (o2 : dK) (h : zX9_end_s0 q p1 = some (o1, o2)) : Met l yX9_end wsX9_end ({ frames := 0, cells := 0, slots := 0, locals := 0 } : Room) (va_Pc [.ref (ad 0), .int p1] (kz_pre D ty eo (wF ty ad q) sz)) (va_Qi (fun (r : Int32) (u : va_W) => o1 = r ∧ wF ty ad o2 = u) (kz_B D ty (va_A (wF ty ad q) sz)) (va_A (wF ty ad q) sz)) 0 0 (va_A (wF ty ad q) sz) := by
  refine Met.ofW (cc := cX9_end) (maxL := 2) (ret := (some .int)) (by decide) rfl ?_
  intro p e s m args below meth c s₁ B hml hv
  obtain ⟨rfl, hsz, hP, hK, hD0, hN, hE⟩ := hv
  have hx := B.exec
  have hb := B.bytes
  have hr := B.returns
  have hts := atoms_spec (ws := wsX9_end) B.pre
  have hown : s.vm.findClass RX9 = some m.cls := findClass_of_methodNamed B.named
  have hlocks := B.notSynchronized
  subst hsz
  have hD := hD0.self (sz := s.heap.size)
  generalize hAe : va_A (wF ty ad q) s.heap.size = A at hD hE ⊢
  have hA : ∀ q : Nat, s.heap.size ≤ q → A q := fun q h => by rw [← hAe]; exact Or.inr h
  clear hAe
  have hS : va_S A s.heap s.heap [] := va_S.rf
  have hl := lv_entry ([.ref (ad 0), .int p1]) (n := 2) (Nat.le_of_ble_eq_true rfl)
  rw [lg_entry_eq]
  generalize (lg_sl ([.ref (ad 0), .int p1]) ++ List.replicate (2 - (lg_sl ([.ref (ad 0), .int p1])).length) Slot.unset).toArray = ls at hl ⊢
  have hl : lv_has ls 2 [(0, .ref (ad 0)), (1, .int p1)] := hl
  have C : dc_C p s m _ meth c cX9_end (some .int) 2 RX9 wsX9_end D ty eo A := ⟨hx, hb, hr, hts, hown, hlocks, hml, hK, hN, hE, hA⟩
  unfold zX9_end_s0 at h
  refine lv_iload_n hx hb dX9_end_0 rfl (lv_at hl 1 rfl) ?_
  refine lv_if_lt (tgt := 12) hx hb dX9_end_1 (by decide) (fun c9 => ?_) (fun c9 => ?_)
  · rw [if_pos c9] at h
    exact WX9_end_s0_12 C  _ _ _ _ h hP hD hS (lv_sub hl [] rfl)
  · rw [if_neg c9] at h
    refine lv_iload_n hx hb dX9_end_4 rfl (lv_at hl 1 rfl) ?_
    refine lv_aload_n hx hb dX9_end_5 rfl (lv_at hl 0 rfl) ?_
    refine va_get (D := D) (ci := 9) (v := .int (q.1 0 12)) (C := RX9) (T := TX9) (N := 19) hx hb hts u9_wsX9_end_X9 hown hK hP 0 rfl rfl 12 (by decide) (hts (.fieldLink RX9 88 "TurnedFloors" "tapeLength" "I") f9_wsX9_end_445) (fun _ h9 => h9) rfl dX9_end_6 ?_
    refine lv_icmp_le (tgt := 14) hx hb dX9_end_9 (by decide) (fun c9 => ?_) (fun c9 => ?_)
    · rw [if_pos c9] at h
      refine lv_aload_n hx hb dX9_end_14 rfl (lv_at hl 0 rfl) ?_
      refine lv_iload_n hx hb dX9_end_15 rfl (lv_at hl 1 rfl) ?_
      refine va_put (D := D) (ci := 9) (v := .int p1) (ty := .int) (C := RX9) (T := TX9) (N := 19) hx hb hts u9_wsX9_end_X9 tyX9 tyX9_ok nmX9 hown hK hP hD hS 0 rfl rfl 12 (by decide) (hts (.fieldLink RX9 88 "TurnedFloors" "tapeLength" "I") f9_wsX9_end_445) (fun _ h9 => h9) rfl (by decide +kernel) rfl rfl (Nat.le_of_ble_eq_true rfl) dX9_end_16 (fun H locs hp hd hs => ?_)
      obtain ⟨q1, eq1, h⟩ := dL_some h
      refine kz_re (w2 := wF ty ad q1) hp hd hs (by rw [← eq1]; exact wF_f0_12 ty ad q p1) ?_
      clear hp hd hs hP hD hS
      intro hP hD hS
      refine lv_iload_n hx hb dX9_end_19 rfl (lv_at hl 1 rfl) ?_
      cases h
      exact kz_iret hx hb hr hlocks hP hK hD hS dX9_end_20 ⟨rfl, rfl⟩
    · rw [if_neg c9] at h
      exact WX9_end_s0_12 C  _ _ _ _ h hP hD hS (lv_sub hl [] rfl)

set_option maxHeartbeats 4000000 in
set_option maxRecDepth 100000 in
theorem WX9_isNewFloor_s0_33 {p : Program} {l : Launch} {e : Env} {s : State} {m : MethodId} {args : Array Value} {below : List Frame} {meth : Method} {c : Code} {D : va_G} {ty : Nat → ClassId} {eo : Nat → Nat} {A : Nat → Prop} {ad : Nat → Nat} {o1 : Int32} {o2 : dK} (C : dc_C p s m args meth c cX9_isNewFloor (some .boolean) 3 RX9 wsX9_isNewFloor D ty eo A)   (q : dK) (y0 : Int32) (H : Heap) (locs : List Loc) (ls : Array Slot) (h : zX9_isNewFloor_s0_33  q y0 = some (o1, o2)) (hP : va_P D vwCl (wF ty ad q) H) (hD : va_D A (wF ty ad q)) (hS : va_S A s.heap H locs) (hl : lv_has ls 3 []) : W p l e ({ frames := 1, cells := 0, slots := 0, locals := 22 } : Room) s m args below meth c H locs 0 0 (MQ below (va_Qi (fun (r : Int32) (u : va_W) => o1 = r ∧ wF ty ad o2 = u) (kz_B D ty A) A) args s 0 0 A) (F0 m 33 ls [.int y0]) := by
  have C0 := C
  obtain ⟨hx, hb, hr, hts, hown, hlocks, hml, hK, hN, hE, hA⟩ := C
  unfold zX9_isNewFloor_s0_33 at h
  obtain ⟨g1, h⟩ := dG_some h
  cases h
  exact kz_zret hx hb hr hlocks (dbl_nar g1) hP hK hD hS dX9_isNewFloor_33 ⟨rfl, rfl⟩
set_option maxHeartbeats 4000000 in
set_option maxRecDepth 100000 in
theorem WX9_isNewFloor_s0_32 {p : Program} {l : Launch} {e : Env} {s : State} {m : MethodId} {args : Array Value} {below : List Frame} {meth : Method} {c : Code} {D : va_G} {ty : Nat → ClassId} {eo : Nat → Nat} {A : Nat → Prop} {ad : Nat → Nat} {o1 : Int32} {o2 : dK} (C : dc_C p s m args meth c cX9_isNewFloor (some .boolean) 3 RX9 wsX9_isNewFloor D ty eo A)   (q : dK)  (H : Heap) (locs : List Loc) (ls : Array Slot) (h : zX9_isNewFloor_s0_32  q = some (o1, o2)) (hP : va_P D vwCl (wF ty ad q) H) (hD : va_D A (wF ty ad q)) (hS : va_S A s.heap H locs) (hl : lv_has ls 3 []) : W p l e ({ frames := 1, cells := 0, slots := 0, locals := 22 } : Room) s m args below meth c H locs 0 0 (MQ below (va_Qi (fun (r : Int32) (u : va_W) => o1 = r ∧ wF ty ad o2 = u) (kz_B D ty A) A) args s 0 0 A) (F0 m 32 ls []) := by
  have C0 := C
  obtain ⟨hx, hb, hr, hts, hown, hlocks, hml, hK, hN, hE, hA⟩ := C
  unfold zX9_isNewFloor_s0_32 at h
  refine lv_iconst (v := 0) hx hb dX9_isNewFloor_32 (by decide) ?_
  exact WX9_isNewFloor_s0_33 C0  _ _ _ _ _ h hP hD hS (lv_sub hl [] rfl)
set_option maxHeartbeats 4000000 in
set_option maxRecDepth 100000 in
theorem qX9_isNewFloor_s0 (l : Launch) (D : va_G) (ty : Nat → ClassId) (eo : Nat → Nat) (sz : Nat) (ad : Nat → Nat) (q : dK) (p1 : Int32) (p2 : Int32) (o1 : Int32) (o2 : dK) (h : zX9_isNewFloor_s0 q p1 p2 = some (o1, o2)) : Met l yX9_isNewFloor wsX9_isNewFloor ({ frames := 1, cells := 0, slots := 0, locals := 22 } : Room) (va_Pc [.ref (ad 0), .int p1, .int p2] (kz_pre D ty eo (wF ty ad q) sz)) (va_Qi (fun (r : Int32) (u : va_W) => o1 = r ∧ wF ty ad o2 = u) (kz_B D ty (va_A (wF ty ad q) sz)) (va_A (wF ty ad q) sz)) 0 0 (va_A (wF ty ad q) sz) := by
  refine Met.ofW (cc := cX9_isNewFloor) (maxL := 3) (ret := (some .boolean)) (by decide) rfl ?_
  intro p e s m args below meth c s₁ B hml hv
  obtain ⟨rfl, hsz, hP, hK, hD0, hN, hE⟩ := hv
  have hx := B.exec
  have hb := B.bytes
  have hr := B.returns
  have hts := atoms_spec (ws := wsX9_isNewFloor) B.pre
  have hown : s.vm.findClass RX9 = some m.cls := findClass_of_methodNamed B.named
  have hlocks := B.notSynchronized
  subst hsz
  have hD := hD0.self (sz := s.heap.size)
  generalize hAe : va_A (wF ty ad q) s.heap.size = A at hD hE ⊢
  have hA : ∀ q : Nat, s.heap.size ≤ q → A q := fun q h => by rw [← hAe]; exact Or.inr h
  clear hAe
  have hS : va_S A s.heap s.heap [] := va_S.rf
  have hl := lv_entry ([.ref (ad 0), .int p1, .int p2]) (n := 3) (Nat.le_of_ble_eq_true rfl)
  rw [lg_entry_eq]
  generalize (lg_sl ([.ref (ad 0), .int p1, .int p2]) ++ List.replicate (3 - (lg_sl ([.ref (ad 0), .int p1, .int p2])).length) Slot.unset).toArray = ls at hl ⊢
  have hl : lv_has ls 3 [(0, .ref (ad 0)), (1, .int p1), (2, .int p2)] := hl
  have C : dc_C p s m _ meth c cX9_isNewFloor (some .boolean) 3 RX9 wsX9_isNewFloor D ty eo A := ⟨hx, hb, hr, hts, hown, hlocks, hml, hK, hN, hE, hA⟩
  unfold zX9_isNewFloor_s0 at h
  refine lv_iload_n hx hb dX9_isNewFloor_0 rfl (lv_at hl 1 rfl) ?_
  obtain ⟨r1, h2, h⟩ := dV_some h
  refine dw_ks (va_runS (As := [.int p1]) (rest := []) ⟨hx, hb, hml, hown, hts⟩ (qX9_isRank l D ty eo _ p1 _ h2) (va_cwS 1 hts gX9_isNewFloor_X9_isRank rfl rfl rfl hd_X9_isRank ⟨Nat.le_of_ble_eq_true rfl, Nat.le_of_ble_eq_true rfl⟩) (pvS_0 hK hN hE hP hD hS hA) rfl rfl hl.1 rfl (lv_room (Nat.le_of_ble_eq_true rfl)) dX9_isNewFloor_1 ⟨Nat.le_of_ble_eq_true rfl, Nat.le_of_ble_eq_true rfl⟩) hP hD hS hA (fun _ _ h9 => h9.2.symm) (fun r9 u9 H locs hw hp hd hs => ?_)
  obtain ⟨rfl, -⟩ := hw
  clear hP hD hS
  have hP := hp; have hD := hd; have hS := hs; clear hp hd hs
  refine lv_if_eq (tgt := 32) hx hb dX9_isNewFloor_4 (by decide) (fun c9 => ?_) (fun c9 => ?_)
  · rw [if_pos c9] at h
    exact WX9_isNewFloor_s0_32 C  _ _ _ _ h hP hD hS (lv_sub hl [] rfl)
  · rw [if_neg c9] at h
    refine lv_iload_n hx hb dX9_isNewFloor_7 rfl (lv_at hl 2 rfl) ?_
    obtain ⟨r3, h4, h⟩ := dV_some h
    refine dw_ks (va_runS (As := [.int p2]) (rest := []) ⟨hx, hb, hml, hown, hts⟩ (qX9_isBit l D ty eo _ p2 _ h4) (va_cwS 1 hts gX9_isNewFloor_X9_isBit rfl rfl rfl hd_X9_isBit ⟨Nat.le_of_ble_eq_true rfl, Nat.le_of_ble_eq_true rfl⟩) (pvS_0 hK hN hE hP hD hS hA) rfl rfl hl.1 rfl (lv_room (Nat.le_of_ble_eq_true rfl)) dX9_isNewFloor_8 ⟨Nat.le_of_ble_eq_true rfl, Nat.le_of_ble_eq_true rfl⟩) hP hD hS hA (fun _ _ h9 => h9.2.symm) (fun r9 u9 H locs hw hp hd hs => ?_)
    obtain ⟨rfl, -⟩ := hw
    clear hP hD hS
    have hP := hp; have hD := hd; have hS := hs; clear hp hd hs
    refine lv_if_eq (tgt := 32) hx hb dX9_isNewFloor_11 (by decide) (fun c9 => ?_) (fun c9 => ?_)
    · rw [if_pos c9] at h
      exact WX9_isNewFloor_s0_32 C  _ _ _ _ h hP hD hS (lv_sub hl [] rfl)
    · rw [if_neg c9] at h
      refine lv_aload_n hx hb dX9_isNewFloor_14 rfl (lv_at hl 0 rfl) ?_
      refine va_get (D := D) (ci := 9) (v := .ref (ad 1)) (C := RX9) (T := TX9) (N := 19) hx hb hts u9_wsX9_isNewFloor_X9 hown hK hP 0 rfl rfl 0 (by decide) (hts (.fieldLink RX9 10 "TurnedFloors" "state" "LTurnedFloors$State;") f9_wsX9_isNewFloor_448) (fun _ h9 => h9) rfl dX9_isNewFloor_15 ?_
      refine va_getN (D := D) (ci := 6) (v := .ref (ad 2)) (C := RX6) (T := TX6) (N := 10) hx hb hts u9_wsX9_isNewFloor_X6 hown hK hP 1 rfl rfl 0 (by decide) (hN.use (.fieldLinkNest "TurnedFloors" 122 "TurnedFloors$State" "tower" "LTurnedFloors$Tower;" "TurnedFloors") nn9_0) (fun _ h9 => h9) rfl dX9_isNewFloor_18 ?_
      refine lv_iload_n hx hb dX9_isNewFloor_21 rfl (lv_at hl 1 rfl) ?_
      obtain ⟨r5, q7, h6, h⟩ := dB_some h
      refine dw_ki (va_runV (As := [.int p1]) (rest := []) ⟨hx, hb, hml, hown, hts⟩ (qX8_has_s2 l D ty eo _ ad q p1 r5 q7 h6) (cwV 1 hts gX9_isNewFloor_X8_has rfl rfl rfl hd_X8_has_v ⟨Nat.le_of_ble_eq_true rfl, Nat.le_of_ble_eq_true rfl⟩) (pvF_8_2 hK hN hE hP hD hS hA) rfl rfl hl.1 rfl (lv_room (Nat.le_of_ble_eq_true rfl)) dX9_isNewFloor_22 ⟨Nat.le_of_ble_eq_true rfl, Nat.le_of_ble_eq_true rfl⟩) hD hS hA (fun r9 u9 H locs hw hp hd hs => ?_)
      clear hP hD hS
      obtain ⟨rfl, rfl⟩ := hw
      have hP := hp; have hD := hd; have hS := hs; clear hp hd hs
      refine lv_if_ne (tgt := 32) hx hb dX9_isNewFloor_25 (by decide) (fun c9 => ?_) (fun c9 => ?_)
      · rw [if_neg c9] at h
        exact WX9_isNewFloor_s0_32 C  _ _ _ _ h hP hD hS (lv_sub hl [] rfl)
      · rw [if_pos c9] at h
        refine lv_iconst (v := 1) hx hb dX9_isNewFloor_28 (by decide) ?_
        refine lv_goto (tgt := 33) hx hb dX9_isNewFloor_29 (by decide) ?_
        exact WX9_isNewFloor_s0_33 C  _ _ _ _ _ h hP hD hS (lv_sub hl [] rfl)

set_option maxHeartbeats 4000000 in
set_option maxRecDepth 100000 in
theorem WX9_row_s0_95 {p : Program} {l : Launch} {e : Env} {s : State} {m : MethodId} {args : Array Value} {below : List Frame} {meth : Method} {c : Code} {D : va_G} {ty : Nat → ClassId} {eo : Nat → Nat} {A : Nat → Prop} {ad : Nat → Nat} {o1 : Int32} {o2 : dK} (C : dc_C p s m args meth c cX9_row (some .int) 4 RX9 wsX9_row D ty eo A) {k20 : dK → Int32 → Int32 → Int32 → Option (Int32 × dK)} (hk20 : ∀ (q : dK) (x1 : Int32) (x2 : Int32) (x3 : Int32) (H : Heap) (locs : List Loc) (ls : Array Slot), k20 q x1 x2 x3 = some (o1, o2) → va_P D vwCl (wF ty ad q) H → va_D A (wF ty ad q) → va_S A s.heap H locs → lv_has ls 4 [(0, .ref (ad 0)), (1, .int x1), (2, .int x2), (3, .int x3)] → W p l e ({ frames := 2, cells := 0, slots := 0, locals := 44 } : Room) s m args below meth c H locs 0 0 (MQ below (va_Qi (fun (r : Int32) (u : va_W) => o1 = r ∧ wF ty ad o2 = u) (kz_B D ty A) A) args s 0 0 A) (F0 m 20 ls [])) (q : dK) (x1 : Int32) (x2 : Int32) (x3 : Int32) (H : Heap) (locs : List Loc) (ls : Array Slot) (h : zX9_row_s0_95 k20 q x1 x2 x3 = some (o1, o2)) (hP : va_P D vwCl (wF ty ad q) H) (hD : va_D A (wF ty ad q)) (hS : va_S A s.heap H locs) (hl : lv_has ls 4 [(0, .ref (ad 0)), (1, .int x1), (2, .int x2), (3, .int x3)]) : W p l e ({ frames := 2, cells := 0, slots := 0, locals := 44 } : Room) s m args below meth c H locs 0 0 (MQ below (va_Qi (fun (r : Int32) (u : va_W) => o1 = r ∧ wF ty ad o2 = u) (kz_B D ty A) A) args s 0 0 A) (F0 m 95 ls []) := by
  have C0 := C
  obtain ⟨hx, hb, hr, hts, hown, hlocks, hml, hK, hN, hE, hA⟩ := C
  unfold zX9_row_s0_95 at h
  refine lv_iinc (v := x3 + 2) (lv' := [(3, .int (x3 + 2)), (0, .ref (ad 0)), (1, .int x1), (2, .int x2)]) hx hb dX9_row_95 hl (k := 3) rfl rfl (by decide) rfl (fun ls hl => ?_)
  refine lv_goto (tgt := 20) hx hb dX9_row_98 (by decide) ?_
  exact hk20 _ _ _ _ _ _ _ h hP hD hS (lv_sub hl [1, 2, 3, 0] rfl)
set_option maxHeartbeats 4000000 in
set_option maxRecDepth 100000 in
theorem WX9_row_s0_92 {p : Program} {l : Launch} {e : Env} {s : State} {m : MethodId} {args : Array Value} {below : List Frame} {meth : Method} {c : Code} {D : va_G} {ty : Nat → ClassId} {eo : Nat → Nat} {A : Nat → Prop} {ad : Nat → Nat} {o1 : Int32} {o2 : dK} (C : dc_C p s m args meth c cX9_row (some .int) 4 RX9 wsX9_row D ty eo A) {k20 : dK → Int32 → Int32 → Int32 → Option (Int32 × dK)} (hk20 : ∀ (q : dK) (x1 : Int32) (x2 : Int32) (x3 : Int32) (H : Heap) (locs : List Loc) (ls : Array Slot), k20 q x1 x2 x3 = some (o1, o2) → va_P D vwCl (wF ty ad q) H → va_D A (wF ty ad q) → va_S A s.heap H locs → lv_has ls 4 [(0, .ref (ad 0)), (1, .int x1), (2, .int x2), (3, .int x3)] → W p l e ({ frames := 2, cells := 0, slots := 0, locals := 44 } : Room) s m args below meth c H locs 0 0 (MQ below (va_Qi (fun (r : Int32) (u : va_W) => o1 = r ∧ wF ty ad o2 = u) (kz_B D ty A) A) args s 0 0 A) (F0 m 20 ls [])) (q : dK) (x1 : Int32) (x2 : Int32) (x3 : Int32) (H : Heap) (locs : List Loc) (ls : Array Slot) (h : zX9_row_s0_92 k20 q x1 x2 x3 = some (o1, o2)) (hP : va_P D vwCl (wF ty ad q) H) (hD : va_D A (wF ty ad q)) (hS : va_S A s.heap H locs) (hl : lv_has ls 4 [(0, .ref (ad 0)), (1, .int x1), (2, .int x2), (3, .int x3)]) : W p l e ({ frames := 2, cells := 0, slots := 0, locals := 44 } : Room) s m args below meth c H locs 0 0 (MQ below (va_Qi (fun (r : Int32) (u : va_W) => o1 = r ∧ wF ty ad o2 = u) (kz_B D ty A) A) args s 0 0 A) (F0 m 92 ls []) := by
  have C0 := C
  obtain ⟨hx, hb, hr, hts, hown, hlocks, hml, hK, hN, hE, hA⟩ := C
  unfold zX9_row_s0_92 at h
  refine lv_iinc (v := x2 + 1) (lv' := [(2, .int (x2 + 1)), (0, .ref (ad 0)), (1, .int x1), (3, .int x3)]) hx hb dX9_row_92 hl (k := 2) rfl rfl (by decide) rfl (fun ls hl => ?_)
  exact WX9_row_s0_95 C0 hk20 _ _ _ _ _ _ _ h hP hD hS (lv_sub hl [1, 2, 0, 3] rfl)
set_option maxHeartbeats 4000000 in
set_option maxRecDepth 100000 in
theorem WX9_row_s0_20b {p : Program} {l : Launch} {e : Env} {s : State} {m : MethodId} {args : Array Value} {below : List Frame} {meth : Method} {c : Code} {D : va_G} {ty : Nat → ClassId} {eo : Nat → Nat} {A : Nat → Prop} {ad : Nat → Nat} {o1 : Int32} {o2 : dK} (C : dc_C p s m args meth c cX9_row (some .int) 4 RX9 wsX9_row D ty eo A) {k20 : dK → Int32 → Int32 → Int32 → Option (Int32 × dK)} (hk20 : ∀ (q : dK) (x1 : Int32) (x2 : Int32) (x3 : Int32) (H : Heap) (locs : List Loc) (ls : Array Slot), k20 q x1 x2 x3 = some (o1, o2) → va_P D vwCl (wF ty ad q) H → va_D A (wF ty ad q) → va_S A s.heap H locs → lv_has ls 4 [(0, .ref (ad 0)), (1, .int x1), (2, .int x2), (3, .int x3)] → W p l e ({ frames := 2, cells := 0, slots := 0, locals := 44 } : Room) s m args below meth c H locs 0 0 (MQ below (va_Qi (fun (r : Int32) (u : va_W) => o1 = r ∧ wF ty ad o2 = u) (kz_B D ty A) A) args s 0 0 A) (F0 m 20 ls [])) (q : dK) (x1 : Int32) (x2 : Int32) (x3 : Int32) (H : Heap) (locs : List Loc) (ls : Array Slot) (h : zX9_row_s0_20b k20 q x1 x2 x3 = some (o1, o2)) (hP : va_P D vwCl (wF ty ad q) H) (hD : va_D A (wF ty ad q)) (hS : va_S A s.heap H locs) (hl : lv_has ls 4 [(0, .ref (ad 0)), (1, .int x1), (2, .int x2), (3, .int x3)]) : W p l e ({ frames := 2, cells := 0, slots := 0, locals := 44 } : Room) s m args below meth c H locs 0 0 (MQ below (va_Qi (fun (r : Int32) (u : va_W) => o1 = r ∧ wF ty ad o2 = u) (kz_B D ty A) A) args s 0 0 A) (F0 m 20 ls []) := by
  have C0 := C
  obtain ⟨hx, hb, hr, hts, hown, hlocks, hml, hK, hN, hE, hA⟩ := C
  unfold zX9_row_s0_20b at h
  refine lv_iload_n hx hb dX9_row_20 rfl (lv_at hl 3 rfl) ?_
  refine lv_aload_n hx hb dX9_row_21 rfl (lv_at hl 0 rfl) ?_
  refine va_get (D := D) (ci := 9) (v := .int (q.1 0 12)) (C := RX9) (T := TX9) (N := 19) hx hb hts u9_wsX9_row_X9 hown hK hP 0 rfl rfl 12 (by decide) (hts (.fieldLink RX9 88 "TurnedFloors" "tapeLength" "I") f9_wsX9_row_451) (fun _ h9 => h9) rfl dX9_row_22 ?_
  refine lv_icmp_ge (tgt := 101) hx hb dX9_row_25 (by decide) (fun c9 => ?_) (fun c9 => ?_)
  · rw [if_pos c9] at h
    refine lv_aload_n hx hb dX9_row_101 rfl (lv_at hl 0 rfl) ?_
    refine lv_iconst (v := 0) hx hb dX9_row_102 (by decide) ?_
    refine va_put (D := D) (ci := 9) (v := .int 0) (ty := .int) (C := RX9) (T := TX9) (N := 19) hx hb hts u9_wsX9_row_X9 tyX9 tyX9_ok nmX9 hown hK hP hD hS 0 rfl rfl 12 (by decide) (hts (.fieldLink RX9 88 "TurnedFloors" "tapeLength" "I") f9_wsX9_row_451) (fun _ h9 => h9) rfl (by decide +kernel) rfl rfl (Nat.le_of_ble_eq_true rfl) dX9_row_103 (fun H locs hp hd hs => ?_)
    obtain ⟨q1, eq1, h⟩ := dL_some h
    refine kz_re (w2 := wF ty ad q1) hp hd hs (by rw [← eq1]; exact wF_f0_12 ty ad q 0) ?_
    clear hp hd hs hP hD hS
    intro hP hD hS
    refine lv_aload_n hx hb dX9_row_106 rfl (lv_at hl 0 rfl) ?_
    refine lv_iload_n hx hb dX9_row_107 rfl (lv_at hl 2 rfl) ?_
    refine va_put (D := D) (ci := 9) (v := .int x2) (ty := .int) (C := RX9) (T := TX9) (N := 19) hx hb hts u9_wsX9_row_X9 tyX9 tyX9_ok nmX9 hown hK hP hD hS 0 rfl rfl 14 (by decide) (hts (.fieldLink RX9 95 "TurnedFloors" "brickCount" "I") f9_wsX9_row_452) (fun _ h9 => h9) rfl (by decide +kernel) rfl rfl (Nat.le_of_ble_eq_true rfl) dX9_row_108 (fun H locs hp hd hs => ?_)
    obtain ⟨q2, eq2, h⟩ := dL_some h
    refine kz_re (w2 := wF ty ad q2) hp hd hs (by rw [← eq2]; exact wF_f0_14 ty ad q1 x2) ?_
    clear hp hd hs hP hD hS
    intro hP hD hS
    refine lv_aload_n hx hb dX9_row_111 rfl (lv_at hl 0 rfl) ?_
    refine va_get (D := D) (ci := 9) (v := .ref (ad 10)) (C := RX9) (T := TX9) (N := 19) hx hb hts u9_wsX9_row_X9 hown hK hP 0 rfl rfl 3 (by decide) (hts (.fieldLink RX9 27 "TurnedFloors" "history" "LTurnedFloors$History;") f9_wsX9_row_453) (fun _ h9 => h9) rfl dX9_row_112 ?_
    obtain ⟨q5, h4, h⟩ := dV_some h
    refine dw_kv (va_runV (As := []) (rest := []) ⟨hx, hb, hml, hown, hts⟩ (qX0_clear_s10 l D ty eo _ ad q2  q5 h4) (cwV 0 hts gX9_row_X0_clear rfl rfl rfl hd_X0_clear_v ⟨Nat.le_of_ble_eq_true rfl, Nat.le_of_ble_eq_true rfl⟩) (pvF_0_10 hK hN hE hP hD hS hA) rfl rfl hl.1 rfl (lv_room (Nat.le_of_ble_eq_true rfl)) dX9_row_115 ⟨Nat.le_of_ble_eq_true rfl, Nat.le_of_ble_eq_true rfl⟩) hD hS hA (fun u9 H locs hw hp hd hs => ?_)
    clear hP hD hS
    obtain rfl := hw
    have hP := hp; have hD := hd; have hS := hs; clear hp hd hs
    refine lv_aload_n hx hb dX9_row_118 rfl (lv_at hl 0 rfl) ?_
    refine lv_iload_n hx hb dX9_row_119 rfl (lv_at hl 1 rfl) ?_
    obtain ⟨r6, q8, h7, h⟩ := dB_some h
    refine dw_ki (va_runV (As := [.int x1]) (rest := []) ⟨hx, hb, hml, hown, hts⟩ (qX9_accept_s0 l D ty eo _ ad q5 x1 r6 q8 h7) (cwV 1 hts gX9_row_X9_accept rfl rfl rfl hd_X9_accept_v ⟨Nat.le_of_ble_eq_true rfl, Nat.le_of_ble_eq_true rfl⟩) (pvF_9_0 hK hN hE hP hD hS hA) rfl rfl hl.1 rfl (lv_room (Nat.le_of_ble_eq_true rfl)) dX9_row_120 ⟨Nat.le_of_ble_eq_true rfl, Nat.le_of_ble_eq_true rfl⟩) hD hS hA (fun r9 u9 H locs hw hp hd hs => ?_)
    clear hP hD hS
    obtain ⟨rfl, rfl⟩ := hw
    have hP := hp; have hD := hd; have hS := hs; clear hp hd hs
    cases h
    exact kz_iret hx hb hr hlocks hP hK hD hS dX9_row_123 ⟨rfl, rfl⟩
  · rw [if_neg c9] at h
    refine lv_iload_n hx hb dX9_row_28 rfl (lv_at hl 3 rfl) ?_
    refine lv_iconst (v := 1) hx hb dX9_row_29 (by decide) ?_
    refine lv_iadd hx hb dX9_row_30 ?_
    refine lv_aload_n hx hb dX9_row_31 rfl (lv_at hl 0 rfl) ?_
    refine va_get (D := D) (ci := 9) (v := .int (q.1 0 12)) (C := RX9) (T := TX9) (N := 19) hx hb hts u9_wsX9_row_X9 hown hK hP 0 rfl rfl 12 (by decide) (hts (.fieldLink RX9 88 "TurnedFloors" "tapeLength" "I") f9_wsX9_row_451) (fun _ h9 => h9) rfl dX9_row_32 ?_
    refine lv_icmp_ge (tgt := 92) hx hb dX9_row_35 (by decide) (fun c9 => ?_) (fun c9 => ?_)
    · rw [if_pos c9] at h
      exact WX9_row_s0_92 C0 hk20 _ _ _ _ _ _ _ h hP hD hS (lv_sub hl [0, 1, 2, 3] rfl)
    · rw [if_neg c9] at h
      refine lv_aload_n hx hb dX9_row_38 rfl (lv_at hl 0 rfl) ?_
      refine lv_aload_n hx hb dX9_row_39 rfl (lv_at hl 0 rfl) ?_
      refine va_get (D := D) (ci := 9) (v := .ref (ad 46)) (C := RX9) (T := TX9) (N := 19) hx hb hts u9_wsX9_row_X9 hown hK hP 0 rfl rfl 11 (by decide) (hts (.fieldLink RX9 84 "TurnedFloors" "tape" "[I") f9_wsX9_row_454) (fun _ h9 => h9) rfl dX9_row_40 ?_
      refine lv_iload_n hx hb dX9_row_43 rfl (lv_at hl 3 rfl) ?_
      obtain ⟨g9, h⟩ := dG_some h
      refine va_iald hx hb hK hP 46 0 rfl rfl (dg_in g9) dX9_row_44 ?_
      obtain ⟨v10, ev10, h⟩ := dL_some h
      refine kz_topi v10 ev10 ?_
      refine lv_aload_n hx hb dX9_row_45 rfl (lv_at hl 0 rfl) ?_
      refine va_get (D := D) (ci := 9) (v := .ref (ad 46)) (C := RX9) (T := TX9) (N := 19) hx hb hts u9_wsX9_row_X9 hown hK hP 0 rfl rfl 11 (by decide) (hts (.fieldLink RX9 84 "TurnedFloors" "tape" "[I") f9_wsX9_row_454) (fun _ h9 => h9) rfl dX9_row_46 ?_
      refine lv_iload_n hx hb dX9_row_49 rfl (lv_at hl 3 rfl) ?_
      refine lv_iconst (v := 1) hx hb dX9_row_50 (by decide) ?_
      refine lv_iadd hx hb dX9_row_51 ?_
      obtain ⟨g11, h⟩ := dG_some h
      refine va_iald hx hb hK hP 46 0 rfl rfl (dg_in g11) dX9_row_52 ?_
      obtain ⟨v12, ev12, h⟩ := dL_some h
      refine kz_topi v12 ev12 ?_
      obtain ⟨r13, q15, h14, h⟩ := dB_some h
      refine dw_ki (va_runV (As := [.int v10, .int v12]) (rest := []) ⟨hx, hb, hml, hown, hts⟩ (qX9_isNewFloor_s0 l D ty eo _ ad q v10 v12 r13 q15 h14) (cwV 2 hts gX9_row_X9_isNewFloor rfl rfl rfl hd_X9_isNewFloor_v ⟨Nat.le_of_ble_eq_true rfl, Nat.le_of_ble_eq_true rfl⟩) (pvF_9_0 hK hN hE hP hD hS hA) rfl rfl hl.1 rfl (lv_room (Nat.le_of_ble_eq_true rfl)) dX9_row_53 ⟨Nat.le_of_ble_eq_true rfl, Nat.le_of_ble_eq_true rfl⟩) hD hS hA (fun r9 u9 H locs hw hp hd hs => ?_)
      clear hP hD hS
      obtain ⟨rfl, rfl⟩ := hw
      have hP := hp; have hD := hd; have hS := hs; clear hp hd hs
      refine lv_if_eq (tgt := 92) hx hb dX9_row_56 (by decide) (fun c9 => ?_) (fun c9 => ?_)
      · rw [if_pos c9] at h
        exact WX9_row_s0_92 C0 hk20 _ _ _ _ _ _ _ h hP hD hS (lv_sub hl [0, 1, 2, 3] rfl)
      · rw [if_neg c9] at h
        refine lv_aload_n hx hb dX9_row_59 rfl (lv_at hl 0 rfl) ?_
        refine va_get (D := D) (ci := 9) (v := .ref (ad 1)) (C := RX9) (T := TX9) (N := 19) hx hb hts u9_wsX9_row_X9 hown hK hP 0 rfl rfl 0 (by decide) (hts (.fieldLink RX9 10 "TurnedFloors" "state" "LTurnedFloors$State;") f9_wsX9_row_455) (fun _ h9 => h9) rfl dX9_row_60 ?_
        refine va_getN (D := D) (ci := 6) (v := .ref (ad 2)) (C := RX6) (T := TX6) (N := 10) hx hb hts u9_wsX9_row_X6 hown hK hP 1 rfl rfl 0 (by decide) (hN.use (.fieldLinkNest "TurnedFloors" 122 "TurnedFloors$State" "tower" "LTurnedFloors$Tower;" "TurnedFloors") nn9_0) (fun _ h9 => h9) rfl dX9_row_63 ?_
        refine lv_aload_n hx hb dX9_row_66 rfl (lv_at hl 0 rfl) ?_
        refine va_get (D := D) (ci := 9) (v := .ref (ad 46)) (C := RX9) (T := TX9) (N := 19) hx hb hts u9_wsX9_row_X9 hown hK hP 0 rfl rfl 11 (by decide) (hts (.fieldLink RX9 84 "TurnedFloors" "tape" "[I") f9_wsX9_row_454) (fun _ h9 => h9) rfl dX9_row_67 ?_
        refine lv_iload_n hx hb dX9_row_70 rfl (lv_at hl 3 rfl) ?_
        obtain ⟨g16, h⟩ := dG_some h
        refine va_iald hx hb hK hP 46 0 rfl rfl (dg_in g16) dX9_row_71 ?_
        obtain ⟨v17, ev17, h⟩ := dL_some h
        refine kz_topi v17 ev17 ?_
        refine lv_aload_n hx hb dX9_row_72 rfl (lv_at hl 0 rfl) ?_
        refine va_get (D := D) (ci := 9) (v := .ref (ad 46)) (C := RX9) (T := TX9) (N := 19) hx hb hts u9_wsX9_row_X9 hown hK hP 0 rfl rfl 11 (by decide) (hts (.fieldLink RX9 84 "TurnedFloors" "tape" "[I") f9_wsX9_row_454) (fun _ h9 => h9) rfl dX9_row_73 ?_
        refine lv_iload_n hx hb dX9_row_76 rfl (lv_at hl 3 rfl) ?_
        refine lv_iconst (v := 1) hx hb dX9_row_77 (by decide) ?_
        refine lv_iadd hx hb dX9_row_78 ?_
        obtain ⟨g18, h⟩ := dG_some h
        refine va_iald hx hb hK hP 46 0 rfl rfl (dg_in g18) dX9_row_79 ?_
        obtain ⟨v19, ev19, h⟩ := dL_some h
        refine kz_topi v19 ev19 ?_
        obtain ⟨r20, q22, h21, h⟩ := dB_some h
        refine dw_ki (va_runV (As := [.int v17, .int v19]) (rest := []) ⟨hx, hb, hml, hown, hts⟩ (qX8_add_s2 l D ty eo _ ad q15 v17 v19 r20 q22 h21) (cwV 2 hts gX9_row_X8_add rfl rfl rfl hd_X8_add_v ⟨Nat.le_of_ble_eq_true rfl, Nat.le_of_ble_eq_true rfl⟩) (pvF_8_2 hK hN hE hP hD hS hA) rfl rfl hl.1 rfl (lv_room (Nat.le_of_ble_eq_true rfl)) dX9_row_80 ⟨Nat.le_of_ble_eq_true rfl, Nat.le_of_ble_eq_true rfl⟩) hD hS hA (fun r9 u9 H locs hw hp hd hs => ?_)
        clear hP hD hS
        obtain ⟨rfl, rfl⟩ := hw
        have hP := hp; have hD := hd; have hS := hs; clear hp hd hs
        refine lv_if_eq (tgt := 92) hx hb dX9_row_83 (by decide) (fun c9 => ?_) (fun c9 => ?_)
        · rw [if_pos c9] at h
          exact WX9_row_s0_92 C0 hk20 _ _ _ _ _ _ _ h hP hD hS (lv_sub hl [0, 1, 2, 3] rfl)
        · rw [if_neg c9] at h
          refine lv_iinc (v := x1 + 1) (lv' := [(1, .int (x1 + 1)), (0, .ref (ad 0)), (2, .int x2), (3, .int x3)]) hx hb dX9_row_86 hl (k := 1) rfl rfl (by decide) rfl (fun ls hl => ?_)
          refine lv_goto (tgt := 95) hx hb dX9_row_89 (by decide) ?_
          exact WX9_row_s0_95 C0 hk20 _ _ _ _ _ _ _ h hP hD hS (lv_sub hl [1, 0, 2, 3] rfl)
set_option maxHeartbeats 4000000 in
set_option maxRecDepth 100000 in
theorem WX9_row_s0_20 {p : Program} {l : Launch} {e : Env} {s : State} {m : MethodId} {args : Array Value} {below : List Frame} {meth : Method} {c : Code} {D : va_G} {ty : Nat → ClassId} {eo : Nat → Nat} {A : Nat → Prop} {ad : Nat → Nat} {o1 : Int32} {o2 : dK} (C : dc_C p s m args meth c cX9_row (some .int) 4 RX9 wsX9_row D ty eo A)   (n : Nat) (q : dK) (x1 : Int32) (x2 : Int32) (x3 : Int32) (H : Heap) (locs : List Loc) (ls : Array Slot) (h : zX9_row_s0_20  n q x1 x2 x3 = some (o1, o2)) (hP : va_P D vwCl (wF ty ad q) H) (hD : va_D A (wF ty ad q)) (hS : va_S A s.heap H locs) (hl : lv_has ls 4 [(0, .ref (ad 0)), (1, .int x1), (2, .int x2), (3, .int x3)]) : W p l e ({ frames := 2, cells := 0, slots := 0, locals := 44 } : Room) s m args below meth c H locs 0 0 (MQ below (va_Qi (fun (r : Int32) (u : va_W) => o1 = r ∧ wF ty ad o2 = u) (kz_B D ty A) A) args s 0 0 A) (F0 m 20 ls []) := by
  exact dFix_W (F := fun k (a : dK × Int32 × Int32 × Int32) => zX9_row_s0_20b  (fun q x1 x2 x3 => k (q, x1, x2, x3)) a.1 a.2.1 a.2.2.1 a.2.2.2) (o := (o1, o2)) (P := fun (a : dK × Int32 × Int32 × Int32) H locs ls => va_P D vwCl (wF ty ad a.1) H ∧ va_D A (wF ty ad a.1) ∧ va_S A s.heap H locs ∧ lv_has ls 4 [(0, .ref (ad 0)), (1, .int a.2.1), (2, .int a.2.2.1), (3, .int a.2.2.2)]) (G := fun H locs ls => W p l e ({ frames := 2, cells := 0, slots := 0, locals := 44 } : Room) s m args below meth c H locs 0 0 (MQ below (va_Qi (fun (r : Int32) (u : va_W) => o1 = r ∧ wF ty ad o2 = u) (kz_B D ty A) A) args s 0 0 A) (F0 m 20 ls []))
    (fun k hk a H locs ls h hp => WX9_row_s0_20b C  (fun q x1 x2 x3 H locs ls h h1 h2 h3 h4 => hk (q, x1, x2, x3) H locs ls h ⟨h1, h2, h3, h4⟩) a.1 a.2.1 a.2.2.1 a.2.2.2 H locs ls h hp.1 hp.2.1 hp.2.2.1 hp.2.2.2) n (q, x1, x2, x3) H locs ls h ⟨hP, hD, hS, hl⟩
set_option maxHeartbeats 4000000 in
set_option maxRecDepth 100000 in
theorem qX9_row_s0 (l : Launch) (D : va_G) (ty : Nat → ClassId) (eo : Nat → Nat) (sz : Nat) (ad : Nat → Nat) (q : dK)  (o1 : Int32) (o2 : dK) (h : zX9_row_s0 q = some (o1, o2)) : Met l yX9_row wsX9_row ({ frames := 2, cells := 0, slots := 0, locals := 44 } : Room) (va_Pc [.ref (ad 0)] (kz_pre D ty eo (wF ty ad q) sz)) (va_Qi (fun (r : Int32) (u : va_W) => o1 = r ∧ wF ty ad o2 = u) (kz_B D ty (va_A (wF ty ad q) sz)) (va_A (wF ty ad q) sz)) 0 0 (va_A (wF ty ad q) sz) := by
  refine Met.ofW (cc := cX9_row) (maxL := 4) (ret := (some .int)) (by decide) rfl ?_
  intro p e s m args below meth c s₁ B hml hv
  obtain ⟨rfl, hsz, hP, hK, hD0, hN, hE⟩ := hv
  have hx := B.exec
  have hb := B.bytes
  have hr := B.returns
  have hts := atoms_spec (ws := wsX9_row) B.pre
  have hown : s.vm.findClass RX9 = some m.cls := findClass_of_methodNamed B.named
  have hlocks := B.notSynchronized
  subst hsz
  have hD := hD0.self (sz := s.heap.size)
  generalize hAe : va_A (wF ty ad q) s.heap.size = A at hD hE ⊢
  have hA : ∀ q : Nat, s.heap.size ≤ q → A q := fun q h => by rw [← hAe]; exact Or.inr h
  clear hAe
  have hS : va_S A s.heap s.heap [] := va_S.rf
  have hl := lv_entry ([.ref (ad 0)]) (n := 4) (Nat.le_of_ble_eq_true rfl)
  rw [lg_entry_eq]
  generalize (lg_sl ([.ref (ad 0)]) ++ List.replicate (4 - (lg_sl ([.ref (ad 0)])).length) Slot.unset).toArray = ls at hl ⊢
  have hl : lv_has ls 4 [(0, .ref (ad 0))] := hl
  have C : dc_C p s m _ meth c cX9_row (some .int) 4 RX9 wsX9_row D ty eo A := ⟨hx, hb, hr, hts, hown, hlocks, hml, hK, hN, hE, hA⟩
  unfold zX9_row_s0 at h
  refine lv_aload_n hx hb dX9_row_0 rfl (lv_at hl 0 rfl) ?_
  refine va_get (D := D) (ci := 9) (v := .int (q.1 0 12)) (C := RX9) (T := TX9) (N := 19) hx hb hts u9_wsX9_row_X9 hown hK hP 0 rfl rfl 12 (by decide) (hts (.fieldLink RX9 88 "TurnedFloors" "tapeLength" "I") f9_wsX9_row_451) (fun _ h9 => h9) rfl dX9_row_1 ?_
  refine lv_if_ne (tgt := 14) hx hb dX9_row_4 (by decide) (fun c9 => ?_) (fun c9 => ?_)
  · rw [if_neg c9] at h
    refine lv_iconst (v := 0) hx hb dX9_row_14 (by decide) ?_
    refine lv_istore_n (lv' := [(1, .int 0), (0, .ref (ad 0))]) hx hb dX9_row_15 rfl hl (by decide) rfl (fun ls hl => ?_)
    refine lv_iconst (v := 0) hx hb dX9_row_16 (by decide) ?_
    refine lv_istore_n (lv' := [(2, .int 0), (1, .int 0), (0, .ref (ad 0))]) hx hb dX9_row_17 rfl hl (by decide) rfl (fun ls hl => ?_)
    refine lv_iconst (v := 0) hx hb dX9_row_18 (by decide) ?_
    refine lv_istore_n (lv' := [(3, .int 0), (2, .int 0), (1, .int 0), (0, .ref (ad 0))]) hx hb dX9_row_19 rfl hl (by decide) rfl (fun ls hl => ?_)
    exact WX9_row_s0_20 C  _ _ _ _ _ _ _ _ h hP hD hS (lv_sub hl [3, 2, 1, 0] rfl)
  · rw [if_pos c9] at h
    refine lv_aload_n hx hb dX9_row_7 rfl (lv_at hl 0 rfl) ?_
    refine lv_bipush (v := (-6)) hx hb dX9_row_8 (by decide) ?_
    obtain ⟨r1, q3, h2, h⟩ := dB_some h
    refine dw_ki (va_runV (As := [.int (-6)]) (rest := []) ⟨hx, hb, hml, hown, hts⟩ (qX9_refuse_s0 l D ty eo _ ad q (-6) r1 q3 h2) (cwV 1 hts gX9_row_X9_refuse rfl rfl rfl hd_X9_refuse_v ⟨Nat.le_of_ble_eq_true rfl, Nat.le_of_ble_eq_true rfl⟩) (pvF_9_0 hK hN hE hP hD hS hA) rfl rfl hl.1 rfl (lv_room (Nat.le_of_ble_eq_true rfl)) dX9_row_10 ⟨Nat.le_of_ble_eq_true rfl, Nat.le_of_ble_eq_true rfl⟩) hD hS hA (fun r9 u9 H locs hw hp hd hs => ?_)
    clear hP hD hS
    obtain ⟨rfl, rfl⟩ := hw
    have hP := hp; have hD := hd; have hS := hs; clear hp hd hs
    cases h
    exact kz_iret hx hb hr hlocks hP hK hD hS dX9_row_13 ⟨rfl, rfl⟩

set_option maxHeartbeats 4000000 in
set_option maxRecDepth 100000 in
theorem qX9_bricks_s0 (l : Launch) (D : va_G) (ty : Nat → ClassId) (eo : Nat → Nat) (sz : Nat) (ad : Nat → Nat) (q : dK)  (o1 : Int32) (o2 : dK) (h : zX9_bricks_s0 q = some (o1, o2)) : Met l yX9_bricks wsX9_bricks ({ frames := 0, cells := 0, slots := 0, locals := 0 } : Room) (va_Pc [.ref (ad 0)] (kz_pre D ty eo (wF ty ad q) sz)) (va_Qi (fun (r : Int32) (u : va_W) => o1 = r ∧ wF ty ad o2 = u) (kz_B D ty (va_A (wF ty ad q) sz)) (va_A (wF ty ad q) sz)) 0 0 (va_A (wF ty ad q) sz) := by
  refine Met.ofW (cc := cX9_bricks) (maxL := 1) (ret := (some .int)) (by decide) rfl ?_
  intro p e s m args below meth c s₁ B hml hv
  obtain ⟨rfl, hsz, hP, hK, hD0, hN, hE⟩ := hv
  have hx := B.exec
  have hb := B.bytes
  have hr := B.returns
  have hts := atoms_spec (ws := wsX9_bricks) B.pre
  have hown : s.vm.findClass RX9 = some m.cls := findClass_of_methodNamed B.named
  have hlocks := B.notSynchronized
  subst hsz
  have hD := hD0.self (sz := s.heap.size)
  generalize hAe : va_A (wF ty ad q) s.heap.size = A at hD hE ⊢
  have hA : ∀ q : Nat, s.heap.size ≤ q → A q := fun q h => by rw [← hAe]; exact Or.inr h
  clear hAe
  have hS : va_S A s.heap s.heap [] := va_S.rf
  have hl := lv_entry ([.ref (ad 0)]) (n := 1) (Nat.le_of_ble_eq_true rfl)
  rw [lg_entry_eq]
  generalize (lg_sl ([.ref (ad 0)]) ++ List.replicate (1 - (lg_sl ([.ref (ad 0)])).length) Slot.unset).toArray = ls at hl ⊢
  have hl : lv_has ls 1 [(0, .ref (ad 0))] := hl
  have C : dc_C p s m _ meth c cX9_bricks (some .int) 1 RX9 wsX9_bricks D ty eo A := ⟨hx, hb, hr, hts, hown, hlocks, hml, hK, hN, hE, hA⟩
  unfold zX9_bricks_s0 at h
  refine lv_aload_n hx hb dX9_bricks_0 rfl (lv_at hl 0 rfl) ?_
  refine va_get (D := D) (ci := 9) (v := .int (q.1 0 14)) (C := RX9) (T := TX9) (N := 19) hx hb hts u9_wsX9_bricks_X9 hown hK hP 0 rfl rfl 14 (by decide) (hts (.fieldLink RX9 95 "TurnedFloors" "brickCount" "I") f9_wsX9_bricks_457) (fun _ h9 => h9) rfl dX9_bricks_1 ?_
  cases h
  exact kz_iret hx hb hr hlocks hP hK hD hS dX9_bricks_4 ⟨rfl, rfl⟩
end
section
theorem da9_dX4_fail_0 : (decode cX4_fail 0 = .ok (.aload_n 0, 1)) ∧ (decode cX4_fail 1 = .ok (.getfield 45, 3)) ∧ (decode cX4_fail 4 = .ok (.iconst (-1), 1)) ∧ (decode cX4_fail 5 = .ok (.if_icmp .ne 11, 3)) ∧ (decode cX4_fail 8 = .ok (.aload_n 0, 1)) ∧ (decode cX4_fail 9 = .ok (.aload_n 0, 1)) ∧ (decode cX4_fail 10 = .ok (.getfield 30, 3)) ∧ (decode cX4_fail 13 = .ok (.putfield 45, 3)) ∧ (decode cX4_fail 16 = .ok (.return_, 1)) := by decide +kernel
theorem dX4_fail_0 : decode cX4_fail 0 = .ok (.aload_n 0, 1) := da9_dX4_fail_0.1
theorem dX4_fail_1 : decode cX4_fail 1 = .ok (.getfield 45, 3) := da9_dX4_fail_0.2.1
theorem dX4_fail_4 : decode cX4_fail 4 = .ok (.iconst (-1), 1) := da9_dX4_fail_0.2.2.1
theorem dX4_fail_5 : decode cX4_fail 5 = .ok (.if_icmp .ne 11, 3) := da9_dX4_fail_0.2.2.2.1
theorem dX4_fail_8 : decode cX4_fail 8 = .ok (.aload_n 0, 1) := da9_dX4_fail_0.2.2.2.2.1
theorem dX4_fail_9 : decode cX4_fail 9 = .ok (.aload_n 0, 1) := da9_dX4_fail_0.2.2.2.2.2.1
theorem dX4_fail_10 : decode cX4_fail 10 = .ok (.getfield 30, 3) := da9_dX4_fail_0.2.2.2.2.2.2.1
theorem dX4_fail_13 : decode cX4_fail 13 = .ok (.putfield 45, 3) := da9_dX4_fail_0.2.2.2.2.2.2.2.1
theorem dX4_fail_16 : decode cX4_fail 16 = .ok (.return_, 1) := da9_dX4_fail_0.2.2.2.2.2.2.2.2
set_option maxRecDepth 20000 in
theorem ggX4_step_X4_tokenOf : GoodIn wsX4_step wsX4_tokenOf := wd_c vW9_ok mvW9_187
set_option maxRecDepth 20000 in
theorem gX4_step_X4_tokenOf : GoodIn wsX4_step (va_wsS RX4 163 yX4_tokenOf wsX4_tokenOf) := goodIn_app (wd_l vW9_ok _ pvW9_59) ggX4_step_X4_tokenOf
theorem da9_dX4_step_0 : (decode cX4_step 0 = .ok (.aload_n 0, 1)) ∧ (decode cX4_step 1 = .ok (.getfield 45, 3)) ∧ (decode cX4_step 4 = .ok (.iconst (-1), 1)) ∧ (decode cX4_step 5 = .ok (.if_icmp .eq 4, 3)) ∧ (decode cX4_step 8 = .ok (.return_, 1)) ∧ (decode cX4_step 9 = .ok (.aload_n 0, 1)) ∧ (decode cX4_step 10 = .ok (.aload_n 0, 1)) ∧ (decode cX4_step 11 = .ok (.getfield 33, 3)) ∧ (decode cX4_step 14 = .ok (.putfield 30, 3)) ∧ (decode cX4_step 17 = .ok (.aload_n 0, 1)) ∧ (decode cX4_step 18 = .ok (.getfield 30, 3)) ∧ (decode cX4_step 21 = .ok (.aload_n 0, 1)) ∧ (decode cX4_step 22 = .ok (.getfield 15, 3)) ∧ (decode cX4_step 25 = .ok (.if_icmp .ge 30, 3)) ∧ (decode cX4_step 28 = .ok (.aload_n 0, 1)) ∧ (decode cX4_step 29 = .ok (.getfield 9, 3)) := by decide +kernel
theorem dX4_step_0 : decode cX4_step 0 = .ok (.aload_n 0, 1) := da9_dX4_step_0.1
theorem dX4_step_1 : decode cX4_step 1 = .ok (.getfield 45, 3) := da9_dX4_step_0.2.1
theorem dX4_step_4 : decode cX4_step 4 = .ok (.iconst (-1), 1) := da9_dX4_step_0.2.2.1
theorem dX4_step_5 : decode cX4_step 5 = .ok (.if_icmp .eq 4, 3) := da9_dX4_step_0.2.2.2.1
theorem dX4_step_8 : decode cX4_step 8 = .ok (.return_, 1) := da9_dX4_step_0.2.2.2.2.1
theorem dX4_step_9 : decode cX4_step 9 = .ok (.aload_n 0, 1) := da9_dX4_step_0.2.2.2.2.2.1
theorem dX4_step_10 : decode cX4_step 10 = .ok (.aload_n 0, 1) := da9_dX4_step_0.2.2.2.2.2.2.1
theorem dX4_step_11 : decode cX4_step 11 = .ok (.getfield 33, 3) := da9_dX4_step_0.2.2.2.2.2.2.2.1
theorem dX4_step_14 : decode cX4_step 14 = .ok (.putfield 30, 3) := da9_dX4_step_0.2.2.2.2.2.2.2.2.1
theorem dX4_step_17 : decode cX4_step 17 = .ok (.aload_n 0, 1) := da9_dX4_step_0.2.2.2.2.2.2.2.2.2.1
theorem dX4_step_18 : decode cX4_step 18 = .ok (.getfield 30, 3) := da9_dX4_step_0.2.2.2.2.2.2.2.2.2.2.1
theorem dX4_step_21 : decode cX4_step 21 = .ok (.aload_n 0, 1) := da9_dX4_step_0.2.2.2.2.2.2.2.2.2.2.2.1
theorem dX4_step_22 : decode cX4_step 22 = .ok (.getfield 15, 3) := da9_dX4_step_0.2.2.2.2.2.2.2.2.2.2.2.2.1
theorem dX4_step_25 : decode cX4_step 25 = .ok (.if_icmp .ge 30, 3) := da9_dX4_step_0.2.2.2.2.2.2.2.2.2.2.2.2.2.1
theorem dX4_step_28 : decode cX4_step 28 = .ok (.aload_n 0, 1) := da9_dX4_step_0.2.2.2.2.2.2.2.2.2.2.2.2.2.2.1
theorem dX4_step_29 : decode cX4_step 29 = .ok (.getfield 9, 3) := da9_dX4_step_0.2.2.2.2.2.2.2.2.2.2.2.2.2.2.2
theorem da9_dX4_step_32 : (decode cX4_step 32 = .ok (.aload_n 0, 1)) ∧ (decode cX4_step 33 = .ok (.getfield 30, 3)) ∧ (decode cX4_step 36 = .ok (.iaload, 1)) ∧ (decode cX4_step 37 = .ok (.bipush 32, 2)) ∧ (decode cX4_step 39 = .ok (.if_icmp .ne 16, 3)) ∧ (decode cX4_step 42 = .ok (.aload_n 0, 1)) ∧ (decode cX4_step 43 = .ok (.dup, 1)) ∧ (decode cX4_step 44 = .ok (.getfield 30, 3)) ∧ (decode cX4_step 47 = .ok (.iconst 1, 1)) ∧ (decode cX4_step 48 = .ok (.iadd, 1)) ∧ (decode cX4_step 49 = .ok (.putfield 30, 3)) ∧ (decode cX4_step 52 = .ok (.goto (-35), 3)) ∧ (decode cX4_step 55 = .ok (.aload_n 0, 1)) ∧ (decode cX4_step 56 = .ok (.aload_n 0, 1)) ∧ (decode cX4_step 57 = .ok (.getfield 30, 3)) ∧ (decode cX4_step 60 = .ok (.putfield 33, 3)) := by decide +kernel
theorem dX4_step_32 : decode cX4_step 32 = .ok (.aload_n 0, 1) := da9_dX4_step_32.1
theorem dX4_step_33 : decode cX4_step 33 = .ok (.getfield 30, 3) := da9_dX4_step_32.2.1
theorem dX4_step_36 : decode cX4_step 36 = .ok (.iaload, 1) := da9_dX4_step_32.2.2.1
theorem dX4_step_37 : decode cX4_step 37 = .ok (.bipush 32, 2) := da9_dX4_step_32.2.2.2.1
theorem dX4_step_39 : decode cX4_step 39 = .ok (.if_icmp .ne 16, 3) := da9_dX4_step_32.2.2.2.2.1
theorem dX4_step_42 : decode cX4_step 42 = .ok (.aload_n 0, 1) := da9_dX4_step_32.2.2.2.2.2.1
theorem dX4_step_43 : decode cX4_step 43 = .ok (.dup, 1) := da9_dX4_step_32.2.2.2.2.2.2.1
theorem dX4_step_44 : decode cX4_step 44 = .ok (.getfield 30, 3) := da9_dX4_step_32.2.2.2.2.2.2.2.1
theorem dX4_step_47 : decode cX4_step 47 = .ok (.iconst 1, 1) := da9_dX4_step_32.2.2.2.2.2.2.2.2.1
theorem dX4_step_48 : decode cX4_step 48 = .ok (.iadd, 1) := da9_dX4_step_32.2.2.2.2.2.2.2.2.2.1
theorem dX4_step_49 : decode cX4_step 49 = .ok (.putfield 30, 3) := da9_dX4_step_32.2.2.2.2.2.2.2.2.2.2.1
theorem dX4_step_52 : decode cX4_step 52 = .ok (.goto (-35), 3) := da9_dX4_step_32.2.2.2.2.2.2.2.2.2.2.2.1
theorem dX4_step_55 : decode cX4_step 55 = .ok (.aload_n 0, 1) := da9_dX4_step_32.2.2.2.2.2.2.2.2.2.2.2.2.1
theorem dX4_step_56 : decode cX4_step 56 = .ok (.aload_n 0, 1) := da9_dX4_step_32.2.2.2.2.2.2.2.2.2.2.2.2.2.1
theorem dX4_step_57 : decode cX4_step 57 = .ok (.getfield 30, 3) := da9_dX4_step_32.2.2.2.2.2.2.2.2.2.2.2.2.2.2.1
theorem dX4_step_60 : decode cX4_step 60 = .ok (.putfield 33, 3) := da9_dX4_step_32.2.2.2.2.2.2.2.2.2.2.2.2.2.2.2
theorem da9_dX4_step_63 : (decode cX4_step 63 = .ok (.aload_n 0, 1)) ∧ (decode cX4_step 64 = .ok (.iconst 0, 1)) ∧ (decode cX4_step 65 = .ok (.putfield 36, 3)) ∧ (decode cX4_step 68 = .ok (.aload_n 0, 1)) ∧ (decode cX4_step 69 = .ok (.iconst 0, 1)) ∧ (decode cX4_step 70 = .ok (.putfield 27, 3)) ∧ (decode cX4_step 73 = .ok (.aload_n 0, 1)) ∧ (decode cX4_step 74 = .ok (.getfield 30, 3)) ∧ (decode cX4_step 77 = .ok (.aload_n 0, 1)) ∧ (decode cX4_step 78 = .ok (.getfield 15, 3)) ∧ (decode cX4_step 81 = .ok (.if_icmp .lt 4, 3)) ∧ (decode cX4_step 84 = .ok (.return_, 1)) ∧ (decode cX4_step 85 = .ok (.aload_n 0, 1)) ∧ (decode cX4_step 86 = .ok (.aload_n 0, 1)) ∧ (decode cX4_step 87 = .ok (.getfield 9, 3)) ∧ (decode cX4_step 90 = .ok (.aload_n 0, 1)) := by decide +kernel
theorem dX4_step_63 : decode cX4_step 63 = .ok (.aload_n 0, 1) := da9_dX4_step_63.1
theorem dX4_step_64 : decode cX4_step 64 = .ok (.iconst 0, 1) := da9_dX4_step_63.2.1
theorem dX4_step_65 : decode cX4_step 65 = .ok (.putfield 36, 3) := da9_dX4_step_63.2.2.1
theorem dX4_step_68 : decode cX4_step 68 = .ok (.aload_n 0, 1) := da9_dX4_step_63.2.2.2.1
theorem dX4_step_69 : decode cX4_step 69 = .ok (.iconst 0, 1) := da9_dX4_step_63.2.2.2.2.1
theorem dX4_step_70 : decode cX4_step 70 = .ok (.putfield 27, 3) := da9_dX4_step_63.2.2.2.2.2.1
theorem dX4_step_73 : decode cX4_step 73 = .ok (.aload_n 0, 1) := da9_dX4_step_63.2.2.2.2.2.2.1
theorem dX4_step_74 : decode cX4_step 74 = .ok (.getfield 30, 3) := da9_dX4_step_63.2.2.2.2.2.2.2.1
theorem dX4_step_77 : decode cX4_step 77 = .ok (.aload_n 0, 1) := da9_dX4_step_63.2.2.2.2.2.2.2.2.1
theorem dX4_step_78 : decode cX4_step 78 = .ok (.getfield 15, 3) := da9_dX4_step_63.2.2.2.2.2.2.2.2.2.1
theorem dX4_step_81 : decode cX4_step 81 = .ok (.if_icmp .lt 4, 3) := da9_dX4_step_63.2.2.2.2.2.2.2.2.2.2.1
theorem dX4_step_84 : decode cX4_step 84 = .ok (.return_, 1) := da9_dX4_step_63.2.2.2.2.2.2.2.2.2.2.2.1
theorem dX4_step_85 : decode cX4_step 85 = .ok (.aload_n 0, 1) := da9_dX4_step_63.2.2.2.2.2.2.2.2.2.2.2.2.1
theorem dX4_step_86 : decode cX4_step 86 = .ok (.aload_n 0, 1) := da9_dX4_step_63.2.2.2.2.2.2.2.2.2.2.2.2.2.1
theorem dX4_step_87 : decode cX4_step 87 = .ok (.getfield 9, 3) := da9_dX4_step_63.2.2.2.2.2.2.2.2.2.2.2.2.2.2.1
theorem dX4_step_90 : decode cX4_step 90 = .ok (.aload_n 0, 1) := da9_dX4_step_63.2.2.2.2.2.2.2.2.2.2.2.2.2.2.2
theorem da9_dX4_step_91 : (decode cX4_step 91 = .ok (.getfield 30, 3)) ∧ (decode cX4_step 94 = .ok (.iaload, 1)) ∧ (decode cX4_step 95 = .ok (.invokestatic 163, 3)) ∧ (decode cX4_step 98 = .ok (.putfield 27, 3)) ∧ (decode cX4_step 101 = .ok (.aload_n 0, 1)) ∧ (decode cX4_step 102 = .ok (.dup, 1)) ∧ (decode cX4_step 103 = .ok (.getfield 33, 3)) ∧ (decode cX4_step 106 = .ok (.iconst 1, 1)) ∧ (decode cX4_step 107 = .ok (.iadd, 1)) ∧ (decode cX4_step 108 = .ok (.putfield 33, 3)) ∧ (decode cX4_step 111 = .ok (.aload_n 0, 1)) ∧ (decode cX4_step 112 = .ok (.getfield 33, 3)) ∧ (decode cX4_step 115 = .ok (.aload_n 0, 1)) ∧ (decode cX4_step 116 = .ok (.getfield 15, 3)) ∧ (decode cX4_step 119 = .ok (.if_icmp .ge 43, 3)) ∧ (decode cX4_step 122 = .ok (.aload_n 0, 1)) := by decide +kernel
theorem dX4_step_91 : decode cX4_step 91 = .ok (.getfield 30, 3) := da9_dX4_step_91.1
theorem dX4_step_94 : decode cX4_step 94 = .ok (.iaload, 1) := da9_dX4_step_91.2.1
theorem dX4_step_95 : decode cX4_step 95 = .ok (.invokestatic 163, 3) := da9_dX4_step_91.2.2.1
theorem dX4_step_98 : decode cX4_step 98 = .ok (.putfield 27, 3) := da9_dX4_step_91.2.2.2.1
theorem dX4_step_101 : decode cX4_step 101 = .ok (.aload_n 0, 1) := da9_dX4_step_91.2.2.2.2.1
theorem dX4_step_102 : decode cX4_step 102 = .ok (.dup, 1) := da9_dX4_step_91.2.2.2.2.2.1
theorem dX4_step_103 : decode cX4_step 103 = .ok (.getfield 33, 3) := da9_dX4_step_91.2.2.2.2.2.2.1
theorem dX4_step_106 : decode cX4_step 106 = .ok (.iconst 1, 1) := da9_dX4_step_91.2.2.2.2.2.2.2.1
theorem dX4_step_107 : decode cX4_step 107 = .ok (.iadd, 1) := da9_dX4_step_91.2.2.2.2.2.2.2.2.1
theorem dX4_step_108 : decode cX4_step 108 = .ok (.putfield 33, 3) := da9_dX4_step_91.2.2.2.2.2.2.2.2.2.1
theorem dX4_step_111 : decode cX4_step 111 = .ok (.aload_n 0, 1) := da9_dX4_step_91.2.2.2.2.2.2.2.2.2.2.1
theorem dX4_step_112 : decode cX4_step 112 = .ok (.getfield 33, 3) := da9_dX4_step_91.2.2.2.2.2.2.2.2.2.2.2.1
theorem dX4_step_115 : decode cX4_step 115 = .ok (.aload_n 0, 1) := da9_dX4_step_91.2.2.2.2.2.2.2.2.2.2.2.2.1
theorem dX4_step_116 : decode cX4_step 116 = .ok (.getfield 15, 3) := da9_dX4_step_91.2.2.2.2.2.2.2.2.2.2.2.2.2.1
theorem dX4_step_119 : decode cX4_step 119 = .ok (.if_icmp .ge 43, 3) := da9_dX4_step_91.2.2.2.2.2.2.2.2.2.2.2.2.2.2.1
theorem dX4_step_122 : decode cX4_step 122 = .ok (.aload_n 0, 1) := da9_dX4_step_91.2.2.2.2.2.2.2.2.2.2.2.2.2.2.2
theorem da9_dX4_step_123 : (decode cX4_step 123 = .ok (.getfield 27, 3)) ∧ (decode cX4_step 126 = .ok (.iconst 3, 1)) ∧ (decode cX4_step 127 = .ok (.if_icmp .eq 35, 3)) ∧ (decode cX4_step 130 = .ok (.aload_n 0, 1)) ∧ (decode cX4_step 131 = .ok (.getfield 9, 3)) ∧ (decode cX4_step 134 = .ok (.aload_n 0, 1)) ∧ (decode cX4_step 135 = .ok (.getfield 33, 3)) ∧ (decode cX4_step 138 = .ok (.iaload, 1)) ∧ (decode cX4_step 139 = .ok (.invokestatic 163, 3)) ∧ (decode cX4_step 142 = .ok (.aload_n 0, 1)) ∧ (decode cX4_step 143 = .ok (.getfield 27, 3)) ∧ (decode cX4_step 146 = .ok (.if_icmp .ne 16, 3)) ∧ (decode cX4_step 149 = .ok (.aload_n 0, 1)) ∧ (decode cX4_step 150 = .ok (.dup, 1)) ∧ (decode cX4_step 151 = .ok (.getfield 33, 3)) ∧ (decode cX4_step 154 = .ok (.iconst 1, 1)) := by decide +kernel
theorem dX4_step_123 : decode cX4_step 123 = .ok (.getfield 27, 3) := da9_dX4_step_123.1
theorem dX4_step_126 : decode cX4_step 126 = .ok (.iconst 3, 1) := da9_dX4_step_123.2.1
theorem dX4_step_127 : decode cX4_step 127 = .ok (.if_icmp .eq 35, 3) := da9_dX4_step_123.2.2.1
theorem dX4_step_130 : decode cX4_step 130 = .ok (.aload_n 0, 1) := da9_dX4_step_123.2.2.2.1
theorem dX4_step_131 : decode cX4_step 131 = .ok (.getfield 9, 3) := da9_dX4_step_123.2.2.2.2.1
theorem dX4_step_134 : decode cX4_step 134 = .ok (.aload_n 0, 1) := da9_dX4_step_123.2.2.2.2.2.1
theorem dX4_step_135 : decode cX4_step 135 = .ok (.getfield 33, 3) := da9_dX4_step_123.2.2.2.2.2.2.1
theorem dX4_step_138 : decode cX4_step 138 = .ok (.iaload, 1) := da9_dX4_step_123.2.2.2.2.2.2.2.1
theorem dX4_step_139 : decode cX4_step 139 = .ok (.invokestatic 163, 3) := da9_dX4_step_123.2.2.2.2.2.2.2.2.1
theorem dX4_step_142 : decode cX4_step 142 = .ok (.aload_n 0, 1) := da9_dX4_step_123.2.2.2.2.2.2.2.2.2.1
theorem dX4_step_143 : decode cX4_step 143 = .ok (.getfield 27, 3) := da9_dX4_step_123.2.2.2.2.2.2.2.2.2.2.1
theorem dX4_step_146 : decode cX4_step 146 = .ok (.if_icmp .ne 16, 3) := da9_dX4_step_123.2.2.2.2.2.2.2.2.2.2.2.1
theorem dX4_step_149 : decode cX4_step 149 = .ok (.aload_n 0, 1) := da9_dX4_step_123.2.2.2.2.2.2.2.2.2.2.2.2.1
theorem dX4_step_150 : decode cX4_step 150 = .ok (.dup, 1) := da9_dX4_step_123.2.2.2.2.2.2.2.2.2.2.2.2.2.1
theorem dX4_step_151 : decode cX4_step 151 = .ok (.getfield 33, 3) := da9_dX4_step_123.2.2.2.2.2.2.2.2.2.2.2.2.2.2.1
theorem dX4_step_154 : decode cX4_step 154 = .ok (.iconst 1, 1) := da9_dX4_step_123.2.2.2.2.2.2.2.2.2.2.2.2.2.2.2
theorem da9_dX4_step_155 : (decode cX4_step 155 = .ok (.iadd, 1)) ∧ (decode cX4_step 156 = .ok (.putfield 33, 3)) ∧ (decode cX4_step 159 = .ok (.goto (-48), 3)) ∧ (decode cX4_step 162 = .ok (.aload_n 0, 1)) ∧ (decode cX4_step 163 = .ok (.getfield 30, 3)) ∧ (decode cX4_step 166 = .ok (.istore_n 1, 1)) ∧ (decode cX4_step 167 = .ok (.iload_n 1, 1)) ∧ (decode cX4_step 168 = .ok (.aload_n 0, 1)) ∧ (decode cX4_step 169 = .ok (.getfield 33, 3)) ∧ (decode cX4_step 172 = .ok (.if_icmp .ge 44, 3)) ∧ (decode cX4_step 175 = .ok (.aload_n 0, 1)) ∧ (decode cX4_step 176 = .ok (.getfield 27, 3)) ∧ (decode cX4_step 179 = .ok (.iconst 2, 1)) ∧ (decode cX4_step 180 = .ok (.if_icmp .ne 36, 3)) ∧ (decode cX4_step 183 = .ok (.aload_n 0, 1)) ∧ (decode cX4_step 184 = .ok (.sipush 1001, 3)) := by decide +kernel
theorem dX4_step_155 : decode cX4_step 155 = .ok (.iadd, 1) := da9_dX4_step_155.1
theorem dX4_step_156 : decode cX4_step 156 = .ok (.putfield 33, 3) := da9_dX4_step_155.2.1
theorem dX4_step_159 : decode cX4_step 159 = .ok (.goto (-48), 3) := da9_dX4_step_155.2.2.1
theorem dX4_step_162 : decode cX4_step 162 = .ok (.aload_n 0, 1) := da9_dX4_step_155.2.2.2.1
theorem dX4_step_163 : decode cX4_step 163 = .ok (.getfield 30, 3) := da9_dX4_step_155.2.2.2.2.1
theorem dX4_step_166 : decode cX4_step 166 = .ok (.istore_n 1, 1) := da9_dX4_step_155.2.2.2.2.2.1
theorem dX4_step_167 : decode cX4_step 167 = .ok (.iload_n 1, 1) := da9_dX4_step_155.2.2.2.2.2.2.1
theorem dX4_step_168 : decode cX4_step 168 = .ok (.aload_n 0, 1) := da9_dX4_step_155.2.2.2.2.2.2.2.1
theorem dX4_step_169 : decode cX4_step 169 = .ok (.getfield 33, 3) := da9_dX4_step_155.2.2.2.2.2.2.2.2.1
theorem dX4_step_172 : decode cX4_step 172 = .ok (.if_icmp .ge 44, 3) := da9_dX4_step_155.2.2.2.2.2.2.2.2.2.1
theorem dX4_step_175 : decode cX4_step 175 = .ok (.aload_n 0, 1) := da9_dX4_step_155.2.2.2.2.2.2.2.2.2.2.1
theorem dX4_step_176 : decode cX4_step 176 = .ok (.getfield 27, 3) := da9_dX4_step_155.2.2.2.2.2.2.2.2.2.2.2.1
theorem dX4_step_179 : decode cX4_step 179 = .ok (.iconst 2, 1) := da9_dX4_step_155.2.2.2.2.2.2.2.2.2.2.2.2.1
theorem dX4_step_180 : decode cX4_step 180 = .ok (.if_icmp .ne 36, 3) := da9_dX4_step_155.2.2.2.2.2.2.2.2.2.2.2.2.2.1
theorem dX4_step_183 : decode cX4_step 183 = .ok (.aload_n 0, 1) := da9_dX4_step_155.2.2.2.2.2.2.2.2.2.2.2.2.2.2.1
theorem dX4_step_184 : decode cX4_step 184 = .ok (.sipush 1001, 3) := da9_dX4_step_155.2.2.2.2.2.2.2.2.2.2.2.2.2.2.2
theorem da9_dX4_step_187 : (decode cX4_step 187 = .ok (.aload_n 0, 1)) ∧ (decode cX4_step 188 = .ok (.getfield 36, 3)) ∧ (decode cX4_step 191 = .ok (.bipush 10, 2)) ∧ (decode cX4_step 193 = .ok (.imul, 1)) ∧ (decode cX4_step 194 = .ok (.aload_n 0, 1)) ∧ (decode cX4_step 195 = .ok (.getfield 9, 3)) ∧ (decode cX4_step 198 = .ok (.iload_n 1, 1)) ∧ (decode cX4_step 199 = .ok (.iaload, 1)) ∧ (decode cX4_step 200 = .ok (.iadd, 1)) ∧ (decode cX4_step 201 = .ok (.bipush 48, 2)) ∧ (decode cX4_step 203 = .ok (.isub, 1)) ∧ (decode cX4_step 204 = .ok (.invokestatic 48, 3)) ∧ (decode cX4_step 207 = .ok (.putfield 36, 3)) ∧ (decode cX4_step 210 = .ok (.iinc 1 1, 3)) ∧ (decode cX4_step 213 = .ok (.goto (-46), 3)) ∧ (decode cX4_step 216 = .ok (.return_, 1)) := by decide +kernel
theorem dX4_step_187 : decode cX4_step 187 = .ok (.aload_n 0, 1) := da9_dX4_step_187.1
theorem dX4_step_188 : decode cX4_step 188 = .ok (.getfield 36, 3) := da9_dX4_step_187.2.1
theorem dX4_step_191 : decode cX4_step 191 = .ok (.bipush 10, 2) := da9_dX4_step_187.2.2.1
theorem dX4_step_193 : decode cX4_step 193 = .ok (.imul, 1) := da9_dX4_step_187.2.2.2.1
theorem dX4_step_194 : decode cX4_step 194 = .ok (.aload_n 0, 1) := da9_dX4_step_187.2.2.2.2.1
theorem dX4_step_195 : decode cX4_step 195 = .ok (.getfield 9, 3) := da9_dX4_step_187.2.2.2.2.2.1
theorem dX4_step_198 : decode cX4_step 198 = .ok (.iload_n 1, 1) := da9_dX4_step_187.2.2.2.2.2.2.1
theorem dX4_step_199 : decode cX4_step 199 = .ok (.iaload, 1) := da9_dX4_step_187.2.2.2.2.2.2.2.1
theorem dX4_step_200 : decode cX4_step 200 = .ok (.iadd, 1) := da9_dX4_step_187.2.2.2.2.2.2.2.2.1
theorem dX4_step_201 : decode cX4_step 201 = .ok (.bipush 48, 2) := da9_dX4_step_187.2.2.2.2.2.2.2.2.2.1
theorem dX4_step_203 : decode cX4_step 203 = .ok (.isub, 1) := da9_dX4_step_187.2.2.2.2.2.2.2.2.2.2.1
theorem dX4_step_204 : decode cX4_step 204 = .ok (.invokestatic 48, 3) := da9_dX4_step_187.2.2.2.2.2.2.2.2.2.2.2.1
theorem dX4_step_207 : decode cX4_step 207 = .ok (.putfield 36, 3) := da9_dX4_step_187.2.2.2.2.2.2.2.2.2.2.2.2.1
theorem dX4_step_210 : decode cX4_step 210 = .ok (.iinc 1 1, 3) := da9_dX4_step_187.2.2.2.2.2.2.2.2.2.2.2.2.2.1
theorem dX4_step_213 : decode cX4_step 213 = .ok (.goto (-46), 3) := da9_dX4_step_187.2.2.2.2.2.2.2.2.2.2.2.2.2.2.1
theorem dX4_step_216 : decode cX4_step 216 = .ok (.return_, 1) := da9_dX4_step_187.2.2.2.2.2.2.2.2.2.2.2.2.2.2.2
theorem da9_dX4_tokenOf_0 : (decode cX4_tokenOf 0 = .ok (.iload_n 0, 1)) ∧ (decode cX4_tokenOf 1 = .ok (.bipush 97, 2)) ∧ (decode cX4_tokenOf 3 = .ok (.if_icmp .lt 11, 3)) ∧ (decode cX4_tokenOf 6 = .ok (.iload_n 0, 1)) ∧ (decode cX4_tokenOf 7 = .ok (.bipush 122, 2)) ∧ (decode cX4_tokenOf 9 = .ok (.if_icmp .gt 5, 3)) ∧ (decode cX4_tokenOf 12 = .ok (.iconst 1, 1)) ∧ (decode cX4_tokenOf 13 = .ok (.ireturn, 1)) ∧ (decode cX4_tokenOf 14 = .ok (.iload_n 0, 1)) ∧ (decode cX4_tokenOf 15 = .ok (.bipush 48, 2)) ∧ (decode cX4_tokenOf 17 = .ok (.if_icmp .lt 13, 3)) ∧ (decode cX4_tokenOf 20 = .ok (.iload_n 0, 1)) ∧ (decode cX4_tokenOf 21 = .ok (.bipush 57, 2)) ∧ (decode cX4_tokenOf 23 = .ok (.if_icmp .gt 7, 3)) ∧ (decode cX4_tokenOf 26 = .ok (.iconst 2, 1)) ∧ (decode cX4_tokenOf 27 = .ok (.goto 4, 3)) := by decide +kernel
theorem dX4_tokenOf_0 : decode cX4_tokenOf 0 = .ok (.iload_n 0, 1) := da9_dX4_tokenOf_0.1
theorem dX4_tokenOf_1 : decode cX4_tokenOf 1 = .ok (.bipush 97, 2) := da9_dX4_tokenOf_0.2.1
theorem dX4_tokenOf_3 : decode cX4_tokenOf 3 = .ok (.if_icmp .lt 11, 3) := da9_dX4_tokenOf_0.2.2.1
theorem dX4_tokenOf_6 : decode cX4_tokenOf 6 = .ok (.iload_n 0, 1) := da9_dX4_tokenOf_0.2.2.2.1
theorem dX4_tokenOf_7 : decode cX4_tokenOf 7 = .ok (.bipush 122, 2) := da9_dX4_tokenOf_0.2.2.2.2.1
theorem dX4_tokenOf_9 : decode cX4_tokenOf 9 = .ok (.if_icmp .gt 5, 3) := da9_dX4_tokenOf_0.2.2.2.2.2.1
theorem dX4_tokenOf_12 : decode cX4_tokenOf 12 = .ok (.iconst 1, 1) := da9_dX4_tokenOf_0.2.2.2.2.2.2.1
theorem dX4_tokenOf_13 : decode cX4_tokenOf 13 = .ok (.ireturn, 1) := da9_dX4_tokenOf_0.2.2.2.2.2.2.2.1
theorem dX4_tokenOf_14 : decode cX4_tokenOf 14 = .ok (.iload_n 0, 1) := da9_dX4_tokenOf_0.2.2.2.2.2.2.2.2.1
theorem dX4_tokenOf_15 : decode cX4_tokenOf 15 = .ok (.bipush 48, 2) := da9_dX4_tokenOf_0.2.2.2.2.2.2.2.2.2.1
theorem dX4_tokenOf_17 : decode cX4_tokenOf 17 = .ok (.if_icmp .lt 13, 3) := da9_dX4_tokenOf_0.2.2.2.2.2.2.2.2.2.2.1
theorem dX4_tokenOf_20 : decode cX4_tokenOf 20 = .ok (.iload_n 0, 1) := da9_dX4_tokenOf_0.2.2.2.2.2.2.2.2.2.2.2.1
theorem dX4_tokenOf_21 : decode cX4_tokenOf 21 = .ok (.bipush 57, 2) := da9_dX4_tokenOf_0.2.2.2.2.2.2.2.2.2.2.2.2.1
theorem dX4_tokenOf_23 : decode cX4_tokenOf 23 = .ok (.if_icmp .gt 7, 3) := da9_dX4_tokenOf_0.2.2.2.2.2.2.2.2.2.2.2.2.2.1
theorem dX4_tokenOf_26 : decode cX4_tokenOf 26 = .ok (.iconst 2, 1) := da9_dX4_tokenOf_0.2.2.2.2.2.2.2.2.2.2.2.2.2.2.1
theorem dX4_tokenOf_27 : decode cX4_tokenOf 27 = .ok (.goto 4, 3) := da9_dX4_tokenOf_0.2.2.2.2.2.2.2.2.2.2.2.2.2.2.2
theorem da9_dX4_tokenOf_30 : (decode cX4_tokenOf 30 = .ok (.iconst 3, 1)) ∧ (decode cX4_tokenOf 31 = .ok (.ireturn, 1)) := by decide +kernel
theorem dX4_tokenOf_30 : decode cX4_tokenOf 30 = .ok (.iconst 3, 1) := da9_dX4_tokenOf_30.1
theorem dX4_tokenOf_31 : decode cX4_tokenOf 31 = .ok (.ireturn, 1) := da9_dX4_tokenOf_30.2
set_option maxRecDepth 20000 in
theorem ggX4_wordIn_J0_length_8abf5 : GoodIn wsX4_wordIn wsJ0_length_8abf5 := wd_l vW9_ok _ (List.forall_mem_cons.mpr ⟨mvW9_204, (List.forall_mem_cons.mpr ⟨mvW9_205, (List.forall_mem_cons.mpr ⟨mvW9_206, (List.forall_mem_cons.mpr ⟨mvW9_207, (List.forall_mem_cons.mpr ⟨mvW9_208, (List.forall_mem_cons.mpr ⟨mvW9_203, (List.forall_mem_cons.mpr ⟨mvW9_209, (List.forall_mem_cons.mpr ⟨mvW9_210, (List.forall_mem_cons.mpr ⟨mvW9_211, (fun _ h => absurd h List.not_mem_nil)⟩)⟩)⟩)⟩)⟩)⟩)⟩)⟩)⟩)
set_option maxRecDepth 20000 in
theorem gX4_wordIn_J0_length_8abf5 : GoodIn wsX4_wordIn (wsV RX4 167 RJ0 yJ0_length_8abf5 wsJ0_length_8abf5) := goodIn_app (wd_l vW9_ok _ pvW9_60) ggX4_wordIn_J0_length_8abf5
set_option maxRecDepth 20000 in
theorem ggX4_wordIn_J0_charAt_5068e : GoodIn wsX4_wordIn wsJ0_charAt_5068e := wd_l vW9_ok _ (List.forall_mem_cons.mpr ⟨mvW9_215, (List.forall_mem_cons.mpr ⟨mvW9_205, (List.forall_mem_cons.mpr ⟨mvW9_216, (List.forall_mem_cons.mpr ⟨mvW9_217, (List.forall_mem_cons.mpr ⟨mvW9_218, (List.forall_mem_cons.mpr ⟨mvW9_203, (List.forall_mem_cons.mpr ⟨mvW9_219, (List.forall_mem_cons.mpr ⟨mvW9_210, (List.forall_mem_cons.mpr ⟨mvW9_211, (List.forall_mem_cons.mpr ⟨mvW9_220, (List.forall_mem_cons.mpr ⟨mvW9_221, (List.forall_mem_cons.mpr ⟨mvW9_222, (List.forall_mem_cons.mpr ⟨mvW9_223, (List.forall_mem_cons.mpr ⟨mvW9_224, (List.forall_mem_cons.mpr ⟨mvW9_225, (List.forall_mem_cons.mpr ⟨mvW9_226, (List.forall_mem_cons.mpr ⟨mvW9_227, (List.forall_mem_cons.mpr ⟨mvW9_228, (List.forall_mem_cons.mpr ⟨mvW9_229, (List.forall_mem_cons.mpr ⟨mvW9_230, (List.forall_mem_cons.mpr ⟨mvW9_231, (List.forall_mem_cons.mpr ⟨mvW9_232, (List.forall_mem_cons.mpr ⟨mvW9_233, (List.forall_mem_cons.mpr ⟨mvW9_234, (List.forall_mem_cons.mpr ⟨mvW9_235, (List.forall_mem_cons.mpr ⟨mvW9_236, (List.forall_mem_cons.mpr ⟨mvW9_237, (List.forall_mem_cons.mpr ⟨mvW9_238, (List.forall_mem_cons.mpr ⟨mvW9_239, (List.forall_mem_cons.mpr ⟨mvW9_240, (List.forall_mem_cons.mpr ⟨mvW9_241, (List.forall_mem_cons.mpr ⟨mvW9_242, (List.forall_mem_cons.mpr ⟨mvW9_243, (List.forall_mem_cons.mpr ⟨mvW9_244, (List.forall_mem_cons.mpr ⟨mvW9_245, (List.forall_mem_cons.mpr ⟨mvW9_246, (List.forall_mem_cons.mpr ⟨mvW9_247, (List.forall_mem_cons.mpr ⟨mvW9_248, (fun _ h => absurd h List.not_mem_nil)⟩)⟩)⟩)⟩)⟩)⟩)⟩)⟩)⟩)⟩)⟩)⟩)⟩)⟩)⟩)⟩)⟩)⟩)⟩)⟩)⟩)⟩)⟩)⟩)⟩)⟩)⟩)⟩)⟩)⟩)⟩)⟩)⟩)⟩)⟩)⟩)⟩)⟩)
set_option maxRecDepth 20000 in
theorem gX4_wordIn_J0_charAt_5068e : GoodIn wsX4_wordIn (wsV RX4 172 RJ0 yJ0_charAt_5068e wsJ0_charAt_5068e) := goodIn_app (wd_l vW9_ok _ pvW9_61) ggX4_wordIn_J0_charAt_5068e
set_option maxRecDepth 20000 in
theorem ggX4_wordIn_X4_isSame : GoodIn wsX4_wordIn wsX4_isSame := wd_c vW9_ok mvW9_252
set_option maxRecDepth 20000 in
theorem gX4_wordIn_X4_isSame : GoodIn wsX4_wordIn (wsV RX4 176 RX4 yX4_isSame wsX4_isSame) := goodIn_app (wd_l vW9_ok _ pvW9_62) ggX4_wordIn_X4_isSame
theorem da9_dX4_wordIn_0 : (decode cX4_wordIn 0 = .ok (.iconst 0, 1)) ∧ (decode cX4_wordIn 1 = .ok (.istore_n 2, 1)) ∧ (decode cX4_wordIn 2 = .ok (.iconst 0, 1)) ∧ (decode cX4_wordIn 3 = .ok (.istore_n 3, 1)) ∧ (decode cX4_wordIn 4 = .ok (.iconst 0, 1)) ∧ (decode cX4_wordIn 5 = .ok (.istore 4, 2)) ∧ (decode cX4_wordIn 7 = .ok (.iload 4, 2)) ∧ (decode cX4_wordIn 9 = .ok (.aload_n 1, 1)) ∧ (decode cX4_wordIn 10 = .ok (.invokevirtual 167, 3)) ∧ (decode cX4_wordIn 13 = .ok (.if_icmp .ge 49, 3)) ∧ (decode cX4_wordIn 16 = .ok (.aload_n 0, 1)) ∧ (decode cX4_wordIn 17 = .ok (.getfield 27, 3)) ∧ (decode cX4_wordIn 20 = .ok (.iconst 1, 1)) ∧ (decode cX4_wordIn 21 = .ok (.if_icmp .ne 41, 3)) ∧ (decode cX4_wordIn 24 = .ok (.aload_n 1, 1)) ∧ (decode cX4_wordIn 25 = .ok (.iload 4, 2)) := by decide +kernel
theorem dX4_wordIn_0 : decode cX4_wordIn 0 = .ok (.iconst 0, 1) := da9_dX4_wordIn_0.1
theorem dX4_wordIn_1 : decode cX4_wordIn 1 = .ok (.istore_n 2, 1) := da9_dX4_wordIn_0.2.1
theorem dX4_wordIn_2 : decode cX4_wordIn 2 = .ok (.iconst 0, 1) := da9_dX4_wordIn_0.2.2.1
theorem dX4_wordIn_3 : decode cX4_wordIn 3 = .ok (.istore_n 3, 1) := da9_dX4_wordIn_0.2.2.2.1
theorem dX4_wordIn_4 : decode cX4_wordIn 4 = .ok (.iconst 0, 1) := da9_dX4_wordIn_0.2.2.2.2.1
theorem dX4_wordIn_5 : decode cX4_wordIn 5 = .ok (.istore 4, 2) := da9_dX4_wordIn_0.2.2.2.2.2.1
theorem dX4_wordIn_7 : decode cX4_wordIn 7 = .ok (.iload 4, 2) := da9_dX4_wordIn_0.2.2.2.2.2.2.1
theorem dX4_wordIn_9 : decode cX4_wordIn 9 = .ok (.aload_n 1, 1) := da9_dX4_wordIn_0.2.2.2.2.2.2.2.1
theorem dX4_wordIn_10 : decode cX4_wordIn 10 = .ok (.invokevirtual 167, 3) := da9_dX4_wordIn_0.2.2.2.2.2.2.2.2.1
theorem dX4_wordIn_13 : decode cX4_wordIn 13 = .ok (.if_icmp .ge 49, 3) := da9_dX4_wordIn_0.2.2.2.2.2.2.2.2.2.1
theorem dX4_wordIn_16 : decode cX4_wordIn 16 = .ok (.aload_n 0, 1) := da9_dX4_wordIn_0.2.2.2.2.2.2.2.2.2.2.1
theorem dX4_wordIn_17 : decode cX4_wordIn 17 = .ok (.getfield 27, 3) := da9_dX4_wordIn_0.2.2.2.2.2.2.2.2.2.2.2.1
theorem dX4_wordIn_20 : decode cX4_wordIn 20 = .ok (.iconst 1, 1) := da9_dX4_wordIn_0.2.2.2.2.2.2.2.2.2.2.2.2.1
theorem dX4_wordIn_21 : decode cX4_wordIn 21 = .ok (.if_icmp .ne 41, 3) := da9_dX4_wordIn_0.2.2.2.2.2.2.2.2.2.2.2.2.2.1
theorem dX4_wordIn_24 : decode cX4_wordIn 24 = .ok (.aload_n 1, 1) := da9_dX4_wordIn_0.2.2.2.2.2.2.2.2.2.2.2.2.2.2.1
theorem dX4_wordIn_25 : decode cX4_wordIn 25 = .ok (.iload 4, 2) := da9_dX4_wordIn_0.2.2.2.2.2.2.2.2.2.2.2.2.2.2.2
theorem da9_dX4_wordIn_27 : (decode cX4_wordIn 27 = .ok (.invokevirtual 172, 3)) ∧ (decode cX4_wordIn 30 = .ok (.bipush 32, 2)) ∧ (decode cX4_wordIn 32 = .ok (.if_icmp .ne 24, 3)) ∧ (decode cX4_wordIn 35 = .ok (.aload_n 0, 1)) ∧ (decode cX4_wordIn 36 = .ok (.aload_n 1, 1)) ∧ (decode cX4_wordIn 37 = .ok (.iload_n 3, 1)) ∧ (decode cX4_wordIn 38 = .ok (.iload 4, 2)) ∧ (decode cX4_wordIn 40 = .ok (.invokevirtual 176, 3)) ∧ (decode cX4_wordIn 43 = .ok (.ifCond .eq 5, 3)) ∧ (decode cX4_wordIn 46 = .ok (.iload_n 2, 1)) ∧ (decode cX4_wordIn 47 = .ok (.ireturn, 1)) ∧ (decode cX4_wordIn 48 = .ok (.iinc 2 1, 3)) ∧ (decode cX4_wordIn 51 = .ok (.iload 4, 2)) ∧ (decode cX4_wordIn 53 = .ok (.iconst 1, 1)) ∧ (decode cX4_wordIn 54 = .ok (.iadd, 1)) ∧ (decode cX4_wordIn 55 = .ok (.istore_n 3, 1)) := by decide +kernel
theorem dX4_wordIn_27 : decode cX4_wordIn 27 = .ok (.invokevirtual 172, 3) := da9_dX4_wordIn_27.1
theorem dX4_wordIn_30 : decode cX4_wordIn 30 = .ok (.bipush 32, 2) := da9_dX4_wordIn_27.2.1
theorem dX4_wordIn_32 : decode cX4_wordIn 32 = .ok (.if_icmp .ne 24, 3) := da9_dX4_wordIn_27.2.2.1
theorem dX4_wordIn_35 : decode cX4_wordIn 35 = .ok (.aload_n 0, 1) := da9_dX4_wordIn_27.2.2.2.1
theorem dX4_wordIn_36 : decode cX4_wordIn 36 = .ok (.aload_n 1, 1) := da9_dX4_wordIn_27.2.2.2.2.1
theorem dX4_wordIn_37 : decode cX4_wordIn 37 = .ok (.iload_n 3, 1) := da9_dX4_wordIn_27.2.2.2.2.2.1
theorem dX4_wordIn_38 : decode cX4_wordIn 38 = .ok (.iload 4, 2) := da9_dX4_wordIn_27.2.2.2.2.2.2.1
theorem dX4_wordIn_40 : decode cX4_wordIn 40 = .ok (.invokevirtual 176, 3) := da9_dX4_wordIn_27.2.2.2.2.2.2.2.1
theorem dX4_wordIn_43 : decode cX4_wordIn 43 = .ok (.ifCond .eq 5, 3) := da9_dX4_wordIn_27.2.2.2.2.2.2.2.2.1
theorem dX4_wordIn_46 : decode cX4_wordIn 46 = .ok (.iload_n 2, 1) := da9_dX4_wordIn_27.2.2.2.2.2.2.2.2.2.1
theorem dX4_wordIn_47 : decode cX4_wordIn 47 = .ok (.ireturn, 1) := da9_dX4_wordIn_27.2.2.2.2.2.2.2.2.2.2.1
theorem dX4_wordIn_48 : decode cX4_wordIn 48 = .ok (.iinc 2 1, 3) := da9_dX4_wordIn_27.2.2.2.2.2.2.2.2.2.2.2.1
theorem dX4_wordIn_51 : decode cX4_wordIn 51 = .ok (.iload 4, 2) := da9_dX4_wordIn_27.2.2.2.2.2.2.2.2.2.2.2.2.1
theorem dX4_wordIn_53 : decode cX4_wordIn 53 = .ok (.iconst 1, 1) := da9_dX4_wordIn_27.2.2.2.2.2.2.2.2.2.2.2.2.2.1
theorem dX4_wordIn_54 : decode cX4_wordIn 54 = .ok (.iadd, 1) := da9_dX4_wordIn_27.2.2.2.2.2.2.2.2.2.2.2.2.2.2.1
theorem dX4_wordIn_55 : decode cX4_wordIn 55 = .ok (.istore_n 3, 1) := da9_dX4_wordIn_27.2.2.2.2.2.2.2.2.2.2.2.2.2.2.2
theorem da9_dX4_wordIn_56 : (decode cX4_wordIn 56 = .ok (.iinc 4 1, 3)) ∧ (decode cX4_wordIn 59 = .ok (.goto (-52), 3)) ∧ (decode cX4_wordIn 62 = .ok (.iconst (-1), 1)) ∧ (decode cX4_wordIn 63 = .ok (.ireturn, 1)) := by decide +kernel
theorem dX4_wordIn_56 : decode cX4_wordIn 56 = .ok (.iinc 4 1, 3) := da9_dX4_wordIn_56.1
theorem dX4_wordIn_59 : decode cX4_wordIn 59 = .ok (.goto (-52), 3) := da9_dX4_wordIn_56.2.1
theorem dX4_wordIn_62 : decode cX4_wordIn 62 = .ok (.iconst (-1), 1) := da9_dX4_wordIn_56.2.2.1
theorem dX4_wordIn_63 : decode cX4_wordIn 63 = .ok (.ireturn, 1) := da9_dX4_wordIn_56.2.2.2
set_option maxRecDepth 20000 in
theorem ggX4_isSame_J0_charAt_5068e : GoodIn wsX4_isSame wsJ0_charAt_5068e := wd_l vW9_ok _ (List.forall_mem_cons.mpr ⟨mvW9_215, (List.forall_mem_cons.mpr ⟨mvW9_205, (List.forall_mem_cons.mpr ⟨mvW9_216, (List.forall_mem_cons.mpr ⟨mvW9_217, (List.forall_mem_cons.mpr ⟨mvW9_218, (List.forall_mem_cons.mpr ⟨mvW9_203, (List.forall_mem_cons.mpr ⟨mvW9_219, (List.forall_mem_cons.mpr ⟨mvW9_210, (List.forall_mem_cons.mpr ⟨mvW9_211, (List.forall_mem_cons.mpr ⟨mvW9_220, (List.forall_mem_cons.mpr ⟨mvW9_221, (List.forall_mem_cons.mpr ⟨mvW9_222, (List.forall_mem_cons.mpr ⟨mvW9_223, (List.forall_mem_cons.mpr ⟨mvW9_224, (List.forall_mem_cons.mpr ⟨mvW9_225, (List.forall_mem_cons.mpr ⟨mvW9_226, (List.forall_mem_cons.mpr ⟨mvW9_227, (List.forall_mem_cons.mpr ⟨mvW9_228, (List.forall_mem_cons.mpr ⟨mvW9_229, (List.forall_mem_cons.mpr ⟨mvW9_230, (List.forall_mem_cons.mpr ⟨mvW9_231, (List.forall_mem_cons.mpr ⟨mvW9_232, (List.forall_mem_cons.mpr ⟨mvW9_233, (List.forall_mem_cons.mpr ⟨mvW9_234, (List.forall_mem_cons.mpr ⟨mvW9_235, (List.forall_mem_cons.mpr ⟨mvW9_236, (List.forall_mem_cons.mpr ⟨mvW9_237, (List.forall_mem_cons.mpr ⟨mvW9_238, (List.forall_mem_cons.mpr ⟨mvW9_239, (List.forall_mem_cons.mpr ⟨mvW9_240, (List.forall_mem_cons.mpr ⟨mvW9_241, (List.forall_mem_cons.mpr ⟨mvW9_242, (List.forall_mem_cons.mpr ⟨mvW9_243, (List.forall_mem_cons.mpr ⟨mvW9_244, (List.forall_mem_cons.mpr ⟨mvW9_245, (List.forall_mem_cons.mpr ⟨mvW9_246, (List.forall_mem_cons.mpr ⟨mvW9_247, (List.forall_mem_cons.mpr ⟨mvW9_248, (fun _ h => absurd h List.not_mem_nil)⟩)⟩)⟩)⟩)⟩)⟩)⟩)⟩)⟩)⟩)⟩)⟩)⟩)⟩)⟩)⟩)⟩)⟩)⟩)⟩)⟩)⟩)⟩)⟩)⟩)⟩)⟩)⟩)⟩)⟩)⟩)⟩)⟩)⟩)⟩)⟩)⟩)⟩)
set_option maxRecDepth 20000 in
theorem gX4_isSame_J0_charAt_5068e : GoodIn wsX4_isSame (wsV RX4 172 RJ0 yJ0_charAt_5068e wsJ0_charAt_5068e) := goodIn_app (wd_l vW9_ok _ pvW9_61) ggX4_isSame_J0_charAt_5068e
theorem da9_dX4_isSame_0 : (decode cX4_isSame 0 = .ok (.iload_n 3, 1)) ∧ (decode cX4_isSame 1 = .ok (.iload_n 2, 1)) ∧ (decode cX4_isSame 2 = .ok (.isub, 1)) ∧ (decode cX4_isSame 3 = .ok (.aload_n 0, 1)) ∧ (decode cX4_isSame 4 = .ok (.getfield 33, 3)) ∧ (decode cX4_isSame 7 = .ok (.aload_n 0, 1)) ∧ (decode cX4_isSame 8 = .ok (.getfield 30, 3)) ∧ (decode cX4_isSame 11 = .ok (.isub, 1)) ∧ (decode cX4_isSame 12 = .ok (.if_icmp .eq 5, 3)) ∧ (decode cX4_isSame 15 = .ok (.iconst 0, 1)) ∧ (decode cX4_isSame 16 = .ok (.ireturn, 1)) ∧ (decode cX4_isSame 17 = .ok (.iload_n 2, 1)) ∧ (decode cX4_isSame 18 = .ok (.istore 4, 2)) ∧ (decode cX4_isSame 20 = .ok (.iload 4, 2)) ∧ (decode cX4_isSame 22 = .ok (.iload_n 3, 1)) ∧ (decode cX4_isSame 23 = .ok (.if_icmp .ge 34, 3)) := by decide +kernel
theorem dX4_isSame_0 : decode cX4_isSame 0 = .ok (.iload_n 3, 1) := da9_dX4_isSame_0.1
theorem dX4_isSame_1 : decode cX4_isSame 1 = .ok (.iload_n 2, 1) := da9_dX4_isSame_0.2.1
theorem dX4_isSame_2 : decode cX4_isSame 2 = .ok (.isub, 1) := da9_dX4_isSame_0.2.2.1
theorem dX4_isSame_3 : decode cX4_isSame 3 = .ok (.aload_n 0, 1) := da9_dX4_isSame_0.2.2.2.1
theorem dX4_isSame_4 : decode cX4_isSame 4 = .ok (.getfield 33, 3) := da9_dX4_isSame_0.2.2.2.2.1
theorem dX4_isSame_7 : decode cX4_isSame 7 = .ok (.aload_n 0, 1) := da9_dX4_isSame_0.2.2.2.2.2.1
theorem dX4_isSame_8 : decode cX4_isSame 8 = .ok (.getfield 30, 3) := da9_dX4_isSame_0.2.2.2.2.2.2.1
theorem dX4_isSame_11 : decode cX4_isSame 11 = .ok (.isub, 1) := da9_dX4_isSame_0.2.2.2.2.2.2.2.1
theorem dX4_isSame_12 : decode cX4_isSame 12 = .ok (.if_icmp .eq 5, 3) := da9_dX4_isSame_0.2.2.2.2.2.2.2.2.1
theorem dX4_isSame_15 : decode cX4_isSame 15 = .ok (.iconst 0, 1) := da9_dX4_isSame_0.2.2.2.2.2.2.2.2.2.1
theorem dX4_isSame_16 : decode cX4_isSame 16 = .ok (.ireturn, 1) := da9_dX4_isSame_0.2.2.2.2.2.2.2.2.2.2.1
theorem dX4_isSame_17 : decode cX4_isSame 17 = .ok (.iload_n 2, 1) := da9_dX4_isSame_0.2.2.2.2.2.2.2.2.2.2.2.1
theorem dX4_isSame_18 : decode cX4_isSame 18 = .ok (.istore 4, 2) := da9_dX4_isSame_0.2.2.2.2.2.2.2.2.2.2.2.2.1
theorem dX4_isSame_20 : decode cX4_isSame 20 = .ok (.iload 4, 2) := da9_dX4_isSame_0.2.2.2.2.2.2.2.2.2.2.2.2.2.1
theorem dX4_isSame_22 : decode cX4_isSame 22 = .ok (.iload_n 3, 1) := da9_dX4_isSame_0.2.2.2.2.2.2.2.2.2.2.2.2.2.2.1
theorem dX4_isSame_23 : decode cX4_isSame 23 = .ok (.if_icmp .ge 34, 3) := da9_dX4_isSame_0.2.2.2.2.2.2.2.2.2.2.2.2.2.2.2
theorem da9_dX4_isSame_26 : (decode cX4_isSame 26 = .ok (.aload_n 1, 1)) ∧ (decode cX4_isSame 27 = .ok (.iload 4, 2)) ∧ (decode cX4_isSame 29 = .ok (.invokevirtual 172, 3)) ∧ (decode cX4_isSame 32 = .ok (.aload_n 0, 1)) ∧ (decode cX4_isSame 33 = .ok (.getfield 9, 3)) ∧ (decode cX4_isSame 36 = .ok (.aload_n 0, 1)) ∧ (decode cX4_isSame 37 = .ok (.getfield 30, 3)) ∧ (decode cX4_isSame 40 = .ok (.iload 4, 2)) ∧ (decode cX4_isSame 42 = .ok (.iadd, 1)) ∧ (decode cX4_isSame 43 = .ok (.iload_n 2, 1)) ∧ (decode cX4_isSame 44 = .ok (.isub, 1)) ∧ (decode cX4_isSame 45 = .ok (.iaload, 1)) ∧ (decode cX4_isSame 46 = .ok (.if_icmp .eq 5, 3)) ∧ (decode cX4_isSame 49 = .ok (.iconst 0, 1)) ∧ (decode cX4_isSame 50 = .ok (.ireturn, 1)) ∧ (decode cX4_isSame 51 = .ok (.iinc 4 1, 3)) := by decide +kernel
theorem dX4_isSame_26 : decode cX4_isSame 26 = .ok (.aload_n 1, 1) := da9_dX4_isSame_26.1
theorem dX4_isSame_27 : decode cX4_isSame 27 = .ok (.iload 4, 2) := da9_dX4_isSame_26.2.1
theorem dX4_isSame_29 : decode cX4_isSame 29 = .ok (.invokevirtual 172, 3) := da9_dX4_isSame_26.2.2.1
theorem dX4_isSame_32 : decode cX4_isSame 32 = .ok (.aload_n 0, 1) := da9_dX4_isSame_26.2.2.2.1
theorem dX4_isSame_33 : decode cX4_isSame 33 = .ok (.getfield 9, 3) := da9_dX4_isSame_26.2.2.2.2.1
theorem dX4_isSame_36 : decode cX4_isSame 36 = .ok (.aload_n 0, 1) := da9_dX4_isSame_26.2.2.2.2.2.1
theorem dX4_isSame_37 : decode cX4_isSame 37 = .ok (.getfield 30, 3) := da9_dX4_isSame_26.2.2.2.2.2.2.1
theorem dX4_isSame_40 : decode cX4_isSame 40 = .ok (.iload 4, 2) := da9_dX4_isSame_26.2.2.2.2.2.2.2.1
theorem dX4_isSame_42 : decode cX4_isSame 42 = .ok (.iadd, 1) := da9_dX4_isSame_26.2.2.2.2.2.2.2.2.1
theorem dX4_isSame_43 : decode cX4_isSame 43 = .ok (.iload_n 2, 1) := da9_dX4_isSame_26.2.2.2.2.2.2.2.2.2.1
theorem dX4_isSame_44 : decode cX4_isSame 44 = .ok (.isub, 1) := da9_dX4_isSame_26.2.2.2.2.2.2.2.2.2.2.1
theorem dX4_isSame_45 : decode cX4_isSame 45 = .ok (.iaload, 1) := da9_dX4_isSame_26.2.2.2.2.2.2.2.2.2.2.2.1
theorem dX4_isSame_46 : decode cX4_isSame 46 = .ok (.if_icmp .eq 5, 3) := da9_dX4_isSame_26.2.2.2.2.2.2.2.2.2.2.2.2.1
theorem dX4_isSame_49 : decode cX4_isSame 49 = .ok (.iconst 0, 1) := da9_dX4_isSame_26.2.2.2.2.2.2.2.2.2.2.2.2.2.1
theorem dX4_isSame_50 : decode cX4_isSame 50 = .ok (.ireturn, 1) := da9_dX4_isSame_26.2.2.2.2.2.2.2.2.2.2.2.2.2.2.1
theorem dX4_isSame_51 : decode cX4_isSame 51 = .ok (.iinc 4 1, 3) := da9_dX4_isSame_26.2.2.2.2.2.2.2.2.2.2.2.2.2.2.2
theorem da9_dX4_isSame_54 : (decode cX4_isSame 54 = .ok (.goto (-34), 3)) ∧ (decode cX4_isSame 57 = .ok (.iconst 1, 1)) ∧ (decode cX4_isSame 58 = .ok (.ireturn, 1)) := by decide +kernel
theorem dX4_isSame_54 : decode cX4_isSame 54 = .ok (.goto (-34), 3) := da9_dX4_isSame_54.1
theorem dX4_isSame_57 : decode cX4_isSame 57 = .ok (.iconst 1, 1) := da9_dX4_isSame_54.2.1
theorem dX4_isSame_58 : decode cX4_isSame 58 = .ok (.ireturn, 1) := da9_dX4_isSame_54.2.2
theorem da9_dX7_clear_0 : (decode cX7_clear 0 = .ok (.aload_n 0, 1)) ∧ (decode cX7_clear 1 = .ok (.iconst 0, 1)) ∧ (decode cX7_clear 2 = .ok (.putfield 7, 3)) ∧ (decode cX7_clear 5 = .ok (.aload_n 0, 1)) ∧ (decode cX7_clear 6 = .ok (.iconst 0, 1)) ∧ (decode cX7_clear 7 = .ok (.putfield 13, 3)) ∧ (decode cX7_clear 10 = .ok (.return_, 1)) := by decide +kernel
theorem dX7_clear_0 : decode cX7_clear 0 = .ok (.aload_n 0, 1) := da9_dX7_clear_0.1
theorem dX7_clear_1 : decode cX7_clear 1 = .ok (.iconst 0, 1) := da9_dX7_clear_0.2.1
theorem dX7_clear_2 : decode cX7_clear 2 = .ok (.putfield 7, 3) := da9_dX7_clear_0.2.2.1
theorem dX7_clear_5 : decode cX7_clear 5 = .ok (.aload_n 0, 1) := da9_dX7_clear_0.2.2.2.1
theorem dX7_clear_6 : decode cX7_clear 6 = .ok (.iconst 0, 1) := da9_dX7_clear_0.2.2.2.2.1
theorem dX7_clear_7 : decode cX7_clear 7 = .ok (.putfield 13, 3) := da9_dX7_clear_0.2.2.2.2.2.1
theorem dX7_clear_10 : decode cX7_clear 10 = .ok (.return_, 1) := da9_dX7_clear_0.2.2.2.2.2.2
theorem da9_dX7_beginClause_0 : (decode cX7_beginClause 0 = .ok (.aload_n 0, 1)) ∧ (decode cX7_beginClause 1 = .ok (.getfield 7, 3)) ∧ (decode cX7_beginClause 4 = .ok (.aload_n 0, 1)) ∧ (decode cX7_beginClause 5 = .ok (.getfield 16, 3)) ∧ (decode cX7_beginClause 8 = .ok (.arraylength, 1)) ∧ (decode cX7_beginClause 9 = .ok (.if_icmp .ge 72, 3)) ∧ (decode cX7_beginClause 12 = .ok (.aload_n 0, 1)) ∧ (decode cX7_beginClause 13 = .ok (.getfield 16, 3)) ∧ (decode cX7_beginClause 16 = .ok (.aload_n 0, 1)) ∧ (decode cX7_beginClause 17 = .ok (.getfield 7, 3)) ∧ (decode cX7_beginClause 20 = .ok (.iload_n 1, 1)) ∧ (decode cX7_beginClause 21 = .ok (.iastore, 1)) ∧ (decode cX7_beginClause 22 = .ok (.aload_n 0, 1)) ∧ (decode cX7_beginClause 23 = .ok (.getfield 20, 3)) ∧ (decode cX7_beginClause 26 = .ok (.aload_n 0, 1)) ∧ (decode cX7_beginClause 27 = .ok (.getfield 7, 3)) := by decide +kernel
theorem dX7_beginClause_0 : decode cX7_beginClause 0 = .ok (.aload_n 0, 1) := da9_dX7_beginClause_0.1
theorem dX7_beginClause_1 : decode cX7_beginClause 1 = .ok (.getfield 7, 3) := da9_dX7_beginClause_0.2.1
theorem dX7_beginClause_4 : decode cX7_beginClause 4 = .ok (.aload_n 0, 1) := da9_dX7_beginClause_0.2.2.1
theorem dX7_beginClause_5 : decode cX7_beginClause 5 = .ok (.getfield 16, 3) := da9_dX7_beginClause_0.2.2.2.1
theorem dX7_beginClause_8 : decode cX7_beginClause 8 = .ok (.arraylength, 1) := da9_dX7_beginClause_0.2.2.2.2.1
theorem dX7_beginClause_9 : decode cX7_beginClause 9 = .ok (.if_icmp .ge 72, 3) := da9_dX7_beginClause_0.2.2.2.2.2.1
theorem dX7_beginClause_12 : decode cX7_beginClause 12 = .ok (.aload_n 0, 1) := da9_dX7_beginClause_0.2.2.2.2.2.2.1
theorem dX7_beginClause_13 : decode cX7_beginClause 13 = .ok (.getfield 16, 3) := da9_dX7_beginClause_0.2.2.2.2.2.2.2.1
theorem dX7_beginClause_16 : decode cX7_beginClause 16 = .ok (.aload_n 0, 1) := da9_dX7_beginClause_0.2.2.2.2.2.2.2.2.1
theorem dX7_beginClause_17 : decode cX7_beginClause 17 = .ok (.getfield 7, 3) := da9_dX7_beginClause_0.2.2.2.2.2.2.2.2.2.1
theorem dX7_beginClause_20 : decode cX7_beginClause 20 = .ok (.iload_n 1, 1) := da9_dX7_beginClause_0.2.2.2.2.2.2.2.2.2.2.1
theorem dX7_beginClause_21 : decode cX7_beginClause 21 = .ok (.iastore, 1) := da9_dX7_beginClause_0.2.2.2.2.2.2.2.2.2.2.2.1
theorem dX7_beginClause_22 : decode cX7_beginClause 22 = .ok (.aload_n 0, 1) := da9_dX7_beginClause_0.2.2.2.2.2.2.2.2.2.2.2.2.1
theorem dX7_beginClause_23 : decode cX7_beginClause 23 = .ok (.getfield 20, 3) := da9_dX7_beginClause_0.2.2.2.2.2.2.2.2.2.2.2.2.2.1
theorem dX7_beginClause_26 : decode cX7_beginClause 26 = .ok (.aload_n 0, 1) := da9_dX7_beginClause_0.2.2.2.2.2.2.2.2.2.2.2.2.2.2.1
theorem dX7_beginClause_27 : decode cX7_beginClause 27 = .ok (.getfield 7, 3) := da9_dX7_beginClause_0.2.2.2.2.2.2.2.2.2.2.2.2.2.2.2
theorem da9_dX7_beginClause_30 : (decode cX7_beginClause 30 = .ok (.iconst 1, 1)) ∧ (decode cX7_beginClause 31 = .ok (.iastore, 1)) ∧ (decode cX7_beginClause 32 = .ok (.aload_n 0, 1)) ∧ (decode cX7_beginClause 33 = .ok (.getfield 23, 3)) ∧ (decode cX7_beginClause 36 = .ok (.aload_n 0, 1)) ∧ (decode cX7_beginClause 37 = .ok (.getfield 7, 3)) ∧ (decode cX7_beginClause 40 = .ok (.aload_n 0, 1)) ∧ (decode cX7_beginClause 41 = .ok (.getfield 13, 3)) ∧ (decode cX7_beginClause 44 = .ok (.iastore, 1)) ∧ (decode cX7_beginClause 45 = .ok (.aload_n 0, 1)) ∧ (decode cX7_beginClause 46 = .ok (.getfield 26, 3)) ∧ (decode cX7_beginClause 49 = .ok (.aload_n 0, 1)) ∧ (decode cX7_beginClause 50 = .ok (.getfield 7, 3)) ∧ (decode cX7_beginClause 53 = .ok (.aload_n 0, 1)) ∧ (decode cX7_beginClause 54 = .ok (.getfield 13, 3)) ∧ (decode cX7_beginClause 57 = .ok (.iastore, 1)) := by decide +kernel
theorem dX7_beginClause_30 : decode cX7_beginClause 30 = .ok (.iconst 1, 1) := da9_dX7_beginClause_30.1
theorem dX7_beginClause_31 : decode cX7_beginClause 31 = .ok (.iastore, 1) := da9_dX7_beginClause_30.2.1
theorem dX7_beginClause_32 : decode cX7_beginClause 32 = .ok (.aload_n 0, 1) := da9_dX7_beginClause_30.2.2.1
theorem dX7_beginClause_33 : decode cX7_beginClause 33 = .ok (.getfield 23, 3) := da9_dX7_beginClause_30.2.2.2.1
theorem dX7_beginClause_36 : decode cX7_beginClause 36 = .ok (.aload_n 0, 1) := da9_dX7_beginClause_30.2.2.2.2.1
theorem dX7_beginClause_37 : decode cX7_beginClause 37 = .ok (.getfield 7, 3) := da9_dX7_beginClause_30.2.2.2.2.2.1
theorem dX7_beginClause_40 : decode cX7_beginClause 40 = .ok (.aload_n 0, 1) := da9_dX7_beginClause_30.2.2.2.2.2.2.1
theorem dX7_beginClause_41 : decode cX7_beginClause 41 = .ok (.getfield 13, 3) := da9_dX7_beginClause_30.2.2.2.2.2.2.2.1
theorem dX7_beginClause_44 : decode cX7_beginClause 44 = .ok (.iastore, 1) := da9_dX7_beginClause_30.2.2.2.2.2.2.2.2.1
theorem dX7_beginClause_45 : decode cX7_beginClause 45 = .ok (.aload_n 0, 1) := da9_dX7_beginClause_30.2.2.2.2.2.2.2.2.2.1
theorem dX7_beginClause_46 : decode cX7_beginClause 46 = .ok (.getfield 26, 3) := da9_dX7_beginClause_30.2.2.2.2.2.2.2.2.2.2.1
theorem dX7_beginClause_49 : decode cX7_beginClause 49 = .ok (.aload_n 0, 1) := da9_dX7_beginClause_30.2.2.2.2.2.2.2.2.2.2.2.1
theorem dX7_beginClause_50 : decode cX7_beginClause 50 = .ok (.getfield 7, 3) := da9_dX7_beginClause_30.2.2.2.2.2.2.2.2.2.2.2.2.1
theorem dX7_beginClause_53 : decode cX7_beginClause 53 = .ok (.aload_n 0, 1) := da9_dX7_beginClause_30.2.2.2.2.2.2.2.2.2.2.2.2.2.1
theorem dX7_beginClause_54 : decode cX7_beginClause 54 = .ok (.getfield 13, 3) := da9_dX7_beginClause_30.2.2.2.2.2.2.2.2.2.2.2.2.2.2.1
theorem dX7_beginClause_57 : decode cX7_beginClause 57 = .ok (.iastore, 1) := da9_dX7_beginClause_30.2.2.2.2.2.2.2.2.2.2.2.2.2.2.2
theorem da9_dX7_beginClause_58 : (decode cX7_beginClause 58 = .ok (.aload_n 0, 1)) ∧ (decode cX7_beginClause 59 = .ok (.getfield 29, 3)) ∧ (decode cX7_beginClause 62 = .ok (.aload_n 0, 1)) ∧ (decode cX7_beginClause 63 = .ok (.getfield 7, 3)) ∧ (decode cX7_beginClause 66 = .ok (.aload_n 0, 1)) ∧ (decode cX7_beginClause 67 = .ok (.getfield 13, 3)) ∧ (decode cX7_beginClause 70 = .ok (.iastore, 1)) ∧ (decode cX7_beginClause 71 = .ok (.aload_n 0, 1)) ∧ (decode cX7_beginClause 72 = .ok (.dup, 1)) ∧ (decode cX7_beginClause 73 = .ok (.getfield 7, 3)) ∧ (decode cX7_beginClause 76 = .ok (.iconst 1, 1)) ∧ (decode cX7_beginClause 77 = .ok (.iadd, 1)) ∧ (decode cX7_beginClause 78 = .ok (.putfield 7, 3)) ∧ (decode cX7_beginClause 81 = .ok (.return_, 1)) := by decide +kernel
theorem dX7_beginClause_58 : decode cX7_beginClause 58 = .ok (.aload_n 0, 1) := da9_dX7_beginClause_58.1
theorem dX7_beginClause_59 : decode cX7_beginClause 59 = .ok (.getfield 29, 3) := da9_dX7_beginClause_58.2.1
theorem dX7_beginClause_62 : decode cX7_beginClause 62 = .ok (.aload_n 0, 1) := da9_dX7_beginClause_58.2.2.1
theorem dX7_beginClause_63 : decode cX7_beginClause 63 = .ok (.getfield 7, 3) := da9_dX7_beginClause_58.2.2.2.1
theorem dX7_beginClause_66 : decode cX7_beginClause 66 = .ok (.aload_n 0, 1) := da9_dX7_beginClause_58.2.2.2.2.1
theorem dX7_beginClause_67 : decode cX7_beginClause 67 = .ok (.getfield 13, 3) := da9_dX7_beginClause_58.2.2.2.2.2.1
theorem dX7_beginClause_70 : decode cX7_beginClause 70 = .ok (.iastore, 1) := da9_dX7_beginClause_58.2.2.2.2.2.2.1
theorem dX7_beginClause_71 : decode cX7_beginClause 71 = .ok (.aload_n 0, 1) := da9_dX7_beginClause_58.2.2.2.2.2.2.2.1
theorem dX7_beginClause_72 : decode cX7_beginClause 72 = .ok (.dup, 1) := da9_dX7_beginClause_58.2.2.2.2.2.2.2.2.1
theorem dX7_beginClause_73 : decode cX7_beginClause 73 = .ok (.getfield 7, 3) := da9_dX7_beginClause_58.2.2.2.2.2.2.2.2.2.1
theorem dX7_beginClause_76 : decode cX7_beginClause 76 = .ok (.iconst 1, 1) := da9_dX7_beginClause_58.2.2.2.2.2.2.2.2.2.2.1
theorem dX7_beginClause_77 : decode cX7_beginClause 77 = .ok (.iadd, 1) := da9_dX7_beginClause_58.2.2.2.2.2.2.2.2.2.2.2.1
theorem dX7_beginClause_78 : decode cX7_beginClause 78 = .ok (.putfield 7, 3) := da9_dX7_beginClause_58.2.2.2.2.2.2.2.2.2.2.2.2.1
theorem dX7_beginClause_81 : decode cX7_beginClause 81 = .ok (.return_, 1) := da9_dX7_beginClause_58.2.2.2.2.2.2.2.2.2.2.2.2.2
end
section
theorem u9_wsX7_clear_X7 : ∀ w ∈ u_ws RX7 TX7 8, w ∈ wsX7_clear := fun w h => List.mem_cons_of_mem _ (vW9_wsX70 w h)
theorem f9_wsX7_clear_459 : (Cond.fieldLink RX7 7 "TurnedFloors$Text" "clauses" "I") ∈ wsX7_clear := List.mem_cons_of_mem _ mvW9_177
theorem f9_wsX7_clear_460 : (Cond.fieldLink RX7 13 "TurnedFloors$Text" "length" "I") ∈ wsX7_clear := List.mem_cons_of_mem _ mvW9_178
theorem u9_wsX4_step_X4 : ∀ w ∈ u_ws RX4 TX4 11, w ∈ wsX4_step := fun w h => List.mem_cons_of_mem _ (vW9_wsX40 w h)
theorem f9_wsX4_step_462 : (Cond.fieldLink RX4 33 "TurnedFloors$Reader" "stop" "I") ∈ wsX4_step := List.mem_cons_of_mem _ mvW9_167
theorem f9_wsX4_step_463 : (Cond.fieldLink RX4 27 "TurnedFloors$Reader" "token" "I") ∈ wsX4_step := List.mem_cons_of_mem _ mvW9_171
theorem f9_wsX4_step_464 : (Cond.fieldLink RX4 36 "TurnedFloors$Reader" "number" "I") ∈ wsX4_step := List.mem_cons_of_mem _ mvW9_184
theorem f9_wsX4_step_465 : (Cond.fieldLink RX4 9 "TurnedFloors$Reader" "bytes" "[I") ∈ wsX4_step := List.mem_cons_of_mem _ mvW9_162
theorem f9_wsX4_step_466 : (Cond.methodLink RX4 48 Lib.Math.min.name) ∈ wsX4_step := List.mem_cons_of_mem _ mvW9_163
theorem f9_wsX4_step_467 : (Cond.static Lib.Math.min.name) ∈ wsX4_step := List.mem_cons_of_mem _ mvW9_86
theorem f9_wsX4_step_468 : (Cond.initialized "java/lang/Math") ∈ wsX4_step := List.mem_cons_of_mem _ mvW9_87
theorem f9_wsX4_step_469 : (Cond.code Lib.Math.min.name Lib.Math.min.code 2 (some .int)) ∈ wsX4_step := List.mem_cons_of_mem _ mvW9_88
theorem f9_wsX4_step_470 : (Cond.fieldLink RX4 30 "TurnedFloors$Reader" "start" "I") ∈ wsX4_step := List.mem_cons_of_mem _ mvW9_183
theorem f9_wsX4_step_471 : (Cond.fieldLink RX4 15 "TurnedFloors$Reader" "length" "I") ∈ wsX4_step := List.mem_cons_of_mem _ mvW9_164
theorem f9_wsX4_step_472 : (Cond.fieldLink RX4 45 "TurnedFloors$Reader" "faultAt" "I") ∈ wsX4_step := List.mem_cons_of_mem _ mvW9_170
theorem u9_wsX4_isSame_X4 : ∀ w ∈ u_ws RX4 TX4 11, w ∈ wsX4_isSame := fun w h => List.mem_cons_of_mem _ (vW9_wsX40 w h)
theorem f9_wsX4_isSame_474 : (Cond.fieldLink RX4 9 "TurnedFloors$Reader" "bytes" "[I") ∈ wsX4_isSame := List.mem_cons_of_mem _ mvW9_162
theorem f9_wsX4_isSame_475 : (Cond.fieldLink RX4 30 "TurnedFloors$Reader" "start" "I") ∈ wsX4_isSame := List.mem_cons_of_mem _ mvW9_183
theorem f9_wsX4_isSame_476 : (Cond.fieldLink RX4 33 "TurnedFloors$Reader" "stop" "I") ∈ wsX4_isSame := List.mem_cons_of_mem _ mvW9_167
theorem u9_wsX4_wordIn_X4 : ∀ w ∈ u_ws RX4 TX4 11, w ∈ wsX4_wordIn := fun w h => List.mem_cons_of_mem _ (vW9_wsX40 w h)
theorem f9_wsX4_wordIn_478 : (Cond.fieldLink RX4 27 "TurnedFloors$Reader" "token" "I") ∈ wsX4_wordIn := List.mem_cons_of_mem _ mvW9_171
theorem u9_wsX7_beginClause_X7 : ∀ w ∈ u_ws RX7 TX7 8, w ∈ wsX7_beginClause := fun w h => List.mem_cons_of_mem _ (vW9_wsX70 w h)
theorem f9_wsX7_beginClause_480 : (Cond.fieldLink RX7 7 "TurnedFloors$Text" "clauses" "I") ∈ wsX7_beginClause := List.mem_cons_of_mem _ mvW9_177
theorem f9_wsX7_beginClause_481 : (Cond.fieldLink RX7 16 "TurnedFloors$Text" "kind" "[I") ∈ wsX7_beginClause := List.mem_cons_of_mem _ mvW9_257
theorem f9_wsX7_beginClause_482 : (Cond.fieldLink RX7 20 "TurnedFloors$Text" "times" "[I") ∈ wsX7_beginClause := List.mem_cons_of_mem _ mvW9_258
theorem f9_wsX7_beginClause_483 : (Cond.fieldLink RX7 23 "TurnedFloors$Text" "sumFrom" "[I") ∈ wsX7_beginClause := List.mem_cons_of_mem _ mvW9_259
theorem f9_wsX7_beginClause_484 : (Cond.fieldLink RX7 13 "TurnedFloors$Text" "length" "I") ∈ wsX7_beginClause := List.mem_cons_of_mem _ mvW9_178
theorem f9_wsX7_beginClause_485 : (Cond.fieldLink RX7 26 "TurnedFloors$Text" "testFrom" "[I") ∈ wsX7_beginClause := List.mem_cons_of_mem _ mvW9_260
theorem f9_wsX7_beginClause_486 : (Cond.fieldLink RX7 29 "TurnedFloors$Text" "testTo" "[I") ∈ wsX7_beginClause := List.mem_cons_of_mem _ mvW9_261
theorem u9_wsX4_fail_X4 : ∀ w ∈ u_ws RX4 TX4 11, w ∈ wsX4_fail := fun w h => List.mem_cons_of_mem _ (vW9_wsX40 w h)
theorem f9_wsX4_fail_488 : (Cond.fieldLink RX4 45 "TurnedFloors$Reader" "faultAt" "I") ∈ wsX4_fail := List.mem_cons_of_mem _ mvW9_170
theorem f9_wsX4_fail_489 : (Cond.fieldLink RX4 30 "TurnedFloors$Reader" "start" "I") ∈ wsX4_fail := List.mem_cons_of_mem _ mvW9_183
set_option maxHeartbeats 4000000 in
set_option maxRecDepth 100000 in
theorem qX7_clear_s25 (l : Launch) (D : va_G) (ty : Nat → ClassId) (eo : Nat → Nat) (sz : Nat) (ad : Nat → Nat) (q : dK)  (o2 : dK) (h : zX7_clear_s25 q = some o2) : Met l yX7_clear wsX7_clear ({ frames := 0, cells := 0, slots := 0, locals := 0 } : Room) (va_Pc [.ref (ad 25)] (kz_pre D ty eo (wF ty ad q) sz)) (va_Qv (fun (u : va_W) => wF ty ad o2 = u) (kz_B D ty (va_A (wF ty ad q) sz)) (va_A (wF ty ad q) sz)) 0 0 (va_A (wF ty ad q) sz) := by
  refine Met.ofW (cc := cX7_clear) (maxL := 1) (ret := none) (by decide) rfl ?_
  intro p e s m args below meth c s₁ B hml hv
  obtain ⟨rfl, hsz, hP, hK, hD0, hN, hE⟩ := hv
  have hx := B.exec
  have hb := B.bytes
  have hr := B.returns
  have hts := atoms_spec (ws := wsX7_clear) B.pre
  have hown : s.vm.findClass RX7 = some m.cls := findClass_of_methodNamed B.named
  have hlocks := B.notSynchronized
  subst hsz
  have hD := hD0.self (sz := s.heap.size)
  generalize hAe : va_A (wF ty ad q) s.heap.size = A at hD hE ⊢
  have hA : ∀ q : Nat, s.heap.size ≤ q → A q := fun q h => by rw [← hAe]; exact Or.inr h
  clear hAe
  have hS : va_S A s.heap s.heap [] := va_S.rf
  have hl := lv_entry ([.ref (ad 25)]) (n := 1) (Nat.le_of_ble_eq_true rfl)
  rw [lg_entry_eq]
  generalize (lg_sl ([.ref (ad 25)]) ++ List.replicate (1 - (lg_sl ([.ref (ad 25)])).length) Slot.unset).toArray = ls at hl ⊢
  have hl : lv_has ls 1 [(0, .ref (ad 25))] := hl
  have C : dc_C p s m _ meth c cX7_clear none 1 RX7 wsX7_clear D ty eo A := ⟨hx, hb, hr, hts, hown, hlocks, hml, hK, hN, hE, hA⟩
  unfold zX7_clear_s25 at h
  refine lv_aload_n hx hb dX7_clear_0 rfl (lv_at hl 0 rfl) ?_
  refine lv_iconst (v := 0) hx hb dX7_clear_1 (by decide) ?_
  refine va_put (D := D) (ci := 7) (v := .int 0) (ty := .int) (C := RX7) (T := TX7) (N := 8) hx hb hts u9_wsX7_clear_X7 tyX7 tyX7_ok nmX7 hown hK hP hD hS 25 rfl rfl 6 (by decide) (hts (.fieldLink RX7 7 "TurnedFloors$Text" "clauses" "I") f9_wsX7_clear_459) (fun _ h9 => h9) rfl (by decide +kernel) rfl rfl (Nat.le_of_ble_eq_true rfl) dX7_clear_2 (fun H locs hp hd hs => ?_)
  obtain ⟨q1, eq1, h⟩ := dL_some h
  refine kz_re (w2 := wF ty ad q1) hp hd hs (by rw [← eq1]; exact wF_f25_6 ty ad q 0) ?_
  clear hp hd hs hP hD hS
  intro hP hD hS
  refine lv_aload_n hx hb dX7_clear_5 rfl (lv_at hl 0 rfl) ?_
  refine lv_iconst (v := 0) hx hb dX7_clear_6 (by decide) ?_
  refine va_put (D := D) (ci := 7) (v := .int 0) (ty := .int) (C := RX7) (T := TX7) (N := 8) hx hb hts u9_wsX7_clear_X7 tyX7 tyX7_ok nmX7 hown hK hP hD hS 25 rfl rfl 7 (by decide) (hts (.fieldLink RX7 13 "TurnedFloors$Text" "length" "I") f9_wsX7_clear_460) (fun _ h9 => h9) rfl (by decide +kernel) rfl rfl (Nat.le_of_ble_eq_true rfl) dX7_clear_7 (fun H locs hp hd hs => ?_)
  obtain ⟨q2, eq2, h⟩ := dL_some h
  refine kz_re (w2 := wF ty ad q2) hp hd hs (by rw [← eq2]; exact wF_f25_7 ty ad q1 0) ?_
  clear hp hd hs hP hD hS
  intro hP hD hS
  cases h
  exact kz_vret hx hb hr hlocks hP hK hD hS dX7_clear_10 rfl

set_option maxHeartbeats 4000000 in
set_option maxRecDepth 100000 in
theorem WX4_tokenOf_31 {p : Program} {l : Launch} {e : Env} {s : State} {m : MethodId} {args : Array Value} {below : List Frame} {meth : Method} {c : Code} {D : va_G} {ty : Nat → ClassId} {eo : Nat → Nat} {A : Nat → Prop} {o1 : Int32} (C : dc_C p s m args meth c cX4_tokenOf (some .int) 1 RX4 wsX4_tokenOf D ty eo A)   (y0 : Int32) (H : Heap) (locs : List Loc) (ls : Array Slot) (h : zX4_tokenOf_31  y0 = some o1) (hP : va_P D vwCl (([] : va_W)) H) (hD : va_D A (([] : va_W))) (hS : va_S A s.heap H locs) (hl : lv_has ls 1 []) : W p l e ({ frames := 0, cells := 0, slots := 0, locals := 0 } : Room) s m args below meth c H locs 0 0 (MQ below (va_Qi (fun (r : Int32) (u : va_W) => o1 = r ∧ ([] : va_W) = u) (kz_B D ty A) A) args s 0 0 A) (F0 m 31 ls [.int y0]) := by
  have C0 := C
  obtain ⟨hx, hb, hr, hts, hown, hlocks, hml, hK, hN, hE, hA⟩ := C
  unfold zX4_tokenOf_31 at h
  cases h
  exact kz_iret hx hb hr hlocks hP hK hD hS dX4_tokenOf_31 ⟨rfl, rfl⟩
set_option maxHeartbeats 4000000 in
set_option maxRecDepth 100000 in
theorem WX4_tokenOf_30 {p : Program} {l : Launch} {e : Env} {s : State} {m : MethodId} {args : Array Value} {below : List Frame} {meth : Method} {c : Code} {D : va_G} {ty : Nat → ClassId} {eo : Nat → Nat} {A : Nat → Prop} {o1 : Int32} (C : dc_C p s m args meth c cX4_tokenOf (some .int) 1 RX4 wsX4_tokenOf D ty eo A)    (H : Heap) (locs : List Loc) (ls : Array Slot) (h : zX4_tokenOf_30   = some o1) (hP : va_P D vwCl (([] : va_W)) H) (hD : va_D A (([] : va_W))) (hS : va_S A s.heap H locs) (hl : lv_has ls 1 []) : W p l e ({ frames := 0, cells := 0, slots := 0, locals := 0 } : Room) s m args below meth c H locs 0 0 (MQ below (va_Qi (fun (r : Int32) (u : va_W) => o1 = r ∧ ([] : va_W) = u) (kz_B D ty A) A) args s 0 0 A) (F0 m 30 ls []) := by
  have C0 := C
  obtain ⟨hx, hb, hr, hts, hown, hlocks, hml, hK, hN, hE, hA⟩ := C
  unfold zX4_tokenOf_30 at h
  refine lv_iconst (v := 3) hx hb dX4_tokenOf_30 (by decide) ?_
  exact WX4_tokenOf_31 C0  _ _ _ _ h hP hD hS (lv_sub hl [] rfl)
set_option maxHeartbeats 4000000 in
set_option maxRecDepth 100000 in
theorem WX4_tokenOf_14 {p : Program} {l : Launch} {e : Env} {s : State} {m : MethodId} {args : Array Value} {below : List Frame} {meth : Method} {c : Code} {D : va_G} {ty : Nat → ClassId} {eo : Nat → Nat} {A : Nat → Prop} {o1 : Int32} (C : dc_C p s m args meth c cX4_tokenOf (some .int) 1 RX4 wsX4_tokenOf D ty eo A)   (x0 : Int32) (H : Heap) (locs : List Loc) (ls : Array Slot) (h : zX4_tokenOf_14  x0 = some o1) (hP : va_P D vwCl (([] : va_W)) H) (hD : va_D A (([] : va_W))) (hS : va_S A s.heap H locs) (hl : lv_has ls 1 [(0, .int x0)]) : W p l e ({ frames := 0, cells := 0, slots := 0, locals := 0 } : Room) s m args below meth c H locs 0 0 (MQ below (va_Qi (fun (r : Int32) (u : va_W) => o1 = r ∧ ([] : va_W) = u) (kz_B D ty A) A) args s 0 0 A) (F0 m 14 ls []) := by
  have C0 := C
  obtain ⟨hx, hb, hr, hts, hown, hlocks, hml, hK, hN, hE, hA⟩ := C
  unfold zX4_tokenOf_14 at h
  refine lv_iload_n hx hb dX4_tokenOf_14 rfl (lv_at hl 0 rfl) ?_
  refine lv_bipush (v := 48) hx hb dX4_tokenOf_15 (by decide) ?_
  refine lv_icmp_lt (tgt := 30) hx hb dX4_tokenOf_17 (by decide) (fun c9 => ?_) (fun c9 => ?_)
  · rw [if_pos c9] at h
    exact WX4_tokenOf_30 C0  _ _ _ h hP hD hS (lv_sub hl [] rfl)
  · rw [if_neg c9] at h
    refine lv_iload_n hx hb dX4_tokenOf_20 rfl (lv_at hl 0 rfl) ?_
    refine lv_bipush (v := 57) hx hb dX4_tokenOf_21 (by decide) ?_
    refine lv_icmp_gt (tgt := 30) hx hb dX4_tokenOf_23 (by decide) (fun c9 => ?_) (fun c9 => ?_)
    · rw [if_pos c9] at h
      exact WX4_tokenOf_30 C0  _ _ _ h hP hD hS (lv_sub hl [] rfl)
    · rw [if_neg c9] at h
      refine lv_iconst (v := 2) hx hb dX4_tokenOf_26 (by decide) ?_
      refine lv_goto (tgt := 31) hx hb dX4_tokenOf_27 (by decide) ?_
      exact WX4_tokenOf_31 C0  _ _ _ _ h hP hD hS (lv_sub hl [] rfl)
set_option maxHeartbeats 4000000 in
set_option maxRecDepth 100000 in
theorem qX4_tokenOf (l : Launch) (D : va_G) (ty : Nat → ClassId) (eo : Nat → Nat) (sz : Nat) (p1 : Int32) (o1 : Int32) (h : zX4_tokenOf p1 = some o1) : Met l yX4_tokenOf wsX4_tokenOf ({ frames := 0, cells := 0, slots := 0, locals := 0 } : Room) (va_Pc [.int p1] (kz_pre D ty eo (([] : va_W)) sz)) (va_Qi (fun (r : Int32) (u : va_W) => o1 = r ∧ ([] : va_W) = u) (kz_B D ty (va_A (([] : va_W)) sz)) (va_A (([] : va_W)) sz)) 0 0 (va_A (([] : va_W)) sz) := by
  refine Met.ofW (cc := cX4_tokenOf) (maxL := 1) (ret := (some .int)) (by decide) rfl ?_
  intro p e s m args below meth c s₁ B hml hv
  obtain ⟨rfl, hsz, hP, hK, hD0, hN, hE⟩ := hv
  have hx := B.exec
  have hb := B.bytes
  have hr := B.returns
  have hts := atoms_spec (ws := wsX4_tokenOf) B.pre
  have hown : s.vm.findClass RX4 = some m.cls := findClass_of_methodNamed B.named
  have hlocks := B.notSynchronized
  subst hsz
  have hD := hD0.self (sz := s.heap.size)
  generalize hAe : va_A (([] : va_W)) s.heap.size = A at hD hE ⊢
  have hA : ∀ q : Nat, s.heap.size ≤ q → A q := fun q h => by rw [← hAe]; exact Or.inr h
  clear hAe
  have hS : va_S A s.heap s.heap [] := va_S.rf
  have hl := lv_entry ([.int p1]) (n := 1) (Nat.le_of_ble_eq_true rfl)
  rw [lg_entry_eq]
  generalize (lg_sl ([.int p1]) ++ List.replicate (1 - (lg_sl ([.int p1])).length) Slot.unset).toArray = ls at hl ⊢
  have hl : lv_has ls 1 [(0, .int p1)] := hl
  have C : dc_C p s m _ meth c cX4_tokenOf (some .int) 1 RX4 wsX4_tokenOf D ty eo A := ⟨hx, hb, hr, hts, hown, hlocks, hml, hK, hN, hE, hA⟩
  unfold zX4_tokenOf at h
  refine lv_iload_n hx hb dX4_tokenOf_0 rfl (lv_at hl 0 rfl) ?_
  refine lv_bipush (v := 97) hx hb dX4_tokenOf_1 (by decide) ?_
  refine lv_icmp_lt (tgt := 14) hx hb dX4_tokenOf_3 (by decide) (fun c9 => ?_) (fun c9 => ?_)
  · rw [if_pos c9] at h
    exact WX4_tokenOf_14 C  _ _ _ _ h hP hD hS (lv_sub hl [0] rfl)
  · rw [if_neg c9] at h
    refine lv_iload_n hx hb dX4_tokenOf_6 rfl (lv_at hl 0 rfl) ?_
    refine lv_bipush (v := 122) hx hb dX4_tokenOf_7 (by decide) ?_
    refine lv_icmp_gt (tgt := 14) hx hb dX4_tokenOf_9 (by decide) (fun c9 => ?_) (fun c9 => ?_)
    · rw [if_pos c9] at h
      exact WX4_tokenOf_14 C  _ _ _ _ h hP hD hS (lv_sub hl [0] rfl)
    · rw [if_neg c9] at h
      refine lv_iconst (v := 1) hx hb dX4_tokenOf_12 (by decide) ?_
      cases h
      exact kz_iret hx hb hr hlocks hP hK hD hS dX4_tokenOf_13 ⟨rfl, rfl⟩

set_option maxHeartbeats 4000000 in
set_option maxRecDepth 100000 in
theorem WX4_step_s24_216 {p : Program} {l : Launch} {e : Env} {s : State} {m : MethodId} {args : Array Value} {below : List Frame} {meth : Method} {c : Code} {D : va_G} {ty : Nat → ClassId} {eo : Nat → Nat} {A : Nat → Prop} {ad : Nat → Nat} {o2 : dK} (C : dc_C p s m args meth c cX4_step none 2 RX4 wsX4_step D ty eo A)   (q : dK)  (H : Heap) (locs : List Loc) (ls : Array Slot) (h : zX4_step_s24_216  q = some o2) (hP : va_P D vwCl (wF ty ad q) H) (hD : va_D A (wF ty ad q)) (hS : va_S A s.heap H locs) (hl : lv_has ls 2 []) : W p l e ({ frames := 1, cells := 0, slots := 0, locals := 21 } : Room) s m args below meth c H locs 0 0 (MQ below (va_Qv (fun (u : va_W) => wF ty ad o2 = u) (kz_B D ty A) A) args s 0 0 A) (F0 m 216 ls []) := by
  have C0 := C
  obtain ⟨hx, hb, hr, hts, hown, hlocks, hml, hK, hN, hE, hA⟩ := C
  unfold zX4_step_s24_216 at h
  cases h
  exact kz_vret hx hb hr hlocks hP hK hD hS dX4_step_216 rfl
set_option maxHeartbeats 4000000 in
set_option maxRecDepth 100000 in
theorem WX4_step_s24_167b {p : Program} {l : Launch} {e : Env} {s : State} {m : MethodId} {args : Array Value} {below : List Frame} {meth : Method} {c : Code} {D : va_G} {ty : Nat → ClassId} {eo : Nat → Nat} {A : Nat → Prop} {ad : Nat → Nat} {o2 : dK} (C : dc_C p s m args meth c cX4_step none 2 RX4 wsX4_step D ty eo A) {k167 : dK → Int32 → Option (dK)} (hk167 : ∀ (q : dK) (x1 : Int32) (H : Heap) (locs : List Loc) (ls : Array Slot), k167 q x1 = some o2 → va_P D vwCl (wF ty ad q) H → va_D A (wF ty ad q) → va_S A s.heap H locs → lv_has ls 2 [(0, .ref (ad 24)), (1, .int x1)] → W p l e ({ frames := 1, cells := 0, slots := 0, locals := 21 } : Room) s m args below meth c H locs 0 0 (MQ below (va_Qv (fun (u : va_W) => wF ty ad o2 = u) (kz_B D ty A) A) args s 0 0 A) (F0 m 167 ls [])) (q : dK) (x1 : Int32) (H : Heap) (locs : List Loc) (ls : Array Slot) (h : zX4_step_s24_167b k167 q x1 = some o2) (hP : va_P D vwCl (wF ty ad q) H) (hD : va_D A (wF ty ad q)) (hS : va_S A s.heap H locs) (hl : lv_has ls 2 [(0, .ref (ad 24)), (1, .int x1)]) : W p l e ({ frames := 1, cells := 0, slots := 0, locals := 21 } : Room) s m args below meth c H locs 0 0 (MQ below (va_Qv (fun (u : va_W) => wF ty ad o2 = u) (kz_B D ty A) A) args s 0 0 A) (F0 m 167 ls []) := by
  have C0 := C
  obtain ⟨hx, hb, hr, hts, hown, hlocks, hml, hK, hN, hE, hA⟩ := C
  unfold zX4_step_s24_167b at h
  refine lv_iload_n hx hb dX4_step_167 rfl (lv_at hl 1 rfl) ?_
  refine lv_aload_n hx hb dX4_step_168 rfl (lv_at hl 0 rfl) ?_
  refine va_get (D := D) (ci := 4) (v := .int (q.1 24 6)) (C := RX4) (T := TX4) (N := 11) hx hb hts u9_wsX4_step_X4 hown hK hP 24 rfl rfl 6 (by decide) (hts (.fieldLink RX4 33 "TurnedFloors$Reader" "stop" "I") f9_wsX4_step_462) (fun _ h9 => h9) rfl dX4_step_169 ?_
  refine lv_icmp_ge (tgt := 216) hx hb dX4_step_172 (by decide) (fun c9 => ?_) (fun c9 => ?_)
  · rw [if_pos c9] at h
    exact WX4_step_s24_216 C0  _ _ _ _ h hP hD hS (lv_sub hl [] rfl)
  · rw [if_neg c9] at h
    refine lv_aload_n hx hb dX4_step_175 rfl (lv_at hl 0 rfl) ?_
    refine va_get (D := D) (ci := 4) (v := .int (q.1 24 4)) (C := RX4) (T := TX4) (N := 11) hx hb hts u9_wsX4_step_X4 hown hK hP 24 rfl rfl 4 (by decide) (hts (.fieldLink RX4 27 "TurnedFloors$Reader" "token" "I") f9_wsX4_step_463) (fun _ h9 => h9) rfl dX4_step_176 ?_
    refine lv_iconst (v := 2) hx hb dX4_step_179 (by decide) ?_
    refine lv_icmp_ne (tgt := 216) hx hb dX4_step_180 (by decide) (fun c9 => ?_) (fun c9 => ?_)
    · rw [if_neg c9] at h
      exact WX4_step_s24_216 C0  _ _ _ _ h hP hD hS (lv_sub hl [] rfl)
    · rw [if_pos c9] at h
      refine lv_aload_n hx hb dX4_step_183 rfl (lv_at hl 0 rfl) ?_
      refine lv_sipush (v := 1001) hx hb dX4_step_184 (by decide) ?_
      refine lv_aload_n hx hb dX4_step_187 rfl (lv_at hl 0 rfl) ?_
      refine va_get (D := D) (ci := 4) (v := .int (q.1 24 7)) (C := RX4) (T := TX4) (N := 11) hx hb hts u9_wsX4_step_X4 hown hK hP 24 rfl rfl 7 (by decide) (hts (.fieldLink RX4 36 "TurnedFloors$Reader" "number" "I") f9_wsX4_step_464) (fun _ h9 => h9) rfl dX4_step_188 ?_
      refine lv_bipush (v := 10) hx hb dX4_step_191 (by decide) ?_
      refine lv_imul hx hb dX4_step_193 ?_
      refine lv_aload_n hx hb dX4_step_194 rfl (lv_at hl 0 rfl) ?_
      refine va_get (D := D) (ci := 4) (v := dN (ad 46) (q.1 24 0)) (C := RX4) (T := TX4) (N := 11) hx hb hts u9_wsX4_step_X4 hown hK hP 24 rfl rfl 0 (by decide) (hts (.fieldLink RX4 9 "TurnedFloors$Reader" "bytes" "[I") f9_wsX4_step_465) (fun _ h9 => h9) rfl dX4_step_195 ?_
      obtain ⟨g1, h⟩ := dG_some h
      refine kz_topv (if_neg (dnz_ne g1)) ?_
      refine lv_iload_n hx hb dX4_step_198 rfl (lv_at hl 1 rfl) ?_
      obtain ⟨g2, h⟩ := dG_some h
      refine va_iald hx hb hK hP 46 0 rfl rfl (dg_in g2) dX4_step_199 ?_
      obtain ⟨v3, ev3, h⟩ := dL_some h
      refine kz_topi v3 ev3 ?_
      refine lv_iadd hx hb dX4_step_200 ?_
      refine lv_bipush (v := 48) hx hb dX4_step_201 (by decide) ?_
      refine lv_isub hx hb dX4_step_203 ?_
      refine va_mmin hx hb (hml.trans hl.1.symm) hown (hts (.methodLink RX4 48 Lib.Math.min.name) f9_wsX4_step_466) (hts (.static Lib.Math.min.name) f9_wsX4_step_467) (hts (.initialized "java/lang/Math") f9_wsX4_step_468) (hts (.code Lib.Math.min.name Lib.Math.min.code 2 (some .int)) f9_wsX4_step_469) (Nat.le_of_ble_eq_true rfl) (Nat.le_of_ble_eq_true rfl) (Nat.le_of_ble_eq_true rfl) (Nat.le_of_ble_eq_true rfl) dX4_step_204 ?_
      refine kz_topi (mnI 1001 ((((q.1 24 7) * 10 : Int32) + v3) - 48 : Int32)) rfl ?_
      refine va_put (D := D) (ci := 4) (v := .int (mnI 1001 ((((q.1 24 7) * 10 : Int32) + v3) - 48 : Int32))) (ty := .int) (C := RX4) (T := TX4) (N := 11) hx hb hts u9_wsX4_step_X4 tyX4 tyX4_ok nmX4 hown hK hP hD hS 24 rfl rfl 7 (by decide) (hts (.fieldLink RX4 36 "TurnedFloors$Reader" "number" "I") f9_wsX4_step_464) (fun _ h9 => h9) rfl (by decide +kernel) rfl rfl (Nat.le_of_ble_eq_true rfl) dX4_step_207 (fun H locs hp hd hs => ?_)
      obtain ⟨q4, eq4, h⟩ := dL_some h
      refine kz_re (w2 := wF ty ad q4) hp hd hs (by rw [← eq4]; exact wF_f24_7 ty ad q (mnI 1001 ((((q.1 24 7) * 10 : Int32) + v3) - 48 : Int32))) ?_
      clear hp hd hs hP hD hS
      intro hP hD hS
      refine lv_iinc (v := x1 + 1) (lv' := [(1, .int (x1 + 1)), (0, .ref (ad 24))]) hx hb dX4_step_210 hl (k := 1) rfl rfl (by decide) rfl (fun ls hl => ?_)
      refine lv_goto (tgt := 167) hx hb dX4_step_213 (by decide) ?_
      exact hk167 _ _ _ _ _ h hP hD hS (lv_sub hl [1, 0] rfl)
set_option maxHeartbeats 4000000 in
set_option maxRecDepth 100000 in
theorem WX4_step_s24_167 {p : Program} {l : Launch} {e : Env} {s : State} {m : MethodId} {args : Array Value} {below : List Frame} {meth : Method} {c : Code} {D : va_G} {ty : Nat → ClassId} {eo : Nat → Nat} {A : Nat → Prop} {ad : Nat → Nat} {o2 : dK} (C : dc_C p s m args meth c cX4_step none 2 RX4 wsX4_step D ty eo A)   (n : Nat) (q : dK) (x1 : Int32) (H : Heap) (locs : List Loc) (ls : Array Slot) (h : zX4_step_s24_167  n q x1 = some o2) (hP : va_P D vwCl (wF ty ad q) H) (hD : va_D A (wF ty ad q)) (hS : va_S A s.heap H locs) (hl : lv_has ls 2 [(0, .ref (ad 24)), (1, .int x1)]) : W p l e ({ frames := 1, cells := 0, slots := 0, locals := 21 } : Room) s m args below meth c H locs 0 0 (MQ below (va_Qv (fun (u : va_W) => wF ty ad o2 = u) (kz_B D ty A) A) args s 0 0 A) (F0 m 167 ls []) := by
  exact dFix_W (F := fun k (a : dK × Int32) => zX4_step_s24_167b  (fun q x1 => k (q, x1)) a.1 a.2) (o := o2) (P := fun (a : dK × Int32) H locs ls => va_P D vwCl (wF ty ad a.1) H ∧ va_D A (wF ty ad a.1) ∧ va_S A s.heap H locs ∧ lv_has ls 2 [(0, .ref (ad 24)), (1, .int a.2)]) (G := fun H locs ls => W p l e ({ frames := 1, cells := 0, slots := 0, locals := 21 } : Room) s m args below meth c H locs 0 0 (MQ below (va_Qv (fun (u : va_W) => wF ty ad o2 = u) (kz_B D ty A) A) args s 0 0 A) (F0 m 167 ls []))
    (fun k hk a H locs ls h hp => WX4_step_s24_167b C  (fun q x1 H locs ls h h1 h2 h3 h4 => hk (q, x1) H locs ls h ⟨h1, h2, h3, h4⟩) a.1 a.2 H locs ls h hp.1 hp.2.1 hp.2.2.1 hp.2.2.2) n (q, x1) H locs ls h ⟨hP, hD, hS, hl⟩
set_option maxHeartbeats 4000000 in
set_option maxRecDepth 100000 in
theorem WX4_step_s24_162 {p : Program} {l : Launch} {e : Env} {s : State} {m : MethodId} {args : Array Value} {below : List Frame} {meth : Method} {c : Code} {D : va_G} {ty : Nat → ClassId} {eo : Nat → Nat} {A : Nat → Prop} {ad : Nat → Nat} {o2 : dK} (C : dc_C p s m args meth c cX4_step none 2 RX4 wsX4_step D ty eo A)   (q : dK)  (H : Heap) (locs : List Loc) (ls : Array Slot) (h : zX4_step_s24_162  q = some o2) (hP : va_P D vwCl (wF ty ad q) H) (hD : va_D A (wF ty ad q)) (hS : va_S A s.heap H locs) (hl : lv_has ls 2 [(0, .ref (ad 24))]) : W p l e ({ frames := 1, cells := 0, slots := 0, locals := 21 } : Room) s m args below meth c H locs 0 0 (MQ below (va_Qv (fun (u : va_W) => wF ty ad o2 = u) (kz_B D ty A) A) args s 0 0 A) (F0 m 162 ls []) := by
  have C0 := C
  obtain ⟨hx, hb, hr, hts, hown, hlocks, hml, hK, hN, hE, hA⟩ := C
  unfold zX4_step_s24_162 at h
  refine lv_aload_n hx hb dX4_step_162 rfl (lv_at hl 0 rfl) ?_
  refine va_get (D := D) (ci := 4) (v := .int (q.1 24 5)) (C := RX4) (T := TX4) (N := 11) hx hb hts u9_wsX4_step_X4 hown hK hP 24 rfl rfl 5 (by decide) (hts (.fieldLink RX4 30 "TurnedFloors$Reader" "start" "I") f9_wsX4_step_470) (fun _ h9 => h9) rfl dX4_step_163 ?_
  refine lv_istore_n (lv' := [(1, .int (q.1 24 5)), (0, .ref (ad 24))]) hx hb dX4_step_166 rfl hl (by decide) rfl (fun ls hl => ?_)
  exact WX4_step_s24_167 C0  _ _ _ _ _ _ h hP hD hS (lv_sub hl [1, 0] rfl)
set_option maxHeartbeats 4000000 in
set_option maxRecDepth 100000 in
theorem WX4_step_s24_111b {p : Program} {l : Launch} {e : Env} {s : State} {m : MethodId} {args : Array Value} {below : List Frame} {meth : Method} {c : Code} {D : va_G} {ty : Nat → ClassId} {eo : Nat → Nat} {A : Nat → Prop} {ad : Nat → Nat} {o2 : dK} (C : dc_C p s m args meth c cX4_step none 2 RX4 wsX4_step D ty eo A) {k111 : dK → Option (dK)} (hk111 : ∀ (q : dK)  (H : Heap) (locs : List Loc) (ls : Array Slot), k111 q = some o2 → va_P D vwCl (wF ty ad q) H → va_D A (wF ty ad q) → va_S A s.heap H locs → lv_has ls 2 [(0, .ref (ad 24))] → W p l e ({ frames := 1, cells := 0, slots := 0, locals := 21 } : Room) s m args below meth c H locs 0 0 (MQ below (va_Qv (fun (u : va_W) => wF ty ad o2 = u) (kz_B D ty A) A) args s 0 0 A) (F0 m 111 ls [])) (q : dK)  (H : Heap) (locs : List Loc) (ls : Array Slot) (h : zX4_step_s24_111b k111 q = some o2) (hP : va_P D vwCl (wF ty ad q) H) (hD : va_D A (wF ty ad q)) (hS : va_S A s.heap H locs) (hl : lv_has ls 2 [(0, .ref (ad 24))]) : W p l e ({ frames := 1, cells := 0, slots := 0, locals := 21 } : Room) s m args below meth c H locs 0 0 (MQ below (va_Qv (fun (u : va_W) => wF ty ad o2 = u) (kz_B D ty A) A) args s 0 0 A) (F0 m 111 ls []) := by
  have C0 := C
  obtain ⟨hx, hb, hr, hts, hown, hlocks, hml, hK, hN, hE, hA⟩ := C
  unfold zX4_step_s24_111b at h
  refine lv_aload_n hx hb dX4_step_111 rfl (lv_at hl 0 rfl) ?_
  refine va_get (D := D) (ci := 4) (v := .int (q.1 24 6)) (C := RX4) (T := TX4) (N := 11) hx hb hts u9_wsX4_step_X4 hown hK hP 24 rfl rfl 6 (by decide) (hts (.fieldLink RX4 33 "TurnedFloors$Reader" "stop" "I") f9_wsX4_step_462) (fun _ h9 => h9) rfl dX4_step_112 ?_
  refine lv_aload_n hx hb dX4_step_115 rfl (lv_at hl 0 rfl) ?_
  refine va_get (D := D) (ci := 4) (v := .int (q.1 24 1)) (C := RX4) (T := TX4) (N := 11) hx hb hts u9_wsX4_step_X4 hown hK hP 24 rfl rfl 1 (by decide) (hts (.fieldLink RX4 15 "TurnedFloors$Reader" "length" "I") f9_wsX4_step_471) (fun _ h9 => h9) rfl dX4_step_116 ?_
  refine lv_icmp_ge (tgt := 162) hx hb dX4_step_119 (by decide) (fun c9 => ?_) (fun c9 => ?_)
  · rw [if_pos c9] at h
    exact WX4_step_s24_162 C0  _ _ _ _ h hP hD hS (lv_sub hl [0] rfl)
  · rw [if_neg c9] at h
    refine lv_aload_n hx hb dX4_step_122 rfl (lv_at hl 0 rfl) ?_
    refine va_get (D := D) (ci := 4) (v := .int (q.1 24 4)) (C := RX4) (T := TX4) (N := 11) hx hb hts u9_wsX4_step_X4 hown hK hP 24 rfl rfl 4 (by decide) (hts (.fieldLink RX4 27 "TurnedFloors$Reader" "token" "I") f9_wsX4_step_463) (fun _ h9 => h9) rfl dX4_step_123 ?_
    refine lv_iconst (v := 3) hx hb dX4_step_126 (by decide) ?_
    refine lv_icmp_eq (tgt := 162) hx hb dX4_step_127 (by decide) (fun c9 => ?_) (fun c9 => ?_)
    · rw [if_pos c9] at h
      exact WX4_step_s24_162 C0  _ _ _ _ h hP hD hS (lv_sub hl [0] rfl)
    · rw [if_neg c9] at h
      refine lv_aload_n hx hb dX4_step_130 rfl (lv_at hl 0 rfl) ?_
      refine va_get (D := D) (ci := 4) (v := dN (ad 46) (q.1 24 0)) (C := RX4) (T := TX4) (N := 11) hx hb hts u9_wsX4_step_X4 hown hK hP 24 rfl rfl 0 (by decide) (hts (.fieldLink RX4 9 "TurnedFloors$Reader" "bytes" "[I") f9_wsX4_step_465) (fun _ h9 => h9) rfl dX4_step_131 ?_
      obtain ⟨g1, h⟩ := dG_some h
      refine kz_topv (if_neg (dnz_ne g1)) ?_
      refine lv_aload_n hx hb dX4_step_134 rfl (lv_at hl 0 rfl) ?_
      refine va_get (D := D) (ci := 4) (v := .int (q.1 24 6)) (C := RX4) (T := TX4) (N := 11) hx hb hts u9_wsX4_step_X4 hown hK hP 24 rfl rfl 6 (by decide) (hts (.fieldLink RX4 33 "TurnedFloors$Reader" "stop" "I") f9_wsX4_step_462) (fun _ h9 => h9) rfl dX4_step_135 ?_
      obtain ⟨g2, h⟩ := dG_some h
      refine va_iald hx hb hK hP 46 0 rfl rfl (dg_in g2) dX4_step_138 ?_
      obtain ⟨v3, ev3, h⟩ := dL_some h
      refine kz_topi v3 ev3 ?_
      obtain ⟨r4, h5, h⟩ := dV_some h
      refine dw_ks (va_runS (As := [.int v3]) (rest := []) ⟨hx, hb, hml, hown, hts⟩ (qX4_tokenOf l D ty eo _ v3 _ h5) (va_cwS 1 hts gX4_step_X4_tokenOf rfl rfl rfl hd_X4_tokenOf ⟨Nat.le_of_ble_eq_true rfl, Nat.le_of_ble_eq_true rfl⟩) (pvS_0 hK hN hE hP hD hS hA) rfl rfl hl.1 rfl (lv_room (Nat.le_of_ble_eq_true rfl)) dX4_step_139 ⟨Nat.le_of_ble_eq_true rfl, Nat.le_of_ble_eq_true rfl⟩) hP hD hS hA (fun _ _ h9 => h9.2.symm) (fun r9 u9 H locs hw hp hd hs => ?_)
      obtain ⟨rfl, -⟩ := hw
      clear hP hD hS
      have hP := hp; have hD := hd; have hS := hs; clear hp hd hs
      refine lv_aload_n hx hb dX4_step_142 rfl (lv_at hl 0 rfl) ?_
      refine va_get (D := D) (ci := 4) (v := .int (q.1 24 4)) (C := RX4) (T := TX4) (N := 11) hx hb hts u9_wsX4_step_X4 hown hK hP 24 rfl rfl 4 (by decide) (hts (.fieldLink RX4 27 "TurnedFloors$Reader" "token" "I") f9_wsX4_step_463) (fun _ h9 => h9) rfl dX4_step_143 ?_
      refine lv_icmp_ne (tgt := 162) hx hb dX4_step_146 (by decide) (fun c9 => ?_) (fun c9 => ?_)
      · rw [if_neg c9] at h
        exact WX4_step_s24_162 C0  _ _ _ _ h hP hD hS (lv_sub hl [0] rfl)
      · rw [if_pos c9] at h
        refine lv_aload_n hx hb dX4_step_149 rfl (lv_at hl 0 rfl) ?_
        refine lv_dup hx hb dX4_step_150 rfl ?_
        refine va_get (D := D) (ci := 4) (v := .int (q.1 24 6)) (C := RX4) (T := TX4) (N := 11) hx hb hts u9_wsX4_step_X4 hown hK hP 24 rfl rfl 6 (by decide) (hts (.fieldLink RX4 33 "TurnedFloors$Reader" "stop" "I") f9_wsX4_step_462) (fun _ h9 => h9) rfl dX4_step_151 ?_
        refine lv_iconst (v := 1) hx hb dX4_step_154 (by decide) ?_
        refine lv_iadd hx hb dX4_step_155 ?_
        refine va_put (D := D) (ci := 4) (v := .int ((q.1 24 6) + 1 : Int32)) (ty := .int) (C := RX4) (T := TX4) (N := 11) hx hb hts u9_wsX4_step_X4 tyX4 tyX4_ok nmX4 hown hK hP hD hS 24 rfl rfl 6 (by decide) (hts (.fieldLink RX4 33 "TurnedFloors$Reader" "stop" "I") f9_wsX4_step_462) (fun _ h9 => h9) rfl (by decide +kernel) rfl rfl (Nat.le_of_ble_eq_true rfl) dX4_step_156 (fun H locs hp hd hs => ?_)
        obtain ⟨q6, eq6, h⟩ := dL_some h
        refine kz_re (w2 := wF ty ad q6) hp hd hs (by rw [← eq6]; exact wF_f24_6 ty ad q ((q.1 24 6) + 1 : Int32)) ?_
        clear hp hd hs hP hD hS
        intro hP hD hS
        refine lv_goto (tgt := 111) hx hb dX4_step_159 (by decide) ?_
        exact hk111 _ _ _ _ h hP hD hS (lv_sub hl [0] rfl)
set_option maxHeartbeats 4000000 in
set_option maxRecDepth 100000 in
theorem WX4_step_s24_111 {p : Program} {l : Launch} {e : Env} {s : State} {m : MethodId} {args : Array Value} {below : List Frame} {meth : Method} {c : Code} {D : va_G} {ty : Nat → ClassId} {eo : Nat → Nat} {A : Nat → Prop} {ad : Nat → Nat} {o2 : dK} (C : dc_C p s m args meth c cX4_step none 2 RX4 wsX4_step D ty eo A)   (n : Nat) (q : dK)  (H : Heap) (locs : List Loc) (ls : Array Slot) (h : zX4_step_s24_111  n q = some o2) (hP : va_P D vwCl (wF ty ad q) H) (hD : va_D A (wF ty ad q)) (hS : va_S A s.heap H locs) (hl : lv_has ls 2 [(0, .ref (ad 24))]) : W p l e ({ frames := 1, cells := 0, slots := 0, locals := 21 } : Room) s m args below meth c H locs 0 0 (MQ below (va_Qv (fun (u : va_W) => wF ty ad o2 = u) (kz_B D ty A) A) args s 0 0 A) (F0 m 111 ls []) := by
  exact dFix_W (F := fun k (a : dK) => zX4_step_s24_111b  (fun q => k (q)) a) (o := o2) (P := fun (a : dK) H locs ls => va_P D vwCl (wF ty ad a) H ∧ va_D A (wF ty ad a) ∧ va_S A s.heap H locs ∧ lv_has ls 2 [(0, .ref (ad 24))]) (G := fun H locs ls => W p l e ({ frames := 1, cells := 0, slots := 0, locals := 21 } : Room) s m args below meth c H locs 0 0 (MQ below (va_Qv (fun (u : va_W) => wF ty ad o2 = u) (kz_B D ty A) A) args s 0 0 A) (F0 m 111 ls []))
    (fun k hk a H locs ls h hp => WX4_step_s24_111b C  (fun q H locs ls h h1 h2 h3 h4 => hk (q) H locs ls h ⟨h1, h2, h3, h4⟩) a H locs ls h hp.1 hp.2.1 hp.2.2.1 hp.2.2.2) n (q) H locs ls h ⟨hP, hD, hS, hl⟩
set_option maxHeartbeats 4000000 in
set_option maxRecDepth 100000 in
theorem WX4_step_s24_55 {p : Program} {l : Launch} {e : Env} {s : State} {m : MethodId} {args : Array Value} {below : List Frame} {meth : Method} {c : Code} {D : va_G} {ty : Nat → ClassId} {eo : Nat → Nat} {A : Nat → Prop} {ad : Nat → Nat} {o2 : dK} (C : dc_C p s m args meth c cX4_step none 2 RX4 wsX4_step D ty eo A)   (q : dK)  (H : Heap) (locs : List Loc) (ls : Array Slot) (h : zX4_step_s24_55  q = some o2) (hP : va_P D vwCl (wF ty ad q) H) (hD : va_D A (wF ty ad q)) (hS : va_S A s.heap H locs) (hl : lv_has ls 2 [(0, .ref (ad 24))]) : W p l e ({ frames := 1, cells := 0, slots := 0, locals := 21 } : Room) s m args below meth c H locs 0 0 (MQ below (va_Qv (fun (u : va_W) => wF ty ad o2 = u) (kz_B D ty A) A) args s 0 0 A) (F0 m 55 ls []) := by
  have C0 := C
  obtain ⟨hx, hb, hr, hts, hown, hlocks, hml, hK, hN, hE, hA⟩ := C
  unfold zX4_step_s24_55 at h
  refine lv_aload_n hx hb dX4_step_55 rfl (lv_at hl 0 rfl) ?_
  refine lv_aload_n hx hb dX4_step_56 rfl (lv_at hl 0 rfl) ?_
  refine va_get (D := D) (ci := 4) (v := .int (q.1 24 5)) (C := RX4) (T := TX4) (N := 11) hx hb hts u9_wsX4_step_X4 hown hK hP 24 rfl rfl 5 (by decide) (hts (.fieldLink RX4 30 "TurnedFloors$Reader" "start" "I") f9_wsX4_step_470) (fun _ h9 => h9) rfl dX4_step_57 ?_
  refine va_put (D := D) (ci := 4) (v := .int (q.1 24 5)) (ty := .int) (C := RX4) (T := TX4) (N := 11) hx hb hts u9_wsX4_step_X4 tyX4 tyX4_ok nmX4 hown hK hP hD hS 24 rfl rfl 6 (by decide) (hts (.fieldLink RX4 33 "TurnedFloors$Reader" "stop" "I") f9_wsX4_step_462) (fun _ h9 => h9) rfl (by decide +kernel) rfl rfl (Nat.le_of_ble_eq_true rfl) dX4_step_60 (fun H locs hp hd hs => ?_)
  obtain ⟨q1, eq1, h⟩ := dL_some h
  refine kz_re (w2 := wF ty ad q1) hp hd hs (by rw [← eq1]; exact wF_f24_6 ty ad q (q.1 24 5)) ?_
  clear hp hd hs hP hD hS
  intro hP hD hS
  refine lv_aload_n hx hb dX4_step_63 rfl (lv_at hl 0 rfl) ?_
  refine lv_iconst (v := 0) hx hb dX4_step_64 (by decide) ?_
  refine va_put (D := D) (ci := 4) (v := .int 0) (ty := .int) (C := RX4) (T := TX4) (N := 11) hx hb hts u9_wsX4_step_X4 tyX4 tyX4_ok nmX4 hown hK hP hD hS 24 rfl rfl 7 (by decide) (hts (.fieldLink RX4 36 "TurnedFloors$Reader" "number" "I") f9_wsX4_step_464) (fun _ h9 => h9) rfl (by decide +kernel) rfl rfl (Nat.le_of_ble_eq_true rfl) dX4_step_65 (fun H locs hp hd hs => ?_)
  obtain ⟨q2, eq2, h⟩ := dL_some h
  refine kz_re (w2 := wF ty ad q2) hp hd hs (by rw [← eq2]; exact wF_f24_7 ty ad q1 0) ?_
  clear hp hd hs hP hD hS
  intro hP hD hS
  refine lv_aload_n hx hb dX4_step_68 rfl (lv_at hl 0 rfl) ?_
  refine lv_iconst (v := 0) hx hb dX4_step_69 (by decide) ?_
  refine va_put (D := D) (ci := 4) (v := .int 0) (ty := .int) (C := RX4) (T := TX4) (N := 11) hx hb hts u9_wsX4_step_X4 tyX4 tyX4_ok nmX4 hown hK hP hD hS 24 rfl rfl 4 (by decide) (hts (.fieldLink RX4 27 "TurnedFloors$Reader" "token" "I") f9_wsX4_step_463) (fun _ h9 => h9) rfl (by decide +kernel) rfl rfl (Nat.le_of_ble_eq_true rfl) dX4_step_70 (fun H locs hp hd hs => ?_)
  obtain ⟨q3, eq3, h⟩ := dL_some h
  refine kz_re (w2 := wF ty ad q3) hp hd hs (by rw [← eq3]; exact wF_f24_4 ty ad q2 0) ?_
  clear hp hd hs hP hD hS
  intro hP hD hS
  refine lv_aload_n hx hb dX4_step_73 rfl (lv_at hl 0 rfl) ?_
  refine va_get (D := D) (ci := 4) (v := .int (q3.1 24 5)) (C := RX4) (T := TX4) (N := 11) hx hb hts u9_wsX4_step_X4 hown hK hP 24 rfl rfl 5 (by decide) (hts (.fieldLink RX4 30 "TurnedFloors$Reader" "start" "I") f9_wsX4_step_470) (fun _ h9 => h9) rfl dX4_step_74 ?_
  refine lv_aload_n hx hb dX4_step_77 rfl (lv_at hl 0 rfl) ?_
  refine va_get (D := D) (ci := 4) (v := .int (q3.1 24 1)) (C := RX4) (T := TX4) (N := 11) hx hb hts u9_wsX4_step_X4 hown hK hP 24 rfl rfl 1 (by decide) (hts (.fieldLink RX4 15 "TurnedFloors$Reader" "length" "I") f9_wsX4_step_471) (fun _ h9 => h9) rfl dX4_step_78 ?_
  refine lv_icmp_lt (tgt := 85) hx hb dX4_step_81 (by decide) (fun c9 => ?_) (fun c9 => ?_)
  · rw [if_pos c9] at h
    refine lv_aload_n hx hb dX4_step_85 rfl (lv_at hl 0 rfl) ?_
    refine lv_aload_n hx hb dX4_step_86 rfl (lv_at hl 0 rfl) ?_
    refine va_get (D := D) (ci := 4) (v := dN (ad 46) (q3.1 24 0)) (C := RX4) (T := TX4) (N := 11) hx hb hts u9_wsX4_step_X4 hown hK hP 24 rfl rfl 0 (by decide) (hts (.fieldLink RX4 9 "TurnedFloors$Reader" "bytes" "[I") f9_wsX4_step_465) (fun _ h9 => h9) rfl dX4_step_87 ?_
    obtain ⟨g4, h⟩ := dG_some h
    refine kz_topv (if_neg (dnz_ne g4)) ?_
    refine lv_aload_n hx hb dX4_step_90 rfl (lv_at hl 0 rfl) ?_
    refine va_get (D := D) (ci := 4) (v := .int (q3.1 24 5)) (C := RX4) (T := TX4) (N := 11) hx hb hts u9_wsX4_step_X4 hown hK hP 24 rfl rfl 5 (by decide) (hts (.fieldLink RX4 30 "TurnedFloors$Reader" "start" "I") f9_wsX4_step_470) (fun _ h9 => h9) rfl dX4_step_91 ?_
    obtain ⟨g5, h⟩ := dG_some h
    refine va_iald hx hb hK hP 46 0 rfl rfl (dg_in g5) dX4_step_94 ?_
    obtain ⟨v6, ev6, h⟩ := dL_some h
    refine kz_topi v6 ev6 ?_
    obtain ⟨r7, h8, h⟩ := dV_some h
    refine dw_ks (va_runS (As := [.int v6]) (rest := [.ref (ad 24)]) ⟨hx, hb, hml, hown, hts⟩ (qX4_tokenOf l D ty eo _ v6 _ h8) (va_cwS 1 hts gX4_step_X4_tokenOf rfl rfl rfl hd_X4_tokenOf ⟨Nat.le_of_ble_eq_true rfl, Nat.le_of_ble_eq_true rfl⟩) (pvS_0 hK hN hE hP hD hS hA) rfl rfl hl.1 rfl (lv_room (Nat.le_of_ble_eq_true rfl)) dX4_step_95 ⟨Nat.le_of_ble_eq_true rfl, Nat.le_of_ble_eq_true rfl⟩) hP hD hS hA (fun _ _ h9 => h9.2.symm) (fun r9 u9 H locs hw hp hd hs => ?_)
    obtain ⟨rfl, -⟩ := hw
    clear hP hD hS
    have hP := hp; have hD := hd; have hS := hs; clear hp hd hs
    refine va_put (D := D) (ci := 4) (v := .int r7) (ty := .int) (C := RX4) (T := TX4) (N := 11) hx hb hts u9_wsX4_step_X4 tyX4 tyX4_ok nmX4 hown hK hP hD hS 24 rfl rfl 4 (by decide) (hts (.fieldLink RX4 27 "TurnedFloors$Reader" "token" "I") f9_wsX4_step_463) (fun _ h9 => h9) rfl (by decide +kernel) rfl rfl (Nat.le_of_ble_eq_true rfl) dX4_step_98 (fun H locs hp hd hs => ?_)
    obtain ⟨q9, eq9, h⟩ := dL_some h
    refine kz_re (w2 := wF ty ad q9) hp hd hs (by rw [← eq9]; exact wF_f24_4 ty ad q3 r7) ?_
    clear hp hd hs hP hD hS
    intro hP hD hS
    refine lv_aload_n hx hb dX4_step_101 rfl (lv_at hl 0 rfl) ?_
    refine lv_dup hx hb dX4_step_102 rfl ?_
    refine va_get (D := D) (ci := 4) (v := .int (q9.1 24 6)) (C := RX4) (T := TX4) (N := 11) hx hb hts u9_wsX4_step_X4 hown hK hP 24 rfl rfl 6 (by decide) (hts (.fieldLink RX4 33 "TurnedFloors$Reader" "stop" "I") f9_wsX4_step_462) (fun _ h9 => h9) rfl dX4_step_103 ?_
    refine lv_iconst (v := 1) hx hb dX4_step_106 (by decide) ?_
    refine lv_iadd hx hb dX4_step_107 ?_
    refine va_put (D := D) (ci := 4) (v := .int ((q9.1 24 6) + 1 : Int32)) (ty := .int) (C := RX4) (T := TX4) (N := 11) hx hb hts u9_wsX4_step_X4 tyX4 tyX4_ok nmX4 hown hK hP hD hS 24 rfl rfl 6 (by decide) (hts (.fieldLink RX4 33 "TurnedFloors$Reader" "stop" "I") f9_wsX4_step_462) (fun _ h9 => h9) rfl (by decide +kernel) rfl rfl (Nat.le_of_ble_eq_true rfl) dX4_step_108 (fun H locs hp hd hs => ?_)
    obtain ⟨q10, eq10, h⟩ := dL_some h
    refine kz_re (w2 := wF ty ad q10) hp hd hs (by rw [← eq10]; exact wF_f24_6 ty ad q9 ((q9.1 24 6) + 1 : Int32)) ?_
    clear hp hd hs hP hD hS
    intro hP hD hS
    exact WX4_step_s24_111 C0  _ _ _ _ _ h hP hD hS (lv_sub hl [0] rfl)
  · rw [if_neg c9] at h
    cases h
    exact kz_vret hx hb hr hlocks hP hK hD hS dX4_step_84 rfl
set_option maxHeartbeats 4000000 in
set_option maxRecDepth 100000 in
theorem WX4_step_s24_17b {p : Program} {l : Launch} {e : Env} {s : State} {m : MethodId} {args : Array Value} {below : List Frame} {meth : Method} {c : Code} {D : va_G} {ty : Nat → ClassId} {eo : Nat → Nat} {A : Nat → Prop} {ad : Nat → Nat} {o2 : dK} (C : dc_C p s m args meth c cX4_step none 2 RX4 wsX4_step D ty eo A) {k17 : dK → Option (dK)} (hk17 : ∀ (q : dK)  (H : Heap) (locs : List Loc) (ls : Array Slot), k17 q = some o2 → va_P D vwCl (wF ty ad q) H → va_D A (wF ty ad q) → va_S A s.heap H locs → lv_has ls 2 [(0, .ref (ad 24))] → W p l e ({ frames := 1, cells := 0, slots := 0, locals := 21 } : Room) s m args below meth c H locs 0 0 (MQ below (va_Qv (fun (u : va_W) => wF ty ad o2 = u) (kz_B D ty A) A) args s 0 0 A) (F0 m 17 ls [])) (q : dK)  (H : Heap) (locs : List Loc) (ls : Array Slot) (h : zX4_step_s24_17b k17 q = some o2) (hP : va_P D vwCl (wF ty ad q) H) (hD : va_D A (wF ty ad q)) (hS : va_S A s.heap H locs) (hl : lv_has ls 2 [(0, .ref (ad 24))]) : W p l e ({ frames := 1, cells := 0, slots := 0, locals := 21 } : Room) s m args below meth c H locs 0 0 (MQ below (va_Qv (fun (u : va_W) => wF ty ad o2 = u) (kz_B D ty A) A) args s 0 0 A) (F0 m 17 ls []) := by
  have C0 := C
  obtain ⟨hx, hb, hr, hts, hown, hlocks, hml, hK, hN, hE, hA⟩ := C
  unfold zX4_step_s24_17b at h
  refine lv_aload_n hx hb dX4_step_17 rfl (lv_at hl 0 rfl) ?_
  refine va_get (D := D) (ci := 4) (v := .int (q.1 24 5)) (C := RX4) (T := TX4) (N := 11) hx hb hts u9_wsX4_step_X4 hown hK hP 24 rfl rfl 5 (by decide) (hts (.fieldLink RX4 30 "TurnedFloors$Reader" "start" "I") f9_wsX4_step_470) (fun _ h9 => h9) rfl dX4_step_18 ?_
  refine lv_aload_n hx hb dX4_step_21 rfl (lv_at hl 0 rfl) ?_
  refine va_get (D := D) (ci := 4) (v := .int (q.1 24 1)) (C := RX4) (T := TX4) (N := 11) hx hb hts u9_wsX4_step_X4 hown hK hP 24 rfl rfl 1 (by decide) (hts (.fieldLink RX4 15 "TurnedFloors$Reader" "length" "I") f9_wsX4_step_471) (fun _ h9 => h9) rfl dX4_step_22 ?_
  refine lv_icmp_ge (tgt := 55) hx hb dX4_step_25 (by decide) (fun c9 => ?_) (fun c9 => ?_)
  · rw [if_pos c9] at h
    exact WX4_step_s24_55 C0  _ _ _ _ h hP hD hS (lv_sub hl [0] rfl)
  · rw [if_neg c9] at h
    refine lv_aload_n hx hb dX4_step_28 rfl (lv_at hl 0 rfl) ?_
    refine va_get (D := D) (ci := 4) (v := dN (ad 46) (q.1 24 0)) (C := RX4) (T := TX4) (N := 11) hx hb hts u9_wsX4_step_X4 hown hK hP 24 rfl rfl 0 (by decide) (hts (.fieldLink RX4 9 "TurnedFloors$Reader" "bytes" "[I") f9_wsX4_step_465) (fun _ h9 => h9) rfl dX4_step_29 ?_
    obtain ⟨g1, h⟩ := dG_some h
    refine kz_topv (if_neg (dnz_ne g1)) ?_
    refine lv_aload_n hx hb dX4_step_32 rfl (lv_at hl 0 rfl) ?_
    refine va_get (D := D) (ci := 4) (v := .int (q.1 24 5)) (C := RX4) (T := TX4) (N := 11) hx hb hts u9_wsX4_step_X4 hown hK hP 24 rfl rfl 5 (by decide) (hts (.fieldLink RX4 30 "TurnedFloors$Reader" "start" "I") f9_wsX4_step_470) (fun _ h9 => h9) rfl dX4_step_33 ?_
    obtain ⟨g2, h⟩ := dG_some h
    refine va_iald hx hb hK hP 46 0 rfl rfl (dg_in g2) dX4_step_36 ?_
    obtain ⟨v3, ev3, h⟩ := dL_some h
    refine kz_topi v3 ev3 ?_
    refine lv_bipush (v := 32) hx hb dX4_step_37 (by decide) ?_
    refine lv_icmp_ne (tgt := 55) hx hb dX4_step_39 (by decide) (fun c9 => ?_) (fun c9 => ?_)
    · rw [if_neg c9] at h
      exact WX4_step_s24_55 C0  _ _ _ _ h hP hD hS (lv_sub hl [0] rfl)
    · rw [if_pos c9] at h
      refine lv_aload_n hx hb dX4_step_42 rfl (lv_at hl 0 rfl) ?_
      refine lv_dup hx hb dX4_step_43 rfl ?_
      refine va_get (D := D) (ci := 4) (v := .int (q.1 24 5)) (C := RX4) (T := TX4) (N := 11) hx hb hts u9_wsX4_step_X4 hown hK hP 24 rfl rfl 5 (by decide) (hts (.fieldLink RX4 30 "TurnedFloors$Reader" "start" "I") f9_wsX4_step_470) (fun _ h9 => h9) rfl dX4_step_44 ?_
      refine lv_iconst (v := 1) hx hb dX4_step_47 (by decide) ?_
      refine lv_iadd hx hb dX4_step_48 ?_
      refine va_put (D := D) (ci := 4) (v := .int ((q.1 24 5) + 1 : Int32)) (ty := .int) (C := RX4) (T := TX4) (N := 11) hx hb hts u9_wsX4_step_X4 tyX4 tyX4_ok nmX4 hown hK hP hD hS 24 rfl rfl 5 (by decide) (hts (.fieldLink RX4 30 "TurnedFloors$Reader" "start" "I") f9_wsX4_step_470) (fun _ h9 => h9) rfl (by decide +kernel) rfl rfl (Nat.le_of_ble_eq_true rfl) dX4_step_49 (fun H locs hp hd hs => ?_)
      obtain ⟨q4, eq4, h⟩ := dL_some h
      refine kz_re (w2 := wF ty ad q4) hp hd hs (by rw [← eq4]; exact wF_f24_5 ty ad q ((q.1 24 5) + 1 : Int32)) ?_
      clear hp hd hs hP hD hS
      intro hP hD hS
      refine lv_goto (tgt := 17) hx hb dX4_step_52 (by decide) ?_
      exact hk17 _ _ _ _ h hP hD hS (lv_sub hl [0] rfl)
set_option maxHeartbeats 4000000 in
set_option maxRecDepth 100000 in
theorem WX4_step_s24_17 {p : Program} {l : Launch} {e : Env} {s : State} {m : MethodId} {args : Array Value} {below : List Frame} {meth : Method} {c : Code} {D : va_G} {ty : Nat → ClassId} {eo : Nat → Nat} {A : Nat → Prop} {ad : Nat → Nat} {o2 : dK} (C : dc_C p s m args meth c cX4_step none 2 RX4 wsX4_step D ty eo A)   (n : Nat) (q : dK)  (H : Heap) (locs : List Loc) (ls : Array Slot) (h : zX4_step_s24_17  n q = some o2) (hP : va_P D vwCl (wF ty ad q) H) (hD : va_D A (wF ty ad q)) (hS : va_S A s.heap H locs) (hl : lv_has ls 2 [(0, .ref (ad 24))]) : W p l e ({ frames := 1, cells := 0, slots := 0, locals := 21 } : Room) s m args below meth c H locs 0 0 (MQ below (va_Qv (fun (u : va_W) => wF ty ad o2 = u) (kz_B D ty A) A) args s 0 0 A) (F0 m 17 ls []) := by
  exact dFix_W (F := fun k (a : dK) => zX4_step_s24_17b  (fun q => k (q)) a) (o := o2) (P := fun (a : dK) H locs ls => va_P D vwCl (wF ty ad a) H ∧ va_D A (wF ty ad a) ∧ va_S A s.heap H locs ∧ lv_has ls 2 [(0, .ref (ad 24))]) (G := fun H locs ls => W p l e ({ frames := 1, cells := 0, slots := 0, locals := 21 } : Room) s m args below meth c H locs 0 0 (MQ below (va_Qv (fun (u : va_W) => wF ty ad o2 = u) (kz_B D ty A) A) args s 0 0 A) (F0 m 17 ls []))
    (fun k hk a H locs ls h hp => WX4_step_s24_17b C  (fun q H locs ls h h1 h2 h3 h4 => hk (q) H locs ls h ⟨h1, h2, h3, h4⟩) a H locs ls h hp.1 hp.2.1 hp.2.2.1 hp.2.2.2) n (q) H locs ls h ⟨hP, hD, hS, hl⟩
set_option maxHeartbeats 4000000 in
set_option maxRecDepth 100000 in
theorem qX4_step_s24 (l : Launch) (D : va_G) (ty : Nat → ClassId) (eo : Nat → Nat) (sz : Nat) (ad : Nat → Nat) (q : dK)  (o2 : dK) (h : zX4_step_s24 q = some o2) : Met l yX4_step wsX4_step ({ frames := 1, cells := 0, slots := 0, locals := 21 } : Room) (va_Pc [.ref (ad 24)] (kz_pre D ty eo (wF ty ad q) sz)) (va_Qv (fun (u : va_W) => wF ty ad o2 = u) (kz_B D ty (va_A (wF ty ad q) sz)) (va_A (wF ty ad q) sz)) 0 0 (va_A (wF ty ad q) sz) := by
  refine Met.ofW (cc := cX4_step) (maxL := 2) (ret := none) (by decide) rfl ?_
  intro p e s m args below meth c s₁ B hml hv
  obtain ⟨rfl, hsz, hP, hK, hD0, hN, hE⟩ := hv
  have hx := B.exec
  have hb := B.bytes
  have hr := B.returns
  have hts := atoms_spec (ws := wsX4_step) B.pre
  have hown : s.vm.findClass RX4 = some m.cls := findClass_of_methodNamed B.named
  have hlocks := B.notSynchronized
  subst hsz
  have hD := hD0.self (sz := s.heap.size)
  generalize hAe : va_A (wF ty ad q) s.heap.size = A at hD hE ⊢
  have hA : ∀ q : Nat, s.heap.size ≤ q → A q := fun q h => by rw [← hAe]; exact Or.inr h
  clear hAe
  have hS : va_S A s.heap s.heap [] := va_S.rf
  have hl := lv_entry ([.ref (ad 24)]) (n := 2) (Nat.le_of_ble_eq_true rfl)
  rw [lg_entry_eq]
  generalize (lg_sl ([.ref (ad 24)]) ++ List.replicate (2 - (lg_sl ([.ref (ad 24)])).length) Slot.unset).toArray = ls at hl ⊢
  have hl : lv_has ls 2 [(0, .ref (ad 24))] := hl
  have C : dc_C p s m _ meth c cX4_step none 2 RX4 wsX4_step D ty eo A := ⟨hx, hb, hr, hts, hown, hlocks, hml, hK, hN, hE, hA⟩
  unfold zX4_step_s24 at h
  refine lv_aload_n hx hb dX4_step_0 rfl (lv_at hl 0 rfl) ?_
  refine va_get (D := D) (ci := 4) (v := .int (q.1 24 10)) (C := RX4) (T := TX4) (N := 11) hx hb hts u9_wsX4_step_X4 hown hK hP 24 rfl rfl 10 (by decide) (hts (.fieldLink RX4 45 "TurnedFloors$Reader" "faultAt" "I") f9_wsX4_step_472) (fun _ h9 => h9) rfl dX4_step_1 ?_
  refine lv_iconst (v := (-1)) hx hb dX4_step_4 (by decide) ?_
  refine lv_icmp_eq (tgt := 9) hx hb dX4_step_5 (by decide) (fun c9 => ?_) (fun c9 => ?_)
  · rw [if_pos c9] at h
    refine lv_aload_n hx hb dX4_step_9 rfl (lv_at hl 0 rfl) ?_
    refine lv_aload_n hx hb dX4_step_10 rfl (lv_at hl 0 rfl) ?_
    refine va_get (D := D) (ci := 4) (v := .int (q.1 24 6)) (C := RX4) (T := TX4) (N := 11) hx hb hts u9_wsX4_step_X4 hown hK hP 24 rfl rfl 6 (by decide) (hts (.fieldLink RX4 33 "TurnedFloors$Reader" "stop" "I") f9_wsX4_step_462) (fun _ h9 => h9) rfl dX4_step_11 ?_
    refine va_put (D := D) (ci := 4) (v := .int (q.1 24 6)) (ty := .int) (C := RX4) (T := TX4) (N := 11) hx hb hts u9_wsX4_step_X4 tyX4 tyX4_ok nmX4 hown hK hP hD hS 24 rfl rfl 5 (by decide) (hts (.fieldLink RX4 30 "TurnedFloors$Reader" "start" "I") f9_wsX4_step_470) (fun _ h9 => h9) rfl (by decide +kernel) rfl rfl (Nat.le_of_ble_eq_true rfl) dX4_step_14 (fun H locs hp hd hs => ?_)
    obtain ⟨q1, eq1, h⟩ := dL_some h
    refine kz_re (w2 := wF ty ad q1) hp hd hs (by rw [← eq1]; exact wF_f24_5 ty ad q (q.1 24 6)) ?_
    clear hp hd hs hP hD hS
    intro hP hD hS
    exact WX4_step_s24_17 C  _ _ _ _ _ h hP hD hS (lv_sub hl [0] rfl)
  · rw [if_neg c9] at h
    cases h
    exact kz_vret hx hb hr hlocks hP hK hD hS dX4_step_8 rfl

set_option maxHeartbeats 4000000 in
set_option maxRecDepth 100000 in
theorem WX4_isSame_s24_t0_20b {p : Program} {l : Launch} {e : Env} {s : State} {m : MethodId} {args : Array Value} {below : List Frame} {meth : Method} {c : Code} {D : va_G} {ty : Nat → ClassId} {eo : Nat → Nat} {A : Nat → Prop} {ad : Nat → Nat} {o1 : Int32} {o2 : dK} (C : dc_C p s m args meth c cX4_isSame (some .boolean) 5 RX4 wsX4_isSame D ty eo A) {k20 : dK → Int32 → Int32 → Int32 → Option (Int32 × dK)} (hk20 : ∀ (q : dK) (x2 : Int32) (x3 : Int32) (x4 : Int32) (H : Heap) (locs : List Loc) (ls : Array Slot), k20 q x2 x3 x4 = some (o1, o2) → va_P D vwCl (wF ty ad q) H → va_D A (wF ty ad q) → va_S A s.heap H locs → lv_has ls 5 [(0, .ref (ad 24)), (1, .ref (eo (1 + 0))), (2, .int x2), (3, .int x3), (4, .int x4)] → W p l e ({ frames := 4, cells := 0, slots := 0, locals := 85 } : Room) s m args below meth c H locs 0 0 (MQ below (va_Qi (fun (r : Int32) (u : va_W) => o1 = r ∧ wF ty ad o2 = u) (kz_B D ty A) A) args s 0 0 A) (F0 m 20 ls [])) (q : dK) (x2 : Int32) (x3 : Int32) (x4 : Int32) (H : Heap) (locs : List Loc) (ls : Array Slot) (h : zX4_isSame_s24_t0_20b k20 q x2 x3 x4 = some (o1, o2)) (hP : va_P D vwCl (wF ty ad q) H) (hD : va_D A (wF ty ad q)) (hS : va_S A s.heap H locs) (hl : lv_has ls 5 [(0, .ref (ad 24)), (1, .ref (eo (1 + 0))), (2, .int x2), (3, .int x3), (4, .int x4)]) : W p l e ({ frames := 4, cells := 0, slots := 0, locals := 85 } : Room) s m args below meth c H locs 0 0 (MQ below (va_Qi (fun (r : Int32) (u : va_W) => o1 = r ∧ wF ty ad o2 = u) (kz_B D ty A) A) args s 0 0 A) (F0 m 20 ls []) := by
  have C0 := C
  obtain ⟨hx, hb, hr, hts, hown, hlocks, hml, hK, hN, hE, hA⟩ := C
  unfold zX4_isSame_s24_t0_20b at h
  refine lv_iload hx hb dX4_isSame_20 (lv_at hl 4 rfl) ?_
  refine lv_iload_n hx hb dX4_isSame_22 rfl (lv_at hl 3 rfl) ?_
  refine lv_icmp_ge (tgt := 57) hx hb dX4_isSame_23 (by decide) (fun c9 => ?_) (fun c9 => ?_)
  · rw [if_pos c9] at h
    refine lv_iconst (v := 1) hx hb dX4_isSame_57 (by decide) ?_
    cases h
    exact kz_zret hx hb hr hlocks rfl hP hK hD hS dX4_isSame_58 ⟨rfl, rfl⟩
  · rw [if_neg c9] at h
    refine lv_aload_n hx hb dX4_isSame_26 rfl (lv_at hl 1 rfl) ?_
    refine lv_iload hx hb dX4_isSame_27 (lv_at hl 4 rfl) ?_
    obtain ⟨g1, h⟩ := dG_some h
    refine dw_ks (va_runV (As := [.int x4]) (rest := []) ⟨hx, hb, hml, hown, hts⟩ (kcJ0ch l D ty eo _ 0 (by decide) x4 (dg_in g1)) (cwV 1 hts gX4_isSame_J0_charAt_5068e rfl rfl rfl hd_J0_charAt_5068e_v ⟨Nat.le_of_ble_eq_true rfl, Nat.le_of_ble_eq_true rfl⟩) (kz_preT hK hN hE hP hD hS hA 0 (by decide) [] (by decide) rfl) rfl rfl hl.1 rfl (lv_room (Nat.le_of_ble_eq_true rfl)) dX4_isSame_29 ⟨Nat.le_of_ble_eq_true rfl, Nat.le_of_ble_eq_true rfl⟩) hP hD hS hA (fun _ _ h9 => h9.2.symm) (fun r9 u9 H locs hw hp hd hs => ?_)
    obtain ⟨rfl, -⟩ := hw
    clear hP hD hS
    have hP := hp; have hD := hd; have hS := hs; clear hp hd hs
    obtain ⟨v2, ev2, h⟩ := dL_some h
    refine kz_topi v2 ev2 ?_
    refine lv_aload_n hx hb dX4_isSame_32 rfl (lv_at hl 0 rfl) ?_
    refine va_get (D := D) (ci := 4) (v := dN (ad 46) (q.1 24 0)) (C := RX4) (T := TX4) (N := 11) hx hb hts u9_wsX4_isSame_X4 hown hK hP 24 rfl rfl 0 (by decide) (hts (.fieldLink RX4 9 "TurnedFloors$Reader" "bytes" "[I") f9_wsX4_isSame_474) (fun _ h9 => h9) rfl dX4_isSame_33 ?_
    obtain ⟨g3, h⟩ := dG_some h
    refine kz_topv (if_neg (dnz_ne g3)) ?_
    refine lv_aload_n hx hb dX4_isSame_36 rfl (lv_at hl 0 rfl) ?_
    refine va_get (D := D) (ci := 4) (v := .int (q.1 24 5)) (C := RX4) (T := TX4) (N := 11) hx hb hts u9_wsX4_isSame_X4 hown hK hP 24 rfl rfl 5 (by decide) (hts (.fieldLink RX4 30 "TurnedFloors$Reader" "start" "I") f9_wsX4_isSame_475) (fun _ h9 => h9) rfl dX4_isSame_37 ?_
    refine lv_iload hx hb dX4_isSame_40 (lv_at hl 4 rfl) ?_
    refine lv_iadd hx hb dX4_isSame_42 ?_
    refine lv_iload_n hx hb dX4_isSame_43 rfl (lv_at hl 2 rfl) ?_
    refine lv_isub hx hb dX4_isSame_44 ?_
    obtain ⟨g4, h⟩ := dG_some h
    refine va_iald hx hb hK hP 46 0 rfl rfl (dg_in g4) dX4_isSame_45 ?_
    obtain ⟨v5, ev5, h⟩ := dL_some h
    refine kz_topi v5 ev5 ?_
    refine lv_icmp_eq (tgt := 51) hx hb dX4_isSame_46 (by decide) (fun c9 => ?_) (fun c9 => ?_)
    · rw [if_pos c9] at h
      refine lv_iinc (v := x4 + 1) (lv' := [(4, .int (x4 + 1)), (0, .ref (ad 24)), (1, .ref (eo (1 + 0))), (2, .int x2), (3, .int x3)]) hx hb dX4_isSame_51 hl (k := 4) rfl rfl (by decide) rfl (fun ls hl => ?_)
      refine lv_goto (tgt := 20) hx hb dX4_isSame_54 (by decide) ?_
      exact hk20 _ _ _ _ _ _ _ h hP hD hS (lv_sub hl [1, 2, 3, 4, 0] rfl)
    · rw [if_neg c9] at h
      refine lv_iconst (v := 0) hx hb dX4_isSame_49 (by decide) ?_
      cases h
      exact kz_zret hx hb hr hlocks rfl hP hK hD hS dX4_isSame_50 ⟨rfl, rfl⟩
set_option maxHeartbeats 4000000 in
set_option maxRecDepth 100000 in
theorem WX4_isSame_s24_t0_20 {p : Program} {l : Launch} {e : Env} {s : State} {m : MethodId} {args : Array Value} {below : List Frame} {meth : Method} {c : Code} {D : va_G} {ty : Nat → ClassId} {eo : Nat → Nat} {A : Nat → Prop} {ad : Nat → Nat} {o1 : Int32} {o2 : dK} (C : dc_C p s m args meth c cX4_isSame (some .boolean) 5 RX4 wsX4_isSame D ty eo A)   (n : Nat) (q : dK) (x2 : Int32) (x3 : Int32) (x4 : Int32) (H : Heap) (locs : List Loc) (ls : Array Slot) (h : zX4_isSame_s24_t0_20  n q x2 x3 x4 = some (o1, o2)) (hP : va_P D vwCl (wF ty ad q) H) (hD : va_D A (wF ty ad q)) (hS : va_S A s.heap H locs) (hl : lv_has ls 5 [(0, .ref (ad 24)), (1, .ref (eo (1 + 0))), (2, .int x2), (3, .int x3), (4, .int x4)]) : W p l e ({ frames := 4, cells := 0, slots := 0, locals := 85 } : Room) s m args below meth c H locs 0 0 (MQ below (va_Qi (fun (r : Int32) (u : va_W) => o1 = r ∧ wF ty ad o2 = u) (kz_B D ty A) A) args s 0 0 A) (F0 m 20 ls []) := by
  exact dFix_W (F := fun k (a : dK × Int32 × Int32 × Int32) => zX4_isSame_s24_t0_20b  (fun q x2 x3 x4 => k (q, x2, x3, x4)) a.1 a.2.1 a.2.2.1 a.2.2.2) (o := (o1, o2)) (P := fun (a : dK × Int32 × Int32 × Int32) H locs ls => va_P D vwCl (wF ty ad a.1) H ∧ va_D A (wF ty ad a.1) ∧ va_S A s.heap H locs ∧ lv_has ls 5 [(0, .ref (ad 24)), (1, .ref (eo (1 + 0))), (2, .int a.2.1), (3, .int a.2.2.1), (4, .int a.2.2.2)]) (G := fun H locs ls => W p l e ({ frames := 4, cells := 0, slots := 0, locals := 85 } : Room) s m args below meth c H locs 0 0 (MQ below (va_Qi (fun (r : Int32) (u : va_W) => o1 = r ∧ wF ty ad o2 = u) (kz_B D ty A) A) args s 0 0 A) (F0 m 20 ls []))
    (fun k hk a H locs ls h hp => WX4_isSame_s24_t0_20b C  (fun q x2 x3 x4 H locs ls h h1 h2 h3 h4 => hk (q, x2, x3, x4) H locs ls h ⟨h1, h2, h3, h4⟩) a.1 a.2.1 a.2.2.1 a.2.2.2 H locs ls h hp.1 hp.2.1 hp.2.2.1 hp.2.2.2) n (q, x2, x3, x4) H locs ls h ⟨hP, hD, hS, hl⟩
set_option maxHeartbeats 4000000 in
set_option maxRecDepth 100000 in
theorem qX4_isSame_s24_t0 (l : Launch) (D : va_G) (ty : Nat → ClassId) (eo : Nat → Nat) (sz : Nat) (ad : Nat → Nat) (q : dK) (p2 : Int32) (p3 : Int32) (o1 : Int32) (o2 : dK) (h : zX4_isSame_s24_t0 q p2 p3 = some (o1, o2)) : Met l yX4_isSame wsX4_isSame ({ frames := 4, cells := 0, slots := 0, locals := 85 } : Room) (va_Pc [.ref (ad 24), .ref (eo (1 + 0)), .int p2, .int p3] (kz_pre D ty eo (wF ty ad q) sz)) (va_Qi (fun (r : Int32) (u : va_W) => o1 = r ∧ wF ty ad o2 = u) (kz_B D ty (va_A (wF ty ad q) sz)) (va_A (wF ty ad q) sz)) 0 0 (va_A (wF ty ad q) sz) := by
  refine Met.ofW (cc := cX4_isSame) (maxL := 5) (ret := (some .boolean)) (by decide) rfl ?_
  intro p e s m args below meth c s₁ B hml hv
  obtain ⟨rfl, hsz, hP, hK, hD0, hN, hE⟩ := hv
  have hx := B.exec
  have hb := B.bytes
  have hr := B.returns
  have hts := atoms_spec (ws := wsX4_isSame) B.pre
  have hown : s.vm.findClass RX4 = some m.cls := findClass_of_methodNamed B.named
  have hlocks := B.notSynchronized
  subst hsz
  have hD := hD0.self (sz := s.heap.size)
  generalize hAe : va_A (wF ty ad q) s.heap.size = A at hD hE ⊢
  have hA : ∀ q : Nat, s.heap.size ≤ q → A q := fun q h => by rw [← hAe]; exact Or.inr h
  clear hAe
  have hS : va_S A s.heap s.heap [] := va_S.rf
  have hl := lv_entry ([.ref (ad 24), .ref (eo (1 + 0)), .int p2, .int p3]) (n := 5) (Nat.le_of_ble_eq_true rfl)
  rw [lg_entry_eq]
  generalize (lg_sl ([.ref (ad 24), .ref (eo (1 + 0)), .int p2, .int p3]) ++ List.replicate (5 - (lg_sl ([.ref (ad 24), .ref (eo (1 + 0)), .int p2, .int p3])).length) Slot.unset).toArray = ls at hl ⊢
  have hl : lv_has ls 5 [(0, .ref (ad 24)), (1, .ref (eo (1 + 0))), (2, .int p2), (3, .int p3)] := hl
  have C : dc_C p s m _ meth c cX4_isSame (some .boolean) 5 RX4 wsX4_isSame D ty eo A := ⟨hx, hb, hr, hts, hown, hlocks, hml, hK, hN, hE, hA⟩
  unfold zX4_isSame_s24_t0 at h
  refine lv_iload_n hx hb dX4_isSame_0 rfl (lv_at hl 3 rfl) ?_
  refine lv_iload_n hx hb dX4_isSame_1 rfl (lv_at hl 2 rfl) ?_
  refine lv_isub hx hb dX4_isSame_2 ?_
  refine lv_aload_n hx hb dX4_isSame_3 rfl (lv_at hl 0 rfl) ?_
  refine va_get (D := D) (ci := 4) (v := .int (q.1 24 6)) (C := RX4) (T := TX4) (N := 11) hx hb hts u9_wsX4_isSame_X4 hown hK hP 24 rfl rfl 6 (by decide) (hts (.fieldLink RX4 33 "TurnedFloors$Reader" "stop" "I") f9_wsX4_isSame_476) (fun _ h9 => h9) rfl dX4_isSame_4 ?_
  refine lv_aload_n hx hb dX4_isSame_7 rfl (lv_at hl 0 rfl) ?_
  refine va_get (D := D) (ci := 4) (v := .int (q.1 24 5)) (C := RX4) (T := TX4) (N := 11) hx hb hts u9_wsX4_isSame_X4 hown hK hP 24 rfl rfl 5 (by decide) (hts (.fieldLink RX4 30 "TurnedFloors$Reader" "start" "I") f9_wsX4_isSame_475) (fun _ h9 => h9) rfl dX4_isSame_8 ?_
  refine lv_isub hx hb dX4_isSame_11 ?_
  refine lv_icmp_eq (tgt := 17) hx hb dX4_isSame_12 (by decide) (fun c9 => ?_) (fun c9 => ?_)
  · rw [if_pos c9] at h
    refine lv_iload_n hx hb dX4_isSame_17 rfl (lv_at hl 2 rfl) ?_
    refine lv_istore (lv' := [(4, .int p2), (0, .ref (ad 24)), (1, .ref (eo (1 + 0))), (2, .int p2), (3, .int p3)]) hx hb dX4_isSame_18 hl (by decide) rfl (fun ls hl => ?_)
    exact WX4_isSame_s24_t0_20 C  _ _ _ _ _ _ _ _ h hP hD hS (lv_sub hl [1, 2, 3, 4, 0] rfl)
  · rw [if_neg c9] at h
    refine lv_iconst (v := 0) hx hb dX4_isSame_15 (by decide) ?_
    cases h
    exact kz_zret hx hb hr hlocks rfl hP hK hD hS dX4_isSame_16 ⟨rfl, rfl⟩

set_option maxHeartbeats 4000000 in
set_option maxRecDepth 100000 in
theorem WX4_wordIn_s24_t0_62 {p : Program} {l : Launch} {e : Env} {s : State} {m : MethodId} {args : Array Value} {below : List Frame} {meth : Method} {c : Code} {D : va_G} {ty : Nat → ClassId} {eo : Nat → Nat} {A : Nat → Prop} {ad : Nat → Nat} {o1 : Int32} {o2 : dK} (C : dc_C p s m args meth c cX4_wordIn (some .int) 5 RX4 wsX4_wordIn D ty eo A)   (q : dK)  (H : Heap) (locs : List Loc) (ls : Array Slot) (h : zX4_wordIn_s24_t0_62  q = some (o1, o2)) (hP : va_P D vwCl (wF ty ad q) H) (hD : va_D A (wF ty ad q)) (hS : va_S A s.heap H locs) (hl : lv_has ls 5 []) : W p l e ({ frames := 5, cells := 0, slots := 0, locals := 109 } : Room) s m args below meth c H locs 0 0 (MQ below (va_Qi (fun (r : Int32) (u : va_W) => o1 = r ∧ wF ty ad o2 = u) (kz_B D ty A) A) args s 0 0 A) (F0 m 62 ls []) := by
  have C0 := C
  obtain ⟨hx, hb, hr, hts, hown, hlocks, hml, hK, hN, hE, hA⟩ := C
  unfold zX4_wordIn_s24_t0_62 at h
  refine lv_iconst (v := (-1)) hx hb dX4_wordIn_62 (by decide) ?_
  cases h
  exact kz_iret hx hb hr hlocks hP hK hD hS dX4_wordIn_63 ⟨rfl, rfl⟩
set_option maxHeartbeats 4000000 in
set_option maxRecDepth 100000 in
theorem WX4_wordIn_s24_t0_56 {p : Program} {l : Launch} {e : Env} {s : State} {m : MethodId} {args : Array Value} {below : List Frame} {meth : Method} {c : Code} {D : va_G} {ty : Nat → ClassId} {eo : Nat → Nat} {A : Nat → Prop} {ad : Nat → Nat} {o1 : Int32} {o2 : dK} (C : dc_C p s m args meth c cX4_wordIn (some .int) 5 RX4 wsX4_wordIn D ty eo A) {k7 : dK → Int32 → Int32 → Int32 → Option (Int32 × dK)} (hk7 : ∀ (q : dK) (x2 : Int32) (x3 : Int32) (x4 : Int32) (H : Heap) (locs : List Loc) (ls : Array Slot), k7 q x2 x3 x4 = some (o1, o2) → va_P D vwCl (wF ty ad q) H → va_D A (wF ty ad q) → va_S A s.heap H locs → lv_has ls 5 [(0, .ref (ad 24)), (1, .ref (eo (1 + 0))), (2, .int x2), (3, .int x3), (4, .int x4)] → W p l e ({ frames := 5, cells := 0, slots := 0, locals := 109 } : Room) s m args below meth c H locs 0 0 (MQ below (va_Qi (fun (r : Int32) (u : va_W) => o1 = r ∧ wF ty ad o2 = u) (kz_B D ty A) A) args s 0 0 A) (F0 m 7 ls [])) (q : dK) (x2 : Int32) (x3 : Int32) (x4 : Int32) (H : Heap) (locs : List Loc) (ls : Array Slot) (h : zX4_wordIn_s24_t0_56 k7 q x2 x3 x4 = some (o1, o2)) (hP : va_P D vwCl (wF ty ad q) H) (hD : va_D A (wF ty ad q)) (hS : va_S A s.heap H locs) (hl : lv_has ls 5 [(0, .ref (ad 24)), (1, .ref (eo (1 + 0))), (2, .int x2), (3, .int x3), (4, .int x4)]) : W p l e ({ frames := 5, cells := 0, slots := 0, locals := 109 } : Room) s m args below meth c H locs 0 0 (MQ below (va_Qi (fun (r : Int32) (u : va_W) => o1 = r ∧ wF ty ad o2 = u) (kz_B D ty A) A) args s 0 0 A) (F0 m 56 ls []) := by
  have C0 := C
  obtain ⟨hx, hb, hr, hts, hown, hlocks, hml, hK, hN, hE, hA⟩ := C
  unfold zX4_wordIn_s24_t0_56 at h
  refine lv_iinc (v := x4 + 1) (lv' := [(4, .int (x4 + 1)), (0, .ref (ad 24)), (1, .ref (eo (1 + 0))), (2, .int x2), (3, .int x3)]) hx hb dX4_wordIn_56 hl (k := 4) rfl rfl (by decide) rfl (fun ls hl => ?_)
  refine lv_goto (tgt := 7) hx hb dX4_wordIn_59 (by decide) ?_
  exact hk7 _ _ _ _ _ _ _ h hP hD hS (lv_sub hl [1, 2, 3, 4, 0] rfl)
set_option maxHeartbeats 4000000 in
set_option maxRecDepth 100000 in
theorem WX4_wordIn_s24_t0_7b {p : Program} {l : Launch} {e : Env} {s : State} {m : MethodId} {args : Array Value} {below : List Frame} {meth : Method} {c : Code} {D : va_G} {ty : Nat → ClassId} {eo : Nat → Nat} {A : Nat → Prop} {ad : Nat → Nat} {o1 : Int32} {o2 : dK} (C : dc_C p s m args meth c cX4_wordIn (some .int) 5 RX4 wsX4_wordIn D ty eo A) {k7 : dK → Int32 → Int32 → Int32 → Option (Int32 × dK)} (hk7 : ∀ (q : dK) (x2 : Int32) (x3 : Int32) (x4 : Int32) (H : Heap) (locs : List Loc) (ls : Array Slot), k7 q x2 x3 x4 = some (o1, o2) → va_P D vwCl (wF ty ad q) H → va_D A (wF ty ad q) → va_S A s.heap H locs → lv_has ls 5 [(0, .ref (ad 24)), (1, .ref (eo (1 + 0))), (2, .int x2), (3, .int x3), (4, .int x4)] → W p l e ({ frames := 5, cells := 0, slots := 0, locals := 109 } : Room) s m args below meth c H locs 0 0 (MQ below (va_Qi (fun (r : Int32) (u : va_W) => o1 = r ∧ wF ty ad o2 = u) (kz_B D ty A) A) args s 0 0 A) (F0 m 7 ls [])) (q : dK) (x2 : Int32) (x3 : Int32) (x4 : Int32) (H : Heap) (locs : List Loc) (ls : Array Slot) (h : zX4_wordIn_s24_t0_7b k7 q x2 x3 x4 = some (o1, o2)) (hP : va_P D vwCl (wF ty ad q) H) (hD : va_D A (wF ty ad q)) (hS : va_S A s.heap H locs) (hl : lv_has ls 5 [(0, .ref (ad 24)), (1, .ref (eo (1 + 0))), (2, .int x2), (3, .int x3), (4, .int x4)]) : W p l e ({ frames := 5, cells := 0, slots := 0, locals := 109 } : Room) s m args below meth c H locs 0 0 (MQ below (va_Qi (fun (r : Int32) (u : va_W) => o1 = r ∧ wF ty ad o2 = u) (kz_B D ty A) A) args s 0 0 A) (F0 m 7 ls []) := by
  have C0 := C
  obtain ⟨hx, hb, hr, hts, hown, hlocks, hml, hK, hN, hE, hA⟩ := C
  unfold zX4_wordIn_s24_t0_7b at h
  refine lv_iload hx hb dX4_wordIn_7 (lv_at hl 4 rfl) ?_
  refine lv_aload_n hx hb dX4_wordIn_9 rfl (lv_at hl 1 rfl) ?_
  refine dw_ks (va_runV (As := []) (rest := [.int x4]) ⟨hx, hb, hml, hown, hts⟩ (kcJ0le l D ty eo _ 0 (by decide)) (cwV 0 hts gX4_wordIn_J0_length_8abf5 rfl rfl rfl hd_J0_length_8abf5_v ⟨Nat.le_of_ble_eq_true rfl, Nat.le_of_ble_eq_true rfl⟩) (kz_preT hK hN hE hP hD hS hA 0 (by decide) [] (by decide) rfl) rfl rfl hl.1 rfl (lv_room (Nat.le_of_ble_eq_true rfl)) dX4_wordIn_10 ⟨Nat.le_of_ble_eq_true rfl, Nat.le_of_ble_eq_true rfl⟩) hP hD hS hA (fun _ _ h9 => h9.2.symm) (fun r9 u9 H locs hw hp hd hs => ?_)
  obtain ⟨rfl, -⟩ := hw
  clear hP hD hS
  have hP := hp; have hD := hd; have hS := hs; clear hp hd hs
  refine kz_topi 21 (by decide +kernel) ?_
  refine lv_icmp_ge (tgt := 62) hx hb dX4_wordIn_13 (by decide) (fun c9 => ?_) (fun c9 => ?_)
  · rw [if_pos c9] at h
    exact WX4_wordIn_s24_t0_62 C0  _ _ _ _ h hP hD hS (lv_sub hl [] rfl)
  · rw [if_neg c9] at h
    refine lv_aload_n hx hb dX4_wordIn_16 rfl (lv_at hl 0 rfl) ?_
    refine va_get (D := D) (ci := 4) (v := .int (q.1 24 4)) (C := RX4) (T := TX4) (N := 11) hx hb hts u9_wsX4_wordIn_X4 hown hK hP 24 rfl rfl 4 (by decide) (hts (.fieldLink RX4 27 "TurnedFloors$Reader" "token" "I") f9_wsX4_wordIn_478) (fun _ h9 => h9) rfl dX4_wordIn_17 ?_
    refine lv_iconst (v := 1) hx hb dX4_wordIn_20 (by decide) ?_
    refine lv_icmp_ne (tgt := 62) hx hb dX4_wordIn_21 (by decide) (fun c9 => ?_) (fun c9 => ?_)
    · rw [if_neg c9] at h
      exact WX4_wordIn_s24_t0_62 C0  _ _ _ _ h hP hD hS (lv_sub hl [] rfl)
    · rw [if_pos c9] at h
      refine lv_aload_n hx hb dX4_wordIn_24 rfl (lv_at hl 1 rfl) ?_
      refine lv_iload hx hb dX4_wordIn_25 (lv_at hl 4 rfl) ?_
      obtain ⟨g1, h⟩ := dG_some h
      refine dw_ks (va_runV (As := [.int x4]) (rest := []) ⟨hx, hb, hml, hown, hts⟩ (kcJ0ch l D ty eo _ 0 (by decide) x4 (dg_in g1)) (cwV 1 hts gX4_wordIn_J0_charAt_5068e rfl rfl rfl hd_J0_charAt_5068e_v ⟨Nat.le_of_ble_eq_true rfl, Nat.le_of_ble_eq_true rfl⟩) (kz_preT hK hN hE hP hD hS hA 0 (by decide) [] (by decide) rfl) rfl rfl hl.1 rfl (lv_room (Nat.le_of_ble_eq_true rfl)) dX4_wordIn_27 ⟨Nat.le_of_ble_eq_true rfl, Nat.le_of_ble_eq_true rfl⟩) hP hD hS hA (fun _ _ h9 => h9.2.symm) (fun r9 u9 H locs hw hp hd hs => ?_)
      obtain ⟨rfl, -⟩ := hw
      clear hP hD hS
      have hP := hp; have hD := hd; have hS := hs; clear hp hd hs
      obtain ⟨v2, ev2, h⟩ := dL_some h
      refine kz_topi v2 ev2 ?_
      refine lv_bipush (v := 32) hx hb dX4_wordIn_30 (by decide) ?_
      refine lv_icmp_ne (tgt := 56) hx hb dX4_wordIn_32 (by decide) (fun c9 => ?_) (fun c9 => ?_)
      · rw [if_neg c9] at h
        exact WX4_wordIn_s24_t0_56 C0 hk7 _ _ _ _ _ _ _ h hP hD hS (lv_sub hl [0, 1, 2, 3, 4] rfl)
      · rw [if_pos c9] at h
        refine lv_aload_n hx hb dX4_wordIn_35 rfl (lv_at hl 0 rfl) ?_
        refine lv_aload_n hx hb dX4_wordIn_36 rfl (lv_at hl 1 rfl) ?_
        refine lv_iload_n hx hb dX4_wordIn_37 rfl (lv_at hl 3 rfl) ?_
        refine lv_iload hx hb dX4_wordIn_38 (lv_at hl 4 rfl) ?_
        obtain ⟨r3, q5, h4, h⟩ := dB_some h
        refine dw_ki (va_runV (As := [.ref (eo (1 + 0)), .int x3, .int x4]) (rest := []) ⟨hx, hb, hml, hown, hts⟩ (qX4_isSame_s24_t0 l D ty eo _ ad q x3 x4 r3 q5 h4) (cwV 3 hts gX4_wordIn_X4_isSame rfl rfl rfl hd_X4_isSame_v ⟨Nat.le_of_ble_eq_true rfl, Nat.le_of_ble_eq_true rfl⟩) (pvF_4_24 hK hN hE hP hD hS hA) rfl rfl hl.1 rfl (lv_room (Nat.le_of_ble_eq_true rfl)) dX4_wordIn_40 ⟨Nat.le_of_ble_eq_true rfl, Nat.le_of_ble_eq_true rfl⟩) hD hS hA (fun r9 u9 H locs hw hp hd hs => ?_)
        clear hP hD hS
        obtain ⟨rfl, rfl⟩ := hw
        have hP := hp; have hD := hd; have hS := hs; clear hp hd hs
        refine lv_if_eq (tgt := 48) hx hb dX4_wordIn_43 (by decide) (fun c9 => ?_) (fun c9 => ?_)
        · rw [if_pos c9] at h
          refine lv_iinc (v := x2 + 1) (lv' := [(2, .int (x2 + 1)), (0, .ref (ad 24)), (1, .ref (eo (1 + 0))), (3, .int x3), (4, .int x4)]) hx hb dX4_wordIn_48 hl (k := 2) rfl rfl (by decide) rfl (fun ls hl => ?_)
          refine lv_iload hx hb dX4_wordIn_51 (lv_at hl 4 rfl) ?_
          refine lv_iconst (v := 1) hx hb dX4_wordIn_53 (by decide) ?_
          refine lv_iadd hx hb dX4_wordIn_54 ?_
          refine lv_istore_n (lv' := [(3, .int (x4 + 1 : Int32)), (2, .int (x2 + 1)), (0, .ref (ad 24)), (1, .ref (eo (1 + 0))), (4, .int x4)]) hx hb dX4_wordIn_55 rfl hl (by decide) rfl (fun ls hl => ?_)
          exact WX4_wordIn_s24_t0_56 C0 hk7 _ _ _ _ _ _ _ h hP hD hS (lv_sub hl [2, 3, 1, 0, 4] rfl)
        · rw [if_neg c9] at h
          refine lv_iload_n hx hb dX4_wordIn_46 rfl (lv_at hl 2 rfl) ?_
          cases h
          exact kz_iret hx hb hr hlocks hP hK hD hS dX4_wordIn_47 ⟨rfl, rfl⟩
set_option maxHeartbeats 4000000 in
set_option maxRecDepth 100000 in
theorem WX4_wordIn_s24_t0_7 {p : Program} {l : Launch} {e : Env} {s : State} {m : MethodId} {args : Array Value} {below : List Frame} {meth : Method} {c : Code} {D : va_G} {ty : Nat → ClassId} {eo : Nat → Nat} {A : Nat → Prop} {ad : Nat → Nat} {o1 : Int32} {o2 : dK} (C : dc_C p s m args meth c cX4_wordIn (some .int) 5 RX4 wsX4_wordIn D ty eo A)   (n : Nat) (q : dK) (x2 : Int32) (x3 : Int32) (x4 : Int32) (H : Heap) (locs : List Loc) (ls : Array Slot) (h : zX4_wordIn_s24_t0_7  n q x2 x3 x4 = some (o1, o2)) (hP : va_P D vwCl (wF ty ad q) H) (hD : va_D A (wF ty ad q)) (hS : va_S A s.heap H locs) (hl : lv_has ls 5 [(0, .ref (ad 24)), (1, .ref (eo (1 + 0))), (2, .int x2), (3, .int x3), (4, .int x4)]) : W p l e ({ frames := 5, cells := 0, slots := 0, locals := 109 } : Room) s m args below meth c H locs 0 0 (MQ below (va_Qi (fun (r : Int32) (u : va_W) => o1 = r ∧ wF ty ad o2 = u) (kz_B D ty A) A) args s 0 0 A) (F0 m 7 ls []) := by
  exact dFix_W (F := fun k (a : dK × Int32 × Int32 × Int32) => zX4_wordIn_s24_t0_7b  (fun q x2 x3 x4 => k (q, x2, x3, x4)) a.1 a.2.1 a.2.2.1 a.2.2.2) (o := (o1, o2)) (P := fun (a : dK × Int32 × Int32 × Int32) H locs ls => va_P D vwCl (wF ty ad a.1) H ∧ va_D A (wF ty ad a.1) ∧ va_S A s.heap H locs ∧ lv_has ls 5 [(0, .ref (ad 24)), (1, .ref (eo (1 + 0))), (2, .int a.2.1), (3, .int a.2.2.1), (4, .int a.2.2.2)]) (G := fun H locs ls => W p l e ({ frames := 5, cells := 0, slots := 0, locals := 109 } : Room) s m args below meth c H locs 0 0 (MQ below (va_Qi (fun (r : Int32) (u : va_W) => o1 = r ∧ wF ty ad o2 = u) (kz_B D ty A) A) args s 0 0 A) (F0 m 7 ls []))
    (fun k hk a H locs ls h hp => WX4_wordIn_s24_t0_7b C  (fun q x2 x3 x4 H locs ls h h1 h2 h3 h4 => hk (q, x2, x3, x4) H locs ls h ⟨h1, h2, h3, h4⟩) a.1 a.2.1 a.2.2.1 a.2.2.2 H locs ls h hp.1 hp.2.1 hp.2.2.1 hp.2.2.2) n (q, x2, x3, x4) H locs ls h ⟨hP, hD, hS, hl⟩
set_option maxHeartbeats 4000000 in
set_option maxRecDepth 100000 in
theorem qX4_wordIn_s24_t0 (l : Launch) (D : va_G) (ty : Nat → ClassId) (eo : Nat → Nat) (sz : Nat) (ad : Nat → Nat) (q : dK)  (o1 : Int32) (o2 : dK) (h : zX4_wordIn_s24_t0 q = some (o1, o2)) : Met l yX4_wordIn wsX4_wordIn ({ frames := 5, cells := 0, slots := 0, locals := 109 } : Room) (va_Pc [.ref (ad 24), .ref (eo (1 + 0))] (kz_pre D ty eo (wF ty ad q) sz)) (va_Qi (fun (r : Int32) (u : va_W) => o1 = r ∧ wF ty ad o2 = u) (kz_B D ty (va_A (wF ty ad q) sz)) (va_A (wF ty ad q) sz)) 0 0 (va_A (wF ty ad q) sz) := by
  refine Met.ofW (cc := cX4_wordIn) (maxL := 5) (ret := (some .int)) (by decide) rfl ?_
  intro p e s m args below meth c s₁ B hml hv
  obtain ⟨rfl, hsz, hP, hK, hD0, hN, hE⟩ := hv
  have hx := B.exec
  have hb := B.bytes
  have hr := B.returns
  have hts := atoms_spec (ws := wsX4_wordIn) B.pre
  have hown : s.vm.findClass RX4 = some m.cls := findClass_of_methodNamed B.named
  have hlocks := B.notSynchronized
  subst hsz
  have hD := hD0.self (sz := s.heap.size)
  generalize hAe : va_A (wF ty ad q) s.heap.size = A at hD hE ⊢
  have hA : ∀ q : Nat, s.heap.size ≤ q → A q := fun q h => by rw [← hAe]; exact Or.inr h
  clear hAe
  have hS : va_S A s.heap s.heap [] := va_S.rf
  have hl := lv_entry ([.ref (ad 24), .ref (eo (1 + 0))]) (n := 5) (Nat.le_of_ble_eq_true rfl)
  rw [lg_entry_eq]
  generalize (lg_sl ([.ref (ad 24), .ref (eo (1 + 0))]) ++ List.replicate (5 - (lg_sl ([.ref (ad 24), .ref (eo (1 + 0))])).length) Slot.unset).toArray = ls at hl ⊢
  have hl : lv_has ls 5 [(0, .ref (ad 24)), (1, .ref (eo (1 + 0)))] := hl
  have C : dc_C p s m _ meth c cX4_wordIn (some .int) 5 RX4 wsX4_wordIn D ty eo A := ⟨hx, hb, hr, hts, hown, hlocks, hml, hK, hN, hE, hA⟩
  unfold zX4_wordIn_s24_t0 at h
  refine lv_iconst (v := 0) hx hb dX4_wordIn_0 (by decide) ?_
  refine lv_istore_n (lv' := [(2, .int 0), (0, .ref (ad 24)), (1, .ref (eo (1 + 0)))]) hx hb dX4_wordIn_1 rfl hl (by decide) rfl (fun ls hl => ?_)
  refine lv_iconst (v := 0) hx hb dX4_wordIn_2 (by decide) ?_
  refine lv_istore_n (lv' := [(3, .int 0), (2, .int 0), (0, .ref (ad 24)), (1, .ref (eo (1 + 0)))]) hx hb dX4_wordIn_3 rfl hl (by decide) rfl (fun ls hl => ?_)
  refine lv_iconst (v := 0) hx hb dX4_wordIn_4 (by decide) ?_
  refine lv_istore (lv' := [(4, .int 0), (3, .int 0), (2, .int 0), (0, .ref (ad 24)), (1, .ref (eo (1 + 0)))]) hx hb dX4_wordIn_5 hl (by decide) rfl (fun ls hl => ?_)
  exact WX4_wordIn_s24_t0_7 C  _ _ _ _ _ _ _ _ h hP hD hS (lv_sub hl [3, 4, 2, 1, 0] rfl)

set_option maxHeartbeats 4000000 in
set_option maxRecDepth 100000 in
theorem WX7_beginClause_s25_81 {p : Program} {l : Launch} {e : Env} {s : State} {m : MethodId} {args : Array Value} {below : List Frame} {meth : Method} {c : Code} {D : va_G} {ty : Nat → ClassId} {eo : Nat → Nat} {A : Nat → Prop} {ad : Nat → Nat} {o2 : dK} (C : dc_C p s m args meth c cX7_beginClause none 2 RX7 wsX7_beginClause D ty eo A)   (q : dK)  (H : Heap) (locs : List Loc) (ls : Array Slot) (h : zX7_beginClause_s25_81  q = some o2) (hP : va_P D vwCl (wF ty ad q) H) (hD : va_D A (wF ty ad q)) (hS : va_S A s.heap H locs) (hl : lv_has ls 2 []) : W p l e ({ frames := 0, cells := 0, slots := 0, locals := 0 } : Room) s m args below meth c H locs 0 0 (MQ below (va_Qv (fun (u : va_W) => wF ty ad o2 = u) (kz_B D ty A) A) args s 0 0 A) (F0 m 81 ls []) := by
  have C0 := C
  obtain ⟨hx, hb, hr, hts, hown, hlocks, hml, hK, hN, hE, hA⟩ := C
  unfold zX7_beginClause_s25_81 at h
  cases h
  exact kz_vret hx hb hr hlocks hP hK hD hS dX7_beginClause_81 rfl
set_option maxHeartbeats 4000000 in
set_option maxRecDepth 100000 in
theorem qX7_beginClause_s25 (l : Launch) (D : va_G) (ty : Nat → ClassId) (eo : Nat → Nat) (sz : Nat) (ad : Nat → Nat) (q : dK) (p1 : Int32) (o2 : dK) (h : zX7_beginClause_s25 q p1 = some o2) : Met l yX7_beginClause wsX7_beginClause ({ frames := 0, cells := 0, slots := 0, locals := 0 } : Room) (va_Pc [.ref (ad 25), .int p1] (kz_pre D ty eo (wF ty ad q) sz)) (va_Qv (fun (u : va_W) => wF ty ad o2 = u) (kz_B D ty (va_A (wF ty ad q) sz)) (va_A (wF ty ad q) sz)) 0 0 (va_A (wF ty ad q) sz) := by
  refine Met.ofW (cc := cX7_beginClause) (maxL := 2) (ret := none) (by decide) rfl ?_
  intro p e s m args below meth c s₁ B hml hv
  obtain ⟨rfl, hsz, hP, hK, hD0, hN, hE⟩ := hv
  have hx := B.exec
  have hb := B.bytes
  have hr := B.returns
  have hts := atoms_spec (ws := wsX7_beginClause) B.pre
  have hown : s.vm.findClass RX7 = some m.cls := findClass_of_methodNamed B.named
  have hlocks := B.notSynchronized
  subst hsz
  have hD := hD0.self (sz := s.heap.size)
  generalize hAe : va_A (wF ty ad q) s.heap.size = A at hD hE ⊢
  have hA : ∀ q : Nat, s.heap.size ≤ q → A q := fun q h => by rw [← hAe]; exact Or.inr h
  clear hAe
  have hS : va_S A s.heap s.heap [] := va_S.rf
  have hl := lv_entry ([.ref (ad 25), .int p1]) (n := 2) (Nat.le_of_ble_eq_true rfl)
  rw [lg_entry_eq]
  generalize (lg_sl ([.ref (ad 25), .int p1]) ++ List.replicate (2 - (lg_sl ([.ref (ad 25), .int p1])).length) Slot.unset).toArray = ls at hl ⊢
  have hl : lv_has ls 2 [(0, .ref (ad 25)), (1, .int p1)] := hl
  have C : dc_C p s m _ meth c cX7_beginClause none 2 RX7 wsX7_beginClause D ty eo A := ⟨hx, hb, hr, hts, hown, hlocks, hml, hK, hN, hE, hA⟩
  unfold zX7_beginClause_s25 at h
  refine lv_aload_n hx hb dX7_beginClause_0 rfl (lv_at hl 0 rfl) ?_
  refine va_get (D := D) (ci := 7) (v := .int (q.1 25 6)) (C := RX7) (T := TX7) (N := 8) hx hb hts u9_wsX7_beginClause_X7 hown hK hP 25 rfl rfl 6 (by decide) (hts (.fieldLink RX7 7 "TurnedFloors$Text" "clauses" "I") f9_wsX7_beginClause_480) (fun _ h9 => h9) rfl dX7_beginClause_1 ?_
  refine lv_aload_n hx hb dX7_beginClause_4 rfl (lv_at hl 0 rfl) ?_
  refine va_get (D := D) (ci := 7) (v := .ref (ad 26)) (C := RX7) (T := TX7) (N := 8) hx hb hts u9_wsX7_beginClause_X7 hown hK hP 25 rfl rfl 0 (by decide) (hts (.fieldLink RX7 16 "TurnedFloors$Text" "kind" "[I") f9_wsX7_beginClause_481) (fun _ h9 => h9) rfl dX7_beginClause_5 ?_
  refine va_alen (v := 12) hx hb hK hP 26 0 rfl rfl rfl dX7_beginClause_8 ?_
  refine lv_icmp_ge (tgt := 81) hx hb dX7_beginClause_9 (by decide) (fun c9 => ?_) (fun c9 => ?_)
  · rw [if_pos c9] at h
    exact WX7_beginClause_s25_81 C  _ _ _ _ h hP hD hS (lv_sub hl [] rfl)
  · rw [if_neg c9] at h
    refine lv_aload_n hx hb dX7_beginClause_12 rfl (lv_at hl 0 rfl) ?_
    refine va_get (D := D) (ci := 7) (v := .ref (ad 26)) (C := RX7) (T := TX7) (N := 8) hx hb hts u9_wsX7_beginClause_X7 hown hK hP 25 rfl rfl 0 (by decide) (hts (.fieldLink RX7 16 "TurnedFloors$Text" "kind" "[I") f9_wsX7_beginClause_481) (fun _ h9 => h9) rfl dX7_beginClause_13 ?_
    refine lv_aload_n hx hb dX7_beginClause_16 rfl (lv_at hl 0 rfl) ?_
    refine va_get (D := D) (ci := 7) (v := .int (q.1 25 6)) (C := RX7) (T := TX7) (N := 8) hx hb hts u9_wsX7_beginClause_X7 hown hK hP 25 rfl rfl 6 (by decide) (hts (.fieldLink RX7 7 "TurnedFloors$Text" "clauses" "I") f9_wsX7_beginClause_480) (fun _ h9 => h9) rfl dX7_beginClause_17 ?_
    refine lv_iload_n hx hb dX7_beginClause_20 rfl (lv_at hl 1 rfl) ?_
    obtain ⟨g1, h⟩ := dG_some h
    refine va_iast hx hb hK hP hD hS 26 0 rfl rfl (dg_in g1) dX7_beginClause_21 (fun H locs hp hd hs => ?_)
    obtain ⟨q2, eq2, h⟩ := dL_some h
    refine kz_re (w2 := wF ty ad q2) hp hd hs (by rw [← eq2]; exact wF_a26 ty ad q (Int32.toNatClampNeg (q.1 25 6)) p1) ?_
    clear hp hd hs hP hD hS
    intro hP hD hS
    refine lv_aload_n hx hb dX7_beginClause_22 rfl (lv_at hl 0 rfl) ?_
    refine va_get (D := D) (ci := 7) (v := .ref (ad 27)) (C := RX7) (T := TX7) (N := 8) hx hb hts u9_wsX7_beginClause_X7 hown hK hP 25 rfl rfl 1 (by decide) (hts (.fieldLink RX7 20 "TurnedFloors$Text" "times" "[I") f9_wsX7_beginClause_482) (fun _ h9 => h9) rfl dX7_beginClause_23 ?_
    refine lv_aload_n hx hb dX7_beginClause_26 rfl (lv_at hl 0 rfl) ?_
    refine va_get (D := D) (ci := 7) (v := .int (q2.1 25 6)) (C := RX7) (T := TX7) (N := 8) hx hb hts u9_wsX7_beginClause_X7 hown hK hP 25 rfl rfl 6 (by decide) (hts (.fieldLink RX7 7 "TurnedFloors$Text" "clauses" "I") f9_wsX7_beginClause_480) (fun _ h9 => h9) rfl dX7_beginClause_27 ?_
    refine lv_iconst (v := 1) hx hb dX7_beginClause_30 (by decide) ?_
    obtain ⟨g3, h⟩ := dG_some h
    refine va_iast hx hb hK hP hD hS 27 0 rfl rfl (dg_in g3) dX7_beginClause_31 (fun H locs hp hd hs => ?_)
    obtain ⟨q4, eq4, h⟩ := dL_some h
    refine kz_re (w2 := wF ty ad q4) hp hd hs (by rw [← eq4]; exact wF_a27 ty ad q2 (Int32.toNatClampNeg (q2.1 25 6)) 1) ?_
    clear hp hd hs hP hD hS
    intro hP hD hS
    refine lv_aload_n hx hb dX7_beginClause_32 rfl (lv_at hl 0 rfl) ?_
    refine va_get (D := D) (ci := 7) (v := .ref (ad 28)) (C := RX7) (T := TX7) (N := 8) hx hb hts u9_wsX7_beginClause_X7 hown hK hP 25 rfl rfl 2 (by decide) (hts (.fieldLink RX7 23 "TurnedFloors$Text" "sumFrom" "[I") f9_wsX7_beginClause_483) (fun _ h9 => h9) rfl dX7_beginClause_33 ?_
    refine lv_aload_n hx hb dX7_beginClause_36 rfl (lv_at hl 0 rfl) ?_
    refine va_get (D := D) (ci := 7) (v := .int (q4.1 25 6)) (C := RX7) (T := TX7) (N := 8) hx hb hts u9_wsX7_beginClause_X7 hown hK hP 25 rfl rfl 6 (by decide) (hts (.fieldLink RX7 7 "TurnedFloors$Text" "clauses" "I") f9_wsX7_beginClause_480) (fun _ h9 => h9) rfl dX7_beginClause_37 ?_
    refine lv_aload_n hx hb dX7_beginClause_40 rfl (lv_at hl 0 rfl) ?_
    refine va_get (D := D) (ci := 7) (v := .int (q4.1 25 7)) (C := RX7) (T := TX7) (N := 8) hx hb hts u9_wsX7_beginClause_X7 hown hK hP 25 rfl rfl 7 (by decide) (hts (.fieldLink RX7 13 "TurnedFloors$Text" "length" "I") f9_wsX7_beginClause_484) (fun _ h9 => h9) rfl dX7_beginClause_41 ?_
    obtain ⟨g5, h⟩ := dG_some h
    refine va_iast hx hb hK hP hD hS 28 0 rfl rfl (dg_in g5) dX7_beginClause_44 (fun H locs hp hd hs => ?_)
    obtain ⟨q6, eq6, h⟩ := dL_some h
    refine kz_re (w2 := wF ty ad q6) hp hd hs (by rw [← eq6]; exact wF_a28 ty ad q4 (Int32.toNatClampNeg (q4.1 25 6)) (q4.1 25 7)) ?_
    clear hp hd hs hP hD hS
    intro hP hD hS
    refine lv_aload_n hx hb dX7_beginClause_45 rfl (lv_at hl 0 rfl) ?_
    refine va_get (D := D) (ci := 7) (v := .ref (ad 29)) (C := RX7) (T := TX7) (N := 8) hx hb hts u9_wsX7_beginClause_X7 hown hK hP 25 rfl rfl 3 (by decide) (hts (.fieldLink RX7 26 "TurnedFloors$Text" "testFrom" "[I") f9_wsX7_beginClause_485) (fun _ h9 => h9) rfl dX7_beginClause_46 ?_
    refine lv_aload_n hx hb dX7_beginClause_49 rfl (lv_at hl 0 rfl) ?_
    refine va_get (D := D) (ci := 7) (v := .int (q6.1 25 6)) (C := RX7) (T := TX7) (N := 8) hx hb hts u9_wsX7_beginClause_X7 hown hK hP 25 rfl rfl 6 (by decide) (hts (.fieldLink RX7 7 "TurnedFloors$Text" "clauses" "I") f9_wsX7_beginClause_480) (fun _ h9 => h9) rfl dX7_beginClause_50 ?_
    refine lv_aload_n hx hb dX7_beginClause_53 rfl (lv_at hl 0 rfl) ?_
    refine va_get (D := D) (ci := 7) (v := .int (q6.1 25 7)) (C := RX7) (T := TX7) (N := 8) hx hb hts u9_wsX7_beginClause_X7 hown hK hP 25 rfl rfl 7 (by decide) (hts (.fieldLink RX7 13 "TurnedFloors$Text" "length" "I") f9_wsX7_beginClause_484) (fun _ h9 => h9) rfl dX7_beginClause_54 ?_
    obtain ⟨g7, h⟩ := dG_some h
    refine va_iast hx hb hK hP hD hS 29 0 rfl rfl (dg_in g7) dX7_beginClause_57 (fun H locs hp hd hs => ?_)
    obtain ⟨q8, eq8, h⟩ := dL_some h
    refine kz_re (w2 := wF ty ad q8) hp hd hs (by rw [← eq8]; exact wF_a29 ty ad q6 (Int32.toNatClampNeg (q6.1 25 6)) (q6.1 25 7)) ?_
    clear hp hd hs hP hD hS
    intro hP hD hS
    refine lv_aload_n hx hb dX7_beginClause_58 rfl (lv_at hl 0 rfl) ?_
    refine va_get (D := D) (ci := 7) (v := .ref (ad 30)) (C := RX7) (T := TX7) (N := 8) hx hb hts u9_wsX7_beginClause_X7 hown hK hP 25 rfl rfl 4 (by decide) (hts (.fieldLink RX7 29 "TurnedFloors$Text" "testTo" "[I") f9_wsX7_beginClause_486) (fun _ h9 => h9) rfl dX7_beginClause_59 ?_
    refine lv_aload_n hx hb dX7_beginClause_62 rfl (lv_at hl 0 rfl) ?_
    refine va_get (D := D) (ci := 7) (v := .int (q8.1 25 6)) (C := RX7) (T := TX7) (N := 8) hx hb hts u9_wsX7_beginClause_X7 hown hK hP 25 rfl rfl 6 (by decide) (hts (.fieldLink RX7 7 "TurnedFloors$Text" "clauses" "I") f9_wsX7_beginClause_480) (fun _ h9 => h9) rfl dX7_beginClause_63 ?_
    refine lv_aload_n hx hb dX7_beginClause_66 rfl (lv_at hl 0 rfl) ?_
    refine va_get (D := D) (ci := 7) (v := .int (q8.1 25 7)) (C := RX7) (T := TX7) (N := 8) hx hb hts u9_wsX7_beginClause_X7 hown hK hP 25 rfl rfl 7 (by decide) (hts (.fieldLink RX7 13 "TurnedFloors$Text" "length" "I") f9_wsX7_beginClause_484) (fun _ h9 => h9) rfl dX7_beginClause_67 ?_
    obtain ⟨g9, h⟩ := dG_some h
    refine va_iast hx hb hK hP hD hS 30 0 rfl rfl (dg_in g9) dX7_beginClause_70 (fun H locs hp hd hs => ?_)
    obtain ⟨q10, eq10, h⟩ := dL_some h
    refine kz_re (w2 := wF ty ad q10) hp hd hs (by rw [← eq10]; exact wF_a30 ty ad q8 (Int32.toNatClampNeg (q8.1 25 6)) (q8.1 25 7)) ?_
    clear hp hd hs hP hD hS
    intro hP hD hS
    refine lv_aload_n hx hb dX7_beginClause_71 rfl (lv_at hl 0 rfl) ?_
    refine lv_dup hx hb dX7_beginClause_72 rfl ?_
    refine va_get (D := D) (ci := 7) (v := .int (q10.1 25 6)) (C := RX7) (T := TX7) (N := 8) hx hb hts u9_wsX7_beginClause_X7 hown hK hP 25 rfl rfl 6 (by decide) (hts (.fieldLink RX7 7 "TurnedFloors$Text" "clauses" "I") f9_wsX7_beginClause_480) (fun _ h9 => h9) rfl dX7_beginClause_73 ?_
    refine lv_iconst (v := 1) hx hb dX7_beginClause_76 (by decide) ?_
    refine lv_iadd hx hb dX7_beginClause_77 ?_
    refine va_put (D := D) (ci := 7) (v := .int ((q10.1 25 6) + 1 : Int32)) (ty := .int) (C := RX7) (T := TX7) (N := 8) hx hb hts u9_wsX7_beginClause_X7 tyX7 tyX7_ok nmX7 hown hK hP hD hS 25 rfl rfl 6 (by decide) (hts (.fieldLink RX7 7 "TurnedFloors$Text" "clauses" "I") f9_wsX7_beginClause_480) (fun _ h9 => h9) rfl (by decide +kernel) rfl rfl (Nat.le_of_ble_eq_true rfl) dX7_beginClause_78 (fun H locs hp hd hs => ?_)
    obtain ⟨q11, eq11, h⟩ := dL_some h
    refine kz_re (w2 := wF ty ad q11) hp hd hs (by rw [← eq11]; exact wF_f25_6 ty ad q10 ((q10.1 25 6) + 1 : Int32)) ?_
    clear hp hd hs hP hD hS
    intro hP hD hS
    exact WX7_beginClause_s25_81 C  _ _ _ _ h hP hD hS (lv_sub hl [] rfl)

set_option maxHeartbeats 4000000 in
set_option maxRecDepth 100000 in
theorem WX4_fail_s24_16 {p : Program} {l : Launch} {e : Env} {s : State} {m : MethodId} {args : Array Value} {below : List Frame} {meth : Method} {c : Code} {D : va_G} {ty : Nat → ClassId} {eo : Nat → Nat} {A : Nat → Prop} {ad : Nat → Nat} {o2 : dK} (C : dc_C p s m args meth c cX4_fail none 1 RX4 wsX4_fail D ty eo A)   (q : dK)  (H : Heap) (locs : List Loc) (ls : Array Slot) (h : zX4_fail_s24_16  q = some o2) (hP : va_P D vwCl (wF ty ad q) H) (hD : va_D A (wF ty ad q)) (hS : va_S A s.heap H locs) (hl : lv_has ls 1 []) : W p l e ({ frames := 0, cells := 0, slots := 0, locals := 0 } : Room) s m args below meth c H locs 0 0 (MQ below (va_Qv (fun (u : va_W) => wF ty ad o2 = u) (kz_B D ty A) A) args s 0 0 A) (F0 m 16 ls []) := by
  have C0 := C
  obtain ⟨hx, hb, hr, hts, hown, hlocks, hml, hK, hN, hE, hA⟩ := C
  unfold zX4_fail_s24_16 at h
  cases h
  exact kz_vret hx hb hr hlocks hP hK hD hS dX4_fail_16 rfl
set_option maxHeartbeats 4000000 in
set_option maxRecDepth 100000 in
theorem qX4_fail_s24 (l : Launch) (D : va_G) (ty : Nat → ClassId) (eo : Nat → Nat) (sz : Nat) (ad : Nat → Nat) (q : dK)  (o2 : dK) (h : zX4_fail_s24 q = some o2) : Met l yX4_fail wsX4_fail ({ frames := 0, cells := 0, slots := 0, locals := 0 } : Room) (va_Pc [.ref (ad 24)] (kz_pre D ty eo (wF ty ad q) sz)) (va_Qv (fun (u : va_W) => wF ty ad o2 = u) (kz_B D ty (va_A (wF ty ad q) sz)) (va_A (wF ty ad q) sz)) 0 0 (va_A (wF ty ad q) sz) := by
  refine Met.ofW (cc := cX4_fail) (maxL := 1) (ret := none) (by decide) rfl ?_
  intro p e s m args below meth c s₁ B hml hv
  obtain ⟨rfl, hsz, hP, hK, hD0, hN, hE⟩ := hv
  have hx := B.exec
  have hb := B.bytes
  have hr := B.returns
  have hts := atoms_spec (ws := wsX4_fail) B.pre
  have hown : s.vm.findClass RX4 = some m.cls := findClass_of_methodNamed B.named
  have hlocks := B.notSynchronized
  subst hsz
  have hD := hD0.self (sz := s.heap.size)
  generalize hAe : va_A (wF ty ad q) s.heap.size = A at hD hE ⊢
  have hA : ∀ q : Nat, s.heap.size ≤ q → A q := fun q h => by rw [← hAe]; exact Or.inr h
  clear hAe
  have hS : va_S A s.heap s.heap [] := va_S.rf
  have hl := lv_entry ([.ref (ad 24)]) (n := 1) (Nat.le_of_ble_eq_true rfl)
  rw [lg_entry_eq]
  generalize (lg_sl ([.ref (ad 24)]) ++ List.replicate (1 - (lg_sl ([.ref (ad 24)])).length) Slot.unset).toArray = ls at hl ⊢
  have hl : lv_has ls 1 [(0, .ref (ad 24))] := hl
  have C : dc_C p s m _ meth c cX4_fail none 1 RX4 wsX4_fail D ty eo A := ⟨hx, hb, hr, hts, hown, hlocks, hml, hK, hN, hE, hA⟩
  unfold zX4_fail_s24 at h
  refine lv_aload_n hx hb dX4_fail_0 rfl (lv_at hl 0 rfl) ?_
  refine va_get (D := D) (ci := 4) (v := .int (q.1 24 10)) (C := RX4) (T := TX4) (N := 11) hx hb hts u9_wsX4_fail_X4 hown hK hP 24 rfl rfl 10 (by decide) (hts (.fieldLink RX4 45 "TurnedFloors$Reader" "faultAt" "I") f9_wsX4_fail_488) (fun _ h9 => h9) rfl dX4_fail_1 ?_
  refine lv_iconst (v := (-1)) hx hb dX4_fail_4 (by decide) ?_
  refine lv_icmp_ne (tgt := 16) hx hb dX4_fail_5 (by decide) (fun c9 => ?_) (fun c9 => ?_)
  · rw [if_neg c9] at h
    exact WX4_fail_s24_16 C  _ _ _ _ h hP hD hS (lv_sub hl [] rfl)
  · rw [if_pos c9] at h
    refine lv_aload_n hx hb dX4_fail_8 rfl (lv_at hl 0 rfl) ?_
    refine lv_aload_n hx hb dX4_fail_9 rfl (lv_at hl 0 rfl) ?_
    refine va_get (D := D) (ci := 4) (v := .int (q.1 24 5)) (C := RX4) (T := TX4) (N := 11) hx hb hts u9_wsX4_fail_X4 hown hK hP 24 rfl rfl 5 (by decide) (hts (.fieldLink RX4 30 "TurnedFloors$Reader" "start" "I") f9_wsX4_fail_489) (fun _ h9 => h9) rfl dX4_fail_10 ?_
    refine va_put (D := D) (ci := 4) (v := .int (q.1 24 5)) (ty := .int) (C := RX4) (T := TX4) (N := 11) hx hb hts u9_wsX4_fail_X4 tyX4 tyX4_ok nmX4 hown hK hP hD hS 24 rfl rfl 10 (by decide) (hts (.fieldLink RX4 45 "TurnedFloors$Reader" "faultAt" "I") f9_wsX4_fail_488) (fun _ h9 => h9) rfl (by decide +kernel) rfl rfl (Nat.le_of_ble_eq_true rfl) dX4_fail_13 (fun H locs hp hd hs => ?_)
    obtain ⟨q1, eq1, h⟩ := dL_some h
    refine kz_re (w2 := wF ty ad q1) hp hd hs (by rw [← eq1]; exact wF_f24_10 ty ad q (q.1 24 5)) ?_
    clear hp hd hs hP hD hS
    intro hP hD hS
    exact WX4_fail_s24_16 C  _ _ _ _ h hP hD hS (lv_sub hl [] rfl)
end
section
set_option maxRecDepth 20000 in
theorem ggX4_openBracket_X4_fail : GoodIn wsX4_openBracket wsX4_fail := wd_c vW9_ok mvW9_191
set_option maxRecDepth 20000 in
theorem gX4_openBracket_X4_fail : GoodIn wsX4_openBracket (wsV RX4 62 RX4 yX4_fail wsX4_fail) := goodIn_app (wd_l vW9_ok _ pvW9_37) ggX4_openBracket_X4_fail
set_option maxRecDepth 20000 in
theorem ggX4_openBracket_X4_step : GoodIn wsX4_openBracket wsX4_step := wd_c vW9_ok mvW9_182
set_option maxRecDepth 20000 in
theorem gX4_openBracket_X4_step : GoodIn wsX4_openBracket (wsV RX4 59 RX4 yX4_step wsX4_step) := goodIn_app (wd_l vW9_ok _ pvW9_36) ggX4_openBracket_X4_step
theorem da9_dX4_openBracket_0 : (decode cX4_openBracket 0 = .ok (.aload_n 0, 1)) ∧ (decode cX4_openBracket 1 = .ok (.getfield 42, 3)) ∧ (decode cX4_openBracket 4 = .ok (.bipush 8, 2)) ∧ (decode cX4_openBracket 6 = .ok (.if_icmp .lt 9, 3)) ∧ (decode cX4_openBracket 9 = .ok (.aload_n 0, 1)) ∧ (decode cX4_openBracket 10 = .ok (.invokevirtual 62, 3)) ∧ (decode cX4_openBracket 13 = .ok (.iconst 0, 1)) ∧ (decode cX4_openBracket 14 = .ok (.ireturn, 1)) ∧ (decode cX4_openBracket 15 = .ok (.aload_n 0, 1)) ∧ (decode cX4_openBracket 16 = .ok (.dup, 1)) ∧ (decode cX4_openBracket 17 = .ok (.getfield 42, 3)) ∧ (decode cX4_openBracket 20 = .ok (.iconst 1, 1)) ∧ (decode cX4_openBracket 21 = .ok (.iadd, 1)) ∧ (decode cX4_openBracket 22 = .ok (.putfield 42, 3)) ∧ (decode cX4_openBracket 25 = .ok (.aload_n 0, 1)) ∧ (decode cX4_openBracket 26 = .ok (.invokevirtual 59, 3)) := by decide +kernel
theorem dX4_openBracket_0 : decode cX4_openBracket 0 = .ok (.aload_n 0, 1) := da9_dX4_openBracket_0.1
theorem dX4_openBracket_1 : decode cX4_openBracket 1 = .ok (.getfield 42, 3) := da9_dX4_openBracket_0.2.1
theorem dX4_openBracket_4 : decode cX4_openBracket 4 = .ok (.bipush 8, 2) := da9_dX4_openBracket_0.2.2.1
theorem dX4_openBracket_6 : decode cX4_openBracket 6 = .ok (.if_icmp .lt 9, 3) := da9_dX4_openBracket_0.2.2.2.1
theorem dX4_openBracket_9 : decode cX4_openBracket 9 = .ok (.aload_n 0, 1) := da9_dX4_openBracket_0.2.2.2.2.1
theorem dX4_openBracket_10 : decode cX4_openBracket 10 = .ok (.invokevirtual 62, 3) := da9_dX4_openBracket_0.2.2.2.2.2.1
theorem dX4_openBracket_13 : decode cX4_openBracket 13 = .ok (.iconst 0, 1) := da9_dX4_openBracket_0.2.2.2.2.2.2.1
theorem dX4_openBracket_14 : decode cX4_openBracket 14 = .ok (.ireturn, 1) := da9_dX4_openBracket_0.2.2.2.2.2.2.2.1
theorem dX4_openBracket_15 : decode cX4_openBracket 15 = .ok (.aload_n 0, 1) := da9_dX4_openBracket_0.2.2.2.2.2.2.2.2.1
theorem dX4_openBracket_16 : decode cX4_openBracket 16 = .ok (.dup, 1) := da9_dX4_openBracket_0.2.2.2.2.2.2.2.2.2.1
theorem dX4_openBracket_17 : decode cX4_openBracket 17 = .ok (.getfield 42, 3) := da9_dX4_openBracket_0.2.2.2.2.2.2.2.2.2.2.1
theorem dX4_openBracket_20 : decode cX4_openBracket 20 = .ok (.iconst 1, 1) := da9_dX4_openBracket_0.2.2.2.2.2.2.2.2.2.2.2.1
theorem dX4_openBracket_21 : decode cX4_openBracket 21 = .ok (.iadd, 1) := da9_dX4_openBracket_0.2.2.2.2.2.2.2.2.2.2.2.2.1
theorem dX4_openBracket_22 : decode cX4_openBracket 22 = .ok (.putfield 42, 3) := da9_dX4_openBracket_0.2.2.2.2.2.2.2.2.2.2.2.2.2.1
theorem dX4_openBracket_25 : decode cX4_openBracket 25 = .ok (.aload_n 0, 1) := da9_dX4_openBracket_0.2.2.2.2.2.2.2.2.2.2.2.2.2.2.1
theorem dX4_openBracket_26 : decode cX4_openBracket 26 = .ok (.invokevirtual 59, 3) := da9_dX4_openBracket_0.2.2.2.2.2.2.2.2.2.2.2.2.2.2.2
theorem da9_dX4_openBracket_29 : (decode cX4_openBracket 29 = .ok (.iconst 1, 1)) ∧ (decode cX4_openBracket 30 = .ok (.ireturn, 1)) := by decide +kernel
theorem dX4_openBracket_29 : decode cX4_openBracket 29 = .ok (.iconst 1, 1) := da9_dX4_openBracket_29.1
theorem dX4_openBracket_30 : decode cX4_openBracket 30 = .ok (.ireturn, 1) := da9_dX4_openBracket_29.2
set_option maxRecDepth 20000 in
theorem ggX4_expectSign_X4_isSign : GoodIn wsX4_expectSign wsX4_isSign := wd_c vW9_ok mvW9_276
set_option maxRecDepth 20000 in
theorem gX4_expectSign_X4_isSign : GoodIn wsX4_expectSign (wsV RX4 130 RX4 yX4_isSign wsX4_isSign) := goodIn_app (wd_l vW9_ok _ pvW9_53) ggX4_expectSign_X4_isSign
set_option maxRecDepth 20000 in
theorem ggX4_expectSign_X4_step : GoodIn wsX4_expectSign wsX4_step := wd_c vW9_ok mvW9_182
set_option maxRecDepth 20000 in
theorem gX4_expectSign_X4_step : GoodIn wsX4_expectSign (wsV RX4 59 RX4 yX4_step wsX4_step) := goodIn_app (wd_l vW9_ok _ pvW9_36) ggX4_expectSign_X4_step
set_option maxRecDepth 20000 in
theorem ggX4_expectSign_X4_fail : GoodIn wsX4_expectSign wsX4_fail := wd_c vW9_ok mvW9_191
set_option maxRecDepth 20000 in
theorem gX4_expectSign_X4_fail : GoodIn wsX4_expectSign (wsV RX4 62 RX4 yX4_fail wsX4_fail) := goodIn_app (wd_l vW9_ok _ pvW9_37) ggX4_expectSign_X4_fail
theorem da9_dX4_expectSign_0 : (decode cX4_expectSign 0 = .ok (.aload_n 0, 1)) ∧ (decode cX4_expectSign 1 = .ok (.iload_n 1, 1)) ∧ (decode cX4_expectSign 2 = .ok (.invokevirtual 130, 3)) ∧ (decode cX4_expectSign 5 = .ok (.ifCond .eq 10, 3)) ∧ (decode cX4_expectSign 8 = .ok (.aload_n 0, 1)) ∧ (decode cX4_expectSign 9 = .ok (.invokevirtual 59, 3)) ∧ (decode cX4_expectSign 12 = .ok (.goto 7, 3)) ∧ (decode cX4_expectSign 15 = .ok (.aload_n 0, 1)) ∧ (decode cX4_expectSign 16 = .ok (.invokevirtual 62, 3)) ∧ (decode cX4_expectSign 19 = .ok (.return_, 1)) := by decide +kernel
theorem dX4_expectSign_0 : decode cX4_expectSign 0 = .ok (.aload_n 0, 1) := da9_dX4_expectSign_0.1
theorem dX4_expectSign_1 : decode cX4_expectSign 1 = .ok (.iload_n 1, 1) := da9_dX4_expectSign_0.2.1
theorem dX4_expectSign_2 : decode cX4_expectSign 2 = .ok (.invokevirtual 130, 3) := da9_dX4_expectSign_0.2.2.1
theorem dX4_expectSign_5 : decode cX4_expectSign 5 = .ok (.ifCond .eq 10, 3) := da9_dX4_expectSign_0.2.2.2.1
theorem dX4_expectSign_8 : decode cX4_expectSign 8 = .ok (.aload_n 0, 1) := da9_dX4_expectSign_0.2.2.2.2.1
theorem dX4_expectSign_9 : decode cX4_expectSign 9 = .ok (.invokevirtual 59, 3) := da9_dX4_expectSign_0.2.2.2.2.2.1
theorem dX4_expectSign_12 : decode cX4_expectSign 12 = .ok (.goto 7, 3) := da9_dX4_expectSign_0.2.2.2.2.2.2.1
theorem dX4_expectSign_15 : decode cX4_expectSign 15 = .ok (.aload_n 0, 1) := da9_dX4_expectSign_0.2.2.2.2.2.2.2.1
theorem dX4_expectSign_16 : decode cX4_expectSign 16 = .ok (.invokevirtual 62, 3) := da9_dX4_expectSign_0.2.2.2.2.2.2.2.2.1
theorem dX4_expectSign_19 : decode cX4_expectSign 19 = .ok (.return_, 1) := da9_dX4_expectSign_0.2.2.2.2.2.2.2.2.2
theorem da9_dX4_isSign_0 : (decode cX4_isSign 0 = .ok (.aload_n 0, 1)) ∧ (decode cX4_isSign 1 = .ok (.getfield 27, 3)) ∧ (decode cX4_isSign 4 = .ok (.iconst 3, 1)) ∧ (decode cX4_isSign 5 = .ok (.if_icmp .ne 31, 3)) ∧ (decode cX4_isSign 8 = .ok (.aload_n 0, 1)) ∧ (decode cX4_isSign 9 = .ok (.getfield 30, 3)) ∧ (decode cX4_isSign 12 = .ok (.aload_n 0, 1)) ∧ (decode cX4_isSign 13 = .ok (.getfield 15, 3)) ∧ (decode cX4_isSign 16 = .ok (.if_icmp .ge 20, 3)) ∧ (decode cX4_isSign 19 = .ok (.aload_n 0, 1)) ∧ (decode cX4_isSign 20 = .ok (.getfield 9, 3)) ∧ (decode cX4_isSign 23 = .ok (.aload_n 0, 1)) ∧ (decode cX4_isSign 24 = .ok (.getfield 30, 3)) ∧ (decode cX4_isSign 27 = .ok (.iaload, 1)) ∧ (decode cX4_isSign 28 = .ok (.iload_n 1, 1)) ∧ (decode cX4_isSign 29 = .ok (.if_icmp .ne 7, 3)) := by decide +kernel
theorem dX4_isSign_0 : decode cX4_isSign 0 = .ok (.aload_n 0, 1) := da9_dX4_isSign_0.1
theorem dX4_isSign_1 : decode cX4_isSign 1 = .ok (.getfield 27, 3) := da9_dX4_isSign_0.2.1
theorem dX4_isSign_4 : decode cX4_isSign 4 = .ok (.iconst 3, 1) := da9_dX4_isSign_0.2.2.1
theorem dX4_isSign_5 : decode cX4_isSign 5 = .ok (.if_icmp .ne 31, 3) := da9_dX4_isSign_0.2.2.2.1
theorem dX4_isSign_8 : decode cX4_isSign 8 = .ok (.aload_n 0, 1) := da9_dX4_isSign_0.2.2.2.2.1
theorem dX4_isSign_9 : decode cX4_isSign 9 = .ok (.getfield 30, 3) := da9_dX4_isSign_0.2.2.2.2.2.1
theorem dX4_isSign_12 : decode cX4_isSign 12 = .ok (.aload_n 0, 1) := da9_dX4_isSign_0.2.2.2.2.2.2.1
theorem dX4_isSign_13 : decode cX4_isSign 13 = .ok (.getfield 15, 3) := da9_dX4_isSign_0.2.2.2.2.2.2.2.1
theorem dX4_isSign_16 : decode cX4_isSign 16 = .ok (.if_icmp .ge 20, 3) := da9_dX4_isSign_0.2.2.2.2.2.2.2.2.1
theorem dX4_isSign_19 : decode cX4_isSign 19 = .ok (.aload_n 0, 1) := da9_dX4_isSign_0.2.2.2.2.2.2.2.2.2.1
theorem dX4_isSign_20 : decode cX4_isSign 20 = .ok (.getfield 9, 3) := da9_dX4_isSign_0.2.2.2.2.2.2.2.2.2.2.1
theorem dX4_isSign_23 : decode cX4_isSign 23 = .ok (.aload_n 0, 1) := da9_dX4_isSign_0.2.2.2.2.2.2.2.2.2.2.2.1
theorem dX4_isSign_24 : decode cX4_isSign 24 = .ok (.getfield 30, 3) := da9_dX4_isSign_0.2.2.2.2.2.2.2.2.2.2.2.2.1
theorem dX4_isSign_27 : decode cX4_isSign 27 = .ok (.iaload, 1) := da9_dX4_isSign_0.2.2.2.2.2.2.2.2.2.2.2.2.2.1
theorem dX4_isSign_28 : decode cX4_isSign 28 = .ok (.iload_n 1, 1) := da9_dX4_isSign_0.2.2.2.2.2.2.2.2.2.2.2.2.2.2.1
theorem dX4_isSign_29 : decode cX4_isSign 29 = .ok (.if_icmp .ne 7, 3) := da9_dX4_isSign_0.2.2.2.2.2.2.2.2.2.2.2.2.2.2.2
theorem da9_dX4_isSign_32 : (decode cX4_isSign 32 = .ok (.iconst 1, 1)) ∧ (decode cX4_isSign 33 = .ok (.goto 4, 3)) ∧ (decode cX4_isSign 36 = .ok (.iconst 0, 1)) ∧ (decode cX4_isSign 37 = .ok (.ireturn, 1)) := by decide +kernel
theorem dX4_isSign_32 : decode cX4_isSign 32 = .ok (.iconst 1, 1) := da9_dX4_isSign_32.1
theorem dX4_isSign_33 : decode cX4_isSign 33 = .ok (.goto 4, 3) := da9_dX4_isSign_32.2.1
theorem dX4_isSign_36 : decode cX4_isSign 36 = .ok (.iconst 0, 1) := da9_dX4_isSign_32.2.2.1
theorem dX4_isSign_37 : decode cX4_isSign 37 = .ok (.ireturn, 1) := da9_dX4_isSign_32.2.2.2
end
section
theorem u9_wsX4_isSign_X4 : ∀ w ∈ u_ws RX4 TX4 11, w ∈ wsX4_isSign := fun w h => List.mem_cons_of_mem _ (vW9_wsX40 w h)
theorem f9_wsX4_isSign_491 : (Cond.fieldLink RX4 27 "TurnedFloors$Reader" "token" "I") ∈ wsX4_isSign := List.mem_cons_of_mem _ mvW9_171
theorem f9_wsX4_isSign_492 : (Cond.fieldLink RX4 30 "TurnedFloors$Reader" "start" "I") ∈ wsX4_isSign := List.mem_cons_of_mem _ mvW9_183
theorem f9_wsX4_isSign_493 : (Cond.fieldLink RX4 15 "TurnedFloors$Reader" "length" "I") ∈ wsX4_isSign := List.mem_cons_of_mem _ mvW9_164
theorem f9_wsX4_isSign_494 : (Cond.fieldLink RX4 9 "TurnedFloors$Reader" "bytes" "[I") ∈ wsX4_isSign := List.mem_cons_of_mem _ mvW9_162
theorem u9_wsX4_openBracket_X4 : ∀ w ∈ u_ws RX4 TX4 11, w ∈ wsX4_openBracket := fun w h => List.mem_cons_of_mem _ (vW9_wsX40 w h)
theorem f9_wsX4_openBracket_496 : (Cond.fieldLink RX4 42 "TurnedFloors$Reader" "open" "I") ∈ wsX4_openBracket := List.mem_cons_of_mem _ mvW9_169
set_option maxHeartbeats 4000000 in
set_option maxRecDepth 100000 in
theorem WX4_isSame_s24_t1_20b {p : Program} {l : Launch} {e : Env} {s : State} {m : MethodId} {args : Array Value} {below : List Frame} {meth : Method} {c : Code} {D : va_G} {ty : Nat → ClassId} {eo : Nat → Nat} {A : Nat → Prop} {ad : Nat → Nat} {o1 : Int32} {o2 : dK} (C : dc_C p s m args meth c cX4_isSame (some .boolean) 5 RX4 wsX4_isSame D ty eo A) {k20 : dK → Int32 → Int32 → Int32 → Option (Int32 × dK)} (hk20 : ∀ (q : dK) (x2 : Int32) (x3 : Int32) (x4 : Int32) (H : Heap) (locs : List Loc) (ls : Array Slot), k20 q x2 x3 x4 = some (o1, o2) → va_P D vwCl (wF ty ad q) H → va_D A (wF ty ad q) → va_S A s.heap H locs → lv_has ls 5 [(0, .ref (ad 24)), (1, .ref (eo (1 + 1))), (2, .int x2), (3, .int x3), (4, .int x4)] → W p l e ({ frames := 4, cells := 0, slots := 0, locals := 85 } : Room) s m args below meth c H locs 0 0 (MQ below (va_Qi (fun (r : Int32) (u : va_W) => o1 = r ∧ wF ty ad o2 = u) (kz_B D ty A) A) args s 0 0 A) (F0 m 20 ls [])) (q : dK) (x2 : Int32) (x3 : Int32) (x4 : Int32) (H : Heap) (locs : List Loc) (ls : Array Slot) (h : zX4_isSame_s24_t1_20b k20 q x2 x3 x4 = some (o1, o2)) (hP : va_P D vwCl (wF ty ad q) H) (hD : va_D A (wF ty ad q)) (hS : va_S A s.heap H locs) (hl : lv_has ls 5 [(0, .ref (ad 24)), (1, .ref (eo (1 + 1))), (2, .int x2), (3, .int x3), (4, .int x4)]) : W p l e ({ frames := 4, cells := 0, slots := 0, locals := 85 } : Room) s m args below meth c H locs 0 0 (MQ below (va_Qi (fun (r : Int32) (u : va_W) => o1 = r ∧ wF ty ad o2 = u) (kz_B D ty A) A) args s 0 0 A) (F0 m 20 ls []) := by
  have C0 := C
  obtain ⟨hx, hb, hr, hts, hown, hlocks, hml, hK, hN, hE, hA⟩ := C
  unfold zX4_isSame_s24_t1_20b at h
  refine lv_iload hx hb dX4_isSame_20 (lv_at hl 4 rfl) ?_
  refine lv_iload_n hx hb dX4_isSame_22 rfl (lv_at hl 3 rfl) ?_
  refine lv_icmp_ge (tgt := 57) hx hb dX4_isSame_23 (by decide) (fun c9 => ?_) (fun c9 => ?_)
  · rw [if_pos c9] at h
    refine lv_iconst (v := 1) hx hb dX4_isSame_57 (by decide) ?_
    cases h
    exact kz_zret hx hb hr hlocks rfl hP hK hD hS dX4_isSame_58 ⟨rfl, rfl⟩
  · rw [if_neg c9] at h
    refine lv_aload_n hx hb dX4_isSame_26 rfl (lv_at hl 1 rfl) ?_
    refine lv_iload hx hb dX4_isSame_27 (lv_at hl 4 rfl) ?_
    obtain ⟨g1, h⟩ := dG_some h
    refine dw_ks (va_runV (As := [.int x4]) (rest := []) ⟨hx, hb, hml, hown, hts⟩ (kcJ0ch l D ty eo _ 1 (by decide) x4 (dg_in g1)) (cwV 1 hts gX4_isSame_J0_charAt_5068e rfl rfl rfl hd_J0_charAt_5068e_v ⟨Nat.le_of_ble_eq_true rfl, Nat.le_of_ble_eq_true rfl⟩) (kz_preT hK hN hE hP hD hS hA 1 (by decide) [] (by decide) rfl) rfl rfl hl.1 rfl (lv_room (Nat.le_of_ble_eq_true rfl)) dX4_isSame_29 ⟨Nat.le_of_ble_eq_true rfl, Nat.le_of_ble_eq_true rfl⟩) hP hD hS hA (fun _ _ h9 => h9.2.symm) (fun r9 u9 H locs hw hp hd hs => ?_)
    obtain ⟨rfl, -⟩ := hw
    clear hP hD hS
    have hP := hp; have hD := hd; have hS := hs; clear hp hd hs
    obtain ⟨v2, ev2, h⟩ := dL_some h
    refine kz_topi v2 ev2 ?_
    refine lv_aload_n hx hb dX4_isSame_32 rfl (lv_at hl 0 rfl) ?_
    refine va_get (D := D) (ci := 4) (v := dN (ad 46) (q.1 24 0)) (C := RX4) (T := TX4) (N := 11) hx hb hts u9_wsX4_isSame_X4 hown hK hP 24 rfl rfl 0 (by decide) (hts (.fieldLink RX4 9 "TurnedFloors$Reader" "bytes" "[I") f9_wsX4_isSame_474) (fun _ h9 => h9) rfl dX4_isSame_33 ?_
    obtain ⟨g3, h⟩ := dG_some h
    refine kz_topv (if_neg (dnz_ne g3)) ?_
    refine lv_aload_n hx hb dX4_isSame_36 rfl (lv_at hl 0 rfl) ?_
    refine va_get (D := D) (ci := 4) (v := .int (q.1 24 5)) (C := RX4) (T := TX4) (N := 11) hx hb hts u9_wsX4_isSame_X4 hown hK hP 24 rfl rfl 5 (by decide) (hts (.fieldLink RX4 30 "TurnedFloors$Reader" "start" "I") f9_wsX4_isSame_475) (fun _ h9 => h9) rfl dX4_isSame_37 ?_
    refine lv_iload hx hb dX4_isSame_40 (lv_at hl 4 rfl) ?_
    refine lv_iadd hx hb dX4_isSame_42 ?_
    refine lv_iload_n hx hb dX4_isSame_43 rfl (lv_at hl 2 rfl) ?_
    refine lv_isub hx hb dX4_isSame_44 ?_
    obtain ⟨g4, h⟩ := dG_some h
    refine va_iald hx hb hK hP 46 0 rfl rfl (dg_in g4) dX4_isSame_45 ?_
    obtain ⟨v5, ev5, h⟩ := dL_some h
    refine kz_topi v5 ev5 ?_
    refine lv_icmp_eq (tgt := 51) hx hb dX4_isSame_46 (by decide) (fun c9 => ?_) (fun c9 => ?_)
    · rw [if_pos c9] at h
      refine lv_iinc (v := x4 + 1) (lv' := [(4, .int (x4 + 1)), (0, .ref (ad 24)), (1, .ref (eo (1 + 1))), (2, .int x2), (3, .int x3)]) hx hb dX4_isSame_51 hl (k := 4) rfl rfl (by decide) rfl (fun ls hl => ?_)
      refine lv_goto (tgt := 20) hx hb dX4_isSame_54 (by decide) ?_
      exact hk20 _ _ _ _ _ _ _ h hP hD hS (lv_sub hl [1, 2, 3, 4, 0] rfl)
    · rw [if_neg c9] at h
      refine lv_iconst (v := 0) hx hb dX4_isSame_49 (by decide) ?_
      cases h
      exact kz_zret hx hb hr hlocks rfl hP hK hD hS dX4_isSame_50 ⟨rfl, rfl⟩
set_option maxHeartbeats 4000000 in
set_option maxRecDepth 100000 in
theorem WX4_isSame_s24_t1_20 {p : Program} {l : Launch} {e : Env} {s : State} {m : MethodId} {args : Array Value} {below : List Frame} {meth : Method} {c : Code} {D : va_G} {ty : Nat → ClassId} {eo : Nat → Nat} {A : Nat → Prop} {ad : Nat → Nat} {o1 : Int32} {o2 : dK} (C : dc_C p s m args meth c cX4_isSame (some .boolean) 5 RX4 wsX4_isSame D ty eo A)   (n : Nat) (q : dK) (x2 : Int32) (x3 : Int32) (x4 : Int32) (H : Heap) (locs : List Loc) (ls : Array Slot) (h : zX4_isSame_s24_t1_20  n q x2 x3 x4 = some (o1, o2)) (hP : va_P D vwCl (wF ty ad q) H) (hD : va_D A (wF ty ad q)) (hS : va_S A s.heap H locs) (hl : lv_has ls 5 [(0, .ref (ad 24)), (1, .ref (eo (1 + 1))), (2, .int x2), (3, .int x3), (4, .int x4)]) : W p l e ({ frames := 4, cells := 0, slots := 0, locals := 85 } : Room) s m args below meth c H locs 0 0 (MQ below (va_Qi (fun (r : Int32) (u : va_W) => o1 = r ∧ wF ty ad o2 = u) (kz_B D ty A) A) args s 0 0 A) (F0 m 20 ls []) := by
  exact dFix_W (F := fun k (a : dK × Int32 × Int32 × Int32) => zX4_isSame_s24_t1_20b  (fun q x2 x3 x4 => k (q, x2, x3, x4)) a.1 a.2.1 a.2.2.1 a.2.2.2) (o := (o1, o2)) (P := fun (a : dK × Int32 × Int32 × Int32) H locs ls => va_P D vwCl (wF ty ad a.1) H ∧ va_D A (wF ty ad a.1) ∧ va_S A s.heap H locs ∧ lv_has ls 5 [(0, .ref (ad 24)), (1, .ref (eo (1 + 1))), (2, .int a.2.1), (3, .int a.2.2.1), (4, .int a.2.2.2)]) (G := fun H locs ls => W p l e ({ frames := 4, cells := 0, slots := 0, locals := 85 } : Room) s m args below meth c H locs 0 0 (MQ below (va_Qi (fun (r : Int32) (u : va_W) => o1 = r ∧ wF ty ad o2 = u) (kz_B D ty A) A) args s 0 0 A) (F0 m 20 ls []))
    (fun k hk a H locs ls h hp => WX4_isSame_s24_t1_20b C  (fun q x2 x3 x4 H locs ls h h1 h2 h3 h4 => hk (q, x2, x3, x4) H locs ls h ⟨h1, h2, h3, h4⟩) a.1 a.2.1 a.2.2.1 a.2.2.2 H locs ls h hp.1 hp.2.1 hp.2.2.1 hp.2.2.2) n (q, x2, x3, x4) H locs ls h ⟨hP, hD, hS, hl⟩
set_option maxHeartbeats 4000000 in
set_option maxRecDepth 100000 in
theorem qX4_isSame_s24_t1 (l : Launch) (D : va_G) (ty : Nat → ClassId) (eo : Nat → Nat) (sz : Nat) (ad : Nat → Nat) (q : dK) (p2 : Int32) (p3 : Int32) (o1 : Int32) (o2 : dK) (h : zX4_isSame_s24_t1 q p2 p3 = some (o1, o2)) : Met l yX4_isSame wsX4_isSame ({ frames := 4, cells := 0, slots := 0, locals := 85 } : Room) (va_Pc [.ref (ad 24), .ref (eo (1 + 1)), .int p2, .int p3] (kz_pre D ty eo (wF ty ad q) sz)) (va_Qi (fun (r : Int32) (u : va_W) => o1 = r ∧ wF ty ad o2 = u) (kz_B D ty (va_A (wF ty ad q) sz)) (va_A (wF ty ad q) sz)) 0 0 (va_A (wF ty ad q) sz) := by
  refine Met.ofW (cc := cX4_isSame) (maxL := 5) (ret := (some .boolean)) (by decide) rfl ?_
  intro p e s m args below meth c s₁ B hml hv
  obtain ⟨rfl, hsz, hP, hK, hD0, hN, hE⟩ := hv
  have hx := B.exec
  have hb := B.bytes
  have hr := B.returns
  have hts := atoms_spec (ws := wsX4_isSame) B.pre
  have hown : s.vm.findClass RX4 = some m.cls := findClass_of_methodNamed B.named
  have hlocks := B.notSynchronized
  subst hsz
  have hD := hD0.self (sz := s.heap.size)
  generalize hAe : va_A (wF ty ad q) s.heap.size = A at hD hE ⊢
  have hA : ∀ q : Nat, s.heap.size ≤ q → A q := fun q h => by rw [← hAe]; exact Or.inr h
  clear hAe
  have hS : va_S A s.heap s.heap [] := va_S.rf
  have hl := lv_entry ([.ref (ad 24), .ref (eo (1 + 1)), .int p2, .int p3]) (n := 5) (Nat.le_of_ble_eq_true rfl)
  rw [lg_entry_eq]
  generalize (lg_sl ([.ref (ad 24), .ref (eo (1 + 1)), .int p2, .int p3]) ++ List.replicate (5 - (lg_sl ([.ref (ad 24), .ref (eo (1 + 1)), .int p2, .int p3])).length) Slot.unset).toArray = ls at hl ⊢
  have hl : lv_has ls 5 [(0, .ref (ad 24)), (1, .ref (eo (1 + 1))), (2, .int p2), (3, .int p3)] := hl
  have C : dc_C p s m _ meth c cX4_isSame (some .boolean) 5 RX4 wsX4_isSame D ty eo A := ⟨hx, hb, hr, hts, hown, hlocks, hml, hK, hN, hE, hA⟩
  unfold zX4_isSame_s24_t1 at h
  refine lv_iload_n hx hb dX4_isSame_0 rfl (lv_at hl 3 rfl) ?_
  refine lv_iload_n hx hb dX4_isSame_1 rfl (lv_at hl 2 rfl) ?_
  refine lv_isub hx hb dX4_isSame_2 ?_
  refine lv_aload_n hx hb dX4_isSame_3 rfl (lv_at hl 0 rfl) ?_
  refine va_get (D := D) (ci := 4) (v := .int (q.1 24 6)) (C := RX4) (T := TX4) (N := 11) hx hb hts u9_wsX4_isSame_X4 hown hK hP 24 rfl rfl 6 (by decide) (hts (.fieldLink RX4 33 "TurnedFloors$Reader" "stop" "I") f9_wsX4_isSame_476) (fun _ h9 => h9) rfl dX4_isSame_4 ?_
  refine lv_aload_n hx hb dX4_isSame_7 rfl (lv_at hl 0 rfl) ?_
  refine va_get (D := D) (ci := 4) (v := .int (q.1 24 5)) (C := RX4) (T := TX4) (N := 11) hx hb hts u9_wsX4_isSame_X4 hown hK hP 24 rfl rfl 5 (by decide) (hts (.fieldLink RX4 30 "TurnedFloors$Reader" "start" "I") f9_wsX4_isSame_475) (fun _ h9 => h9) rfl dX4_isSame_8 ?_
  refine lv_isub hx hb dX4_isSame_11 ?_
  refine lv_icmp_eq (tgt := 17) hx hb dX4_isSame_12 (by decide) (fun c9 => ?_) (fun c9 => ?_)
  · rw [if_pos c9] at h
    refine lv_iload_n hx hb dX4_isSame_17 rfl (lv_at hl 2 rfl) ?_
    refine lv_istore (lv' := [(4, .int p2), (0, .ref (ad 24)), (1, .ref (eo (1 + 1))), (2, .int p2), (3, .int p3)]) hx hb dX4_isSame_18 hl (by decide) rfl (fun ls hl => ?_)
    exact WX4_isSame_s24_t1_20 C  _ _ _ _ _ _ _ _ h hP hD hS (lv_sub hl [1, 2, 3, 4, 0] rfl)
  · rw [if_neg c9] at h
    refine lv_iconst (v := 0) hx hb dX4_isSame_15 (by decide) ?_
    cases h
    exact kz_zret hx hb hr hlocks rfl hP hK hD hS dX4_isSame_16 ⟨rfl, rfl⟩

set_option maxHeartbeats 4000000 in
set_option maxRecDepth 100000 in
theorem WX4_wordIn_s24_t1_62 {p : Program} {l : Launch} {e : Env} {s : State} {m : MethodId} {args : Array Value} {below : List Frame} {meth : Method} {c : Code} {D : va_G} {ty : Nat → ClassId} {eo : Nat → Nat} {A : Nat → Prop} {ad : Nat → Nat} {o1 : Int32} {o2 : dK} (C : dc_C p s m args meth c cX4_wordIn (some .int) 5 RX4 wsX4_wordIn D ty eo A)   (q : dK)  (H : Heap) (locs : List Loc) (ls : Array Slot) (h : zX4_wordIn_s24_t1_62  q = some (o1, o2)) (hP : va_P D vwCl (wF ty ad q) H) (hD : va_D A (wF ty ad q)) (hS : va_S A s.heap H locs) (hl : lv_has ls 5 []) : W p l e ({ frames := 5, cells := 0, slots := 0, locals := 109 } : Room) s m args below meth c H locs 0 0 (MQ below (va_Qi (fun (r : Int32) (u : va_W) => o1 = r ∧ wF ty ad o2 = u) (kz_B D ty A) A) args s 0 0 A) (F0 m 62 ls []) := by
  have C0 := C
  obtain ⟨hx, hb, hr, hts, hown, hlocks, hml, hK, hN, hE, hA⟩ := C
  unfold zX4_wordIn_s24_t1_62 at h
  refine lv_iconst (v := (-1)) hx hb dX4_wordIn_62 (by decide) ?_
  cases h
  exact kz_iret hx hb hr hlocks hP hK hD hS dX4_wordIn_63 ⟨rfl, rfl⟩
set_option maxHeartbeats 4000000 in
set_option maxRecDepth 100000 in
theorem WX4_wordIn_s24_t1_56 {p : Program} {l : Launch} {e : Env} {s : State} {m : MethodId} {args : Array Value} {below : List Frame} {meth : Method} {c : Code} {D : va_G} {ty : Nat → ClassId} {eo : Nat → Nat} {A : Nat → Prop} {ad : Nat → Nat} {o1 : Int32} {o2 : dK} (C : dc_C p s m args meth c cX4_wordIn (some .int) 5 RX4 wsX4_wordIn D ty eo A) {k7 : dK → Int32 → Int32 → Int32 → Option (Int32 × dK)} (hk7 : ∀ (q : dK) (x2 : Int32) (x3 : Int32) (x4 : Int32) (H : Heap) (locs : List Loc) (ls : Array Slot), k7 q x2 x3 x4 = some (o1, o2) → va_P D vwCl (wF ty ad q) H → va_D A (wF ty ad q) → va_S A s.heap H locs → lv_has ls 5 [(0, .ref (ad 24)), (1, .ref (eo (1 + 1))), (2, .int x2), (3, .int x3), (4, .int x4)] → W p l e ({ frames := 5, cells := 0, slots := 0, locals := 109 } : Room) s m args below meth c H locs 0 0 (MQ below (va_Qi (fun (r : Int32) (u : va_W) => o1 = r ∧ wF ty ad o2 = u) (kz_B D ty A) A) args s 0 0 A) (F0 m 7 ls [])) (q : dK) (x2 : Int32) (x3 : Int32) (x4 : Int32) (H : Heap) (locs : List Loc) (ls : Array Slot) (h : zX4_wordIn_s24_t1_56 k7 q x2 x3 x4 = some (o1, o2)) (hP : va_P D vwCl (wF ty ad q) H) (hD : va_D A (wF ty ad q)) (hS : va_S A s.heap H locs) (hl : lv_has ls 5 [(0, .ref (ad 24)), (1, .ref (eo (1 + 1))), (2, .int x2), (3, .int x3), (4, .int x4)]) : W p l e ({ frames := 5, cells := 0, slots := 0, locals := 109 } : Room) s m args below meth c H locs 0 0 (MQ below (va_Qi (fun (r : Int32) (u : va_W) => o1 = r ∧ wF ty ad o2 = u) (kz_B D ty A) A) args s 0 0 A) (F0 m 56 ls []) := by
  have C0 := C
  obtain ⟨hx, hb, hr, hts, hown, hlocks, hml, hK, hN, hE, hA⟩ := C
  unfold zX4_wordIn_s24_t1_56 at h
  refine lv_iinc (v := x4 + 1) (lv' := [(4, .int (x4 + 1)), (0, .ref (ad 24)), (1, .ref (eo (1 + 1))), (2, .int x2), (3, .int x3)]) hx hb dX4_wordIn_56 hl (k := 4) rfl rfl (by decide) rfl (fun ls hl => ?_)
  refine lv_goto (tgt := 7) hx hb dX4_wordIn_59 (by decide) ?_
  exact hk7 _ _ _ _ _ _ _ h hP hD hS (lv_sub hl [1, 2, 3, 4, 0] rfl)
set_option maxHeartbeats 4000000 in
set_option maxRecDepth 100000 in
theorem WX4_wordIn_s24_t1_7b {p : Program} {l : Launch} {e : Env} {s : State} {m : MethodId} {args : Array Value} {below : List Frame} {meth : Method} {c : Code} {D : va_G} {ty : Nat → ClassId} {eo : Nat → Nat} {A : Nat → Prop} {ad : Nat → Nat} {o1 : Int32} {o2 : dK} (C : dc_C p s m args meth c cX4_wordIn (some .int) 5 RX4 wsX4_wordIn D ty eo A) {k7 : dK → Int32 → Int32 → Int32 → Option (Int32 × dK)} (hk7 : ∀ (q : dK) (x2 : Int32) (x3 : Int32) (x4 : Int32) (H : Heap) (locs : List Loc) (ls : Array Slot), k7 q x2 x3 x4 = some (o1, o2) → va_P D vwCl (wF ty ad q) H → va_D A (wF ty ad q) → va_S A s.heap H locs → lv_has ls 5 [(0, .ref (ad 24)), (1, .ref (eo (1 + 1))), (2, .int x2), (3, .int x3), (4, .int x4)] → W p l e ({ frames := 5, cells := 0, slots := 0, locals := 109 } : Room) s m args below meth c H locs 0 0 (MQ below (va_Qi (fun (r : Int32) (u : va_W) => o1 = r ∧ wF ty ad o2 = u) (kz_B D ty A) A) args s 0 0 A) (F0 m 7 ls [])) (q : dK) (x2 : Int32) (x3 : Int32) (x4 : Int32) (H : Heap) (locs : List Loc) (ls : Array Slot) (h : zX4_wordIn_s24_t1_7b k7 q x2 x3 x4 = some (o1, o2)) (hP : va_P D vwCl (wF ty ad q) H) (hD : va_D A (wF ty ad q)) (hS : va_S A s.heap H locs) (hl : lv_has ls 5 [(0, .ref (ad 24)), (1, .ref (eo (1 + 1))), (2, .int x2), (3, .int x3), (4, .int x4)]) : W p l e ({ frames := 5, cells := 0, slots := 0, locals := 109 } : Room) s m args below meth c H locs 0 0 (MQ below (va_Qi (fun (r : Int32) (u : va_W) => o1 = r ∧ wF ty ad o2 = u) (kz_B D ty A) A) args s 0 0 A) (F0 m 7 ls []) := by
  have C0 := C
  obtain ⟨hx, hb, hr, hts, hown, hlocks, hml, hK, hN, hE, hA⟩ := C
  unfold zX4_wordIn_s24_t1_7b at h
  refine lv_iload hx hb dX4_wordIn_7 (lv_at hl 4 rfl) ?_
  refine lv_aload_n hx hb dX4_wordIn_9 rfl (lv_at hl 1 rfl) ?_
  refine dw_ks (va_runV (As := []) (rest := [.int x4]) ⟨hx, hb, hml, hown, hts⟩ (kcJ0le l D ty eo _ 1 (by decide)) (cwV 0 hts gX4_wordIn_J0_length_8abf5 rfl rfl rfl hd_J0_length_8abf5_v ⟨Nat.le_of_ble_eq_true rfl, Nat.le_of_ble_eq_true rfl⟩) (kz_preT hK hN hE hP hD hS hA 1 (by decide) [] (by decide) rfl) rfl rfl hl.1 rfl (lv_room (Nat.le_of_ble_eq_true rfl)) dX4_wordIn_10 ⟨Nat.le_of_ble_eq_true rfl, Nat.le_of_ble_eq_true rfl⟩) hP hD hS hA (fun _ _ h9 => h9.2.symm) (fun r9 u9 H locs hw hp hd hs => ?_)
  obtain ⟨rfl, -⟩ := hw
  clear hP hD hS
  have hP := hp; have hD := hd; have hS := hs; clear hp hd hs
  refine kz_topi 15 (by decide +kernel) ?_
  refine lv_icmp_ge (tgt := 62) hx hb dX4_wordIn_13 (by decide) (fun c9 => ?_) (fun c9 => ?_)
  · rw [if_pos c9] at h
    exact WX4_wordIn_s24_t1_62 C0  _ _ _ _ h hP hD hS (lv_sub hl [] rfl)
  · rw [if_neg c9] at h
    refine lv_aload_n hx hb dX4_wordIn_16 rfl (lv_at hl 0 rfl) ?_
    refine va_get (D := D) (ci := 4) (v := .int (q.1 24 4)) (C := RX4) (T := TX4) (N := 11) hx hb hts u9_wsX4_wordIn_X4 hown hK hP 24 rfl rfl 4 (by decide) (hts (.fieldLink RX4 27 "TurnedFloors$Reader" "token" "I") f9_wsX4_wordIn_478) (fun _ h9 => h9) rfl dX4_wordIn_17 ?_
    refine lv_iconst (v := 1) hx hb dX4_wordIn_20 (by decide) ?_
    refine lv_icmp_ne (tgt := 62) hx hb dX4_wordIn_21 (by decide) (fun c9 => ?_) (fun c9 => ?_)
    · rw [if_neg c9] at h
      exact WX4_wordIn_s24_t1_62 C0  _ _ _ _ h hP hD hS (lv_sub hl [] rfl)
    · rw [if_pos c9] at h
      refine lv_aload_n hx hb dX4_wordIn_24 rfl (lv_at hl 1 rfl) ?_
      refine lv_iload hx hb dX4_wordIn_25 (lv_at hl 4 rfl) ?_
      obtain ⟨g1, h⟩ := dG_some h
      refine dw_ks (va_runV (As := [.int x4]) (rest := []) ⟨hx, hb, hml, hown, hts⟩ (kcJ0ch l D ty eo _ 1 (by decide) x4 (dg_in g1)) (cwV 1 hts gX4_wordIn_J0_charAt_5068e rfl rfl rfl hd_J0_charAt_5068e_v ⟨Nat.le_of_ble_eq_true rfl, Nat.le_of_ble_eq_true rfl⟩) (kz_preT hK hN hE hP hD hS hA 1 (by decide) [] (by decide) rfl) rfl rfl hl.1 rfl (lv_room (Nat.le_of_ble_eq_true rfl)) dX4_wordIn_27 ⟨Nat.le_of_ble_eq_true rfl, Nat.le_of_ble_eq_true rfl⟩) hP hD hS hA (fun _ _ h9 => h9.2.symm) (fun r9 u9 H locs hw hp hd hs => ?_)
      obtain ⟨rfl, -⟩ := hw
      clear hP hD hS
      have hP := hp; have hD := hd; have hS := hs; clear hp hd hs
      obtain ⟨v2, ev2, h⟩ := dL_some h
      refine kz_topi v2 ev2 ?_
      refine lv_bipush (v := 32) hx hb dX4_wordIn_30 (by decide) ?_
      refine lv_icmp_ne (tgt := 56) hx hb dX4_wordIn_32 (by decide) (fun c9 => ?_) (fun c9 => ?_)
      · rw [if_neg c9] at h
        exact WX4_wordIn_s24_t1_56 C0 hk7 _ _ _ _ _ _ _ h hP hD hS (lv_sub hl [0, 1, 2, 3, 4] rfl)
      · rw [if_pos c9] at h
        refine lv_aload_n hx hb dX4_wordIn_35 rfl (lv_at hl 0 rfl) ?_
        refine lv_aload_n hx hb dX4_wordIn_36 rfl (lv_at hl 1 rfl) ?_
        refine lv_iload_n hx hb dX4_wordIn_37 rfl (lv_at hl 3 rfl) ?_
        refine lv_iload hx hb dX4_wordIn_38 (lv_at hl 4 rfl) ?_
        obtain ⟨r3, q5, h4, h⟩ := dB_some h
        refine dw_ki (va_runV (As := [.ref (eo (1 + 1)), .int x3, .int x4]) (rest := []) ⟨hx, hb, hml, hown, hts⟩ (qX4_isSame_s24_t1 l D ty eo _ ad q x3 x4 r3 q5 h4) (cwV 3 hts gX4_wordIn_X4_isSame rfl rfl rfl hd_X4_isSame_v ⟨Nat.le_of_ble_eq_true rfl, Nat.le_of_ble_eq_true rfl⟩) (pvF_4_24 hK hN hE hP hD hS hA) rfl rfl hl.1 rfl (lv_room (Nat.le_of_ble_eq_true rfl)) dX4_wordIn_40 ⟨Nat.le_of_ble_eq_true rfl, Nat.le_of_ble_eq_true rfl⟩) hD hS hA (fun r9 u9 H locs hw hp hd hs => ?_)
        clear hP hD hS
        obtain ⟨rfl, rfl⟩ := hw
        have hP := hp; have hD := hd; have hS := hs; clear hp hd hs
        refine lv_if_eq (tgt := 48) hx hb dX4_wordIn_43 (by decide) (fun c9 => ?_) (fun c9 => ?_)
        · rw [if_pos c9] at h
          refine lv_iinc (v := x2 + 1) (lv' := [(2, .int (x2 + 1)), (0, .ref (ad 24)), (1, .ref (eo (1 + 1))), (3, .int x3), (4, .int x4)]) hx hb dX4_wordIn_48 hl (k := 2) rfl rfl (by decide) rfl (fun ls hl => ?_)
          refine lv_iload hx hb dX4_wordIn_51 (lv_at hl 4 rfl) ?_
          refine lv_iconst (v := 1) hx hb dX4_wordIn_53 (by decide) ?_
          refine lv_iadd hx hb dX4_wordIn_54 ?_
          refine lv_istore_n (lv' := [(3, .int (x4 + 1 : Int32)), (2, .int (x2 + 1)), (0, .ref (ad 24)), (1, .ref (eo (1 + 1))), (4, .int x4)]) hx hb dX4_wordIn_55 rfl hl (by decide) rfl (fun ls hl => ?_)
          exact WX4_wordIn_s24_t1_56 C0 hk7 _ _ _ _ _ _ _ h hP hD hS (lv_sub hl [2, 3, 1, 0, 4] rfl)
        · rw [if_neg c9] at h
          refine lv_iload_n hx hb dX4_wordIn_46 rfl (lv_at hl 2 rfl) ?_
          cases h
          exact kz_iret hx hb hr hlocks hP hK hD hS dX4_wordIn_47 ⟨rfl, rfl⟩
set_option maxHeartbeats 4000000 in
set_option maxRecDepth 100000 in
theorem WX4_wordIn_s24_t1_7 {p : Program} {l : Launch} {e : Env} {s : State} {m : MethodId} {args : Array Value} {below : List Frame} {meth : Method} {c : Code} {D : va_G} {ty : Nat → ClassId} {eo : Nat → Nat} {A : Nat → Prop} {ad : Nat → Nat} {o1 : Int32} {o2 : dK} (C : dc_C p s m args meth c cX4_wordIn (some .int) 5 RX4 wsX4_wordIn D ty eo A)   (n : Nat) (q : dK) (x2 : Int32) (x3 : Int32) (x4 : Int32) (H : Heap) (locs : List Loc) (ls : Array Slot) (h : zX4_wordIn_s24_t1_7  n q x2 x3 x4 = some (o1, o2)) (hP : va_P D vwCl (wF ty ad q) H) (hD : va_D A (wF ty ad q)) (hS : va_S A s.heap H locs) (hl : lv_has ls 5 [(0, .ref (ad 24)), (1, .ref (eo (1 + 1))), (2, .int x2), (3, .int x3), (4, .int x4)]) : W p l e ({ frames := 5, cells := 0, slots := 0, locals := 109 } : Room) s m args below meth c H locs 0 0 (MQ below (va_Qi (fun (r : Int32) (u : va_W) => o1 = r ∧ wF ty ad o2 = u) (kz_B D ty A) A) args s 0 0 A) (F0 m 7 ls []) := by
  exact dFix_W (F := fun k (a : dK × Int32 × Int32 × Int32) => zX4_wordIn_s24_t1_7b  (fun q x2 x3 x4 => k (q, x2, x3, x4)) a.1 a.2.1 a.2.2.1 a.2.2.2) (o := (o1, o2)) (P := fun (a : dK × Int32 × Int32 × Int32) H locs ls => va_P D vwCl (wF ty ad a.1) H ∧ va_D A (wF ty ad a.1) ∧ va_S A s.heap H locs ∧ lv_has ls 5 [(0, .ref (ad 24)), (1, .ref (eo (1 + 1))), (2, .int a.2.1), (3, .int a.2.2.1), (4, .int a.2.2.2)]) (G := fun H locs ls => W p l e ({ frames := 5, cells := 0, slots := 0, locals := 109 } : Room) s m args below meth c H locs 0 0 (MQ below (va_Qi (fun (r : Int32) (u : va_W) => o1 = r ∧ wF ty ad o2 = u) (kz_B D ty A) A) args s 0 0 A) (F0 m 7 ls []))
    (fun k hk a H locs ls h hp => WX4_wordIn_s24_t1_7b C  (fun q x2 x3 x4 H locs ls h h1 h2 h3 h4 => hk (q, x2, x3, x4) H locs ls h ⟨h1, h2, h3, h4⟩) a.1 a.2.1 a.2.2.1 a.2.2.2 H locs ls h hp.1 hp.2.1 hp.2.2.1 hp.2.2.2) n (q, x2, x3, x4) H locs ls h ⟨hP, hD, hS, hl⟩
set_option maxHeartbeats 4000000 in
set_option maxRecDepth 100000 in
theorem qX4_wordIn_s24_t1 (l : Launch) (D : va_G) (ty : Nat → ClassId) (eo : Nat → Nat) (sz : Nat) (ad : Nat → Nat) (q : dK)  (o1 : Int32) (o2 : dK) (h : zX4_wordIn_s24_t1 q = some (o1, o2)) : Met l yX4_wordIn wsX4_wordIn ({ frames := 5, cells := 0, slots := 0, locals := 109 } : Room) (va_Pc [.ref (ad 24), .ref (eo (1 + 1))] (kz_pre D ty eo (wF ty ad q) sz)) (va_Qi (fun (r : Int32) (u : va_W) => o1 = r ∧ wF ty ad o2 = u) (kz_B D ty (va_A (wF ty ad q) sz)) (va_A (wF ty ad q) sz)) 0 0 (va_A (wF ty ad q) sz) := by
  refine Met.ofW (cc := cX4_wordIn) (maxL := 5) (ret := (some .int)) (by decide) rfl ?_
  intro p e s m args below meth c s₁ B hml hv
  obtain ⟨rfl, hsz, hP, hK, hD0, hN, hE⟩ := hv
  have hx := B.exec
  have hb := B.bytes
  have hr := B.returns
  have hts := atoms_spec (ws := wsX4_wordIn) B.pre
  have hown : s.vm.findClass RX4 = some m.cls := findClass_of_methodNamed B.named
  have hlocks := B.notSynchronized
  subst hsz
  have hD := hD0.self (sz := s.heap.size)
  generalize hAe : va_A (wF ty ad q) s.heap.size = A at hD hE ⊢
  have hA : ∀ q : Nat, s.heap.size ≤ q → A q := fun q h => by rw [← hAe]; exact Or.inr h
  clear hAe
  have hS : va_S A s.heap s.heap [] := va_S.rf
  have hl := lv_entry ([.ref (ad 24), .ref (eo (1 + 1))]) (n := 5) (Nat.le_of_ble_eq_true rfl)
  rw [lg_entry_eq]
  generalize (lg_sl ([.ref (ad 24), .ref (eo (1 + 1))]) ++ List.replicate (5 - (lg_sl ([.ref (ad 24), .ref (eo (1 + 1))])).length) Slot.unset).toArray = ls at hl ⊢
  have hl : lv_has ls 5 [(0, .ref (ad 24)), (1, .ref (eo (1 + 1)))] := hl
  have C : dc_C p s m _ meth c cX4_wordIn (some .int) 5 RX4 wsX4_wordIn D ty eo A := ⟨hx, hb, hr, hts, hown, hlocks, hml, hK, hN, hE, hA⟩
  unfold zX4_wordIn_s24_t1 at h
  refine lv_iconst (v := 0) hx hb dX4_wordIn_0 (by decide) ?_
  refine lv_istore_n (lv' := [(2, .int 0), (0, .ref (ad 24)), (1, .ref (eo (1 + 1)))]) hx hb dX4_wordIn_1 rfl hl (by decide) rfl (fun ls hl => ?_)
  refine lv_iconst (v := 0) hx hb dX4_wordIn_2 (by decide) ?_
  refine lv_istore_n (lv' := [(3, .int 0), (2, .int 0), (0, .ref (ad 24)), (1, .ref (eo (1 + 1)))]) hx hb dX4_wordIn_3 rfl hl (by decide) rfl (fun ls hl => ?_)
  refine lv_iconst (v := 0) hx hb dX4_wordIn_4 (by decide) ?_
  refine lv_istore (lv' := [(4, .int 0), (3, .int 0), (2, .int 0), (0, .ref (ad 24)), (1, .ref (eo (1 + 1)))]) hx hb dX4_wordIn_5 hl (by decide) rfl (fun ls hl => ?_)
  exact WX4_wordIn_s24_t1_7 C  _ _ _ _ _ _ _ _ h hP hD hS (lv_sub hl [3, 4, 2, 1, 0] rfl)

set_option maxHeartbeats 4000000 in
set_option maxRecDepth 100000 in
theorem WX4_isSign_s24_37 {p : Program} {l : Launch} {e : Env} {s : State} {m : MethodId} {args : Array Value} {below : List Frame} {meth : Method} {c : Code} {D : va_G} {ty : Nat → ClassId} {eo : Nat → Nat} {A : Nat → Prop} {ad : Nat → Nat} {o1 : Int32} {o2 : dK} (C : dc_C p s m args meth c cX4_isSign (some .boolean) 2 RX4 wsX4_isSign D ty eo A)   (q : dK) (y0 : Int32) (H : Heap) (locs : List Loc) (ls : Array Slot) (h : zX4_isSign_s24_37  q y0 = some (o1, o2)) (hP : va_P D vwCl (wF ty ad q) H) (hD : va_D A (wF ty ad q)) (hS : va_S A s.heap H locs) (hl : lv_has ls 2 []) : W p l e ({ frames := 0, cells := 0, slots := 0, locals := 0 } : Room) s m args below meth c H locs 0 0 (MQ below (va_Qi (fun (r : Int32) (u : va_W) => o1 = r ∧ wF ty ad o2 = u) (kz_B D ty A) A) args s 0 0 A) (F0 m 37 ls [.int y0]) := by
  have C0 := C
  obtain ⟨hx, hb, hr, hts, hown, hlocks, hml, hK, hN, hE, hA⟩ := C
  unfold zX4_isSign_s24_37 at h
  obtain ⟨g1, h⟩ := dG_some h
  cases h
  exact kz_zret hx hb hr hlocks (dbl_nar g1) hP hK hD hS dX4_isSign_37 ⟨rfl, rfl⟩
set_option maxHeartbeats 4000000 in
set_option maxRecDepth 100000 in
theorem WX4_isSign_s24_36 {p : Program} {l : Launch} {e : Env} {s : State} {m : MethodId} {args : Array Value} {below : List Frame} {meth : Method} {c : Code} {D : va_G} {ty : Nat → ClassId} {eo : Nat → Nat} {A : Nat → Prop} {ad : Nat → Nat} {o1 : Int32} {o2 : dK} (C : dc_C p s m args meth c cX4_isSign (some .boolean) 2 RX4 wsX4_isSign D ty eo A)   (q : dK)  (H : Heap) (locs : List Loc) (ls : Array Slot) (h : zX4_isSign_s24_36  q = some (o1, o2)) (hP : va_P D vwCl (wF ty ad q) H) (hD : va_D A (wF ty ad q)) (hS : va_S A s.heap H locs) (hl : lv_has ls 2 []) : W p l e ({ frames := 0, cells := 0, slots := 0, locals := 0 } : Room) s m args below meth c H locs 0 0 (MQ below (va_Qi (fun (r : Int32) (u : va_W) => o1 = r ∧ wF ty ad o2 = u) (kz_B D ty A) A) args s 0 0 A) (F0 m 36 ls []) := by
  have C0 := C
  obtain ⟨hx, hb, hr, hts, hown, hlocks, hml, hK, hN, hE, hA⟩ := C
  unfold zX4_isSign_s24_36 at h
  refine lv_iconst (v := 0) hx hb dX4_isSign_36 (by decide) ?_
  exact WX4_isSign_s24_37 C0  _ _ _ _ _ h hP hD hS (lv_sub hl [] rfl)
set_option maxHeartbeats 4000000 in
set_option maxRecDepth 100000 in
theorem qX4_isSign_s24 (l : Launch) (D : va_G) (ty : Nat → ClassId) (eo : Nat → Nat) (sz : Nat) (ad : Nat → Nat) (q : dK) (p1 : Int32) (o1 : Int32) (o2 : dK) (h : zX4_isSign_s24 q p1 = some (o1, o2)) : Met l yX4_isSign wsX4_isSign ({ frames := 0, cells := 0, slots := 0, locals := 0 } : Room) (va_Pc [.ref (ad 24), .int p1] (kz_pre D ty eo (wF ty ad q) sz)) (va_Qi (fun (r : Int32) (u : va_W) => o1 = r ∧ wF ty ad o2 = u) (kz_B D ty (va_A (wF ty ad q) sz)) (va_A (wF ty ad q) sz)) 0 0 (va_A (wF ty ad q) sz) := by
  refine Met.ofW (cc := cX4_isSign) (maxL := 2) (ret := (some .boolean)) (by decide) rfl ?_
  intro p e s m args below meth c s₁ B hml hv
  obtain ⟨rfl, hsz, hP, hK, hD0, hN, hE⟩ := hv
  have hx := B.exec
  have hb := B.bytes
  have hr := B.returns
  have hts := atoms_spec (ws := wsX4_isSign) B.pre
  have hown : s.vm.findClass RX4 = some m.cls := findClass_of_methodNamed B.named
  have hlocks := B.notSynchronized
  subst hsz
  have hD := hD0.self (sz := s.heap.size)
  generalize hAe : va_A (wF ty ad q) s.heap.size = A at hD hE ⊢
  have hA : ∀ q : Nat, s.heap.size ≤ q → A q := fun q h => by rw [← hAe]; exact Or.inr h
  clear hAe
  have hS : va_S A s.heap s.heap [] := va_S.rf
  have hl := lv_entry ([.ref (ad 24), .int p1]) (n := 2) (Nat.le_of_ble_eq_true rfl)
  rw [lg_entry_eq]
  generalize (lg_sl ([.ref (ad 24), .int p1]) ++ List.replicate (2 - (lg_sl ([.ref (ad 24), .int p1])).length) Slot.unset).toArray = ls at hl ⊢
  have hl : lv_has ls 2 [(0, .ref (ad 24)), (1, .int p1)] := hl
  have C : dc_C p s m _ meth c cX4_isSign (some .boolean) 2 RX4 wsX4_isSign D ty eo A := ⟨hx, hb, hr, hts, hown, hlocks, hml, hK, hN, hE, hA⟩
  unfold zX4_isSign_s24 at h
  refine lv_aload_n hx hb dX4_isSign_0 rfl (lv_at hl 0 rfl) ?_
  refine va_get (D := D) (ci := 4) (v := .int (q.1 24 4)) (C := RX4) (T := TX4) (N := 11) hx hb hts u9_wsX4_isSign_X4 hown hK hP 24 rfl rfl 4 (by decide) (hts (.fieldLink RX4 27 "TurnedFloors$Reader" "token" "I") f9_wsX4_isSign_491) (fun _ h9 => h9) rfl dX4_isSign_1 ?_
  refine lv_iconst (v := 3) hx hb dX4_isSign_4 (by decide) ?_
  refine lv_icmp_ne (tgt := 36) hx hb dX4_isSign_5 (by decide) (fun c9 => ?_) (fun c9 => ?_)
  · rw [if_neg c9] at h
    exact WX4_isSign_s24_36 C  _ _ _ _ h hP hD hS (lv_sub hl [] rfl)
  · rw [if_pos c9] at h
    refine lv_aload_n hx hb dX4_isSign_8 rfl (lv_at hl 0 rfl) ?_
    refine va_get (D := D) (ci := 4) (v := .int (q.1 24 5)) (C := RX4) (T := TX4) (N := 11) hx hb hts u9_wsX4_isSign_X4 hown hK hP 24 rfl rfl 5 (by decide) (hts (.fieldLink RX4 30 "TurnedFloors$Reader" "start" "I") f9_wsX4_isSign_492) (fun _ h9 => h9) rfl dX4_isSign_9 ?_
    refine lv_aload_n hx hb dX4_isSign_12 rfl (lv_at hl 0 rfl) ?_
    refine va_get (D := D) (ci := 4) (v := .int (q.1 24 1)) (C := RX4) (T := TX4) (N := 11) hx hb hts u9_wsX4_isSign_X4 hown hK hP 24 rfl rfl 1 (by decide) (hts (.fieldLink RX4 15 "TurnedFloors$Reader" "length" "I") f9_wsX4_isSign_493) (fun _ h9 => h9) rfl dX4_isSign_13 ?_
    refine lv_icmp_ge (tgt := 36) hx hb dX4_isSign_16 (by decide) (fun c9 => ?_) (fun c9 => ?_)
    · rw [if_pos c9] at h
      exact WX4_isSign_s24_36 C  _ _ _ _ h hP hD hS (lv_sub hl [] rfl)
    · rw [if_neg c9] at h
      refine lv_aload_n hx hb dX4_isSign_19 rfl (lv_at hl 0 rfl) ?_
      refine va_get (D := D) (ci := 4) (v := dN (ad 46) (q.1 24 0)) (C := RX4) (T := TX4) (N := 11) hx hb hts u9_wsX4_isSign_X4 hown hK hP 24 rfl rfl 0 (by decide) (hts (.fieldLink RX4 9 "TurnedFloors$Reader" "bytes" "[I") f9_wsX4_isSign_494) (fun _ h9 => h9) rfl dX4_isSign_20 ?_
      obtain ⟨g1, h⟩ := dG_some h
      refine kz_topv (if_neg (dnz_ne g1)) ?_
      refine lv_aload_n hx hb dX4_isSign_23 rfl (lv_at hl 0 rfl) ?_
      refine va_get (D := D) (ci := 4) (v := .int (q.1 24 5)) (C := RX4) (T := TX4) (N := 11) hx hb hts u9_wsX4_isSign_X4 hown hK hP 24 rfl rfl 5 (by decide) (hts (.fieldLink RX4 30 "TurnedFloors$Reader" "start" "I") f9_wsX4_isSign_492) (fun _ h9 => h9) rfl dX4_isSign_24 ?_
      obtain ⟨g2, h⟩ := dG_some h
      refine va_iald hx hb hK hP 46 0 rfl rfl (dg_in g2) dX4_isSign_27 ?_
      obtain ⟨v3, ev3, h⟩ := dL_some h
      refine kz_topi v3 ev3 ?_
      refine lv_iload_n hx hb dX4_isSign_28 rfl (lv_at hl 1 rfl) ?_
      refine lv_icmp_ne (tgt := 36) hx hb dX4_isSign_29 (by decide) (fun c9 => ?_) (fun c9 => ?_)
      · rw [if_neg c9] at h
        exact WX4_isSign_s24_36 C  _ _ _ _ h hP hD hS (lv_sub hl [] rfl)
      · rw [if_pos c9] at h
        refine lv_iconst (v := 1) hx hb dX4_isSign_32 (by decide) ?_
        refine lv_goto (tgt := 37) hx hb dX4_isSign_33 (by decide) ?_
        exact WX4_isSign_s24_37 C  _ _ _ _ _ h hP hD hS (lv_sub hl [] rfl)

set_option maxHeartbeats 4000000 in
set_option maxRecDepth 100000 in
theorem WX4_isSame_s24_t2_20b {p : Program} {l : Launch} {e : Env} {s : State} {m : MethodId} {args : Array Value} {below : List Frame} {meth : Method} {c : Code} {D : va_G} {ty : Nat → ClassId} {eo : Nat → Nat} {A : Nat → Prop} {ad : Nat → Nat} {o1 : Int32} {o2 : dK} (C : dc_C p s m args meth c cX4_isSame (some .boolean) 5 RX4 wsX4_isSame D ty eo A) {k20 : dK → Int32 → Int32 → Int32 → Option (Int32 × dK)} (hk20 : ∀ (q : dK) (x2 : Int32) (x3 : Int32) (x4 : Int32) (H : Heap) (locs : List Loc) (ls : Array Slot), k20 q x2 x3 x4 = some (o1, o2) → va_P D vwCl (wF ty ad q) H → va_D A (wF ty ad q) → va_S A s.heap H locs → lv_has ls 5 [(0, .ref (ad 24)), (1, .ref (eo (1 + 2))), (2, .int x2), (3, .int x3), (4, .int x4)] → W p l e ({ frames := 4, cells := 0, slots := 0, locals := 85 } : Room) s m args below meth c H locs 0 0 (MQ below (va_Qi (fun (r : Int32) (u : va_W) => o1 = r ∧ wF ty ad o2 = u) (kz_B D ty A) A) args s 0 0 A) (F0 m 20 ls [])) (q : dK) (x2 : Int32) (x3 : Int32) (x4 : Int32) (H : Heap) (locs : List Loc) (ls : Array Slot) (h : zX4_isSame_s24_t2_20b k20 q x2 x3 x4 = some (o1, o2)) (hP : va_P D vwCl (wF ty ad q) H) (hD : va_D A (wF ty ad q)) (hS : va_S A s.heap H locs) (hl : lv_has ls 5 [(0, .ref (ad 24)), (1, .ref (eo (1 + 2))), (2, .int x2), (3, .int x3), (4, .int x4)]) : W p l e ({ frames := 4, cells := 0, slots := 0, locals := 85 } : Room) s m args below meth c H locs 0 0 (MQ below (va_Qi (fun (r : Int32) (u : va_W) => o1 = r ∧ wF ty ad o2 = u) (kz_B D ty A) A) args s 0 0 A) (F0 m 20 ls []) := by
  have C0 := C
  obtain ⟨hx, hb, hr, hts, hown, hlocks, hml, hK, hN, hE, hA⟩ := C
  unfold zX4_isSame_s24_t2_20b at h
  refine lv_iload hx hb dX4_isSame_20 (lv_at hl 4 rfl) ?_
  refine lv_iload_n hx hb dX4_isSame_22 rfl (lv_at hl 3 rfl) ?_
  refine lv_icmp_ge (tgt := 57) hx hb dX4_isSame_23 (by decide) (fun c9 => ?_) (fun c9 => ?_)
  · rw [if_pos c9] at h
    refine lv_iconst (v := 1) hx hb dX4_isSame_57 (by decide) ?_
    cases h
    exact kz_zret hx hb hr hlocks rfl hP hK hD hS dX4_isSame_58 ⟨rfl, rfl⟩
  · rw [if_neg c9] at h
    refine lv_aload_n hx hb dX4_isSame_26 rfl (lv_at hl 1 rfl) ?_
    refine lv_iload hx hb dX4_isSame_27 (lv_at hl 4 rfl) ?_
    obtain ⟨g1, h⟩ := dG_some h
    refine dw_ks (va_runV (As := [.int x4]) (rest := []) ⟨hx, hb, hml, hown, hts⟩ (kcJ0ch l D ty eo _ 2 (by decide) x4 (dg_in g1)) (cwV 1 hts gX4_isSame_J0_charAt_5068e rfl rfl rfl hd_J0_charAt_5068e_v ⟨Nat.le_of_ble_eq_true rfl, Nat.le_of_ble_eq_true rfl⟩) (kz_preT hK hN hE hP hD hS hA 2 (by decide) [] (by decide) rfl) rfl rfl hl.1 rfl (lv_room (Nat.le_of_ble_eq_true rfl)) dX4_isSame_29 ⟨Nat.le_of_ble_eq_true rfl, Nat.le_of_ble_eq_true rfl⟩) hP hD hS hA (fun _ _ h9 => h9.2.symm) (fun r9 u9 H locs hw hp hd hs => ?_)
    obtain ⟨rfl, -⟩ := hw
    clear hP hD hS
    have hP := hp; have hD := hd; have hS := hs; clear hp hd hs
    obtain ⟨v2, ev2, h⟩ := dL_some h
    refine kz_topi v2 ev2 ?_
    refine lv_aload_n hx hb dX4_isSame_32 rfl (lv_at hl 0 rfl) ?_
    refine va_get (D := D) (ci := 4) (v := dN (ad 46) (q.1 24 0)) (C := RX4) (T := TX4) (N := 11) hx hb hts u9_wsX4_isSame_X4 hown hK hP 24 rfl rfl 0 (by decide) (hts (.fieldLink RX4 9 "TurnedFloors$Reader" "bytes" "[I") f9_wsX4_isSame_474) (fun _ h9 => h9) rfl dX4_isSame_33 ?_
    obtain ⟨g3, h⟩ := dG_some h
    refine kz_topv (if_neg (dnz_ne g3)) ?_
    refine lv_aload_n hx hb dX4_isSame_36 rfl (lv_at hl 0 rfl) ?_
    refine va_get (D := D) (ci := 4) (v := .int (q.1 24 5)) (C := RX4) (T := TX4) (N := 11) hx hb hts u9_wsX4_isSame_X4 hown hK hP 24 rfl rfl 5 (by decide) (hts (.fieldLink RX4 30 "TurnedFloors$Reader" "start" "I") f9_wsX4_isSame_475) (fun _ h9 => h9) rfl dX4_isSame_37 ?_
    refine lv_iload hx hb dX4_isSame_40 (lv_at hl 4 rfl) ?_
    refine lv_iadd hx hb dX4_isSame_42 ?_
    refine lv_iload_n hx hb dX4_isSame_43 rfl (lv_at hl 2 rfl) ?_
    refine lv_isub hx hb dX4_isSame_44 ?_
    obtain ⟨g4, h⟩ := dG_some h
    refine va_iald hx hb hK hP 46 0 rfl rfl (dg_in g4) dX4_isSame_45 ?_
    obtain ⟨v5, ev5, h⟩ := dL_some h
    refine kz_topi v5 ev5 ?_
    refine lv_icmp_eq (tgt := 51) hx hb dX4_isSame_46 (by decide) (fun c9 => ?_) (fun c9 => ?_)
    · rw [if_pos c9] at h
      refine lv_iinc (v := x4 + 1) (lv' := [(4, .int (x4 + 1)), (0, .ref (ad 24)), (1, .ref (eo (1 + 2))), (2, .int x2), (3, .int x3)]) hx hb dX4_isSame_51 hl (k := 4) rfl rfl (by decide) rfl (fun ls hl => ?_)
      refine lv_goto (tgt := 20) hx hb dX4_isSame_54 (by decide) ?_
      exact hk20 _ _ _ _ _ _ _ h hP hD hS (lv_sub hl [1, 2, 3, 4, 0] rfl)
    · rw [if_neg c9] at h
      refine lv_iconst (v := 0) hx hb dX4_isSame_49 (by decide) ?_
      cases h
      exact kz_zret hx hb hr hlocks rfl hP hK hD hS dX4_isSame_50 ⟨rfl, rfl⟩
set_option maxHeartbeats 4000000 in
set_option maxRecDepth 100000 in
theorem WX4_isSame_s24_t2_20 {p : Program} {l : Launch} {e : Env} {s : State} {m : MethodId} {args : Array Value} {below : List Frame} {meth : Method} {c : Code} {D : va_G} {ty : Nat → ClassId} {eo : Nat → Nat} {A : Nat → Prop} {ad : Nat → Nat} {o1 : Int32} {o2 : dK} (C : dc_C p s m args meth c cX4_isSame (some .boolean) 5 RX4 wsX4_isSame D ty eo A)   (n : Nat) (q : dK) (x2 : Int32) (x3 : Int32) (x4 : Int32) (H : Heap) (locs : List Loc) (ls : Array Slot) (h : zX4_isSame_s24_t2_20  n q x2 x3 x4 = some (o1, o2)) (hP : va_P D vwCl (wF ty ad q) H) (hD : va_D A (wF ty ad q)) (hS : va_S A s.heap H locs) (hl : lv_has ls 5 [(0, .ref (ad 24)), (1, .ref (eo (1 + 2))), (2, .int x2), (3, .int x3), (4, .int x4)]) : W p l e ({ frames := 4, cells := 0, slots := 0, locals := 85 } : Room) s m args below meth c H locs 0 0 (MQ below (va_Qi (fun (r : Int32) (u : va_W) => o1 = r ∧ wF ty ad o2 = u) (kz_B D ty A) A) args s 0 0 A) (F0 m 20 ls []) := by
  exact dFix_W (F := fun k (a : dK × Int32 × Int32 × Int32) => zX4_isSame_s24_t2_20b  (fun q x2 x3 x4 => k (q, x2, x3, x4)) a.1 a.2.1 a.2.2.1 a.2.2.2) (o := (o1, o2)) (P := fun (a : dK × Int32 × Int32 × Int32) H locs ls => va_P D vwCl (wF ty ad a.1) H ∧ va_D A (wF ty ad a.1) ∧ va_S A s.heap H locs ∧ lv_has ls 5 [(0, .ref (ad 24)), (1, .ref (eo (1 + 2))), (2, .int a.2.1), (3, .int a.2.2.1), (4, .int a.2.2.2)]) (G := fun H locs ls => W p l e ({ frames := 4, cells := 0, slots := 0, locals := 85 } : Room) s m args below meth c H locs 0 0 (MQ below (va_Qi (fun (r : Int32) (u : va_W) => o1 = r ∧ wF ty ad o2 = u) (kz_B D ty A) A) args s 0 0 A) (F0 m 20 ls []))
    (fun k hk a H locs ls h hp => WX4_isSame_s24_t2_20b C  (fun q x2 x3 x4 H locs ls h h1 h2 h3 h4 => hk (q, x2, x3, x4) H locs ls h ⟨h1, h2, h3, h4⟩) a.1 a.2.1 a.2.2.1 a.2.2.2 H locs ls h hp.1 hp.2.1 hp.2.2.1 hp.2.2.2) n (q, x2, x3, x4) H locs ls h ⟨hP, hD, hS, hl⟩
set_option maxHeartbeats 4000000 in
set_option maxRecDepth 100000 in
theorem qX4_isSame_s24_t2 (l : Launch) (D : va_G) (ty : Nat → ClassId) (eo : Nat → Nat) (sz : Nat) (ad : Nat → Nat) (q : dK) (p2 : Int32) (p3 : Int32) (o1 : Int32) (o2 : dK) (h : zX4_isSame_s24_t2 q p2 p3 = some (o1, o2)) : Met l yX4_isSame wsX4_isSame ({ frames := 4, cells := 0, slots := 0, locals := 85 } : Room) (va_Pc [.ref (ad 24), .ref (eo (1 + 2)), .int p2, .int p3] (kz_pre D ty eo (wF ty ad q) sz)) (va_Qi (fun (r : Int32) (u : va_W) => o1 = r ∧ wF ty ad o2 = u) (kz_B D ty (va_A (wF ty ad q) sz)) (va_A (wF ty ad q) sz)) 0 0 (va_A (wF ty ad q) sz) := by
  refine Met.ofW (cc := cX4_isSame) (maxL := 5) (ret := (some .boolean)) (by decide) rfl ?_
  intro p e s m args below meth c s₁ B hml hv
  obtain ⟨rfl, hsz, hP, hK, hD0, hN, hE⟩ := hv
  have hx := B.exec
  have hb := B.bytes
  have hr := B.returns
  have hts := atoms_spec (ws := wsX4_isSame) B.pre
  have hown : s.vm.findClass RX4 = some m.cls := findClass_of_methodNamed B.named
  have hlocks := B.notSynchronized
  subst hsz
  have hD := hD0.self (sz := s.heap.size)
  generalize hAe : va_A (wF ty ad q) s.heap.size = A at hD hE ⊢
  have hA : ∀ q : Nat, s.heap.size ≤ q → A q := fun q h => by rw [← hAe]; exact Or.inr h
  clear hAe
  have hS : va_S A s.heap s.heap [] := va_S.rf
  have hl := lv_entry ([.ref (ad 24), .ref (eo (1 + 2)), .int p2, .int p3]) (n := 5) (Nat.le_of_ble_eq_true rfl)
  rw [lg_entry_eq]
  generalize (lg_sl ([.ref (ad 24), .ref (eo (1 + 2)), .int p2, .int p3]) ++ List.replicate (5 - (lg_sl ([.ref (ad 24), .ref (eo (1 + 2)), .int p2, .int p3])).length) Slot.unset).toArray = ls at hl ⊢
  have hl : lv_has ls 5 [(0, .ref (ad 24)), (1, .ref (eo (1 + 2))), (2, .int p2), (3, .int p3)] := hl
  have C : dc_C p s m _ meth c cX4_isSame (some .boolean) 5 RX4 wsX4_isSame D ty eo A := ⟨hx, hb, hr, hts, hown, hlocks, hml, hK, hN, hE, hA⟩
  unfold zX4_isSame_s24_t2 at h
  refine lv_iload_n hx hb dX4_isSame_0 rfl (lv_at hl 3 rfl) ?_
  refine lv_iload_n hx hb dX4_isSame_1 rfl (lv_at hl 2 rfl) ?_
  refine lv_isub hx hb dX4_isSame_2 ?_
  refine lv_aload_n hx hb dX4_isSame_3 rfl (lv_at hl 0 rfl) ?_
  refine va_get (D := D) (ci := 4) (v := .int (q.1 24 6)) (C := RX4) (T := TX4) (N := 11) hx hb hts u9_wsX4_isSame_X4 hown hK hP 24 rfl rfl 6 (by decide) (hts (.fieldLink RX4 33 "TurnedFloors$Reader" "stop" "I") f9_wsX4_isSame_476) (fun _ h9 => h9) rfl dX4_isSame_4 ?_
  refine lv_aload_n hx hb dX4_isSame_7 rfl (lv_at hl 0 rfl) ?_
  refine va_get (D := D) (ci := 4) (v := .int (q.1 24 5)) (C := RX4) (T := TX4) (N := 11) hx hb hts u9_wsX4_isSame_X4 hown hK hP 24 rfl rfl 5 (by decide) (hts (.fieldLink RX4 30 "TurnedFloors$Reader" "start" "I") f9_wsX4_isSame_475) (fun _ h9 => h9) rfl dX4_isSame_8 ?_
  refine lv_isub hx hb dX4_isSame_11 ?_
  refine lv_icmp_eq (tgt := 17) hx hb dX4_isSame_12 (by decide) (fun c9 => ?_) (fun c9 => ?_)
  · rw [if_pos c9] at h
    refine lv_iload_n hx hb dX4_isSame_17 rfl (lv_at hl 2 rfl) ?_
    refine lv_istore (lv' := [(4, .int p2), (0, .ref (ad 24)), (1, .ref (eo (1 + 2))), (2, .int p2), (3, .int p3)]) hx hb dX4_isSame_18 hl (by decide) rfl (fun ls hl => ?_)
    exact WX4_isSame_s24_t2_20 C  _ _ _ _ _ _ _ _ h hP hD hS (lv_sub hl [1, 2, 3, 4, 0] rfl)
  · rw [if_neg c9] at h
    refine lv_iconst (v := 0) hx hb dX4_isSame_15 (by decide) ?_
    cases h
    exact kz_zret hx hb hr hlocks rfl hP hK hD hS dX4_isSame_16 ⟨rfl, rfl⟩

set_option maxHeartbeats 4000000 in
set_option maxRecDepth 100000 in
theorem WX4_wordIn_s24_t2_62 {p : Program} {l : Launch} {e : Env} {s : State} {m : MethodId} {args : Array Value} {below : List Frame} {meth : Method} {c : Code} {D : va_G} {ty : Nat → ClassId} {eo : Nat → Nat} {A : Nat → Prop} {ad : Nat → Nat} {o1 : Int32} {o2 : dK} (C : dc_C p s m args meth c cX4_wordIn (some .int) 5 RX4 wsX4_wordIn D ty eo A)   (q : dK)  (H : Heap) (locs : List Loc) (ls : Array Slot) (h : zX4_wordIn_s24_t2_62  q = some (o1, o2)) (hP : va_P D vwCl (wF ty ad q) H) (hD : va_D A (wF ty ad q)) (hS : va_S A s.heap H locs) (hl : lv_has ls 5 []) : W p l e ({ frames := 5, cells := 0, slots := 0, locals := 109 } : Room) s m args below meth c H locs 0 0 (MQ below (va_Qi (fun (r : Int32) (u : va_W) => o1 = r ∧ wF ty ad o2 = u) (kz_B D ty A) A) args s 0 0 A) (F0 m 62 ls []) := by
  have C0 := C
  obtain ⟨hx, hb, hr, hts, hown, hlocks, hml, hK, hN, hE, hA⟩ := C
  unfold zX4_wordIn_s24_t2_62 at h
  refine lv_iconst (v := (-1)) hx hb dX4_wordIn_62 (by decide) ?_
  cases h
  exact kz_iret hx hb hr hlocks hP hK hD hS dX4_wordIn_63 ⟨rfl, rfl⟩
set_option maxHeartbeats 4000000 in
set_option maxRecDepth 100000 in
theorem WX4_wordIn_s24_t2_56 {p : Program} {l : Launch} {e : Env} {s : State} {m : MethodId} {args : Array Value} {below : List Frame} {meth : Method} {c : Code} {D : va_G} {ty : Nat → ClassId} {eo : Nat → Nat} {A : Nat → Prop} {ad : Nat → Nat} {o1 : Int32} {o2 : dK} (C : dc_C p s m args meth c cX4_wordIn (some .int) 5 RX4 wsX4_wordIn D ty eo A) {k7 : dK → Int32 → Int32 → Int32 → Option (Int32 × dK)} (hk7 : ∀ (q : dK) (x2 : Int32) (x3 : Int32) (x4 : Int32) (H : Heap) (locs : List Loc) (ls : Array Slot), k7 q x2 x3 x4 = some (o1, o2) → va_P D vwCl (wF ty ad q) H → va_D A (wF ty ad q) → va_S A s.heap H locs → lv_has ls 5 [(0, .ref (ad 24)), (1, .ref (eo (1 + 2))), (2, .int x2), (3, .int x3), (4, .int x4)] → W p l e ({ frames := 5, cells := 0, slots := 0, locals := 109 } : Room) s m args below meth c H locs 0 0 (MQ below (va_Qi (fun (r : Int32) (u : va_W) => o1 = r ∧ wF ty ad o2 = u) (kz_B D ty A) A) args s 0 0 A) (F0 m 7 ls [])) (q : dK) (x2 : Int32) (x3 : Int32) (x4 : Int32) (H : Heap) (locs : List Loc) (ls : Array Slot) (h : zX4_wordIn_s24_t2_56 k7 q x2 x3 x4 = some (o1, o2)) (hP : va_P D vwCl (wF ty ad q) H) (hD : va_D A (wF ty ad q)) (hS : va_S A s.heap H locs) (hl : lv_has ls 5 [(0, .ref (ad 24)), (1, .ref (eo (1 + 2))), (2, .int x2), (3, .int x3), (4, .int x4)]) : W p l e ({ frames := 5, cells := 0, slots := 0, locals := 109 } : Room) s m args below meth c H locs 0 0 (MQ below (va_Qi (fun (r : Int32) (u : va_W) => o1 = r ∧ wF ty ad o2 = u) (kz_B D ty A) A) args s 0 0 A) (F0 m 56 ls []) := by
  have C0 := C
  obtain ⟨hx, hb, hr, hts, hown, hlocks, hml, hK, hN, hE, hA⟩ := C
  unfold zX4_wordIn_s24_t2_56 at h
  refine lv_iinc (v := x4 + 1) (lv' := [(4, .int (x4 + 1)), (0, .ref (ad 24)), (1, .ref (eo (1 + 2))), (2, .int x2), (3, .int x3)]) hx hb dX4_wordIn_56 hl (k := 4) rfl rfl (by decide) rfl (fun ls hl => ?_)
  refine lv_goto (tgt := 7) hx hb dX4_wordIn_59 (by decide) ?_
  exact hk7 _ _ _ _ _ _ _ h hP hD hS (lv_sub hl [1, 2, 3, 4, 0] rfl)
set_option maxHeartbeats 4000000 in
set_option maxRecDepth 100000 in
theorem WX4_wordIn_s24_t2_7b {p : Program} {l : Launch} {e : Env} {s : State} {m : MethodId} {args : Array Value} {below : List Frame} {meth : Method} {c : Code} {D : va_G} {ty : Nat → ClassId} {eo : Nat → Nat} {A : Nat → Prop} {ad : Nat → Nat} {o1 : Int32} {o2 : dK} (C : dc_C p s m args meth c cX4_wordIn (some .int) 5 RX4 wsX4_wordIn D ty eo A) {k7 : dK → Int32 → Int32 → Int32 → Option (Int32 × dK)} (hk7 : ∀ (q : dK) (x2 : Int32) (x3 : Int32) (x4 : Int32) (H : Heap) (locs : List Loc) (ls : Array Slot), k7 q x2 x3 x4 = some (o1, o2) → va_P D vwCl (wF ty ad q) H → va_D A (wF ty ad q) → va_S A s.heap H locs → lv_has ls 5 [(0, .ref (ad 24)), (1, .ref (eo (1 + 2))), (2, .int x2), (3, .int x3), (4, .int x4)] → W p l e ({ frames := 5, cells := 0, slots := 0, locals := 109 } : Room) s m args below meth c H locs 0 0 (MQ below (va_Qi (fun (r : Int32) (u : va_W) => o1 = r ∧ wF ty ad o2 = u) (kz_B D ty A) A) args s 0 0 A) (F0 m 7 ls [])) (q : dK) (x2 : Int32) (x3 : Int32) (x4 : Int32) (H : Heap) (locs : List Loc) (ls : Array Slot) (h : zX4_wordIn_s24_t2_7b k7 q x2 x3 x4 = some (o1, o2)) (hP : va_P D vwCl (wF ty ad q) H) (hD : va_D A (wF ty ad q)) (hS : va_S A s.heap H locs) (hl : lv_has ls 5 [(0, .ref (ad 24)), (1, .ref (eo (1 + 2))), (2, .int x2), (3, .int x3), (4, .int x4)]) : W p l e ({ frames := 5, cells := 0, slots := 0, locals := 109 } : Room) s m args below meth c H locs 0 0 (MQ below (va_Qi (fun (r : Int32) (u : va_W) => o1 = r ∧ wF ty ad o2 = u) (kz_B D ty A) A) args s 0 0 A) (F0 m 7 ls []) := by
  have C0 := C
  obtain ⟨hx, hb, hr, hts, hown, hlocks, hml, hK, hN, hE, hA⟩ := C
  unfold zX4_wordIn_s24_t2_7b at h
  refine lv_iload hx hb dX4_wordIn_7 (lv_at hl 4 rfl) ?_
  refine lv_aload_n hx hb dX4_wordIn_9 rfl (lv_at hl 1 rfl) ?_
  refine dw_ks (va_runV (As := []) (rest := [.int x4]) ⟨hx, hb, hml, hown, hts⟩ (kcJ0le l D ty eo _ 2 (by decide)) (cwV 0 hts gX4_wordIn_J0_length_8abf5 rfl rfl rfl hd_J0_length_8abf5_v ⟨Nat.le_of_ble_eq_true rfl, Nat.le_of_ble_eq_true rfl⟩) (kz_preT hK hN hE hP hD hS hA 2 (by decide) [] (by decide) rfl) rfl rfl hl.1 rfl (lv_room (Nat.le_of_ble_eq_true rfl)) dX4_wordIn_10 ⟨Nat.le_of_ble_eq_true rfl, Nat.le_of_ble_eq_true rfl⟩) hP hD hS hA (fun _ _ h9 => h9.2.symm) (fun r9 u9 H locs hw hp hd hs => ?_)
  obtain ⟨rfl, -⟩ := hw
  clear hP hD hS
  have hP := hp; have hD := hd; have hS := hs; clear hp hd hs
  refine kz_topi 35 (by decide +kernel) ?_
  refine lv_icmp_ge (tgt := 62) hx hb dX4_wordIn_13 (by decide) (fun c9 => ?_) (fun c9 => ?_)
  · rw [if_pos c9] at h
    exact WX4_wordIn_s24_t2_62 C0  _ _ _ _ h hP hD hS (lv_sub hl [] rfl)
  · rw [if_neg c9] at h
    refine lv_aload_n hx hb dX4_wordIn_16 rfl (lv_at hl 0 rfl) ?_
    refine va_get (D := D) (ci := 4) (v := .int (q.1 24 4)) (C := RX4) (T := TX4) (N := 11) hx hb hts u9_wsX4_wordIn_X4 hown hK hP 24 rfl rfl 4 (by decide) (hts (.fieldLink RX4 27 "TurnedFloors$Reader" "token" "I") f9_wsX4_wordIn_478) (fun _ h9 => h9) rfl dX4_wordIn_17 ?_
    refine lv_iconst (v := 1) hx hb dX4_wordIn_20 (by decide) ?_
    refine lv_icmp_ne (tgt := 62) hx hb dX4_wordIn_21 (by decide) (fun c9 => ?_) (fun c9 => ?_)
    · rw [if_neg c9] at h
      exact WX4_wordIn_s24_t2_62 C0  _ _ _ _ h hP hD hS (lv_sub hl [] rfl)
    · rw [if_pos c9] at h
      refine lv_aload_n hx hb dX4_wordIn_24 rfl (lv_at hl 1 rfl) ?_
      refine lv_iload hx hb dX4_wordIn_25 (lv_at hl 4 rfl) ?_
      obtain ⟨g1, h⟩ := dG_some h
      refine dw_ks (va_runV (As := [.int x4]) (rest := []) ⟨hx, hb, hml, hown, hts⟩ (kcJ0ch l D ty eo _ 2 (by decide) x4 (dg_in g1)) (cwV 1 hts gX4_wordIn_J0_charAt_5068e rfl rfl rfl hd_J0_charAt_5068e_v ⟨Nat.le_of_ble_eq_true rfl, Nat.le_of_ble_eq_true rfl⟩) (kz_preT hK hN hE hP hD hS hA 2 (by decide) [] (by decide) rfl) rfl rfl hl.1 rfl (lv_room (Nat.le_of_ble_eq_true rfl)) dX4_wordIn_27 ⟨Nat.le_of_ble_eq_true rfl, Nat.le_of_ble_eq_true rfl⟩) hP hD hS hA (fun _ _ h9 => h9.2.symm) (fun r9 u9 H locs hw hp hd hs => ?_)
      obtain ⟨rfl, -⟩ := hw
      clear hP hD hS
      have hP := hp; have hD := hd; have hS := hs; clear hp hd hs
      obtain ⟨v2, ev2, h⟩ := dL_some h
      refine kz_topi v2 ev2 ?_
      refine lv_bipush (v := 32) hx hb dX4_wordIn_30 (by decide) ?_
      refine lv_icmp_ne (tgt := 56) hx hb dX4_wordIn_32 (by decide) (fun c9 => ?_) (fun c9 => ?_)
      · rw [if_neg c9] at h
        exact WX4_wordIn_s24_t2_56 C0 hk7 _ _ _ _ _ _ _ h hP hD hS (lv_sub hl [0, 1, 2, 3, 4] rfl)
      · rw [if_pos c9] at h
        refine lv_aload_n hx hb dX4_wordIn_35 rfl (lv_at hl 0 rfl) ?_
        refine lv_aload_n hx hb dX4_wordIn_36 rfl (lv_at hl 1 rfl) ?_
        refine lv_iload_n hx hb dX4_wordIn_37 rfl (lv_at hl 3 rfl) ?_
        refine lv_iload hx hb dX4_wordIn_38 (lv_at hl 4 rfl) ?_
        obtain ⟨r3, q5, h4, h⟩ := dB_some h
        refine dw_ki (va_runV (As := [.ref (eo (1 + 2)), .int x3, .int x4]) (rest := []) ⟨hx, hb, hml, hown, hts⟩ (qX4_isSame_s24_t2 l D ty eo _ ad q x3 x4 r3 q5 h4) (cwV 3 hts gX4_wordIn_X4_isSame rfl rfl rfl hd_X4_isSame_v ⟨Nat.le_of_ble_eq_true rfl, Nat.le_of_ble_eq_true rfl⟩) (pvF_4_24 hK hN hE hP hD hS hA) rfl rfl hl.1 rfl (lv_room (Nat.le_of_ble_eq_true rfl)) dX4_wordIn_40 ⟨Nat.le_of_ble_eq_true rfl, Nat.le_of_ble_eq_true rfl⟩) hD hS hA (fun r9 u9 H locs hw hp hd hs => ?_)
        clear hP hD hS
        obtain ⟨rfl, rfl⟩ := hw
        have hP := hp; have hD := hd; have hS := hs; clear hp hd hs
        refine lv_if_eq (tgt := 48) hx hb dX4_wordIn_43 (by decide) (fun c9 => ?_) (fun c9 => ?_)
        · rw [if_pos c9] at h
          refine lv_iinc (v := x2 + 1) (lv' := [(2, .int (x2 + 1)), (0, .ref (ad 24)), (1, .ref (eo (1 + 2))), (3, .int x3), (4, .int x4)]) hx hb dX4_wordIn_48 hl (k := 2) rfl rfl (by decide) rfl (fun ls hl => ?_)
          refine lv_iload hx hb dX4_wordIn_51 (lv_at hl 4 rfl) ?_
          refine lv_iconst (v := 1) hx hb dX4_wordIn_53 (by decide) ?_
          refine lv_iadd hx hb dX4_wordIn_54 ?_
          refine lv_istore_n (lv' := [(3, .int (x4 + 1 : Int32)), (2, .int (x2 + 1)), (0, .ref (ad 24)), (1, .ref (eo (1 + 2))), (4, .int x4)]) hx hb dX4_wordIn_55 rfl hl (by decide) rfl (fun ls hl => ?_)
          exact WX4_wordIn_s24_t2_56 C0 hk7 _ _ _ _ _ _ _ h hP hD hS (lv_sub hl [2, 3, 1, 0, 4] rfl)
        · rw [if_neg c9] at h
          refine lv_iload_n hx hb dX4_wordIn_46 rfl (lv_at hl 2 rfl) ?_
          cases h
          exact kz_iret hx hb hr hlocks hP hK hD hS dX4_wordIn_47 ⟨rfl, rfl⟩
set_option maxHeartbeats 4000000 in
set_option maxRecDepth 100000 in
theorem WX4_wordIn_s24_t2_7 {p : Program} {l : Launch} {e : Env} {s : State} {m : MethodId} {args : Array Value} {below : List Frame} {meth : Method} {c : Code} {D : va_G} {ty : Nat → ClassId} {eo : Nat → Nat} {A : Nat → Prop} {ad : Nat → Nat} {o1 : Int32} {o2 : dK} (C : dc_C p s m args meth c cX4_wordIn (some .int) 5 RX4 wsX4_wordIn D ty eo A)   (n : Nat) (q : dK) (x2 : Int32) (x3 : Int32) (x4 : Int32) (H : Heap) (locs : List Loc) (ls : Array Slot) (h : zX4_wordIn_s24_t2_7  n q x2 x3 x4 = some (o1, o2)) (hP : va_P D vwCl (wF ty ad q) H) (hD : va_D A (wF ty ad q)) (hS : va_S A s.heap H locs) (hl : lv_has ls 5 [(0, .ref (ad 24)), (1, .ref (eo (1 + 2))), (2, .int x2), (3, .int x3), (4, .int x4)]) : W p l e ({ frames := 5, cells := 0, slots := 0, locals := 109 } : Room) s m args below meth c H locs 0 0 (MQ below (va_Qi (fun (r : Int32) (u : va_W) => o1 = r ∧ wF ty ad o2 = u) (kz_B D ty A) A) args s 0 0 A) (F0 m 7 ls []) := by
  exact dFix_W (F := fun k (a : dK × Int32 × Int32 × Int32) => zX4_wordIn_s24_t2_7b  (fun q x2 x3 x4 => k (q, x2, x3, x4)) a.1 a.2.1 a.2.2.1 a.2.2.2) (o := (o1, o2)) (P := fun (a : dK × Int32 × Int32 × Int32) H locs ls => va_P D vwCl (wF ty ad a.1) H ∧ va_D A (wF ty ad a.1) ∧ va_S A s.heap H locs ∧ lv_has ls 5 [(0, .ref (ad 24)), (1, .ref (eo (1 + 2))), (2, .int a.2.1), (3, .int a.2.2.1), (4, .int a.2.2.2)]) (G := fun H locs ls => W p l e ({ frames := 5, cells := 0, slots := 0, locals := 109 } : Room) s m args below meth c H locs 0 0 (MQ below (va_Qi (fun (r : Int32) (u : va_W) => o1 = r ∧ wF ty ad o2 = u) (kz_B D ty A) A) args s 0 0 A) (F0 m 7 ls []))
    (fun k hk a H locs ls h hp => WX4_wordIn_s24_t2_7b C  (fun q x2 x3 x4 H locs ls h h1 h2 h3 h4 => hk (q, x2, x3, x4) H locs ls h ⟨h1, h2, h3, h4⟩) a.1 a.2.1 a.2.2.1 a.2.2.2 H locs ls h hp.1 hp.2.1 hp.2.2.1 hp.2.2.2) n (q, x2, x3, x4) H locs ls h ⟨hP, hD, hS, hl⟩
set_option maxHeartbeats 4000000 in
set_option maxRecDepth 100000 in
theorem qX4_wordIn_s24_t2 (l : Launch) (D : va_G) (ty : Nat → ClassId) (eo : Nat → Nat) (sz : Nat) (ad : Nat → Nat) (q : dK)  (o1 : Int32) (o2 : dK) (h : zX4_wordIn_s24_t2 q = some (o1, o2)) : Met l yX4_wordIn wsX4_wordIn ({ frames := 5, cells := 0, slots := 0, locals := 109 } : Room) (va_Pc [.ref (ad 24), .ref (eo (1 + 2))] (kz_pre D ty eo (wF ty ad q) sz)) (va_Qi (fun (r : Int32) (u : va_W) => o1 = r ∧ wF ty ad o2 = u) (kz_B D ty (va_A (wF ty ad q) sz)) (va_A (wF ty ad q) sz)) 0 0 (va_A (wF ty ad q) sz) := by
  refine Met.ofW (cc := cX4_wordIn) (maxL := 5) (ret := (some .int)) (by decide) rfl ?_
  intro p e s m args below meth c s₁ B hml hv
  obtain ⟨rfl, hsz, hP, hK, hD0, hN, hE⟩ := hv
  have hx := B.exec
  have hb := B.bytes
  have hr := B.returns
  have hts := atoms_spec (ws := wsX4_wordIn) B.pre
  have hown : s.vm.findClass RX4 = some m.cls := findClass_of_methodNamed B.named
  have hlocks := B.notSynchronized
  subst hsz
  have hD := hD0.self (sz := s.heap.size)
  generalize hAe : va_A (wF ty ad q) s.heap.size = A at hD hE ⊢
  have hA : ∀ q : Nat, s.heap.size ≤ q → A q := fun q h => by rw [← hAe]; exact Or.inr h
  clear hAe
  have hS : va_S A s.heap s.heap [] := va_S.rf
  have hl := lv_entry ([.ref (ad 24), .ref (eo (1 + 2))]) (n := 5) (Nat.le_of_ble_eq_true rfl)
  rw [lg_entry_eq]
  generalize (lg_sl ([.ref (ad 24), .ref (eo (1 + 2))]) ++ List.replicate (5 - (lg_sl ([.ref (ad 24), .ref (eo (1 + 2))])).length) Slot.unset).toArray = ls at hl ⊢
  have hl : lv_has ls 5 [(0, .ref (ad 24)), (1, .ref (eo (1 + 2)))] := hl
  have C : dc_C p s m _ meth c cX4_wordIn (some .int) 5 RX4 wsX4_wordIn D ty eo A := ⟨hx, hb, hr, hts, hown, hlocks, hml, hK, hN, hE, hA⟩
  unfold zX4_wordIn_s24_t2 at h
  refine lv_iconst (v := 0) hx hb dX4_wordIn_0 (by decide) ?_
  refine lv_istore_n (lv' := [(2, .int 0), (0, .ref (ad 24)), (1, .ref (eo (1 + 2)))]) hx hb dX4_wordIn_1 rfl hl (by decide) rfl (fun ls hl => ?_)
  refine lv_iconst (v := 0) hx hb dX4_wordIn_2 (by decide) ?_
  refine lv_istore_n (lv' := [(3, .int 0), (2, .int 0), (0, .ref (ad 24)), (1, .ref (eo (1 + 2)))]) hx hb dX4_wordIn_3 rfl hl (by decide) rfl (fun ls hl => ?_)
  refine lv_iconst (v := 0) hx hb dX4_wordIn_4 (by decide) ?_
  refine lv_istore (lv' := [(4, .int 0), (3, .int 0), (2, .int 0), (0, .ref (ad 24)), (1, .ref (eo (1 + 2)))]) hx hb dX4_wordIn_5 hl (by decide) rfl (fun ls hl => ?_)
  exact WX4_wordIn_s24_t2_7 C  _ _ _ _ _ _ _ _ h hP hD hS (lv_sub hl [3, 4, 2, 1, 0] rfl)

set_option maxHeartbeats 4000000 in
set_option maxRecDepth 100000 in
theorem qX4_openBracket_s24 (l : Launch) (D : va_G) (ty : Nat → ClassId) (eo : Nat → Nat) (sz : Nat) (ad : Nat → Nat) (q : dK)  (o1 : Int32) (o2 : dK) (h : zX4_openBracket_s24 q = some (o1, o2)) : Met l yX4_openBracket wsX4_openBracket ({ frames := 2, cells := 0, slots := 0, locals := 42 } : Room) (va_Pc [.ref (ad 24)] (kz_pre D ty eo (wF ty ad q) sz)) (va_Qi (fun (r : Int32) (u : va_W) => o1 = r ∧ wF ty ad o2 = u) (kz_B D ty (va_A (wF ty ad q) sz)) (va_A (wF ty ad q) sz)) 0 0 (va_A (wF ty ad q) sz) := by
  refine Met.ofW (cc := cX4_openBracket) (maxL := 1) (ret := (some .boolean)) (by decide) rfl ?_
  intro p e s m args below meth c s₁ B hml hv
  obtain ⟨rfl, hsz, hP, hK, hD0, hN, hE⟩ := hv
  have hx := B.exec
  have hb := B.bytes
  have hr := B.returns
  have hts := atoms_spec (ws := wsX4_openBracket) B.pre
  have hown : s.vm.findClass RX4 = some m.cls := findClass_of_methodNamed B.named
  have hlocks := B.notSynchronized
  subst hsz
  have hD := hD0.self (sz := s.heap.size)
  generalize hAe : va_A (wF ty ad q) s.heap.size = A at hD hE ⊢
  have hA : ∀ q : Nat, s.heap.size ≤ q → A q := fun q h => by rw [← hAe]; exact Or.inr h
  clear hAe
  have hS : va_S A s.heap s.heap [] := va_S.rf
  have hl := lv_entry ([.ref (ad 24)]) (n := 1) (Nat.le_of_ble_eq_true rfl)
  rw [lg_entry_eq]
  generalize (lg_sl ([.ref (ad 24)]) ++ List.replicate (1 - (lg_sl ([.ref (ad 24)])).length) Slot.unset).toArray = ls at hl ⊢
  have hl : lv_has ls 1 [(0, .ref (ad 24))] := hl
  have C : dc_C p s m _ meth c cX4_openBracket (some .boolean) 1 RX4 wsX4_openBracket D ty eo A := ⟨hx, hb, hr, hts, hown, hlocks, hml, hK, hN, hE, hA⟩
  unfold zX4_openBracket_s24 at h
  refine lv_aload_n hx hb dX4_openBracket_0 rfl (lv_at hl 0 rfl) ?_
  refine va_get (D := D) (ci := 4) (v := .int (q.1 24 9)) (C := RX4) (T := TX4) (N := 11) hx hb hts u9_wsX4_openBracket_X4 hown hK hP 24 rfl rfl 9 (by decide) (hts (.fieldLink RX4 42 "TurnedFloors$Reader" "open" "I") f9_wsX4_openBracket_496) (fun _ h9 => h9) rfl dX4_openBracket_1 ?_
  refine lv_bipush (v := 8) hx hb dX4_openBracket_4 (by decide) ?_
  refine lv_icmp_lt (tgt := 15) hx hb dX4_openBracket_6 (by decide) (fun c9 => ?_) (fun c9 => ?_)
  · rw [if_pos c9] at h
    refine lv_aload_n hx hb dX4_openBracket_15 rfl (lv_at hl 0 rfl) ?_
    refine lv_dup hx hb dX4_openBracket_16 rfl ?_
    refine va_get (D := D) (ci := 4) (v := .int (q.1 24 9)) (C := RX4) (T := TX4) (N := 11) hx hb hts u9_wsX4_openBracket_X4 hown hK hP 24 rfl rfl 9 (by decide) (hts (.fieldLink RX4 42 "TurnedFloors$Reader" "open" "I") f9_wsX4_openBracket_496) (fun _ h9 => h9) rfl dX4_openBracket_17 ?_
    refine lv_iconst (v := 1) hx hb dX4_openBracket_20 (by decide) ?_
    refine lv_iadd hx hb dX4_openBracket_21 ?_
    refine va_put (D := D) (ci := 4) (v := .int ((q.1 24 9) + 1 : Int32)) (ty := .int) (C := RX4) (T := TX4) (N := 11) hx hb hts u9_wsX4_openBracket_X4 tyX4 tyX4_ok nmX4 hown hK hP hD hS 24 rfl rfl 9 (by decide) (hts (.fieldLink RX4 42 "TurnedFloors$Reader" "open" "I") f9_wsX4_openBracket_496) (fun _ h9 => h9) rfl (by decide +kernel) rfl rfl (Nat.le_of_ble_eq_true rfl) dX4_openBracket_22 (fun H locs hp hd hs => ?_)
    obtain ⟨q1, eq1, h⟩ := dL_some h
    refine kz_re (w2 := wF ty ad q1) hp hd hs (by rw [← eq1]; exact wF_f24_9 ty ad q ((q.1 24 9) + 1 : Int32)) ?_
    clear hp hd hs hP hD hS
    intro hP hD hS
    refine lv_aload_n hx hb dX4_openBracket_25 rfl (lv_at hl 0 rfl) ?_
    obtain ⟨q4, h3, h⟩ := dV_some h
    refine dw_kv (va_runV (As := []) (rest := []) ⟨hx, hb, hml, hown, hts⟩ (qX4_step_s24 l D ty eo _ ad q1  q4 h3) (cwV 0 hts gX4_openBracket_X4_step rfl rfl rfl hd_X4_step_v ⟨Nat.le_of_ble_eq_true rfl, Nat.le_of_ble_eq_true rfl⟩) (pvF_4_24 hK hN hE hP hD hS hA) rfl rfl hl.1 rfl (lv_room (Nat.le_of_ble_eq_true rfl)) dX4_openBracket_26 ⟨Nat.le_of_ble_eq_true rfl, Nat.le_of_ble_eq_true rfl⟩) hD hS hA (fun u9 H locs hw hp hd hs => ?_)
    clear hP hD hS
    obtain rfl := hw
    have hP := hp; have hD := hd; have hS := hs; clear hp hd hs
    refine lv_iconst (v := 1) hx hb dX4_openBracket_29 (by decide) ?_
    cases h
    exact kz_zret hx hb hr hlocks rfl hP hK hD hS dX4_openBracket_30 ⟨rfl, rfl⟩
  · rw [if_neg c9] at h
    refine lv_aload_n hx hb dX4_openBracket_9 rfl (lv_at hl 0 rfl) ?_
    obtain ⟨q7, h6, h⟩ := dV_some h
    refine dw_kv (va_runV (As := []) (rest := []) ⟨hx, hb, hml, hown, hts⟩ (qX4_fail_s24 l D ty eo _ ad q  q7 h6) (cwV 0 hts gX4_openBracket_X4_fail rfl rfl rfl hd_X4_fail_v ⟨Nat.le_of_ble_eq_true rfl, Nat.le_of_ble_eq_true rfl⟩) (pvF_4_24 hK hN hE hP hD hS hA) rfl rfl hl.1 rfl (lv_room (Nat.le_of_ble_eq_true rfl)) dX4_openBracket_10 ⟨Nat.le_of_ble_eq_true rfl, Nat.le_of_ble_eq_true rfl⟩) hD hS hA (fun u9 H locs hw hp hd hs => ?_)
    clear hP hD hS
    obtain rfl := hw
    have hP := hp; have hD := hd; have hS := hs; clear hp hd hs
    refine lv_iconst (v := 0) hx hb dX4_openBracket_13 (by decide) ?_
    cases h
    exact kz_zret hx hb hr hlocks rfl hP hK hD hS dX4_openBracket_14 ⟨rfl, rfl⟩

set_option maxHeartbeats 4000000 in
set_option maxRecDepth 100000 in
theorem WX4_expectSign_s24_19 {p : Program} {l : Launch} {e : Env} {s : State} {m : MethodId} {args : Array Value} {below : List Frame} {meth : Method} {c : Code} {D : va_G} {ty : Nat → ClassId} {eo : Nat → Nat} {A : Nat → Prop} {ad : Nat → Nat} {o2 : dK} (C : dc_C p s m args meth c cX4_expectSign none 2 RX4 wsX4_expectSign D ty eo A)   (q : dK)  (H : Heap) (locs : List Loc) (ls : Array Slot) (h : zX4_expectSign_s24_19  q = some o2) (hP : va_P D vwCl (wF ty ad q) H) (hD : va_D A (wF ty ad q)) (hS : va_S A s.heap H locs) (hl : lv_has ls 2 []) : W p l e ({ frames := 2, cells := 0, slots := 0, locals := 42 } : Room) s m args below meth c H locs 0 0 (MQ below (va_Qv (fun (u : va_W) => wF ty ad o2 = u) (kz_B D ty A) A) args s 0 0 A) (F0 m 19 ls []) := by
  have C0 := C
  obtain ⟨hx, hb, hr, hts, hown, hlocks, hml, hK, hN, hE, hA⟩ := C
  unfold zX4_expectSign_s24_19 at h
  cases h
  exact kz_vret hx hb hr hlocks hP hK hD hS dX4_expectSign_19 rfl
set_option maxHeartbeats 4000000 in
set_option maxRecDepth 100000 in
theorem qX4_expectSign_s24 (l : Launch) (D : va_G) (ty : Nat → ClassId) (eo : Nat → Nat) (sz : Nat) (ad : Nat → Nat) (q : dK) (p1 : Int32) (o2 : dK) (h : zX4_expectSign_s24 q p1 = some o2) : Met l yX4_expectSign wsX4_expectSign ({ frames := 2, cells := 0, slots := 0, locals := 42 } : Room) (va_Pc [.ref (ad 24), .int p1] (kz_pre D ty eo (wF ty ad q) sz)) (va_Qv (fun (u : va_W) => wF ty ad o2 = u) (kz_B D ty (va_A (wF ty ad q) sz)) (va_A (wF ty ad q) sz)) 0 0 (va_A (wF ty ad q) sz) := by
  refine Met.ofW (cc := cX4_expectSign) (maxL := 2) (ret := none) (by decide) rfl ?_
  intro p e s m args below meth c s₁ B hml hv
  obtain ⟨rfl, hsz, hP, hK, hD0, hN, hE⟩ := hv
  have hx := B.exec
  have hb := B.bytes
  have hr := B.returns
  have hts := atoms_spec (ws := wsX4_expectSign) B.pre
  have hown : s.vm.findClass RX4 = some m.cls := findClass_of_methodNamed B.named
  have hlocks := B.notSynchronized
  subst hsz
  have hD := hD0.self (sz := s.heap.size)
  generalize hAe : va_A (wF ty ad q) s.heap.size = A at hD hE ⊢
  have hA : ∀ q : Nat, s.heap.size ≤ q → A q := fun q h => by rw [← hAe]; exact Or.inr h
  clear hAe
  have hS : va_S A s.heap s.heap [] := va_S.rf
  have hl := lv_entry ([.ref (ad 24), .int p1]) (n := 2) (Nat.le_of_ble_eq_true rfl)
  rw [lg_entry_eq]
  generalize (lg_sl ([.ref (ad 24), .int p1]) ++ List.replicate (2 - (lg_sl ([.ref (ad 24), .int p1])).length) Slot.unset).toArray = ls at hl ⊢
  have hl : lv_has ls 2 [(0, .ref (ad 24)), (1, .int p1)] := hl
  have C : dc_C p s m _ meth c cX4_expectSign none 2 RX4 wsX4_expectSign D ty eo A := ⟨hx, hb, hr, hts, hown, hlocks, hml, hK, hN, hE, hA⟩
  unfold zX4_expectSign_s24 at h
  refine lv_aload_n hx hb dX4_expectSign_0 rfl (lv_at hl 0 rfl) ?_
  refine lv_iload_n hx hb dX4_expectSign_1 rfl (lv_at hl 1 rfl) ?_
  obtain ⟨r1, q3, h2, h⟩ := dB_some h
  refine dw_ki (va_runV (As := [.int p1]) (rest := []) ⟨hx, hb, hml, hown, hts⟩ (qX4_isSign_s24 l D ty eo _ ad q p1 r1 q3 h2) (cwV 1 hts gX4_expectSign_X4_isSign rfl rfl rfl hd_X4_isSign_v ⟨Nat.le_of_ble_eq_true rfl, Nat.le_of_ble_eq_true rfl⟩) (pvF_4_24 hK hN hE hP hD hS hA) rfl rfl hl.1 rfl (lv_room (Nat.le_of_ble_eq_true rfl)) dX4_expectSign_2 ⟨Nat.le_of_ble_eq_true rfl, Nat.le_of_ble_eq_true rfl⟩) hD hS hA (fun r9 u9 H locs hw hp hd hs => ?_)
  clear hP hD hS
  obtain ⟨rfl, rfl⟩ := hw
  have hP := hp; have hD := hd; have hS := hs; clear hp hd hs
  refine lv_if_eq (tgt := 15) hx hb dX4_expectSign_5 (by decide) (fun c9 => ?_) (fun c9 => ?_)
  · rw [if_pos c9] at h
    refine lv_aload_n hx hb dX4_expectSign_15 rfl (lv_at hl 0 rfl) ?_
    obtain ⟨q6, h5, h⟩ := dV_some h
    refine dw_kv (va_runV (As := []) (rest := []) ⟨hx, hb, hml, hown, hts⟩ (qX4_fail_s24 l D ty eo _ ad q3  q6 h5) (cwV 0 hts gX4_expectSign_X4_fail rfl rfl rfl hd_X4_fail_v ⟨Nat.le_of_ble_eq_true rfl, Nat.le_of_ble_eq_true rfl⟩) (pvF_4_24 hK hN hE hP hD hS hA) rfl rfl hl.1 rfl (lv_room (Nat.le_of_ble_eq_true rfl)) dX4_expectSign_16 ⟨Nat.le_of_ble_eq_true rfl, Nat.le_of_ble_eq_true rfl⟩) hD hS hA (fun u9 H locs hw hp hd hs => ?_)
    clear hP hD hS
    obtain rfl := hw
    have hP := hp; have hD := hd; have hS := hs; clear hp hd hs
    exact WX4_expectSign_s24_19 C  _ _ _ _ h hP hD hS (lv_sub hl [] rfl)
  · rw [if_neg c9] at h
    refine lv_aload_n hx hb dX4_expectSign_8 rfl (lv_at hl 0 rfl) ?_
    obtain ⟨q9, h8, h⟩ := dV_some h
    refine dw_kv (va_runV (As := []) (rest := []) ⟨hx, hb, hml, hown, hts⟩ (qX4_step_s24 l D ty eo _ ad q3  q9 h8) (cwV 0 hts gX4_expectSign_X4_step rfl rfl rfl hd_X4_step_v ⟨Nat.le_of_ble_eq_true rfl, Nat.le_of_ble_eq_true rfl⟩) (pvF_4_24 hK hN hE hP hD hS hA) rfl rfl hl.1 rfl (lv_room (Nat.le_of_ble_eq_true rfl)) dX4_expectSign_9 ⟨Nat.le_of_ble_eq_true rfl, Nat.le_of_ble_eq_true rfl⟩) hD hS hA (fun u9 H locs hw hp hd hs => ?_)
    clear hP hD hS
    obtain rfl := hw
    have hP := hp; have hD := hd; have hS := hs; clear hp hd hs
    refine lv_goto (tgt := 19) hx hb dX4_expectSign_12 (by decide) ?_
    exact WX4_expectSign_s24_19 C  _ _ _ _ h hP hD hS (lv_sub hl [] rfl)

set_option maxHeartbeats 4000000 in
set_option maxRecDepth 100000 in
theorem WX4_isSame_s24_t3_20b {p : Program} {l : Launch} {e : Env} {s : State} {m : MethodId} {args : Array Value} {below : List Frame} {meth : Method} {c : Code} {D : va_G} {ty : Nat → ClassId} {eo : Nat → Nat} {A : Nat → Prop} {ad : Nat → Nat} {o1 : Int32} {o2 : dK} (C : dc_C p s m args meth c cX4_isSame (some .boolean) 5 RX4 wsX4_isSame D ty eo A) {k20 : dK → Int32 → Int32 → Int32 → Option (Int32 × dK)} (hk20 : ∀ (q : dK) (x2 : Int32) (x3 : Int32) (x4 : Int32) (H : Heap) (locs : List Loc) (ls : Array Slot), k20 q x2 x3 x4 = some (o1, o2) → va_P D vwCl (wF ty ad q) H → va_D A (wF ty ad q) → va_S A s.heap H locs → lv_has ls 5 [(0, .ref (ad 24)), (1, .ref (eo (1 + 3))), (2, .int x2), (3, .int x3), (4, .int x4)] → W p l e ({ frames := 4, cells := 0, slots := 0, locals := 85 } : Room) s m args below meth c H locs 0 0 (MQ below (va_Qi (fun (r : Int32) (u : va_W) => o1 = r ∧ wF ty ad o2 = u) (kz_B D ty A) A) args s 0 0 A) (F0 m 20 ls [])) (q : dK) (x2 : Int32) (x3 : Int32) (x4 : Int32) (H : Heap) (locs : List Loc) (ls : Array Slot) (h : zX4_isSame_s24_t3_20b k20 q x2 x3 x4 = some (o1, o2)) (hP : va_P D vwCl (wF ty ad q) H) (hD : va_D A (wF ty ad q)) (hS : va_S A s.heap H locs) (hl : lv_has ls 5 [(0, .ref (ad 24)), (1, .ref (eo (1 + 3))), (2, .int x2), (3, .int x3), (4, .int x4)]) : W p l e ({ frames := 4, cells := 0, slots := 0, locals := 85 } : Room) s m args below meth c H locs 0 0 (MQ below (va_Qi (fun (r : Int32) (u : va_W) => o1 = r ∧ wF ty ad o2 = u) (kz_B D ty A) A) args s 0 0 A) (F0 m 20 ls []) := by
  have C0 := C
  obtain ⟨hx, hb, hr, hts, hown, hlocks, hml, hK, hN, hE, hA⟩ := C
  unfold zX4_isSame_s24_t3_20b at h
  refine lv_iload hx hb dX4_isSame_20 (lv_at hl 4 rfl) ?_
  refine lv_iload_n hx hb dX4_isSame_22 rfl (lv_at hl 3 rfl) ?_
  refine lv_icmp_ge (tgt := 57) hx hb dX4_isSame_23 (by decide) (fun c9 => ?_) (fun c9 => ?_)
  · rw [if_pos c9] at h
    refine lv_iconst (v := 1) hx hb dX4_isSame_57 (by decide) ?_
    cases h
    exact kz_zret hx hb hr hlocks rfl hP hK hD hS dX4_isSame_58 ⟨rfl, rfl⟩
  · rw [if_neg c9] at h
    refine lv_aload_n hx hb dX4_isSame_26 rfl (lv_at hl 1 rfl) ?_
    refine lv_iload hx hb dX4_isSame_27 (lv_at hl 4 rfl) ?_
    obtain ⟨g1, h⟩ := dG_some h
    refine dw_ks (va_runV (As := [.int x4]) (rest := []) ⟨hx, hb, hml, hown, hts⟩ (kcJ0ch l D ty eo _ 3 (by decide) x4 (dg_in g1)) (cwV 1 hts gX4_isSame_J0_charAt_5068e rfl rfl rfl hd_J0_charAt_5068e_v ⟨Nat.le_of_ble_eq_true rfl, Nat.le_of_ble_eq_true rfl⟩) (kz_preT hK hN hE hP hD hS hA 3 (by decide) [] (by decide) rfl) rfl rfl hl.1 rfl (lv_room (Nat.le_of_ble_eq_true rfl)) dX4_isSame_29 ⟨Nat.le_of_ble_eq_true rfl, Nat.le_of_ble_eq_true rfl⟩) hP hD hS hA (fun _ _ h9 => h9.2.symm) (fun r9 u9 H locs hw hp hd hs => ?_)
    obtain ⟨rfl, -⟩ := hw
    clear hP hD hS
    have hP := hp; have hD := hd; have hS := hs; clear hp hd hs
    obtain ⟨v2, ev2, h⟩ := dL_some h
    refine kz_topi v2 ev2 ?_
    refine lv_aload_n hx hb dX4_isSame_32 rfl (lv_at hl 0 rfl) ?_
    refine va_get (D := D) (ci := 4) (v := dN (ad 46) (q.1 24 0)) (C := RX4) (T := TX4) (N := 11) hx hb hts u9_wsX4_isSame_X4 hown hK hP 24 rfl rfl 0 (by decide) (hts (.fieldLink RX4 9 "TurnedFloors$Reader" "bytes" "[I") f9_wsX4_isSame_474) (fun _ h9 => h9) rfl dX4_isSame_33 ?_
    obtain ⟨g3, h⟩ := dG_some h
    refine kz_topv (if_neg (dnz_ne g3)) ?_
    refine lv_aload_n hx hb dX4_isSame_36 rfl (lv_at hl 0 rfl) ?_
    refine va_get (D := D) (ci := 4) (v := .int (q.1 24 5)) (C := RX4) (T := TX4) (N := 11) hx hb hts u9_wsX4_isSame_X4 hown hK hP 24 rfl rfl 5 (by decide) (hts (.fieldLink RX4 30 "TurnedFloors$Reader" "start" "I") f9_wsX4_isSame_475) (fun _ h9 => h9) rfl dX4_isSame_37 ?_
    refine lv_iload hx hb dX4_isSame_40 (lv_at hl 4 rfl) ?_
    refine lv_iadd hx hb dX4_isSame_42 ?_
    refine lv_iload_n hx hb dX4_isSame_43 rfl (lv_at hl 2 rfl) ?_
    refine lv_isub hx hb dX4_isSame_44 ?_
    obtain ⟨g4, h⟩ := dG_some h
    refine va_iald hx hb hK hP 46 0 rfl rfl (dg_in g4) dX4_isSame_45 ?_
    obtain ⟨v5, ev5, h⟩ := dL_some h
    refine kz_topi v5 ev5 ?_
    refine lv_icmp_eq (tgt := 51) hx hb dX4_isSame_46 (by decide) (fun c9 => ?_) (fun c9 => ?_)
    · rw [if_pos c9] at h
      refine lv_iinc (v := x4 + 1) (lv' := [(4, .int (x4 + 1)), (0, .ref (ad 24)), (1, .ref (eo (1 + 3))), (2, .int x2), (3, .int x3)]) hx hb dX4_isSame_51 hl (k := 4) rfl rfl (by decide) rfl (fun ls hl => ?_)
      refine lv_goto (tgt := 20) hx hb dX4_isSame_54 (by decide) ?_
      exact hk20 _ _ _ _ _ _ _ h hP hD hS (lv_sub hl [1, 2, 3, 4, 0] rfl)
    · rw [if_neg c9] at h
      refine lv_iconst (v := 0) hx hb dX4_isSame_49 (by decide) ?_
      cases h
      exact kz_zret hx hb hr hlocks rfl hP hK hD hS dX4_isSame_50 ⟨rfl, rfl⟩
set_option maxHeartbeats 4000000 in
set_option maxRecDepth 100000 in
theorem WX4_isSame_s24_t3_20 {p : Program} {l : Launch} {e : Env} {s : State} {m : MethodId} {args : Array Value} {below : List Frame} {meth : Method} {c : Code} {D : va_G} {ty : Nat → ClassId} {eo : Nat → Nat} {A : Nat → Prop} {ad : Nat → Nat} {o1 : Int32} {o2 : dK} (C : dc_C p s m args meth c cX4_isSame (some .boolean) 5 RX4 wsX4_isSame D ty eo A)   (n : Nat) (q : dK) (x2 : Int32) (x3 : Int32) (x4 : Int32) (H : Heap) (locs : List Loc) (ls : Array Slot) (h : zX4_isSame_s24_t3_20  n q x2 x3 x4 = some (o1, o2)) (hP : va_P D vwCl (wF ty ad q) H) (hD : va_D A (wF ty ad q)) (hS : va_S A s.heap H locs) (hl : lv_has ls 5 [(0, .ref (ad 24)), (1, .ref (eo (1 + 3))), (2, .int x2), (3, .int x3), (4, .int x4)]) : W p l e ({ frames := 4, cells := 0, slots := 0, locals := 85 } : Room) s m args below meth c H locs 0 0 (MQ below (va_Qi (fun (r : Int32) (u : va_W) => o1 = r ∧ wF ty ad o2 = u) (kz_B D ty A) A) args s 0 0 A) (F0 m 20 ls []) := by
  exact dFix_W (F := fun k (a : dK × Int32 × Int32 × Int32) => zX4_isSame_s24_t3_20b  (fun q x2 x3 x4 => k (q, x2, x3, x4)) a.1 a.2.1 a.2.2.1 a.2.2.2) (o := (o1, o2)) (P := fun (a : dK × Int32 × Int32 × Int32) H locs ls => va_P D vwCl (wF ty ad a.1) H ∧ va_D A (wF ty ad a.1) ∧ va_S A s.heap H locs ∧ lv_has ls 5 [(0, .ref (ad 24)), (1, .ref (eo (1 + 3))), (2, .int a.2.1), (3, .int a.2.2.1), (4, .int a.2.2.2)]) (G := fun H locs ls => W p l e ({ frames := 4, cells := 0, slots := 0, locals := 85 } : Room) s m args below meth c H locs 0 0 (MQ below (va_Qi (fun (r : Int32) (u : va_W) => o1 = r ∧ wF ty ad o2 = u) (kz_B D ty A) A) args s 0 0 A) (F0 m 20 ls []))
    (fun k hk a H locs ls h hp => WX4_isSame_s24_t3_20b C  (fun q x2 x3 x4 H locs ls h h1 h2 h3 h4 => hk (q, x2, x3, x4) H locs ls h ⟨h1, h2, h3, h4⟩) a.1 a.2.1 a.2.2.1 a.2.2.2 H locs ls h hp.1 hp.2.1 hp.2.2.1 hp.2.2.2) n (q, x2, x3, x4) H locs ls h ⟨hP, hD, hS, hl⟩
set_option maxHeartbeats 4000000 in
set_option maxRecDepth 100000 in
theorem qX4_isSame_s24_t3 (l : Launch) (D : va_G) (ty : Nat → ClassId) (eo : Nat → Nat) (sz : Nat) (ad : Nat → Nat) (q : dK) (p2 : Int32) (p3 : Int32) (o1 : Int32) (o2 : dK) (h : zX4_isSame_s24_t3 q p2 p3 = some (o1, o2)) : Met l yX4_isSame wsX4_isSame ({ frames := 4, cells := 0, slots := 0, locals := 85 } : Room) (va_Pc [.ref (ad 24), .ref (eo (1 + 3)), .int p2, .int p3] (kz_pre D ty eo (wF ty ad q) sz)) (va_Qi (fun (r : Int32) (u : va_W) => o1 = r ∧ wF ty ad o2 = u) (kz_B D ty (va_A (wF ty ad q) sz)) (va_A (wF ty ad q) sz)) 0 0 (va_A (wF ty ad q) sz) := by
  refine Met.ofW (cc := cX4_isSame) (maxL := 5) (ret := (some .boolean)) (by decide) rfl ?_
  intro p e s m args below meth c s₁ B hml hv
  obtain ⟨rfl, hsz, hP, hK, hD0, hN, hE⟩ := hv
  have hx := B.exec
  have hb := B.bytes
  have hr := B.returns
  have hts := atoms_spec (ws := wsX4_isSame) B.pre
  have hown : s.vm.findClass RX4 = some m.cls := findClass_of_methodNamed B.named
  have hlocks := B.notSynchronized
  subst hsz
  have hD := hD0.self (sz := s.heap.size)
  generalize hAe : va_A (wF ty ad q) s.heap.size = A at hD hE ⊢
  have hA : ∀ q : Nat, s.heap.size ≤ q → A q := fun q h => by rw [← hAe]; exact Or.inr h
  clear hAe
  have hS : va_S A s.heap s.heap [] := va_S.rf
  have hl := lv_entry ([.ref (ad 24), .ref (eo (1 + 3)), .int p2, .int p3]) (n := 5) (Nat.le_of_ble_eq_true rfl)
  rw [lg_entry_eq]
  generalize (lg_sl ([.ref (ad 24), .ref (eo (1 + 3)), .int p2, .int p3]) ++ List.replicate (5 - (lg_sl ([.ref (ad 24), .ref (eo (1 + 3)), .int p2, .int p3])).length) Slot.unset).toArray = ls at hl ⊢
  have hl : lv_has ls 5 [(0, .ref (ad 24)), (1, .ref (eo (1 + 3))), (2, .int p2), (3, .int p3)] := hl
  have C : dc_C p s m _ meth c cX4_isSame (some .boolean) 5 RX4 wsX4_isSame D ty eo A := ⟨hx, hb, hr, hts, hown, hlocks, hml, hK, hN, hE, hA⟩
  unfold zX4_isSame_s24_t3 at h
  refine lv_iload_n hx hb dX4_isSame_0 rfl (lv_at hl 3 rfl) ?_
  refine lv_iload_n hx hb dX4_isSame_1 rfl (lv_at hl 2 rfl) ?_
  refine lv_isub hx hb dX4_isSame_2 ?_
  refine lv_aload_n hx hb dX4_isSame_3 rfl (lv_at hl 0 rfl) ?_
  refine va_get (D := D) (ci := 4) (v := .int (q.1 24 6)) (C := RX4) (T := TX4) (N := 11) hx hb hts u9_wsX4_isSame_X4 hown hK hP 24 rfl rfl 6 (by decide) (hts (.fieldLink RX4 33 "TurnedFloors$Reader" "stop" "I") f9_wsX4_isSame_476) (fun _ h9 => h9) rfl dX4_isSame_4 ?_
  refine lv_aload_n hx hb dX4_isSame_7 rfl (lv_at hl 0 rfl) ?_
  refine va_get (D := D) (ci := 4) (v := .int (q.1 24 5)) (C := RX4) (T := TX4) (N := 11) hx hb hts u9_wsX4_isSame_X4 hown hK hP 24 rfl rfl 5 (by decide) (hts (.fieldLink RX4 30 "TurnedFloors$Reader" "start" "I") f9_wsX4_isSame_475) (fun _ h9 => h9) rfl dX4_isSame_8 ?_
  refine lv_isub hx hb dX4_isSame_11 ?_
  refine lv_icmp_eq (tgt := 17) hx hb dX4_isSame_12 (by decide) (fun c9 => ?_) (fun c9 => ?_)
  · rw [if_pos c9] at h
    refine lv_iload_n hx hb dX4_isSame_17 rfl (lv_at hl 2 rfl) ?_
    refine lv_istore (lv' := [(4, .int p2), (0, .ref (ad 24)), (1, .ref (eo (1 + 3))), (2, .int p2), (3, .int p3)]) hx hb dX4_isSame_18 hl (by decide) rfl (fun ls hl => ?_)
    exact WX4_isSame_s24_t3_20 C  _ _ _ _ _ _ _ _ h hP hD hS (lv_sub hl [1, 2, 3, 4, 0] rfl)
  · rw [if_neg c9] at h
    refine lv_iconst (v := 0) hx hb dX4_isSame_15 (by decide) ?_
    cases h
    exact kz_zret hx hb hr hlocks rfl hP hK hD hS dX4_isSame_16 ⟨rfl, rfl⟩
end
