section
theorem u9_wsX9_undo_X9 : ∀ w ∈ u_ws RX9 TX9 19, w ∈ wsX9_undo := fun w h => List.mem_cons_of_mem _ (vW9_wsX90 w h)
theorem u9_wsX9_undo_X0 : ∀ w ∈ u_ws RX0 TX0 6, w ∈ wsX9_undo := fun w h => List.mem_cons_of_mem _ (vW9_wsX00 w h)
theorem u9_wsX9_undo_X6 : ∀ w ∈ u_ws RX6 TX6 10, w ∈ wsX9_undo := fun w h => List.mem_cons_of_mem _ (vW9_wsX60 w h)
theorem f9_wsX9_undo_712 : (Cond.fieldLink RX9 27 "TurnedFloors" "history" "LTurnedFloors$History;") ∈ wsX9_undo := List.mem_cons_of_mem _ mvW9_1
theorem f9_wsX9_undo_713 : (Cond.fieldLink RX9 10 "TurnedFloors" "state" "LTurnedFloors$State;") ∈ wsX9_undo := List.mem_cons_of_mem _ mvW9_0
theorem f9_wsX3_setDigits_714 : (Cond.initialized RX9) ∈ wsX3_setDigits := List.mem_cons_of_mem _ mvW9_4
theorem u9_wsX3_setDigits_X3 : ∀ w ∈ u_ws RX3 TX3 20, w ∈ wsX3_setDigits := fun w h => List.mem_cons_of_mem _ (vW9_wsX30 w h)
theorem f9_wsX3_setDigits_716 : (Cond.fieldLink RX3 15 "TurnedFloors$Paper" "digits" "[I") ∈ wsX3_setDigits := List.mem_cons_of_mem _ mvW9_469
theorem f9_wsX3_setDigits_717 : (Cond.fieldLink RX3 76 "TurnedFloors$Paper" "FACTORIALS" "[I") ∈ wsX3_setDigits := List.mem_cons_of_mem _ mvW9_465
theorem f9_wsX3_numberOfOrder_718 : (Cond.initialized RX9) ∈ wsX3_numberOfOrder := List.mem_cons_of_mem _ mvW9_4
theorem u9_wsX3_numberOfOrder_X3 : ∀ w ∈ u_ws RX3 TX3 20, w ∈ wsX3_numberOfOrder := fun w h => List.mem_cons_of_mem _ (vW9_wsX30 w h)
theorem f9_wsX3_numberOfOrder_720 : (Cond.fieldLink RX3 76 "TurnedFloors$Paper" "FACTORIALS" "[I") ∈ wsX3_numberOfOrder := List.mem_cons_of_mem _ mvW9_465
theorem f9_wsX3_numberOfOrder_721 : (Cond.fieldLink RX3 15 "TurnedFloors$Paper" "digits" "[I") ∈ wsX3_numberOfOrder := List.mem_cons_of_mem _ mvW9_469
theorem u9_wsX3_listOrder_X3 : ∀ w ∈ u_ws RX3 TX3 20, w ∈ wsX3_listOrder := fun w h => List.mem_cons_of_mem _ (vW9_wsX30 w h)
theorem f9_wsX3_listOrder_723 : (Cond.fieldLink RX3 33 "TurnedFloors$Paper" "turnedOrders" "[I") ∈ wsX3_listOrder := List.mem_cons_of_mem _ mvW9_480
theorem f9_wsX3_listOrder_724 : (Cond.fieldLink RX3 15 "TurnedFloors$Paper" "digits" "[I") ∈ wsX3_listOrder := List.mem_cons_of_mem _ mvW9_469
theorem f9_wsX3_listOrder_725 : (Cond.fieldLink RX3 51 "TurnedFloors$Paper" "floors" "I") ∈ wsX3_listOrder := List.mem_cons_of_mem _ mvW9_463
theorem f9_wsX3_listOrder_726 : (Cond.fieldLink RX3 30 "TurnedFloors$Paper" "orders" "[I") ∈ wsX3_listOrder := List.mem_cons_of_mem _ mvW9_479
set_option maxHeartbeats 4000000 in
set_option maxRecDepth 100000 in
theorem qX9_pass_s0 (l : Launch) (D : va_G) (ty : Nat → ClassId) (eo : Nat → Nat) (sz : Nat) (ad : Nat → Nat) (q : dK)  (o1 : Int32) (o2 : dK) (h : zX9_pass_s0 q = some (o1, o2)) : Met l yX9_pass wsX9_pass ({ frames := 7, cells := 0, slots := 0, locals := 176 } : Room) (va_Pc [.ref (ad 0)] (kz_pre D ty eo (wF ty ad q) sz)) (va_Qi (fun (r : Int32) (u : va_W) => o1 = r ∧ wF ty ad o2 = u) (kz_B D ty (va_A (wF ty ad q) sz)) (va_A (wF ty ad q) sz)) 0 0 (va_A (wF ty ad q) sz) := by
  refine Met.ofW (cc := cX9_pass) (maxL := 1) (ret := (some .int)) (by decide) rfl ?_
  intro p e s m args below meth c s₁ B hml hv
  obtain ⟨rfl, hsz, hP, hK, hD0, hN, hE⟩ := hv
  have hx := B.exec
  have hb := B.bytes
  have hr := B.returns
  have hts := atoms_spec (ws := wsX9_pass) B.pre
  have hown : s.vm.findClass RX9 = some m.cls := findClass_of_methodNamed B.named
  have hlocks := B.notSynchronized
  subst hsz
  have hD := hD0.self (sz := s.heap.size)
  generalize hAe : va_A (wF ty ad q) s.heap.size = A at hD hE ⊢
  have hA : ∀ q : Nat, s.heap.size ≤ q → A q := fun q h => by rw [← hAe]; exact Or.inr h
  clear hAe
  have hS : va_S A s.heap s.heap [] := va_S.rf
  have hl := lv_entry ([.ref (ad 0)]) (n := 1) (Nat.le_of_ble_eq_true rfl)
  rw [lg_entry_eq]
  generalize (lg_sl ([.ref (ad 0)]) ++ List.replicate (1 - (lg_sl ([.ref (ad 0)])).length) Slot.unset).toArray = ls at hl ⊢
  have hl : lv_has ls 1 [(0, .ref (ad 0))] := hl
  have C : dc_C p s m _ meth c cX9_pass (some .int) 1 RX9 wsX9_pass D ty eo A := ⟨hx, hb, hr, hts, hown, hlocks, hml, hK, hN, hE, hA⟩
  unfold zX9_pass_s0 at h
  refine lv_aload_n hx hb dX9_pass_0 rfl (lv_at hl 0 rfl) ?_
  refine lv_iconst (v := 3) hx hb dX9_pass_1 (by decide) ?_
  refine lv_iconst (v := 0) hx hb dX9_pass_2 (by decide) ?_
  obtain ⟨r1, q3, h2, h⟩ := dB_some h
  refine dw_ki (va_runV (As := [.int 3, .int 0]) (rest := []) ⟨hx, hb, hml, hown, hts⟩ (qX9_move_s0 l D ty eo _ ad q 3 0 r1 q3 h2) (cwV 2 hts gX9_pass_X9_move rfl rfl rfl hd_X9_move_v ⟨Nat.le_of_ble_eq_true rfl, Nat.le_of_ble_eq_true rfl⟩) (pvF_9_0 hK hN hE hP hD hS hA) rfl rfl hl.1 rfl (lv_room (Nat.le_of_ble_eq_true rfl)) dX9_pass_3 ⟨Nat.le_of_ble_eq_true rfl, Nat.le_of_ble_eq_true rfl⟩) hD hS hA (fun r9 u9 H locs hw hp hd hs => ?_)
  clear hP hD hS
  obtain ⟨rfl, rfl⟩ := hw
  have hP := hp; have hD := hd; have hS := hs; clear hp hd hs
  cases h
  exact kz_iret hx hb hr hlocks hP hK hD hS dX9_pass_6 ⟨rfl, rfl⟩

set_option maxHeartbeats 4000000 in
set_option maxRecDepth 100000 in
theorem qX9_undo_s0 (l : Launch) (D : va_G) (ty : Nat → ClassId) (eo : Nat → Nat) (sz : Nat) (ad : Nat → Nat) (q : dK)  (o1 : Int32) (o2 : dK) (h : zX9_undo_s0 q = some (o1, o2)) : Met l yX9_undo wsX9_undo ({ frames := 2, cells := 0, slots := 0, locals := 46 } : Room) (va_Pc [.ref (ad 0)] (kz_pre D ty eo (wF ty ad q) sz)) (va_Qi (fun (r : Int32) (u : va_W) => o1 = r ∧ wF ty ad o2 = u) (kz_B D ty (va_A (wF ty ad q) sz)) (va_A (wF ty ad q) sz)) 0 0 (va_A (wF ty ad q) sz) := by
  refine Met.ofW (cc := cX9_undo) (maxL := 1) (ret := (some .int)) (by decide) rfl ?_
  intro p e s m args below meth c s₁ B hml hv
  obtain ⟨rfl, hsz, hP, hK, hD0, hN, hE⟩ := hv
  have hx := B.exec
  have hb := B.bytes
  have hr := B.returns
  have hts := atoms_spec (ws := wsX9_undo) B.pre
  have hown : s.vm.findClass RX9 = some m.cls := findClass_of_methodNamed B.named
  have hlocks := B.notSynchronized
  subst hsz
  have hD := hD0.self (sz := s.heap.size)
  generalize hAe : va_A (wF ty ad q) s.heap.size = A at hD hE ⊢
  have hA : ∀ q : Nat, s.heap.size ≤ q → A q := fun q h => by rw [← hAe]; exact Or.inr h
  clear hAe
  have hS : va_S A s.heap s.heap [] := va_S.rf
  have hl := lv_entry ([.ref (ad 0)]) (n := 1) (Nat.le_of_ble_eq_true rfl)
  rw [lg_entry_eq]
  generalize (lg_sl ([.ref (ad 0)]) ++ List.replicate (1 - (lg_sl ([.ref (ad 0)])).length) Slot.unset).toArray = ls at hl ⊢
  have hl : lv_has ls 1 [(0, .ref (ad 0))] := hl
  have C : dc_C p s m _ meth c cX9_undo (some .int) 1 RX9 wsX9_undo D ty eo A := ⟨hx, hb, hr, hts, hown, hlocks, hml, hK, hN, hE, hA⟩
  unfold zX9_undo_s0 at h
  refine lv_aload_n hx hb dX9_undo_0 rfl (lv_at hl 0 rfl) ?_
  refine va_get (D := D) (ci := 9) (v := .ref (ad 10)) (C := RX9) (T := TX9) (N := 19) hx hb hts u9_wsX9_undo_X9 hown hK hP 0 rfl rfl 3 (by decide) (hts (.fieldLink RX9 27 "TurnedFloors" "history" "LTurnedFloors$History;") f9_wsX9_undo_712) (fun _ h9 => h9) rfl dX9_undo_1 ?_
  refine va_getN (D := D) (ci := 0) (v := .int (q.1 10 2)) (C := RX0) (T := TX0) (N := 6) hx hb hts u9_wsX9_undo_X0 hown hK hP 10 rfl rfl 2 (by decide) (hN.use (.fieldLinkNest "TurnedFloors" 214 "TurnedFloors$History" "kept" "I" "TurnedFloors") nn9_29) (fun _ h9 => h9) rfl dX9_undo_4 ?_
  refine lv_if_gt (tgt := 17) hx hb dX9_undo_7 (by decide) (fun c9 => ?_) (fun c9 => ?_)
  · rw [if_pos c9] at h
    refine lv_aload_n hx hb dX9_undo_17 rfl (lv_at hl 0 rfl) ?_
    refine va_get (D := D) (ci := 9) (v := .ref (ad 10)) (C := RX9) (T := TX9) (N := 19) hx hb hts u9_wsX9_undo_X9 hown hK hP 0 rfl rfl 3 (by decide) (hts (.fieldLink RX9 27 "TurnedFloors" "history" "LTurnedFloors$History;") f9_wsX9_undo_712) (fun _ h9 => h9) rfl dX9_undo_18 ?_
    refine lv_dup hx hb dX9_undo_21 rfl ?_
    refine va_getN (D := D) (ci := 0) (v := .int (q.1 10 2)) (C := RX0) (T := TX0) (N := 6) hx hb hts u9_wsX9_undo_X0 hown hK hP 10 rfl rfl 2 (by decide) (hN.use (.fieldLinkNest "TurnedFloors" 214 "TurnedFloors$History" "kept" "I" "TurnedFloors") nn9_29) (fun _ h9 => h9) rfl dX9_undo_22 ?_
    refine lv_iconst (v := 1) hx hb dX9_undo_25 (by decide) ?_
    refine lv_isub hx hb dX9_undo_26 ?_
    refine va_putN (D := D) (ci := 0) (v := .int ((q.1 10 2) - 1 : Int32)) (ty := .int) (C := RX0) (T := TX0) (N := 6) hx hb hts u9_wsX9_undo_X0 tyX0 tyX0_ok nmX0 hown hK hP hD hS 10 rfl rfl 2 (by decide) (hN.use (.fieldLinkNest "TurnedFloors" 214 "TurnedFloors$History" "kept" "I" "TurnedFloors") nn9_29) (fun _ h9 => h9) rfl (by decide +kernel) rfl rfl (Nat.le_of_ble_eq_true rfl) dX9_undo_27 (fun H locs hp hd hs => ?_)
    obtain ⟨q1, eq1, h⟩ := dL_some h
    refine kz_re (w2 := wF ty ad q1) hp hd hs (by rw [← eq1]; exact wF_f10_2 ty ad q ((q.1 10 2) - 1 : Int32)) ?_
    clear hp hd hs hP hD hS
    intro hP hD hS
    refine lv_aload_n hx hb dX9_undo_30 rfl (lv_at hl 0 rfl) ?_
    refine va_get (D := D) (ci := 9) (v := .ref (ad 1)) (C := RX9) (T := TX9) (N := 19) hx hb hts u9_wsX9_undo_X9 hown hK hP 0 rfl rfl 0 (by decide) (hts (.fieldLink RX9 10 "TurnedFloors" "state" "LTurnedFloors$State;") f9_wsX9_undo_713) (fun _ h9 => h9) rfl dX9_undo_31 ?_
    refine va_getN (D := D) (ci := 6) (v := .ref (ad 2)) (C := RX6) (T := TX6) (N := 10) hx hb hts u9_wsX9_undo_X6 hown hK hP 1 rfl rfl 0 (by decide) (hN.use (.fieldLinkNest "TurnedFloors" 122 "TurnedFloors$State" "tower" "LTurnedFloors$Tower;" "TurnedFloors") nn9_0) (fun _ h9 => h9) rfl dX9_undo_34 ?_
    refine lv_aload_n hx hb dX9_undo_37 rfl (lv_at hl 0 rfl) ?_
    refine va_get (D := D) (ci := 9) (v := .ref (ad 10)) (C := RX9) (T := TX9) (N := 19) hx hb hts u9_wsX9_undo_X9 hown hK hP 0 rfl rfl 3 (by decide) (hts (.fieldLink RX9 27 "TurnedFloors" "history" "LTurnedFloors$History;") f9_wsX9_undo_712) (fun _ h9 => h9) rfl dX9_undo_38 ?_
    refine va_getN (D := D) (ci := 0) (v := .ref (ad 11)) (C := RX0) (T := TX0) (N := 6) hx hb hts u9_wsX9_undo_X0 hown hK hP 10 rfl rfl 0 (by decide) (hN.use (.fieldLinkNest "TurnedFloors" 216 "TurnedFloors$History" "towers" "[J" "TurnedFloors") nn9_30) (fun _ h9 => h9) rfl dX9_undo_41 ?_
    refine lv_aload_n hx hb dX9_undo_44 rfl (lv_at hl 0 rfl) ?_
    refine va_get (D := D) (ci := 9) (v := .ref (ad 10)) (C := RX9) (T := TX9) (N := 19) hx hb hts u9_wsX9_undo_X9 hown hK hP 0 rfl rfl 3 (by decide) (hts (.fieldLink RX9 27 "TurnedFloors" "history" "LTurnedFloors$History;") f9_wsX9_undo_712) (fun _ h9 => h9) rfl dX9_undo_45 ?_
    refine va_getN (D := D) (ci := 0) (v := .int (q1.1 10 2)) (C := RX0) (T := TX0) (N := 6) hx hb hts u9_wsX9_undo_X0 hown hK hP 10 rfl rfl 2 (by decide) (hN.use (.fieldLinkNest "TurnedFloors" 214 "TurnedFloors$History" "kept" "I" "TurnedFloors") nn9_29) (fun _ h9 => h9) rfl dX9_undo_48 ?_
    obtain ⟨g2, h⟩ := dG_some h
    refine va_lald hx hb hK hP 11 1 rfl rfl (dg_in g2) dX9_undo_51 ?_
    obtain ⟨v3, ev3, h⟩ := dL_some h
    refine kz_topl v3 ev3 ?_
    obtain ⟨q6, h5, h⟩ := dV_some h
    refine dw_kv (va_runV (As := [.long v3]) (rest := []) ⟨hx, hb, hml, hown, hts⟩ (qX8_unpack_s2 l D ty eo _ ad q1 v3 q6 h5) (cwV 1 hts gX9_undo_X8_unpack rfl rfl rfl hd_X8_unpack_v ⟨Nat.le_of_ble_eq_true rfl, Nat.le_of_ble_eq_true rfl⟩) (pvF_8_2 hK hN hE hP hD hS hA) rfl rfl hl.1 rfl (lv_room (Nat.le_of_ble_eq_true rfl)) dX9_undo_52 ⟨Nat.le_of_ble_eq_true rfl, Nat.le_of_ble_eq_true rfl⟩) hD hS hA (fun u9 H locs hw hp hd hs => ?_)
    clear hP hD hS
    obtain rfl := hw
    have hP := hp; have hD := hd; have hS := hs; clear hp hd hs
    refine lv_aload_n hx hb dX9_undo_55 rfl (lv_at hl 0 rfl) ?_
    refine lv_aload_n hx hb dX9_undo_56 rfl (lv_at hl 0 rfl) ?_
    refine va_get (D := D) (ci := 9) (v := .ref (ad 10)) (C := RX9) (T := TX9) (N := 19) hx hb hts u9_wsX9_undo_X9 hown hK hP 0 rfl rfl 3 (by decide) (hts (.fieldLink RX9 27 "TurnedFloors" "history" "LTurnedFloors$History;") f9_wsX9_undo_712) (fun _ h9 => h9) rfl dX9_undo_57 ?_
    refine va_getN (D := D) (ci := 0) (v := .ref (ad 12)) (C := RX0) (T := TX0) (N := 6) hx hb hts u9_wsX9_undo_X0 hown hK hP 10 rfl rfl 1 (by decide) (hN.use (.fieldLinkNest "TurnedFloors" 223 "TurnedFloors$History" "kinds" "[I" "TurnedFloors") nn9_31) (fun _ h9 => h9) rfl dX9_undo_60 ?_
    refine lv_aload_n hx hb dX9_undo_63 rfl (lv_at hl 0 rfl) ?_
    refine va_get (D := D) (ci := 9) (v := .ref (ad 10)) (C := RX9) (T := TX9) (N := 19) hx hb hts u9_wsX9_undo_X9 hown hK hP 0 rfl rfl 3 (by decide) (hts (.fieldLink RX9 27 "TurnedFloors" "history" "LTurnedFloors$History;") f9_wsX9_undo_712) (fun _ h9 => h9) rfl dX9_undo_64 ?_
    refine va_getN (D := D) (ci := 0) (v := .int (q6.1 10 2)) (C := RX0) (T := TX0) (N := 6) hx hb hts u9_wsX9_undo_X0 hown hK hP 10 rfl rfl 2 (by decide) (hN.use (.fieldLinkNest "TurnedFloors" 214 "TurnedFloors$History" "kept" "I" "TurnedFloors") nn9_29) (fun _ h9 => h9) rfl dX9_undo_67 ?_
    obtain ⟨g7, h⟩ := dG_some h
    refine va_iald hx hb hK hP 12 0 rfl rfl (dg_in g7) dX9_undo_70 ?_
    obtain ⟨v8, ev8, h⟩ := dL_some h
    refine kz_topi v8 ev8 ?_
    obtain ⟨r9, q11, h10, h⟩ := dB_some h
    refine dw_ki (va_runV (As := [.int v8]) (rest := []) ⟨hx, hb, hml, hown, hts⟩ (qX9_accept_s0 l D ty eo _ ad q6 v8 r9 q11 h10) (cwV 1 hts gX9_undo_X9_accept rfl rfl rfl hd_X9_accept_v ⟨Nat.le_of_ble_eq_true rfl, Nat.le_of_ble_eq_true rfl⟩) (pvF_9_0 hK hN hE hP hD hS hA) rfl rfl hl.1 rfl (lv_room (Nat.le_of_ble_eq_true rfl)) dX9_undo_71 ⟨Nat.le_of_ble_eq_true rfl, Nat.le_of_ble_eq_true rfl⟩) hD hS hA (fun r9 u9 H locs hw hp hd hs => ?_)
    clear hP hD hS
    obtain ⟨rfl, rfl⟩ := hw
    have hP := hp; have hD := hd; have hS := hs; clear hp hd hs
    cases h
    exact kz_iret hx hb hr hlocks hP hK hD hS dX9_undo_74 ⟨rfl, rfl⟩
  · rw [if_neg c9] at h
    refine lv_aload_n hx hb dX9_undo_10 rfl (lv_at hl 0 rfl) ?_
    refine lv_bipush (v := (-3)) hx hb dX9_undo_11 (by decide) ?_
    obtain ⟨r12, q14, h13, h⟩ := dB_some h
    refine dw_ki (va_runV (As := [.int (-3)]) (rest := []) ⟨hx, hb, hml, hown, hts⟩ (qX9_refuse_s0 l D ty eo _ ad q (-3) r12 q14 h13) (cwV 1 hts gX9_undo_X9_refuse rfl rfl rfl hd_X9_refuse_v ⟨Nat.le_of_ble_eq_true rfl, Nat.le_of_ble_eq_true rfl⟩) (pvF_9_0 hK hN hE hP hD hS hA) rfl rfl hl.1 rfl (lv_room (Nat.le_of_ble_eq_true rfl)) dX9_undo_13 ⟨Nat.le_of_ble_eq_true rfl, Nat.le_of_ble_eq_true rfl⟩) hD hS hA (fun r9 u9 H locs hw hp hd hs => ?_)
    clear hP hD hS
    obtain ⟨rfl, rfl⟩ := hw
    have hP := hp; have hD := hd; have hS := hs; clear hp hd hs
    cases h
    exact kz_iret hx hb hr hlocks hP hK hD hS dX9_undo_16 ⟨rfl, rfl⟩

set_option maxHeartbeats 4000000 in
set_option maxRecDepth 100000 in
theorem WX3_setDigits_s32_55 {p : Program} {l : Launch} {e : Env} {s : State} {m : MethodId} {args : Array Value} {below : List Frame} {meth : Method} {c : Code} {D : va_G} {ty : Nat → ClassId} {eo : Nat → Nat} {A : Nat → Prop} {ad : Nat → Nat} {o2 : dK} (C : dc_C p s m args meth c cX3_setDigits none 5 RX3 wsX3_setDigits D ty eo A) {k2 : dK → Int32 → Int32 → Option (dK)} {k25 : dK → Int32 → Int32 → Int32 → Int32 → Option (dK)} (hk2 : ∀ (q : dK) (x1 : Int32) (x2 : Int32) (H : Heap) (locs : List Loc) (ls : Array Slot), k2 q x1 x2 = some o2 → va_P D vwCl (wF ty ad q) H → va_D A (wF ty ad q) → va_S A s.heap H locs → lv_has ls 5 [(0, .ref (ad 32)), (1, .int x1), (2, .int x2)] → W p l e ({ frames := 1, cells := 0, slots := 0, locals := 20 } : Room) s m args below meth c H locs 0 0 (MQ below (va_Qv (fun (u : va_W) => wF ty ad o2 = u) (kz_B D ty A) A) args s 0 0 A) (F0 m 2 ls [])) (hk25 : ∀ (q : dK) (x1 : Int32) (x2 : Int32) (x3 : Int32) (x4 : Int32) (H : Heap) (locs : List Loc) (ls : Array Slot), k25 q x1 x2 x3 x4 = some o2 → va_P D vwCl (wF ty ad q) H → va_D A (wF ty ad q) → va_S A s.heap H locs → lv_has ls 5 [(0, .ref (ad 32)), (1, .int x1), (2, .int x2), (3, .int x3), (4, .int x4)] → W p l e ({ frames := 1, cells := 0, slots := 0, locals := 20 } : Room) s m args below meth c H locs 0 0 (MQ below (va_Qv (fun (u : va_W) => wF ty ad o2 = u) (kz_B D ty A) A) args s 0 0 A) (F0 m 25 ls [])) (q : dK) (x1 : Int32) (x2 : Int32) (x3 : Int32) (x4 : Int32) (y0 : Int32) (y1 : Int32) (y2 : Int32) (H : Heap) (locs : List Loc) (ls : Array Slot) (h : zX3_setDigits_s32_55 k2 k25 q x1 x2 x3 x4 y0 y1 y2 = some o2) (hP : va_P D vwCl (wF ty ad q) H) (hD : va_D A (wF ty ad q)) (hS : va_S A s.heap H locs) (hl : lv_has ls 5 [(0, .ref (ad 32)), (1, .int x1), (2, .int x2), (3, .int x3), (4, .int x4)]) : W p l e ({ frames := 1, cells := 0, slots := 0, locals := 20 } : Room) s m args below meth c H locs 0 0 (MQ below (va_Qv (fun (u : va_W) => wF ty ad o2 = u) (kz_B D ty A) A) args s 0 0 A) (F0 m 55 ls [.int y0, .int y1, .int y2, .ref (ad 34)]) := by
  have C0 := C
  obtain ⟨hx, hb, hr, hts, hown, hlocks, hml, hK, hN, hE, hA⟩ := C
  unfold zX3_setDigits_s32_55 at h
  obtain ⟨r1, h2, h⟩ := dV_some h
  refine dw_ks (va_runSN (As := [.int y0]) (rest := [.int y1, .int y2, .ref (ad 34)]) ⟨hx, hb, hml, hown, hts⟩ (qX9_bit l D ty eo _ y0 _ h2) ⟨va_cnB 1 hts gX3_setDigits_X9_bit_n133 rfl rfl rfl (hN.1 _ (by decide +kernel : (.methodLinkNest "TurnedFloors$Paper" 133 yX9_bit "TurnedFloors" : Cond) ∈ kzN1)) (hts (.initialized RX9) f9_wsX3_setDigits_714) (by decide +kernel) ⟨Nat.le_of_ble_eq_true rfl, Nat.le_of_ble_eq_true rfl⟩, hts (.static yX9_bit) (by decide +kernel), trivial⟩ (pvS_0 hK hN hE hP hD hS hA) rfl rfl hl.1 rfl (lv_room (Nat.le_of_ble_eq_true rfl)) dX3_setDigits_55 ⟨Nat.le_of_ble_eq_true rfl, Nat.le_of_ble_eq_true rfl⟩) hP hD hS hA (fun _ _ h9 => h9.2.symm) (fun r9 u9 H locs hw hp hd hs => ?_)
  obtain ⟨rfl, -⟩ := hw
  clear hP hD hS
  have hP := hp; have hD := hd; have hS := hs; clear hp hd hs
  refine lv_iadd hx hb dX3_setDigits_58 ?_
  obtain ⟨g3, h⟩ := dG_some h
  refine va_iast hx hb hK hP hD hS 34 0 rfl rfl (dg_in g3) dX3_setDigits_59 (fun H locs hp hd hs => ?_)
  obtain ⟨q4, eq4, h⟩ := dL_some h
  refine kz_re (w2 := wF ty ad q4) hp hd hs (by rw [← eq4]; exact wF_a34 ty ad q (Int32.toNatClampNeg y2) (y1 + r1)) ?_
  clear hp hd hs hP hD hS
  intro hP hD hS
  refine lv_iinc (v := x4 + 1) (lv' := [(4, .int (x4 + 1)), (0, .ref (ad 32)), (1, .int x1), (2, .int x2), (3, .int x3)]) hx hb dX3_setDigits_60 hl (k := 4) rfl rfl (by decide) rfl (fun ls hl => ?_)
  refine lv_goto (tgt := 25) hx hb dX3_setDigits_63 (by decide) ?_
  exact hk25 _ _ _ _ _ _ _ _ h hP hD hS (lv_sub hl [1, 2, 3, 4, 0] rfl)
set_option maxHeartbeats 4000000 in
set_option maxRecDepth 100000 in
theorem WX3_setDigits_s32_25b {p : Program} {l : Launch} {e : Env} {s : State} {m : MethodId} {args : Array Value} {below : List Frame} {meth : Method} {c : Code} {D : va_G} {ty : Nat → ClassId} {eo : Nat → Nat} {A : Nat → Prop} {ad : Nat → Nat} {o2 : dK} (C : dc_C p s m args meth c cX3_setDigits none 5 RX3 wsX3_setDigits D ty eo A) {k2 : dK → Int32 → Int32 → Option (dK)} {k25 : dK → Int32 → Int32 → Int32 → Int32 → Option (dK)} (hk2 : ∀ (q : dK) (x1 : Int32) (x2 : Int32) (H : Heap) (locs : List Loc) (ls : Array Slot), k2 q x1 x2 = some o2 → va_P D vwCl (wF ty ad q) H → va_D A (wF ty ad q) → va_S A s.heap H locs → lv_has ls 5 [(0, .ref (ad 32)), (1, .int x1), (2, .int x2)] → W p l e ({ frames := 1, cells := 0, slots := 0, locals := 20 } : Room) s m args below meth c H locs 0 0 (MQ below (va_Qv (fun (u : va_W) => wF ty ad o2 = u) (kz_B D ty A) A) args s 0 0 A) (F0 m 2 ls [])) (hk25 : ∀ (q : dK) (x1 : Int32) (x2 : Int32) (x3 : Int32) (x4 : Int32) (H : Heap) (locs : List Loc) (ls : Array Slot), k25 q x1 x2 x3 x4 = some o2 → va_P D vwCl (wF ty ad q) H → va_D A (wF ty ad q) → va_S A s.heap H locs → lv_has ls 5 [(0, .ref (ad 32)), (1, .int x1), (2, .int x2), (3, .int x3), (4, .int x4)] → W p l e ({ frames := 1, cells := 0, slots := 0, locals := 20 } : Room) s m args below meth c H locs 0 0 (MQ below (va_Qv (fun (u : va_W) => wF ty ad o2 = u) (kz_B D ty A) A) args s 0 0 A) (F0 m 25 ls [])) (q : dK) (x1 : Int32) (x2 : Int32) (x3 : Int32) (x4 : Int32) (H : Heap) (locs : List Loc) (ls : Array Slot) (h : zX3_setDigits_s32_25b k2 k25 q x1 x2 x3 x4 = some o2) (hP : va_P D vwCl (wF ty ad q) H) (hD : va_D A (wF ty ad q)) (hS : va_S A s.heap H locs) (hl : lv_has ls 5 [(0, .ref (ad 32)), (1, .int x1), (2, .int x2), (3, .int x3), (4, .int x4)]) : W p l e ({ frames := 1, cells := 0, slots := 0, locals := 20 } : Room) s m args below meth c H locs 0 0 (MQ below (va_Qv (fun (u : va_W) => wF ty ad o2 = u) (kz_B D ty A) A) args s 0 0 A) (F0 m 25 ls []) := by
  have C0 := C
  obtain ⟨hx, hb, hr, hts, hown, hlocks, hml, hK, hN, hE, hA⟩ := C
  unfold zX3_setDigits_s32_25b at h
  refine lv_iload hx hb dX3_setDigits_25 (lv_at hl 4 rfl) ?_
  refine lv_iload_n hx hb dX3_setDigits_27 rfl (lv_at hl 2 rfl) ?_
  refine lv_icmp_ge (tgt := 66) hx hb dX3_setDigits_28 (by decide) (fun c9 => ?_) (fun c9 => ?_)
  · rw [if_pos c9] at h
    refine lv_aload_n hx hb dX3_setDigits_66 rfl (lv_at hl 0 rfl) ?_
    refine va_get (D := D) (ci := 3) (v := .ref (ad 34)) (C := RX3) (T := TX3) (N := 20) hx hb hts u9_wsX3_setDigits_X3 hown hK hP 32 rfl rfl 1 (by decide) (hts (.fieldLink RX3 15 "TurnedFloors$Paper" "digits" "[I") f9_wsX3_setDigits_716) (fun _ h9 => h9) rfl dX3_setDigits_67 ?_
    refine lv_iload_n hx hb dX3_setDigits_70 rfl (lv_at hl 2 rfl) ?_
    refine lv_iload_n hx hb dX3_setDigits_71 rfl (lv_at hl 3 rfl) ?_
    obtain ⟨g1, h⟩ := dG_some h
    refine va_iast hx hb hK hP hD hS 34 0 rfl rfl (dg_in g1) dX3_setDigits_72 (fun H locs hp hd hs => ?_)
    obtain ⟨q2, eq2, h⟩ := dL_some h
    refine kz_re (w2 := wF ty ad q2) hp hd hs (by rw [← eq2]; exact wF_a34 ty ad q (Int32.toNatClampNeg x2) x3) ?_
    clear hp hd hs hP hD hS
    intro hP hD hS
    refine lv_iinc (v := x2 + 1) (lv' := [(2, .int (x2 + 1)), (0, .ref (ad 32)), (1, .int x1), (3, .int x3), (4, .int x4)]) hx hb dX3_setDigits_73 hl (k := 2) rfl rfl (by decide) rfl (fun ls hl => ?_)
    refine lv_goto (tgt := 2) hx hb dX3_setDigits_76 (by decide) ?_
    exact hk2 _ _ _ _ _ _ h hP hD hS (lv_sub hl [1, 2, 0] rfl)
  · rw [if_neg c9] at h
    refine lv_aload_n hx hb dX3_setDigits_31 rfl (lv_at hl 0 rfl) ?_
    refine va_get (D := D) (ci := 3) (v := .ref (ad 34)) (C := RX3) (T := TX3) (N := 20) hx hb hts u9_wsX3_setDigits_X3 hown hK hP 32 rfl rfl 1 (by decide) (hts (.fieldLink RX3 15 "TurnedFloors$Paper" "digits" "[I") f9_wsX3_setDigits_716) (fun _ h9 => h9) rfl dX3_setDigits_32 ?_
    refine lv_iload hx hb dX3_setDigits_35 (lv_at hl 4 rfl) ?_
    refine lv_dup2_11 hx hb dX3_setDigits_37 rfl rfl ?_
    obtain ⟨g3, h⟩ := dG_some h
    refine va_iald hx hb hK hP 34 0 rfl rfl (dg_in g3) dX3_setDigits_38 ?_
    obtain ⟨v4, ev4, h⟩ := dL_some h
    refine kz_topi v4 ev4 ?_
    refine lv_aload_n hx hb dX3_setDigits_39 rfl (lv_at hl 0 rfl) ?_
    refine va_get (D := D) (ci := 3) (v := .ref (ad 34)) (C := RX3) (T := TX3) (N := 20) hx hb hts u9_wsX3_setDigits_X3 hown hK hP 32 rfl rfl 1 (by decide) (hts (.fieldLink RX3 15 "TurnedFloors$Paper" "digits" "[I") f9_wsX3_setDigits_716) (fun _ h9 => h9) rfl dX3_setDigits_40 ?_
    refine lv_iload hx hb dX3_setDigits_43 (lv_at hl 4 rfl) ?_
    obtain ⟨g5, h⟩ := dG_some h
    refine va_iald hx hb hK hP 34 0 rfl rfl (dg_in g5) dX3_setDigits_45 ?_
    obtain ⟨v6, ev6, h⟩ := dL_some h
    refine kz_topi v6 ev6 ?_
    refine lv_iload_n hx hb dX3_setDigits_46 rfl (lv_at hl 3 rfl) ?_
    refine lv_icmp_lt (tgt := 54) hx hb dX3_setDigits_47 (by decide) (fun c9 => ?_) (fun c9 => ?_)
    · rw [if_pos c9] at h
      refine lv_iconst (v := 0) hx hb dX3_setDigits_54 (by decide) ?_
      exact WX3_setDigits_s32_55 C0 hk2 hk25 _ _ _ _ _ _ _ _ _ _ _ h hP hD hS (lv_sub hl [0, 1, 2, 3, 4] rfl)
    · rw [if_neg c9] at h
      refine lv_iconst (v := 1) hx hb dX3_setDigits_50 (by decide) ?_
      refine lv_goto (tgt := 55) hx hb dX3_setDigits_51 (by decide) ?_
      exact WX3_setDigits_s32_55 C0 hk2 hk25 _ _ _ _ _ _ _ _ _ _ _ h hP hD hS (lv_sub hl [0, 1, 2, 3, 4] rfl)
set_option maxHeartbeats 4000000 in
set_option maxRecDepth 100000 in
theorem WX3_setDigits_s32_25 {p : Program} {l : Launch} {e : Env} {s : State} {m : MethodId} {args : Array Value} {below : List Frame} {meth : Method} {c : Code} {D : va_G} {ty : Nat → ClassId} {eo : Nat → Nat} {A : Nat → Prop} {ad : Nat → Nat} {o2 : dK} (C : dc_C p s m args meth c cX3_setDigits none 5 RX3 wsX3_setDigits D ty eo A) {k2 : dK → Int32 → Int32 → Option (dK)} (hk2 : ∀ (q : dK) (x1 : Int32) (x2 : Int32) (H : Heap) (locs : List Loc) (ls : Array Slot), k2 q x1 x2 = some o2 → va_P D vwCl (wF ty ad q) H → va_D A (wF ty ad q) → va_S A s.heap H locs → lv_has ls 5 [(0, .ref (ad 32)), (1, .int x1), (2, .int x2)] → W p l e ({ frames := 1, cells := 0, slots := 0, locals := 20 } : Room) s m args below meth c H locs 0 0 (MQ below (va_Qv (fun (u : va_W) => wF ty ad o2 = u) (kz_B D ty A) A) args s 0 0 A) (F0 m 2 ls [])) (n : Nat) (q : dK) (x1 : Int32) (x2 : Int32) (x3 : Int32) (x4 : Int32) (H : Heap) (locs : List Loc) (ls : Array Slot) (h : zX3_setDigits_s32_25 k2 n q x1 x2 x3 x4 = some o2) (hP : va_P D vwCl (wF ty ad q) H) (hD : va_D A (wF ty ad q)) (hS : va_S A s.heap H locs) (hl : lv_has ls 5 [(0, .ref (ad 32)), (1, .int x1), (2, .int x2), (3, .int x3), (4, .int x4)]) : W p l e ({ frames := 1, cells := 0, slots := 0, locals := 20 } : Room) s m args below meth c H locs 0 0 (MQ below (va_Qv (fun (u : va_W) => wF ty ad o2 = u) (kz_B D ty A) A) args s 0 0 A) (F0 m 25 ls []) := by
  exact dFix_W (F := fun k (a : dK × Int32 × Int32 × Int32 × Int32) => zX3_setDigits_s32_25b k2 (fun q x1 x2 x3 x4 => k (q, x1, x2, x3, x4)) a.1 a.2.1 a.2.2.1 a.2.2.2.1 a.2.2.2.2) (o := o2) (P := fun (a : dK × Int32 × Int32 × Int32 × Int32) H locs ls => va_P D vwCl (wF ty ad a.1) H ∧ va_D A (wF ty ad a.1) ∧ va_S A s.heap H locs ∧ lv_has ls 5 [(0, .ref (ad 32)), (1, .int a.2.1), (2, .int a.2.2.1), (3, .int a.2.2.2.1), (4, .int a.2.2.2.2)]) (G := fun H locs ls => W p l e ({ frames := 1, cells := 0, slots := 0, locals := 20 } : Room) s m args below meth c H locs 0 0 (MQ below (va_Qv (fun (u : va_W) => wF ty ad o2 = u) (kz_B D ty A) A) args s 0 0 A) (F0 m 25 ls []))
    (fun k hk a H locs ls h hp => WX3_setDigits_s32_25b C hk2 (fun q x1 x2 x3 x4 H locs ls h h1 h2 h3 h4 => hk (q, x1, x2, x3, x4) H locs ls h ⟨h1, h2, h3, h4⟩) a.1 a.2.1 a.2.2.1 a.2.2.2.1 a.2.2.2.2 H locs ls h hp.1 hp.2.1 hp.2.2.1 hp.2.2.2) n (q, x1, x2, x3, x4) H locs ls h ⟨hP, hD, hS, hl⟩
set_option maxHeartbeats 4000000 in
set_option maxRecDepth 100000 in
theorem WX3_setDigits_s32_2b {p : Program} {l : Launch} {e : Env} {s : State} {m : MethodId} {args : Array Value} {below : List Frame} {meth : Method} {c : Code} {D : va_G} {ty : Nat → ClassId} {eo : Nat → Nat} {A : Nat → Prop} {ad : Nat → Nat} {o2 : dK} (C : dc_C p s m args meth c cX3_setDigits none 5 RX3 wsX3_setDigits D ty eo A) {k2 : dK → Int32 → Int32 → Option (dK)} (hk2 : ∀ (q : dK) (x1 : Int32) (x2 : Int32) (H : Heap) (locs : List Loc) (ls : Array Slot), k2 q x1 x2 = some o2 → va_P D vwCl (wF ty ad q) H → va_D A (wF ty ad q) → va_S A s.heap H locs → lv_has ls 5 [(0, .ref (ad 32)), (1, .int x1), (2, .int x2)] → W p l e ({ frames := 1, cells := 0, slots := 0, locals := 20 } : Room) s m args below meth c H locs 0 0 (MQ below (va_Qv (fun (u : va_W) => wF ty ad o2 = u) (kz_B D ty A) A) args s 0 0 A) (F0 m 2 ls [])) (q : dK) (x1 : Int32) (x2 : Int32) (H : Heap) (locs : List Loc) (ls : Array Slot) (h : zX3_setDigits_s32_2b k2 q x1 x2 = some o2) (hP : va_P D vwCl (wF ty ad q) H) (hD : va_D A (wF ty ad q)) (hS : va_S A s.heap H locs) (hl : lv_has ls 5 [(0, .ref (ad 32)), (1, .int x1), (2, .int x2)]) : W p l e ({ frames := 1, cells := 0, slots := 0, locals := 20 } : Room) s m args below meth c H locs 0 0 (MQ below (va_Qv (fun (u : va_W) => wF ty ad o2 = u) (kz_B D ty A) A) args s 0 0 A) (F0 m 2 ls []) := by
  have C0 := C
  obtain ⟨hx, hb, hr, hts, hown, hlocks, hml, hK, hN, hE, hA⟩ := C
  unfold zX3_setDigits_s32_2b at h
  refine lv_iload_n hx hb dX3_setDigits_2 rfl (lv_at hl 2 rfl) ?_
  refine lv_bipush (v := 6) hx hb dX3_setDigits_3 (by decide) ?_
  refine lv_icmp_ge (tgt := 79) hx hb dX3_setDigits_5 (by decide) (fun c9 => ?_) (fun c9 => ?_)
  · rw [if_pos c9] at h
    cases h
    exact kz_vret hx hb hr hlocks hP hK hD hS dX3_setDigits_79 rfl
  · rw [if_neg c9] at h
    refine lv_iload_n hx hb dX3_setDigits_8 rfl (lv_at hl 2 rfl) ?_
    refine lv_iload_n hx hb dX3_setDigits_9 rfl (lv_at hl 1 rfl) ?_
    refine va_gets hx hb hE.1 hS hown (hts (.fieldLink RX3 76 "TurnedFloors$Paper" "FACTORIALS" "[I") f9_wsX3_setDigits_717) (fun _ h9 => h9) dX3_setDigits_10 ?_
    refine lv_iload_n hx hb dX3_setDigits_13 rfl (lv_at hl 2 rfl) ?_
    obtain ⟨g1, h⟩ := dG_some h
    refine va_ti (v := .int (([1, 1, 2, 6, 24, 120, 720] : List Int32).getD (Int32.toNatClampNeg x2) 0)) hx hb hE.2.1 hS (dg_in g1) rfl dX3_setDigits_14 ?_
    obtain ⟨v2, ev2, h⟩ := dL_some h
    refine kz_topi v2 ev2 ?_
    obtain ⟨g3, h⟩ := dG_some h
    refine lv_idiv hx hb dX3_setDigits_15 (dnz_ne g3) ?_
    refine lv_iload_n hx hb dX3_setDigits_16 rfl (lv_at hl 2 rfl) ?_
    refine lv_iconst (v := 1) hx hb dX3_setDigits_17 (by decide) ?_
    refine lv_iadd hx hb dX3_setDigits_18 ?_
    obtain ⟨g4, h⟩ := dG_some h
    refine lv_irem hx hb dX3_setDigits_19 (dnz_ne g4) ?_
    refine lv_isub hx hb dX3_setDigits_20 ?_
    obtain ⟨v5, ev5, h⟩ := dL_some h
    refine kz_topi v5 ev5 ?_
    refine lv_istore_n (lv' := [(3, .int v5), (0, .ref (ad 32)), (1, .int x1), (2, .int x2)]) hx hb dX3_setDigits_21 rfl hl (by decide) rfl (fun ls hl => ?_)
    refine lv_iconst (v := 0) hx hb dX3_setDigits_22 (by decide) ?_
    refine lv_istore (lv' := [(4, .int 0), (3, .int v5), (0, .ref (ad 32)), (1, .int x1), (2, .int x2)]) hx hb dX3_setDigits_23 hl (by decide) rfl (fun ls hl => ?_)
    exact WX3_setDigits_s32_25 C0 hk2 _ _ _ _ _ _ _ _ _ h hP hD hS (lv_sub hl [2, 3, 4, 1, 0] rfl)
set_option maxHeartbeats 4000000 in
set_option maxRecDepth 100000 in
theorem WX3_setDigits_s32_2 {p : Program} {l : Launch} {e : Env} {s : State} {m : MethodId} {args : Array Value} {below : List Frame} {meth : Method} {c : Code} {D : va_G} {ty : Nat → ClassId} {eo : Nat → Nat} {A : Nat → Prop} {ad : Nat → Nat} {o2 : dK} (C : dc_C p s m args meth c cX3_setDigits none 5 RX3 wsX3_setDigits D ty eo A)   (n : Nat) (q : dK) (x1 : Int32) (x2 : Int32) (H : Heap) (locs : List Loc) (ls : Array Slot) (h : zX3_setDigits_s32_2  n q x1 x2 = some o2) (hP : va_P D vwCl (wF ty ad q) H) (hD : va_D A (wF ty ad q)) (hS : va_S A s.heap H locs) (hl : lv_has ls 5 [(0, .ref (ad 32)), (1, .int x1), (2, .int x2)]) : W p l e ({ frames := 1, cells := 0, slots := 0, locals := 20 } : Room) s m args below meth c H locs 0 0 (MQ below (va_Qv (fun (u : va_W) => wF ty ad o2 = u) (kz_B D ty A) A) args s 0 0 A) (F0 m 2 ls []) := by
  exact dFix_W (F := fun k (a : dK × Int32 × Int32) => zX3_setDigits_s32_2b  (fun q x1 x2 => k (q, x1, x2)) a.1 a.2.1 a.2.2) (o := o2) (P := fun (a : dK × Int32 × Int32) H locs ls => va_P D vwCl (wF ty ad a.1) H ∧ va_D A (wF ty ad a.1) ∧ va_S A s.heap H locs ∧ lv_has ls 5 [(0, .ref (ad 32)), (1, .int a.2.1), (2, .int a.2.2)]) (G := fun H locs ls => W p l e ({ frames := 1, cells := 0, slots := 0, locals := 20 } : Room) s m args below meth c H locs 0 0 (MQ below (va_Qv (fun (u : va_W) => wF ty ad o2 = u) (kz_B D ty A) A) args s 0 0 A) (F0 m 2 ls []))
    (fun k hk a H locs ls h hp => WX3_setDigits_s32_2b C  (fun q x1 x2 H locs ls h h1 h2 h3 h4 => hk (q, x1, x2) H locs ls h ⟨h1, h2, h3, h4⟩) a.1 a.2.1 a.2.2 H locs ls h hp.1 hp.2.1 hp.2.2.1 hp.2.2.2) n (q, x1, x2) H locs ls h ⟨hP, hD, hS, hl⟩
set_option maxHeartbeats 4000000 in
set_option maxRecDepth 100000 in
theorem qX3_setDigits_s32 (l : Launch) (D : va_G) (ty : Nat → ClassId) (eo : Nat → Nat) (sz : Nat) (ad : Nat → Nat) (q : dK) (p1 : Int32) (o2 : dK) (h : zX3_setDigits_s32 q p1 = some o2) : Met l yX3_setDigits wsX3_setDigits ({ frames := 1, cells := 0, slots := 0, locals := 20 } : Room) (va_Pc [.ref (ad 32), .int p1] (kz_pre D ty eo (wF ty ad q) sz)) (va_Qv (fun (u : va_W) => wF ty ad o2 = u) (kz_B D ty (va_A (wF ty ad q) sz)) (va_A (wF ty ad q) sz)) 0 0 (va_A (wF ty ad q) sz) := by
  refine Met.ofW (cc := cX3_setDigits) (maxL := 5) (ret := none) (by decide) rfl ?_
  intro p e s m args below meth c s₁ B hml hv
  obtain ⟨rfl, hsz, hP, hK, hD0, hN, hE⟩ := hv
  have hx := B.exec
  have hb := B.bytes
  have hr := B.returns
  have hts := atoms_spec (ws := wsX3_setDigits) B.pre
  have hown : s.vm.findClass RX3 = some m.cls := findClass_of_methodNamed B.named
  have hlocks := B.notSynchronized
  subst hsz
  have hD := hD0.self (sz := s.heap.size)
  generalize hAe : va_A (wF ty ad q) s.heap.size = A at hD hE ⊢
  have hA : ∀ q : Nat, s.heap.size ≤ q → A q := fun q h => by rw [← hAe]; exact Or.inr h
  clear hAe
  have hS : va_S A s.heap s.heap [] := va_S.rf
  have hl := lv_entry ([.ref (ad 32), .int p1]) (n := 5) (Nat.le_of_ble_eq_true rfl)
  rw [lg_entry_eq]
  generalize (lg_sl ([.ref (ad 32), .int p1]) ++ List.replicate (5 - (lg_sl ([.ref (ad 32), .int p1])).length) Slot.unset).toArray = ls at hl ⊢
  have hl : lv_has ls 5 [(0, .ref (ad 32)), (1, .int p1)] := hl
  have C : dc_C p s m _ meth c cX3_setDigits none 5 RX3 wsX3_setDigits D ty eo A := ⟨hx, hb, hr, hts, hown, hlocks, hml, hK, hN, hE, hA⟩
  unfold zX3_setDigits_s32 at h
  refine lv_iconst (v := 0) hx hb dX3_setDigits_0 (by decide) ?_
  refine lv_istore_n (lv' := [(2, .int 0), (0, .ref (ad 32)), (1, .int p1)]) hx hb dX3_setDigits_1 rfl hl (by decide) rfl (fun ls hl => ?_)
  exact WX3_setDigits_s32_2 C  _ _ _ _ _ _ _ h hP hD hS (lv_sub hl [1, 2, 0] rfl)

set_option maxHeartbeats 4000000 in
set_option maxRecDepth 100000 in
theorem WX3_numberOfOrder_s32_43 {p : Program} {l : Launch} {e : Env} {s : State} {m : MethodId} {args : Array Value} {below : List Frame} {meth : Method} {c : Code} {D : va_G} {ty : Nat → ClassId} {eo : Nat → Nat} {A : Nat → Prop} {ad : Nat → Nat} {o1 : Int32} {o2 : dK} (C : dc_C p s m args meth c cX3_numberOfOrder (some .int) 5 RX3 wsX3_numberOfOrder D ty eo A) {k4 : dK → Int32 → Int32 → Option (Int32 × dK)} {k15 : dK → Int32 → Int32 → Int32 → Int32 → Option (Int32 × dK)} (hk4 : ∀ (q : dK) (x1 : Int32) (x2 : Int32) (H : Heap) (locs : List Loc) (ls : Array Slot), k4 q x1 x2 = some (o1, o2) → va_P D vwCl (wF ty ad q) H → va_D A (wF ty ad q) → va_S A s.heap H locs → lv_has ls 5 [(0, .ref (ad 32)), (1, .int x1), (2, .int x2)] → W p l e ({ frames := 1, cells := 0, slots := 0, locals := 20 } : Room) s m args below meth c H locs 0 0 (MQ below (va_Qi (fun (r : Int32) (u : va_W) => o1 = r ∧ wF ty ad o2 = u) (kz_B D ty A) A) args s 0 0 A) (F0 m 4 ls [])) (hk15 : ∀ (q : dK) (x1 : Int32) (x2 : Int32) (x3 : Int32) (x4 : Int32) (H : Heap) (locs : List Loc) (ls : Array Slot), k15 q x1 x2 x3 x4 = some (o1, o2) → va_P D vwCl (wF ty ad q) H → va_D A (wF ty ad q) → va_S A s.heap H locs → lv_has ls 5 [(0, .ref (ad 32)), (1, .int x1), (2, .int x2), (3, .int x3), (4, .int x4)] → W p l e ({ frames := 1, cells := 0, slots := 0, locals := 20 } : Room) s m args below meth c H locs 0 0 (MQ below (va_Qi (fun (r : Int32) (u : va_W) => o1 = r ∧ wF ty ad o2 = u) (kz_B D ty A) A) args s 0 0 A) (F0 m 15 ls [])) (q : dK) (x1 : Int32) (x2 : Int32) (x4 : Int32) (y0 : Int32) (y1 : Int32) (H : Heap) (locs : List Loc) (ls : Array Slot) (h : zX3_numberOfOrder_s32_43 k4 k15 q x1 x2 x4 y0 y1 = some (o1, o2)) (hP : va_P D vwCl (wF ty ad q) H) (hD : va_D A (wF ty ad q)) (hS : va_S A s.heap H locs) (hl : lv_has ls 5 [(0, .ref (ad 32)), (1, .int x1), (2, .int x2), (4, .int x4)]) : W p l e ({ frames := 1, cells := 0, slots := 0, locals := 20 } : Room) s m args below meth c H locs 0 0 (MQ below (va_Qi (fun (r : Int32) (u : va_W) => o1 = r ∧ wF ty ad o2 = u) (kz_B D ty A) A) args s 0 0 A) (F0 m 43 ls [.int y0, .int y1]) := by
  have C0 := C
  obtain ⟨hx, hb, hr, hts, hown, hlocks, hml, hK, hN, hE, hA⟩ := C
  unfold zX3_numberOfOrder_s32_43 at h
  obtain ⟨r1, h2, h⟩ := dV_some h
  refine dw_ks (va_runSN (As := [.int y0]) (rest := [.int y1]) ⟨hx, hb, hml, hown, hts⟩ (qX9_bit l D ty eo _ y0 _ h2) ⟨va_cnB 1 hts gX3_numberOfOrder_X9_bit_n133 rfl rfl rfl (hN.1 _ (by decide +kernel : (.methodLinkNest "TurnedFloors$Paper" 133 yX9_bit "TurnedFloors" : Cond) ∈ kzN1)) (hts (.initialized RX9) f9_wsX3_numberOfOrder_718) (by decide +kernel) ⟨Nat.le_of_ble_eq_true rfl, Nat.le_of_ble_eq_true rfl⟩, hts (.static yX9_bit) (by decide +kernel), trivial⟩ (pvS_0 hK hN hE hP hD hS hA) rfl rfl hl.1 rfl (lv_room (Nat.le_of_ble_eq_true rfl)) dX3_numberOfOrder_43 ⟨Nat.le_of_ble_eq_true rfl, Nat.le_of_ble_eq_true rfl⟩) hP hD hS hA (fun _ _ h9 => h9.2.symm) (fun r9 u9 H locs hw hp hd hs => ?_)
  obtain ⟨rfl, -⟩ := hw
  clear hP hD hS
  have hP := hp; have hD := hd; have hS := hs; clear hp hd hs
  refine lv_iadd hx hb dX3_numberOfOrder_46 ?_
  refine lv_istore_n (lv' := [(3, .int (y1 + r1)), (0, .ref (ad 32)), (1, .int x1), (2, .int x2), (4, .int x4)]) hx hb dX3_numberOfOrder_47 rfl hl (by decide) rfl (fun ls hl => ?_)
  refine lv_iinc (v := x4 + 1) (lv' := [(4, .int (x4 + 1)), (3, .int (y1 + r1)), (0, .ref (ad 32)), (1, .int x1), (2, .int x2)]) hx hb dX3_numberOfOrder_48 hl (k := 4) rfl rfl (by decide) rfl (fun ls hl => ?_)
  refine lv_goto (tgt := 15) hx hb dX3_numberOfOrder_51 (by decide) ?_
  exact hk15 _ _ _ _ _ _ _ _ h hP hD hS (lv_sub hl [2, 3, 4, 1, 0] rfl)
set_option maxHeartbeats 4000000 in
set_option maxRecDepth 100000 in
theorem WX3_numberOfOrder_s32_15b {p : Program} {l : Launch} {e : Env} {s : State} {m : MethodId} {args : Array Value} {below : List Frame} {meth : Method} {c : Code} {D : va_G} {ty : Nat → ClassId} {eo : Nat → Nat} {A : Nat → Prop} {ad : Nat → Nat} {o1 : Int32} {o2 : dK} (C : dc_C p s m args meth c cX3_numberOfOrder (some .int) 5 RX3 wsX3_numberOfOrder D ty eo A) {k4 : dK → Int32 → Int32 → Option (Int32 × dK)} {k15 : dK → Int32 → Int32 → Int32 → Int32 → Option (Int32 × dK)} (hk4 : ∀ (q : dK) (x1 : Int32) (x2 : Int32) (H : Heap) (locs : List Loc) (ls : Array Slot), k4 q x1 x2 = some (o1, o2) → va_P D vwCl (wF ty ad q) H → va_D A (wF ty ad q) → va_S A s.heap H locs → lv_has ls 5 [(0, .ref (ad 32)), (1, .int x1), (2, .int x2)] → W p l e ({ frames := 1, cells := 0, slots := 0, locals := 20 } : Room) s m args below meth c H locs 0 0 (MQ below (va_Qi (fun (r : Int32) (u : va_W) => o1 = r ∧ wF ty ad o2 = u) (kz_B D ty A) A) args s 0 0 A) (F0 m 4 ls [])) (hk15 : ∀ (q : dK) (x1 : Int32) (x2 : Int32) (x3 : Int32) (x4 : Int32) (H : Heap) (locs : List Loc) (ls : Array Slot), k15 q x1 x2 x3 x4 = some (o1, o2) → va_P D vwCl (wF ty ad q) H → va_D A (wF ty ad q) → va_S A s.heap H locs → lv_has ls 5 [(0, .ref (ad 32)), (1, .int x1), (2, .int x2), (3, .int x3), (4, .int x4)] → W p l e ({ frames := 1, cells := 0, slots := 0, locals := 20 } : Room) s m args below meth c H locs 0 0 (MQ below (va_Qi (fun (r : Int32) (u : va_W) => o1 = r ∧ wF ty ad o2 = u) (kz_B D ty A) A) args s 0 0 A) (F0 m 15 ls [])) (q : dK) (x1 : Int32) (x2 : Int32) (x3 : Int32) (x4 : Int32) (H : Heap) (locs : List Loc) (ls : Array Slot) (h : zX3_numberOfOrder_s32_15b k4 k15 q x1 x2 x3 x4 = some (o1, o2)) (hP : va_P D vwCl (wF ty ad q) H) (hD : va_D A (wF ty ad q)) (hS : va_S A s.heap H locs) (hl : lv_has ls 5 [(0, .ref (ad 32)), (1, .int x1), (2, .int x2), (3, .int x3), (4, .int x4)]) : W p l e ({ frames := 1, cells := 0, slots := 0, locals := 20 } : Room) s m args below meth c H locs 0 0 (MQ below (va_Qi (fun (r : Int32) (u : va_W) => o1 = r ∧ wF ty ad o2 = u) (kz_B D ty A) A) args s 0 0 A) (F0 m 15 ls []) := by
  have C0 := C
  obtain ⟨hx, hb, hr, hts, hown, hlocks, hml, hK, hN, hE, hA⟩ := C
  unfold zX3_numberOfOrder_s32_15b at h
  refine lv_iload hx hb dX3_numberOfOrder_15 (lv_at hl 4 rfl) ?_
  refine lv_iload_n hx hb dX3_numberOfOrder_17 rfl (lv_at hl 2 rfl) ?_
  refine lv_icmp_ge (tgt := 54) hx hb dX3_numberOfOrder_18 (by decide) (fun c9 => ?_) (fun c9 => ?_)
  · rw [if_pos c9] at h
    refine lv_iload_n hx hb dX3_numberOfOrder_54 rfl (lv_at hl 1 rfl) ?_
    refine lv_iload_n hx hb dX3_numberOfOrder_55 rfl (lv_at hl 3 rfl) ?_
    refine va_gets hx hb hE.1 hS hown (hts (.fieldLink RX3 76 "TurnedFloors$Paper" "FACTORIALS" "[I") f9_wsX3_numberOfOrder_720) (fun _ h9 => h9) dX3_numberOfOrder_56 ?_
    refine lv_iload_n hx hb dX3_numberOfOrder_59 rfl (lv_at hl 2 rfl) ?_
    obtain ⟨g1, h⟩ := dG_some h
    refine va_ti (v := .int (([1, 1, 2, 6, 24, 120, 720] : List Int32).getD (Int32.toNatClampNeg x2) 0)) hx hb hE.2.1 hS (dg_in g1) rfl dX3_numberOfOrder_60 ?_
    obtain ⟨v2, ev2, h⟩ := dL_some h
    refine kz_topi v2 ev2 ?_
    refine lv_imul hx hb dX3_numberOfOrder_61 ?_
    refine lv_iadd hx hb dX3_numberOfOrder_62 ?_
    refine lv_istore_n (lv' := [(1, .int (x1 + (x3 * v2))), (0, .ref (ad 32)), (2, .int x2), (3, .int x3), (4, .int x4)]) hx hb dX3_numberOfOrder_63 rfl hl (by decide) rfl (fun ls hl => ?_)
    refine lv_iinc (v := x2 + 1) (lv' := [(2, .int (x2 + 1)), (1, .int (x1 + (x3 * v2))), (0, .ref (ad 32)), (3, .int x3), (4, .int x4)]) hx hb dX3_numberOfOrder_64 hl (k := 2) rfl rfl (by decide) rfl (fun ls hl => ?_)
    refine lv_goto (tgt := 4) hx hb dX3_numberOfOrder_67 (by decide) ?_
    exact hk4 _ _ _ _ _ _ h hP hD hS (lv_sub hl [2, 1, 0] rfl)
  · rw [if_neg c9] at h
    refine lv_iload_n hx hb dX3_numberOfOrder_21 rfl (lv_at hl 3 rfl) ?_
    refine lv_aload_n hx hb dX3_numberOfOrder_22 rfl (lv_at hl 0 rfl) ?_
    refine va_get (D := D) (ci := 3) (v := .ref (ad 34)) (C := RX3) (T := TX3) (N := 20) hx hb hts u9_wsX3_numberOfOrder_X3 hown hK hP 32 rfl rfl 1 (by decide) (hts (.fieldLink RX3 15 "TurnedFloors$Paper" "digits" "[I") f9_wsX3_numberOfOrder_721) (fun _ h9 => h9) rfl dX3_numberOfOrder_23 ?_
    refine lv_iload hx hb dX3_numberOfOrder_26 (lv_at hl 4 rfl) ?_
    obtain ⟨g3, h⟩ := dG_some h
    refine va_iald hx hb hK hP 34 0 rfl rfl (dg_in g3) dX3_numberOfOrder_28 ?_
    obtain ⟨v4, ev4, h⟩ := dL_some h
    refine kz_topi v4 ev4 ?_
    refine lv_aload_n hx hb dX3_numberOfOrder_29 rfl (lv_at hl 0 rfl) ?_
    refine va_get (D := D) (ci := 3) (v := .ref (ad 34)) (C := RX3) (T := TX3) (N := 20) hx hb hts u9_wsX3_numberOfOrder_X3 hown hK hP 32 rfl rfl 1 (by decide) (hts (.fieldLink RX3 15 "TurnedFloors$Paper" "digits" "[I") f9_wsX3_numberOfOrder_721) (fun _ h9 => h9) rfl dX3_numberOfOrder_30 ?_
    refine lv_iload_n hx hb dX3_numberOfOrder_33 rfl (lv_at hl 2 rfl) ?_
    obtain ⟨g5, h⟩ := dG_some h
    refine va_iald hx hb hK hP 34 0 rfl rfl (dg_in g5) dX3_numberOfOrder_34 ?_
    obtain ⟨v6, ev6, h⟩ := dL_some h
    refine kz_topi v6 ev6 ?_
    refine lv_icmp_le (tgt := 42) hx hb dX3_numberOfOrder_35 (by decide) (fun c9 => ?_) (fun c9 => ?_)
    · rw [if_pos c9] at h
      refine lv_iconst (v := 0) hx hb dX3_numberOfOrder_42 (by decide) ?_
      exact WX3_numberOfOrder_s32_43 C0 hk4 hk15 _ _ _ _ _ _ _ _ _ h hP hD hS (lv_sub hl [0, 1, 2, 4] rfl)
    · rw [if_neg c9] at h
      refine lv_iconst (v := 1) hx hb dX3_numberOfOrder_38 (by decide) ?_
      refine lv_goto (tgt := 43) hx hb dX3_numberOfOrder_39 (by decide) ?_
      exact WX3_numberOfOrder_s32_43 C0 hk4 hk15 _ _ _ _ _ _ _ _ _ h hP hD hS (lv_sub hl [0, 1, 2, 4] rfl)
set_option maxHeartbeats 4000000 in
set_option maxRecDepth 100000 in
theorem WX3_numberOfOrder_s32_15 {p : Program} {l : Launch} {e : Env} {s : State} {m : MethodId} {args : Array Value} {below : List Frame} {meth : Method} {c : Code} {D : va_G} {ty : Nat → ClassId} {eo : Nat → Nat} {A : Nat → Prop} {ad : Nat → Nat} {o1 : Int32} {o2 : dK} (C : dc_C p s m args meth c cX3_numberOfOrder (some .int) 5 RX3 wsX3_numberOfOrder D ty eo A) {k4 : dK → Int32 → Int32 → Option (Int32 × dK)} (hk4 : ∀ (q : dK) (x1 : Int32) (x2 : Int32) (H : Heap) (locs : List Loc) (ls : Array Slot), k4 q x1 x2 = some (o1, o2) → va_P D vwCl (wF ty ad q) H → va_D A (wF ty ad q) → va_S A s.heap H locs → lv_has ls 5 [(0, .ref (ad 32)), (1, .int x1), (2, .int x2)] → W p l e ({ frames := 1, cells := 0, slots := 0, locals := 20 } : Room) s m args below meth c H locs 0 0 (MQ below (va_Qi (fun (r : Int32) (u : va_W) => o1 = r ∧ wF ty ad o2 = u) (kz_B D ty A) A) args s 0 0 A) (F0 m 4 ls [])) (n : Nat) (q : dK) (x1 : Int32) (x2 : Int32) (x3 : Int32) (x4 : Int32) (H : Heap) (locs : List Loc) (ls : Array Slot) (h : zX3_numberOfOrder_s32_15 k4 n q x1 x2 x3 x4 = some (o1, o2)) (hP : va_P D vwCl (wF ty ad q) H) (hD : va_D A (wF ty ad q)) (hS : va_S A s.heap H locs) (hl : lv_has ls 5 [(0, .ref (ad 32)), (1, .int x1), (2, .int x2), (3, .int x3), (4, .int x4)]) : W p l e ({ frames := 1, cells := 0, slots := 0, locals := 20 } : Room) s m args below meth c H locs 0 0 (MQ below (va_Qi (fun (r : Int32) (u : va_W) => o1 = r ∧ wF ty ad o2 = u) (kz_B D ty A) A) args s 0 0 A) (F0 m 15 ls []) := by
  exact dFix_W (F := fun k (a : dK × Int32 × Int32 × Int32 × Int32) => zX3_numberOfOrder_s32_15b k4 (fun q x1 x2 x3 x4 => k (q, x1, x2, x3, x4)) a.1 a.2.1 a.2.2.1 a.2.2.2.1 a.2.2.2.2) (o := (o1, o2)) (P := fun (a : dK × Int32 × Int32 × Int32 × Int32) H locs ls => va_P D vwCl (wF ty ad a.1) H ∧ va_D A (wF ty ad a.1) ∧ va_S A s.heap H locs ∧ lv_has ls 5 [(0, .ref (ad 32)), (1, .int a.2.1), (2, .int a.2.2.1), (3, .int a.2.2.2.1), (4, .int a.2.2.2.2)]) (G := fun H locs ls => W p l e ({ frames := 1, cells := 0, slots := 0, locals := 20 } : Room) s m args below meth c H locs 0 0 (MQ below (va_Qi (fun (r : Int32) (u : va_W) => o1 = r ∧ wF ty ad o2 = u) (kz_B D ty A) A) args s 0 0 A) (F0 m 15 ls []))
    (fun k hk a H locs ls h hp => WX3_numberOfOrder_s32_15b C hk4 (fun q x1 x2 x3 x4 H locs ls h h1 h2 h3 h4 => hk (q, x1, x2, x3, x4) H locs ls h ⟨h1, h2, h3, h4⟩) a.1 a.2.1 a.2.2.1 a.2.2.2.1 a.2.2.2.2 H locs ls h hp.1 hp.2.1 hp.2.2.1 hp.2.2.2) n (q, x1, x2, x3, x4) H locs ls h ⟨hP, hD, hS, hl⟩
set_option maxHeartbeats 4000000 in
set_option maxRecDepth 100000 in
theorem WX3_numberOfOrder_s32_4b {p : Program} {l : Launch} {e : Env} {s : State} {m : MethodId} {args : Array Value} {below : List Frame} {meth : Method} {c : Code} {D : va_G} {ty : Nat → ClassId} {eo : Nat → Nat} {A : Nat → Prop} {ad : Nat → Nat} {o1 : Int32} {o2 : dK} (C : dc_C p s m args meth c cX3_numberOfOrder (some .int) 5 RX3 wsX3_numberOfOrder D ty eo A) {k4 : dK → Int32 → Int32 → Option (Int32 × dK)} (hk4 : ∀ (q : dK) (x1 : Int32) (x2 : Int32) (H : Heap) (locs : List Loc) (ls : Array Slot), k4 q x1 x2 = some (o1, o2) → va_P D vwCl (wF ty ad q) H → va_D A (wF ty ad q) → va_S A s.heap H locs → lv_has ls 5 [(0, .ref (ad 32)), (1, .int x1), (2, .int x2)] → W p l e ({ frames := 1, cells := 0, slots := 0, locals := 20 } : Room) s m args below meth c H locs 0 0 (MQ below (va_Qi (fun (r : Int32) (u : va_W) => o1 = r ∧ wF ty ad o2 = u) (kz_B D ty A) A) args s 0 0 A) (F0 m 4 ls [])) (q : dK) (x1 : Int32) (x2 : Int32) (H : Heap) (locs : List Loc) (ls : Array Slot) (h : zX3_numberOfOrder_s32_4b k4 q x1 x2 = some (o1, o2)) (hP : va_P D vwCl (wF ty ad q) H) (hD : va_D A (wF ty ad q)) (hS : va_S A s.heap H locs) (hl : lv_has ls 5 [(0, .ref (ad 32)), (1, .int x1), (2, .int x2)]) : W p l e ({ frames := 1, cells := 0, slots := 0, locals := 20 } : Room) s m args below meth c H locs 0 0 (MQ below (va_Qi (fun (r : Int32) (u : va_W) => o1 = r ∧ wF ty ad o2 = u) (kz_B D ty A) A) args s 0 0 A) (F0 m 4 ls []) := by
  have C0 := C
  obtain ⟨hx, hb, hr, hts, hown, hlocks, hml, hK, hN, hE, hA⟩ := C
  unfold zX3_numberOfOrder_s32_4b at h
  refine lv_iload_n hx hb dX3_numberOfOrder_4 rfl (lv_at hl 2 rfl) ?_
  refine lv_bipush (v := 6) hx hb dX3_numberOfOrder_5 (by decide) ?_
  refine lv_icmp_ge (tgt := 70) hx hb dX3_numberOfOrder_7 (by decide) (fun c9 => ?_) (fun c9 => ?_)
  · rw [if_pos c9] at h
    refine lv_iload_n hx hb dX3_numberOfOrder_70 rfl (lv_at hl 1 rfl) ?_
    cases h
    exact kz_iret hx hb hr hlocks hP hK hD hS dX3_numberOfOrder_71 ⟨rfl, rfl⟩
  · rw [if_neg c9] at h
    refine lv_iconst (v := 0) hx hb dX3_numberOfOrder_10 (by decide) ?_
    refine lv_istore_n (lv' := [(3, .int 0), (0, .ref (ad 32)), (1, .int x1), (2, .int x2)]) hx hb dX3_numberOfOrder_11 rfl hl (by decide) rfl (fun ls hl => ?_)
    refine lv_iconst (v := 0) hx hb dX3_numberOfOrder_12 (by decide) ?_
    refine lv_istore (lv' := [(4, .int 0), (3, .int 0), (0, .ref (ad 32)), (1, .int x1), (2, .int x2)]) hx hb dX3_numberOfOrder_13 hl (by decide) rfl (fun ls hl => ?_)
    exact WX3_numberOfOrder_s32_15 C0 hk4 _ _ _ _ _ _ _ _ _ h hP hD hS (lv_sub hl [2, 3, 4, 1, 0] rfl)
set_option maxHeartbeats 4000000 in
set_option maxRecDepth 100000 in
theorem WX3_numberOfOrder_s32_4 {p : Program} {l : Launch} {e : Env} {s : State} {m : MethodId} {args : Array Value} {below : List Frame} {meth : Method} {c : Code} {D : va_G} {ty : Nat → ClassId} {eo : Nat → Nat} {A : Nat → Prop} {ad : Nat → Nat} {o1 : Int32} {o2 : dK} (C : dc_C p s m args meth c cX3_numberOfOrder (some .int) 5 RX3 wsX3_numberOfOrder D ty eo A)   (n : Nat) (q : dK) (x1 : Int32) (x2 : Int32) (H : Heap) (locs : List Loc) (ls : Array Slot) (h : zX3_numberOfOrder_s32_4  n q x1 x2 = some (o1, o2)) (hP : va_P D vwCl (wF ty ad q) H) (hD : va_D A (wF ty ad q)) (hS : va_S A s.heap H locs) (hl : lv_has ls 5 [(0, .ref (ad 32)), (1, .int x1), (2, .int x2)]) : W p l e ({ frames := 1, cells := 0, slots := 0, locals := 20 } : Room) s m args below meth c H locs 0 0 (MQ below (va_Qi (fun (r : Int32) (u : va_W) => o1 = r ∧ wF ty ad o2 = u) (kz_B D ty A) A) args s 0 0 A) (F0 m 4 ls []) := by
  exact dFix_W (F := fun k (a : dK × Int32 × Int32) => zX3_numberOfOrder_s32_4b  (fun q x1 x2 => k (q, x1, x2)) a.1 a.2.1 a.2.2) (o := (o1, o2)) (P := fun (a : dK × Int32 × Int32) H locs ls => va_P D vwCl (wF ty ad a.1) H ∧ va_D A (wF ty ad a.1) ∧ va_S A s.heap H locs ∧ lv_has ls 5 [(0, .ref (ad 32)), (1, .int a.2.1), (2, .int a.2.2)]) (G := fun H locs ls => W p l e ({ frames := 1, cells := 0, slots := 0, locals := 20 } : Room) s m args below meth c H locs 0 0 (MQ below (va_Qi (fun (r : Int32) (u : va_W) => o1 = r ∧ wF ty ad o2 = u) (kz_B D ty A) A) args s 0 0 A) (F0 m 4 ls []))
    (fun k hk a H locs ls h hp => WX3_numberOfOrder_s32_4b C  (fun q x1 x2 H locs ls h h1 h2 h3 h4 => hk (q, x1, x2) H locs ls h ⟨h1, h2, h3, h4⟩) a.1 a.2.1 a.2.2 H locs ls h hp.1 hp.2.1 hp.2.2.1 hp.2.2.2) n (q, x1, x2) H locs ls h ⟨hP, hD, hS, hl⟩
set_option maxHeartbeats 4000000 in
set_option maxRecDepth 100000 in
theorem qX3_numberOfOrder_s32 (l : Launch) (D : va_G) (ty : Nat → ClassId) (eo : Nat → Nat) (sz : Nat) (ad : Nat → Nat) (q : dK)  (o1 : Int32) (o2 : dK) (h : zX3_numberOfOrder_s32 q = some (o1, o2)) : Met l yX3_numberOfOrder wsX3_numberOfOrder ({ frames := 1, cells := 0, slots := 0, locals := 20 } : Room) (va_Pc [.ref (ad 32)] (kz_pre D ty eo (wF ty ad q) sz)) (va_Qi (fun (r : Int32) (u : va_W) => o1 = r ∧ wF ty ad o2 = u) (kz_B D ty (va_A (wF ty ad q) sz)) (va_A (wF ty ad q) sz)) 0 0 (va_A (wF ty ad q) sz) := by
  refine Met.ofW (cc := cX3_numberOfOrder) (maxL := 5) (ret := (some .int)) (by decide) rfl ?_
  intro p e s m args below meth c s₁ B hml hv
  obtain ⟨rfl, hsz, hP, hK, hD0, hN, hE⟩ := hv
  have hx := B.exec
  have hb := B.bytes
  have hr := B.returns
  have hts := atoms_spec (ws := wsX3_numberOfOrder) B.pre
  have hown : s.vm.findClass RX3 = some m.cls := findClass_of_methodNamed B.named
  have hlocks := B.notSynchronized
  subst hsz
  have hD := hD0.self (sz := s.heap.size)
  generalize hAe : va_A (wF ty ad q) s.heap.size = A at hD hE ⊢
  have hA : ∀ q : Nat, s.heap.size ≤ q → A q := fun q h => by rw [← hAe]; exact Or.inr h
  clear hAe
  have hS : va_S A s.heap s.heap [] := va_S.rf
  have hl := lv_entry ([.ref (ad 32)]) (n := 5) (Nat.le_of_ble_eq_true rfl)
  rw [lg_entry_eq]
  generalize (lg_sl ([.ref (ad 32)]) ++ List.replicate (5 - (lg_sl ([.ref (ad 32)])).length) Slot.unset).toArray = ls at hl ⊢
  have hl : lv_has ls 5 [(0, .ref (ad 32))] := hl
  have C : dc_C p s m _ meth c cX3_numberOfOrder (some .int) 5 RX3 wsX3_numberOfOrder D ty eo A := ⟨hx, hb, hr, hts, hown, hlocks, hml, hK, hN, hE, hA⟩
  unfold zX3_numberOfOrder_s32 at h
  refine lv_iconst (v := 0) hx hb dX3_numberOfOrder_0 (by decide) ?_
  refine lv_istore_n (lv' := [(1, .int 0), (0, .ref (ad 32))]) hx hb dX3_numberOfOrder_1 rfl hl (by decide) rfl (fun ls hl => ?_)
  refine lv_iconst (v := 0) hx hb dX3_numberOfOrder_2 (by decide) ?_
  refine lv_istore_n (lv' := [(2, .int 0), (1, .int 0), (0, .ref (ad 32))]) hx hb dX3_numberOfOrder_3 rfl hl (by decide) rfl (fun ls hl => ?_)
  exact WX3_numberOfOrder_s32_4 C  _ _ _ _ _ _ _ h hP hD hS (lv_sub hl [2, 1, 0] rfl)

set_option maxHeartbeats 4000000 in
set_option maxRecDepth 100000 in
theorem WX3_listOrder_s32_60b {p : Program} {l : Launch} {e : Env} {s : State} {m : MethodId} {args : Array Value} {below : List Frame} {meth : Method} {c : Code} {D : va_G} {ty : Nat → ClassId} {eo : Nat → Nat} {A : Nat → Prop} {ad : Nat → Nat} {o2 : dK} (C : dc_C p s m args meth c cX3_listOrder none 6 RX3 wsX3_listOrder D ty eo A) {k40 : dK → Int32 → Int32 → Option (dK)} {k60 : dK → Int32 → Int32 → Int32 → Int32 → Option (dK)} (hk40 : ∀ (q : dK) (x1 : Int32) (x2 : Int32) (H : Heap) (locs : List Loc) (ls : Array Slot), k40 q x1 x2 = some o2 → va_P D vwCl (wF ty ad q) H → va_D A (wF ty ad q) → va_S A s.heap H locs → lv_has ls 6 [(0, .ref (ad 32)), (1, .int x1), (2, .int x2)] → W p l e ({ frames := 2, cells := 0, slots := 0, locals := 44 } : Room) s m args below meth c H locs 0 0 (MQ below (va_Qv (fun (u : va_W) => wF ty ad o2 = u) (kz_B D ty A) A) args s 0 0 A) (F0 m 40 ls [])) (hk60 : ∀ (q : dK) (x1 : Int32) (x2 : Int32) (x3 : Int32) (x4 : Int32) (H : Heap) (locs : List Loc) (ls : Array Slot), k60 q x1 x2 x3 x4 = some o2 → va_P D vwCl (wF ty ad q) H → va_D A (wF ty ad q) → va_S A s.heap H locs → lv_has ls 6 [(0, .ref (ad 32)), (1, .int x1), (2, .int x2), (3, .int x3), (4, .int x4)] → W p l e ({ frames := 2, cells := 0, slots := 0, locals := 44 } : Room) s m args below meth c H locs 0 0 (MQ below (va_Qv (fun (u : va_W) => wF ty ad o2 = u) (kz_B D ty A) A) args s 0 0 A) (F0 m 60 ls [])) (q : dK) (x1 : Int32) (x2 : Int32) (x3 : Int32) (x4 : Int32) (H : Heap) (locs : List Loc) (ls : Array Slot) (h : zX3_listOrder_s32_60b k40 k60 q x1 x2 x3 x4 = some o2) (hP : va_P D vwCl (wF ty ad q) H) (hD : va_D A (wF ty ad q)) (hS : va_S A s.heap H locs) (hl : lv_has ls 6 [(0, .ref (ad 32)), (1, .int x1), (2, .int x2), (3, .int x3), (4, .int x4)]) : W p l e ({ frames := 2, cells := 0, slots := 0, locals := 44 } : Room) s m args below meth c H locs 0 0 (MQ below (va_Qv (fun (u : va_W) => wF ty ad o2 = u) (kz_B D ty A) A) args s 0 0 A) (F0 m 60 ls []) := by
  have C0 := C
  obtain ⟨hx, hb, hr, hts, hown, hlocks, hml, hK, hN, hE, hA⟩ := C
  unfold zX3_listOrder_s32_60b at h
  refine lv_iload_n hx hb dX3_listOrder_60 rfl (lv_at hl 3 rfl) ?_
  refine lv_iload hx hb dX3_listOrder_61 (lv_at hl 4 rfl) ?_
  refine lv_icmp_ge (tgt := 105) hx hb dX3_listOrder_63 (by decide) (fun c9 => ?_) (fun c9 => ?_)
  · rw [if_pos c9] at h
    refine lv_aload_n hx hb dX3_listOrder_105 rfl (lv_at hl 0 rfl) ?_
    refine va_get (D := D) (ci := 3) (v := .ref (ad 40)) (C := RX3) (T := TX3) (N := 20) hx hb hts u9_wsX3_listOrder_X3 hown hK hP 32 rfl rfl 7 (by decide) (hts (.fieldLink RX3 33 "TurnedFloors$Paper" "turnedOrders" "[I") f9_wsX3_listOrder_723) (fun _ h9 => h9) rfl dX3_listOrder_106 ?_
    refine lv_iload_n hx hb dX3_listOrder_109 rfl (lv_at hl 1 rfl) ?_
    refine lv_bipush (v := 6) hx hb dX3_listOrder_110 (by decide) ?_
    refine lv_imul hx hb dX3_listOrder_112 ?_
    refine lv_iload_n hx hb dX3_listOrder_113 rfl (lv_at hl 2 rfl) ?_
    refine lv_iadd hx hb dX3_listOrder_114 ?_
    refine lv_iconst (v := 1) hx hb dX3_listOrder_115 (by decide) ?_
    refine lv_isub hx hb dX3_listOrder_116 ?_
    refine lv_aload_n hx hb dX3_listOrder_117 rfl (lv_at hl 0 rfl) ?_
    obtain ⟨r1, q3, h2, h⟩ := dB_some h
    refine dw_ki (va_runV (As := []) (rest := [.int (((x1 * 6 : Int32) + x2) - 1 : Int32), .ref (ad 40)]) ⟨hx, hb, hml, hown, hts⟩ (qX3_numberOfOrder_s32 l D ty eo _ ad q  r1 q3 h2) (cwV 0 hts gX3_listOrder_X3_numberOfOrder rfl rfl rfl hd_X3_numberOfOrder_v ⟨Nat.le_of_ble_eq_true rfl, Nat.le_of_ble_eq_true rfl⟩) (pvF_3_32 hK hN hE hP hD hS hA) rfl rfl hl.1 rfl (lv_room (Nat.le_of_ble_eq_true rfl)) dX3_listOrder_118 ⟨Nat.le_of_ble_eq_true rfl, Nat.le_of_ble_eq_true rfl⟩) hD hS hA (fun r9 u9 H locs hw hp hd hs => ?_)
    clear hP hD hS
    obtain ⟨rfl, rfl⟩ := hw
    have hP := hp; have hD := hd; have hS := hs; clear hp hd hs
    obtain ⟨g4, h⟩ := dG_some h
    refine va_iast hx hb hK hP hD hS 40 0 rfl rfl (dg_in g4) dX3_listOrder_121 (fun H locs hp hd hs => ?_)
    obtain ⟨q5, eq5, h⟩ := dL_some h
    refine kz_re (w2 := wF ty ad q5) hp hd hs (by rw [← eq5]; exact wF_a40 ty ad q3 (Int32.toNatClampNeg (((x1 * 6 : Int32) + x2) - 1 : Int32)) r1) ?_
    clear hp hd hs hP hD hS
    intro hP hD hS
    refine lv_iinc (v := x2 + 1) (lv' := [(2, .int (x2 + 1)), (0, .ref (ad 32)), (1, .int x1), (3, .int x3), (4, .int x4)]) hx hb dX3_listOrder_122 hl (k := 2) rfl rfl (by decide) rfl (fun ls hl => ?_)
    refine lv_goto (tgt := 40) hx hb dX3_listOrder_125 (by decide) ?_
    exact hk40 _ _ _ _ _ _ h hP hD hS (lv_sub hl [1, 2, 0] rfl)
  · rw [if_neg c9] at h
    refine lv_aload_n hx hb dX3_listOrder_66 rfl (lv_at hl 0 rfl) ?_
    refine va_get (D := D) (ci := 3) (v := .ref (ad 34)) (C := RX3) (T := TX3) (N := 20) hx hb hts u9_wsX3_listOrder_X3 hown hK hP 32 rfl rfl 1 (by decide) (hts (.fieldLink RX3 15 "TurnedFloors$Paper" "digits" "[I") f9_wsX3_listOrder_724) (fun _ h9 => h9) rfl dX3_listOrder_67 ?_
    refine lv_iload_n hx hb dX3_listOrder_70 rfl (lv_at hl 3 rfl) ?_
    obtain ⟨g6, h⟩ := dG_some h
    refine va_iald hx hb hK hP 34 0 rfl rfl (dg_in g6) dX3_listOrder_71 ?_
    obtain ⟨v7, ev7, h⟩ := dL_some h
    refine kz_topi v7 ev7 ?_
    refine lv_istore (lv' := [(5, .int v7), (0, .ref (ad 32)), (1, .int x1), (2, .int x2), (3, .int x3), (4, .int x4)]) hx hb dX3_listOrder_72 hl (by decide) rfl (fun ls hl => ?_)
    refine lv_aload_n hx hb dX3_listOrder_74 rfl (lv_at hl 1 rfl) ?_
    refine va_get (D := D) (ci := 3) (v := .ref (ad 34)) (C := RX3) (T := TX3) (N := 20) hx hb hts u9_wsX3_listOrder_X3 hown hK hP 32 rfl rfl 1 (by decide) (hts (.fieldLink RX3 15 "TurnedFloors$Paper" "digits" "[I") f9_wsX3_listOrder_724) (fun _ h9 => h9) rfl dX3_listOrder_75 ?_
    refine lv_iload_n hx hb dX3_listOrder_78 rfl (lv_at hl 4 rfl) ?_
    refine lv_aload_n hx hb dX3_listOrder_79 rfl (lv_at hl 1 rfl) ?_
    refine va_get (D := D) (ci := 3) (v := .ref (ad 34)) (C := RX3) (T := TX3) (N := 20) hx hb hts u9_wsX3_listOrder_X3 hown hK hP 32 rfl rfl 1 (by decide) (hts (.fieldLink RX3 15 "TurnedFloors$Paper" "digits" "[I") f9_wsX3_listOrder_724) (fun _ h9 => h9) rfl dX3_listOrder_80 ?_
    refine lv_iload hx hb dX3_listOrder_83 (lv_at hl 5 rfl) ?_
    obtain ⟨g8, h⟩ := dG_some h
    refine va_iald hx hb hK hP 34 0 rfl rfl (dg_in g8) dX3_listOrder_85 ?_
    obtain ⟨v9, ev9, h⟩ := dL_some h
    refine kz_topi v9 ev9 ?_
    obtain ⟨g10, h⟩ := dG_some h
    refine va_iast hx hb hK hP hD hS 34 0 rfl rfl (dg_in g10) dX3_listOrder_86 (fun H locs hp hd hs => ?_)
    obtain ⟨q11, eq11, h⟩ := dL_some h
    refine kz_re (w2 := wF ty ad q11) hp hd hs (by rw [← eq11]; exact wF_a34 ty ad q (Int32.toNatClampNeg x3) v9) ?_
    clear hp hd hs hP hD hS
    intro hP hD hS
    refine lv_aload_n hx hb dX3_listOrder_87 rfl (lv_at hl 1 rfl) ?_
    refine va_get (D := D) (ci := 3) (v := .ref (ad 34)) (C := RX3) (T := TX3) (N := 20) hx hb hts u9_wsX3_listOrder_X3 hown hK hP 32 rfl rfl 1 (by decide) (hts (.fieldLink RX3 15 "TurnedFloors$Paper" "digits" "[I") f9_wsX3_listOrder_724) (fun _ h9 => h9) rfl dX3_listOrder_88 ?_
    refine lv_iload hx hb dX3_listOrder_91 (lv_at hl 5 rfl) ?_
    refine lv_iload hx hb dX3_listOrder_93 (lv_at hl 0 rfl) ?_
    obtain ⟨g12, h⟩ := dG_some h
    refine va_iast hx hb hK hP hD hS 34 0 rfl rfl (dg_in g12) dX3_listOrder_95 (fun H locs hp hd hs => ?_)
    obtain ⟨q13, eq13, h⟩ := dL_some h
    refine kz_re (w2 := wF ty ad q13) hp hd hs (by rw [← eq13]; exact wF_a34 ty ad q11 (Int32.toNatClampNeg x4) v7) ?_
    clear hp hd hs hP hD hS
    intro hP hD hS
    refine lv_iinc (v := x3 + 1) (lv' := [(3, .int (x3 + 1)), (5, .int v7), (0, .ref (ad 32)), (1, .int x1), (2, .int x2), (4, .int x4)]) hx hb dX3_listOrder_96 hl (k := 4) rfl rfl (by decide) rfl (fun ls hl => ?_)
    refine lv_iinc (v := x4 + (-1)) (lv' := [(4, .int (x4 + (-1))), (3, .int (x3 + 1)), (5, .int v7), (0, .ref (ad 32)), (1, .int x1), (2, .int x2)]) hx hb dX3_listOrder_99 hl (k := 5) rfl rfl (by decide) rfl (fun ls hl => ?_)
    refine lv_goto (tgt := 60) hx hb dX3_listOrder_102 (by decide) ?_
    exact hk60 _ _ _ _ _ _ _ _ h hP hD hS (lv_sub hl [3, 4, 5, 1, 0] rfl)
set_option maxHeartbeats 4000000 in
set_option maxRecDepth 100000 in
theorem WX3_listOrder_s32_60 {p : Program} {l : Launch} {e : Env} {s : State} {m : MethodId} {args : Array Value} {below : List Frame} {meth : Method} {c : Code} {D : va_G} {ty : Nat → ClassId} {eo : Nat → Nat} {A : Nat → Prop} {ad : Nat → Nat} {o2 : dK} (C : dc_C p s m args meth c cX3_listOrder none 6 RX3 wsX3_listOrder D ty eo A) {k40 : dK → Int32 → Int32 → Option (dK)} (hk40 : ∀ (q : dK) (x1 : Int32) (x2 : Int32) (H : Heap) (locs : List Loc) (ls : Array Slot), k40 q x1 x2 = some o2 → va_P D vwCl (wF ty ad q) H → va_D A (wF ty ad q) → va_S A s.heap H locs → lv_has ls 6 [(0, .ref (ad 32)), (1, .int x1), (2, .int x2)] → W p l e ({ frames := 2, cells := 0, slots := 0, locals := 44 } : Room) s m args below meth c H locs 0 0 (MQ below (va_Qv (fun (u : va_W) => wF ty ad o2 = u) (kz_B D ty A) A) args s 0 0 A) (F0 m 40 ls [])) (n : Nat) (q : dK) (x1 : Int32) (x2 : Int32) (x3 : Int32) (x4 : Int32) (H : Heap) (locs : List Loc) (ls : Array Slot) (h : zX3_listOrder_s32_60 k40 n q x1 x2 x3 x4 = some o2) (hP : va_P D vwCl (wF ty ad q) H) (hD : va_D A (wF ty ad q)) (hS : va_S A s.heap H locs) (hl : lv_has ls 6 [(0, .ref (ad 32)), (1, .int x1), (2, .int x2), (3, .int x3), (4, .int x4)]) : W p l e ({ frames := 2, cells := 0, slots := 0, locals := 44 } : Room) s m args below meth c H locs 0 0 (MQ below (va_Qv (fun (u : va_W) => wF ty ad o2 = u) (kz_B D ty A) A) args s 0 0 A) (F0 m 60 ls []) := by
  exact dFix_W (F := fun k (a : dK × Int32 × Int32 × Int32 × Int32) => zX3_listOrder_s32_60b k40 (fun q x1 x2 x3 x4 => k (q, x1, x2, x3, x4)) a.1 a.2.1 a.2.2.1 a.2.2.2.1 a.2.2.2.2) (o := o2) (P := fun (a : dK × Int32 × Int32 × Int32 × Int32) H locs ls => va_P D vwCl (wF ty ad a.1) H ∧ va_D A (wF ty ad a.1) ∧ va_S A s.heap H locs ∧ lv_has ls 6 [(0, .ref (ad 32)), (1, .int a.2.1), (2, .int a.2.2.1), (3, .int a.2.2.2.1), (4, .int a.2.2.2.2)]) (G := fun H locs ls => W p l e ({ frames := 2, cells := 0, slots := 0, locals := 44 } : Room) s m args below meth c H locs 0 0 (MQ below (va_Qv (fun (u : va_W) => wF ty ad o2 = u) (kz_B D ty A) A) args s 0 0 A) (F0 m 60 ls []))
    (fun k hk a H locs ls h hp => WX3_listOrder_s32_60b C hk40 (fun q x1 x2 x3 x4 H locs ls h h1 h2 h3 h4 => hk (q, x1, x2, x3, x4) H locs ls h ⟨h1, h2, h3, h4⟩) a.1 a.2.1 a.2.2.1 a.2.2.2.1 a.2.2.2.2 H locs ls h hp.1 hp.2.1 hp.2.2.1 hp.2.2.2) n (q, x1, x2, x3, x4) H locs ls h ⟨hP, hD, hS, hl⟩
set_option maxHeartbeats 4000000 in
set_option maxRecDepth 100000 in
theorem WX3_listOrder_s32_40b {p : Program} {l : Launch} {e : Env} {s : State} {m : MethodId} {args : Array Value} {below : List Frame} {meth : Method} {c : Code} {D : va_G} {ty : Nat → ClassId} {eo : Nat → Nat} {A : Nat → Prop} {ad : Nat → Nat} {o2 : dK} (C : dc_C p s m args meth c cX3_listOrder none 6 RX3 wsX3_listOrder D ty eo A) {k40 : dK → Int32 → Int32 → Option (dK)} (hk40 : ∀ (q : dK) (x1 : Int32) (x2 : Int32) (H : Heap) (locs : List Loc) (ls : Array Slot), k40 q x1 x2 = some o2 → va_P D vwCl (wF ty ad q) H → va_D A (wF ty ad q) → va_S A s.heap H locs → lv_has ls 6 [(0, .ref (ad 32)), (1, .int x1), (2, .int x2)] → W p l e ({ frames := 2, cells := 0, slots := 0, locals := 44 } : Room) s m args below meth c H locs 0 0 (MQ below (va_Qv (fun (u : va_W) => wF ty ad o2 = u) (kz_B D ty A) A) args s 0 0 A) (F0 m 40 ls [])) (q : dK) (x1 : Int32) (x2 : Int32) (H : Heap) (locs : List Loc) (ls : Array Slot) (h : zX3_listOrder_s32_40b k40 q x1 x2 = some o2) (hP : va_P D vwCl (wF ty ad q) H) (hD : va_D A (wF ty ad q)) (hS : va_S A s.heap H locs) (hl : lv_has ls 6 [(0, .ref (ad 32)), (1, .int x1), (2, .int x2)]) : W p l e ({ frames := 2, cells := 0, slots := 0, locals := 44 } : Room) s m args below meth c H locs 0 0 (MQ below (va_Qv (fun (u : va_W) => wF ty ad o2 = u) (kz_B D ty A) A) args s 0 0 A) (F0 m 40 ls []) := by
  have C0 := C
  obtain ⟨hx, hb, hr, hts, hown, hlocks, hml, hK, hN, hE, hA⟩ := C
  unfold zX3_listOrder_s32_40b at h
  refine lv_iload_n hx hb dX3_listOrder_40 rfl (lv_at hl 2 rfl) ?_
  refine lv_aload_n hx hb dX3_listOrder_41 rfl (lv_at hl 0 rfl) ?_
  refine va_get (D := D) (ci := 3) (v := .int (q.1 32 13)) (C := RX3) (T := TX3) (N := 20) hx hb hts u9_wsX3_listOrder_X3 hown hK hP 32 rfl rfl 13 (by decide) (hts (.fieldLink RX3 51 "TurnedFloors$Paper" "floors" "I") f9_wsX3_listOrder_725) (fun _ h9 => h9) rfl dX3_listOrder_42 ?_
  refine lv_icmp_gt (tgt := 128) hx hb dX3_listOrder_45 (by decide) (fun c9 => ?_) (fun c9 => ?_)
  · rw [if_pos c9] at h
    cases h
    exact kz_vret hx hb hr hlocks hP hK hD hS dX3_listOrder_128 rfl
  · rw [if_neg c9] at h
    refine lv_aload_n hx hb dX3_listOrder_48 rfl (lv_at hl 0 rfl) ?_
    refine lv_iload_n hx hb dX3_listOrder_49 rfl (lv_at hl 1 rfl) ?_
    obtain ⟨q3, h2, h⟩ := dV_some h
    refine dw_kv (va_runV (As := [.int x1]) (rest := []) ⟨hx, hb, hml, hown, hts⟩ (qX3_setDigits_s32 l D ty eo _ ad q x1 q3 h2) (cwV 1 hts gX3_listOrder_X3_setDigits rfl rfl rfl hd_X3_setDigits_v ⟨Nat.le_of_ble_eq_true rfl, Nat.le_of_ble_eq_true rfl⟩) (pvF_3_32 hK hN hE hP hD hS hA) rfl rfl hl.1 rfl (lv_room (Nat.le_of_ble_eq_true rfl)) dX3_listOrder_50 ⟨Nat.le_of_ble_eq_true rfl, Nat.le_of_ble_eq_true rfl⟩) hD hS hA (fun u9 H locs hw hp hd hs => ?_)
    clear hP hD hS
    obtain rfl := hw
    have hP := hp; have hD := hd; have hS := hs; clear hp hd hs
    refine lv_iconst (v := 0) hx hb dX3_listOrder_53 (by decide) ?_
    refine lv_istore_n (lv' := [(3, .int 0), (0, .ref (ad 32)), (1, .int x1), (2, .int x2)]) hx hb dX3_listOrder_54 rfl hl (by decide) rfl (fun ls hl => ?_)
    refine lv_iload_n hx hb dX3_listOrder_55 rfl (lv_at hl 3 rfl) ?_
    refine lv_iconst (v := 1) hx hb dX3_listOrder_56 (by decide) ?_
    refine lv_isub hx hb dX3_listOrder_57 ?_
    refine lv_istore (lv' := [(4, .int (x2 - 1 : Int32)), (3, .int 0), (0, .ref (ad 32)), (1, .int x1), (2, .int x2)]) hx hb dX3_listOrder_58 hl (by decide) rfl (fun ls hl => ?_)
    exact WX3_listOrder_s32_60 C0 hk40 _ _ _ _ _ _ _ _ _ h hP hD hS (lv_sub hl [2, 3, 4, 1, 0] rfl)
set_option maxHeartbeats 4000000 in
set_option maxRecDepth 100000 in
theorem WX3_listOrder_s32_40 {p : Program} {l : Launch} {e : Env} {s : State} {m : MethodId} {args : Array Value} {below : List Frame} {meth : Method} {c : Code} {D : va_G} {ty : Nat → ClassId} {eo : Nat → Nat} {A : Nat → Prop} {ad : Nat → Nat} {o2 : dK} (C : dc_C p s m args meth c cX3_listOrder none 6 RX3 wsX3_listOrder D ty eo A)   (n : Nat) (q : dK) (x1 : Int32) (x2 : Int32) (H : Heap) (locs : List Loc) (ls : Array Slot) (h : zX3_listOrder_s32_40  n q x1 x2 = some o2) (hP : va_P D vwCl (wF ty ad q) H) (hD : va_D A (wF ty ad q)) (hS : va_S A s.heap H locs) (hl : lv_has ls 6 [(0, .ref (ad 32)), (1, .int x1), (2, .int x2)]) : W p l e ({ frames := 2, cells := 0, slots := 0, locals := 44 } : Room) s m args below meth c H locs 0 0 (MQ below (va_Qv (fun (u : va_W) => wF ty ad o2 = u) (kz_B D ty A) A) args s 0 0 A) (F0 m 40 ls []) := by
  exact dFix_W (F := fun k (a : dK × Int32 × Int32) => zX3_listOrder_s32_40b  (fun q x1 x2 => k (q, x1, x2)) a.1 a.2.1 a.2.2) (o := o2) (P := fun (a : dK × Int32 × Int32) H locs ls => va_P D vwCl (wF ty ad a.1) H ∧ va_D A (wF ty ad a.1) ∧ va_S A s.heap H locs ∧ lv_has ls 6 [(0, .ref (ad 32)), (1, .int a.2.1), (2, .int a.2.2)]) (G := fun H locs ls => W p l e ({ frames := 2, cells := 0, slots := 0, locals := 44 } : Room) s m args below meth c H locs 0 0 (MQ below (va_Qv (fun (u : va_W) => wF ty ad o2 = u) (kz_B D ty A) A) args s 0 0 A) (F0 m 40 ls []))
    (fun k hk a H locs ls h hp => WX3_listOrder_s32_40b C  (fun q x1 x2 H locs ls h h1 h2 h3 h4 => hk (q, x1, x2) H locs ls h ⟨h1, h2, h3, h4⟩) a.1 a.2.1 a.2.2 H locs ls h hp.1 hp.2.1 hp.2.2.1 hp.2.2.2) n (q, x1, x2) H locs ls h ⟨hP, hD, hS, hl⟩
set_option maxHeartbeats 4000000 in
set_option maxRecDepth 100000 in
theorem WX3_listOrder_s32_7b {p : Program} {l : Launch} {e : Env} {s : State} {m : MethodId} {args : Array Value} {below : List Frame} {meth : Method} {c : Code} {D : va_G} {ty : Nat → ClassId} {eo : Nat → Nat} {A : Nat → Prop} {ad : Nat → Nat} {o2 : dK} (C : dc_C p s m args meth c cX3_listOrder none 6 RX3 wsX3_listOrder D ty eo A) {k7 : dK → Int32 → Int32 → Option (dK)} (hk7 : ∀ (q : dK) (x1 : Int32) (x2 : Int32) (H : Heap) (locs : List Loc) (ls : Array Slot), k7 q x1 x2 = some o2 → va_P D vwCl (wF ty ad q) H → va_D A (wF ty ad q) → va_S A s.heap H locs → lv_has ls 6 [(0, .ref (ad 32)), (1, .int x1), (2, .int x2)] → W p l e ({ frames := 2, cells := 0, slots := 0, locals := 44 } : Room) s m args below meth c H locs 0 0 (MQ below (va_Qv (fun (u : va_W) => wF ty ad o2 = u) (kz_B D ty A) A) args s 0 0 A) (F0 m 7 ls [])) (q : dK) (x1 : Int32) (x2 : Int32) (H : Heap) (locs : List Loc) (ls : Array Slot) (h : zX3_listOrder_s32_7b k7 q x1 x2 = some o2) (hP : va_P D vwCl (wF ty ad q) H) (hD : va_D A (wF ty ad q)) (hS : va_S A s.heap H locs) (hl : lv_has ls 6 [(0, .ref (ad 32)), (1, .int x1), (2, .int x2)]) : W p l e ({ frames := 2, cells := 0, slots := 0, locals := 44 } : Room) s m args below meth c H locs 0 0 (MQ below (va_Qv (fun (u : va_W) => wF ty ad o2 = u) (kz_B D ty A) A) args s 0 0 A) (F0 m 7 ls []) := by
  have C0 := C
  obtain ⟨hx, hb, hr, hts, hown, hlocks, hml, hK, hN, hE, hA⟩ := C
  unfold zX3_listOrder_s32_7b at h
  refine lv_iload_n hx hb dX3_listOrder_7 rfl (lv_at hl 2 rfl) ?_
  refine lv_bipush (v := 6) hx hb dX3_listOrder_8 (by decide) ?_
  refine lv_icmp_ge (tgt := 38) hx hb dX3_listOrder_10 (by decide) (fun c9 => ?_) (fun c9 => ?_)
  · rw [if_pos c9] at h
    refine lv_iconst (v := 1) hx hb dX3_listOrder_38 (by decide) ?_
    refine lv_istore_n (lv' := [(2, .int 1), (0, .ref (ad 32)), (1, .int x1)]) hx hb dX3_listOrder_39 rfl hl (by decide) rfl (fun ls hl => ?_)
    exact WX3_listOrder_s32_40 C0  _ _ _ _ _ _ _ h hP hD hS (lv_sub hl [1, 2, 0] rfl)
  · rw [if_neg c9] at h
    refine lv_aload_n hx hb dX3_listOrder_13 rfl (lv_at hl 0 rfl) ?_
    refine va_get (D := D) (ci := 3) (v := .ref (ad 39)) (C := RX3) (T := TX3) (N := 20) hx hb hts u9_wsX3_listOrder_X3 hown hK hP 32 rfl rfl 6 (by decide) (hts (.fieldLink RX3 30 "TurnedFloors$Paper" "orders" "[I") f9_wsX3_listOrder_726) (fun _ h9 => h9) rfl dX3_listOrder_14 ?_
    refine lv_iload_n hx hb dX3_listOrder_17 rfl (lv_at hl 1 rfl) ?_
    refine lv_dup2_11 hx hb dX3_listOrder_18 rfl rfl ?_
    obtain ⟨g1, h⟩ := dG_some h
    refine va_iald hx hb hK hP 39 0 rfl rfl (dg_in g1) dX3_listOrder_19 ?_
    obtain ⟨v2, ev2, h⟩ := dL_some h
    refine kz_topi v2 ev2 ?_
    refine lv_aload_n hx hb dX3_listOrder_20 rfl (lv_at hl 0 rfl) ?_
    refine va_get (D := D) (ci := 3) (v := .ref (ad 34)) (C := RX3) (T := TX3) (N := 20) hx hb hts u9_wsX3_listOrder_X3 hown hK hP 32 rfl rfl 1 (by decide) (hts (.fieldLink RX3 15 "TurnedFloors$Paper" "digits" "[I") f9_wsX3_listOrder_724) (fun _ h9 => h9) rfl dX3_listOrder_21 ?_
    refine lv_iload_n hx hb dX3_listOrder_24 rfl (lv_at hl 2 rfl) ?_
    obtain ⟨g3, h⟩ := dG_some h
    refine va_iald hx hb hK hP 34 0 rfl rfl (dg_in g3) dX3_listOrder_25 ?_
    obtain ⟨v4, ev4, h⟩ := dL_some h
    refine kz_topi v4 ev4 ?_
    refine lv_iconst (v := 3) hx hb dX3_listOrder_26 (by decide) ?_
    refine lv_iload_n hx hb dX3_listOrder_27 rfl (lv_at hl 2 rfl) ?_
    refine lv_imul hx hb dX3_listOrder_28 ?_
    refine lv_ishl hx hb dX3_listOrder_29 ?_
    refine lv_ior hx hb dX3_listOrder_30 ?_
    obtain ⟨g5, h⟩ := dG_some h
    refine va_iast hx hb hK hP hD hS 39 0 rfl rfl (dg_in g5) dX3_listOrder_31 (fun H locs hp hd hs => ?_)
    obtain ⟨q6, eq6, h⟩ := dL_some h
    refine kz_re (w2 := wF ty ad q6) hp hd hs (by rw [← eq6]; exact wF_a39 ty ad q (Int32.toNatClampNeg x1) (v2 ||| (v4 <<< (((3 * x2 : Int32) : Int32) &&& 31)))) ?_
    clear hp hd hs hP hD hS
    intro hP hD hS
    refine lv_iinc (v := x2 + 1) (lv' := [(2, .int (x2 + 1)), (0, .ref (ad 32)), (1, .int x1)]) hx hb dX3_listOrder_32 hl (k := 2) rfl rfl (by decide) rfl (fun ls hl => ?_)
    refine lv_goto (tgt := 7) hx hb dX3_listOrder_35 (by decide) ?_
    exact hk7 _ _ _ _ _ _ h hP hD hS (lv_sub hl [1, 2, 0] rfl)
set_option maxHeartbeats 4000000 in
set_option maxRecDepth 100000 in
theorem WX3_listOrder_s32_7 {p : Program} {l : Launch} {e : Env} {s : State} {m : MethodId} {args : Array Value} {below : List Frame} {meth : Method} {c : Code} {D : va_G} {ty : Nat → ClassId} {eo : Nat → Nat} {A : Nat → Prop} {ad : Nat → Nat} {o2 : dK} (C : dc_C p s m args meth c cX3_listOrder none 6 RX3 wsX3_listOrder D ty eo A)   (n : Nat) (q : dK) (x1 : Int32) (x2 : Int32) (H : Heap) (locs : List Loc) (ls : Array Slot) (h : zX3_listOrder_s32_7  n q x1 x2 = some o2) (hP : va_P D vwCl (wF ty ad q) H) (hD : va_D A (wF ty ad q)) (hS : va_S A s.heap H locs) (hl : lv_has ls 6 [(0, .ref (ad 32)), (1, .int x1), (2, .int x2)]) : W p l e ({ frames := 2, cells := 0, slots := 0, locals := 44 } : Room) s m args below meth c H locs 0 0 (MQ below (va_Qv (fun (u : va_W) => wF ty ad o2 = u) (kz_B D ty A) A) args s 0 0 A) (F0 m 7 ls []) := by
  exact dFix_W (F := fun k (a : dK × Int32 × Int32) => zX3_listOrder_s32_7b  (fun q x1 x2 => k (q, x1, x2)) a.1 a.2.1 a.2.2) (o := o2) (P := fun (a : dK × Int32 × Int32) H locs ls => va_P D vwCl (wF ty ad a.1) H ∧ va_D A (wF ty ad a.1) ∧ va_S A s.heap H locs ∧ lv_has ls 6 [(0, .ref (ad 32)), (1, .int a.2.1), (2, .int a.2.2)]) (G := fun H locs ls => W p l e ({ frames := 2, cells := 0, slots := 0, locals := 44 } : Room) s m args below meth c H locs 0 0 (MQ below (va_Qv (fun (u : va_W) => wF ty ad o2 = u) (kz_B D ty A) A) args s 0 0 A) (F0 m 7 ls []))
    (fun k hk a H locs ls h hp => WX3_listOrder_s32_7b C  (fun q x1 x2 H locs ls h h1 h2 h3 h4 => hk (q, x1, x2) H locs ls h ⟨h1, h2, h3, h4⟩) a.1 a.2.1 a.2.2 H locs ls h hp.1 hp.2.1 hp.2.2.1 hp.2.2.2) n (q, x1, x2) H locs ls h ⟨hP, hD, hS, hl⟩
set_option maxHeartbeats 4000000 in
set_option maxRecDepth 100000 in
theorem qX3_listOrder_s32 (l : Launch) (D : va_G) (ty : Nat → ClassId) (eo : Nat → Nat) (sz : Nat) (ad : Nat → Nat) (q : dK) (p1 : Int32) (o2 : dK) (h : zX3_listOrder_s32 q p1 = some o2) : Met l yX3_listOrder wsX3_listOrder ({ frames := 2, cells := 0, slots := 0, locals := 44 } : Room) (va_Pc [.ref (ad 32), .int p1] (kz_pre D ty eo (wF ty ad q) sz)) (va_Qv (fun (u : va_W) => wF ty ad o2 = u) (kz_B D ty (va_A (wF ty ad q) sz)) (va_A (wF ty ad q) sz)) 0 0 (va_A (wF ty ad q) sz) := by
  refine Met.ofW (cc := cX3_listOrder) (maxL := 6) (ret := none) (by decide) rfl ?_
  intro p e s m args below meth c s₁ B hml hv
  obtain ⟨rfl, hsz, hP, hK, hD0, hN, hE⟩ := hv
  have hx := B.exec
  have hb := B.bytes
  have hr := B.returns
  have hts := atoms_spec (ws := wsX3_listOrder) B.pre
  have hown : s.vm.findClass RX3 = some m.cls := findClass_of_methodNamed B.named
  have hlocks := B.notSynchronized
  subst hsz
  have hD := hD0.self (sz := s.heap.size)
  generalize hAe : va_A (wF ty ad q) s.heap.size = A at hD hE ⊢
  have hA : ∀ q : Nat, s.heap.size ≤ q → A q := fun q h => by rw [← hAe]; exact Or.inr h
  clear hAe
  have hS : va_S A s.heap s.heap [] := va_S.rf
  have hl := lv_entry ([.ref (ad 32), .int p1]) (n := 6) (Nat.le_of_ble_eq_true rfl)
  rw [lg_entry_eq]
  generalize (lg_sl ([.ref (ad 32), .int p1]) ++ List.replicate (6 - (lg_sl ([.ref (ad 32), .int p1])).length) Slot.unset).toArray = ls at hl ⊢
  have hl : lv_has ls 6 [(0, .ref (ad 32)), (1, .int p1)] := hl
  have C : dc_C p s m _ meth c cX3_listOrder none 6 RX3 wsX3_listOrder D ty eo A := ⟨hx, hb, hr, hts, hown, hlocks, hml, hK, hN, hE, hA⟩
  unfold zX3_listOrder_s32 at h
  refine lv_aload_n hx hb dX3_listOrder_0 rfl (lv_at hl 0 rfl) ?_
  refine lv_iload_n hx hb dX3_listOrder_1 rfl (lv_at hl 1 rfl) ?_
  obtain ⟨q3, h2, h⟩ := dV_some h
  refine dw_kv (va_runV (As := [.int p1]) (rest := []) ⟨hx, hb, hml, hown, hts⟩ (qX3_setDigits_s32 l D ty eo _ ad q p1 q3 h2) (cwV 1 hts gX3_listOrder_X3_setDigits rfl rfl rfl hd_X3_setDigits_v ⟨Nat.le_of_ble_eq_true rfl, Nat.le_of_ble_eq_true rfl⟩) (pvF_3_32 hK hN hE hP hD hS hA) rfl rfl hl.1 rfl (lv_room (Nat.le_of_ble_eq_true rfl)) dX3_listOrder_2 ⟨Nat.le_of_ble_eq_true rfl, Nat.le_of_ble_eq_true rfl⟩) hD hS hA (fun u9 H locs hw hp hd hs => ?_)
  clear hP hD hS
  obtain rfl := hw
  have hP := hp; have hD := hd; have hS := hs; clear hp hd hs
  refine lv_iconst (v := 0) hx hb dX3_listOrder_5 (by decide) ?_
  refine lv_istore_n (lv' := [(2, .int 0), (0, .ref (ad 32)), (1, .int p1)]) hx hb dX3_listOrder_6 rfl hl (by decide) rfl (fun ls hl => ?_)
  exact WX3_listOrder_s32_7 C  _ _ _ _ _ _ _ h hP hD hS (lv_sub hl [1, 2, 0] rfl)

set_option maxHeartbeats 4000000 in
set_option maxRecDepth 100000 in
theorem WX3_headsTurned_4b {p : Program} {l : Launch} {e : Env} {s : State} {m : MethodId} {args : Array Value} {below : List Frame} {meth : Method} {c : Code} {D : va_G} {ty : Nat → ClassId} {eo : Nat → Nat} {A : Nat → Prop} {o1 : Int32} (C : dc_C p s m args meth c cX3_headsTurned (some .int) 4 RX3 wsX3_headsTurned D ty eo A) {k4 : Int32 → Int32 → Int32 → Int32 → Option (Int32)} (hk4 : ∀ (x0 : Int32) (x1 : Int32) (x2 : Int32) (x3 : Int32) (H : Heap) (locs : List Loc) (ls : Array Slot), k4 x0 x1 x2 x3 = some o1 → va_P D vwCl (([] : va_W)) H → va_D A (([] : va_W)) → va_S A s.heap H locs → lv_has ls 4 [(0, .int x0), (1, .int x1), (2, .int x2), (3, .int x3)] → W p l e ({ frames := 0, cells := 0, slots := 0, locals := 0 } : Room) s m args below meth c H locs 0 0 (MQ below (va_Qi (fun (r : Int32) (u : va_W) => o1 = r ∧ ([] : va_W) = u) (kz_B D ty A) A) args s 0 0 A) (F0 m 4 ls [])) (x0 : Int32) (x1 : Int32) (x2 : Int32) (x3 : Int32) (H : Heap) (locs : List Loc) (ls : Array Slot) (h : zX3_headsTurned_4b k4 x0 x1 x2 x3 = some o1) (hP : va_P D vwCl (([] : va_W)) H) (hD : va_D A (([] : va_W))) (hS : va_S A s.heap H locs) (hl : lv_has ls 4 [(0, .int x0), (1, .int x1), (2, .int x2), (3, .int x3)]) : W p l e ({ frames := 0, cells := 0, slots := 0, locals := 0 } : Room) s m args below meth c H locs 0 0 (MQ below (va_Qi (fun (r : Int32) (u : va_W) => o1 = r ∧ ([] : va_W) = u) (kz_B D ty A) A) args s 0 0 A) (F0 m 4 ls []) := by
  have C0 := C
  obtain ⟨hx, hb, hr, hts, hown, hlocks, hml, hK, hN, hE, hA⟩ := C
  unfold zX3_headsTurned_4b at h
  refine lv_iload_n hx hb dX3_headsTurned_4 rfl (lv_at hl 3 rfl) ?_
  refine lv_iload_n hx hb dX3_headsTurned_5 rfl (lv_at hl 1 rfl) ?_
  refine lv_icmp_ge (tgt := 31) hx hb dX3_headsTurned_6 (by decide) (fun c9 => ?_) (fun c9 => ?_)
  · rw [if_pos c9] at h
    refine lv_iload_n hx hb dX3_headsTurned_31 rfl (lv_at hl 0 rfl) ?_
    refine lv_iload_n hx hb dX3_headsTurned_32 rfl (lv_at hl 1 rfl) ?_
    refine lv_ishr hx hb dX3_headsTurned_33 ?_
    refine lv_iload_n hx hb dX3_headsTurned_34 rfl (lv_at hl 1 rfl) ?_
    refine lv_ishl hx hb dX3_headsTurned_35 ?_
    refine lv_iload_n hx hb dX3_headsTurned_36 rfl (lv_at hl 2 rfl) ?_
    refine lv_ior hx hb dX3_headsTurned_37 ?_
    obtain ⟨v1, ev1, h⟩ := dL_some h
    refine kz_topi v1 ev1 ?_
    cases h
    exact kz_iret hx hb hr hlocks hP hK hD hS dX3_headsTurned_38 ⟨rfl, rfl⟩
  · rw [if_neg c9] at h
    refine lv_iload_n hx hb dX3_headsTurned_9 rfl (lv_at hl 2 rfl) ?_
    refine lv_iconst (v := 1) hx hb dX3_headsTurned_10 (by decide) ?_
    refine lv_iload_n hx hb dX3_headsTurned_11 rfl (lv_at hl 0 rfl) ?_
    refine lv_iload_n hx hb dX3_headsTurned_12 rfl (lv_at hl 3 rfl) ?_
    refine lv_ishr hx hb dX3_headsTurned_13 ?_
    refine lv_iconst (v := 1) hx hb dX3_headsTurned_14 (by decide) ?_
    refine lv_iand hx hb dX3_headsTurned_15 ?_
    refine lv_isub hx hb dX3_headsTurned_16 ?_
    refine lv_iload_n hx hb dX3_headsTurned_17 rfl (lv_at hl 1 rfl) ?_
    refine lv_iconst (v := 1) hx hb dX3_headsTurned_18 (by decide) ?_
    refine lv_isub hx hb dX3_headsTurned_19 ?_
    refine lv_iload_n hx hb dX3_headsTurned_20 rfl (lv_at hl 3 rfl) ?_
    refine lv_isub hx hb dX3_headsTurned_21 ?_
    refine lv_ishl hx hb dX3_headsTurned_22 ?_
    obtain ⟨v2, ev2, h⟩ := dL_some h
    refine kz_topi v2 ev2 ?_
    refine lv_ior hx hb dX3_headsTurned_23 ?_
    refine lv_istore_n (lv' := [(2, .int (x2 ||| v2)), (0, .int x0), (1, .int x1), (3, .int x3)]) hx hb dX3_headsTurned_24 rfl hl (by decide) rfl (fun ls hl => ?_)
    refine lv_iinc (v := x3 + 1) (lv' := [(3, .int (x3 + 1)), (2, .int (x2 ||| v2)), (0, .int x0), (1, .int x1)]) hx hb dX3_headsTurned_25 hl (k := 3) rfl rfl (by decide) rfl (fun ls hl => ?_)
    refine lv_goto (tgt := 4) hx hb dX3_headsTurned_28 (by decide) ?_
    exact hk4 _ _ _ _ _ _ _ h hP hD hS (lv_sub hl [2, 3, 1, 0] rfl)
set_option maxHeartbeats 4000000 in
set_option maxRecDepth 100000 in
theorem WX3_headsTurned_4 {p : Program} {l : Launch} {e : Env} {s : State} {m : MethodId} {args : Array Value} {below : List Frame} {meth : Method} {c : Code} {D : va_G} {ty : Nat → ClassId} {eo : Nat → Nat} {A : Nat → Prop} {o1 : Int32} (C : dc_C p s m args meth c cX3_headsTurned (some .int) 4 RX3 wsX3_headsTurned D ty eo A)   (n : Nat) (x0 : Int32) (x1 : Int32) (x2 : Int32) (x3 : Int32) (H : Heap) (locs : List Loc) (ls : Array Slot) (h : zX3_headsTurned_4  n x0 x1 x2 x3 = some o1) (hP : va_P D vwCl (([] : va_W)) H) (hD : va_D A (([] : va_W))) (hS : va_S A s.heap H locs) (hl : lv_has ls 4 [(0, .int x0), (1, .int x1), (2, .int x2), (3, .int x3)]) : W p l e ({ frames := 0, cells := 0, slots := 0, locals := 0 } : Room) s m args below meth c H locs 0 0 (MQ below (va_Qi (fun (r : Int32) (u : va_W) => o1 = r ∧ ([] : va_W) = u) (kz_B D ty A) A) args s 0 0 A) (F0 m 4 ls []) := by
  exact dFix_W (F := fun k (a : Int32 × Int32 × Int32 × Int32) => zX3_headsTurned_4b  (fun x0 x1 x2 x3 => k (x0, x1, x2, x3)) a.1 a.2.1 a.2.2.1 a.2.2.2) (o := o1) (P := fun (a : Int32 × Int32 × Int32 × Int32) H locs ls => va_P D vwCl (([] : va_W)) H ∧ va_D A (([] : va_W)) ∧ va_S A s.heap H locs ∧ lv_has ls 4 [(0, .int a.1), (1, .int a.2.1), (2, .int a.2.2.1), (3, .int a.2.2.2)]) (G := fun H locs ls => W p l e ({ frames := 0, cells := 0, slots := 0, locals := 0 } : Room) s m args below meth c H locs 0 0 (MQ below (va_Qi (fun (r : Int32) (u : va_W) => o1 = r ∧ ([] : va_W) = u) (kz_B D ty A) A) args s 0 0 A) (F0 m 4 ls []))
    (fun k hk a H locs ls h hp => WX3_headsTurned_4b C  (fun x0 x1 x2 x3 H locs ls h h1 h2 h3 h4 => hk (x0, x1, x2, x3) H locs ls h ⟨h1, h2, h3, h4⟩) a.1 a.2.1 a.2.2.1 a.2.2.2 H locs ls h hp.1 hp.2.1 hp.2.2.1 hp.2.2.2) n (x0, x1, x2, x3) H locs ls h ⟨hP, hD, hS, hl⟩
set_option maxHeartbeats 4000000 in
set_option maxRecDepth 100000 in
theorem qX3_headsTurned (l : Launch) (D : va_G) (ty : Nat → ClassId) (eo : Nat → Nat) (sz : Nat) (p1 : Int32) (p2 : Int32) (o1 : Int32) (h : zX3_headsTurned p1 p2 = some o1) : Met l yX3_headsTurned wsX3_headsTurned ({ frames := 0, cells := 0, slots := 0, locals := 0 } : Room) (va_Pc [.int p1, .int p2] (kz_pre D ty eo (([] : va_W)) sz)) (va_Qi (fun (r : Int32) (u : va_W) => o1 = r ∧ ([] : va_W) = u) (kz_B D ty (va_A (([] : va_W)) sz)) (va_A (([] : va_W)) sz)) 0 0 (va_A (([] : va_W)) sz) := by
  refine Met.ofW (cc := cX3_headsTurned) (maxL := 4) (ret := (some .int)) (by decide) rfl ?_
  intro p e s m args below meth c s₁ B hml hv
  obtain ⟨rfl, hsz, hP, hK, hD0, hN, hE⟩ := hv
  have hx := B.exec
  have hb := B.bytes
  have hr := B.returns
  have hts := atoms_spec (ws := wsX3_headsTurned) B.pre
  have hown : s.vm.findClass RX3 = some m.cls := findClass_of_methodNamed B.named
  have hlocks := B.notSynchronized
  subst hsz
  have hD := hD0.self (sz := s.heap.size)
  generalize hAe : va_A (([] : va_W)) s.heap.size = A at hD hE ⊢
  have hA : ∀ q : Nat, s.heap.size ≤ q → A q := fun q h => by rw [← hAe]; exact Or.inr h
  clear hAe
  have hS : va_S A s.heap s.heap [] := va_S.rf
  have hl := lv_entry ([.int p1, .int p2]) (n := 4) (Nat.le_of_ble_eq_true rfl)
  rw [lg_entry_eq]
  generalize (lg_sl ([.int p1, .int p2]) ++ List.replicate (4 - (lg_sl ([.int p1, .int p2])).length) Slot.unset).toArray = ls at hl ⊢
  have hl : lv_has ls 4 [(0, .int p1), (1, .int p2)] := hl
  have C : dc_C p s m _ meth c cX3_headsTurned (some .int) 4 RX3 wsX3_headsTurned D ty eo A := ⟨hx, hb, hr, hts, hown, hlocks, hml, hK, hN, hE, hA⟩
  unfold zX3_headsTurned at h
  refine lv_iconst (v := 0) hx hb dX3_headsTurned_0 (by decide) ?_
  refine lv_istore_n (lv' := [(2, .int 0), (0, .int p1), (1, .int p2)]) hx hb dX3_headsTurned_1 rfl hl (by decide) rfl (fun ls hl => ?_)
  refine lv_iconst (v := 0) hx hb dX3_headsTurned_2 (by decide) ?_
  refine lv_istore_n (lv' := [(3, .int 0), (2, .int 0), (0, .int p1), (1, .int p2)]) hx hb dX3_headsTurned_3 rfl hl (by decide) rfl (fun ls hl => ?_)
  exact WX3_headsTurned_4 C  _ _ _ _ _ _ _ _ h hP hD hS (lv_sub hl [2, 3, 1, 0] rfl)
end
section
theorem da9_dX3_caseNumber_0 : (decode cX3_caseNumber 0 = .ok (.iload_n 0, 1)) ∧ (decode cX3_caseNumber 1 = .ok (.iconst 1, 1)) ∧ (decode cX3_caseNumber 2 = .ok (.isub, 1)) ∧ (decode cX3_caseNumber 3 = .ok (.bipush 6, 2)) ∧ (decode cX3_caseNumber 5 = .ok (.imul, 1)) ∧ (decode cX3_caseNumber 6 = .ok (.iload_n 1, 1)) ∧ (decode cX3_caseNumber 7 = .ok (.iadd, 1)) ∧ (decode cX3_caseNumber 8 = .ok (.bipush 7, 2)) ∧ (decode cX3_caseNumber 10 = .ok (.imul, 1)) ∧ (decode cX3_caseNumber 11 = .ok (.iload_n 2, 1)) ∧ (decode cX3_caseNumber 12 = .ok (.iadd, 1)) ∧ (decode cX3_caseNumber 13 = .ok (.iconst 2, 1)) ∧ (decode cX3_caseNumber 14 = .ok (.imul, 1)) ∧ (decode cX3_caseNumber 15 = .ok (.iload_n 3, 1)) ∧ (decode cX3_caseNumber 16 = .ok (.iadd, 1)) ∧ (decode cX3_caseNumber 17 = .ok (.ireturn, 1)) := by decide +kernel
theorem dX3_caseNumber_0 : decode cX3_caseNumber 0 = .ok (.iload_n 0, 1) := da9_dX3_caseNumber_0.1
theorem dX3_caseNumber_1 : decode cX3_caseNumber 1 = .ok (.iconst 1, 1) := da9_dX3_caseNumber_0.2.1
theorem dX3_caseNumber_2 : decode cX3_caseNumber 2 = .ok (.isub, 1) := da9_dX3_caseNumber_0.2.2.1
theorem dX3_caseNumber_3 : decode cX3_caseNumber 3 = .ok (.bipush 6, 2) := da9_dX3_caseNumber_0.2.2.2.1
theorem dX3_caseNumber_5 : decode cX3_caseNumber 5 = .ok (.imul, 1) := da9_dX3_caseNumber_0.2.2.2.2.1
theorem dX3_caseNumber_6 : decode cX3_caseNumber 6 = .ok (.iload_n 1, 1) := da9_dX3_caseNumber_0.2.2.2.2.2.1
theorem dX3_caseNumber_7 : decode cX3_caseNumber 7 = .ok (.iadd, 1) := da9_dX3_caseNumber_0.2.2.2.2.2.2.1
theorem dX3_caseNumber_8 : decode cX3_caseNumber 8 = .ok (.bipush 7, 2) := da9_dX3_caseNumber_0.2.2.2.2.2.2.2.1
theorem dX3_caseNumber_10 : decode cX3_caseNumber 10 = .ok (.imul, 1) := da9_dX3_caseNumber_0.2.2.2.2.2.2.2.2.1
theorem dX3_caseNumber_11 : decode cX3_caseNumber 11 = .ok (.iload_n 2, 1) := da9_dX3_caseNumber_0.2.2.2.2.2.2.2.2.2.1
theorem dX3_caseNumber_12 : decode cX3_caseNumber 12 = .ok (.iadd, 1) := da9_dX3_caseNumber_0.2.2.2.2.2.2.2.2.2.2.1
theorem dX3_caseNumber_13 : decode cX3_caseNumber 13 = .ok (.iconst 2, 1) := da9_dX3_caseNumber_0.2.2.2.2.2.2.2.2.2.2.2.1
theorem dX3_caseNumber_14 : decode cX3_caseNumber 14 = .ok (.imul, 1) := da9_dX3_caseNumber_0.2.2.2.2.2.2.2.2.2.2.2.2.1
theorem dX3_caseNumber_15 : decode cX3_caseNumber 15 = .ok (.iload_n 3, 1) := da9_dX3_caseNumber_0.2.2.2.2.2.2.2.2.2.2.2.2.2.1
theorem dX3_caseNumber_16 : decode cX3_caseNumber 16 = .ok (.iadd, 1) := da9_dX3_caseNumber_0.2.2.2.2.2.2.2.2.2.2.2.2.2.2.1
theorem dX3_caseNumber_17 : decode cX3_caseNumber 17 = .ok (.ireturn, 1) := da9_dX3_caseNumber_0.2.2.2.2.2.2.2.2.2.2.2.2.2.2.2
set_option maxRecDepth 20000 in
theorem ggX3_makeRoom_X3_listOrder : GoodIn wsX3_makeRoom wsX3_listOrder := wd_c vW9_ok mvW9_486
set_option maxRecDepth 20000 in
theorem gX3_makeRoom_X3_listOrder : GoodIn wsX3_makeRoom (wsV RX3 191 RX3 yX3_listOrder wsX3_listOrder) := goodIn_app (wd_l vW9_ok _ pvW9_32) ggX3_makeRoom_X3_listOrder
set_option maxRecDepth 20000 in
theorem ggX3_makeRoom_X3_headsTurned : GoodIn wsX3_makeRoom wsX3_headsTurned := wd_c vW9_ok mvW9_497
set_option maxRecDepth 20000 in
theorem gX3_makeRoom_X3_headsTurned : GoodIn wsX3_makeRoom (va_wsS RX3 194 yX3_headsTurned wsX3_headsTurned) := goodIn_app (wd_l vW9_ok _ pvW9_33) ggX3_makeRoom_X3_headsTurned
theorem da9_dX3_makeRoom_0 : (decode cX3_makeRoom 0 = .ok (.aload_n 0, 1)) ∧ (decode cX3_makeRoom 1 = .ok (.aload_n 0, 1)) ∧ (decode cX3_makeRoom 2 = .ok (.getfield 55, 3)) ∧ (decode cX3_makeRoom 5 = .ok (.newarray .int, 2)) ∧ (decode cX3_makeRoom 7 = .ok (.putfield 39, 3)) ∧ (decode cX3_makeRoom 10 = .ok (.aload_n 0, 1)) ∧ (decode cX3_makeRoom 11 = .ok (.aload_n 0, 1)) ∧ (decode cX3_makeRoom 12 = .ok (.getfield 55, 3)) ∧ (decode cX3_makeRoom 15 = .ok (.newarray .int, 2)) ∧ (decode cX3_makeRoom 17 = .ok (.putfield 42, 3)) ∧ (decode cX3_makeRoom 20 = .ok (.aload_n 0, 1)) ∧ (decode cX3_makeRoom 21 = .ok (.aload_n 0, 1)) ∧ (decode cX3_makeRoom 22 = .ok (.getfield 55, 3)) ∧ (decode cX3_makeRoom 25 = .ok (.newarray .int, 2)) ∧ (decode cX3_makeRoom 27 = .ok (.putfield 45, 3)) ∧ (decode cX3_makeRoom 30 = .ok (.aload_n 0, 1)) := by decide +kernel
theorem dX3_makeRoom_0 : decode cX3_makeRoom 0 = .ok (.aload_n 0, 1) := da9_dX3_makeRoom_0.1
theorem dX3_makeRoom_1 : decode cX3_makeRoom 1 = .ok (.aload_n 0, 1) := da9_dX3_makeRoom_0.2.1
theorem dX3_makeRoom_2 : decode cX3_makeRoom 2 = .ok (.getfield 55, 3) := da9_dX3_makeRoom_0.2.2.1
theorem dX3_makeRoom_5 : decode cX3_makeRoom 5 = .ok (.newarray .int, 2) := da9_dX3_makeRoom_0.2.2.2.1
theorem dX3_makeRoom_7 : decode cX3_makeRoom 7 = .ok (.putfield 39, 3) := da9_dX3_makeRoom_0.2.2.2.2.1
theorem dX3_makeRoom_10 : decode cX3_makeRoom 10 = .ok (.aload_n 0, 1) := da9_dX3_makeRoom_0.2.2.2.2.2.1
theorem dX3_makeRoom_11 : decode cX3_makeRoom 11 = .ok (.aload_n 0, 1) := da9_dX3_makeRoom_0.2.2.2.2.2.2.1
theorem dX3_makeRoom_12 : decode cX3_makeRoom 12 = .ok (.getfield 55, 3) := da9_dX3_makeRoom_0.2.2.2.2.2.2.2.1
theorem dX3_makeRoom_15 : decode cX3_makeRoom 15 = .ok (.newarray .int, 2) := da9_dX3_makeRoom_0.2.2.2.2.2.2.2.2.1
theorem dX3_makeRoom_17 : decode cX3_makeRoom 17 = .ok (.putfield 42, 3) := da9_dX3_makeRoom_0.2.2.2.2.2.2.2.2.2.1
theorem dX3_makeRoom_20 : decode cX3_makeRoom 20 = .ok (.aload_n 0, 1) := da9_dX3_makeRoom_0.2.2.2.2.2.2.2.2.2.2.1
theorem dX3_makeRoom_21 : decode cX3_makeRoom 21 = .ok (.aload_n 0, 1) := da9_dX3_makeRoom_0.2.2.2.2.2.2.2.2.2.2.2.1
theorem dX3_makeRoom_22 : decode cX3_makeRoom 22 = .ok (.getfield 55, 3) := da9_dX3_makeRoom_0.2.2.2.2.2.2.2.2.2.2.2.2.1
theorem dX3_makeRoom_25 : decode cX3_makeRoom 25 = .ok (.newarray .int, 2) := da9_dX3_makeRoom_0.2.2.2.2.2.2.2.2.2.2.2.2.2.1
theorem dX3_makeRoom_27 : decode cX3_makeRoom 27 = .ok (.putfield 45, 3) := da9_dX3_makeRoom_0.2.2.2.2.2.2.2.2.2.2.2.2.2.2.1
theorem dX3_makeRoom_30 : decode cX3_makeRoom 30 = .ok (.aload_n 0, 1) := da9_dX3_makeRoom_0.2.2.2.2.2.2.2.2.2.2.2.2.2.2.2
theorem da9_dX3_makeRoom_31 : (decode cX3_makeRoom 31 = .ok (.aload_n 0, 1)) ∧ (decode cX3_makeRoom 32 = .ok (.getfield 55, 3)) ∧ (decode cX3_makeRoom 35 = .ok (.newarray .int, 2)) ∧ (decode cX3_makeRoom 37 = .ok (.putfield 48, 3)) ∧ (decode cX3_makeRoom 40 = .ok (.aload_n 0, 1)) ∧ (decode cX3_makeRoom 41 = .ok (.getstatic 76, 3)) ∧ (decode cX3_makeRoom 44 = .ok (.aload_n 0, 1)) ∧ (decode cX3_makeRoom 45 = .ok (.getfield 51, 3)) ∧ (decode cX3_makeRoom 48 = .ok (.iaload, 1)) ∧ (decode cX3_makeRoom 49 = .ok (.newarray .int, 2)) ∧ (decode cX3_makeRoom 51 = .ok (.putfield 30, 3)) ∧ (decode cX3_makeRoom 54 = .ok (.aload_n 0, 1)) ∧ (decode cX3_makeRoom 55 = .ok (.getstatic 76, 3)) ∧ (decode cX3_makeRoom 58 = .ok (.aload_n 0, 1)) ∧ (decode cX3_makeRoom 59 = .ok (.getfield 51, 3)) ∧ (decode cX3_makeRoom 62 = .ok (.iaload, 1)) := by decide +kernel
theorem dX3_makeRoom_31 : decode cX3_makeRoom 31 = .ok (.aload_n 0, 1) := da9_dX3_makeRoom_31.1
theorem dX3_makeRoom_32 : decode cX3_makeRoom 32 = .ok (.getfield 55, 3) := da9_dX3_makeRoom_31.2.1
theorem dX3_makeRoom_35 : decode cX3_makeRoom 35 = .ok (.newarray .int, 2) := da9_dX3_makeRoom_31.2.2.1
theorem dX3_makeRoom_37 : decode cX3_makeRoom 37 = .ok (.putfield 48, 3) := da9_dX3_makeRoom_31.2.2.2.1
theorem dX3_makeRoom_40 : decode cX3_makeRoom 40 = .ok (.aload_n 0, 1) := da9_dX3_makeRoom_31.2.2.2.2.1
theorem dX3_makeRoom_41 : decode cX3_makeRoom 41 = .ok (.getstatic 76, 3) := da9_dX3_makeRoom_31.2.2.2.2.2.1
theorem dX3_makeRoom_44 : decode cX3_makeRoom 44 = .ok (.aload_n 0, 1) := da9_dX3_makeRoom_31.2.2.2.2.2.2.1
theorem dX3_makeRoom_45 : decode cX3_makeRoom 45 = .ok (.getfield 51, 3) := da9_dX3_makeRoom_31.2.2.2.2.2.2.2.1
theorem dX3_makeRoom_48 : decode cX3_makeRoom 48 = .ok (.iaload, 1) := da9_dX3_makeRoom_31.2.2.2.2.2.2.2.2.1
theorem dX3_makeRoom_49 : decode cX3_makeRoom 49 = .ok (.newarray .int, 2) := da9_dX3_makeRoom_31.2.2.2.2.2.2.2.2.2.1
theorem dX3_makeRoom_51 : decode cX3_makeRoom 51 = .ok (.putfield 30, 3) := da9_dX3_makeRoom_31.2.2.2.2.2.2.2.2.2.2.1
theorem dX3_makeRoom_54 : decode cX3_makeRoom 54 = .ok (.aload_n 0, 1) := da9_dX3_makeRoom_31.2.2.2.2.2.2.2.2.2.2.2.1
theorem dX3_makeRoom_55 : decode cX3_makeRoom 55 = .ok (.getstatic 76, 3) := da9_dX3_makeRoom_31.2.2.2.2.2.2.2.2.2.2.2.2.1
theorem dX3_makeRoom_58 : decode cX3_makeRoom 58 = .ok (.aload_n 0, 1) := da9_dX3_makeRoom_31.2.2.2.2.2.2.2.2.2.2.2.2.2.1
theorem dX3_makeRoom_59 : decode cX3_makeRoom 59 = .ok (.getfield 51, 3) := da9_dX3_makeRoom_31.2.2.2.2.2.2.2.2.2.2.2.2.2.2.1
theorem dX3_makeRoom_62 : decode cX3_makeRoom 62 = .ok (.iaload, 1) := da9_dX3_makeRoom_31.2.2.2.2.2.2.2.2.2.2.2.2.2.2.2
theorem da9_dX3_makeRoom_63 : (decode cX3_makeRoom 63 = .ok (.bipush 6, 2)) ∧ (decode cX3_makeRoom 65 = .ok (.imul, 1)) ∧ (decode cX3_makeRoom 66 = .ok (.newarray .int, 2)) ∧ (decode cX3_makeRoom 68 = .ok (.putfield 33, 3)) ∧ (decode cX3_makeRoom 71 = .ok (.aload_n 0, 1)) ∧ (decode cX3_makeRoom 72 = .ok (.bipush 6, 2)) ∧ (decode cX3_makeRoom 74 = .ok (.aload_n 0, 1)) ∧ (decode cX3_makeRoom 75 = .ok (.getfield 51, 3)) ∧ (decode cX3_makeRoom 78 = .ok (.ishl, 1)) ∧ (decode cX3_makeRoom 79 = .ok (.newarray .int, 2)) ∧ (decode cX3_makeRoom 81 = .ok (.putfield 36, 3)) ∧ (decode cX3_makeRoom 84 = .ok (.aload_n 0, 1)) ∧ (decode cX3_makeRoom 85 = .ok (.iconst (-1), 1)) ∧ (decode cX3_makeRoom 86 = .ok (.putfield 64, 3)) ∧ (decode cX3_makeRoom 89 = .ok (.iconst 0, 1)) ∧ (decode cX3_makeRoom 90 = .ok (.istore_n 1, 1)) := by decide +kernel
theorem dX3_makeRoom_63 : decode cX3_makeRoom 63 = .ok (.bipush 6, 2) := da9_dX3_makeRoom_63.1
theorem dX3_makeRoom_65 : decode cX3_makeRoom 65 = .ok (.imul, 1) := da9_dX3_makeRoom_63.2.1
theorem dX3_makeRoom_66 : decode cX3_makeRoom 66 = .ok (.newarray .int, 2) := da9_dX3_makeRoom_63.2.2.1
theorem dX3_makeRoom_68 : decode cX3_makeRoom 68 = .ok (.putfield 33, 3) := da9_dX3_makeRoom_63.2.2.2.1
theorem dX3_makeRoom_71 : decode cX3_makeRoom 71 = .ok (.aload_n 0, 1) := da9_dX3_makeRoom_63.2.2.2.2.1
theorem dX3_makeRoom_72 : decode cX3_makeRoom 72 = .ok (.bipush 6, 2) := da9_dX3_makeRoom_63.2.2.2.2.2.1
theorem dX3_makeRoom_74 : decode cX3_makeRoom 74 = .ok (.aload_n 0, 1) := da9_dX3_makeRoom_63.2.2.2.2.2.2.1
theorem dX3_makeRoom_75 : decode cX3_makeRoom 75 = .ok (.getfield 51, 3) := da9_dX3_makeRoom_63.2.2.2.2.2.2.2.1
theorem dX3_makeRoom_78 : decode cX3_makeRoom 78 = .ok (.ishl, 1) := da9_dX3_makeRoom_63.2.2.2.2.2.2.2.2.1
theorem dX3_makeRoom_79 : decode cX3_makeRoom 79 = .ok (.newarray .int, 2) := da9_dX3_makeRoom_63.2.2.2.2.2.2.2.2.2.1
theorem dX3_makeRoom_81 : decode cX3_makeRoom 81 = .ok (.putfield 36, 3) := da9_dX3_makeRoom_63.2.2.2.2.2.2.2.2.2.2.1
theorem dX3_makeRoom_84 : decode cX3_makeRoom 84 = .ok (.aload_n 0, 1) := da9_dX3_makeRoom_63.2.2.2.2.2.2.2.2.2.2.2.1
theorem dX3_makeRoom_85 : decode cX3_makeRoom 85 = .ok (.iconst (-1), 1) := da9_dX3_makeRoom_63.2.2.2.2.2.2.2.2.2.2.2.2.1
theorem dX3_makeRoom_86 : decode cX3_makeRoom 86 = .ok (.putfield 64, 3) := da9_dX3_makeRoom_63.2.2.2.2.2.2.2.2.2.2.2.2.2.1
theorem dX3_makeRoom_89 : decode cX3_makeRoom 89 = .ok (.iconst 0, 1) := da9_dX3_makeRoom_63.2.2.2.2.2.2.2.2.2.2.2.2.2.2.1
theorem dX3_makeRoom_90 : decode cX3_makeRoom 90 = .ok (.istore_n 1, 1) := da9_dX3_makeRoom_63.2.2.2.2.2.2.2.2.2.2.2.2.2.2.2
theorem da9_dX3_makeRoom_91 : (decode cX3_makeRoom 91 = .ok (.iload_n 1, 1)) ∧ (decode cX3_makeRoom 92 = .ok (.aload_n 0, 1)) ∧ (decode cX3_makeRoom 93 = .ok (.getfield 30, 3)) ∧ (decode cX3_makeRoom 96 = .ok (.arraylength, 1)) ∧ (decode cX3_makeRoom 97 = .ok (.if_icmp .ge 14, 3)) ∧ (decode cX3_makeRoom 100 = .ok (.aload_n 0, 1)) ∧ (decode cX3_makeRoom 101 = .ok (.iload_n 1, 1)) ∧ (decode cX3_makeRoom 102 = .ok (.invokevirtual 191, 3)) ∧ (decode cX3_makeRoom 105 = .ok (.iinc 1 1, 3)) ∧ (decode cX3_makeRoom 108 = .ok (.goto (-17), 3)) ∧ (decode cX3_makeRoom 111 = .ok (.iconst 0, 1)) ∧ (decode cX3_makeRoom 112 = .ok (.istore_n 1, 1)) ∧ (decode cX3_makeRoom 113 = .ok (.iload_n 1, 1)) ∧ (decode cX3_makeRoom 114 = .ok (.iconst 1, 1)) ∧ (decode cX3_makeRoom 115 = .ok (.aload_n 0, 1)) ∧ (decode cX3_makeRoom 116 = .ok (.getfield 51, 3)) := by decide +kernel
theorem dX3_makeRoom_91 : decode cX3_makeRoom 91 = .ok (.iload_n 1, 1) := da9_dX3_makeRoom_91.1
theorem dX3_makeRoom_92 : decode cX3_makeRoom 92 = .ok (.aload_n 0, 1) := da9_dX3_makeRoom_91.2.1
theorem dX3_makeRoom_93 : decode cX3_makeRoom 93 = .ok (.getfield 30, 3) := da9_dX3_makeRoom_91.2.2.1
theorem dX3_makeRoom_96 : decode cX3_makeRoom 96 = .ok (.arraylength, 1) := da9_dX3_makeRoom_91.2.2.2.1
theorem dX3_makeRoom_97 : decode cX3_makeRoom 97 = .ok (.if_icmp .ge 14, 3) := da9_dX3_makeRoom_91.2.2.2.2.1
theorem dX3_makeRoom_100 : decode cX3_makeRoom 100 = .ok (.aload_n 0, 1) := da9_dX3_makeRoom_91.2.2.2.2.2.1
theorem dX3_makeRoom_101 : decode cX3_makeRoom 101 = .ok (.iload_n 1, 1) := da9_dX3_makeRoom_91.2.2.2.2.2.2.1
theorem dX3_makeRoom_102 : decode cX3_makeRoom 102 = .ok (.invokevirtual 191, 3) := da9_dX3_makeRoom_91.2.2.2.2.2.2.2.1
theorem dX3_makeRoom_105 : decode cX3_makeRoom 105 = .ok (.iinc 1 1, 3) := da9_dX3_makeRoom_91.2.2.2.2.2.2.2.2.1
theorem dX3_makeRoom_108 : decode cX3_makeRoom 108 = .ok (.goto (-17), 3) := da9_dX3_makeRoom_91.2.2.2.2.2.2.2.2.2.1
theorem dX3_makeRoom_111 : decode cX3_makeRoom 111 = .ok (.iconst 0, 1) := da9_dX3_makeRoom_91.2.2.2.2.2.2.2.2.2.2.1
theorem dX3_makeRoom_112 : decode cX3_makeRoom 112 = .ok (.istore_n 1, 1) := da9_dX3_makeRoom_91.2.2.2.2.2.2.2.2.2.2.2.1
theorem dX3_makeRoom_113 : decode cX3_makeRoom 113 = .ok (.iload_n 1, 1) := da9_dX3_makeRoom_91.2.2.2.2.2.2.2.2.2.2.2.2.1
theorem dX3_makeRoom_114 : decode cX3_makeRoom 114 = .ok (.iconst 1, 1) := da9_dX3_makeRoom_91.2.2.2.2.2.2.2.2.2.2.2.2.2.1
theorem dX3_makeRoom_115 : decode cX3_makeRoom 115 = .ok (.aload_n 0, 1) := da9_dX3_makeRoom_91.2.2.2.2.2.2.2.2.2.2.2.2.2.2.1
theorem dX3_makeRoom_116 : decode cX3_makeRoom 116 = .ok (.getfield 51, 3) := da9_dX3_makeRoom_91.2.2.2.2.2.2.2.2.2.2.2.2.2.2.2
theorem da9_dX3_makeRoom_119 : (decode cX3_makeRoom 119 = .ok (.ishl, 1)) ∧ (decode cX3_makeRoom 120 = .ok (.if_icmp .ge 43, 3)) ∧ (decode cX3_makeRoom 123 = .ok (.iconst 1, 1)) ∧ (decode cX3_makeRoom 124 = .ok (.istore_n 2, 1)) ∧ (decode cX3_makeRoom 125 = .ok (.iload_n 2, 1)) ∧ (decode cX3_makeRoom 126 = .ok (.aload_n 0, 1)) ∧ (decode cX3_makeRoom 127 = .ok (.getfield 51, 3)) ∧ (decode cX3_makeRoom 130 = .ok (.if_icmp .gt 27, 3)) ∧ (decode cX3_makeRoom 133 = .ok (.aload_n 0, 1)) ∧ (decode cX3_makeRoom 134 = .ok (.getfield 36, 3)) ∧ (decode cX3_makeRoom 137 = .ok (.iload_n 1, 1)) ∧ (decode cX3_makeRoom 138 = .ok (.bipush 6, 2)) ∧ (decode cX3_makeRoom 140 = .ok (.imul, 1)) ∧ (decode cX3_makeRoom 141 = .ok (.iload_n 2, 1)) ∧ (decode cX3_makeRoom 142 = .ok (.iadd, 1)) ∧ (decode cX3_makeRoom 143 = .ok (.iconst 1, 1)) := by decide +kernel
theorem dX3_makeRoom_119 : decode cX3_makeRoom 119 = .ok (.ishl, 1) := da9_dX3_makeRoom_119.1
theorem dX3_makeRoom_120 : decode cX3_makeRoom 120 = .ok (.if_icmp .ge 43, 3) := da9_dX3_makeRoom_119.2.1
theorem dX3_makeRoom_123 : decode cX3_makeRoom 123 = .ok (.iconst 1, 1) := da9_dX3_makeRoom_119.2.2.1
theorem dX3_makeRoom_124 : decode cX3_makeRoom 124 = .ok (.istore_n 2, 1) := da9_dX3_makeRoom_119.2.2.2.1
theorem dX3_makeRoom_125 : decode cX3_makeRoom 125 = .ok (.iload_n 2, 1) := da9_dX3_makeRoom_119.2.2.2.2.1
theorem dX3_makeRoom_126 : decode cX3_makeRoom 126 = .ok (.aload_n 0, 1) := da9_dX3_makeRoom_119.2.2.2.2.2.1
theorem dX3_makeRoom_127 : decode cX3_makeRoom 127 = .ok (.getfield 51, 3) := da9_dX3_makeRoom_119.2.2.2.2.2.2.1
theorem dX3_makeRoom_130 : decode cX3_makeRoom 130 = .ok (.if_icmp .gt 27, 3) := da9_dX3_makeRoom_119.2.2.2.2.2.2.2.1
theorem dX3_makeRoom_133 : decode cX3_makeRoom 133 = .ok (.aload_n 0, 1) := da9_dX3_makeRoom_119.2.2.2.2.2.2.2.2.1
theorem dX3_makeRoom_134 : decode cX3_makeRoom 134 = .ok (.getfield 36, 3) := da9_dX3_makeRoom_119.2.2.2.2.2.2.2.2.2.1
theorem dX3_makeRoom_137 : decode cX3_makeRoom 137 = .ok (.iload_n 1, 1) := da9_dX3_makeRoom_119.2.2.2.2.2.2.2.2.2.2.1
theorem dX3_makeRoom_138 : decode cX3_makeRoom 138 = .ok (.bipush 6, 2) := da9_dX3_makeRoom_119.2.2.2.2.2.2.2.2.2.2.2.1
theorem dX3_makeRoom_140 : decode cX3_makeRoom 140 = .ok (.imul, 1) := da9_dX3_makeRoom_119.2.2.2.2.2.2.2.2.2.2.2.2.1
theorem dX3_makeRoom_141 : decode cX3_makeRoom 141 = .ok (.iload_n 2, 1) := da9_dX3_makeRoom_119.2.2.2.2.2.2.2.2.2.2.2.2.2.1
theorem dX3_makeRoom_142 : decode cX3_makeRoom 142 = .ok (.iadd, 1) := da9_dX3_makeRoom_119.2.2.2.2.2.2.2.2.2.2.2.2.2.2.1
theorem dX3_makeRoom_143 : decode cX3_makeRoom 143 = .ok (.iconst 1, 1) := da9_dX3_makeRoom_119.2.2.2.2.2.2.2.2.2.2.2.2.2.2.2
theorem da9_dX3_makeRoom_144 : (decode cX3_makeRoom 144 = .ok (.isub, 1)) ∧ (decode cX3_makeRoom 145 = .ok (.iload_n 1, 1)) ∧ (decode cX3_makeRoom 146 = .ok (.iload_n 2, 1)) ∧ (decode cX3_makeRoom 147 = .ok (.invokestatic 194, 3)) ∧ (decode cX3_makeRoom 150 = .ok (.iastore, 1)) ∧ (decode cX3_makeRoom 151 = .ok (.iinc 2 1, 3)) ∧ (decode cX3_makeRoom 154 = .ok (.goto (-29), 3)) ∧ (decode cX3_makeRoom 157 = .ok (.iinc 1 1, 3)) ∧ (decode cX3_makeRoom 160 = .ok (.goto (-47), 3)) ∧ (decode cX3_makeRoom 163 = .ok (.return_, 1)) := by decide +kernel
theorem dX3_makeRoom_144 : decode cX3_makeRoom 144 = .ok (.isub, 1) := da9_dX3_makeRoom_144.1
theorem dX3_makeRoom_145 : decode cX3_makeRoom 145 = .ok (.iload_n 1, 1) := da9_dX3_makeRoom_144.2.1
theorem dX3_makeRoom_146 : decode cX3_makeRoom 146 = .ok (.iload_n 2, 1) := da9_dX3_makeRoom_144.2.2.1
theorem dX3_makeRoom_147 : decode cX3_makeRoom 147 = .ok (.invokestatic 194, 3) := da9_dX3_makeRoom_144.2.2.2.1
theorem dX3_makeRoom_150 : decode cX3_makeRoom 150 = .ok (.iastore, 1) := da9_dX3_makeRoom_144.2.2.2.2.1
theorem dX3_makeRoom_151 : decode cX3_makeRoom 151 = .ok (.iinc 2 1, 3) := da9_dX3_makeRoom_144.2.2.2.2.2.1
theorem dX3_makeRoom_154 : decode cX3_makeRoom 154 = .ok (.goto (-29), 3) := da9_dX3_makeRoom_144.2.2.2.2.2.2.1
theorem dX3_makeRoom_157 : decode cX3_makeRoom 157 = .ok (.iinc 1 1, 3) := da9_dX3_makeRoom_144.2.2.2.2.2.2.2.1
theorem dX3_makeRoom_160 : decode cX3_makeRoom 160 = .ok (.goto (-47), 3) := da9_dX3_makeRoom_144.2.2.2.2.2.2.2.2.1
theorem dX3_makeRoom_163 : decode cX3_makeRoom 163 = .ok (.return_, 1) := da9_dX3_makeRoom_144.2.2.2.2.2.2.2.2.2
end
section
theorem u9_wsX3_makeRoom_X3 : ∀ w ∈ u_ws RX3 TX3 20, w ∈ wsX3_makeRoom := fun w h => List.mem_cons_of_mem _ (vW9_wsX30 w h)
theorem f9_wsX3_makeRoom_728 : (Cond.fieldLink RX3 51 "TurnedFloors$Paper" "floors" "I") ∈ wsX3_makeRoom := List.mem_cons_of_mem _ mvW9_463
theorem f9_wsX3_makeRoom_729 : (Cond.fieldLink RX3 36 "TurnedFloors$Paper" "turnedHeads" "[I") ∈ wsX3_makeRoom := List.mem_cons_of_mem _ mvW9_481
theorem f9_wsX3_makeRoom_730 : (Cond.fieldLink RX3 30 "TurnedFloors$Paper" "orders" "[I") ∈ wsX3_makeRoom := List.mem_cons_of_mem _ mvW9_479
theorem f9_wsX3_makeRoom_731 : (Cond.fieldLink RX3 55 "TurnedFloors$Paper" "size" "I") ∈ wsX3_makeRoom := List.mem_cons_of_mem _ mvW9_466
theorem f9_wsX3_makeRoom_732 : (Cond.arrayClass .int) ∈ wsX3_makeRoom := List.mem_cons_of_mem _ mvW9_351
theorem f9_wsX3_makeRoom_733 : (Cond.fieldLink RX3 39 "TurnedFloors$Paper" "toOrder" "[I") ∈ wsX3_makeRoom := List.mem_cons_of_mem _ mvW9_467
theorem f9_wsX3_makeRoom_734 : (Cond.fieldLink RX3 42 "TurnedFloors$Paper" "marks" "[I") ∈ wsX3_makeRoom := List.mem_cons_of_mem _ mvW9_476
theorem f9_wsX3_makeRoom_735 : (Cond.fieldLink RX3 45 "TurnedFloors$Paper" "line" "[I") ∈ wsX3_makeRoom := List.mem_cons_of_mem _ mvW9_477
theorem f9_wsX3_makeRoom_736 : (Cond.fieldLink RX3 48 "TurnedFloors$Paper" "links" "[I") ∈ wsX3_makeRoom := List.mem_cons_of_mem _ mvW9_478
theorem f9_wsX3_makeRoom_737 : (Cond.fieldLink RX3 76 "TurnedFloors$Paper" "FACTORIALS" "[I") ∈ wsX3_makeRoom := List.mem_cons_of_mem _ mvW9_465
theorem f9_wsX3_makeRoom_738 : (Cond.fieldLink RX3 33 "TurnedFloors$Paper" "turnedOrders" "[I") ∈ wsX3_makeRoom := List.mem_cons_of_mem _ mvW9_480
theorem f9_wsX3_makeRoom_739 : (Cond.fieldLink RX3 64 "TurnedFloors$Paper" "measuredFloors" "I") ∈ wsX3_makeRoom := List.mem_cons_of_mem _ mvW9_482
set_option maxHeartbeats 4000000 in
set_option maxRecDepth 100000 in
theorem WX3_makeRoom_s32_125b {p : Program} {l : Launch} {e : Env} {s : State} {m : MethodId} {args : Array Value} {below : List Frame} {meth : Method} {c : Code} {D : va_G} {ty : Nat → ClassId} {eo : Nat → Nat} {A : Nat → Prop} {ad : Nat → Nat} {o2 : dK} {nc ns : Nat} {ad0 : Nat → Nat} (hag : dAg ad0 ad) (C : dc_C p s m args meth c cX3_makeRoom none 3 RX3 wsX3_makeRoom D ty eo A) {k113 : dK → Int32 → Option (dK)} {k125 : dK → Int32 → Int32 → Option (dK)} (hk113 : ∀ (q : dK) (x1 : Int32) (H : Heap) (locs : List Loc) (ls : Array Slot), k113 q x1 = some o2 → va_P D vwCl (wF ty ad q) H → va_D A (wF ty ad q) → va_S A s.heap H locs → lv_has ls 3 [(0, .ref (ad 32)), (1, .int x1)] → W p l e ({ frames := 3, cells := nc, slots := ns, locals := 69 } : Room) s m args below meth c H locs nc ns (MQ below (va_Qv (fun (u : va_W) => ∃ ad9 : Nat → Nat, dAg ad0 ad9 ∧ wF ty ad9 o2 = u) (kz_B D ty A) A) args s nc ns A) (F0 m 113 ls [])) (hk125 : ∀ (q : dK) (x1 : Int32) (x2 : Int32) (H : Heap) (locs : List Loc) (ls : Array Slot), k125 q x1 x2 = some o2 → va_P D vwCl (wF ty ad q) H → va_D A (wF ty ad q) → va_S A s.heap H locs → lv_has ls 3 [(0, .ref (ad 32)), (1, .int x1), (2, .int x2)] → W p l e ({ frames := 3, cells := nc, slots := ns, locals := 69 } : Room) s m args below meth c H locs nc ns (MQ below (va_Qv (fun (u : va_W) => ∃ ad9 : Nat → Nat, dAg ad0 ad9 ∧ wF ty ad9 o2 = u) (kz_B D ty A) A) args s nc ns A) (F0 m 125 ls [])) (q : dK) (x1 : Int32) (x2 : Int32) (H : Heap) (locs : List Loc) (ls : Array Slot) (h : zX3_makeRoom_s32_125b nc ns k113 k125 q x1 x2 = some o2) (hP : va_P D vwCl (wF ty ad q) H) (hD : va_D A (wF ty ad q)) (hS : va_S A s.heap H locs) (hl : lv_has ls 3 [(0, .ref (ad 32)), (1, .int x1), (2, .int x2)]) : W p l e ({ frames := 3, cells := nc, slots := ns, locals := 69 } : Room) s m args below meth c H locs nc ns (MQ below (va_Qv (fun (u : va_W) => ∃ ad9 : Nat → Nat, dAg ad0 ad9 ∧ wF ty ad9 o2 = u) (kz_B D ty A) A) args s nc ns A) (F0 m 125 ls []) := by
  have C0 := C
  obtain ⟨hx, hb, hr, hts, hown, hlocks, hml, hK, hN, hE, hA⟩ := C
  unfold zX3_makeRoom_s32_125b at h
  refine lv_iload_n hx hb dX3_makeRoom_125 rfl (lv_at hl 2 rfl) ?_
  refine lv_aload_n hx hb dX3_makeRoom_126 rfl (lv_at hl 0 rfl) ?_
  refine va_get (D := D) (ci := 3) (v := .int (q.1 32 13)) (C := RX3) (T := TX3) (N := 20) hx hb hts u9_wsX3_makeRoom_X3 hown hK hP 32 rfl rfl 13 (by decide) (hts (.fieldLink RX3 51 "TurnedFloors$Paper" "floors" "I") f9_wsX3_makeRoom_728) (fun _ h9 => h9) rfl dX3_makeRoom_127 ?_
  refine lv_icmp_gt (tgt := 157) hx hb dX3_makeRoom_130 (by decide) (fun c9 => ?_) (fun c9 => ?_)
  · rw [if_pos c9] at h
    refine lv_iinc (v := x1 + 1) (lv' := [(1, .int (x1 + 1)), (0, .ref (ad 32)), (2, .int x2)]) hx hb dX3_makeRoom_157 hl (k := 1) rfl rfl (by decide) rfl (fun ls hl => ?_)
    refine lv_goto (tgt := 113) hx hb dX3_makeRoom_160 (by decide) ?_
    exact hk113 _ _ _ _ _ h hP hD hS (lv_sub hl [1, 0] rfl)
  · rw [if_neg c9] at h
    refine lv_aload_n hx hb dX3_makeRoom_133 rfl (lv_at hl 0 rfl) ?_
    refine va_get (D := D) (ci := 3) (v := .ref (ad 41)) (C := RX3) (T := TX3) (N := 20) hx hb hts u9_wsX3_makeRoom_X3 hown hK hP 32 rfl rfl 8 (by decide) (hts (.fieldLink RX3 36 "TurnedFloors$Paper" "turnedHeads" "[I") f9_wsX3_makeRoom_729) (fun _ h9 => h9) rfl dX3_makeRoom_134 ?_
    refine lv_iload_n hx hb dX3_makeRoom_137 rfl (lv_at hl 1 rfl) ?_
    refine lv_bipush (v := 6) hx hb dX3_makeRoom_138 (by decide) ?_
    refine lv_imul hx hb dX3_makeRoom_140 ?_
    refine lv_iload_n hx hb dX3_makeRoom_141 rfl (lv_at hl 2 rfl) ?_
    refine lv_iadd hx hb dX3_makeRoom_142 ?_
    refine lv_iconst (v := 1) hx hb dX3_makeRoom_143 (by decide) ?_
    refine lv_isub hx hb dX3_makeRoom_144 ?_
    refine lv_iload_n hx hb dX3_makeRoom_145 rfl (lv_at hl 1 rfl) ?_
    refine lv_iload_n hx hb dX3_makeRoom_146 rfl (lv_at hl 2 rfl) ?_
    obtain ⟨r1, h2, h⟩ := dV_some h
    refine dw_ks (va_runS (As := [.int x1, .int x2]) (rest := [.int (((x1 * 6 : Int32) + x2) - 1 : Int32), .ref (ad 41)]) ⟨hx, hb, hml, hown, hts⟩ (qX3_headsTurned l D ty eo _ x1 x2 _ h2) (va_cwS 2 hts gX3_makeRoom_X3_headsTurned rfl rfl rfl hd_X3_headsTurned ⟨Nat.le_of_ble_eq_true rfl, Nat.le_of_ble_eq_true rfl⟩) (pvS_0 hK hN hE hP hD hS hA) rfl rfl hl.1 rfl (lv_room (Nat.le_of_ble_eq_true rfl)) dX3_makeRoom_147 ⟨Nat.le_refl _, Nat.le_refl _⟩) hP hD hS hA (fun _ _ h9 => h9.2.symm) (fun r9 u9 H locs hw hp hd hs => ?_)
    obtain ⟨rfl, -⟩ := hw
    clear hP hD hS
    have hP := hp; have hD := hd; have hS := hs; clear hp hd hs
    obtain ⟨g3, h⟩ := dG_some h
    refine va_iast hx hb hK hP hD hS 41 0 rfl rfl (dg_in g3) dX3_makeRoom_150 (fun H locs hp hd hs => ?_)
    obtain ⟨q4, eq4, h⟩ := dL_some h
    refine kz_re (w2 := wF ty ad q4) hp hd hs (by rw [← eq4]; exact wF_a41 ty ad q (Int32.toNatClampNeg (((x1 * 6 : Int32) + x2) - 1 : Int32)) r1) ?_
    clear hp hd hs hP hD hS
    intro hP hD hS
    refine lv_iinc (v := x2 + 1) (lv' := [(2, .int (x2 + 1)), (0, .ref (ad 32)), (1, .int x1)]) hx hb dX3_makeRoom_151 hl (k := 2) rfl rfl (by decide) rfl (fun ls hl => ?_)
    refine lv_goto (tgt := 125) hx hb dX3_makeRoom_154 (by decide) ?_
    exact hk125 _ _ _ _ _ _ h hP hD hS (lv_sub hl [1, 2, 0] rfl)
set_option maxHeartbeats 4000000 in
set_option maxRecDepth 100000 in
theorem WX3_makeRoom_s32_125 {p : Program} {l : Launch} {e : Env} {s : State} {m : MethodId} {args : Array Value} {below : List Frame} {meth : Method} {c : Code} {D : va_G} {ty : Nat → ClassId} {eo : Nat → Nat} {A : Nat → Prop} {ad : Nat → Nat} {o2 : dK} {nc ns : Nat} {ad0 : Nat → Nat} (hag : dAg ad0 ad) (C : dc_C p s m args meth c cX3_makeRoom none 3 RX3 wsX3_makeRoom D ty eo A) {k113 : dK → Int32 → Option (dK)} (hk113 : ∀ (q : dK) (x1 : Int32) (H : Heap) (locs : List Loc) (ls : Array Slot), k113 q x1 = some o2 → va_P D vwCl (wF ty ad q) H → va_D A (wF ty ad q) → va_S A s.heap H locs → lv_has ls 3 [(0, .ref (ad 32)), (1, .int x1)] → W p l e ({ frames := 3, cells := nc, slots := ns, locals := 69 } : Room) s m args below meth c H locs nc ns (MQ below (va_Qv (fun (u : va_W) => ∃ ad9 : Nat → Nat, dAg ad0 ad9 ∧ wF ty ad9 o2 = u) (kz_B D ty A) A) args s nc ns A) (F0 m 113 ls [])) (n : Nat) (q : dK) (x1 : Int32) (x2 : Int32) (H : Heap) (locs : List Loc) (ls : Array Slot) (h : zX3_makeRoom_s32_125 nc ns k113 n q x1 x2 = some o2) (hP : va_P D vwCl (wF ty ad q) H) (hD : va_D A (wF ty ad q)) (hS : va_S A s.heap H locs) (hl : lv_has ls 3 [(0, .ref (ad 32)), (1, .int x1), (2, .int x2)]) : W p l e ({ frames := 3, cells := nc, slots := ns, locals := 69 } : Room) s m args below meth c H locs nc ns (MQ below (va_Qv (fun (u : va_W) => ∃ ad9 : Nat → Nat, dAg ad0 ad9 ∧ wF ty ad9 o2 = u) (kz_B D ty A) A) args s nc ns A) (F0 m 125 ls []) := by
  exact dFix_W (F := fun k (a : dK × Int32 × Int32) => zX3_makeRoom_s32_125b nc ns k113 (fun q x1 x2 => k (q, x1, x2)) a.1 a.2.1 a.2.2) (o := o2) (P := fun (a : dK × Int32 × Int32) H locs ls => va_P D vwCl (wF ty ad a.1) H ∧ va_D A (wF ty ad a.1) ∧ va_S A s.heap H locs ∧ lv_has ls 3 [(0, .ref (ad 32)), (1, .int a.2.1), (2, .int a.2.2)]) (G := fun H locs ls => W p l e ({ frames := 3, cells := nc, slots := ns, locals := 69 } : Room) s m args below meth c H locs nc ns (MQ below (va_Qv (fun (u : va_W) => ∃ ad9 : Nat → Nat, dAg ad0 ad9 ∧ wF ty ad9 o2 = u) (kz_B D ty A) A) args s nc ns A) (F0 m 125 ls []))
    (fun k hk a H locs ls h hp => WX3_makeRoom_s32_125b hag C hk113 (fun q x1 x2 H locs ls h h1 h2 h3 h4 => hk (q, x1, x2) H locs ls h ⟨h1, h2, h3, h4⟩) a.1 a.2.1 a.2.2 H locs ls h hp.1 hp.2.1 hp.2.2.1 hp.2.2.2) n (q, x1, x2) H locs ls h ⟨hP, hD, hS, hl⟩
set_option maxHeartbeats 4000000 in
set_option maxRecDepth 100000 in
theorem WX3_makeRoom_s32_113b {p : Program} {l : Launch} {e : Env} {s : State} {m : MethodId} {args : Array Value} {below : List Frame} {meth : Method} {c : Code} {D : va_G} {ty : Nat → ClassId} {eo : Nat → Nat} {A : Nat → Prop} {ad : Nat → Nat} {o2 : dK} {nc ns : Nat} {ad0 : Nat → Nat} (hag : dAg ad0 ad) (C : dc_C p s m args meth c cX3_makeRoom none 3 RX3 wsX3_makeRoom D ty eo A) {k113 : dK → Int32 → Option (dK)} (hk113 : ∀ (q : dK) (x1 : Int32) (H : Heap) (locs : List Loc) (ls : Array Slot), k113 q x1 = some o2 → va_P D vwCl (wF ty ad q) H → va_D A (wF ty ad q) → va_S A s.heap H locs → lv_has ls 3 [(0, .ref (ad 32)), (1, .int x1)] → W p l e ({ frames := 3, cells := nc, slots := ns, locals := 69 } : Room) s m args below meth c H locs nc ns (MQ below (va_Qv (fun (u : va_W) => ∃ ad9 : Nat → Nat, dAg ad0 ad9 ∧ wF ty ad9 o2 = u) (kz_B D ty A) A) args s nc ns A) (F0 m 113 ls [])) (q : dK) (x1 : Int32) (H : Heap) (locs : List Loc) (ls : Array Slot) (h : zX3_makeRoom_s32_113b nc ns k113 q x1 = some o2) (hP : va_P D vwCl (wF ty ad q) H) (hD : va_D A (wF ty ad q)) (hS : va_S A s.heap H locs) (hl : lv_has ls 3 [(0, .ref (ad 32)), (1, .int x1)]) : W p l e ({ frames := 3, cells := nc, slots := ns, locals := 69 } : Room) s m args below meth c H locs nc ns (MQ below (va_Qv (fun (u : va_W) => ∃ ad9 : Nat → Nat, dAg ad0 ad9 ∧ wF ty ad9 o2 = u) (kz_B D ty A) A) args s nc ns A) (F0 m 113 ls []) := by
  have C0 := C
  obtain ⟨hx, hb, hr, hts, hown, hlocks, hml, hK, hN, hE, hA⟩ := C
  unfold zX3_makeRoom_s32_113b at h
  refine lv_iload_n hx hb dX3_makeRoom_113 rfl (lv_at hl 1 rfl) ?_
  refine lv_iconst (v := 1) hx hb dX3_makeRoom_114 (by decide) ?_
  refine lv_aload_n hx hb dX3_makeRoom_115 rfl (lv_at hl 0 rfl) ?_
  refine va_get (D := D) (ci := 3) (v := .int (q.1 32 13)) (C := RX3) (T := TX3) (N := 20) hx hb hts u9_wsX3_makeRoom_X3 hown hK hP 32 rfl rfl 13 (by decide) (hts (.fieldLink RX3 51 "TurnedFloors$Paper" "floors" "I") f9_wsX3_makeRoom_728) (fun _ h9 => h9) rfl dX3_makeRoom_116 ?_
  refine lv_ishl hx hb dX3_makeRoom_119 ?_
  refine lv_icmp_ge (tgt := 163) hx hb dX3_makeRoom_120 (by decide) (fun c9 => ?_) (fun c9 => ?_)
  · rw [if_pos c9] at h
    cases h
    exact kz_vret hx hb hr hlocks hP hK hD hS dX3_makeRoom_163 ⟨ad, hag, rfl⟩
  · rw [if_neg c9] at h
    refine lv_iconst (v := 1) hx hb dX3_makeRoom_123 (by decide) ?_
    refine lv_istore_n (lv' := [(2, .int 1), (0, .ref (ad 32)), (1, .int x1)]) hx hb dX3_makeRoom_124 rfl hl (by decide) rfl (fun ls hl => ?_)
    exact WX3_makeRoom_s32_125 hag C0 hk113 _ _ _ _ _ _ _ h hP hD hS (lv_sub hl [1, 2, 0] rfl)
set_option maxHeartbeats 4000000 in
set_option maxRecDepth 100000 in
theorem WX3_makeRoom_s32_113 {p : Program} {l : Launch} {e : Env} {s : State} {m : MethodId} {args : Array Value} {below : List Frame} {meth : Method} {c : Code} {D : va_G} {ty : Nat → ClassId} {eo : Nat → Nat} {A : Nat → Prop} {ad : Nat → Nat} {o2 : dK} {nc ns : Nat} {ad0 : Nat → Nat} (hag : dAg ad0 ad) (C : dc_C p s m args meth c cX3_makeRoom none 3 RX3 wsX3_makeRoom D ty eo A)   (n : Nat) (q : dK) (x1 : Int32) (H : Heap) (locs : List Loc) (ls : Array Slot) (h : zX3_makeRoom_s32_113 nc ns  n q x1 = some o2) (hP : va_P D vwCl (wF ty ad q) H) (hD : va_D A (wF ty ad q)) (hS : va_S A s.heap H locs) (hl : lv_has ls 3 [(0, .ref (ad 32)), (1, .int x1)]) : W p l e ({ frames := 3, cells := nc, slots := ns, locals := 69 } : Room) s m args below meth c H locs nc ns (MQ below (va_Qv (fun (u : va_W) => ∃ ad9 : Nat → Nat, dAg ad0 ad9 ∧ wF ty ad9 o2 = u) (kz_B D ty A) A) args s nc ns A) (F0 m 113 ls []) := by
  exact dFix_W (F := fun k (a : dK × Int32) => zX3_makeRoom_s32_113b nc ns  (fun q x1 => k (q, x1)) a.1 a.2) (o := o2) (P := fun (a : dK × Int32) H locs ls => va_P D vwCl (wF ty ad a.1) H ∧ va_D A (wF ty ad a.1) ∧ va_S A s.heap H locs ∧ lv_has ls 3 [(0, .ref (ad 32)), (1, .int a.2)]) (G := fun H locs ls => W p l e ({ frames := 3, cells := nc, slots := ns, locals := 69 } : Room) s m args below meth c H locs nc ns (MQ below (va_Qv (fun (u : va_W) => ∃ ad9 : Nat → Nat, dAg ad0 ad9 ∧ wF ty ad9 o2 = u) (kz_B D ty A) A) args s nc ns A) (F0 m 113 ls []))
    (fun k hk a H locs ls h hp => WX3_makeRoom_s32_113b hag C  (fun q x1 H locs ls h h1 h2 h3 h4 => hk (q, x1) H locs ls h ⟨h1, h2, h3, h4⟩) a.1 a.2 H locs ls h hp.1 hp.2.1 hp.2.2.1 hp.2.2.2) n (q, x1) H locs ls h ⟨hP, hD, hS, hl⟩
set_option maxHeartbeats 4000000 in
set_option maxRecDepth 100000 in
theorem WX3_makeRoom_s32_91b {p : Program} {l : Launch} {e : Env} {s : State} {m : MethodId} {args : Array Value} {below : List Frame} {meth : Method} {c : Code} {D : va_G} {ty : Nat → ClassId} {eo : Nat → Nat} {A : Nat → Prop} {ad : Nat → Nat} {o2 : dK} {nc ns : Nat} {ad0 : Nat → Nat} (hag : dAg ad0 ad) (C : dc_C p s m args meth c cX3_makeRoom none 3 RX3 wsX3_makeRoom D ty eo A) {k91 : dK → Int32 → Option (dK)} (hk91 : ∀ (q : dK) (x1 : Int32) (H : Heap) (locs : List Loc) (ls : Array Slot), k91 q x1 = some o2 → va_P D vwCl (wF ty ad q) H → va_D A (wF ty ad q) → va_S A s.heap H locs → lv_has ls 3 [(0, .ref (ad 32)), (1, .int x1)] → W p l e ({ frames := 3, cells := nc, slots := ns, locals := 69 } : Room) s m args below meth c H locs nc ns (MQ below (va_Qv (fun (u : va_W) => ∃ ad9 : Nat → Nat, dAg ad0 ad9 ∧ wF ty ad9 o2 = u) (kz_B D ty A) A) args s nc ns A) (F0 m 91 ls [])) (q : dK) (x1 : Int32) (H : Heap) (locs : List Loc) (ls : Array Slot) (h : zX3_makeRoom_s32_91b nc ns k91 q x1 = some o2) (hP : va_P D vwCl (wF ty ad q) H) (hD : va_D A (wF ty ad q)) (hS : va_S A s.heap H locs) (hl : lv_has ls 3 [(0, .ref (ad 32)), (1, .int x1)]) : W p l e ({ frames := 3, cells := nc, slots := ns, locals := 69 } : Room) s m args below meth c H locs nc ns (MQ below (va_Qv (fun (u : va_W) => ∃ ad9 : Nat → Nat, dAg ad0 ad9 ∧ wF ty ad9 o2 = u) (kz_B D ty A) A) args s nc ns A) (F0 m 91 ls []) := by
  have C0 := C
  obtain ⟨hx, hb, hr, hts, hown, hlocks, hml, hK, hN, hE, hA⟩ := C
  unfold zX3_makeRoom_s32_91b at h
  refine lv_iload_n hx hb dX3_makeRoom_91 rfl (lv_at hl 1 rfl) ?_
  refine lv_aload_n hx hb dX3_makeRoom_92 rfl (lv_at hl 0 rfl) ?_
  refine va_get (D := D) (ci := 3) (v := .ref (ad 39)) (C := RX3) (T := TX3) (N := 20) hx hb hts u9_wsX3_makeRoom_X3 hown hK hP 32 rfl rfl 6 (by decide) (hts (.fieldLink RX3 30 "TurnedFloors$Paper" "orders" "[I") f9_wsX3_makeRoom_730) (fun _ h9 => h9) rfl dX3_makeRoom_93 ?_
  refine va_alen (v := Int32.ofNat (Int32.toNatClampNeg (q.1 32 100))) hx hb hK hP 39 0 rfl rfl rfl dX3_makeRoom_96 ?_
  refine lv_icmp_ge (tgt := 111) hx hb dX3_makeRoom_97 (by decide) (fun c9 => ?_) (fun c9 => ?_)
  · rw [if_pos c9] at h
    refine lv_iconst (v := 0) hx hb dX3_makeRoom_111 (by decide) ?_
    refine lv_istore_n (lv' := [(1, .int 0), (0, .ref (ad 32))]) hx hb dX3_makeRoom_112 rfl hl (by decide) rfl (fun ls hl => ?_)
    exact WX3_makeRoom_s32_113 hag C0  _ _ _ _ _ _ h hP hD hS (lv_sub hl [1, 0] rfl)
  · rw [if_neg c9] at h
    refine lv_aload_n hx hb dX3_makeRoom_100 rfl (lv_at hl 0 rfl) ?_
    refine lv_iload_n hx hb dX3_makeRoom_101 rfl (lv_at hl 1 rfl) ?_
    obtain ⟨q3, h2, h⟩ := dV_some h
    refine dw_kv (va_runV (As := [.int x1]) (rest := []) ⟨hx, hb, hml, hown, hts⟩ (qX3_listOrder_s32 l D ty eo _ ad q x1 q3 h2) (cwV 1 hts gX3_makeRoom_X3_listOrder rfl rfl rfl hd_X3_listOrder_v ⟨Nat.le_of_ble_eq_true rfl, Nat.le_of_ble_eq_true rfl⟩) (pvF_3_32 hK hN hE hP hD hS hA) rfl rfl hl.1 rfl (lv_room (Nat.le_of_ble_eq_true rfl)) dX3_makeRoom_102 ⟨Nat.le_refl _, Nat.le_refl _⟩) hD hS hA (fun u9 H locs hw hp hd hs => ?_)
    clear hP hD hS
    obtain rfl := hw
    have hP := hp; have hD := hd; have hS := hs; clear hp hd hs
    refine lv_iinc (v := x1 + 1) (lv' := [(1, .int (x1 + 1)), (0, .ref (ad 32))]) hx hb dX3_makeRoom_105 hl (k := 1) rfl rfl (by decide) rfl (fun ls hl => ?_)
    refine lv_goto (tgt := 91) hx hb dX3_makeRoom_108 (by decide) ?_
    exact hk91 _ _ _ _ _ h hP hD hS (lv_sub hl [1, 0] rfl)
set_option maxHeartbeats 4000000 in
set_option maxRecDepth 100000 in
theorem WX3_makeRoom_s32_91 {p : Program} {l : Launch} {e : Env} {s : State} {m : MethodId} {args : Array Value} {below : List Frame} {meth : Method} {c : Code} {D : va_G} {ty : Nat → ClassId} {eo : Nat → Nat} {A : Nat → Prop} {ad : Nat → Nat} {o2 : dK} {nc ns : Nat} {ad0 : Nat → Nat} (hag : dAg ad0 ad) (C : dc_C p s m args meth c cX3_makeRoom none 3 RX3 wsX3_makeRoom D ty eo A)   (n : Nat) (q : dK) (x1 : Int32) (H : Heap) (locs : List Loc) (ls : Array Slot) (h : zX3_makeRoom_s32_91 nc ns  n q x1 = some o2) (hP : va_P D vwCl (wF ty ad q) H) (hD : va_D A (wF ty ad q)) (hS : va_S A s.heap H locs) (hl : lv_has ls 3 [(0, .ref (ad 32)), (1, .int x1)]) : W p l e ({ frames := 3, cells := nc, slots := ns, locals := 69 } : Room) s m args below meth c H locs nc ns (MQ below (va_Qv (fun (u : va_W) => ∃ ad9 : Nat → Nat, dAg ad0 ad9 ∧ wF ty ad9 o2 = u) (kz_B D ty A) A) args s nc ns A) (F0 m 91 ls []) := by
  exact dFix_W (F := fun k (a : dK × Int32) => zX3_makeRoom_s32_91b nc ns  (fun q x1 => k (q, x1)) a.1 a.2) (o := o2) (P := fun (a : dK × Int32) H locs ls => va_P D vwCl (wF ty ad a.1) H ∧ va_D A (wF ty ad a.1) ∧ va_S A s.heap H locs ∧ lv_has ls 3 [(0, .ref (ad 32)), (1, .int a.2)]) (G := fun H locs ls => W p l e ({ frames := 3, cells := nc, slots := ns, locals := 69 } : Room) s m args below meth c H locs nc ns (MQ below (va_Qv (fun (u : va_W) => ∃ ad9 : Nat → Nat, dAg ad0 ad9 ∧ wF ty ad9 o2 = u) (kz_B D ty A) A) args s nc ns A) (F0 m 91 ls []))
    (fun k hk a H locs ls h hp => WX3_makeRoom_s32_91b hag C  (fun q x1 H locs ls h h1 h2 h3 h4 => hk (q, x1) H locs ls h ⟨h1, h2, h3, h4⟩) a.1 a.2 H locs ls h hp.1 hp.2.1 hp.2.2.1 hp.2.2.2) n (q, x1) H locs ls h ⟨hP, hD, hS, hl⟩
set_option maxHeartbeats 4000000 in
set_option maxRecDepth 100000 in
theorem qX3_makeRoom_s32 (l : Launch) (D : va_G) (ty : Nat → ClassId) (eo : Nat → Nat) (sz : Nat) (ad : Nat → Nat) (nc ns : Nat) (q : dK)  (o2 : dK) (h : zX3_makeRoom_s32 nc ns q = some o2) : Met l yX3_makeRoom wsX3_makeRoom ({ frames := 3, cells := nc, slots := ns, locals := 69 } : Room) (va_Pc [.ref (ad 32)] (kz_pre D ty eo (wF ty ad q) sz)) (va_Qv (fun (u : va_W) => ∃ ad9 : Nat → Nat, dAg ad ad9 ∧ wF ty ad9 o2 = u) (kz_B D ty (va_A (wF ty ad q) sz)) (va_A (wF ty ad q) sz)) nc ns (va_A (wF ty ad q) sz) := by
  have hag : dAg ad ad := fun _ _ => rfl
  refine Met.ofW (cc := cX3_makeRoom) (maxL := 3) (ret := none) (by decide) rfl ?_
  intro p e s m args below meth c s₁ B hml hv
  obtain ⟨rfl, hsz, hP, hK, hD0, hN, hE⟩ := hv
  have hx := B.exec
  have hb := B.bytes
  have hr := B.returns
  have hts := atoms_spec (ws := wsX3_makeRoom) B.pre
  have hown : s.vm.findClass RX3 = some m.cls := findClass_of_methodNamed B.named
  have hlocks := B.notSynchronized
  subst hsz
  have hD := hD0.self (sz := s.heap.size)
  generalize hAe : va_A (wF ty ad q) s.heap.size = A at hD hE ⊢
  have hA : ∀ q : Nat, s.heap.size ≤ q → A q := fun q h => by rw [← hAe]; exact Or.inr h
  clear hAe
  have hS : va_S A s.heap s.heap [] := va_S.rf
  have hl := lv_entry ([.ref (ad 32)]) (n := 3) (Nat.le_of_ble_eq_true rfl)
  rw [lg_entry_eq]
  generalize (lg_sl ([.ref (ad 32)]) ++ List.replicate (3 - (lg_sl ([.ref (ad 32)])).length) Slot.unset).toArray = ls at hl ⊢
  have hl : lv_has ls 3 [(0, .ref (ad 32))] := hl
  have C : dc_C p s m _ meth c cX3_makeRoom none 3 RX3 wsX3_makeRoom D ty eo A := ⟨hx, hb, hr, hts, hown, hlocks, hml, hK, hN, hE, hA⟩
  unfold zX3_makeRoom_s32 at h
  refine lv_aload_n hx hb dX3_makeRoom_0 rfl (lv_at hl 0 rfl) ?_
  refine lv_aload_n hx hb dX3_makeRoom_1 rfl (lv_at hl 0 rfl) ?_
  refine va_get (D := D) (ci := 3) (v := .int (q.1 32 14)) (C := RX3) (T := TX3) (N := 20) hx hb hts u9_wsX3_makeRoom_X3 hown hK hP 32 rfl rfl 14 (by decide) (hts (.fieldLink RX3 55 "TurnedFloors$Paper" "size" "I") f9_wsX3_makeRoom_731) (fun _ h9 => h9) rfl dX3_makeRoom_2 ?_
  obtain ⟨g1, h⟩ := dG_some h
  refine va_newa (atype := .int) (ty := .int) (N' := Int32.toNatClampNeg (q.1 32 14)) (a0 := (Int32.toNatClampNeg (q.1 32 14), .inl (fun _ => 0))) hx hb (hts (.arrayClass .int) f9_wsX3_makeRoom_732) rfl hK hP hD hS hA (fun _ => rfl) (of_decide_eq_true g1).1 rfl (of_decide_eq_true g1).2.2.2 (of_decide_eq_true g1).2.1 (of_decide_eq_true g1).2.2.1 dX3_makeRoom_5 (fun a9 cA H hK2 hp hd hs => ?_)
  obtain rfl : cA = ty 0 := kz_cA (t0 := 0) (t1 := 6) hK2 rfl rfl rfl
  clear hP hD hS hK2
  have hP := hp; have hD := hd; have hS := hs; clear hp hd hs
  refine va_put (D := D) (ci := 3) (v := .ref a9) (ty := .array .int) (C := RX3) (T := TX3) (N := 20) hx hb hts u9_wsX3_makeRoom_X3 tyX3 tyX3_ok nmX3 hown hK hP hD hS 32 rfl rfl 9 (by decide) (hts (.fieldLink RX3 39 "TurnedFloors$Paper" "toOrder" "[I") f9_wsX3_makeRoom_733) (fun _ h9 => h9) rfl (by decide +kernel) rfl rfl (Nat.le_of_ble_eq_true rfl) dX3_makeRoom_7 (fun H locs hp hd hs => ?_)
  replace hd := dw_newD (i := 32) (j := 42) (Nat.lt_of_lt_of_le (by decide : 32 < 63) (wF_len ty ad q)) (Nat.lt_of_lt_of_le (by decide : 42 < 63) (wF_len ty ad q)) (by decide) hd
  replace hp := dw_newP (i := 32) (j := 42) (Nat.lt_of_lt_of_le (by decide : 32 < 63) (wF_len ty ad q)) (Nat.lt_of_lt_of_le (by decide : 42 < 63) (wF_len ty ad q)) (by decide) hp
  replace hp := (congrArg (fun w9 => va_P D vwCl w9 H) (wF_n42 ty ad q a9 (q.1 32 14))).mp hp
  replace hd := (congrArg (fun w9 => va_D A w9) (wF_n42 ty ad q a9 (q.1 32 14))).mp hd
  have hag1 : dAg ad (adu ad 42 a9) := dAg_u (by decide)
  replace hag := dAg_t hag hag1
  generalize adu ad 42 a9 = ad at hp hd hag1 hag
  rw [dAg_s hag1 32 (by decide)] at hl
  clear hag1
  obtain ⟨q2, eq2, h⟩ := dL_some h
  refine kz_re (w2 := wF ty ad q2) hp hd hs (by rw [← eq2]) ?_
  clear hp hd hs hP hD hS
  intro hP hD hS
  refine lv_aload_n hx hb dX3_makeRoom_10 rfl (lv_at hl 0 rfl) ?_
  refine lv_aload_n hx hb dX3_makeRoom_11 rfl (lv_at hl 0 rfl) ?_
  refine va_get (D := D) (ci := 3) (v := .int (q2.1 32 14)) (C := RX3) (T := TX3) (N := 20) hx hb hts u9_wsX3_makeRoom_X3 hown hK hP 32 rfl rfl 14 (by decide) (hts (.fieldLink RX3 55 "TurnedFloors$Paper" "size" "I") f9_wsX3_makeRoom_731) (fun _ h9 => h9) rfl dX3_makeRoom_12 ?_
  obtain ⟨g3, h⟩ := dG_some h
  refine va_newa (atype := .int) (ty := .int) (N' := Int32.toNatClampNeg (q2.1 32 14)) (a0 := (Int32.toNatClampNeg (q2.1 32 14), .inl (fun _ => 0))) hx hb (hts (.arrayClass .int) f9_wsX3_makeRoom_732) rfl hK hP hD hS hA (fun _ => rfl) (of_decide_eq_true g3).1 rfl (of_decide_eq_true g3).2.2.2 (of_decide_eq_true g3).2.1 (of_decide_eq_true g3).2.2.1 dX3_makeRoom_15 (fun a9 cA H hK2 hp hd hs => ?_)
  obtain rfl : cA = ty 0 := kz_cA (t0 := 0) (t1 := 6) hK2 rfl rfl rfl
  clear hP hD hS hK2
  have hP := hp; have hD := hd; have hS := hs; clear hp hd hs
  refine va_put (D := D) (ci := 3) (v := .ref a9) (ty := .array .int) (C := RX3) (T := TX3) (N := 20) hx hb hts u9_wsX3_makeRoom_X3 tyX3 tyX3_ok nmX3 hown hK hP hD hS 32 rfl rfl 10 (by decide) (hts (.fieldLink RX3 42 "TurnedFloors$Paper" "marks" "[I") f9_wsX3_makeRoom_734) (fun _ h9 => h9) rfl (by decide +kernel) rfl rfl (Nat.le_of_ble_eq_true rfl) dX3_makeRoom_17 (fun H locs hp hd hs => ?_)
  replace hd := dw_newD (i := 32) (j := 43) (Nat.lt_of_lt_of_le (by decide : 32 < 63) (wF_len ty ad q2)) (Nat.lt_of_lt_of_le (by decide : 43 < 63) (wF_len ty ad q2)) (by decide) hd
  replace hp := dw_newP (i := 32) (j := 43) (Nat.lt_of_lt_of_le (by decide : 32 < 63) (wF_len ty ad q2)) (Nat.lt_of_lt_of_le (by decide : 43 < 63) (wF_len ty ad q2)) (by decide) hp
  replace hp := (congrArg (fun w9 => va_P D vwCl w9 H) (wF_n43 ty ad q2 a9 (q2.1 32 14))).mp hp
  replace hd := (congrArg (fun w9 => va_D A w9) (wF_n43 ty ad q2 a9 (q2.1 32 14))).mp hd
  have hag1 : dAg ad (adu ad 43 a9) := dAg_u (by decide)
  replace hag := dAg_t hag hag1
  generalize adu ad 43 a9 = ad at hp hd hag1 hag
  rw [dAg_s hag1 32 (by decide)] at hl
  clear hag1
  obtain ⟨q4, eq4, h⟩ := dL_some h
  refine kz_re (w2 := wF ty ad q4) hp hd hs (by rw [← eq4]) ?_
  clear hp hd hs hP hD hS
  intro hP hD hS
  refine lv_aload_n hx hb dX3_makeRoom_20 rfl (lv_at hl 0 rfl) ?_
  refine lv_aload_n hx hb dX3_makeRoom_21 rfl (lv_at hl 0 rfl) ?_
  refine va_get (D := D) (ci := 3) (v := .int (q4.1 32 14)) (C := RX3) (T := TX3) (N := 20) hx hb hts u9_wsX3_makeRoom_X3 hown hK hP 32 rfl rfl 14 (by decide) (hts (.fieldLink RX3 55 "TurnedFloors$Paper" "size" "I") f9_wsX3_makeRoom_731) (fun _ h9 => h9) rfl dX3_makeRoom_22 ?_
  obtain ⟨g5, h⟩ := dG_some h
  refine va_newa (atype := .int) (ty := .int) (N' := Int32.toNatClampNeg (q4.1 32 14)) (a0 := (Int32.toNatClampNeg (q4.1 32 14), .inl (fun _ => 0))) hx hb (hts (.arrayClass .int) f9_wsX3_makeRoom_732) rfl hK hP hD hS hA (fun _ => rfl) (of_decide_eq_true g5).1 rfl (of_decide_eq_true g5).2.2.2 (of_decide_eq_true g5).2.1 (of_decide_eq_true g5).2.2.1 dX3_makeRoom_25 (fun a9 cA H hK2 hp hd hs => ?_)
  obtain rfl : cA = ty 0 := kz_cA (t0 := 0) (t1 := 6) hK2 rfl rfl rfl
  clear hP hD hS hK2
  have hP := hp; have hD := hd; have hS := hs; clear hp hd hs
  refine va_put (D := D) (ci := 3) (v := .ref a9) (ty := .array .int) (C := RX3) (T := TX3) (N := 20) hx hb hts u9_wsX3_makeRoom_X3 tyX3 tyX3_ok nmX3 hown hK hP hD hS 32 rfl rfl 11 (by decide) (hts (.fieldLink RX3 45 "TurnedFloors$Paper" "line" "[I") f9_wsX3_makeRoom_735) (fun _ h9 => h9) rfl (by decide +kernel) rfl rfl (Nat.le_of_ble_eq_true rfl) dX3_makeRoom_27 (fun H locs hp hd hs => ?_)
  replace hd := dw_newD (i := 32) (j := 44) (Nat.lt_of_lt_of_le (by decide : 32 < 63) (wF_len ty ad q4)) (Nat.lt_of_lt_of_le (by decide : 44 < 63) (wF_len ty ad q4)) (by decide) hd
  replace hp := dw_newP (i := 32) (j := 44) (Nat.lt_of_lt_of_le (by decide : 32 < 63) (wF_len ty ad q4)) (Nat.lt_of_lt_of_le (by decide : 44 < 63) (wF_len ty ad q4)) (by decide) hp
  replace hp := (congrArg (fun w9 => va_P D vwCl w9 H) (wF_n44 ty ad q4 a9 (q4.1 32 14))).mp hp
  replace hd := (congrArg (fun w9 => va_D A w9) (wF_n44 ty ad q4 a9 (q4.1 32 14))).mp hd
  have hag1 : dAg ad (adu ad 44 a9) := dAg_u (by decide)
  replace hag := dAg_t hag hag1
  generalize adu ad 44 a9 = ad at hp hd hag1 hag
  rw [dAg_s hag1 32 (by decide)] at hl
  clear hag1
  obtain ⟨q6, eq6, h⟩ := dL_some h
  refine kz_re (w2 := wF ty ad q6) hp hd hs (by rw [← eq6]) ?_
  clear hp hd hs hP hD hS
  intro hP hD hS
  refine lv_aload_n hx hb dX3_makeRoom_30 rfl (lv_at hl 0 rfl) ?_
  refine lv_aload_n hx hb dX3_makeRoom_31 rfl (lv_at hl 0 rfl) ?_
  refine va_get (D := D) (ci := 3) (v := .int (q6.1 32 14)) (C := RX3) (T := TX3) (N := 20) hx hb hts u9_wsX3_makeRoom_X3 hown hK hP 32 rfl rfl 14 (by decide) (hts (.fieldLink RX3 55 "TurnedFloors$Paper" "size" "I") f9_wsX3_makeRoom_731) (fun _ h9 => h9) rfl dX3_makeRoom_32 ?_
  obtain ⟨g7, h⟩ := dG_some h
  refine va_newa (atype := .int) (ty := .int) (N' := Int32.toNatClampNeg (q6.1 32 14)) (a0 := (Int32.toNatClampNeg (q6.1 32 14), .inl (fun _ => 0))) hx hb (hts (.arrayClass .int) f9_wsX3_makeRoom_732) rfl hK hP hD hS hA (fun _ => rfl) (of_decide_eq_true g7).1 rfl (of_decide_eq_true g7).2.2.2 (of_decide_eq_true g7).2.1 (of_decide_eq_true g7).2.2.1 dX3_makeRoom_35 (fun a9 cA H hK2 hp hd hs => ?_)
  obtain rfl : cA = ty 0 := kz_cA (t0 := 0) (t1 := 6) hK2 rfl rfl rfl
  clear hP hD hS hK2
  have hP := hp; have hD := hd; have hS := hs; clear hp hd hs
  refine va_put (D := D) (ci := 3) (v := .ref a9) (ty := .array .int) (C := RX3) (T := TX3) (N := 20) hx hb hts u9_wsX3_makeRoom_X3 tyX3 tyX3_ok nmX3 hown hK hP hD hS 32 rfl rfl 12 (by decide) (hts (.fieldLink RX3 48 "TurnedFloors$Paper" "links" "[I") f9_wsX3_makeRoom_736) (fun _ h9 => h9) rfl (by decide +kernel) rfl rfl (Nat.le_of_ble_eq_true rfl) dX3_makeRoom_37 (fun H locs hp hd hs => ?_)
  replace hd := dw_newD (i := 32) (j := 45) (Nat.lt_of_lt_of_le (by decide : 32 < 63) (wF_len ty ad q6)) (Nat.lt_of_lt_of_le (by decide : 45 < 63) (wF_len ty ad q6)) (by decide) hd
  replace hp := dw_newP (i := 32) (j := 45) (Nat.lt_of_lt_of_le (by decide : 32 < 63) (wF_len ty ad q6)) (Nat.lt_of_lt_of_le (by decide : 45 < 63) (wF_len ty ad q6)) (by decide) hp
  replace hp := (congrArg (fun w9 => va_P D vwCl w9 H) (wF_n45 ty ad q6 a9 (q6.1 32 14))).mp hp
  replace hd := (congrArg (fun w9 => va_D A w9) (wF_n45 ty ad q6 a9 (q6.1 32 14))).mp hd
  have hag1 : dAg ad (adu ad 45 a9) := dAg_u (by decide)
  replace hag := dAg_t hag hag1
  generalize adu ad 45 a9 = ad at hp hd hag1 hag
  rw [dAg_s hag1 32 (by decide)] at hl
  clear hag1
  obtain ⟨q8, eq8, h⟩ := dL_some h
  refine kz_re (w2 := wF ty ad q8) hp hd hs (by rw [← eq8]) ?_
  clear hp hd hs hP hD hS
  intro hP hD hS
  refine lv_aload_n hx hb dX3_makeRoom_40 rfl (lv_at hl 0 rfl) ?_
  refine va_gets hx hb hE.1 hS hown (hts (.fieldLink RX3 76 "TurnedFloors$Paper" "FACTORIALS" "[I") f9_wsX3_makeRoom_737) (fun _ h9 => h9) dX3_makeRoom_41 ?_
  refine lv_aload_n hx hb dX3_makeRoom_44 rfl (lv_at hl 0 rfl) ?_
  refine va_get (D := D) (ci := 3) (v := .int (q8.1 32 13)) (C := RX3) (T := TX3) (N := 20) hx hb hts u9_wsX3_makeRoom_X3 hown hK hP 32 rfl rfl 13 (by decide) (hts (.fieldLink RX3 51 "TurnedFloors$Paper" "floors" "I") f9_wsX3_makeRoom_728) (fun _ h9 => h9) rfl dX3_makeRoom_45 ?_
  obtain ⟨g9, h⟩ := dG_some h
  refine va_ti (v := .int (([1, 1, 2, 6, 24, 120, 720] : List Int32).getD (Int32.toNatClampNeg (q8.1 32 13)) 0)) hx hb hE.2.1 hS (dg_in g9) rfl dX3_makeRoom_48 ?_
  obtain ⟨v10, ev10, h⟩ := dL_some h
  refine kz_topi v10 ev10 ?_
  obtain ⟨g11, h⟩ := dG_some h
  refine va_newa (atype := .int) (ty := .int) (N' := Int32.toNatClampNeg v10) (a0 := (Int32.toNatClampNeg v10, .inl (fun _ => 0))) hx hb (hts (.arrayClass .int) f9_wsX3_makeRoom_732) rfl hK hP hD hS hA (fun _ => rfl) (of_decide_eq_true g11).1 rfl (of_decide_eq_true g11).2.2.2 (of_decide_eq_true g11).2.1 (of_decide_eq_true g11).2.2.1 dX3_makeRoom_49 (fun a9 cA H hK2 hp hd hs => ?_)
  obtain rfl : cA = ty 0 := kz_cA (t0 := 0) (t1 := 6) hK2 rfl rfl rfl
  clear hP hD hS hK2
  have hP := hp; have hD := hd; have hS := hs; clear hp hd hs
  refine va_put (D := D) (ci := 3) (v := .ref a9) (ty := .array .int) (C := RX3) (T := TX3) (N := 20) hx hb hts u9_wsX3_makeRoom_X3 tyX3 tyX3_ok nmX3 hown hK hP hD hS 32 rfl rfl 6 (by decide) (hts (.fieldLink RX3 30 "TurnedFloors$Paper" "orders" "[I") f9_wsX3_makeRoom_730) (fun _ h9 => h9) rfl (by decide +kernel) rfl rfl (Nat.le_of_ble_eq_true rfl) dX3_makeRoom_51 (fun H locs hp hd hs => ?_)
  replace hd := dw_newD (i := 32) (j := 39) (Nat.lt_of_lt_of_le (by decide : 32 < 63) (wF_len ty ad q8)) (Nat.lt_of_lt_of_le (by decide : 39 < 63) (wF_len ty ad q8)) (by decide) hd
  replace hp := dw_newP (i := 32) (j := 39) (Nat.lt_of_lt_of_le (by decide : 32 < 63) (wF_len ty ad q8)) (Nat.lt_of_lt_of_le (by decide : 39 < 63) (wF_len ty ad q8)) (by decide) hp
  replace hp := (congrArg (fun w9 => va_P D vwCl w9 H) (wF_n39 ty ad q8 a9 v10)).mp hp
  replace hd := (congrArg (fun w9 => va_D A w9) (wF_n39 ty ad q8 a9 v10)).mp hd
  have hag1 : dAg ad (adu ad 39 a9) := dAg_u (by decide)
  replace hag := dAg_t hag hag1
  generalize adu ad 39 a9 = ad at hp hd hag1 hag
  rw [dAg_s hag1 32 (by decide)] at hl
  clear hag1
  obtain ⟨q12, eq12, h⟩ := dL_some h
  refine kz_re (w2 := wF ty ad q12) hp hd hs (by rw [← eq12]) ?_
  clear hp hd hs hP hD hS
  intro hP hD hS
  refine lv_aload_n hx hb dX3_makeRoom_54 rfl (lv_at hl 0 rfl) ?_
  refine va_gets hx hb hE.1 hS hown (hts (.fieldLink RX3 76 "TurnedFloors$Paper" "FACTORIALS" "[I") f9_wsX3_makeRoom_737) (fun _ h9 => h9) dX3_makeRoom_55 ?_
  refine lv_aload_n hx hb dX3_makeRoom_58 rfl (lv_at hl 0 rfl) ?_
  refine va_get (D := D) (ci := 3) (v := .int (q12.1 32 13)) (C := RX3) (T := TX3) (N := 20) hx hb hts u9_wsX3_makeRoom_X3 hown hK hP 32 rfl rfl 13 (by decide) (hts (.fieldLink RX3 51 "TurnedFloors$Paper" "floors" "I") f9_wsX3_makeRoom_728) (fun _ h9 => h9) rfl dX3_makeRoom_59 ?_
  obtain ⟨g13, h⟩ := dG_some h
  refine va_ti (v := .int (([1, 1, 2, 6, 24, 120, 720] : List Int32).getD (Int32.toNatClampNeg (q12.1 32 13)) 0)) hx hb hE.2.1 hS (dg_in g13) rfl dX3_makeRoom_62 ?_
  obtain ⟨v14, ev14, h⟩ := dL_some h
  refine kz_topi v14 ev14 ?_
  refine lv_bipush (v := 6) hx hb dX3_makeRoom_63 (by decide) ?_
  refine lv_imul hx hb dX3_makeRoom_65 ?_
  obtain ⟨g15, h⟩ := dG_some h
  refine va_newa (atype := .int) (ty := .int) (N' := Int32.toNatClampNeg (v14 * 6 : Int32)) (a0 := (Int32.toNatClampNeg (v14 * 6 : Int32), .inl (fun _ => 0))) hx hb (hts (.arrayClass .int) f9_wsX3_makeRoom_732) rfl hK hP hD hS hA (fun _ => rfl) (of_decide_eq_true g15).1 rfl (of_decide_eq_true g15).2.2.2 (of_decide_eq_true g15).2.1 (of_decide_eq_true g15).2.2.1 dX3_makeRoom_66 (fun a9 cA H hK2 hp hd hs => ?_)
  obtain rfl : cA = ty 0 := kz_cA (t0 := 0) (t1 := 6) hK2 rfl rfl rfl
  clear hP hD hS hK2
  have hP := hp; have hD := hd; have hS := hs; clear hp hd hs
  refine va_put (D := D) (ci := 3) (v := .ref a9) (ty := .array .int) (C := RX3) (T := TX3) (N := 20) hx hb hts u9_wsX3_makeRoom_X3 tyX3 tyX3_ok nmX3 hown hK hP hD hS 32 rfl rfl 7 (by decide) (hts (.fieldLink RX3 33 "TurnedFloors$Paper" "turnedOrders" "[I") f9_wsX3_makeRoom_738) (fun _ h9 => h9) rfl (by decide +kernel) rfl rfl (Nat.le_of_ble_eq_true rfl) dX3_makeRoom_68 (fun H locs hp hd hs => ?_)
  replace hd := dw_newD (i := 32) (j := 40) (Nat.lt_of_lt_of_le (by decide : 32 < 63) (wF_len ty ad q12)) (Nat.lt_of_lt_of_le (by decide : 40 < 63) (wF_len ty ad q12)) (by decide) hd
  replace hp := dw_newP (i := 32) (j := 40) (Nat.lt_of_lt_of_le (by decide : 32 < 63) (wF_len ty ad q12)) (Nat.lt_of_lt_of_le (by decide : 40 < 63) (wF_len ty ad q12)) (by decide) hp
  replace hp := (congrArg (fun w9 => va_P D vwCl w9 H) (wF_n40 ty ad q12 a9 (v14 * 6 : Int32))).mp hp
  replace hd := (congrArg (fun w9 => va_D A w9) (wF_n40 ty ad q12 a9 (v14 * 6 : Int32))).mp hd
  have hag1 : dAg ad (adu ad 40 a9) := dAg_u (by decide)
  replace hag := dAg_t hag hag1
  generalize adu ad 40 a9 = ad at hp hd hag1 hag
  rw [dAg_s hag1 32 (by decide)] at hl
  clear hag1
  obtain ⟨q16, eq16, h⟩ := dL_some h
  refine kz_re (w2 := wF ty ad q16) hp hd hs (by rw [← eq16]) ?_
  clear hp hd hs hP hD hS
  intro hP hD hS
  refine lv_aload_n hx hb dX3_makeRoom_71 rfl (lv_at hl 0 rfl) ?_
  refine lv_bipush (v := 6) hx hb dX3_makeRoom_72 (by decide) ?_
  refine lv_aload_n hx hb dX3_makeRoom_74 rfl (lv_at hl 0 rfl) ?_
  refine va_get (D := D) (ci := 3) (v := .int (q16.1 32 13)) (C := RX3) (T := TX3) (N := 20) hx hb hts u9_wsX3_makeRoom_X3 hown hK hP 32 rfl rfl 13 (by decide) (hts (.fieldLink RX3 51 "TurnedFloors$Paper" "floors" "I") f9_wsX3_makeRoom_728) (fun _ h9 => h9) rfl dX3_makeRoom_75 ?_
  refine lv_ishl hx hb dX3_makeRoom_78 ?_
  obtain ⟨g17, h⟩ := dG_some h
  refine va_newa (atype := .int) (ty := .int) (N' := Int32.toNatClampNeg (6 <<< ((q16.1 32 13 : Int32) &&& 31) : Int32)) (a0 := (Int32.toNatClampNeg (6 <<< ((q16.1 32 13 : Int32) &&& 31) : Int32), .inl (fun _ => 0))) hx hb (hts (.arrayClass .int) f9_wsX3_makeRoom_732) rfl hK hP hD hS hA (fun _ => rfl) (of_decide_eq_true g17).1 rfl (of_decide_eq_true g17).2.2.2 (of_decide_eq_true g17).2.1 (of_decide_eq_true g17).2.2.1 dX3_makeRoom_79 (fun a9 cA H hK2 hp hd hs => ?_)
  obtain rfl : cA = ty 0 := kz_cA (t0 := 0) (t1 := 6) hK2 rfl rfl rfl
  clear hP hD hS hK2
  have hP := hp; have hD := hd; have hS := hs; clear hp hd hs
  refine va_put (D := D) (ci := 3) (v := .ref a9) (ty := .array .int) (C := RX3) (T := TX3) (N := 20) hx hb hts u9_wsX3_makeRoom_X3 tyX3 tyX3_ok nmX3 hown hK hP hD hS 32 rfl rfl 8 (by decide) (hts (.fieldLink RX3 36 "TurnedFloors$Paper" "turnedHeads" "[I") f9_wsX3_makeRoom_729) (fun _ h9 => h9) rfl (by decide +kernel) rfl rfl (Nat.le_of_ble_eq_true rfl) dX3_makeRoom_81 (fun H locs hp hd hs => ?_)
  replace hd := dw_newD (i := 32) (j := 41) (Nat.lt_of_lt_of_le (by decide : 32 < 63) (wF_len ty ad q16)) (Nat.lt_of_lt_of_le (by decide : 41 < 63) (wF_len ty ad q16)) (by decide) hd
  replace hp := dw_newP (i := 32) (j := 41) (Nat.lt_of_lt_of_le (by decide : 32 < 63) (wF_len ty ad q16)) (Nat.lt_of_lt_of_le (by decide : 41 < 63) (wF_len ty ad q16)) (by decide) hp
  replace hp := (congrArg (fun w9 => va_P D vwCl w9 H) (wF_n41 ty ad q16 a9 (6 <<< ((q16.1 32 13 : Int32) &&& 31) : Int32))).mp hp
  replace hd := (congrArg (fun w9 => va_D A w9) (wF_n41 ty ad q16 a9 (6 <<< ((q16.1 32 13 : Int32) &&& 31) : Int32))).mp hd
  have hag1 : dAg ad (adu ad 41 a9) := dAg_u (by decide)
  replace hag := dAg_t hag hag1
  generalize adu ad 41 a9 = ad at hp hd hag1 hag
  rw [dAg_s hag1 32 (by decide)] at hl
  clear hag1
  obtain ⟨q18, eq18, h⟩ := dL_some h
  refine kz_re (w2 := wF ty ad q18) hp hd hs (by rw [← eq18]) ?_
  clear hp hd hs hP hD hS
  intro hP hD hS
  refine lv_aload_n hx hb dX3_makeRoom_84 rfl (lv_at hl 0 rfl) ?_
  refine lv_iconst (v := (-1)) hx hb dX3_makeRoom_85 (by decide) ?_
  refine va_put (D := D) (ci := 3) (v := .int (-1)) (ty := .int) (C := RX3) (T := TX3) (N := 20) hx hb hts u9_wsX3_makeRoom_X3 tyX3 tyX3_ok nmX3 hown hK hP hD hS 32 rfl rfl 17 (by decide) (hts (.fieldLink RX3 64 "TurnedFloors$Paper" "measuredFloors" "I") f9_wsX3_makeRoom_739) (fun _ h9 => h9) rfl (by decide +kernel) rfl rfl (Nat.le_of_ble_eq_true rfl) dX3_makeRoom_86 (fun H locs hp hd hs => ?_)
  obtain ⟨q19, eq19, h⟩ := dL_some h
  refine kz_re (w2 := wF ty ad q19) hp hd hs (by rw [← eq19]; exact wF_f32_17 ty ad q18 (-1)) ?_
  clear hp hd hs hP hD hS
  intro hP hD hS
  refine lv_iconst (v := 0) hx hb dX3_makeRoom_89 (by decide) ?_
  refine lv_istore_n (lv' := [(1, .int 0), (0, .ref (ad 32))]) hx hb dX3_makeRoom_90 rfl hl (by decide) rfl (fun ls hl => ?_)
  refine dw_up (c2 := nc) (s2 := ns) (of_decide_eq_true g17).2.1 (of_decide_eq_true g17).2.2.1 ?_
  exact WX3_makeRoom_s32_91 hag C  _ _ _ _ _ _ h hP hD hS (lv_sub hl [1, 0] rfl)

set_option maxHeartbeats 4000000 in
set_option maxRecDepth 100000 in
theorem qX3_caseNumber (l : Launch) (D : va_G) (ty : Nat → ClassId) (eo : Nat → Nat) (sz : Nat) (p1 : Int32) (p2 : Int32) (p3 : Int32) (p4 : Int32) (o1 : Int32) (h : zX3_caseNumber p1 p2 p3 p4 = some o1) : Met l yX3_caseNumber wsX3_caseNumber ({ frames := 0, cells := 0, slots := 0, locals := 0 } : Room) (va_Pc [.int p1, .int p2, .int p3, .int p4] (kz_pre D ty eo (([] : va_W)) sz)) (va_Qi (fun (r : Int32) (u : va_W) => o1 = r ∧ ([] : va_W) = u) (kz_B D ty (va_A (([] : va_W)) sz)) (va_A (([] : va_W)) sz)) 0 0 (va_A (([] : va_W)) sz) := by
  refine Met.ofW (cc := cX3_caseNumber) (maxL := 4) (ret := (some .int)) (by decide) rfl ?_
  intro p e s m args below meth c s₁ B hml hv
  obtain ⟨rfl, hsz, hP, hK, hD0, hN, hE⟩ := hv
  have hx := B.exec
  have hb := B.bytes
  have hr := B.returns
  have hts := atoms_spec (ws := wsX3_caseNumber) B.pre
  have hown : s.vm.findClass RX3 = some m.cls := findClass_of_methodNamed B.named
  have hlocks := B.notSynchronized
  subst hsz
  have hD := hD0.self (sz := s.heap.size)
  generalize hAe : va_A (([] : va_W)) s.heap.size = A at hD hE ⊢
  have hA : ∀ q : Nat, s.heap.size ≤ q → A q := fun q h => by rw [← hAe]; exact Or.inr h
  clear hAe
  have hS : va_S A s.heap s.heap [] := va_S.rf
  have hl := lv_entry ([.int p1, .int p2, .int p3, .int p4]) (n := 4) (Nat.le_of_ble_eq_true rfl)
  rw [lg_entry_eq]
  generalize (lg_sl ([.int p1, .int p2, .int p3, .int p4]) ++ List.replicate (4 - (lg_sl ([.int p1, .int p2, .int p3, .int p4])).length) Slot.unset).toArray = ls at hl ⊢
  have hl : lv_has ls 4 [(0, .int p1), (1, .int p2), (2, .int p3), (3, .int p4)] := hl
  have C : dc_C p s m _ meth c cX3_caseNumber (some .int) 4 RX3 wsX3_caseNumber D ty eo A := ⟨hx, hb, hr, hts, hown, hlocks, hml, hK, hN, hE, hA⟩
  unfold zX3_caseNumber at h
  refine lv_iload_n hx hb dX3_caseNumber_0 rfl (lv_at hl 0 rfl) ?_
  refine lv_iconst (v := 1) hx hb dX3_caseNumber_1 (by decide) ?_
  refine lv_isub hx hb dX3_caseNumber_2 ?_
  refine lv_bipush (v := 6) hx hb dX3_caseNumber_3 (by decide) ?_
  refine lv_imul hx hb dX3_caseNumber_5 ?_
  refine lv_iload_n hx hb dX3_caseNumber_6 rfl (lv_at hl 1 rfl) ?_
  refine lv_iadd hx hb dX3_caseNumber_7 ?_
  refine lv_bipush (v := 7) hx hb dX3_caseNumber_8 (by decide) ?_
  refine lv_imul hx hb dX3_caseNumber_10 ?_
  refine lv_iload_n hx hb dX3_caseNumber_11 rfl (lv_at hl 2 rfl) ?_
  refine lv_iadd hx hb dX3_caseNumber_12 ?_
  refine lv_iconst (v := 2) hx hb dX3_caseNumber_13 (by decide) ?_
  refine lv_imul hx hb dX3_caseNumber_14 ?_
  obtain ⟨v1, ev1, h⟩ := dL_some h
  refine kz_topi v1 ev1 ?_
  refine lv_iload_n hx hb dX3_caseNumber_15 rfl (lv_at hl 3 rfl) ?_
  refine lv_iadd hx hb dX3_caseNumber_16 ?_
  cases h
  exact kz_iret hx hb hr hlocks hP hK hD hS dX3_caseNumber_17 ⟨rfl, rfl⟩
end
section
set_option maxRecDepth 20000 in
theorem ggX3_askCases_J7_fill_53178 : GoodIn wsX3_askCases wsJ7_fill_53178 := wd_l vW9_ok _ (List.forall_mem_cons.mpr ⟨mvW9_512, (fun _ h => absurd h List.not_mem_nil)⟩)
set_option maxRecDepth 20000 in
theorem gX3_askCases_J7_fill_53178 : GoodIn wsX3_askCases (va_wsS RX3 122 yJ7_fill_53178 wsJ7_fill_53178) := goodIn_app (wd_l vW9_ok _ pvW9_17) ggX3_askCases_J7_fill_53178
set_option maxRecDepth 20000 in
theorem ggX3_askCases_X1_setCommon : GoodIn wsX3_askCases wsX1_setCommon := wd_c vW9_ok mvW9_72
set_option maxRecDepth 20000 in
theorem gX3_askCases_X1_setCommon : GoodIn wsX3_askCases (wsV RX3 175 RX1 yX1_setCommon wsX1_setCommon) := goodIn_app (wd_l vW9_ok _ pvW9_28) ggX3_askCases_X1_setCommon
set_option maxRecDepth 20000 in
theorem ggX3_askCases_X1_setGrip : GoodIn wsX3_askCases wsX1_setGrip := wd_c vW9_ok mvW9_115
set_option maxRecDepth 20000 in
theorem gX3_askCases_X1_setGrip : GoodIn wsX3_askCases (wsV RX3 181 RX1 yX1_setGrip wsX1_setGrip) := goodIn_app (wd_l vW9_ok _ pvW9_29) ggX3_askCases_X1_setGrip
set_option maxRecDepth 20000 in
theorem ggX3_askCases_X1_anyHolds : GoodIn wsX3_askCases wsX1_anyHolds := wd_c vW9_ok mvW9_76
set_option maxRecDepth 20000 in
theorem gX3_askCases_X1_anyHolds : GoodIn wsX3_askCases (wsV RX3 185 RX1 yX1_anyHolds wsX1_anyHolds) := goodIn_app (wd_l vW9_ok _ pvW9_30) ggX3_askCases_X1_anyHolds
set_option maxRecDepth 20000 in
theorem ggX3_askCases_X9_bit : GoodIn wsX3_askCases wsX9_bit := wd_c vW9_ok mvW9_97
set_option maxRecDepth 20000 in
theorem gX3_askCases_X9_bit_n133 : GoodIn wsX3_askCases (wsX9_bit) := ggX3_askCases_X9_bit
set_option maxRecDepth 20000 in
theorem ggX3_askCases_X1_pay : GoodIn wsX3_askCases wsX1_pay := wd_c vW9_ok mvW9_119
set_option maxRecDepth 20000 in
theorem gX3_askCases_X1_pay : GoodIn wsX3_askCases (wsV RX3 188 RX1 yX1_pay wsX1_pay) := goodIn_app (wd_l vW9_ok _ pvW9_31) ggX3_askCases_X1_pay
set_option maxRecDepth 20000 in
theorem ggX3_askCases_X3_caseNumber : GoodIn wsX3_askCases wsX3_caseNumber := wd_c vW9_ok mvW9_519
set_option maxRecDepth 20000 in
theorem gX3_askCases_X3_caseNumber : GoodIn wsX3_askCases (va_wsS RX3 171 yX3_caseNumber wsX3_caseNumber) := goodIn_app (wd_l vW9_ok _ pvW9_27) ggX3_askCases_X3_caseNumber
theorem da9_dX3_askCases_0 : (decode cX3_askCases 0 = .ok (.iload_n 3, 1)) ∧ (decode cX3_askCases 1 = .ok (.iconst 1, 1)) ∧ (decode cX3_askCases 2 = .ok (.if_icmp .ne 10, 3)) ∧ (decode cX3_askCases 5 = .ok (.aload_n 0, 1)) ∧ (decode cX3_askCases 6 = .ok (.getfield 18, 3)) ∧ (decode cX3_askCases 9 = .ok (.goto 7, 3)) ∧ (decode cX3_askCases 16 = .ok (.astore 4, 2)) ∧ (decode cX3_askCases 18 = .ok (.aload 4, 2)) ∧ (decode cX3_askCases 20 = .ok (.iconst 0, 1)) ∧ (decode cX3_askCases 21 = .ok (.invokestatic 122, 3)) ∧ (decode cX3_askCases 24 = .ok (.aload_n 1, 1)) ∧ (decode cX3_askCases 25 = .ok (.aload_n 0, 1)) ∧ (decode cX3_askCases 26 = .ok (.getfield 51, 3)) ∧ (decode cX3_askCases 29 = .ok (.iload_n 2, 1)) ∧ (decode cX3_askCases 30 = .ok (.invokevirtual 175, 3)) ∧ (decode cX3_askCases 33 = .ok (.iconst 1, 1)) := by decide +kernel
theorem dX3_askCases_0 : decode cX3_askCases 0 = .ok (.iload_n 3, 1) := da9_dX3_askCases_0.1
theorem dX3_askCases_1 : decode cX3_askCases 1 = .ok (.iconst 1, 1) := da9_dX3_askCases_0.2.1
theorem dX3_askCases_2 : decode cX3_askCases 2 = .ok (.if_icmp .ne 10, 3) := da9_dX3_askCases_0.2.2.1
theorem dX3_askCases_5 : decode cX3_askCases 5 = .ok (.aload_n 0, 1) := da9_dX3_askCases_0.2.2.2.1
theorem dX3_askCases_6 : decode cX3_askCases 6 = .ok (.getfield 18, 3) := da9_dX3_askCases_0.2.2.2.2.1
theorem dX3_askCases_9 : decode cX3_askCases 9 = .ok (.goto 7, 3) := da9_dX3_askCases_0.2.2.2.2.2.1
theorem dX3_askCases_16 : decode cX3_askCases 16 = .ok (.astore 4, 2) := da9_dX3_askCases_0.2.2.2.2.2.2.1
theorem dX3_askCases_18 : decode cX3_askCases 18 = .ok (.aload 4, 2) := da9_dX3_askCases_0.2.2.2.2.2.2.2.1
theorem dX3_askCases_20 : decode cX3_askCases 20 = .ok (.iconst 0, 1) := da9_dX3_askCases_0.2.2.2.2.2.2.2.2.1
theorem dX3_askCases_21 : decode cX3_askCases 21 = .ok (.invokestatic 122, 3) := da9_dX3_askCases_0.2.2.2.2.2.2.2.2.2.1
theorem dX3_askCases_24 : decode cX3_askCases 24 = .ok (.aload_n 1, 1) := da9_dX3_askCases_0.2.2.2.2.2.2.2.2.2.2.1
theorem dX3_askCases_25 : decode cX3_askCases 25 = .ok (.aload_n 0, 1) := da9_dX3_askCases_0.2.2.2.2.2.2.2.2.2.2.2.1
theorem dX3_askCases_26 : decode cX3_askCases 26 = .ok (.getfield 51, 3) := da9_dX3_askCases_0.2.2.2.2.2.2.2.2.2.2.2.2.1
theorem dX3_askCases_29 : decode cX3_askCases 29 = .ok (.iload_n 2, 1) := da9_dX3_askCases_0.2.2.2.2.2.2.2.2.2.2.2.2.2.1
theorem dX3_askCases_30 : decode cX3_askCases 30 = .ok (.invokevirtual 175, 3) := da9_dX3_askCases_0.2.2.2.2.2.2.2.2.2.2.2.2.2.2.1
theorem dX3_askCases_33 : decode cX3_askCases 33 = .ok (.iconst 1, 1) := da9_dX3_askCases_0.2.2.2.2.2.2.2.2.2.2.2.2.2.2.2
theorem da9_dX3_askCases_34 : (decode cX3_askCases 34 = .ok (.istore 5, 2)) ∧ (decode cX3_askCases 36 = .ok (.iload 5, 2)) ∧ (decode cX3_askCases 38 = .ok (.aload_n 0, 1)) ∧ (decode cX3_askCases 39 = .ok (.getfield 51, 3)) ∧ (decode cX3_askCases 42 = .ok (.if_icmp .gt 173, 3)) ∧ (decode cX3_askCases 45 = .ok (.iconst 0, 1)) ∧ (decode cX3_askCases 46 = .ok (.istore 6, 2)) ∧ (decode cX3_askCases 48 = .ok (.iload 6, 2)) ∧ (decode cX3_askCases 50 = .ok (.aload_n 0, 1)) ∧ (decode cX3_askCases 51 = .ok (.getfield 51, 3)) ∧ (decode cX3_askCases 54 = .ok (.if_icmp .ge 155, 3)) ∧ (decode cX3_askCases 57 = .ok (.iload 5, 2)) ∧ (decode cX3_askCases 59 = .ok (.aload_n 0, 1)) ∧ (decode cX3_askCases 60 = .ok (.getfield 51, 3)) ∧ (decode cX3_askCases 63 = .ok (.if_icmp .ge 7, 3)) ∧ (decode cX3_askCases 66 = .ok (.iconst 0, 1)) := by decide +kernel
theorem dX3_askCases_34 : decode cX3_askCases 34 = .ok (.istore 5, 2) := da9_dX3_askCases_34.1
theorem dX3_askCases_36 : decode cX3_askCases 36 = .ok (.iload 5, 2) := da9_dX3_askCases_34.2.1
theorem dX3_askCases_38 : decode cX3_askCases 38 = .ok (.aload_n 0, 1) := da9_dX3_askCases_34.2.2.1
theorem dX3_askCases_39 : decode cX3_askCases 39 = .ok (.getfield 51, 3) := da9_dX3_askCases_34.2.2.2.1
theorem dX3_askCases_42 : decode cX3_askCases 42 = .ok (.if_icmp .gt 173, 3) := da9_dX3_askCases_34.2.2.2.2.1
theorem dX3_askCases_45 : decode cX3_askCases 45 = .ok (.iconst 0, 1) := da9_dX3_askCases_34.2.2.2.2.2.1
theorem dX3_askCases_46 : decode cX3_askCases 46 = .ok (.istore 6, 2) := da9_dX3_askCases_34.2.2.2.2.2.2.1
theorem dX3_askCases_48 : decode cX3_askCases 48 = .ok (.iload 6, 2) := da9_dX3_askCases_34.2.2.2.2.2.2.2.1
theorem dX3_askCases_50 : decode cX3_askCases 50 = .ok (.aload_n 0, 1) := da9_dX3_askCases_34.2.2.2.2.2.2.2.2.1
theorem dX3_askCases_51 : decode cX3_askCases 51 = .ok (.getfield 51, 3) := da9_dX3_askCases_34.2.2.2.2.2.2.2.2.2.1
theorem dX3_askCases_54 : decode cX3_askCases 54 = .ok (.if_icmp .ge 155, 3) := da9_dX3_askCases_34.2.2.2.2.2.2.2.2.2.2.1
theorem dX3_askCases_57 : decode cX3_askCases 57 = .ok (.iload 5, 2) := da9_dX3_askCases_34.2.2.2.2.2.2.2.2.2.2.2.1
theorem dX3_askCases_59 : decode cX3_askCases 59 = .ok (.aload_n 0, 1) := da9_dX3_askCases_34.2.2.2.2.2.2.2.2.2.2.2.2.1
theorem dX3_askCases_60 : decode cX3_askCases 60 = .ok (.getfield 51, 3) := da9_dX3_askCases_34.2.2.2.2.2.2.2.2.2.2.2.2.2.1
theorem dX3_askCases_63 : decode cX3_askCases 63 = .ok (.if_icmp .ge 7, 3) := da9_dX3_askCases_34.2.2.2.2.2.2.2.2.2.2.2.2.2.2.1
theorem dX3_askCases_66 : decode cX3_askCases 66 = .ok (.iconst 0, 1) := da9_dX3_askCases_34.2.2.2.2.2.2.2.2.2.2.2.2.2.2.2
theorem da9_dX3_askCases_67 : (decode cX3_askCases 67 = .ok (.goto 5, 3)) ∧ (decode cX3_askCases 70 = .ok (.bipush 6, 2)) ∧ (decode cX3_askCases 72 = .ok (.istore 7, 2)) ∧ (decode cX3_askCases 74 = .ok (.iload 5, 2)) ∧ (decode cX3_askCases 76 = .ok (.aload_n 0, 1)) ∧ (decode cX3_askCases 77 = .ok (.getfield 51, 3)) ∧ (decode cX3_askCases 80 = .ok (.if_icmp .ge 12, 3)) ∧ (decode cX3_askCases 83 = .ok (.aload_n 0, 1)) ∧ (decode cX3_askCases 84 = .ok (.getfield 51, 3)) ∧ (decode cX3_askCases 87 = .ok (.iconst 1, 1)) ∧ (decode cX3_askCases 88 = .ok (.isub, 1)) ∧ (decode cX3_askCases 89 = .ok (.goto 5, 3)) ∧ (decode cX3_askCases 92 = .ok (.bipush 6, 2)) ∧ (decode cX3_askCases 94 = .ok (.istore 8, 2)) ∧ (decode cX3_askCases 96 = .ok (.iload 7, 2)) ∧ (decode cX3_askCases 98 = .ok (.istore 9, 2)) := by decide +kernel
theorem dX3_askCases_67 : decode cX3_askCases 67 = .ok (.goto 5, 3) := da9_dX3_askCases_67.1
theorem dX3_askCases_70 : decode cX3_askCases 70 = .ok (.bipush 6, 2) := da9_dX3_askCases_67.2.1
theorem dX3_askCases_72 : decode cX3_askCases 72 = .ok (.istore 7, 2) := da9_dX3_askCases_67.2.2.1
theorem dX3_askCases_74 : decode cX3_askCases 74 = .ok (.iload 5, 2) := da9_dX3_askCases_67.2.2.2.1
theorem dX3_askCases_76 : decode cX3_askCases 76 = .ok (.aload_n 0, 1) := da9_dX3_askCases_67.2.2.2.2.1
theorem dX3_askCases_77 : decode cX3_askCases 77 = .ok (.getfield 51, 3) := da9_dX3_askCases_67.2.2.2.2.2.1
theorem dX3_askCases_80 : decode cX3_askCases 80 = .ok (.if_icmp .ge 12, 3) := da9_dX3_askCases_67.2.2.2.2.2.2.1
theorem dX3_askCases_83 : decode cX3_askCases 83 = .ok (.aload_n 0, 1) := da9_dX3_askCases_67.2.2.2.2.2.2.2.1
theorem dX3_askCases_84 : decode cX3_askCases 84 = .ok (.getfield 51, 3) := da9_dX3_askCases_67.2.2.2.2.2.2.2.2.1
theorem dX3_askCases_87 : decode cX3_askCases 87 = .ok (.iconst 1, 1) := da9_dX3_askCases_67.2.2.2.2.2.2.2.2.2.1
theorem dX3_askCases_88 : decode cX3_askCases 88 = .ok (.isub, 1) := da9_dX3_askCases_67.2.2.2.2.2.2.2.2.2.2.1
theorem dX3_askCases_89 : decode cX3_askCases 89 = .ok (.goto 5, 3) := da9_dX3_askCases_67.2.2.2.2.2.2.2.2.2.2.2.1
theorem dX3_askCases_92 : decode cX3_askCases 92 = .ok (.bipush 6, 2) := da9_dX3_askCases_67.2.2.2.2.2.2.2.2.2.2.2.2.1
theorem dX3_askCases_94 : decode cX3_askCases 94 = .ok (.istore 8, 2) := da9_dX3_askCases_67.2.2.2.2.2.2.2.2.2.2.2.2.2.1
theorem dX3_askCases_96 : decode cX3_askCases 96 = .ok (.iload 7, 2) := da9_dX3_askCases_67.2.2.2.2.2.2.2.2.2.2.2.2.2.2.1
theorem dX3_askCases_98 : decode cX3_askCases 98 = .ok (.istore 9, 2) := da9_dX3_askCases_67.2.2.2.2.2.2.2.2.2.2.2.2.2.2.2
theorem da9_dX3_askCases_100 : (decode cX3_askCases 100 = .ok (.iload 9, 2)) ∧ (decode cX3_askCases 102 = .ok (.iload 8, 2)) ∧ (decode cX3_askCases 104 = .ok (.if_icmp .gt 99, 3)) ∧ (decode cX3_askCases 107 = .ok (.iload 9, 2)) ∧ (decode cX3_askCases 109 = .ok (.bipush 6, 2)) ∧ (decode cX3_askCases 111 = .ok (.if_icmp .ne 7, 3)) ∧ (decode cX3_askCases 114 = .ok (.iconst (-1), 1)) ∧ (decode cX3_askCases 115 = .ok (.goto 10, 3)) ∧ (decode cX3_askCases 118 = .ok (.aload_n 0, 1)) ∧ (decode cX3_askCases 119 = .ok (.getfield 9, 3)) ∧ (decode cX3_askCases 122 = .ok (.iload 9, 2)) ∧ (decode cX3_askCases 124 = .ok (.iaload, 1)) ∧ (decode cX3_askCases 125 = .ok (.istore 10, 2)) ∧ (decode cX3_askCases 127 = .ok (.iconst 0, 1)) ∧ (decode cX3_askCases 128 = .ok (.istore 11, 2)) ∧ (decode cX3_askCases 130 = .ok (.iload 11, 2)) := by decide +kernel
theorem dX3_askCases_100 : decode cX3_askCases 100 = .ok (.iload 9, 2) := da9_dX3_askCases_100.1
theorem dX3_askCases_102 : decode cX3_askCases 102 = .ok (.iload 8, 2) := da9_dX3_askCases_100.2.1
theorem dX3_askCases_104 : decode cX3_askCases 104 = .ok (.if_icmp .gt 99, 3) := da9_dX3_askCases_100.2.2.1
theorem dX3_askCases_107 : decode cX3_askCases 107 = .ok (.iload 9, 2) := da9_dX3_askCases_100.2.2.2.1
theorem dX3_askCases_109 : decode cX3_askCases 109 = .ok (.bipush 6, 2) := da9_dX3_askCases_100.2.2.2.2.1
theorem dX3_askCases_111 : decode cX3_askCases 111 = .ok (.if_icmp .ne 7, 3) := da9_dX3_askCases_100.2.2.2.2.2.1
theorem dX3_askCases_114 : decode cX3_askCases 114 = .ok (.iconst (-1), 1) := da9_dX3_askCases_100.2.2.2.2.2.2.1
theorem dX3_askCases_115 : decode cX3_askCases 115 = .ok (.goto 10, 3) := da9_dX3_askCases_100.2.2.2.2.2.2.2.1
theorem dX3_askCases_118 : decode cX3_askCases 118 = .ok (.aload_n 0, 1) := da9_dX3_askCases_100.2.2.2.2.2.2.2.2.1
theorem dX3_askCases_119 : decode cX3_askCases 119 = .ok (.getfield 9, 3) := da9_dX3_askCases_100.2.2.2.2.2.2.2.2.2.1
theorem dX3_askCases_122 : decode cX3_askCases 122 = .ok (.iload 9, 2) := da9_dX3_askCases_100.2.2.2.2.2.2.2.2.2.2.1
theorem dX3_askCases_124 : decode cX3_askCases 124 = .ok (.iaload, 1) := da9_dX3_askCases_100.2.2.2.2.2.2.2.2.2.2.2.1
theorem dX3_askCases_125 : decode cX3_askCases 125 = .ok (.istore 10, 2) := da9_dX3_askCases_100.2.2.2.2.2.2.2.2.2.2.2.2.1
theorem dX3_askCases_127 : decode cX3_askCases 127 = .ok (.iconst 0, 1) := da9_dX3_askCases_100.2.2.2.2.2.2.2.2.2.2.2.2.2.1
theorem dX3_askCases_128 : decode cX3_askCases 128 = .ok (.istore 11, 2) := da9_dX3_askCases_100.2.2.2.2.2.2.2.2.2.2.2.2.2.2.1
theorem dX3_askCases_130 : decode cX3_askCases 130 = .ok (.iload 11, 2) := da9_dX3_askCases_100.2.2.2.2.2.2.2.2.2.2.2.2.2.2.2
theorem da9_dX3_askCases_132 : (decode cX3_askCases 132 = .ok (.iconst 2, 1)) ∧ (decode cX3_askCases 133 = .ok (.if_icmp .ge 64, 3)) ∧ (decode cX3_askCases 136 = .ok (.aload_n 1, 1)) ∧ (decode cX3_askCases 137 = .ok (.iload 5, 2)) ∧ (decode cX3_askCases 139 = .ok (.aload_n 0, 1)) ∧ (decode cX3_askCases 140 = .ok (.getfield 9, 3)) ∧ (decode cX3_askCases 143 = .ok (.iload 6, 2)) ∧ (decode cX3_askCases 145 = .ok (.iaload, 1)) ∧ (decode cX3_askCases 146 = .ok (.iload 10, 2)) ∧ (decode cX3_askCases 148 = .ok (.iload 11, 2)) ∧ (decode cX3_askCases 150 = .ok (.invokevirtual 181, 3)) ∧ (decode cX3_askCases 153 = .ok (.iload_n 3, 1)) ∧ (decode cX3_askCases 154 = .ok (.iconst 1, 1)) ∧ (decode cX3_askCases 155 = .ok (.if_icmp .ne 14, 3)) ∧ (decode cX3_askCases 158 = .ok (.aload_n 1, 1)) ∧ (decode cX3_askCases 159 = .ok (.iconst 1, 1)) := by decide +kernel
theorem dX3_askCases_132 : decode cX3_askCases 132 = .ok (.iconst 2, 1) := da9_dX3_askCases_132.1
theorem dX3_askCases_133 : decode cX3_askCases 133 = .ok (.if_icmp .ge 64, 3) := da9_dX3_askCases_132.2.1
theorem dX3_askCases_136 : decode cX3_askCases 136 = .ok (.aload_n 1, 1) := da9_dX3_askCases_132.2.2.1
theorem dX3_askCases_137 : decode cX3_askCases 137 = .ok (.iload 5, 2) := da9_dX3_askCases_132.2.2.2.1
theorem dX3_askCases_139 : decode cX3_askCases 139 = .ok (.aload_n 0, 1) := da9_dX3_askCases_132.2.2.2.2.1
theorem dX3_askCases_140 : decode cX3_askCases 140 = .ok (.getfield 9, 3) := da9_dX3_askCases_132.2.2.2.2.2.1
theorem dX3_askCases_143 : decode cX3_askCases 143 = .ok (.iload 6, 2) := da9_dX3_askCases_132.2.2.2.2.2.2.1
theorem dX3_askCases_145 : decode cX3_askCases 145 = .ok (.iaload, 1) := da9_dX3_askCases_132.2.2.2.2.2.2.2.1
theorem dX3_askCases_146 : decode cX3_askCases 146 = .ok (.iload 10, 2) := da9_dX3_askCases_132.2.2.2.2.2.2.2.2.1
theorem dX3_askCases_148 : decode cX3_askCases 148 = .ok (.iload 11, 2) := da9_dX3_askCases_132.2.2.2.2.2.2.2.2.2.1
theorem dX3_askCases_150 : decode cX3_askCases 150 = .ok (.invokevirtual 181, 3) := da9_dX3_askCases_132.2.2.2.2.2.2.2.2.2.2.1
theorem dX3_askCases_153 : decode cX3_askCases 153 = .ok (.iload_n 3, 1) := da9_dX3_askCases_132.2.2.2.2.2.2.2.2.2.2.2.1
theorem dX3_askCases_154 : decode cX3_askCases 154 = .ok (.iconst 1, 1) := da9_dX3_askCases_132.2.2.2.2.2.2.2.2.2.2.2.2.1
theorem dX3_askCases_155 : decode cX3_askCases 155 = .ok (.if_icmp .ne 14, 3) := da9_dX3_askCases_132.2.2.2.2.2.2.2.2.2.2.2.2.2.1
theorem dX3_askCases_158 : decode cX3_askCases 158 = .ok (.aload_n 1, 1) := da9_dX3_askCases_132.2.2.2.2.2.2.2.2.2.2.2.2.2.2.1
theorem dX3_askCases_159 : decode cX3_askCases 159 = .ok (.iconst 1, 1) := da9_dX3_askCases_132.2.2.2.2.2.2.2.2.2.2.2.2.2.2.2
theorem da9_dX3_askCases_160 : (decode cX3_askCases 160 = .ok (.invokevirtual 185, 3)) ∧ (decode cX3_askCases 163 = .ok (.invokestatic 133, 3)) ∧ (decode cX3_askCases 166 = .ok (.goto 7, 3)) ∧ (decode cX3_askCases 169 = .ok (.aload_n 1, 1)) ∧ (decode cX3_askCases 170 = .ok (.invokevirtual 188, 3)) ∧ (decode cX3_askCases 173 = .ok (.istore 12, 2)) ∧ (decode cX3_askCases 175 = .ok (.aload 4, 2)) ∧ (decode cX3_askCases 177 = .ok (.iload 5, 2)) ∧ (decode cX3_askCases 179 = .ok (.iload 6, 2)) ∧ (decode cX3_askCases 181 = .ok (.iload 9, 2)) ∧ (decode cX3_askCases 183 = .ok (.iload 11, 2)) ∧ (decode cX3_askCases 185 = .ok (.invokestatic 171, 3)) ∧ (decode cX3_askCases 188 = .ok (.iload 12, 2)) ∧ (decode cX3_askCases 190 = .ok (.iastore, 1)) ∧ (decode cX3_askCases 191 = .ok (.iinc 11 1, 3)) ∧ (decode cX3_askCases 194 = .ok (.goto (-64), 3)) := by decide +kernel
theorem dX3_askCases_160 : decode cX3_askCases 160 = .ok (.invokevirtual 185, 3) := da9_dX3_askCases_160.1
theorem dX3_askCases_163 : decode cX3_askCases 163 = .ok (.invokestatic 133, 3) := da9_dX3_askCases_160.2.1
theorem dX3_askCases_166 : decode cX3_askCases 166 = .ok (.goto 7, 3) := da9_dX3_askCases_160.2.2.1
theorem dX3_askCases_169 : decode cX3_askCases 169 = .ok (.aload_n 1, 1) := da9_dX3_askCases_160.2.2.2.1
theorem dX3_askCases_170 : decode cX3_askCases 170 = .ok (.invokevirtual 188, 3) := da9_dX3_askCases_160.2.2.2.2.1
theorem dX3_askCases_173 : decode cX3_askCases 173 = .ok (.istore 12, 2) := da9_dX3_askCases_160.2.2.2.2.2.1
theorem dX3_askCases_175 : decode cX3_askCases 175 = .ok (.aload 4, 2) := da9_dX3_askCases_160.2.2.2.2.2.2.1
theorem dX3_askCases_177 : decode cX3_askCases 177 = .ok (.iload 5, 2) := da9_dX3_askCases_160.2.2.2.2.2.2.2.1
theorem dX3_askCases_179 : decode cX3_askCases 179 = .ok (.iload 6, 2) := da9_dX3_askCases_160.2.2.2.2.2.2.2.2.1
theorem dX3_askCases_181 : decode cX3_askCases 181 = .ok (.iload 9, 2) := da9_dX3_askCases_160.2.2.2.2.2.2.2.2.2.1
theorem dX3_askCases_183 : decode cX3_askCases 183 = .ok (.iload 11, 2) := da9_dX3_askCases_160.2.2.2.2.2.2.2.2.2.2.1
theorem dX3_askCases_185 : decode cX3_askCases 185 = .ok (.invokestatic 171, 3) := da9_dX3_askCases_160.2.2.2.2.2.2.2.2.2.2.2.1
theorem dX3_askCases_188 : decode cX3_askCases 188 = .ok (.iload 12, 2) := da9_dX3_askCases_160.2.2.2.2.2.2.2.2.2.2.2.2.1
theorem dX3_askCases_190 : decode cX3_askCases 190 = .ok (.iastore, 1) := da9_dX3_askCases_160.2.2.2.2.2.2.2.2.2.2.2.2.2.1
theorem dX3_askCases_191 : decode cX3_askCases 191 = .ok (.iinc 11 1, 3) := da9_dX3_askCases_160.2.2.2.2.2.2.2.2.2.2.2.2.2.2.1
theorem dX3_askCases_194 : decode cX3_askCases 194 = .ok (.goto (-64), 3) := da9_dX3_askCases_160.2.2.2.2.2.2.2.2.2.2.2.2.2.2.2
theorem da9_dX3_askCases_197 : (decode cX3_askCases 197 = .ok (.iinc 9 1, 3)) ∧ (decode cX3_askCases 200 = .ok (.goto (-100), 3)) ∧ (decode cX3_askCases 203 = .ok (.iinc 6 1, 3)) ∧ (decode cX3_askCases 206 = .ok (.goto (-158), 3)) ∧ (decode cX3_askCases 209 = .ok (.iinc 5 1, 3)) ∧ (decode cX3_askCases 212 = .ok (.goto (-176), 3)) ∧ (decode cX3_askCases 215 = .ok (.return_, 1)) := by decide +kernel
theorem dX3_askCases_197 : decode cX3_askCases 197 = .ok (.iinc 9 1, 3) := da9_dX3_askCases_197.1
theorem dX3_askCases_200 : decode cX3_askCases 200 = .ok (.goto (-100), 3) := da9_dX3_askCases_197.2.1
theorem dX3_askCases_203 : decode cX3_askCases 203 = .ok (.iinc 6 1, 3) := da9_dX3_askCases_197.2.2.1
theorem dX3_askCases_206 : decode cX3_askCases 206 = .ok (.goto (-158), 3) := da9_dX3_askCases_197.2.2.2.1
theorem dX3_askCases_209 : decode cX3_askCases 209 = .ok (.iinc 5 1, 3) := da9_dX3_askCases_197.2.2.2.2.1
theorem dX3_askCases_212 : decode cX3_askCases 212 = .ok (.goto (-176), 3) := da9_dX3_askCases_197.2.2.2.2.2.1
theorem dX3_askCases_215 : decode cX3_askCases 215 = .ok (.return_, 1) := da9_dX3_askCases_197.2.2.2.2.2.2
theorem da9_dX3_indexOfRank_0 : (decode cX3_indexOfRank 0 = .ok (.iconst 0, 1)) ∧ (decode cX3_indexOfRank 1 = .ok (.istore_n 2, 1)) ∧ (decode cX3_indexOfRank 2 = .ok (.iload_n 2, 1)) ∧ (decode cX3_indexOfRank 3 = .ok (.aload_n 0, 1)) ∧ (decode cX3_indexOfRank 4 = .ok (.getfield 51, 3)) ∧ (decode cX3_indexOfRank 7 = .ok (.if_icmp .ge 21, 3)) ∧ (decode cX3_indexOfRank 10 = .ok (.aload_n 0, 1)) ∧ (decode cX3_indexOfRank 11 = .ok (.getfield 9, 3)) ∧ (decode cX3_indexOfRank 14 = .ok (.iload_n 2, 1)) ∧ (decode cX3_indexOfRank 15 = .ok (.iaload, 1)) ∧ (decode cX3_indexOfRank 16 = .ok (.iload_n 1, 1)) ∧ (decode cX3_indexOfRank 17 = .ok (.if_icmp .ne 5, 3)) ∧ (decode cX3_indexOfRank 20 = .ok (.iload_n 2, 1)) ∧ (decode cX3_indexOfRank 21 = .ok (.ireturn, 1)) ∧ (decode cX3_indexOfRank 22 = .ok (.iinc 2 1, 3)) ∧ (decode cX3_indexOfRank 25 = .ok (.goto (-23), 3)) := by decide +kernel
theorem dX3_indexOfRank_0 : decode cX3_indexOfRank 0 = .ok (.iconst 0, 1) := da9_dX3_indexOfRank_0.1
theorem dX3_indexOfRank_1 : decode cX3_indexOfRank 1 = .ok (.istore_n 2, 1) := da9_dX3_indexOfRank_0.2.1
theorem dX3_indexOfRank_2 : decode cX3_indexOfRank 2 = .ok (.iload_n 2, 1) := da9_dX3_indexOfRank_0.2.2.1
theorem dX3_indexOfRank_3 : decode cX3_indexOfRank 3 = .ok (.aload_n 0, 1) := da9_dX3_indexOfRank_0.2.2.2.1
theorem dX3_indexOfRank_4 : decode cX3_indexOfRank 4 = .ok (.getfield 51, 3) := da9_dX3_indexOfRank_0.2.2.2.2.1
theorem dX3_indexOfRank_7 : decode cX3_indexOfRank 7 = .ok (.if_icmp .ge 21, 3) := da9_dX3_indexOfRank_0.2.2.2.2.2.1
theorem dX3_indexOfRank_10 : decode cX3_indexOfRank 10 = .ok (.aload_n 0, 1) := da9_dX3_indexOfRank_0.2.2.2.2.2.2.1
theorem dX3_indexOfRank_11 : decode cX3_indexOfRank 11 = .ok (.getfield 9, 3) := da9_dX3_indexOfRank_0.2.2.2.2.2.2.2.1
theorem dX3_indexOfRank_14 : decode cX3_indexOfRank 14 = .ok (.iload_n 2, 1) := da9_dX3_indexOfRank_0.2.2.2.2.2.2.2.2.1
theorem dX3_indexOfRank_15 : decode cX3_indexOfRank 15 = .ok (.iaload, 1) := da9_dX3_indexOfRank_0.2.2.2.2.2.2.2.2.2.1
theorem dX3_indexOfRank_16 : decode cX3_indexOfRank 16 = .ok (.iload_n 1, 1) := da9_dX3_indexOfRank_0.2.2.2.2.2.2.2.2.2.2.1
theorem dX3_indexOfRank_17 : decode cX3_indexOfRank 17 = .ok (.if_icmp .ne 5, 3) := da9_dX3_indexOfRank_0.2.2.2.2.2.2.2.2.2.2.2.1
theorem dX3_indexOfRank_20 : decode cX3_indexOfRank 20 = .ok (.iload_n 2, 1) := da9_dX3_indexOfRank_0.2.2.2.2.2.2.2.2.2.2.2.2.1
theorem dX3_indexOfRank_21 : decode cX3_indexOfRank 21 = .ok (.ireturn, 1) := da9_dX3_indexOfRank_0.2.2.2.2.2.2.2.2.2.2.2.2.2.1
theorem dX3_indexOfRank_22 : decode cX3_indexOfRank 22 = .ok (.iinc 2 1, 3) := da9_dX3_indexOfRank_0.2.2.2.2.2.2.2.2.2.2.2.2.2.2.1
theorem dX3_indexOfRank_25 : decode cX3_indexOfRank 25 = .ok (.goto (-23), 3) := da9_dX3_indexOfRank_0.2.2.2.2.2.2.2.2.2.2.2.2.2.2.2
theorem da9_dX3_indexOfRank_28 : (decode cX3_indexOfRank 28 = .ok (.iconst (-1), 1)) ∧ (decode cX3_indexOfRank 29 = .ok (.ireturn, 1)) := by decide +kernel
theorem dX3_indexOfRank_28 : decode cX3_indexOfRank 28 = .ok (.iconst (-1), 1) := da9_dX3_indexOfRank_28.1
theorem dX3_indexOfRank_29 : decode cX3_indexOfRank 29 = .ok (.ireturn, 1) := da9_dX3_indexOfRank_28.2
end
section
theorem u9_wsX3_askCases_X3 : ∀ w ∈ u_ws RX3 TX3 20, w ∈ wsX3_askCases := fun w h => List.mem_cons_of_mem _ (vW9_wsX30 w h)
theorem f9_wsX3_askCases_741 : (Cond.fieldLink RX3 9 "TurnedFloors$Paper" "ranks" "[I") ∈ wsX3_askCases := List.mem_cons_of_mem _ mvW9_468
theorem f9_wsX3_askCases_742 : (Cond.initialized RX9) ∈ wsX3_askCases := List.mem_cons_of_mem _ mvW9_4
theorem f9_wsX3_askCases_743 : (Cond.fieldLink RX3 51 "TurnedFloors$Paper" "floors" "I") ∈ wsX3_askCases := List.mem_cons_of_mem _ mvW9_463
theorem f9_wsX3_askCases_744 : (Cond.fieldLink RX3 18 "TurnedFloors$Paper" "barred" "[I") ∈ wsX3_askCases := List.mem_cons_of_mem _ mvW9_507
theorem u9_wsX3_indexOfRank_X3 : ∀ w ∈ u_ws RX3 TX3 20, w ∈ wsX3_indexOfRank := fun w h => List.mem_cons_of_mem _ (vW9_wsX30 w h)
theorem f9_wsX3_indexOfRank_746 : (Cond.fieldLink RX3 51 "TurnedFloors$Paper" "floors" "I") ∈ wsX3_indexOfRank := List.mem_cons_of_mem _ mvW9_463
theorem f9_wsX3_indexOfRank_747 : (Cond.fieldLink RX3 9 "TurnedFloors$Paper" "ranks" "[I") ∈ wsX3_indexOfRank := List.mem_cons_of_mem _ mvW9_468
set_option maxHeartbeats 4000000 in
set_option maxRecDepth 100000 in
theorem WX3_askCases_s32_s20_c1_173 {p : Program} {l : Launch} {e : Env} {s : State} {m : MethodId} {args : Array Value} {below : List Frame} {meth : Method} {c : Code} {D : va_G} {ty : Nat → ClassId} {eo : Nat → Nat} {A : Nat → Prop} {ad : Nat → Nat} {o2 : dK} (C : dc_C p s m args meth c cX3_askCases none 13 RX3 wsX3_askCases D ty eo A) {k36 : dK → Int32 → Int32 → Option (dK)} {k48 : dK → Int32 → Int32 → Int32 → Option (dK)} {k100 : dK → Int32 → Int32 → Int32 → Int32 → Int32 → Option (dK)} {k130 : dK → Int32 → Int32 → Int32 → Int32 → Int32 → Int32 → Int32 → Option (dK)} (hk36 : ∀ (q : dK) (x3 : Int32) (x5 : Int32) (H : Heap) (locs : List Loc) (ls : Array Slot), k36 q x3 x5 = some o2 → va_P D vwCl (wF ty ad q) H → va_D A (wF ty ad q) → va_S A s.heap H locs → lv_has ls 13 [(0, .ref (ad 32)), (1, .ref (ad 20)), (3, .int x3), (4, .ref (ad 35)), (5, .int x5)] → W p l e ({ frames := 3, cells := 0, slots := 0, locals := 81 } : Room) s m args below meth c H locs 0 0 (MQ below (va_Qv (fun (u : va_W) => wF ty ad o2 = u) (kz_B D ty A) A) args s 0 0 A) (F0 m 36 ls [])) (hk48 : ∀ (q : dK) (x3 : Int32) (x5 : Int32) (x6 : Int32) (H : Heap) (locs : List Loc) (ls : Array Slot), k48 q x3 x5 x6 = some o2 → va_P D vwCl (wF ty ad q) H → va_D A (wF ty ad q) → va_S A s.heap H locs → lv_has ls 13 [(0, .ref (ad 32)), (1, .ref (ad 20)), (3, .int x3), (4, .ref (ad 35)), (5, .int x5), (6, .int x6)] → W p l e ({ frames := 3, cells := 0, slots := 0, locals := 81 } : Room) s m args below meth c H locs 0 0 (MQ below (va_Qv (fun (u : va_W) => wF ty ad o2 = u) (kz_B D ty A) A) args s 0 0 A) (F0 m 48 ls [])) (hk100 : ∀ (q : dK) (x3 : Int32) (x5 : Int32) (x6 : Int32) (x8 : Int32) (x9 : Int32) (H : Heap) (locs : List Loc) (ls : Array Slot), k100 q x3 x5 x6 x8 x9 = some o2 → va_P D vwCl (wF ty ad q) H → va_D A (wF ty ad q) → va_S A s.heap H locs → lv_has ls 13 [(0, .ref (ad 32)), (1, .ref (ad 20)), (3, .int x3), (4, .ref (ad 35)), (5, .int x5), (6, .int x6), (8, .int x8), (9, .int x9)] → W p l e ({ frames := 3, cells := 0, slots := 0, locals := 81 } : Room) s m args below meth c H locs 0 0 (MQ below (va_Qv (fun (u : va_W) => wF ty ad o2 = u) (kz_B D ty A) A) args s 0 0 A) (F0 m 100 ls [])) (hk130 : ∀ (q : dK) (x3 : Int32) (x5 : Int32) (x6 : Int32) (x8 : Int32) (x9 : Int32) (x10 : Int32) (x11 : Int32) (H : Heap) (locs : List Loc) (ls : Array Slot), k130 q x3 x5 x6 x8 x9 x10 x11 = some o2 → va_P D vwCl (wF ty ad q) H → va_D A (wF ty ad q) → va_S A s.heap H locs → lv_has ls 13 [(0, .ref (ad 32)), (1, .ref (ad 20)), (3, .int x3), (4, .ref (ad 35)), (5, .int x5), (6, .int x6), (8, .int x8), (9, .int x9), (10, .int x10), (11, .int x11)] → W p l e ({ frames := 3, cells := 0, slots := 0, locals := 81 } : Room) s m args below meth c H locs 0 0 (MQ below (va_Qv (fun (u : va_W) => wF ty ad o2 = u) (kz_B D ty A) A) args s 0 0 A) (F0 m 130 ls [])) (q : dK) (x3 : Int32) (x5 : Int32) (x6 : Int32) (x8 : Int32) (x9 : Int32) (x10 : Int32) (x11 : Int32) (y0 : Int32) (H : Heap) (locs : List Loc) (ls : Array Slot) (h : zX3_askCases_s32_s20_c1_173 k36 k48 k100 k130 q x3 x5 x6 x8 x9 x10 x11 y0 = some o2) (hP : va_P D vwCl (wF ty ad q) H) (hD : va_D A (wF ty ad q)) (hS : va_S A s.heap H locs) (hl : lv_has ls 13 [(0, .ref (ad 32)), (1, .ref (ad 20)), (3, .int x3), (4, .ref (ad 35)), (5, .int x5), (6, .int x6), (8, .int x8), (9, .int x9), (10, .int x10), (11, .int x11)]) : W p l e ({ frames := 3, cells := 0, slots := 0, locals := 81 } : Room) s m args below meth c H locs 0 0 (MQ below (va_Qv (fun (u : va_W) => wF ty ad o2 = u) (kz_B D ty A) A) args s 0 0 A) (F0 m 173 ls [.int y0]) := by
  have C0 := C
  obtain ⟨hx, hb, hr, hts, hown, hlocks, hml, hK, hN, hE, hA⟩ := C
  unfold zX3_askCases_s32_s20_c1_173 at h
  refine lv_istore (lv' := [(12, .int y0), (0, .ref (ad 32)), (1, .ref (ad 20)), (3, .int x3), (4, .ref (ad 35)), (5, .int x5), (6, .int x6), (8, .int x8), (9, .int x9), (10, .int x10), (11, .int x11)]) hx hb dX3_askCases_173 hl (by decide) rfl (fun ls hl => ?_)
  refine lv_aload hx hb dX3_askCases_175 (lv_at hl 4 rfl) ?_
  refine lv_iload hx hb dX3_askCases_177 (lv_at hl 5 rfl) ?_
  refine lv_iload hx hb dX3_askCases_179 (lv_at hl 6 rfl) ?_
  refine lv_iload hx hb dX3_askCases_181 (lv_at hl 8 rfl) ?_
  refine lv_iload hx hb dX3_askCases_183 (lv_at hl 10 rfl) ?_
  obtain ⟨r1, h2, h⟩ := dV_some h
  refine dw_ks (va_runS (As := [.int x5, .int x6, .int x9, .int x11]) (rest := [.ref (ad 35)]) ⟨hx, hb, hml, hown, hts⟩ (qX3_caseNumber l D ty eo _ x5 x6 x9 x11 _ h2) (va_cwS 4 hts gX3_askCases_X3_caseNumber rfl rfl rfl hd_X3_caseNumber ⟨Nat.le_of_ble_eq_true rfl, Nat.le_of_ble_eq_true rfl⟩) (pvS_0 hK hN hE hP hD hS hA) rfl rfl hl.1 rfl (lv_room (Nat.le_of_ble_eq_true rfl)) dX3_askCases_185 ⟨Nat.le_of_ble_eq_true rfl, Nat.le_of_ble_eq_true rfl⟩) hP hD hS hA (fun _ _ h9 => h9.2.symm) (fun r9 u9 H locs hw hp hd hs => ?_)
  obtain ⟨rfl, -⟩ := hw
  clear hP hD hS
  have hP := hp; have hD := hd; have hS := hs; clear hp hd hs
  refine lv_iload hx hb dX3_askCases_188 (lv_at hl 0 rfl) ?_
  obtain ⟨g3, h⟩ := dG_some h
  refine va_iast hx hb hK hP hD hS 35 0 rfl rfl (dg_in g3) dX3_askCases_190 (fun H locs hp hd hs => ?_)
  obtain ⟨q4, eq4, h⟩ := dL_some h
  refine kz_re (w2 := wF ty ad q4) hp hd hs (by rw [← eq4]; exact wF_a35 ty ad q (Int32.toNatClampNeg r1) y0) ?_
  clear hp hd hs hP hD hS
  intro hP hD hS
  refine lv_iinc (v := x11 + 1) (lv' := [(11, .int (x11 + 1)), (12, .int y0), (0, .ref (ad 32)), (1, .ref (ad 20)), (3, .int x3), (4, .ref (ad 35)), (5, .int x5), (6, .int x6), (8, .int x8), (9, .int x9), (10, .int x10)]) hx hb dX3_askCases_191 hl (k := 10) rfl rfl (by decide) rfl (fun ls hl => ?_)
  refine lv_goto (tgt := 130) hx hb dX3_askCases_194 (by decide) ?_
  exact hk130 _ _ _ _ _ _ _ _ _ _ _ h hP hD hS (lv_sub hl [2, 3, 4, 5, 6, 7, 8, 9, 10, 0] rfl)
set_option maxHeartbeats 4000000 in
set_option maxRecDepth 100000 in
theorem WX3_askCases_s32_s20_c1_130b {p : Program} {l : Launch} {e : Env} {s : State} {m : MethodId} {args : Array Value} {below : List Frame} {meth : Method} {c : Code} {D : va_G} {ty : Nat → ClassId} {eo : Nat → Nat} {A : Nat → Prop} {ad : Nat → Nat} {o2 : dK} (C : dc_C p s m args meth c cX3_askCases none 13 RX3 wsX3_askCases D ty eo A) {k36 : dK → Int32 → Int32 → Option (dK)} {k48 : dK → Int32 → Int32 → Int32 → Option (dK)} {k100 : dK → Int32 → Int32 → Int32 → Int32 → Int32 → Option (dK)} {k130 : dK → Int32 → Int32 → Int32 → Int32 → Int32 → Int32 → Int32 → Option (dK)} (hk36 : ∀ (q : dK) (x3 : Int32) (x5 : Int32) (H : Heap) (locs : List Loc) (ls : Array Slot), k36 q x3 x5 = some o2 → va_P D vwCl (wF ty ad q) H → va_D A (wF ty ad q) → va_S A s.heap H locs → lv_has ls 13 [(0, .ref (ad 32)), (1, .ref (ad 20)), (3, .int x3), (4, .ref (ad 35)), (5, .int x5)] → W p l e ({ frames := 3, cells := 0, slots := 0, locals := 81 } : Room) s m args below meth c H locs 0 0 (MQ below (va_Qv (fun (u : va_W) => wF ty ad o2 = u) (kz_B D ty A) A) args s 0 0 A) (F0 m 36 ls [])) (hk48 : ∀ (q : dK) (x3 : Int32) (x5 : Int32) (x6 : Int32) (H : Heap) (locs : List Loc) (ls : Array Slot), k48 q x3 x5 x6 = some o2 → va_P D vwCl (wF ty ad q) H → va_D A (wF ty ad q) → va_S A s.heap H locs → lv_has ls 13 [(0, .ref (ad 32)), (1, .ref (ad 20)), (3, .int x3), (4, .ref (ad 35)), (5, .int x5), (6, .int x6)] → W p l e ({ frames := 3, cells := 0, slots := 0, locals := 81 } : Room) s m args below meth c H locs 0 0 (MQ below (va_Qv (fun (u : va_W) => wF ty ad o2 = u) (kz_B D ty A) A) args s 0 0 A) (F0 m 48 ls [])) (hk100 : ∀ (q : dK) (x3 : Int32) (x5 : Int32) (x6 : Int32) (x8 : Int32) (x9 : Int32) (H : Heap) (locs : List Loc) (ls : Array Slot), k100 q x3 x5 x6 x8 x9 = some o2 → va_P D vwCl (wF ty ad q) H → va_D A (wF ty ad q) → va_S A s.heap H locs → lv_has ls 13 [(0, .ref (ad 32)), (1, .ref (ad 20)), (3, .int x3), (4, .ref (ad 35)), (5, .int x5), (6, .int x6), (8, .int x8), (9, .int x9)] → W p l e ({ frames := 3, cells := 0, slots := 0, locals := 81 } : Room) s m args below meth c H locs 0 0 (MQ below (va_Qv (fun (u : va_W) => wF ty ad o2 = u) (kz_B D ty A) A) args s 0 0 A) (F0 m 100 ls [])) (hk130 : ∀ (q : dK) (x3 : Int32) (x5 : Int32) (x6 : Int32) (x8 : Int32) (x9 : Int32) (x10 : Int32) (x11 : Int32) (H : Heap) (locs : List Loc) (ls : Array Slot), k130 q x3 x5 x6 x8 x9 x10 x11 = some o2 → va_P D vwCl (wF ty ad q) H → va_D A (wF ty ad q) → va_S A s.heap H locs → lv_has ls 13 [(0, .ref (ad 32)), (1, .ref (ad 20)), (3, .int x3), (4, .ref (ad 35)), (5, .int x5), (6, .int x6), (8, .int x8), (9, .int x9), (10, .int x10), (11, .int x11)] → W p l e ({ frames := 3, cells := 0, slots := 0, locals := 81 } : Room) s m args below meth c H locs 0 0 (MQ below (va_Qv (fun (u : va_W) => wF ty ad o2 = u) (kz_B D ty A) A) args s 0 0 A) (F0 m 130 ls [])) (q : dK) (x3 : Int32) (x5 : Int32) (x6 : Int32) (x8 : Int32) (x9 : Int32) (x10 : Int32) (x11 : Int32) (H : Heap) (locs : List Loc) (ls : Array Slot) (h : zX3_askCases_s32_s20_c1_130b k36 k48 k100 k130 q x3 x5 x6 x8 x9 x10 x11 = some o2) (hP : va_P D vwCl (wF ty ad q) H) (hD : va_D A (wF ty ad q)) (hS : va_S A s.heap H locs) (hl : lv_has ls 13 [(0, .ref (ad 32)), (1, .ref (ad 20)), (3, .int x3), (4, .ref (ad 35)), (5, .int x5), (6, .int x6), (8, .int x8), (9, .int x9), (10, .int x10), (11, .int x11)]) : W p l e ({ frames := 3, cells := 0, slots := 0, locals := 81 } : Room) s m args below meth c H locs 0 0 (MQ below (va_Qv (fun (u : va_W) => wF ty ad o2 = u) (kz_B D ty A) A) args s 0 0 A) (F0 m 130 ls []) := by
  have C0 := C
  obtain ⟨hx, hb, hr, hts, hown, hlocks, hml, hK, hN, hE, hA⟩ := C
  unfold zX3_askCases_s32_s20_c1_130b at h
  refine lv_iload hx hb dX3_askCases_130 (lv_at hl 9 rfl) ?_
  refine lv_iconst (v := 2) hx hb dX3_askCases_132 (by decide) ?_
  refine lv_icmp_ge (tgt := 197) hx hb dX3_askCases_133 (by decide) (fun c9 => ?_) (fun c9 => ?_)
  · rw [if_pos c9] at h
    refine lv_iinc (v := x9 + 1) (lv' := [(9, .int (x9 + 1)), (0, .ref (ad 32)), (1, .ref (ad 20)), (3, .int x3), (4, .ref (ad 35)), (5, .int x5), (6, .int x6), (8, .int x8), (10, .int x10), (11, .int x11)]) hx hb dX3_askCases_197 hl (k := 7) rfl rfl (by decide) rfl (fun ls hl => ?_)
    refine lv_goto (tgt := 100) hx hb dX3_askCases_200 (by decide) ?_
    exact hk100 _ _ _ _ _ _ _ _ _ h hP hD hS (lv_sub hl [1, 2, 3, 4, 5, 6, 7, 0] rfl)
  · rw [if_neg c9] at h
    refine lv_aload_n hx hb dX3_askCases_136 rfl (lv_at hl 1 rfl) ?_
    refine lv_iload hx hb dX3_askCases_137 (lv_at hl 4 rfl) ?_
    refine lv_aload_n hx hb dX3_askCases_139 rfl (lv_at hl 0 rfl) ?_
    refine va_get (D := D) (ci := 3) (v := .ref (ad 33)) (C := RX3) (T := TX3) (N := 20) hx hb hts u9_wsX3_askCases_X3 hown hK hP 32 rfl rfl 0 (by decide) (hts (.fieldLink RX3 9 "TurnedFloors$Paper" "ranks" "[I") f9_wsX3_askCases_741) (fun _ h9 => h9) rfl dX3_askCases_140 ?_
    refine lv_iload hx hb dX3_askCases_143 (lv_at hl 5 rfl) ?_
    obtain ⟨g1, h⟩ := dG_some h
    refine va_iald hx hb hK hP 33 0 rfl rfl (dg_in g1) dX3_askCases_145 ?_
    obtain ⟨v2, ev2, h⟩ := dL_some h
    refine kz_topi v2 ev2 ?_
    refine lv_iload hx hb dX3_askCases_146 (lv_at hl 8 rfl) ?_
    refine lv_iload hx hb dX3_askCases_148 (lv_at hl 9 rfl) ?_
    obtain ⟨q5, h4, h⟩ := dV_some h
    refine dw_kv (va_runV (As := [.int x5, .int v2, .int x10, .int x11]) (rest := []) ⟨hx, hb, hml, hown, hts⟩ (qX1_setGrip_s20 l D ty eo _ ad q x5 v2 x10 x11 q5 h4) (cwV 4 hts gX3_askCases_X1_setGrip rfl rfl rfl hd_X1_setGrip_v ⟨Nat.le_of_ble_eq_true rfl, Nat.le_of_ble_eq_true rfl⟩) (pvF_1_20 hK hN hE hP hD hS hA) rfl rfl hl.1 rfl (lv_room (Nat.le_of_ble_eq_true rfl)) dX3_askCases_150 ⟨Nat.le_of_ble_eq_true rfl, Nat.le_of_ble_eq_true rfl⟩) hD hS hA (fun u9 H locs hw hp hd hs => ?_)
    clear hP hD hS
    obtain rfl := hw
    have hP := hp; have hD := hd; have hS := hs; clear hp hd hs
    refine lv_iload_n hx hb dX3_askCases_153 rfl (lv_at hl 2 rfl) ?_
    refine lv_iconst (v := 1) hx hb dX3_askCases_154 (by decide) ?_
    refine lv_icmp_ne (tgt := 169) hx hb dX3_askCases_155 (by decide) (fun c9 => ?_) (fun c9 => ?_)
    · rw [if_neg c9] at h
      refine lv_aload_n hx hb dX3_askCases_169 rfl (lv_at hl 1 rfl) ?_
      obtain ⟨r6, q8, h7, h⟩ := dB_some h
      refine dw_ki (va_runV (As := []) (rest := []) ⟨hx, hb, hml, hown, hts⟩ (qX1_pay_s20 l D ty eo _ ad q5  r6 q8 h7) (cwV 0 hts gX3_askCases_X1_pay rfl rfl rfl hd_X1_pay_v ⟨Nat.le_of_ble_eq_true rfl, Nat.le_of_ble_eq_true rfl⟩) (pvF_1_20 hK hN hE hP hD hS hA) rfl rfl hl.1 rfl (lv_room (Nat.le_of_ble_eq_true rfl)) dX3_askCases_170 ⟨Nat.le_of_ble_eq_true rfl, Nat.le_of_ble_eq_true rfl⟩) hD hS hA (fun r9 u9 H locs hw hp hd hs => ?_)
      clear hP hD hS
      obtain ⟨rfl, rfl⟩ := hw
      have hP := hp; have hD := hd; have hS := hs; clear hp hd hs
      exact WX3_askCases_s32_s20_c1_173 C0 hk36 hk48 hk100 hk130 _ _ _ _ _ _ _ _ _ _ _ _ h hP hD hS (lv_sub hl [0, 1, 2, 3, 4, 5, 6, 7, 8, 9] rfl)
    · rw [if_pos c9] at h
      refine lv_aload_n hx hb dX3_askCases_158 rfl (lv_at hl 1 rfl) ?_
      refine lv_iconst (v := 1) hx hb dX3_askCases_159 (by decide) ?_
      obtain ⟨r9, q11, h10, h⟩ := dB_some h
      refine dw_ki (va_runV (As := [.int 1]) (rest := []) ⟨hx, hb, hml, hown, hts⟩ (qX1_anyHolds_s20 l D ty eo _ ad q5 1 r9 q11 h10) (cwV 1 hts gX3_askCases_X1_anyHolds rfl rfl rfl hd_X1_anyHolds_v ⟨Nat.le_of_ble_eq_true rfl, Nat.le_of_ble_eq_true rfl⟩) (pvF_1_20 hK hN hE hP hD hS hA) rfl rfl hl.1 rfl (lv_room (Nat.le_of_ble_eq_true rfl)) dX3_askCases_160 ⟨Nat.le_of_ble_eq_true rfl, Nat.le_of_ble_eq_true rfl⟩) hD hS hA (fun r9 u9 H locs hw hp hd hs => ?_)
      clear hP hD hS
      obtain ⟨rfl, rfl⟩ := hw
      have hP := hp; have hD := hd; have hS := hs; clear hp hd hs
      obtain ⟨r12, h13, h⟩ := dV_some h
      refine dw_ks (va_runSN (As := [.int r9]) (rest := []) ⟨hx, hb, hml, hown, hts⟩ (qX9_bit l D ty eo _ r9 _ h13) ⟨va_cnB 1 hts gX3_askCases_X9_bit_n133 rfl rfl rfl (hN.1 _ (by decide +kernel : (.methodLinkNest "TurnedFloors$Paper" 133 yX9_bit "TurnedFloors" : Cond) ∈ kzN1)) (hts (.initialized RX9) f9_wsX3_askCases_742) (by decide +kernel) ⟨Nat.le_of_ble_eq_true rfl, Nat.le_of_ble_eq_true rfl⟩, hts (.static yX9_bit) (by decide +kernel), trivial⟩ (pvS_0 hK hN hE hP hD hS hA) rfl rfl hl.1 rfl (lv_room (Nat.le_of_ble_eq_true rfl)) dX3_askCases_163 ⟨Nat.le_of_ble_eq_true rfl, Nat.le_of_ble_eq_true rfl⟩) hP hD hS hA (fun _ _ h9 => h9.2.symm) (fun r9 u9 H locs hw hp hd hs => ?_)
      obtain ⟨rfl, -⟩ := hw
      clear hP hD hS
      have hP := hp; have hD := hd; have hS := hs; clear hp hd hs
      refine lv_goto (tgt := 173) hx hb dX3_askCases_166 (by decide) ?_
      exact WX3_askCases_s32_s20_c1_173 C0 hk36 hk48 hk100 hk130 _ _ _ _ _ _ _ _ _ _ _ _ h hP hD hS (lv_sub hl [0, 1, 2, 3, 4, 5, 6, 7, 8, 9] rfl)
set_option maxHeartbeats 4000000 in
set_option maxRecDepth 100000 in
theorem WX3_askCases_s32_s20_c1_130 {p : Program} {l : Launch} {e : Env} {s : State} {m : MethodId} {args : Array Value} {below : List Frame} {meth : Method} {c : Code} {D : va_G} {ty : Nat → ClassId} {eo : Nat → Nat} {A : Nat → Prop} {ad : Nat → Nat} {o2 : dK} (C : dc_C p s m args meth c cX3_askCases none 13 RX3 wsX3_askCases D ty eo A) {k36 : dK → Int32 → Int32 → Option (dK)} {k48 : dK → Int32 → Int32 → Int32 → Option (dK)} {k100 : dK → Int32 → Int32 → Int32 → Int32 → Int32 → Option (dK)} (hk36 : ∀ (q : dK) (x3 : Int32) (x5 : Int32) (H : Heap) (locs : List Loc) (ls : Array Slot), k36 q x3 x5 = some o2 → va_P D vwCl (wF ty ad q) H → va_D A (wF ty ad q) → va_S A s.heap H locs → lv_has ls 13 [(0, .ref (ad 32)), (1, .ref (ad 20)), (3, .int x3), (4, .ref (ad 35)), (5, .int x5)] → W p l e ({ frames := 3, cells := 0, slots := 0, locals := 81 } : Room) s m args below meth c H locs 0 0 (MQ below (va_Qv (fun (u : va_W) => wF ty ad o2 = u) (kz_B D ty A) A) args s 0 0 A) (F0 m 36 ls [])) (hk48 : ∀ (q : dK) (x3 : Int32) (x5 : Int32) (x6 : Int32) (H : Heap) (locs : List Loc) (ls : Array Slot), k48 q x3 x5 x6 = some o2 → va_P D vwCl (wF ty ad q) H → va_D A (wF ty ad q) → va_S A s.heap H locs → lv_has ls 13 [(0, .ref (ad 32)), (1, .ref (ad 20)), (3, .int x3), (4, .ref (ad 35)), (5, .int x5), (6, .int x6)] → W p l e ({ frames := 3, cells := 0, slots := 0, locals := 81 } : Room) s m args below meth c H locs 0 0 (MQ below (va_Qv (fun (u : va_W) => wF ty ad o2 = u) (kz_B D ty A) A) args s 0 0 A) (F0 m 48 ls [])) (hk100 : ∀ (q : dK) (x3 : Int32) (x5 : Int32) (x6 : Int32) (x8 : Int32) (x9 : Int32) (H : Heap) (locs : List Loc) (ls : Array Slot), k100 q x3 x5 x6 x8 x9 = some o2 → va_P D vwCl (wF ty ad q) H → va_D A (wF ty ad q) → va_S A s.heap H locs → lv_has ls 13 [(0, .ref (ad 32)), (1, .ref (ad 20)), (3, .int x3), (4, .ref (ad 35)), (5, .int x5), (6, .int x6), (8, .int x8), (9, .int x9)] → W p l e ({ frames := 3, cells := 0, slots := 0, locals := 81 } : Room) s m args below meth c H locs 0 0 (MQ below (va_Qv (fun (u : va_W) => wF ty ad o2 = u) (kz_B D ty A) A) args s 0 0 A) (F0 m 100 ls [])) (n : Nat) (q : dK) (x3 : Int32) (x5 : Int32) (x6 : Int32) (x8 : Int32) (x9 : Int32) (x10 : Int32) (x11 : Int32) (H : Heap) (locs : List Loc) (ls : Array Slot) (h : zX3_askCases_s32_s20_c1_130 k36 k48 k100 n q x3 x5 x6 x8 x9 x10 x11 = some o2) (hP : va_P D vwCl (wF ty ad q) H) (hD : va_D A (wF ty ad q)) (hS : va_S A s.heap H locs) (hl : lv_has ls 13 [(0, .ref (ad 32)), (1, .ref (ad 20)), (3, .int x3), (4, .ref (ad 35)), (5, .int x5), (6, .int x6), (8, .int x8), (9, .int x9), (10, .int x10), (11, .int x11)]) : W p l e ({ frames := 3, cells := 0, slots := 0, locals := 81 } : Room) s m args below meth c H locs 0 0 (MQ below (va_Qv (fun (u : va_W) => wF ty ad o2 = u) (kz_B D ty A) A) args s 0 0 A) (F0 m 130 ls []) := by
  exact dFix_W (F := fun k (a : dK × Int32 × Int32 × Int32 × Int32 × Int32 × Int32 × Int32) => zX3_askCases_s32_s20_c1_130b k36 k48 k100 (fun q x3 x5 x6 x8 x9 x10 x11 => k (q, x3, x5, x6, x8, x9, x10, x11)) a.1 a.2.1 a.2.2.1 a.2.2.2.1 a.2.2.2.2.1 a.2.2.2.2.2.1 a.2.2.2.2.2.2.1 a.2.2.2.2.2.2.2) (o := o2) (P := fun (a : dK × Int32 × Int32 × Int32 × Int32 × Int32 × Int32 × Int32) H locs ls => va_P D vwCl (wF ty ad a.1) H ∧ va_D A (wF ty ad a.1) ∧ va_S A s.heap H locs ∧ lv_has ls 13 [(0, .ref (ad 32)), (1, .ref (ad 20)), (3, .int a.2.1), (4, .ref (ad 35)), (5, .int a.2.2.1), (6, .int a.2.2.2.1), (8, .int a.2.2.2.2.1), (9, .int a.2.2.2.2.2.1), (10, .int a.2.2.2.2.2.2.1), (11, .int a.2.2.2.2.2.2.2)]) (G := fun H locs ls => W p l e ({ frames := 3, cells := 0, slots := 0, locals := 81 } : Room) s m args below meth c H locs 0 0 (MQ below (va_Qv (fun (u : va_W) => wF ty ad o2 = u) (kz_B D ty A) A) args s 0 0 A) (F0 m 130 ls []))
    (fun k hk a H locs ls h hp => WX3_askCases_s32_s20_c1_130b C hk36 hk48 hk100 (fun q x3 x5 x6 x8 x9 x10 x11 H locs ls h h1 h2 h3 h4 => hk (q, x3, x5, x6, x8, x9, x10, x11) H locs ls h ⟨h1, h2, h3, h4⟩) a.1 a.2.1 a.2.2.1 a.2.2.2.1 a.2.2.2.2.1 a.2.2.2.2.2.1 a.2.2.2.2.2.2.1 a.2.2.2.2.2.2.2 H locs ls h hp.1 hp.2.1 hp.2.2.1 hp.2.2.2) n (q, x3, x5, x6, x8, x9, x10, x11) H locs ls h ⟨hP, hD, hS, hl⟩
set_option maxHeartbeats 4000000 in
set_option maxRecDepth 100000 in
theorem WX3_askCases_s32_s20_c1_125 {p : Program} {l : Launch} {e : Env} {s : State} {m : MethodId} {args : Array Value} {below : List Frame} {meth : Method} {c : Code} {D : va_G} {ty : Nat → ClassId} {eo : Nat → Nat} {A : Nat → Prop} {ad : Nat → Nat} {o2 : dK} (C : dc_C p s m args meth c cX3_askCases none 13 RX3 wsX3_askCases D ty eo A) {k36 : dK → Int32 → Int32 → Option (dK)} {k48 : dK → Int32 → Int32 → Int32 → Option (dK)} {k100 : dK → Int32 → Int32 → Int32 → Int32 → Int32 → Option (dK)} (hk36 : ∀ (q : dK) (x3 : Int32) (x5 : Int32) (H : Heap) (locs : List Loc) (ls : Array Slot), k36 q x3 x5 = some o2 → va_P D vwCl (wF ty ad q) H → va_D A (wF ty ad q) → va_S A s.heap H locs → lv_has ls 13 [(0, .ref (ad 32)), (1, .ref (ad 20)), (3, .int x3), (4, .ref (ad 35)), (5, .int x5)] → W p l e ({ frames := 3, cells := 0, slots := 0, locals := 81 } : Room) s m args below meth c H locs 0 0 (MQ below (va_Qv (fun (u : va_W) => wF ty ad o2 = u) (kz_B D ty A) A) args s 0 0 A) (F0 m 36 ls [])) (hk48 : ∀ (q : dK) (x3 : Int32) (x5 : Int32) (x6 : Int32) (H : Heap) (locs : List Loc) (ls : Array Slot), k48 q x3 x5 x6 = some o2 → va_P D vwCl (wF ty ad q) H → va_D A (wF ty ad q) → va_S A s.heap H locs → lv_has ls 13 [(0, .ref (ad 32)), (1, .ref (ad 20)), (3, .int x3), (4, .ref (ad 35)), (5, .int x5), (6, .int x6)] → W p l e ({ frames := 3, cells := 0, slots := 0, locals := 81 } : Room) s m args below meth c H locs 0 0 (MQ below (va_Qv (fun (u : va_W) => wF ty ad o2 = u) (kz_B D ty A) A) args s 0 0 A) (F0 m 48 ls [])) (hk100 : ∀ (q : dK) (x3 : Int32) (x5 : Int32) (x6 : Int32) (x8 : Int32) (x9 : Int32) (H : Heap) (locs : List Loc) (ls : Array Slot), k100 q x3 x5 x6 x8 x9 = some o2 → va_P D vwCl (wF ty ad q) H → va_D A (wF ty ad q) → va_S A s.heap H locs → lv_has ls 13 [(0, .ref (ad 32)), (1, .ref (ad 20)), (3, .int x3), (4, .ref (ad 35)), (5, .int x5), (6, .int x6), (8, .int x8), (9, .int x9)] → W p l e ({ frames := 3, cells := 0, slots := 0, locals := 81 } : Room) s m args below meth c H locs 0 0 (MQ below (va_Qv (fun (u : va_W) => wF ty ad o2 = u) (kz_B D ty A) A) args s 0 0 A) (F0 m 100 ls [])) (q : dK) (x3 : Int32) (x5 : Int32) (x6 : Int32) (x8 : Int32) (x9 : Int32) (y0 : Int32) (H : Heap) (locs : List Loc) (ls : Array Slot) (h : zX3_askCases_s32_s20_c1_125 k36 k48 k100 q x3 x5 x6 x8 x9 y0 = some o2) (hP : va_P D vwCl (wF ty ad q) H) (hD : va_D A (wF ty ad q)) (hS : va_S A s.heap H locs) (hl : lv_has ls 13 [(0, .ref (ad 32)), (1, .ref (ad 20)), (3, .int x3), (4, .ref (ad 35)), (5, .int x5), (6, .int x6), (8, .int x8), (9, .int x9)]) : W p l e ({ frames := 3, cells := 0, slots := 0, locals := 81 } : Room) s m args below meth c H locs 0 0 (MQ below (va_Qv (fun (u : va_W) => wF ty ad o2 = u) (kz_B D ty A) A) args s 0 0 A) (F0 m 125 ls [.int y0]) := by
  have C0 := C
  obtain ⟨hx, hb, hr, hts, hown, hlocks, hml, hK, hN, hE, hA⟩ := C
  unfold zX3_askCases_s32_s20_c1_125 at h
  refine lv_istore (lv' := [(10, .int y0), (0, .ref (ad 32)), (1, .ref (ad 20)), (3, .int x3), (4, .ref (ad 35)), (5, .int x5), (6, .int x6), (8, .int x8), (9, .int x9)]) hx hb dX3_askCases_125 hl (by decide) rfl (fun ls hl => ?_)
  refine lv_iconst (v := 0) hx hb dX3_askCases_127 (by decide) ?_
  refine lv_istore (lv' := [(11, .int 0), (10, .int y0), (0, .ref (ad 32)), (1, .ref (ad 20)), (3, .int x3), (4, .ref (ad 35)), (5, .int x5), (6, .int x6), (8, .int x8), (9, .int x9)]) hx hb dX3_askCases_128 hl (by decide) rfl (fun ls hl => ?_)
  exact WX3_askCases_s32_s20_c1_130 C0 hk36 hk48 hk100 _ _ _ _ _ _ _ _ _ _ _ _ h hP hD hS (lv_sub hl [2, 3, 4, 5, 6, 7, 8, 9, 1, 0] rfl)
set_option maxHeartbeats 4000000 in
set_option maxRecDepth 100000 in
theorem WX3_askCases_s32_s20_c1_100b {p : Program} {l : Launch} {e : Env} {s : State} {m : MethodId} {args : Array Value} {below : List Frame} {meth : Method} {c : Code} {D : va_G} {ty : Nat → ClassId} {eo : Nat → Nat} {A : Nat → Prop} {ad : Nat → Nat} {o2 : dK} (C : dc_C p s m args meth c cX3_askCases none 13 RX3 wsX3_askCases D ty eo A) {k36 : dK → Int32 → Int32 → Option (dK)} {k48 : dK → Int32 → Int32 → Int32 → Option (dK)} {k100 : dK → Int32 → Int32 → Int32 → Int32 → Int32 → Option (dK)} (hk36 : ∀ (q : dK) (x3 : Int32) (x5 : Int32) (H : Heap) (locs : List Loc) (ls : Array Slot), k36 q x3 x5 = some o2 → va_P D vwCl (wF ty ad q) H → va_D A (wF ty ad q) → va_S A s.heap H locs → lv_has ls 13 [(0, .ref (ad 32)), (1, .ref (ad 20)), (3, .int x3), (4, .ref (ad 35)), (5, .int x5)] → W p l e ({ frames := 3, cells := 0, slots := 0, locals := 81 } : Room) s m args below meth c H locs 0 0 (MQ below (va_Qv (fun (u : va_W) => wF ty ad o2 = u) (kz_B D ty A) A) args s 0 0 A) (F0 m 36 ls [])) (hk48 : ∀ (q : dK) (x3 : Int32) (x5 : Int32) (x6 : Int32) (H : Heap) (locs : List Loc) (ls : Array Slot), k48 q x3 x5 x6 = some o2 → va_P D vwCl (wF ty ad q) H → va_D A (wF ty ad q) → va_S A s.heap H locs → lv_has ls 13 [(0, .ref (ad 32)), (1, .ref (ad 20)), (3, .int x3), (4, .ref (ad 35)), (5, .int x5), (6, .int x6)] → W p l e ({ frames := 3, cells := 0, slots := 0, locals := 81 } : Room) s m args below meth c H locs 0 0 (MQ below (va_Qv (fun (u : va_W) => wF ty ad o2 = u) (kz_B D ty A) A) args s 0 0 A) (F0 m 48 ls [])) (hk100 : ∀ (q : dK) (x3 : Int32) (x5 : Int32) (x6 : Int32) (x8 : Int32) (x9 : Int32) (H : Heap) (locs : List Loc) (ls : Array Slot), k100 q x3 x5 x6 x8 x9 = some o2 → va_P D vwCl (wF ty ad q) H → va_D A (wF ty ad q) → va_S A s.heap H locs → lv_has ls 13 [(0, .ref (ad 32)), (1, .ref (ad 20)), (3, .int x3), (4, .ref (ad 35)), (5, .int x5), (6, .int x6), (8, .int x8), (9, .int x9)] → W p l e ({ frames := 3, cells := 0, slots := 0, locals := 81 } : Room) s m args below meth c H locs 0 0 (MQ below (va_Qv (fun (u : va_W) => wF ty ad o2 = u) (kz_B D ty A) A) args s 0 0 A) (F0 m 100 ls [])) (q : dK) (x3 : Int32) (x5 : Int32) (x6 : Int32) (x8 : Int32) (x9 : Int32) (H : Heap) (locs : List Loc) (ls : Array Slot) (h : zX3_askCases_s32_s20_c1_100b k36 k48 k100 q x3 x5 x6 x8 x9 = some o2) (hP : va_P D vwCl (wF ty ad q) H) (hD : va_D A (wF ty ad q)) (hS : va_S A s.heap H locs) (hl : lv_has ls 13 [(0, .ref (ad 32)), (1, .ref (ad 20)), (3, .int x3), (4, .ref (ad 35)), (5, .int x5), (6, .int x6), (8, .int x8), (9, .int x9)]) : W p l e ({ frames := 3, cells := 0, slots := 0, locals := 81 } : Room) s m args below meth c H locs 0 0 (MQ below (va_Qv (fun (u : va_W) => wF ty ad o2 = u) (kz_B D ty A) A) args s 0 0 A) (F0 m 100 ls []) := by
  have C0 := C
  obtain ⟨hx, hb, hr, hts, hown, hlocks, hml, hK, hN, hE, hA⟩ := C
  unfold zX3_askCases_s32_s20_c1_100b at h
  refine lv_iload hx hb dX3_askCases_100 (lv_at hl 7 rfl) ?_
  refine lv_iload hx hb dX3_askCases_102 (lv_at hl 6 rfl) ?_
  refine lv_icmp_gt (tgt := 203) hx hb dX3_askCases_104 (by decide) (fun c9 => ?_) (fun c9 => ?_)
  · rw [if_pos c9] at h
    refine lv_iinc (v := x6 + 1) (lv' := [(6, .int (x6 + 1)), (0, .ref (ad 32)), (1, .ref (ad 20)), (3, .int x3), (4, .ref (ad 35)), (5, .int x5), (8, .int x8), (9, .int x9)]) hx hb dX3_askCases_203 hl (k := 5) rfl rfl (by decide) rfl (fun ls hl => ?_)
    refine lv_goto (tgt := 48) hx hb dX3_askCases_206 (by decide) ?_
    exact hk48 _ _ _ _ _ _ _ h hP hD hS (lv_sub hl [1, 2, 3, 4, 5, 0] rfl)
  · rw [if_neg c9] at h
    refine lv_iload hx hb dX3_askCases_107 (lv_at hl 7 rfl) ?_
    refine lv_bipush (v := 6) hx hb dX3_askCases_109 (by decide) ?_
    refine lv_icmp_ne (tgt := 118) hx hb dX3_askCases_111 (by decide) (fun c9 => ?_) (fun c9 => ?_)
    · rw [if_neg c9] at h
      refine lv_aload_n hx hb dX3_askCases_118 rfl (lv_at hl 0 rfl) ?_
      refine va_get (D := D) (ci := 3) (v := .ref (ad 33)) (C := RX3) (T := TX3) (N := 20) hx hb hts u9_wsX3_askCases_X3 hown hK hP 32 rfl rfl 0 (by decide) (hts (.fieldLink RX3 9 "TurnedFloors$Paper" "ranks" "[I") f9_wsX3_askCases_741) (fun _ h9 => h9) rfl dX3_askCases_119 ?_
      refine lv_iload hx hb dX3_askCases_122 (lv_at hl 7 rfl) ?_
      obtain ⟨g1, h⟩ := dG_some h
      refine va_iald hx hb hK hP 33 0 rfl rfl (dg_in g1) dX3_askCases_124 ?_
      obtain ⟨v2, ev2, h⟩ := dL_some h
      refine kz_topi v2 ev2 ?_
      exact WX3_askCases_s32_s20_c1_125 C0 hk36 hk48 hk100 _ _ _ _ _ _ _ _ _ _ h hP hD hS (lv_sub hl [0, 1, 2, 3, 4, 5, 6, 7] rfl)
    · rw [if_pos c9] at h
      refine lv_iconst (v := (-1)) hx hb dX3_askCases_114 (by decide) ?_
      refine lv_goto (tgt := 125) hx hb dX3_askCases_115 (by decide) ?_
      exact WX3_askCases_s32_s20_c1_125 C0 hk36 hk48 hk100 _ _ _ _ _ _ _ _ _ _ h hP hD hS (lv_sub hl [0, 1, 2, 3, 4, 5, 6, 7] rfl)
set_option maxHeartbeats 4000000 in
set_option maxRecDepth 100000 in
theorem WX3_askCases_s32_s20_c1_100 {p : Program} {l : Launch} {e : Env} {s : State} {m : MethodId} {args : Array Value} {below : List Frame} {meth : Method} {c : Code} {D : va_G} {ty : Nat → ClassId} {eo : Nat → Nat} {A : Nat → Prop} {ad : Nat → Nat} {o2 : dK} (C : dc_C p s m args meth c cX3_askCases none 13 RX3 wsX3_askCases D ty eo A) {k36 : dK → Int32 → Int32 → Option (dK)} {k48 : dK → Int32 → Int32 → Int32 → Option (dK)} (hk36 : ∀ (q : dK) (x3 : Int32) (x5 : Int32) (H : Heap) (locs : List Loc) (ls : Array Slot), k36 q x3 x5 = some o2 → va_P D vwCl (wF ty ad q) H → va_D A (wF ty ad q) → va_S A s.heap H locs → lv_has ls 13 [(0, .ref (ad 32)), (1, .ref (ad 20)), (3, .int x3), (4, .ref (ad 35)), (5, .int x5)] → W p l e ({ frames := 3, cells := 0, slots := 0, locals := 81 } : Room) s m args below meth c H locs 0 0 (MQ below (va_Qv (fun (u : va_W) => wF ty ad o2 = u) (kz_B D ty A) A) args s 0 0 A) (F0 m 36 ls [])) (hk48 : ∀ (q : dK) (x3 : Int32) (x5 : Int32) (x6 : Int32) (H : Heap) (locs : List Loc) (ls : Array Slot), k48 q x3 x5 x6 = some o2 → va_P D vwCl (wF ty ad q) H → va_D A (wF ty ad q) → va_S A s.heap H locs → lv_has ls 13 [(0, .ref (ad 32)), (1, .ref (ad 20)), (3, .int x3), (4, .ref (ad 35)), (5, .int x5), (6, .int x6)] → W p l e ({ frames := 3, cells := 0, slots := 0, locals := 81 } : Room) s m args below meth c H locs 0 0 (MQ below (va_Qv (fun (u : va_W) => wF ty ad o2 = u) (kz_B D ty A) A) args s 0 0 A) (F0 m 48 ls [])) (n : Nat) (q : dK) (x3 : Int32) (x5 : Int32) (x6 : Int32) (x8 : Int32) (x9 : Int32) (H : Heap) (locs : List Loc) (ls : Array Slot) (h : zX3_askCases_s32_s20_c1_100 k36 k48 n q x3 x5 x6 x8 x9 = some o2) (hP : va_P D vwCl (wF ty ad q) H) (hD : va_D A (wF ty ad q)) (hS : va_S A s.heap H locs) (hl : lv_has ls 13 [(0, .ref (ad 32)), (1, .ref (ad 20)), (3, .int x3), (4, .ref (ad 35)), (5, .int x5), (6, .int x6), (8, .int x8), (9, .int x9)]) : W p l e ({ frames := 3, cells := 0, slots := 0, locals := 81 } : Room) s m args below meth c H locs 0 0 (MQ below (va_Qv (fun (u : va_W) => wF ty ad o2 = u) (kz_B D ty A) A) args s 0 0 A) (F0 m 100 ls []) := by
  exact dFix_W (F := fun k (a : dK × Int32 × Int32 × Int32 × Int32 × Int32) => zX3_askCases_s32_s20_c1_100b k36 k48 (fun q x3 x5 x6 x8 x9 => k (q, x3, x5, x6, x8, x9)) a.1 a.2.1 a.2.2.1 a.2.2.2.1 a.2.2.2.2.1 a.2.2.2.2.2) (o := o2) (P := fun (a : dK × Int32 × Int32 × Int32 × Int32 × Int32) H locs ls => va_P D vwCl (wF ty ad a.1) H ∧ va_D A (wF ty ad a.1) ∧ va_S A s.heap H locs ∧ lv_has ls 13 [(0, .ref (ad 32)), (1, .ref (ad 20)), (3, .int a.2.1), (4, .ref (ad 35)), (5, .int a.2.2.1), (6, .int a.2.2.2.1), (8, .int a.2.2.2.2.1), (9, .int a.2.2.2.2.2)]) (G := fun H locs ls => W p l e ({ frames := 3, cells := 0, slots := 0, locals := 81 } : Room) s m args below meth c H locs 0 0 (MQ below (va_Qv (fun (u : va_W) => wF ty ad o2 = u) (kz_B D ty A) A) args s 0 0 A) (F0 m 100 ls []))
    (fun k hk a H locs ls h hp => WX3_askCases_s32_s20_c1_100b C hk36 hk48 (fun q x3 x5 x6 x8 x9 H locs ls h h1 h2 h3 h4 => hk (q, x3, x5, x6, x8, x9) H locs ls h ⟨h1, h2, h3, h4⟩) a.1 a.2.1 a.2.2.1 a.2.2.2.1 a.2.2.2.2.1 a.2.2.2.2.2 H locs ls h hp.1 hp.2.1 hp.2.2.1 hp.2.2.2) n (q, x3, x5, x6, x8, x9) H locs ls h ⟨hP, hD, hS, hl⟩
set_option maxHeartbeats 4000000 in
set_option maxRecDepth 100000 in
theorem WX3_askCases_s32_s20_c1_94 {p : Program} {l : Launch} {e : Env} {s : State} {m : MethodId} {args : Array Value} {below : List Frame} {meth : Method} {c : Code} {D : va_G} {ty : Nat → ClassId} {eo : Nat → Nat} {A : Nat → Prop} {ad : Nat → Nat} {o2 : dK} (C : dc_C p s m args meth c cX3_askCases none 13 RX3 wsX3_askCases D ty eo A) {k36 : dK → Int32 → Int32 → Option (dK)} {k48 : dK → Int32 → Int32 → Int32 → Option (dK)} (hk36 : ∀ (q : dK) (x3 : Int32) (x5 : Int32) (H : Heap) (locs : List Loc) (ls : Array Slot), k36 q x3 x5 = some o2 → va_P D vwCl (wF ty ad q) H → va_D A (wF ty ad q) → va_S A s.heap H locs → lv_has ls 13 [(0, .ref (ad 32)), (1, .ref (ad 20)), (3, .int x3), (4, .ref (ad 35)), (5, .int x5)] → W p l e ({ frames := 3, cells := 0, slots := 0, locals := 81 } : Room) s m args below meth c H locs 0 0 (MQ below (va_Qv (fun (u : va_W) => wF ty ad o2 = u) (kz_B D ty A) A) args s 0 0 A) (F0 m 36 ls [])) (hk48 : ∀ (q : dK) (x3 : Int32) (x5 : Int32) (x6 : Int32) (H : Heap) (locs : List Loc) (ls : Array Slot), k48 q x3 x5 x6 = some o2 → va_P D vwCl (wF ty ad q) H → va_D A (wF ty ad q) → va_S A s.heap H locs → lv_has ls 13 [(0, .ref (ad 32)), (1, .ref (ad 20)), (3, .int x3), (4, .ref (ad 35)), (5, .int x5), (6, .int x6)] → W p l e ({ frames := 3, cells := 0, slots := 0, locals := 81 } : Room) s m args below meth c H locs 0 0 (MQ below (va_Qv (fun (u : va_W) => wF ty ad o2 = u) (kz_B D ty A) A) args s 0 0 A) (F0 m 48 ls [])) (q : dK) (x3 : Int32) (x5 : Int32) (x6 : Int32) (x7 : Int32) (y0 : Int32) (H : Heap) (locs : List Loc) (ls : Array Slot) (h : zX3_askCases_s32_s20_c1_94 k36 k48 q x3 x5 x6 x7 y0 = some o2) (hP : va_P D vwCl (wF ty ad q) H) (hD : va_D A (wF ty ad q)) (hS : va_S A s.heap H locs) (hl : lv_has ls 13 [(0, .ref (ad 32)), (1, .ref (ad 20)), (3, .int x3), (4, .ref (ad 35)), (5, .int x5), (6, .int x6), (7, .int x7)]) : W p l e ({ frames := 3, cells := 0, slots := 0, locals := 81 } : Room) s m args below meth c H locs 0 0 (MQ below (va_Qv (fun (u : va_W) => wF ty ad o2 = u) (kz_B D ty A) A) args s 0 0 A) (F0 m 94 ls [.int y0]) := by
  have C0 := C
  obtain ⟨hx, hb, hr, hts, hown, hlocks, hml, hK, hN, hE, hA⟩ := C
  unfold zX3_askCases_s32_s20_c1_94 at h
  refine lv_istore (lv' := [(8, .int y0), (0, .ref (ad 32)), (1, .ref (ad 20)), (3, .int x3), (4, .ref (ad 35)), (5, .int x5), (6, .int x6), (7, .int x7)]) hx hb dX3_askCases_94 hl (by decide) rfl (fun ls hl => ?_)
  refine lv_iload hx hb dX3_askCases_96 (lv_at hl 7 rfl) ?_
  refine lv_istore (lv' := [(9, .int x7), (8, .int y0), (0, .ref (ad 32)), (1, .ref (ad 20)), (3, .int x3), (4, .ref (ad 35)), (5, .int x5), (6, .int x6), (7, .int x7)]) hx hb dX3_askCases_98 hl (by decide) rfl (fun ls hl => ?_)
  exact WX3_askCases_s32_s20_c1_100 C0 hk36 hk48 _ _ _ _ _ _ _ _ _ _ h hP hD hS (lv_sub hl [2, 3, 4, 5, 6, 7, 1, 0] rfl)
set_option maxHeartbeats 4000000 in
set_option maxRecDepth 100000 in
theorem WX3_askCases_s32_s20_c1_72 {p : Program} {l : Launch} {e : Env} {s : State} {m : MethodId} {args : Array Value} {below : List Frame} {meth : Method} {c : Code} {D : va_G} {ty : Nat → ClassId} {eo : Nat → Nat} {A : Nat → Prop} {ad : Nat → Nat} {o2 : dK} (C : dc_C p s m args meth c cX3_askCases none 13 RX3 wsX3_askCases D ty eo A) {k36 : dK → Int32 → Int32 → Option (dK)} {k48 : dK → Int32 → Int32 → Int32 → Option (dK)} (hk36 : ∀ (q : dK) (x3 : Int32) (x5 : Int32) (H : Heap) (locs : List Loc) (ls : Array Slot), k36 q x3 x5 = some o2 → va_P D vwCl (wF ty ad q) H → va_D A (wF ty ad q) → va_S A s.heap H locs → lv_has ls 13 [(0, .ref (ad 32)), (1, .ref (ad 20)), (3, .int x3), (4, .ref (ad 35)), (5, .int x5)] → W p l e ({ frames := 3, cells := 0, slots := 0, locals := 81 } : Room) s m args below meth c H locs 0 0 (MQ below (va_Qv (fun (u : va_W) => wF ty ad o2 = u) (kz_B D ty A) A) args s 0 0 A) (F0 m 36 ls [])) (hk48 : ∀ (q : dK) (x3 : Int32) (x5 : Int32) (x6 : Int32) (H : Heap) (locs : List Loc) (ls : Array Slot), k48 q x3 x5 x6 = some o2 → va_P D vwCl (wF ty ad q) H → va_D A (wF ty ad q) → va_S A s.heap H locs → lv_has ls 13 [(0, .ref (ad 32)), (1, .ref (ad 20)), (3, .int x3), (4, .ref (ad 35)), (5, .int x5), (6, .int x6)] → W p l e ({ frames := 3, cells := 0, slots := 0, locals := 81 } : Room) s m args below meth c H locs 0 0 (MQ below (va_Qv (fun (u : va_W) => wF ty ad o2 = u) (kz_B D ty A) A) args s 0 0 A) (F0 m 48 ls [])) (q : dK) (x3 : Int32) (x5 : Int32) (x6 : Int32) (y0 : Int32) (H : Heap) (locs : List Loc) (ls : Array Slot) (h : zX3_askCases_s32_s20_c1_72 k36 k48 q x3 x5 x6 y0 = some o2) (hP : va_P D vwCl (wF ty ad q) H) (hD : va_D A (wF ty ad q)) (hS : va_S A s.heap H locs) (hl : lv_has ls 13 [(0, .ref (ad 32)), (1, .ref (ad 20)), (3, .int x3), (4, .ref (ad 35)), (5, .int x5), (6, .int x6)]) : W p l e ({ frames := 3, cells := 0, slots := 0, locals := 81 } : Room) s m args below meth c H locs 0 0 (MQ below (va_Qv (fun (u : va_W) => wF ty ad o2 = u) (kz_B D ty A) A) args s 0 0 A) (F0 m 72 ls [.int y0]) := by
  have C0 := C
  obtain ⟨hx, hb, hr, hts, hown, hlocks, hml, hK, hN, hE, hA⟩ := C
  unfold zX3_askCases_s32_s20_c1_72 at h
  refine lv_istore (lv' := [(7, .int y0), (0, .ref (ad 32)), (1, .ref (ad 20)), (3, .int x3), (4, .ref (ad 35)), (5, .int x5), (6, .int x6)]) hx hb dX3_askCases_72 hl (by decide) rfl (fun ls hl => ?_)
  refine lv_iload hx hb dX3_askCases_74 (lv_at hl 5 rfl) ?_
  refine lv_aload_n hx hb dX3_askCases_76 rfl (lv_at hl 1 rfl) ?_
  refine va_get (D := D) (ci := 3) (v := .int (q.1 32 13)) (C := RX3) (T := TX3) (N := 20) hx hb hts u9_wsX3_askCases_X3 hown hK hP 32 rfl rfl 13 (by decide) (hts (.fieldLink RX3 51 "TurnedFloors$Paper" "floors" "I") f9_wsX3_askCases_743) (fun _ h9 => h9) rfl dX3_askCases_77 ?_
  refine lv_icmp_ge (tgt := 92) hx hb dX3_askCases_80 (by decide) (fun c9 => ?_) (fun c9 => ?_)
  · rw [if_pos c9] at h
    refine lv_bipush (v := 6) hx hb dX3_askCases_92 (by decide) ?_
    exact WX3_askCases_s32_s20_c1_94 C0 hk36 hk48 _ _ _ _ _ _ _ _ _ h hP hD hS (lv_sub hl [1, 2, 3, 4, 5, 6, 0] rfl)
  · rw [if_neg c9] at h
    refine lv_aload_n hx hb dX3_askCases_83 rfl (lv_at hl 1 rfl) ?_
    refine va_get (D := D) (ci := 3) (v := .int (q.1 32 13)) (C := RX3) (T := TX3) (N := 20) hx hb hts u9_wsX3_askCases_X3 hown hK hP 32 rfl rfl 13 (by decide) (hts (.fieldLink RX3 51 "TurnedFloors$Paper" "floors" "I") f9_wsX3_askCases_743) (fun _ h9 => h9) rfl dX3_askCases_84 ?_
    refine lv_iconst (v := 1) hx hb dX3_askCases_87 (by decide) ?_
    refine lv_isub hx hb dX3_askCases_88 ?_
    refine lv_goto (tgt := 94) hx hb dX3_askCases_89 (by decide) ?_
    exact WX3_askCases_s32_s20_c1_94 C0 hk36 hk48 _ _ _ _ _ _ _ _ _ h hP hD hS (lv_sub hl [1, 2, 3, 4, 5, 6, 0] rfl)
set_option maxHeartbeats 4000000 in
set_option maxRecDepth 100000 in
theorem WX3_askCases_s32_s20_c1_48b {p : Program} {l : Launch} {e : Env} {s : State} {m : MethodId} {args : Array Value} {below : List Frame} {meth : Method} {c : Code} {D : va_G} {ty : Nat → ClassId} {eo : Nat → Nat} {A : Nat → Prop} {ad : Nat → Nat} {o2 : dK} (C : dc_C p s m args meth c cX3_askCases none 13 RX3 wsX3_askCases D ty eo A) {k36 : dK → Int32 → Int32 → Option (dK)} {k48 : dK → Int32 → Int32 → Int32 → Option (dK)} (hk36 : ∀ (q : dK) (x3 : Int32) (x5 : Int32) (H : Heap) (locs : List Loc) (ls : Array Slot), k36 q x3 x5 = some o2 → va_P D vwCl (wF ty ad q) H → va_D A (wF ty ad q) → va_S A s.heap H locs → lv_has ls 13 [(0, .ref (ad 32)), (1, .ref (ad 20)), (3, .int x3), (4, .ref (ad 35)), (5, .int x5)] → W p l e ({ frames := 3, cells := 0, slots := 0, locals := 81 } : Room) s m args below meth c H locs 0 0 (MQ below (va_Qv (fun (u : va_W) => wF ty ad o2 = u) (kz_B D ty A) A) args s 0 0 A) (F0 m 36 ls [])) (hk48 : ∀ (q : dK) (x3 : Int32) (x5 : Int32) (x6 : Int32) (H : Heap) (locs : List Loc) (ls : Array Slot), k48 q x3 x5 x6 = some o2 → va_P D vwCl (wF ty ad q) H → va_D A (wF ty ad q) → va_S A s.heap H locs → lv_has ls 13 [(0, .ref (ad 32)), (1, .ref (ad 20)), (3, .int x3), (4, .ref (ad 35)), (5, .int x5), (6, .int x6)] → W p l e ({ frames := 3, cells := 0, slots := 0, locals := 81 } : Room) s m args below meth c H locs 0 0 (MQ below (va_Qv (fun (u : va_W) => wF ty ad o2 = u) (kz_B D ty A) A) args s 0 0 A) (F0 m 48 ls [])) (q : dK) (x3 : Int32) (x5 : Int32) (x6 : Int32) (H : Heap) (locs : List Loc) (ls : Array Slot) (h : zX3_askCases_s32_s20_c1_48b k36 k48 q x3 x5 x6 = some o2) (hP : va_P D vwCl (wF ty ad q) H) (hD : va_D A (wF ty ad q)) (hS : va_S A s.heap H locs) (hl : lv_has ls 13 [(0, .ref (ad 32)), (1, .ref (ad 20)), (3, .int x3), (4, .ref (ad 35)), (5, .int x5), (6, .int x6)]) : W p l e ({ frames := 3, cells := 0, slots := 0, locals := 81 } : Room) s m args below meth c H locs 0 0 (MQ below (va_Qv (fun (u : va_W) => wF ty ad o2 = u) (kz_B D ty A) A) args s 0 0 A) (F0 m 48 ls []) := by
  have C0 := C
  obtain ⟨hx, hb, hr, hts, hown, hlocks, hml, hK, hN, hE, hA⟩ := C
  unfold zX3_askCases_s32_s20_c1_48b at h
  refine lv_iload hx hb dX3_askCases_48 (lv_at hl 5 rfl) ?_
  refine lv_aload_n hx hb dX3_askCases_50 rfl (lv_at hl 0 rfl) ?_
  refine va_get (D := D) (ci := 3) (v := .int (q.1 32 13)) (C := RX3) (T := TX3) (N := 20) hx hb hts u9_wsX3_askCases_X3 hown hK hP 32 rfl rfl 13 (by decide) (hts (.fieldLink RX3 51 "TurnedFloors$Paper" "floors" "I") f9_wsX3_askCases_743) (fun _ h9 => h9) rfl dX3_askCases_51 ?_
  refine lv_icmp_ge (tgt := 209) hx hb dX3_askCases_54 (by decide) (fun c9 => ?_) (fun c9 => ?_)
  · rw [if_pos c9] at h
    refine lv_iinc (v := x5 + 1) (lv' := [(5, .int (x5 + 1)), (0, .ref (ad 32)), (1, .ref (ad 20)), (3, .int x3), (4, .ref (ad 35)), (6, .int x6)]) hx hb dX3_askCases_209 hl (k := 4) rfl rfl (by decide) rfl (fun ls hl => ?_)
    refine lv_goto (tgt := 36) hx hb dX3_askCases_212 (by decide) ?_
    exact hk36 _ _ _ _ _ _ h hP hD hS (lv_sub hl [1, 2, 3, 4, 0] rfl)
  · rw [if_neg c9] at h
    refine lv_iload hx hb dX3_askCases_57 (lv_at hl 4 rfl) ?_
    refine lv_aload_n hx hb dX3_askCases_59 rfl (lv_at hl 0 rfl) ?_
    refine va_get (D := D) (ci := 3) (v := .int (q.1 32 13)) (C := RX3) (T := TX3) (N := 20) hx hb hts u9_wsX3_askCases_X3 hown hK hP 32 rfl rfl 13 (by decide) (hts (.fieldLink RX3 51 "TurnedFloors$Paper" "floors" "I") f9_wsX3_askCases_743) (fun _ h9 => h9) rfl dX3_askCases_60 ?_
    refine lv_icmp_ge (tgt := 70) hx hb dX3_askCases_63 (by decide) (fun c9 => ?_) (fun c9 => ?_)
    · rw [if_pos c9] at h
      refine lv_bipush (v := 6) hx hb dX3_askCases_70 (by decide) ?_
      exact WX3_askCases_s32_s20_c1_72 C0 hk36 hk48 _ _ _ _ _ _ _ _ h hP hD hS (lv_sub hl [0, 1, 2, 3, 4, 5] rfl)
    · rw [if_neg c9] at h
      refine lv_iconst (v := 0) hx hb dX3_askCases_66 (by decide) ?_
      refine lv_goto (tgt := 72) hx hb dX3_askCases_67 (by decide) ?_
      exact WX3_askCases_s32_s20_c1_72 C0 hk36 hk48 _ _ _ _ _ _ _ _ h hP hD hS (lv_sub hl [0, 1, 2, 3, 4, 5] rfl)
set_option maxHeartbeats 4000000 in
set_option maxRecDepth 100000 in
theorem WX3_askCases_s32_s20_c1_48 {p : Program} {l : Launch} {e : Env} {s : State} {m : MethodId} {args : Array Value} {below : List Frame} {meth : Method} {c : Code} {D : va_G} {ty : Nat → ClassId} {eo : Nat → Nat} {A : Nat → Prop} {ad : Nat → Nat} {o2 : dK} (C : dc_C p s m args meth c cX3_askCases none 13 RX3 wsX3_askCases D ty eo A) {k36 : dK → Int32 → Int32 → Option (dK)} (hk36 : ∀ (q : dK) (x3 : Int32) (x5 : Int32) (H : Heap) (locs : List Loc) (ls : Array Slot), k36 q x3 x5 = some o2 → va_P D vwCl (wF ty ad q) H → va_D A (wF ty ad q) → va_S A s.heap H locs → lv_has ls 13 [(0, .ref (ad 32)), (1, .ref (ad 20)), (3, .int x3), (4, .ref (ad 35)), (5, .int x5)] → W p l e ({ frames := 3, cells := 0, slots := 0, locals := 81 } : Room) s m args below meth c H locs 0 0 (MQ below (va_Qv (fun (u : va_W) => wF ty ad o2 = u) (kz_B D ty A) A) args s 0 0 A) (F0 m 36 ls [])) (n : Nat) (q : dK) (x3 : Int32) (x5 : Int32) (x6 : Int32) (H : Heap) (locs : List Loc) (ls : Array Slot) (h : zX3_askCases_s32_s20_c1_48 k36 n q x3 x5 x6 = some o2) (hP : va_P D vwCl (wF ty ad q) H) (hD : va_D A (wF ty ad q)) (hS : va_S A s.heap H locs) (hl : lv_has ls 13 [(0, .ref (ad 32)), (1, .ref (ad 20)), (3, .int x3), (4, .ref (ad 35)), (5, .int x5), (6, .int x6)]) : W p l e ({ frames := 3, cells := 0, slots := 0, locals := 81 } : Room) s m args below meth c H locs 0 0 (MQ below (va_Qv (fun (u : va_W) => wF ty ad o2 = u) (kz_B D ty A) A) args s 0 0 A) (F0 m 48 ls []) := by
  exact dFix_W (F := fun k (a : dK × Int32 × Int32 × Int32) => zX3_askCases_s32_s20_c1_48b k36 (fun q x3 x5 x6 => k (q, x3, x5, x6)) a.1 a.2.1 a.2.2.1 a.2.2.2) (o := o2) (P := fun (a : dK × Int32 × Int32 × Int32) H locs ls => va_P D vwCl (wF ty ad a.1) H ∧ va_D A (wF ty ad a.1) ∧ va_S A s.heap H locs ∧ lv_has ls 13 [(0, .ref (ad 32)), (1, .ref (ad 20)), (3, .int a.2.1), (4, .ref (ad 35)), (5, .int a.2.2.1), (6, .int a.2.2.2)]) (G := fun H locs ls => W p l e ({ frames := 3, cells := 0, slots := 0, locals := 81 } : Room) s m args below meth c H locs 0 0 (MQ below (va_Qv (fun (u : va_W) => wF ty ad o2 = u) (kz_B D ty A) A) args s 0 0 A) (F0 m 48 ls []))
    (fun k hk a H locs ls h hp => WX3_askCases_s32_s20_c1_48b C hk36 (fun q x3 x5 x6 H locs ls h h1 h2 h3 h4 => hk (q, x3, x5, x6) H locs ls h ⟨h1, h2, h3, h4⟩) a.1 a.2.1 a.2.2.1 a.2.2.2 H locs ls h hp.1 hp.2.1 hp.2.2.1 hp.2.2.2) n (q, x3, x5, x6) H locs ls h ⟨hP, hD, hS, hl⟩
set_option maxHeartbeats 4000000 in
set_option maxRecDepth 100000 in
theorem WX3_askCases_s32_s20_c1_36b {p : Program} {l : Launch} {e : Env} {s : State} {m : MethodId} {args : Array Value} {below : List Frame} {meth : Method} {c : Code} {D : va_G} {ty : Nat → ClassId} {eo : Nat → Nat} {A : Nat → Prop} {ad : Nat → Nat} {o2 : dK} (C : dc_C p s m args meth c cX3_askCases none 13 RX3 wsX3_askCases D ty eo A) {k36 : dK → Int32 → Int32 → Option (dK)} (hk36 : ∀ (q : dK) (x3 : Int32) (x5 : Int32) (H : Heap) (locs : List Loc) (ls : Array Slot), k36 q x3 x5 = some o2 → va_P D vwCl (wF ty ad q) H → va_D A (wF ty ad q) → va_S A s.heap H locs → lv_has ls 13 [(0, .ref (ad 32)), (1, .ref (ad 20)), (3, .int x3), (4, .ref (ad 35)), (5, .int x5)] → W p l e ({ frames := 3, cells := 0, slots := 0, locals := 81 } : Room) s m args below meth c H locs 0 0 (MQ below (va_Qv (fun (u : va_W) => wF ty ad o2 = u) (kz_B D ty A) A) args s 0 0 A) (F0 m 36 ls [])) (q : dK) (x3 : Int32) (x5 : Int32) (H : Heap) (locs : List Loc) (ls : Array Slot) (h : zX3_askCases_s32_s20_c1_36b k36 q x3 x5 = some o2) (hP : va_P D vwCl (wF ty ad q) H) (hD : va_D A (wF ty ad q)) (hS : va_S A s.heap H locs) (hl : lv_has ls 13 [(0, .ref (ad 32)), (1, .ref (ad 20)), (3, .int x3), (4, .ref (ad 35)), (5, .int x5)]) : W p l e ({ frames := 3, cells := 0, slots := 0, locals := 81 } : Room) s m args below meth c H locs 0 0 (MQ below (va_Qv (fun (u : va_W) => wF ty ad o2 = u) (kz_B D ty A) A) args s 0 0 A) (F0 m 36 ls []) := by
  have C0 := C
  obtain ⟨hx, hb, hr, hts, hown, hlocks, hml, hK, hN, hE, hA⟩ := C
  unfold zX3_askCases_s32_s20_c1_36b at h
  refine lv_iload hx hb dX3_askCases_36 (lv_at hl 4 rfl) ?_
  refine lv_aload_n hx hb dX3_askCases_38 rfl (lv_at hl 0 rfl) ?_
  refine va_get (D := D) (ci := 3) (v := .int (q.1 32 13)) (C := RX3) (T := TX3) (N := 20) hx hb hts u9_wsX3_askCases_X3 hown hK hP 32 rfl rfl 13 (by decide) (hts (.fieldLink RX3 51 "TurnedFloors$Paper" "floors" "I") f9_wsX3_askCases_743) (fun _ h9 => h9) rfl dX3_askCases_39 ?_
  refine lv_icmp_gt (tgt := 215) hx hb dX3_askCases_42 (by decide) (fun c9 => ?_) (fun c9 => ?_)
  · rw [if_pos c9] at h
    cases h
    exact kz_vret hx hb hr hlocks hP hK hD hS dX3_askCases_215 rfl
  · rw [if_neg c9] at h
    refine lv_iconst (v := 0) hx hb dX3_askCases_45 (by decide) ?_
    refine lv_istore (lv' := [(6, .int 0), (0, .ref (ad 32)), (1, .ref (ad 20)), (3, .int x3), (4, .ref (ad 35)), (5, .int x5)]) hx hb dX3_askCases_46 hl (by decide) rfl (fun ls hl => ?_)
    exact WX3_askCases_s32_s20_c1_48 C0 hk36 _ _ _ _ _ _ _ _ h hP hD hS (lv_sub hl [1, 2, 3, 4, 5, 0] rfl)
set_option maxHeartbeats 4000000 in
set_option maxRecDepth 100000 in
theorem WX3_askCases_s32_s20_c1_36 {p : Program} {l : Launch} {e : Env} {s : State} {m : MethodId} {args : Array Value} {below : List Frame} {meth : Method} {c : Code} {D : va_G} {ty : Nat → ClassId} {eo : Nat → Nat} {A : Nat → Prop} {ad : Nat → Nat} {o2 : dK} (C : dc_C p s m args meth c cX3_askCases none 13 RX3 wsX3_askCases D ty eo A)   (n : Nat) (q : dK) (x3 : Int32) (x5 : Int32) (H : Heap) (locs : List Loc) (ls : Array Slot) (h : zX3_askCases_s32_s20_c1_36  n q x3 x5 = some o2) (hP : va_P D vwCl (wF ty ad q) H) (hD : va_D A (wF ty ad q)) (hS : va_S A s.heap H locs) (hl : lv_has ls 13 [(0, .ref (ad 32)), (1, .ref (ad 20)), (3, .int x3), (4, .ref (ad 35)), (5, .int x5)]) : W p l e ({ frames := 3, cells := 0, slots := 0, locals := 81 } : Room) s m args below meth c H locs 0 0 (MQ below (va_Qv (fun (u : va_W) => wF ty ad o2 = u) (kz_B D ty A) A) args s 0 0 A) (F0 m 36 ls []) := by
  exact dFix_W (F := fun k (a : dK × Int32 × Int32) => zX3_askCases_s32_s20_c1_36b  (fun q x3 x5 => k (q, x3, x5)) a.1 a.2.1 a.2.2) (o := o2) (P := fun (a : dK × Int32 × Int32) H locs ls => va_P D vwCl (wF ty ad a.1) H ∧ va_D A (wF ty ad a.1) ∧ va_S A s.heap H locs ∧ lv_has ls 13 [(0, .ref (ad 32)), (1, .ref (ad 20)), (3, .int a.2.1), (4, .ref (ad 35)), (5, .int a.2.2)]) (G := fun H locs ls => W p l e ({ frames := 3, cells := 0, slots := 0, locals := 81 } : Room) s m args below meth c H locs 0 0 (MQ below (va_Qv (fun (u : va_W) => wF ty ad o2 = u) (kz_B D ty A) A) args s 0 0 A) (F0 m 36 ls []))
    (fun k hk a H locs ls h hp => WX3_askCases_s32_s20_c1_36b C  (fun q x3 x5 H locs ls h h1 h2 h3 h4 => hk (q, x3, x5) H locs ls h ⟨h1, h2, h3, h4⟩) a.1 a.2.1 a.2.2 H locs ls h hp.1 hp.2.1 hp.2.2.1 hp.2.2.2) n (q, x3, x5) H locs ls h ⟨hP, hD, hS, hl⟩
set_option maxHeartbeats 4000000 in
set_option maxRecDepth 100000 in
theorem WX3_askCases_s32_s20_c1_16 {p : Program} {l : Launch} {e : Env} {s : State} {m : MethodId} {args : Array Value} {below : List Frame} {meth : Method} {c : Code} {D : va_G} {ty : Nat → ClassId} {eo : Nat → Nat} {A : Nat → Prop} {ad : Nat → Nat} {o2 : dK} (C : dc_C p s m args meth c cX3_askCases none 13 RX3 wsX3_askCases D ty eo A)   (q : dK) (x2 : Int32) (x3 : Int32) (H : Heap) (locs : List Loc) (ls : Array Slot) (h : zX3_askCases_s32_s20_c1_16  q x2 x3 = some o2) (hP : va_P D vwCl (wF ty ad q) H) (hD : va_D A (wF ty ad q)) (hS : va_S A s.heap H locs) (hl : lv_has ls 13 [(0, .ref (ad 32)), (1, .ref (ad 20)), (2, .int x2), (3, .int x3)]) : W p l e ({ frames := 3, cells := 0, slots := 0, locals := 81 } : Room) s m args below meth c H locs 0 0 (MQ below (va_Qv (fun (u : va_W) => wF ty ad o2 = u) (kz_B D ty A) A) args s 0 0 A) (F0 m 16 ls [.ref (ad 35)]) := by
  have C0 := C
  obtain ⟨hx, hb, hr, hts, hown, hlocks, hml, hK, hN, hE, hA⟩ := C
  unfold zX3_askCases_s32_s20_c1_16 at h
  refine lv_astore (lv' := [(4, .ref (ad 35)), (0, .ref (ad 32)), (1, .ref (ad 20)), (2, .int x2), (3, .int x3)]) hx hb dX3_askCases_16 hl (by decide) rfl (fun ls hl => ?_)
  refine lv_aload hx hb dX3_askCases_18 (lv_at hl 0 rfl) ?_
  refine lv_iconst (v := 0) hx hb dX3_askCases_20 (by decide) ?_
  refine dw_kv1 (j := 35) rfl (va_runS (As := [.ref (ad 35), .int 0]) (rest := []) ⟨hx, hb, hml, hown, hts⟩ (cJ7_fillI l D ty eo _ (ad 35) 504 _ 0 (by decide)) (va_cwS 2 hts gX3_askCases_J7_fill_53178 rfl rfl rfl hd_J7_fill_53178 ⟨Nat.le_of_ble_eq_true rfl, Nat.le_of_ble_eq_true rfl⟩) (kz_preS hK hN hE hP hD hS hA [35] (by decide) rfl) rfl rfl hl.1 rfl (lv_room (Nat.le_of_ble_eq_true rfl)) dX3_askCases_21 ⟨Nat.le_of_ble_eq_true rfl, Nat.le_of_ble_eq_true rfl⟩) hP hD hS hA (fun u9 h9 => h9.symm) (fun H locs hp hd hs => ?_)
  obtain ⟨q1, eq1, h⟩ := dL_some h
  refine kz_re (w2 := wF ty ad q1) hp hd hs (by rw [← eq1]; exact rfl) ?_
  clear hp hd hs hP hD hS
  intro hP hD hS
  refine lv_aload_n hx hb dX3_askCases_24 rfl (lv_at hl 2 rfl) ?_
  refine lv_aload_n hx hb dX3_askCases_25 rfl (lv_at hl 1 rfl) ?_
  refine va_get (D := D) (ci := 3) (v := .int (q1.1 32 13)) (C := RX3) (T := TX3) (N := 20) hx hb hts u9_wsX3_askCases_X3 hown hK hP 32 rfl rfl 13 (by decide) (hts (.fieldLink RX3 51 "TurnedFloors$Paper" "floors" "I") f9_wsX3_askCases_743) (fun _ h9 => h9) rfl dX3_askCases_26 ?_
  refine lv_iload_n hx hb dX3_askCases_29 rfl (lv_at hl 3 rfl) ?_
  obtain ⟨q4, h3, h⟩ := dV_some h
  refine dw_kv (va_runV (As := [.int (q1.1 32 13), .int x2]) (rest := []) ⟨hx, hb, hml, hown, hts⟩ (qX1_setCommon_s20 l D ty eo _ ad q1 (q1.1 32 13) x2 q4 h3) (cwV 2 hts gX3_askCases_X1_setCommon rfl rfl rfl hd_X1_setCommon_v ⟨Nat.le_of_ble_eq_true rfl, Nat.le_of_ble_eq_true rfl⟩) (pvF_1_20 hK hN hE hP hD hS hA) rfl rfl hl.1 rfl (lv_room (Nat.le_of_ble_eq_true rfl)) dX3_askCases_30 ⟨Nat.le_of_ble_eq_true rfl, Nat.le_of_ble_eq_true rfl⟩) hD hS hA (fun u9 H locs hw hp hd hs => ?_)
  clear hP hD hS
  obtain rfl := hw
  have hP := hp; have hD := hd; have hS := hs; clear hp hd hs
  refine lv_iconst (v := 1) hx hb dX3_askCases_33 (by decide) ?_
  refine lv_istore (lv' := [(5, .int 1), (4, .ref (ad 35)), (0, .ref (ad 32)), (1, .ref (ad 20)), (2, .int x2), (3, .int x3)]) hx hb dX3_askCases_34 hl (by decide) rfl (fun ls hl => ?_)
  exact WX3_askCases_s32_s20_c1_36 C0  _ _ _ _ _ _ _ h hP hD hS (lv_sub hl [2, 3, 5, 1, 0] rfl)
set_option maxHeartbeats 4000000 in
set_option maxRecDepth 100000 in
theorem qX3_askCases_s32_s20_c1 (l : Launch) (D : va_G) (ty : Nat → ClassId) (eo : Nat → Nat) (sz : Nat) (ad : Nat → Nat) (q : dK) (p2 : Int32) (o2 : dK) (h : zX3_askCases_s32_s20_c1 q p2 = some o2) : Met l yX3_askCases wsX3_askCases ({ frames := 3, cells := 0, slots := 0, locals := 81 } : Room) (va_Pc [.ref (ad 32), .ref (ad 20), .int p2, .int 1] (kz_pre D ty eo (wF ty ad q) sz)) (va_Qv (fun (u : va_W) => wF ty ad o2 = u) (kz_B D ty (va_A (wF ty ad q) sz)) (va_A (wF ty ad q) sz)) 0 0 (va_A (wF ty ad q) sz) := by
  refine Met.ofW (cc := cX3_askCases) (maxL := 13) (ret := none) (by decide) rfl ?_
  intro p e s m args below meth c s₁ B hml hv
  obtain ⟨rfl, hsz, hP, hK, hD0, hN, hE⟩ := hv
  have hx := B.exec
  have hb := B.bytes
  have hr := B.returns
  have hts := atoms_spec (ws := wsX3_askCases) B.pre
  have hown : s.vm.findClass RX3 = some m.cls := findClass_of_methodNamed B.named
  have hlocks := B.notSynchronized
  subst hsz
  have hD := hD0.self (sz := s.heap.size)
  generalize hAe : va_A (wF ty ad q) s.heap.size = A at hD hE ⊢
  have hA : ∀ q : Nat, s.heap.size ≤ q → A q := fun q h => by rw [← hAe]; exact Or.inr h
  clear hAe
  have hS : va_S A s.heap s.heap [] := va_S.rf
  have hl := lv_entry ([.ref (ad 32), .ref (ad 20), .int p2, .int 1]) (n := 13) (Nat.le_of_ble_eq_true rfl)
  rw [lg_entry_eq]
  generalize (lg_sl ([.ref (ad 32), .ref (ad 20), .int p2, .int 1]) ++ List.replicate (13 - (lg_sl ([.ref (ad 32), .ref (ad 20), .int p2, .int 1])).length) Slot.unset).toArray = ls at hl ⊢
  have hl : lv_has ls 13 [(0, .ref (ad 32)), (1, .ref (ad 20)), (2, .int p2), (3, .int 1)] := hl
  have C : dc_C p s m _ meth c cX3_askCases none 13 RX3 wsX3_askCases D ty eo A := ⟨hx, hb, hr, hts, hown, hlocks, hml, hK, hN, hE, hA⟩
  unfold zX3_askCases_s32_s20_c1 at h
  refine lv_iload_n hx hb dX3_askCases_0 rfl (lv_at hl 3 rfl) ?_
  refine lv_iconst (v := 1) hx hb dX3_askCases_1 (by decide) ?_
  refine lv_icmp_ne (tgt := 12) hx hb dX3_askCases_2 (by decide) (fun h9 => absurd (by decide) h9) (fun _ => ?_)
  refine lv_aload_n hx hb dX3_askCases_5 rfl (lv_at hl 0 rfl) ?_
  refine va_get (D := D) (ci := 3) (v := .ref (ad 35)) (C := RX3) (T := TX3) (N := 20) hx hb hts u9_wsX3_askCases_X3 hown hK hP 32 rfl rfl 2 (by decide) (hts (.fieldLink RX3 18 "TurnedFloors$Paper" "barred" "[I") f9_wsX3_askCases_744) (fun _ h9 => h9) rfl dX3_askCases_6 ?_
  refine lv_goto (tgt := 16) hx hb dX3_askCases_9 (by decide) ?_
  exact WX3_askCases_s32_s20_c1_16 C  _ _ _ _ _ _ h hP hD hS (lv_sub hl [0, 1, 2, 3] rfl)

set_option maxHeartbeats 4000000 in
set_option maxRecDepth 100000 in
theorem WX3_indexOfRank_s32_2b {p : Program} {l : Launch} {e : Env} {s : State} {m : MethodId} {args : Array Value} {below : List Frame} {meth : Method} {c : Code} {D : va_G} {ty : Nat → ClassId} {eo : Nat → Nat} {A : Nat → Prop} {ad : Nat → Nat} {o1 : Int32} {o2 : dK} (C : dc_C p s m args meth c cX3_indexOfRank (some .int) 3 RX3 wsX3_indexOfRank D ty eo A) {k2 : dK → Int32 → Int32 → Option (Int32 × dK)} (hk2 : ∀ (q : dK) (x1 : Int32) (x2 : Int32) (H : Heap) (locs : List Loc) (ls : Array Slot), k2 q x1 x2 = some (o1, o2) → va_P D vwCl (wF ty ad q) H → va_D A (wF ty ad q) → va_S A s.heap H locs → lv_has ls 3 [(0, .ref (ad 32)), (1, .int x1), (2, .int x2)] → W p l e ({ frames := 0, cells := 0, slots := 0, locals := 0 } : Room) s m args below meth c H locs 0 0 (MQ below (va_Qi (fun (r : Int32) (u : va_W) => o1 = r ∧ wF ty ad o2 = u) (kz_B D ty A) A) args s 0 0 A) (F0 m 2 ls [])) (q : dK) (x1 : Int32) (x2 : Int32) (H : Heap) (locs : List Loc) (ls : Array Slot) (h : zX3_indexOfRank_s32_2b k2 q x1 x2 = some (o1, o2)) (hP : va_P D vwCl (wF ty ad q) H) (hD : va_D A (wF ty ad q)) (hS : va_S A s.heap H locs) (hl : lv_has ls 3 [(0, .ref (ad 32)), (1, .int x1), (2, .int x2)]) : W p l e ({ frames := 0, cells := 0, slots := 0, locals := 0 } : Room) s m args below meth c H locs 0 0 (MQ below (va_Qi (fun (r : Int32) (u : va_W) => o1 = r ∧ wF ty ad o2 = u) (kz_B D ty A) A) args s 0 0 A) (F0 m 2 ls []) := by
  have C0 := C
  obtain ⟨hx, hb, hr, hts, hown, hlocks, hml, hK, hN, hE, hA⟩ := C
  unfold zX3_indexOfRank_s32_2b at h
  refine lv_iload_n hx hb dX3_indexOfRank_2 rfl (lv_at hl 2 rfl) ?_
  refine lv_aload_n hx hb dX3_indexOfRank_3 rfl (lv_at hl 0 rfl) ?_
  refine va_get (D := D) (ci := 3) (v := .int (q.1 32 13)) (C := RX3) (T := TX3) (N := 20) hx hb hts u9_wsX3_indexOfRank_X3 hown hK hP 32 rfl rfl 13 (by decide) (hts (.fieldLink RX3 51 "TurnedFloors$Paper" "floors" "I") f9_wsX3_indexOfRank_746) (fun _ h9 => h9) rfl dX3_indexOfRank_4 ?_
  refine lv_icmp_ge (tgt := 28) hx hb dX3_indexOfRank_7 (by decide) (fun c9 => ?_) (fun c9 => ?_)
  · rw [if_pos c9] at h
    refine lv_iconst (v := (-1)) hx hb dX3_indexOfRank_28 (by decide) ?_
    cases h
    exact kz_iret hx hb hr hlocks hP hK hD hS dX3_indexOfRank_29 ⟨rfl, rfl⟩
  · rw [if_neg c9] at h
    refine lv_aload_n hx hb dX3_indexOfRank_10 rfl (lv_at hl 0 rfl) ?_
    refine va_get (D := D) (ci := 3) (v := .ref (ad 33)) (C := RX3) (T := TX3) (N := 20) hx hb hts u9_wsX3_indexOfRank_X3 hown hK hP 32 rfl rfl 0 (by decide) (hts (.fieldLink RX3 9 "TurnedFloors$Paper" "ranks" "[I") f9_wsX3_indexOfRank_747) (fun _ h9 => h9) rfl dX3_indexOfRank_11 ?_
    refine lv_iload_n hx hb dX3_indexOfRank_14 rfl (lv_at hl 2 rfl) ?_
    obtain ⟨g1, h⟩ := dG_some h
    refine va_iald hx hb hK hP 33 0 rfl rfl (dg_in g1) dX3_indexOfRank_15 ?_
    obtain ⟨v2, ev2, h⟩ := dL_some h
    refine kz_topi v2 ev2 ?_
    refine lv_iload_n hx hb dX3_indexOfRank_16 rfl (lv_at hl 1 rfl) ?_
    refine lv_icmp_ne (tgt := 22) hx hb dX3_indexOfRank_17 (by decide) (fun c9 => ?_) (fun c9 => ?_)
    · rw [if_neg c9] at h
      refine lv_iinc (v := x2 + 1) (lv' := [(2, .int (x2 + 1)), (0, .ref (ad 32)), (1, .int x1)]) hx hb dX3_indexOfRank_22 hl (k := 2) rfl rfl (by decide) rfl (fun ls hl => ?_)
      refine lv_goto (tgt := 2) hx hb dX3_indexOfRank_25 (by decide) ?_
      exact hk2 _ _ _ _ _ _ h hP hD hS (lv_sub hl [1, 2, 0] rfl)
    · rw [if_pos c9] at h
      refine lv_iload_n hx hb dX3_indexOfRank_20 rfl (lv_at hl 2 rfl) ?_
      cases h
      exact kz_iret hx hb hr hlocks hP hK hD hS dX3_indexOfRank_21 ⟨rfl, rfl⟩
set_option maxHeartbeats 4000000 in
set_option maxRecDepth 100000 in
theorem WX3_indexOfRank_s32_2 {p : Program} {l : Launch} {e : Env} {s : State} {m : MethodId} {args : Array Value} {below : List Frame} {meth : Method} {c : Code} {D : va_G} {ty : Nat → ClassId} {eo : Nat → Nat} {A : Nat → Prop} {ad : Nat → Nat} {o1 : Int32} {o2 : dK} (C : dc_C p s m args meth c cX3_indexOfRank (some .int) 3 RX3 wsX3_indexOfRank D ty eo A)   (n : Nat) (q : dK) (x1 : Int32) (x2 : Int32) (H : Heap) (locs : List Loc) (ls : Array Slot) (h : zX3_indexOfRank_s32_2  n q x1 x2 = some (o1, o2)) (hP : va_P D vwCl (wF ty ad q) H) (hD : va_D A (wF ty ad q)) (hS : va_S A s.heap H locs) (hl : lv_has ls 3 [(0, .ref (ad 32)), (1, .int x1), (2, .int x2)]) : W p l e ({ frames := 0, cells := 0, slots := 0, locals := 0 } : Room) s m args below meth c H locs 0 0 (MQ below (va_Qi (fun (r : Int32) (u : va_W) => o1 = r ∧ wF ty ad o2 = u) (kz_B D ty A) A) args s 0 0 A) (F0 m 2 ls []) := by
  exact dFix_W (F := fun k (a : dK × Int32 × Int32) => zX3_indexOfRank_s32_2b  (fun q x1 x2 => k (q, x1, x2)) a.1 a.2.1 a.2.2) (o := (o1, o2)) (P := fun (a : dK × Int32 × Int32) H locs ls => va_P D vwCl (wF ty ad a.1) H ∧ va_D A (wF ty ad a.1) ∧ va_S A s.heap H locs ∧ lv_has ls 3 [(0, .ref (ad 32)), (1, .int a.2.1), (2, .int a.2.2)]) (G := fun H locs ls => W p l e ({ frames := 0, cells := 0, slots := 0, locals := 0 } : Room) s m args below meth c H locs 0 0 (MQ below (va_Qi (fun (r : Int32) (u : va_W) => o1 = r ∧ wF ty ad o2 = u) (kz_B D ty A) A) args s 0 0 A) (F0 m 2 ls []))
    (fun k hk a H locs ls h hp => WX3_indexOfRank_s32_2b C  (fun q x1 x2 H locs ls h h1 h2 h3 h4 => hk (q, x1, x2) H locs ls h ⟨h1, h2, h3, h4⟩) a.1 a.2.1 a.2.2 H locs ls h hp.1 hp.2.1 hp.2.2.1 hp.2.2.2) n (q, x1, x2) H locs ls h ⟨hP, hD, hS, hl⟩
set_option maxHeartbeats 4000000 in
set_option maxRecDepth 100000 in
theorem qX3_indexOfRank_s32 (l : Launch) (D : va_G) (ty : Nat → ClassId) (eo : Nat → Nat) (sz : Nat) (ad : Nat → Nat) (q : dK) (p1 : Int32) (o1 : Int32) (o2 : dK) (h : zX3_indexOfRank_s32 q p1 = some (o1, o2)) : Met l yX3_indexOfRank wsX3_indexOfRank ({ frames := 0, cells := 0, slots := 0, locals := 0 } : Room) (va_Pc [.ref (ad 32), .int p1] (kz_pre D ty eo (wF ty ad q) sz)) (va_Qi (fun (r : Int32) (u : va_W) => o1 = r ∧ wF ty ad o2 = u) (kz_B D ty (va_A (wF ty ad q) sz)) (va_A (wF ty ad q) sz)) 0 0 (va_A (wF ty ad q) sz) := by
  refine Met.ofW (cc := cX3_indexOfRank) (maxL := 3) (ret := (some .int)) (by decide) rfl ?_
  intro p e s m args below meth c s₁ B hml hv
  obtain ⟨rfl, hsz, hP, hK, hD0, hN, hE⟩ := hv
  have hx := B.exec
  have hb := B.bytes
  have hr := B.returns
  have hts := atoms_spec (ws := wsX3_indexOfRank) B.pre
  have hown : s.vm.findClass RX3 = some m.cls := findClass_of_methodNamed B.named
  have hlocks := B.notSynchronized
  subst hsz
  have hD := hD0.self (sz := s.heap.size)
  generalize hAe : va_A (wF ty ad q) s.heap.size = A at hD hE ⊢
  have hA : ∀ q : Nat, s.heap.size ≤ q → A q := fun q h => by rw [← hAe]; exact Or.inr h
  clear hAe
  have hS : va_S A s.heap s.heap [] := va_S.rf
  have hl := lv_entry ([.ref (ad 32), .int p1]) (n := 3) (Nat.le_of_ble_eq_true rfl)
  rw [lg_entry_eq]
  generalize (lg_sl ([.ref (ad 32), .int p1]) ++ List.replicate (3 - (lg_sl ([.ref (ad 32), .int p1])).length) Slot.unset).toArray = ls at hl ⊢
  have hl : lv_has ls 3 [(0, .ref (ad 32)), (1, .int p1)] := hl
  have C : dc_C p s m _ meth c cX3_indexOfRank (some .int) 3 RX3 wsX3_indexOfRank D ty eo A := ⟨hx, hb, hr, hts, hown, hlocks, hml, hK, hN, hE, hA⟩
  unfold zX3_indexOfRank_s32 at h
  refine lv_iconst (v := 0) hx hb dX3_indexOfRank_0 (by decide) ?_
  refine lv_istore_n (lv' := [(2, .int 0), (0, .ref (ad 32)), (1, .int p1)]) hx hb dX3_indexOfRank_1 rfl hl (by decide) rfl (fun ls hl => ?_)
  exact WX3_indexOfRank_s32_2 C  _ _ _ _ _ _ _ h hP hD hS (lv_sub hl [1, 2, 0] rfl)
end
section
set_option maxRecDepth 20000 in
theorem ggX3_lay_X3_makeRoom : GoodIn wsX3_lay wsX3_makeRoom := wd_c vW9_ok mvW9_475
set_option maxRecDepth 20000 in
theorem gX3_lay_X3_makeRoom : GoodIn wsX3_lay (wsV RX3 79 RX3 yX3_makeRoom wsX3_makeRoom) := goodIn_app (wd_l vW9_ok _ pvW9_9) ggX3_lay_X3_makeRoom
set_option maxRecDepth 20000 in
theorem ggX3_lay_X8_has : GoodIn wsX3_lay wsX8_has := wd_c vW9_ok mvW9_19
set_option maxRecDepth 20000 in
theorem gX3_lay_X8_has : GoodIn wsX3_lay (wsV RX3 82 RX8 yX8_has wsX8_has) := goodIn_app (wd_l vW9_ok _ pvW9_10) ggX3_lay_X8_has
set_option maxRecDepth 20000 in
theorem ggX3_lay_X3_indexOfRank : GoodIn wsX3_lay wsX3_indexOfRank := wd_c vW9_ok mvW9_502
set_option maxRecDepth 20000 in
theorem gX3_lay_X3_indexOfRank : GoodIn wsX3_lay (wsV RX3 89 RX3 yX3_indexOfRank wsX3_indexOfRank) := goodIn_app (wd_l vW9_ok _ pvW9_11) ggX3_lay_X3_indexOfRank
set_option maxRecDepth 20000 in
theorem ggX3_lay_X3_numberOfOrder : GoodIn wsX3_lay wsX3_numberOfOrder := wd_c vW9_ok mvW9_494
set_option maxRecDepth 20000 in
theorem gX3_lay_X3_numberOfOrder : GoodIn wsX3_lay (wsV RX3 96 RX3 yX3_numberOfOrder wsX3_numberOfOrder) := goodIn_app (wd_l vW9_ok _ pvW9_12) ggX3_lay_X3_numberOfOrder
set_option maxRecDepth 20000 in
theorem ggX3_lay_X3_askCases : GoodIn wsX3_lay wsX3_askCases := wd_c vW9_ok mvW9_506
set_option maxRecDepth 20000 in
theorem gX3_lay_X3_askCases : GoodIn wsX3_lay (wsV RX3 109 RX3 yX3_askCases wsX3_askCases) := goodIn_app (wd_l vW9_ok _ pvW9_13) ggX3_lay_X3_askCases
theorem da9_dX3_lay_0 : (decode cX3_lay 0 = .ok (.aload_n 0, 1)) ∧ (decode cX3_lay 1 = .ok (.aload_n 1, 1)) ∧ (decode cX3_lay 2 = .ok (.getfield 73, 3)) ∧ (decode cX3_lay 5 = .ok (.putfield 51, 3)) ∧ (decode cX3_lay 8 = .ok (.aload_n 0, 1)) ∧ (decode cX3_lay 9 = .ok (.iload_n 3, 1)) ∧ (decode cX3_lay 10 = .ok (.putfield 61, 3)) ∧ (decode cX3_lay 13 = .ok (.aload_n 0, 1)) ∧ (decode cX3_lay 14 = .ok (.getstatic 76, 3)) ∧ (decode cX3_lay 17 = .ok (.aload_n 0, 1)) ∧ (decode cX3_lay 18 = .ok (.getfield 51, 3)) ∧ (decode cX3_lay 21 = .ok (.iaload, 1)) ∧ (decode cX3_lay 22 = .ok (.aload_n 0, 1)) ∧ (decode cX3_lay 23 = .ok (.getfield 51, 3)) ∧ (decode cX3_lay 26 = .ok (.ishl, 1)) ∧ (decode cX3_lay 27 = .ok (.putfield 55, 3)) := by decide +kernel
theorem dX3_lay_0 : decode cX3_lay 0 = .ok (.aload_n 0, 1) := da9_dX3_lay_0.1
theorem dX3_lay_1 : decode cX3_lay 1 = .ok (.aload_n 1, 1) := da9_dX3_lay_0.2.1
theorem dX3_lay_2 : decode cX3_lay 2 = .ok (.getfield 73, 3) := da9_dX3_lay_0.2.2.1
theorem dX3_lay_5 : decode cX3_lay 5 = .ok (.putfield 51, 3) := da9_dX3_lay_0.2.2.2.1
theorem dX3_lay_8 : decode cX3_lay 8 = .ok (.aload_n 0, 1) := da9_dX3_lay_0.2.2.2.2.1
theorem dX3_lay_9 : decode cX3_lay 9 = .ok (.iload_n 3, 1) := da9_dX3_lay_0.2.2.2.2.2.1
theorem dX3_lay_10 : decode cX3_lay 10 = .ok (.putfield 61, 3) := da9_dX3_lay_0.2.2.2.2.2.2.1
theorem dX3_lay_13 : decode cX3_lay 13 = .ok (.aload_n 0, 1) := da9_dX3_lay_0.2.2.2.2.2.2.2.1
theorem dX3_lay_14 : decode cX3_lay 14 = .ok (.getstatic 76, 3) := da9_dX3_lay_0.2.2.2.2.2.2.2.2.1
theorem dX3_lay_17 : decode cX3_lay 17 = .ok (.aload_n 0, 1) := da9_dX3_lay_0.2.2.2.2.2.2.2.2.2.1
theorem dX3_lay_18 : decode cX3_lay 18 = .ok (.getfield 51, 3) := da9_dX3_lay_0.2.2.2.2.2.2.2.2.2.2.1
theorem dX3_lay_21 : decode cX3_lay 21 = .ok (.iaload, 1) := da9_dX3_lay_0.2.2.2.2.2.2.2.2.2.2.2.1
theorem dX3_lay_22 : decode cX3_lay 22 = .ok (.aload_n 0, 1) := da9_dX3_lay_0.2.2.2.2.2.2.2.2.2.2.2.2.1
theorem dX3_lay_23 : decode cX3_lay 23 = .ok (.getfield 51, 3) := da9_dX3_lay_0.2.2.2.2.2.2.2.2.2.2.2.2.2.1
theorem dX3_lay_26 : decode cX3_lay 26 = .ok (.ishl, 1) := da9_dX3_lay_0.2.2.2.2.2.2.2.2.2.2.2.2.2.2.1
theorem dX3_lay_27 : decode cX3_lay 27 = .ok (.putfield 55, 3) := da9_dX3_lay_0.2.2.2.2.2.2.2.2.2.2.2.2.2.2.2
theorem da9_dX3_lay_30 : (decode cX3_lay 30 = .ok (.aload_n 0, 1)) ∧ (decode cX3_lay 31 = .ok (.getfield 55, 3)) ∧ (decode cX3_lay 34 = .ok (.aload_n 0, 1)) ∧ (decode cX3_lay 35 = .ok (.getfield 39, 3)) ∧ (decode cX3_lay 38 = .ok (.arraylength, 1)) ∧ (decode cX3_lay 39 = .ok (.if_icmp .le 7, 3)) ∧ (decode cX3_lay 42 = .ok (.aload_n 0, 1)) ∧ (decode cX3_lay 43 = .ok (.invokevirtual 79, 3)) ∧ (decode cX3_lay 46 = .ok (.iconst 0, 1)) ∧ (decode cX3_lay 47 = .ok (.istore 4, 2)) ∧ (decode cX3_lay 49 = .ok (.iconst 0, 1)) ∧ (decode cX3_lay 50 = .ok (.istore 5, 2)) ∧ (decode cX3_lay 52 = .ok (.iload 5, 2)) ∧ (decode cX3_lay 54 = .ok (.bipush 6, 2)) ∧ (decode cX3_lay 56 = .ok (.if_icmp .ge 37, 3)) ∧ (decode cX3_lay 59 = .ok (.aload_n 1, 1)) := by decide +kernel
theorem dX3_lay_30 : decode cX3_lay 30 = .ok (.aload_n 0, 1) := da9_dX3_lay_30.1
theorem dX3_lay_31 : decode cX3_lay 31 = .ok (.getfield 55, 3) := da9_dX3_lay_30.2.1
theorem dX3_lay_34 : decode cX3_lay 34 = .ok (.aload_n 0, 1) := da9_dX3_lay_30.2.2.1
theorem dX3_lay_35 : decode cX3_lay 35 = .ok (.getfield 39, 3) := da9_dX3_lay_30.2.2.2.1
theorem dX3_lay_38 : decode cX3_lay 38 = .ok (.arraylength, 1) := da9_dX3_lay_30.2.2.2.2.1
theorem dX3_lay_39 : decode cX3_lay 39 = .ok (.if_icmp .le 7, 3) := da9_dX3_lay_30.2.2.2.2.2.1
theorem dX3_lay_42 : decode cX3_lay 42 = .ok (.aload_n 0, 1) := da9_dX3_lay_30.2.2.2.2.2.2.1
theorem dX3_lay_43 : decode cX3_lay 43 = .ok (.invokevirtual 79, 3) := da9_dX3_lay_30.2.2.2.2.2.2.2.1
theorem dX3_lay_46 : decode cX3_lay 46 = .ok (.iconst 0, 1) := da9_dX3_lay_30.2.2.2.2.2.2.2.2.1
theorem dX3_lay_47 : decode cX3_lay 47 = .ok (.istore 4, 2) := da9_dX3_lay_30.2.2.2.2.2.2.2.2.2.1
theorem dX3_lay_49 : decode cX3_lay 49 = .ok (.iconst 0, 1) := da9_dX3_lay_30.2.2.2.2.2.2.2.2.2.2.1
theorem dX3_lay_50 : decode cX3_lay 50 = .ok (.istore 5, 2) := da9_dX3_lay_30.2.2.2.2.2.2.2.2.2.2.2.1
theorem dX3_lay_52 : decode cX3_lay 52 = .ok (.iload 5, 2) := da9_dX3_lay_30.2.2.2.2.2.2.2.2.2.2.2.2.1
theorem dX3_lay_54 : decode cX3_lay 54 = .ok (.bipush 6, 2) := da9_dX3_lay_30.2.2.2.2.2.2.2.2.2.2.2.2.2.1
theorem dX3_lay_56 : decode cX3_lay 56 = .ok (.if_icmp .ge 37, 3) := da9_dX3_lay_30.2.2.2.2.2.2.2.2.2.2.2.2.2.2.1
theorem dX3_lay_59 : decode cX3_lay 59 = .ok (.aload_n 1, 1) := da9_dX3_lay_30.2.2.2.2.2.2.2.2.2.2.2.2.2.2.2
theorem da9_dX3_lay_60 : (decode cX3_lay 60 = .ok (.iload 5, 2)) ∧ (decode cX3_lay 62 = .ok (.invokevirtual 82, 3)) ∧ (decode cX3_lay 65 = .ok (.ifCond .eq 22, 3)) ∧ (decode cX3_lay 68 = .ok (.iload 4, 2)) ∧ (decode cX3_lay 70 = .ok (.bipush 6, 2)) ∧ (decode cX3_lay 72 = .ok (.if_icmp .ge 15, 3)) ∧ (decode cX3_lay 75 = .ok (.aload_n 0, 1)) ∧ (decode cX3_lay 76 = .ok (.getfield 9, 3)) ∧ (decode cX3_lay 79 = .ok (.iload 4, 2)) ∧ (decode cX3_lay 81 = .ok (.iload 5, 2)) ∧ (decode cX3_lay 83 = .ok (.iastore, 1)) ∧ (decode cX3_lay 84 = .ok (.iinc 4 1, 3)) ∧ (decode cX3_lay 87 = .ok (.iinc 5 1, 3)) ∧ (decode cX3_lay 90 = .ok (.goto (-38), 3)) ∧ (decode cX3_lay 93 = .ok (.iconst 0, 1)) ∧ (decode cX3_lay 94 = .ok (.istore 5, 2)) := by decide +kernel
theorem dX3_lay_60 : decode cX3_lay 60 = .ok (.iload 5, 2) := da9_dX3_lay_60.1
theorem dX3_lay_62 : decode cX3_lay 62 = .ok (.invokevirtual 82, 3) := da9_dX3_lay_60.2.1
theorem dX3_lay_65 : decode cX3_lay 65 = .ok (.ifCond .eq 22, 3) := da9_dX3_lay_60.2.2.1
theorem dX3_lay_68 : decode cX3_lay 68 = .ok (.iload 4, 2) := da9_dX3_lay_60.2.2.2.1
theorem dX3_lay_70 : decode cX3_lay 70 = .ok (.bipush 6, 2) := da9_dX3_lay_60.2.2.2.2.1
theorem dX3_lay_72 : decode cX3_lay 72 = .ok (.if_icmp .ge 15, 3) := da9_dX3_lay_60.2.2.2.2.2.1
theorem dX3_lay_75 : decode cX3_lay 75 = .ok (.aload_n 0, 1) := da9_dX3_lay_60.2.2.2.2.2.2.1
theorem dX3_lay_76 : decode cX3_lay 76 = .ok (.getfield 9, 3) := da9_dX3_lay_60.2.2.2.2.2.2.2.1
theorem dX3_lay_79 : decode cX3_lay 79 = .ok (.iload 4, 2) := da9_dX3_lay_60.2.2.2.2.2.2.2.2.1
theorem dX3_lay_81 : decode cX3_lay 81 = .ok (.iload 5, 2) := da9_dX3_lay_60.2.2.2.2.2.2.2.2.2.1
theorem dX3_lay_83 : decode cX3_lay 83 = .ok (.iastore, 1) := da9_dX3_lay_60.2.2.2.2.2.2.2.2.2.2.1
theorem dX3_lay_84 : decode cX3_lay 84 = .ok (.iinc 4 1, 3) := da9_dX3_lay_60.2.2.2.2.2.2.2.2.2.2.2.1
theorem dX3_lay_87 : decode cX3_lay 87 = .ok (.iinc 5 1, 3) := da9_dX3_lay_60.2.2.2.2.2.2.2.2.2.2.2.2.1
theorem dX3_lay_90 : decode cX3_lay 90 = .ok (.goto (-38), 3) := da9_dX3_lay_60.2.2.2.2.2.2.2.2.2.2.2.2.2.1
theorem dX3_lay_93 : decode cX3_lay 93 = .ok (.iconst 0, 1) := da9_dX3_lay_60.2.2.2.2.2.2.2.2.2.2.2.2.2.2.1
theorem dX3_lay_94 : decode cX3_lay 94 = .ok (.istore 5, 2) := da9_dX3_lay_60.2.2.2.2.2.2.2.2.2.2.2.2.2.2.2
theorem da9_dX3_lay_96 : (decode cX3_lay 96 = .ok (.iconst 0, 1)) ∧ (decode cX3_lay 97 = .ok (.istore 6, 2)) ∧ (decode cX3_lay 99 = .ok (.iload 6, 2)) ∧ (decode cX3_lay 101 = .ok (.bipush 6, 2)) ∧ (decode cX3_lay 103 = .ok (.if_icmp .ge 69, 3)) ∧ (decode cX3_lay 106 = .ok (.aload_n 0, 1)) ∧ (decode cX3_lay 107 = .ok (.getfield 15, 3)) ∧ (decode cX3_lay 110 = .ok (.iload 6, 2)) ∧ (decode cX3_lay 112 = .ok (.iload 6, 2)) ∧ (decode cX3_lay 114 = .ok (.aload_n 0, 1)) ∧ (decode cX3_lay 115 = .ok (.getfield 51, 3)) ∧ (decode cX3_lay 118 = .ok (.if_icmp .ge 17, 3)) ∧ (decode cX3_lay 121 = .ok (.aload_n 0, 1)) ∧ (decode cX3_lay 122 = .ok (.aload_n 1, 1)) ∧ (decode cX3_lay 123 = .ok (.getfield 86, 3)) ∧ (decode cX3_lay 126 = .ok (.iload 6, 2)) := by decide +kernel
theorem dX3_lay_96 : decode cX3_lay 96 = .ok (.iconst 0, 1) := da9_dX3_lay_96.1
theorem dX3_lay_97 : decode cX3_lay 97 = .ok (.istore 6, 2) := da9_dX3_lay_96.2.1
theorem dX3_lay_99 : decode cX3_lay 99 = .ok (.iload 6, 2) := da9_dX3_lay_96.2.2.1
theorem dX3_lay_101 : decode cX3_lay 101 = .ok (.bipush 6, 2) := da9_dX3_lay_96.2.2.2.1
theorem dX3_lay_103 : decode cX3_lay 103 = .ok (.if_icmp .ge 69, 3) := da9_dX3_lay_96.2.2.2.2.1
theorem dX3_lay_106 : decode cX3_lay 106 = .ok (.aload_n 0, 1) := da9_dX3_lay_96.2.2.2.2.2.1
theorem dX3_lay_107 : decode cX3_lay 107 = .ok (.getfield 15, 3) := da9_dX3_lay_96.2.2.2.2.2.2.1
theorem dX3_lay_110 : decode cX3_lay 110 = .ok (.iload 6, 2) := da9_dX3_lay_96.2.2.2.2.2.2.2.1
theorem dX3_lay_112 : decode cX3_lay 112 = .ok (.iload 6, 2) := da9_dX3_lay_96.2.2.2.2.2.2.2.2.1
theorem dX3_lay_114 : decode cX3_lay 114 = .ok (.aload_n 0, 1) := da9_dX3_lay_96.2.2.2.2.2.2.2.2.2.1
theorem dX3_lay_115 : decode cX3_lay 115 = .ok (.getfield 51, 3) := da9_dX3_lay_96.2.2.2.2.2.2.2.2.2.2.1
theorem dX3_lay_118 : decode cX3_lay 118 = .ok (.if_icmp .ge 17, 3) := da9_dX3_lay_96.2.2.2.2.2.2.2.2.2.2.2.1
theorem dX3_lay_121 : decode cX3_lay 121 = .ok (.aload_n 0, 1) := da9_dX3_lay_96.2.2.2.2.2.2.2.2.2.2.2.2.1
theorem dX3_lay_122 : decode cX3_lay 122 = .ok (.aload_n 1, 1) := da9_dX3_lay_96.2.2.2.2.2.2.2.2.2.2.2.2.2.1
theorem dX3_lay_123 : decode cX3_lay 123 = .ok (.getfield 86, 3) := da9_dX3_lay_96.2.2.2.2.2.2.2.2.2.2.2.2.2.2.1
theorem dX3_lay_126 : decode cX3_lay 126 = .ok (.iload 6, 2) := da9_dX3_lay_96.2.2.2.2.2.2.2.2.2.2.2.2.2.2.2
theorem da9_dX3_lay_128 : (decode cX3_lay 128 = .ok (.iaload, 1)) ∧ (decode cX3_lay 129 = .ok (.invokevirtual 89, 3)) ∧ (decode cX3_lay 132 = .ok (.goto 5, 3)) ∧ (decode cX3_lay 135 = .ok (.iload 6, 2)) ∧ (decode cX3_lay 137 = .ok (.iastore, 1)) ∧ (decode cX3_lay 138 = .ok (.iload 5, 2)) ∧ (decode cX3_lay 140 = .ok (.iload 6, 2)) ∧ (decode cX3_lay 142 = .ok (.aload_n 0, 1)) ∧ (decode cX3_lay 143 = .ok (.getfield 51, 3)) ∧ (decode cX3_lay 146 = .ok (.if_icmp .ge 16, 3)) ∧ (decode cX3_lay 149 = .ok (.aload_n 1, 1)) ∧ (decode cX3_lay 150 = .ok (.getfield 93, 3)) ∧ (decode cX3_lay 153 = .ok (.iload 6, 2)) ∧ (decode cX3_lay 155 = .ok (.iaload, 1)) ∧ (decode cX3_lay 156 = .ok (.iload 6, 2)) ∧ (decode cX3_lay 158 = .ok (.ishl, 1)) := by decide +kernel
theorem dX3_lay_128 : decode cX3_lay 128 = .ok (.iaload, 1) := da9_dX3_lay_128.1
theorem dX3_lay_129 : decode cX3_lay 129 = .ok (.invokevirtual 89, 3) := da9_dX3_lay_128.2.1
theorem dX3_lay_132 : decode cX3_lay 132 = .ok (.goto 5, 3) := da9_dX3_lay_128.2.2.1
theorem dX3_lay_135 : decode cX3_lay 135 = .ok (.iload 6, 2) := da9_dX3_lay_128.2.2.2.1
theorem dX3_lay_137 : decode cX3_lay 137 = .ok (.iastore, 1) := da9_dX3_lay_128.2.2.2.2.1
theorem dX3_lay_138 : decode cX3_lay 138 = .ok (.iload 5, 2) := da9_dX3_lay_128.2.2.2.2.2.1
theorem dX3_lay_140 : decode cX3_lay 140 = .ok (.iload 6, 2) := da9_dX3_lay_128.2.2.2.2.2.2.1
theorem dX3_lay_142 : decode cX3_lay 142 = .ok (.aload_n 0, 1) := da9_dX3_lay_128.2.2.2.2.2.2.2.1
theorem dX3_lay_143 : decode cX3_lay 143 = .ok (.getfield 51, 3) := da9_dX3_lay_128.2.2.2.2.2.2.2.2.1
theorem dX3_lay_146 : decode cX3_lay 146 = .ok (.if_icmp .ge 16, 3) := da9_dX3_lay_128.2.2.2.2.2.2.2.2.2.1
theorem dX3_lay_149 : decode cX3_lay 149 = .ok (.aload_n 1, 1) := da9_dX3_lay_128.2.2.2.2.2.2.2.2.2.2.1
theorem dX3_lay_150 : decode cX3_lay 150 = .ok (.getfield 93, 3) := da9_dX3_lay_128.2.2.2.2.2.2.2.2.2.2.2.1
theorem dX3_lay_153 : decode cX3_lay 153 = .ok (.iload 6, 2) := da9_dX3_lay_128.2.2.2.2.2.2.2.2.2.2.2.2.1
theorem dX3_lay_155 : decode cX3_lay 155 = .ok (.iaload, 1) := da9_dX3_lay_128.2.2.2.2.2.2.2.2.2.2.2.2.2.1
theorem dX3_lay_156 : decode cX3_lay 156 = .ok (.iload 6, 2) := da9_dX3_lay_128.2.2.2.2.2.2.2.2.2.2.2.2.2.2.1
theorem dX3_lay_158 : decode cX3_lay 158 = .ok (.ishl, 1) := da9_dX3_lay_128.2.2.2.2.2.2.2.2.2.2.2.2.2.2.2
theorem da9_dX3_lay_159 : (decode cX3_lay 159 = .ok (.goto 4, 3)) ∧ (decode cX3_lay 162 = .ok (.iconst 0, 1)) ∧ (decode cX3_lay 163 = .ok (.ior, 1)) ∧ (decode cX3_lay 164 = .ok (.istore 5, 2)) ∧ (decode cX3_lay 166 = .ok (.iinc 6 1, 3)) ∧ (decode cX3_lay 169 = .ok (.goto (-70), 3)) ∧ (decode cX3_lay 172 = .ok (.aload_n 0, 1)) ∧ (decode cX3_lay 173 = .ok (.aload_n 0, 1)) ∧ (decode cX3_lay 174 = .ok (.getfield 55, 3)) ∧ (decode cX3_lay 177 = .ok (.iconst 1, 1)) ∧ (decode cX3_lay 178 = .ok (.isub, 1)) ∧ (decode cX3_lay 179 = .ok (.aload_n 0, 1)) ∧ (decode cX3_lay 180 = .ok (.invokevirtual 96, 3)) ∧ (decode cX3_lay 183 = .ok (.aload_n 0, 1)) ∧ (decode cX3_lay 184 = .ok (.getfield 51, 3)) ∧ (decode cX3_lay 187 = .ok (.ishl, 1)) := by decide +kernel
theorem dX3_lay_159 : decode cX3_lay 159 = .ok (.goto 4, 3) := da9_dX3_lay_159.1
theorem dX3_lay_162 : decode cX3_lay 162 = .ok (.iconst 0, 1) := da9_dX3_lay_159.2.1
theorem dX3_lay_163 : decode cX3_lay 163 = .ok (.ior, 1) := da9_dX3_lay_159.2.2.1
theorem dX3_lay_164 : decode cX3_lay 164 = .ok (.istore 5, 2) := da9_dX3_lay_159.2.2.2.1
theorem dX3_lay_166 : decode cX3_lay 166 = .ok (.iinc 6 1, 3) := da9_dX3_lay_159.2.2.2.2.1
theorem dX3_lay_169 : decode cX3_lay 169 = .ok (.goto (-70), 3) := da9_dX3_lay_159.2.2.2.2.2.1
theorem dX3_lay_172 : decode cX3_lay 172 = .ok (.aload_n 0, 1) := da9_dX3_lay_159.2.2.2.2.2.2.1
theorem dX3_lay_173 : decode cX3_lay 173 = .ok (.aload_n 0, 1) := da9_dX3_lay_159.2.2.2.2.2.2.2.1
theorem dX3_lay_174 : decode cX3_lay 174 = .ok (.getfield 55, 3) := da9_dX3_lay_159.2.2.2.2.2.2.2.2.1
theorem dX3_lay_177 : decode cX3_lay 177 = .ok (.iconst 1, 1) := da9_dX3_lay_159.2.2.2.2.2.2.2.2.2.1
theorem dX3_lay_178 : decode cX3_lay 178 = .ok (.isub, 1) := da9_dX3_lay_159.2.2.2.2.2.2.2.2.2.2.1
theorem dX3_lay_179 : decode cX3_lay 179 = .ok (.aload_n 0, 1) := da9_dX3_lay_159.2.2.2.2.2.2.2.2.2.2.2.1
theorem dX3_lay_180 : decode cX3_lay 180 = .ok (.invokevirtual 96, 3) := da9_dX3_lay_159.2.2.2.2.2.2.2.2.2.2.2.2.1
theorem dX3_lay_183 : decode cX3_lay 183 = .ok (.aload_n 0, 1) := da9_dX3_lay_159.2.2.2.2.2.2.2.2.2.2.2.2.2.1
theorem dX3_lay_184 : decode cX3_lay 184 = .ok (.getfield 51, 3) := da9_dX3_lay_159.2.2.2.2.2.2.2.2.2.2.2.2.2.2.1
theorem dX3_lay_187 : decode cX3_lay 187 = .ok (.ishl, 1) := da9_dX3_lay_159.2.2.2.2.2.2.2.2.2.2.2.2.2.2.2
theorem da9_dX3_lay_188 : (decode cX3_lay 188 = .ok (.iload 5, 2)) ∧ (decode cX3_lay 190 = .ok (.ior, 1)) ∧ (decode cX3_lay 191 = .ok (.invokestatic 100, 3)) ∧ (decode cX3_lay 194 = .ok (.putfield 58, 3)) ∧ (decode cX3_lay 197 = .ok (.aload_n 0, 1)) ∧ (decode cX3_lay 198 = .ok (.aload_n 2, 1)) ∧ (decode cX3_lay 199 = .ok (.aload_n 1, 1)) ∧ (decode cX3_lay 200 = .ok (.getfield 106, 3)) ∧ (decode cX3_lay 203 = .ok (.iconst 1, 1)) ∧ (decode cX3_lay 204 = .ok (.invokevirtual 109, 3)) ∧ (decode cX3_lay 207 = .ok (.return_, 1)) := by decide +kernel
theorem dX3_lay_188 : decode cX3_lay 188 = .ok (.iload 5, 2) := da9_dX3_lay_188.1
theorem dX3_lay_190 : decode cX3_lay 190 = .ok (.ior, 1) := da9_dX3_lay_188.2.1
theorem dX3_lay_191 : decode cX3_lay 191 = .ok (.invokestatic 100, 3) := da9_dX3_lay_188.2.2.1
theorem dX3_lay_194 : decode cX3_lay 194 = .ok (.putfield 58, 3) := da9_dX3_lay_188.2.2.2.1
theorem dX3_lay_197 : decode cX3_lay 197 = .ok (.aload_n 0, 1) := da9_dX3_lay_188.2.2.2.2.1
theorem dX3_lay_198 : decode cX3_lay 198 = .ok (.aload_n 2, 1) := da9_dX3_lay_188.2.2.2.2.2.1
theorem dX3_lay_199 : decode cX3_lay 199 = .ok (.aload_n 1, 1) := da9_dX3_lay_188.2.2.2.2.2.2.1
theorem dX3_lay_200 : decode cX3_lay 200 = .ok (.getfield 106, 3) := da9_dX3_lay_188.2.2.2.2.2.2.2.1
theorem dX3_lay_203 : decode cX3_lay 203 = .ok (.iconst 1, 1) := da9_dX3_lay_188.2.2.2.2.2.2.2.2.1
theorem dX3_lay_204 : decode cX3_lay 204 = .ok (.invokevirtual 109, 3) := da9_dX3_lay_188.2.2.2.2.2.2.2.2.2.1
theorem dX3_lay_207 : decode cX3_lay 207 = .ok (.return_, 1) := da9_dX3_lay_188.2.2.2.2.2.2.2.2.2.2
theorem da9_dX3_sameBars_0 : (decode cX3_sameBars 0 = .ok (.iconst 0, 1)) ∧ (decode cX3_sameBars 1 = .ok (.istore_n 1, 1)) ∧ (decode cX3_sameBars 2 = .ok (.iload_n 1, 1)) ∧ (decode cX3_sameBars 3 = .ok (.sipush 504, 3)) ∧ (decode cX3_sameBars 6 = .ok (.if_icmp .ge 26, 3)) ∧ (decode cX3_sameBars 9 = .ok (.aload_n 0, 1)) ∧ (decode cX3_sameBars 10 = .ok (.getfield 18, 3)) ∧ (decode cX3_sameBars 13 = .ok (.iload_n 1, 1)) ∧ (decode cX3_sameBars 14 = .ok (.iaload, 1)) ∧ (decode cX3_sameBars 15 = .ok (.aload_n 0, 1)) ∧ (decode cX3_sameBars 16 = .ok (.getfield 24, 3)) ∧ (decode cX3_sameBars 19 = .ok (.iload_n 1, 1)) ∧ (decode cX3_sameBars 20 = .ok (.iaload, 1)) ∧ (decode cX3_sameBars 21 = .ok (.if_icmp .eq 5, 3)) ∧ (decode cX3_sameBars 24 = .ok (.iconst 0, 1)) ∧ (decode cX3_sameBars 25 = .ok (.ireturn, 1)) := by decide +kernel
theorem dX3_sameBars_0 : decode cX3_sameBars 0 = .ok (.iconst 0, 1) := da9_dX3_sameBars_0.1
theorem dX3_sameBars_1 : decode cX3_sameBars 1 = .ok (.istore_n 1, 1) := da9_dX3_sameBars_0.2.1
theorem dX3_sameBars_2 : decode cX3_sameBars 2 = .ok (.iload_n 1, 1) := da9_dX3_sameBars_0.2.2.1
theorem dX3_sameBars_3 : decode cX3_sameBars 3 = .ok (.sipush 504, 3) := da9_dX3_sameBars_0.2.2.2.1
theorem dX3_sameBars_6 : decode cX3_sameBars 6 = .ok (.if_icmp .ge 26, 3) := da9_dX3_sameBars_0.2.2.2.2.1
theorem dX3_sameBars_9 : decode cX3_sameBars 9 = .ok (.aload_n 0, 1) := da9_dX3_sameBars_0.2.2.2.2.2.1
theorem dX3_sameBars_10 : decode cX3_sameBars 10 = .ok (.getfield 18, 3) := da9_dX3_sameBars_0.2.2.2.2.2.2.1
theorem dX3_sameBars_13 : decode cX3_sameBars 13 = .ok (.iload_n 1, 1) := da9_dX3_sameBars_0.2.2.2.2.2.2.2.1
theorem dX3_sameBars_14 : decode cX3_sameBars 14 = .ok (.iaload, 1) := da9_dX3_sameBars_0.2.2.2.2.2.2.2.2.1
theorem dX3_sameBars_15 : decode cX3_sameBars 15 = .ok (.aload_n 0, 1) := da9_dX3_sameBars_0.2.2.2.2.2.2.2.2.2.1
theorem dX3_sameBars_16 : decode cX3_sameBars 16 = .ok (.getfield 24, 3) := da9_dX3_sameBars_0.2.2.2.2.2.2.2.2.2.2.1
theorem dX3_sameBars_19 : decode cX3_sameBars 19 = .ok (.iload_n 1, 1) := da9_dX3_sameBars_0.2.2.2.2.2.2.2.2.2.2.2.1
theorem dX3_sameBars_20 : decode cX3_sameBars 20 = .ok (.iaload, 1) := da9_dX3_sameBars_0.2.2.2.2.2.2.2.2.2.2.2.2.1
theorem dX3_sameBars_21 : decode cX3_sameBars 21 = .ok (.if_icmp .eq 5, 3) := da9_dX3_sameBars_0.2.2.2.2.2.2.2.2.2.2.2.2.2.1
theorem dX3_sameBars_24 : decode cX3_sameBars 24 = .ok (.iconst 0, 1) := da9_dX3_sameBars_0.2.2.2.2.2.2.2.2.2.2.2.2.2.2.1
theorem dX3_sameBars_25 : decode cX3_sameBars 25 = .ok (.ireturn, 1) := da9_dX3_sameBars_0.2.2.2.2.2.2.2.2.2.2.2.2.2.2.2
theorem da9_dX3_sameBars_26 : (decode cX3_sameBars 26 = .ok (.iinc 1 1, 3)) ∧ (decode cX3_sameBars 29 = .ok (.goto (-27), 3)) ∧ (decode cX3_sameBars 32 = .ok (.iconst 1, 1)) ∧ (decode cX3_sameBars 33 = .ok (.ireturn, 1)) := by decide +kernel
theorem dX3_sameBars_26 : decode cX3_sameBars 26 = .ok (.iinc 1 1, 3) := da9_dX3_sameBars_26.1
theorem dX3_sameBars_29 : decode cX3_sameBars 29 = .ok (.goto (-27), 3) := da9_dX3_sameBars_26.2.1
theorem dX3_sameBars_32 : decode cX3_sameBars 32 = .ok (.iconst 1, 1) := da9_dX3_sameBars_26.2.2.1
theorem dX3_sameBars_33 : decode cX3_sameBars 33 = .ok (.ireturn, 1) := da9_dX3_sameBars_26.2.2.2
theorem da9_dX3_isOrdered_0 : (decode cX3_isOrdered 0 = .ok (.aload_n 0, 1)) ∧ (decode cX3_isOrdered 1 = .ok (.getfield 61, 3)) ∧ (decode cX3_isOrdered 4 = .ok (.iconst 1, 1)) ∧ (decode cX3_isOrdered 5 = .ok (.if_icmp .ne 15, 3)) ∧ (decode cX3_isOrdered 8 = .ok (.iload_n 1, 1)) ∧ (decode cX3_isOrdered 9 = .ok (.ifCond .ne 7, 3)) ∧ (decode cX3_isOrdered 12 = .ok (.iconst 1, 1)) ∧ (decode cX3_isOrdered 13 = .ok (.goto 21, 3)) ∧ (decode cX3_isOrdered 16 = .ok (.iconst 0, 1)) ∧ (decode cX3_isOrdered 17 = .ok (.goto 17, 3)) ∧ (decode cX3_isOrdered 20 = .ok (.iload_n 1, 1)) ∧ (decode cX3_isOrdered 21 = .ok (.aload_n 0, 1)) ∧ (decode cX3_isOrdered 22 = .ok (.getfield 51, 3)) ∧ (decode cX3_isOrdered 25 = .ok (.ishr, 1)) ∧ (decode cX3_isOrdered 26 = .ok (.ifCond .ne 7, 3)) ∧ (decode cX3_isOrdered 29 = .ok (.iconst 1, 1)) := by decide +kernel
theorem dX3_isOrdered_0 : decode cX3_isOrdered 0 = .ok (.aload_n 0, 1) := da9_dX3_isOrdered_0.1
theorem dX3_isOrdered_1 : decode cX3_isOrdered 1 = .ok (.getfield 61, 3) := da9_dX3_isOrdered_0.2.1
theorem dX3_isOrdered_4 : decode cX3_isOrdered 4 = .ok (.iconst 1, 1) := da9_dX3_isOrdered_0.2.2.1
theorem dX3_isOrdered_5 : decode cX3_isOrdered 5 = .ok (.if_icmp .ne 15, 3) := da9_dX3_isOrdered_0.2.2.2.1
theorem dX3_isOrdered_8 : decode cX3_isOrdered 8 = .ok (.iload_n 1, 1) := da9_dX3_isOrdered_0.2.2.2.2.1
theorem dX3_isOrdered_9 : decode cX3_isOrdered 9 = .ok (.ifCond .ne 7, 3) := da9_dX3_isOrdered_0.2.2.2.2.2.1
theorem dX3_isOrdered_12 : decode cX3_isOrdered 12 = .ok (.iconst 1, 1) := da9_dX3_isOrdered_0.2.2.2.2.2.2.1
theorem dX3_isOrdered_13 : decode cX3_isOrdered 13 = .ok (.goto 21, 3) := da9_dX3_isOrdered_0.2.2.2.2.2.2.2.1
theorem dX3_isOrdered_16 : decode cX3_isOrdered 16 = .ok (.iconst 0, 1) := da9_dX3_isOrdered_0.2.2.2.2.2.2.2.2.1
theorem dX3_isOrdered_17 : decode cX3_isOrdered 17 = .ok (.goto 17, 3) := da9_dX3_isOrdered_0.2.2.2.2.2.2.2.2.2.1
theorem dX3_isOrdered_20 : decode cX3_isOrdered 20 = .ok (.iload_n 1, 1) := da9_dX3_isOrdered_0.2.2.2.2.2.2.2.2.2.2.1
theorem dX3_isOrdered_21 : decode cX3_isOrdered 21 = .ok (.aload_n 0, 1) := da9_dX3_isOrdered_0.2.2.2.2.2.2.2.2.2.2.2.1
theorem dX3_isOrdered_22 : decode cX3_isOrdered 22 = .ok (.getfield 51, 3) := da9_dX3_isOrdered_0.2.2.2.2.2.2.2.2.2.2.2.2.1
theorem dX3_isOrdered_25 : decode cX3_isOrdered 25 = .ok (.ishr, 1) := da9_dX3_isOrdered_0.2.2.2.2.2.2.2.2.2.2.2.2.2.1
theorem dX3_isOrdered_26 : decode cX3_isOrdered 26 = .ok (.ifCond .ne 7, 3) := da9_dX3_isOrdered_0.2.2.2.2.2.2.2.2.2.2.2.2.2.2.1
theorem dX3_isOrdered_29 : decode cX3_isOrdered 29 = .ok (.iconst 1, 1) := da9_dX3_isOrdered_0.2.2.2.2.2.2.2.2.2.2.2.2.2.2.2
theorem da9_dX3_isOrdered_30 : (decode cX3_isOrdered 30 = .ok (.goto 4, 3)) ∧ (decode cX3_isOrdered 33 = .ok (.iconst 0, 1)) ∧ (decode cX3_isOrdered 34 = .ok (.ireturn, 1)) := by decide +kernel
theorem dX3_isOrdered_30 : decode cX3_isOrdered 30 = .ok (.goto 4, 3) := da9_dX3_isOrdered_30.1
theorem dX3_isOrdered_33 : decode cX3_isOrdered 33 = .ok (.iconst 0, 1) := da9_dX3_isOrdered_30.2.1
theorem dX3_isOrdered_34 : decode cX3_isOrdered 34 = .ok (.ireturn, 1) := da9_dX3_isOrdered_30.2.2
theorem da9_dX3_turned_0 : (decode cX3_turned 0 = .ok (.iload_n 2, 1)) ∧ (decode cX3_turned 1 = .ok (.iconst 1, 1)) ∧ (decode cX3_turned 2 = .ok (.if_icmp .lt 11, 3)) ∧ (decode cX3_turned 5 = .ok (.iload_n 2, 1)) ∧ (decode cX3_turned 6 = .ok (.aload_n 0, 1)) ∧ (decode cX3_turned 7 = .ok (.getfield 51, 3)) ∧ (decode cX3_turned 10 = .ok (.if_icmp .le 5, 3)) ∧ (decode cX3_turned 13 = .ok (.iload_n 1, 1)) ∧ (decode cX3_turned 14 = .ok (.ireturn, 1)) ∧ (decode cX3_turned 15 = .ok (.iload_n 1, 1)) ∧ (decode cX3_turned 16 = .ok (.iconst 1, 1)) ∧ (decode cX3_turned 17 = .ok (.aload_n 0, 1)) ∧ (decode cX3_turned 18 = .ok (.getfield 51, 3)) ∧ (decode cX3_turned 21 = .ok (.ishl, 1)) ∧ (decode cX3_turned 22 = .ok (.iconst 1, 1)) ∧ (decode cX3_turned 23 = .ok (.isub, 1)) := by decide +kernel
theorem dX3_turned_0 : decode cX3_turned 0 = .ok (.iload_n 2, 1) := da9_dX3_turned_0.1
theorem dX3_turned_1 : decode cX3_turned 1 = .ok (.iconst 1, 1) := da9_dX3_turned_0.2.1
theorem dX3_turned_2 : decode cX3_turned 2 = .ok (.if_icmp .lt 11, 3) := da9_dX3_turned_0.2.2.1
theorem dX3_turned_5 : decode cX3_turned 5 = .ok (.iload_n 2, 1) := da9_dX3_turned_0.2.2.2.1
theorem dX3_turned_6 : decode cX3_turned 6 = .ok (.aload_n 0, 1) := da9_dX3_turned_0.2.2.2.2.1
theorem dX3_turned_7 : decode cX3_turned 7 = .ok (.getfield 51, 3) := da9_dX3_turned_0.2.2.2.2.2.1
theorem dX3_turned_10 : decode cX3_turned 10 = .ok (.if_icmp .le 5, 3) := da9_dX3_turned_0.2.2.2.2.2.2.1
theorem dX3_turned_13 : decode cX3_turned 13 = .ok (.iload_n 1, 1) := da9_dX3_turned_0.2.2.2.2.2.2.2.1
theorem dX3_turned_14 : decode cX3_turned 14 = .ok (.ireturn, 1) := da9_dX3_turned_0.2.2.2.2.2.2.2.2.1
theorem dX3_turned_15 : decode cX3_turned 15 = .ok (.iload_n 1, 1) := da9_dX3_turned_0.2.2.2.2.2.2.2.2.2.1
theorem dX3_turned_16 : decode cX3_turned 16 = .ok (.iconst 1, 1) := da9_dX3_turned_0.2.2.2.2.2.2.2.2.2.2.1
theorem dX3_turned_17 : decode cX3_turned 17 = .ok (.aload_n 0, 1) := da9_dX3_turned_0.2.2.2.2.2.2.2.2.2.2.2.1
theorem dX3_turned_18 : decode cX3_turned 18 = .ok (.getfield 51, 3) := da9_dX3_turned_0.2.2.2.2.2.2.2.2.2.2.2.2.1
theorem dX3_turned_21 : decode cX3_turned 21 = .ok (.ishl, 1) := da9_dX3_turned_0.2.2.2.2.2.2.2.2.2.2.2.2.2.1
theorem dX3_turned_22 : decode cX3_turned 22 = .ok (.iconst 1, 1) := da9_dX3_turned_0.2.2.2.2.2.2.2.2.2.2.2.2.2.2.1
theorem dX3_turned_23 : decode cX3_turned 23 = .ok (.isub, 1) := da9_dX3_turned_0.2.2.2.2.2.2.2.2.2.2.2.2.2.2.2
theorem da9_dX3_turned_24 : (decode cX3_turned 24 = .ok (.iand, 1)) ∧ (decode cX3_turned 25 = .ok (.istore_n 3, 1)) ∧ (decode cX3_turned 26 = .ok (.aload_n 0, 1)) ∧ (decode cX3_turned 27 = .ok (.getfield 33, 3)) ∧ (decode cX3_turned 30 = .ok (.iload_n 1, 1)) ∧ (decode cX3_turned 31 = .ok (.aload_n 0, 1)) ∧ (decode cX3_turned 32 = .ok (.getfield 51, 3)) ∧ (decode cX3_turned 35 = .ok (.ishr, 1)) ∧ (decode cX3_turned 36 = .ok (.bipush 6, 2)) ∧ (decode cX3_turned 38 = .ok (.imul, 1)) ∧ (decode cX3_turned 39 = .ok (.iload_n 2, 1)) ∧ (decode cX3_turned 40 = .ok (.iadd, 1)) ∧ (decode cX3_turned 41 = .ok (.iconst 1, 1)) ∧ (decode cX3_turned 42 = .ok (.isub, 1)) ∧ (decode cX3_turned 43 = .ok (.iaload, 1)) ∧ (decode cX3_turned 44 = .ok (.istore 4, 2)) := by decide +kernel
theorem dX3_turned_24 : decode cX3_turned 24 = .ok (.iand, 1) := da9_dX3_turned_24.1
theorem dX3_turned_25 : decode cX3_turned 25 = .ok (.istore_n 3, 1) := da9_dX3_turned_24.2.1
theorem dX3_turned_26 : decode cX3_turned 26 = .ok (.aload_n 0, 1) := da9_dX3_turned_24.2.2.1
theorem dX3_turned_27 : decode cX3_turned 27 = .ok (.getfield 33, 3) := da9_dX3_turned_24.2.2.2.1
theorem dX3_turned_30 : decode cX3_turned 30 = .ok (.iload_n 1, 1) := da9_dX3_turned_24.2.2.2.2.1
theorem dX3_turned_31 : decode cX3_turned 31 = .ok (.aload_n 0, 1) := da9_dX3_turned_24.2.2.2.2.2.1
theorem dX3_turned_32 : decode cX3_turned 32 = .ok (.getfield 51, 3) := da9_dX3_turned_24.2.2.2.2.2.2.1
theorem dX3_turned_35 : decode cX3_turned 35 = .ok (.ishr, 1) := da9_dX3_turned_24.2.2.2.2.2.2.2.1
theorem dX3_turned_36 : decode cX3_turned 36 = .ok (.bipush 6, 2) := da9_dX3_turned_24.2.2.2.2.2.2.2.2.1
theorem dX3_turned_38 : decode cX3_turned 38 = .ok (.imul, 1) := da9_dX3_turned_24.2.2.2.2.2.2.2.2.2.1
theorem dX3_turned_39 : decode cX3_turned 39 = .ok (.iload_n 2, 1) := da9_dX3_turned_24.2.2.2.2.2.2.2.2.2.2.1
theorem dX3_turned_40 : decode cX3_turned 40 = .ok (.iadd, 1) := da9_dX3_turned_24.2.2.2.2.2.2.2.2.2.2.2.1
theorem dX3_turned_41 : decode cX3_turned 41 = .ok (.iconst 1, 1) := da9_dX3_turned_24.2.2.2.2.2.2.2.2.2.2.2.2.1
theorem dX3_turned_42 : decode cX3_turned 42 = .ok (.isub, 1) := da9_dX3_turned_24.2.2.2.2.2.2.2.2.2.2.2.2.2.1
theorem dX3_turned_43 : decode cX3_turned 43 = .ok (.iaload, 1) := da9_dX3_turned_24.2.2.2.2.2.2.2.2.2.2.2.2.2.2.1
theorem dX3_turned_44 : decode cX3_turned 44 = .ok (.istore 4, 2) := da9_dX3_turned_24.2.2.2.2.2.2.2.2.2.2.2.2.2.2.2
theorem da9_dX3_turned_46 : (decode cX3_turned 46 = .ok (.iload 4, 2)) ∧ (decode cX3_turned 48 = .ok (.aload_n 0, 1)) ∧ (decode cX3_turned 49 = .ok (.getfield 51, 3)) ∧ (decode cX3_turned 52 = .ok (.ishl, 1)) ∧ (decode cX3_turned 53 = .ok (.aload_n 0, 1)) ∧ (decode cX3_turned 54 = .ok (.getfield 36, 3)) ∧ (decode cX3_turned 57 = .ok (.iload_n 3, 1)) ∧ (decode cX3_turned 58 = .ok (.bipush 6, 2)) ∧ (decode cX3_turned 60 = .ok (.imul, 1)) ∧ (decode cX3_turned 61 = .ok (.iload_n 2, 1)) ∧ (decode cX3_turned 62 = .ok (.iadd, 1)) ∧ (decode cX3_turned 63 = .ok (.iconst 1, 1)) ∧ (decode cX3_turned 64 = .ok (.isub, 1)) ∧ (decode cX3_turned 65 = .ok (.iaload, 1)) ∧ (decode cX3_turned 66 = .ok (.ior, 1)) ∧ (decode cX3_turned 67 = .ok (.istore 5, 2)) := by decide +kernel
theorem dX3_turned_46 : decode cX3_turned 46 = .ok (.iload 4, 2) := da9_dX3_turned_46.1
theorem dX3_turned_48 : decode cX3_turned 48 = .ok (.aload_n 0, 1) := da9_dX3_turned_46.2.1
theorem dX3_turned_49 : decode cX3_turned 49 = .ok (.getfield 51, 3) := da9_dX3_turned_46.2.2.1
theorem dX3_turned_52 : decode cX3_turned 52 = .ok (.ishl, 1) := da9_dX3_turned_46.2.2.2.1
theorem dX3_turned_53 : decode cX3_turned 53 = .ok (.aload_n 0, 1) := da9_dX3_turned_46.2.2.2.2.1
theorem dX3_turned_54 : decode cX3_turned 54 = .ok (.getfield 36, 3) := da9_dX3_turned_46.2.2.2.2.2.1
theorem dX3_turned_57 : decode cX3_turned 57 = .ok (.iload_n 3, 1) := da9_dX3_turned_46.2.2.2.2.2.2.1
theorem dX3_turned_58 : decode cX3_turned 58 = .ok (.bipush 6, 2) := da9_dX3_turned_46.2.2.2.2.2.2.2.1
theorem dX3_turned_60 : decode cX3_turned 60 = .ok (.imul, 1) := da9_dX3_turned_46.2.2.2.2.2.2.2.2.1
theorem dX3_turned_61 : decode cX3_turned 61 = .ok (.iload_n 2, 1) := da9_dX3_turned_46.2.2.2.2.2.2.2.2.2.1
theorem dX3_turned_62 : decode cX3_turned 62 = .ok (.iadd, 1) := da9_dX3_turned_46.2.2.2.2.2.2.2.2.2.2.1
theorem dX3_turned_63 : decode cX3_turned 63 = .ok (.iconst 1, 1) := da9_dX3_turned_46.2.2.2.2.2.2.2.2.2.2.2.1
theorem dX3_turned_64 : decode cX3_turned 64 = .ok (.isub, 1) := da9_dX3_turned_46.2.2.2.2.2.2.2.2.2.2.2.2.1
theorem dX3_turned_65 : decode cX3_turned 65 = .ok (.iaload, 1) := da9_dX3_turned_46.2.2.2.2.2.2.2.2.2.2.2.2.2.1
theorem dX3_turned_66 : decode cX3_turned 66 = .ok (.ior, 1) := da9_dX3_turned_46.2.2.2.2.2.2.2.2.2.2.2.2.2.2.1
theorem dX3_turned_67 : decode cX3_turned 67 = .ok (.istore 5, 2) := da9_dX3_turned_46.2.2.2.2.2.2.2.2.2.2.2.2.2.2.2
theorem da9_dX3_turned_69 : (decode cX3_turned 69 = .ok (.iload 5, 2)) ∧ (decode cX3_turned 71 = .ok (.aload_n 0, 1)) ∧ (decode cX3_turned 72 = .ok (.getfield 55, 3)) ∧ (decode cX3_turned 75 = .ok (.if_icmp .ge 8, 3)) ∧ (decode cX3_turned 78 = .ok (.iload 5, 2)) ∧ (decode cX3_turned 80 = .ok (.goto 4, 3)) ∧ (decode cX3_turned 83 = .ok (.iload_n 1, 1)) ∧ (decode cX3_turned 84 = .ok (.ireturn, 1)) := by decide +kernel
theorem dX3_turned_69 : decode cX3_turned 69 = .ok (.iload 5, 2) := da9_dX3_turned_69.1
theorem dX3_turned_71 : decode cX3_turned 71 = .ok (.aload_n 0, 1) := da9_dX3_turned_69.2.1
theorem dX3_turned_72 : decode cX3_turned 72 = .ok (.getfield 55, 3) := da9_dX3_turned_69.2.2.1
theorem dX3_turned_75 : decode cX3_turned 75 = .ok (.if_icmp .ge 8, 3) := da9_dX3_turned_69.2.2.2.1
theorem dX3_turned_78 : decode cX3_turned 78 = .ok (.iload 5, 2) := da9_dX3_turned_69.2.2.2.2.1
theorem dX3_turned_80 : decode cX3_turned 80 = .ok (.goto 4, 3) := da9_dX3_turned_69.2.2.2.2.2.1
theorem dX3_turned_83 : decode cX3_turned 83 = .ok (.iload_n 1, 1) := da9_dX3_turned_69.2.2.2.2.2.2.1
theorem dX3_turned_84 : decode cX3_turned 84 = .ok (.ireturn, 1) := da9_dX3_turned_69.2.2.2.2.2.2.2
set_option maxRecDepth 20000 in
theorem ggX3_caseOf_X3_caseNumber : GoodIn wsX3_caseOf wsX3_caseNumber := wd_c vW9_ok mvW9_519
set_option maxRecDepth 20000 in
theorem gX3_caseOf_X3_caseNumber : GoodIn wsX3_caseOf (va_wsS RX3 171 yX3_caseNumber wsX3_caseNumber) := goodIn_app (wd_l vW9_ok _ pvW9_27) ggX3_caseOf_X3_caseNumber
theorem da9_dX3_caseOf_0 : (decode cX3_caseOf 0 = .ok (.aload_n 0, 1)) ∧ (decode cX3_caseOf 1 = .ok (.getfield 30, 3)) ∧ (decode cX3_caseOf 4 = .ok (.iload_n 1, 1)) ∧ (decode cX3_caseOf 5 = .ok (.aload_n 0, 1)) ∧ (decode cX3_caseOf 6 = .ok (.getfield 51, 3)) ∧ (decode cX3_caseOf 9 = .ok (.ishr, 1)) ∧ (decode cX3_caseOf 10 = .ok (.iaload, 1)) ∧ (decode cX3_caseOf 11 = .ok (.istore_n 3, 1)) ∧ (decode cX3_caseOf 12 = .ok (.iload_n 2, 1)) ∧ (decode cX3_caseOf 13 = .ok (.aload_n 0, 1)) ∧ (decode cX3_caseOf 14 = .ok (.getfield 51, 3)) ∧ (decode cX3_caseOf 17 = .ok (.if_icmp .ge 14, 3)) ∧ (decode cX3_caseOf 20 = .ok (.iload_n 3, 1)) ∧ (decode cX3_caseOf 21 = .ok (.iconst 3, 1)) ∧ (decode cX3_caseOf 22 = .ok (.iload_n 2, 1)) ∧ (decode cX3_caseOf 23 = .ok (.imul, 1)) := by decide +kernel
theorem dX3_caseOf_0 : decode cX3_caseOf 0 = .ok (.aload_n 0, 1) := da9_dX3_caseOf_0.1
theorem dX3_caseOf_1 : decode cX3_caseOf 1 = .ok (.getfield 30, 3) := da9_dX3_caseOf_0.2.1
theorem dX3_caseOf_4 : decode cX3_caseOf 4 = .ok (.iload_n 1, 1) := da9_dX3_caseOf_0.2.2.1
theorem dX3_caseOf_5 : decode cX3_caseOf 5 = .ok (.aload_n 0, 1) := da9_dX3_caseOf_0.2.2.2.1
theorem dX3_caseOf_6 : decode cX3_caseOf 6 = .ok (.getfield 51, 3) := da9_dX3_caseOf_0.2.2.2.2.1
theorem dX3_caseOf_9 : decode cX3_caseOf 9 = .ok (.ishr, 1) := da9_dX3_caseOf_0.2.2.2.2.2.1
theorem dX3_caseOf_10 : decode cX3_caseOf 10 = .ok (.iaload, 1) := da9_dX3_caseOf_0.2.2.2.2.2.2.1
theorem dX3_caseOf_11 : decode cX3_caseOf 11 = .ok (.istore_n 3, 1) := da9_dX3_caseOf_0.2.2.2.2.2.2.2.1
theorem dX3_caseOf_12 : decode cX3_caseOf 12 = .ok (.iload_n 2, 1) := da9_dX3_caseOf_0.2.2.2.2.2.2.2.2.1
theorem dX3_caseOf_13 : decode cX3_caseOf 13 = .ok (.aload_n 0, 1) := da9_dX3_caseOf_0.2.2.2.2.2.2.2.2.2.1
theorem dX3_caseOf_14 : decode cX3_caseOf 14 = .ok (.getfield 51, 3) := da9_dX3_caseOf_0.2.2.2.2.2.2.2.2.2.2.1
theorem dX3_caseOf_17 : decode cX3_caseOf 17 = .ok (.if_icmp .ge 14, 3) := da9_dX3_caseOf_0.2.2.2.2.2.2.2.2.2.2.2.1
theorem dX3_caseOf_20 : decode cX3_caseOf 20 = .ok (.iload_n 3, 1) := da9_dX3_caseOf_0.2.2.2.2.2.2.2.2.2.2.2.2.1
theorem dX3_caseOf_21 : decode cX3_caseOf 21 = .ok (.iconst 3, 1) := da9_dX3_caseOf_0.2.2.2.2.2.2.2.2.2.2.2.2.2.1
theorem dX3_caseOf_22 : decode cX3_caseOf 22 = .ok (.iload_n 2, 1) := da9_dX3_caseOf_0.2.2.2.2.2.2.2.2.2.2.2.2.2.2.1
theorem dX3_caseOf_23 : decode cX3_caseOf 23 = .ok (.imul, 1) := da9_dX3_caseOf_0.2.2.2.2.2.2.2.2.2.2.2.2.2.2.2
theorem da9_dX3_caseOf_24 : (decode cX3_caseOf 24 = .ok (.ishr, 1)) ∧ (decode cX3_caseOf 25 = .ok (.bipush 7, 2)) ∧ (decode cX3_caseOf 27 = .ok (.iand, 1)) ∧ (decode cX3_caseOf 28 = .ok (.goto 5, 3)) ∧ (decode cX3_caseOf 31 = .ok (.bipush 6, 2)) ∧ (decode cX3_caseOf 33 = .ok (.istore 4, 2)) ∧ (decode cX3_caseOf 35 = .ok (.iload_n 2, 1)) ∧ (decode cX3_caseOf 36 = .ok (.iload_n 3, 1)) ∧ (decode cX3_caseOf 37 = .ok (.bipush 7, 2)) ∧ (decode cX3_caseOf 39 = .ok (.iand, 1)) ∧ (decode cX3_caseOf 40 = .ok (.iload 4, 2)) ∧ (decode cX3_caseOf 42 = .ok (.iload_n 1, 1)) ∧ (decode cX3_caseOf 43 = .ok (.iconst 1, 1)) ∧ (decode cX3_caseOf 44 = .ok (.iand, 1)) ∧ (decode cX3_caseOf 45 = .ok (.invokestatic 171, 3)) ∧ (decode cX3_caseOf 48 = .ok (.ireturn, 1)) := by decide +kernel
theorem dX3_caseOf_24 : decode cX3_caseOf 24 = .ok (.ishr, 1) := da9_dX3_caseOf_24.1
theorem dX3_caseOf_25 : decode cX3_caseOf 25 = .ok (.bipush 7, 2) := da9_dX3_caseOf_24.2.1
theorem dX3_caseOf_27 : decode cX3_caseOf 27 = .ok (.iand, 1) := da9_dX3_caseOf_24.2.2.1
theorem dX3_caseOf_28 : decode cX3_caseOf 28 = .ok (.goto 5, 3) := da9_dX3_caseOf_24.2.2.2.1
theorem dX3_caseOf_31 : decode cX3_caseOf 31 = .ok (.bipush 6, 2) := da9_dX3_caseOf_24.2.2.2.2.1
theorem dX3_caseOf_33 : decode cX3_caseOf 33 = .ok (.istore 4, 2) := da9_dX3_caseOf_24.2.2.2.2.2.1
theorem dX3_caseOf_35 : decode cX3_caseOf 35 = .ok (.iload_n 2, 1) := da9_dX3_caseOf_24.2.2.2.2.2.2.1
theorem dX3_caseOf_36 : decode cX3_caseOf 36 = .ok (.iload_n 3, 1) := da9_dX3_caseOf_24.2.2.2.2.2.2.2.1
theorem dX3_caseOf_37 : decode cX3_caseOf 37 = .ok (.bipush 7, 2) := da9_dX3_caseOf_24.2.2.2.2.2.2.2.2.1
theorem dX3_caseOf_39 : decode cX3_caseOf 39 = .ok (.iand, 1) := da9_dX3_caseOf_24.2.2.2.2.2.2.2.2.2.1
theorem dX3_caseOf_40 : decode cX3_caseOf 40 = .ok (.iload 4, 2) := da9_dX3_caseOf_24.2.2.2.2.2.2.2.2.2.2.1
theorem dX3_caseOf_42 : decode cX3_caseOf 42 = .ok (.iload_n 1, 1) := da9_dX3_caseOf_24.2.2.2.2.2.2.2.2.2.2.2.1
theorem dX3_caseOf_43 : decode cX3_caseOf 43 = .ok (.iconst 1, 1) := da9_dX3_caseOf_24.2.2.2.2.2.2.2.2.2.2.2.2.1
theorem dX3_caseOf_44 : decode cX3_caseOf 44 = .ok (.iand, 1) := da9_dX3_caseOf_24.2.2.2.2.2.2.2.2.2.2.2.2.2.1
theorem dX3_caseOf_45 : decode cX3_caseOf 45 = .ok (.invokestatic 171, 3) := da9_dX3_caseOf_24.2.2.2.2.2.2.2.2.2.2.2.2.2.2.1
theorem dX3_caseOf_48 : decode cX3_caseOf 48 = .ok (.ireturn, 1) := da9_dX3_caseOf_24.2.2.2.2.2.2.2.2.2.2.2.2.2.2.2
set_option maxRecDepth 20000 in
theorem ggX9_spread_X3_lay : GoodIn wsX9_spread wsX3_lay := wd_c vW9_ok mvW9_462
set_option maxRecDepth 20000 in
theorem gX9_spread_X3_lay : GoodIn wsX9_spread (wsV RX9 346 RX3 yX3_lay wsX3_lay) := goodIn_app (wd_l vW9_ok _ pvW9_139) ggX9_spread_X3_lay
theorem da9_dX9_spread_0 : (decode cX9_spread 0 = .ok (.aload_n 0, 1)) ∧ (decode cX9_spread 1 = .ok (.getfield 80, 3)) ∧ (decode cX9_spread 4 = .ok (.aload_n 0, 1)) ∧ (decode cX9_spread 5 = .ok (.getfield 10, 3)) ∧ (decode cX9_spread 8 = .ok (.getfield 122, 3)) ∧ (decode cX9_spread 11 = .ok (.aload_n 1, 1)) ∧ (decode cX9_spread 12 = .ok (.aload_n 0, 1)) ∧ (decode cX9_spread 13 = .ok (.getfield 10, 3)) ∧ (decode cX9_spread 16 = .ok (.getfield 267, 3)) ∧ (decode cX9_spread 19 = .ok (.invokevirtual 346, 3)) ∧ (decode cX9_spread 22 = .ok (.return_, 1)) := by decide +kernel
theorem dX9_spread_0 : decode cX9_spread 0 = .ok (.aload_n 0, 1) := da9_dX9_spread_0.1
theorem dX9_spread_1 : decode cX9_spread 1 = .ok (.getfield 80, 3) := da9_dX9_spread_0.2.1
theorem dX9_spread_4 : decode cX9_spread 4 = .ok (.aload_n 0, 1) := da9_dX9_spread_0.2.2.1
theorem dX9_spread_5 : decode cX9_spread 5 = .ok (.getfield 10, 3) := da9_dX9_spread_0.2.2.2.1
theorem dX9_spread_8 : decode cX9_spread 8 = .ok (.getfield 122, 3) := da9_dX9_spread_0.2.2.2.2.1
theorem dX9_spread_11 : decode cX9_spread 11 = .ok (.aload_n 1, 1) := da9_dX9_spread_0.2.2.2.2.2.1
theorem dX9_spread_12 : decode cX9_spread 12 = .ok (.aload_n 0, 1) := da9_dX9_spread_0.2.2.2.2.2.2.1
theorem dX9_spread_13 : decode cX9_spread 13 = .ok (.getfield 10, 3) := da9_dX9_spread_0.2.2.2.2.2.2.2.1
theorem dX9_spread_16 : decode cX9_spread 16 = .ok (.getfield 267, 3) := da9_dX9_spread_0.2.2.2.2.2.2.2.2.1
theorem dX9_spread_19 : decode cX9_spread 19 = .ok (.invokevirtual 346, 3) := da9_dX9_spread_0.2.2.2.2.2.2.2.2.2.1
theorem dX9_spread_22 : decode cX9_spread 22 = .ok (.return_, 1) := da9_dX9_spread_0.2.2.2.2.2.2.2.2.2.2
end
