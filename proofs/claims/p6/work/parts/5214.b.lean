theorem u9_wsX9_undo_X9 : ∀ w ∈ u_ws RX9 TX9 19, w ∈ wsX9_undo := by
  first | exact fun w h => List.mem_cons_of_mem _ (List.mem_append_right _ h) | decide +kernel
theorem u9_wsX9_undo_X0 : ∀ w ∈ u_ws RX0 TX0 6, w ∈ wsX9_undo := by
  first | exact fun w h => List.mem_cons_of_mem _ (List.mem_append_right _ h) | decide +kernel
theorem u9_wsX9_undo_X6 : ∀ w ∈ u_ws RX6 TX6 10, w ∈ wsX9_undo := by
  first | exact fun w h => List.mem_cons_of_mem _ (List.mem_append_right _ h) | decide +kernel
theorem f9_wsX9_undo_712 : (Cond.fieldLink RX9 27 "TurnedFloors" "history" "LTurnedFloors$History;") ∈ wsX9_undo := by decide +kernel
theorem f9_wsX9_undo_713 : (Cond.fieldLink RX9 10 "TurnedFloors" "state" "LTurnedFloors$State;") ∈ wsX9_undo := by decide +kernel
theorem f9_wsX3_setDigits_714 : (Cond.initialized RX9) ∈ wsX3_setDigits := by decide +kernel
theorem u9_wsX3_setDigits_X3 : ∀ w ∈ u_ws RX3 TX3 20, w ∈ wsX3_setDigits := by
  first | exact fun w h => List.mem_cons_of_mem _ (List.mem_append_right _ h) | decide +kernel
theorem f9_wsX3_setDigits_716 : (Cond.fieldLink RX3 15 "TurnedFloors$Paper" "digits" "[I") ∈ wsX3_setDigits := by decide +kernel
theorem f9_wsX3_setDigits_717 : (Cond.fieldLink RX3 76 "TurnedFloors$Paper" "FACTORIALS" "[I") ∈ wsX3_setDigits := by decide +kernel
theorem f9_wsX3_numberOfOrder_718 : (Cond.initialized RX9) ∈ wsX3_numberOfOrder := by decide +kernel
theorem u9_wsX3_numberOfOrder_X3 : ∀ w ∈ u_ws RX3 TX3 20, w ∈ wsX3_numberOfOrder := by
  first | exact fun w h => List.mem_cons_of_mem _ (List.mem_append_right _ h) | decide +kernel
theorem f9_wsX3_numberOfOrder_720 : (Cond.fieldLink RX3 76 "TurnedFloors$Paper" "FACTORIALS" "[I") ∈ wsX3_numberOfOrder := by decide +kernel
theorem f9_wsX3_numberOfOrder_721 : (Cond.fieldLink RX3 15 "TurnedFloors$Paper" "digits" "[I") ∈ wsX3_numberOfOrder := by decide +kernel
theorem u9_wsX3_listOrder_X3 : ∀ w ∈ u_ws RX3 TX3 20, w ∈ wsX3_listOrder := by
  first | exact fun w h => List.mem_cons_of_mem _ (List.mem_append_right _ h) | decide +kernel
theorem f9_wsX3_listOrder_723 : (Cond.fieldLink RX3 33 "TurnedFloors$Paper" "turnedOrders" "[I") ∈ wsX3_listOrder := by decide +kernel
theorem f9_wsX3_listOrder_724 : (Cond.fieldLink RX3 15 "TurnedFloors$Paper" "digits" "[I") ∈ wsX3_listOrder := by decide +kernel
theorem f9_wsX3_listOrder_725 : (Cond.fieldLink RX3 51 "TurnedFloors$Paper" "floors" "I") ∈ wsX3_listOrder := by decide +kernel
theorem f9_wsX3_listOrder_726 : (Cond.fieldLink RX3 30 "TurnedFloors$Paper" "orders" "[I") ∈ wsX3_listOrder := by decide +kernel
set_option maxHeartbeats 4000000 in
set_option maxRecDepth 100000 in
theorem qX9_pass_s0 (l : Launch) (D : va_G) (ty : Nat → ClassId) (eo : Nat → Nat) (sz : Nat) (ad : Nat → Nat) (q : dK)  (o1 : Int32) (o2 : dK) (h : zX9_pass_s0 q = some (o1, o2)) : Met l yX9_pass wsX9_pass ({ frames := 7, cells := 0, slots := 0, locals := 176 } : Room) (va_Pc [.ref (ad 0)] (kz_pre D ty eo (wF ty ad q) sz)) (va_Qi (fun (r : Int32) (u : va_W) => o1 = r ∧ wF ty ad o2 = u) (kz_B D ty (va_A (wF ty ad q) sz)) (va_A (wF ty ad q) sz)) 0 0 (va_A (wF ty ad q) sz) := by
  refine Met.ofW (cc := cX9_pass) (maxL := 1) (ret := (some .int)) (by decide) rfl ?_
  intro p e s m args below meth c s₁ B hml hv
  obtain ⟨rfl, hsz, hP, hK, hD0, hN, hE⟩ := hv
  have hx := B.exec
  have hb := B.bytes
  have hr := B.returns
  have hts := atoms_spec (ws := wsX9_pass) B.pre
  have hown : s.vm.findClass RX9 = some m.cls := findClass_of_methodNamed B.named
  have hlocks := B.notSynchronized
  subst hsz
  have hD := hD0.self (sz := s.heap.size)
  generalize hAe : va_A (wF ty ad q) s.heap.size = A at hD hE ⊢
  have hA : ∀ q : Nat, s.heap.size ≤ q → A q := fun q h => by rw [← hAe]; exact Or.inr h
  clear hAe
  have hS : va_S A s.heap s.heap [] := va_S.rf
  have hl := lv_entry ([.ref (ad 0)]) (n := 1) (Nat.le_of_ble_eq_true rfl)
  rw [lg_entry_eq]
  generalize (lg_sl ([.ref (ad 0)]) ++ List.replicate (1 - (lg_sl ([.ref (ad 0)])).length) Slot.unset).toArray = ls at hl ⊢
  have hl : lv_has ls 1 [(0, .ref (ad 0))] := hl
  have C : dc_C p s m _ meth c cX9_pass (some .int) 1 RX9 wsX9_pass D ty eo A := ⟨hx, hb, hr, hts, hown, hlocks, hml, hK, hN, hE, hA⟩
  unfold zX9_pass_s0 at h
  refine lv_aload_n hx hb dX9_pass_0 rfl (lv_at hl 0 rfl) ?_
  refine lv_iconst (v := 3) hx hb dX9_pass_1 (by decide) ?_
  refine lv_iconst (v := 0) hx hb dX9_pass_2 (by decide) ?_
  obtain ⟨r1, q3, h2, h⟩ := dB_some h
  refine dw_ki (va_runV (As := [.int 3, .int 0]) (rest := []) ⟨hx, hb, hml, hown, hts⟩ (qX9_move_s0 l D ty eo _ ad q 3 0 r1 q3 h2) (cwV 2 hts gX9_pass_X9_move rfl rfl rfl (by decide +kernel) ⟨Nat.le_of_ble_eq_true rfl, Nat.le_of_ble_eq_true rfl⟩) (dw_preV (ci := 9) (q0 := 0) hK hN hE hP hD hS hA rfl rfl) rfl rfl hl.1 rfl (lv_room (Nat.le_of_ble_eq_true rfl)) dX9_pass_3 ⟨Nat.le_of_ble_eq_true rfl, Nat.le_of_ble_eq_true rfl⟩) hD hS hA (fun r9 u9 H locs hw hp hd hs => ?_)
  clear hP hD hS
  obtain ⟨rfl, rfl⟩ := hw
  have hP := hp; have hD := hd; have hS := hs; clear hp hd hs
  cases h
  exact kz_iret hx hb hr hlocks hP hK hD hS dX9_pass_6 ⟨rfl, rfl⟩

set_option maxHeartbeats 4000000 in
set_option maxRecDepth 100000 in
theorem qX9_undo_s0 (l : Launch) (D : va_G) (ty : Nat → ClassId) (eo : Nat → Nat) (sz : Nat) (ad : Nat → Nat) (q : dK)  (o1 : Int32) (o2 : dK) (h : zX9_undo_s0 q = some (o1, o2)) : Met l yX9_undo wsX9_undo ({ frames := 2, cells := 0, slots := 0, locals := 46 } : Room) (va_Pc [.ref (ad 0)] (kz_pre D ty eo (wF ty ad q) sz)) (va_Qi (fun (r : Int32) (u : va_W) => o1 = r ∧ wF ty ad o2 = u) (kz_B D ty (va_A (wF ty ad q) sz)) (va_A (wF ty ad q) sz)) 0 0 (va_A (wF ty ad q) sz) := by
  refine Met.ofW (cc := cX9_undo) (maxL := 1) (ret := (some .int)) (by decide) rfl ?_
  intro p e s m args below meth c s₁ B hml hv
  obtain ⟨rfl, hsz, hP, hK, hD0, hN, hE⟩ := hv
  have hx := B.exec
  have hb := B.bytes
  have hr := B.returns
  have hts := atoms_spec (ws := wsX9_undo) B.pre
  have hown : s.vm.findClass RX9 = some m.cls := findClass_of_methodNamed B.named
  have hlocks := B.notSynchronized
  subst hsz
  have hD := hD0.self (sz := s.heap.size)
  generalize hAe : va_A (wF ty ad q) s.heap.size = A at hD hE ⊢
  have hA : ∀ q : Nat, s.heap.size ≤ q → A q := fun q h => by rw [← hAe]; exact Or.inr h
  clear hAe
  have hS : va_S A s.heap s.heap [] := va_S.rf
  have hl := lv_entry ([.ref (ad 0)]) (n := 1) (Nat.le_of_ble_eq_true rfl)
  rw [lg_entry_eq]
  generalize (lg_sl ([.ref (ad 0)]) ++ List.replicate (1 - (lg_sl ([.ref (ad 0)])).length) Slot.unset).toArray = ls at hl ⊢
  have hl : lv_has ls 1 [(0, .ref (ad 0))] := hl
  have C : dc_C p s m _ meth c cX9_undo (some .int) 1 RX9 wsX9_undo D ty eo A := ⟨hx, hb, hr, hts, hown, hlocks, hml, hK, hN, hE, hA⟩
  unfold zX9_undo_s0 at h
  refine lv_aload_n hx hb dX9_undo_0 rfl (lv_at hl 0 rfl) ?_
  refine va_get (D := D) (ci := 9) (v := .ref (ad 10)) (C := RX9) (T := TX9) (N := 19) hx hb hts u9_wsX9_undo_X9 hown hK hP 0 rfl rfl 3 (by decide) (hts (.fieldLink RX9 27 "TurnedFloors" "history" "LTurnedFloors$History;") f9_wsX9_undo_712) (fun _ h9 => h9) rfl dX9_undo_1 ?_
  refine va_getN (D := D) (ci := 0) (v := .int (q.1 10 2)) (C := RX0) (T := TX0) (N := 6) hx hb hts u9_wsX9_undo_X0 hown hK hP 10 rfl rfl 2 (by decide) (hN.use (.fieldLinkNest "TurnedFloors" 214 "TurnedFloors$History" "kept" "I" "TurnedFloors") (by decide +kernel)) (fun _ h9 => h9) rfl dX9_undo_4 ?_
  refine lv_if_gt (tgt := 17) hx hb dX9_undo_7 (by decide) (fun c9 => ?_) (fun c9 => ?_)
  · rw [if_pos c9] at h
    refine lv_aload_n hx hb dX9_undo_17 rfl (lv_at hl 0 rfl) ?_
    refine va_get (D := D) (ci := 9) (v := .ref (ad 10)) (C := RX9) (T := TX9) (N := 19) hx hb hts u9_wsX9_undo_X9 hown hK hP 0 rfl rfl 3 (by decide) (hts (.fieldLink RX9 27 "TurnedFloors" "history" "LTurnedFloors$History;") f9_wsX9_undo_712) (fun _ h9 => h9) rfl dX9_undo_18 ?_
    refine lv_dup hx hb dX9_undo_21 rfl ?_
    refine va_getN (D := D) (ci := 0) (v := .int (q.1 10 2)) (C := RX0) (T := TX0) (N := 6) hx hb hts u9_wsX9_undo_X0 hown hK hP 10 rfl rfl 2 (by decide) (hN.use (.fieldLinkNest "TurnedFloors" 214 "TurnedFloors$History" "kept" "I" "TurnedFloors") (by decide +kernel)) (fun _ h9 => h9) rfl dX9_undo_22 ?_
    refine lv_iconst (v := 1) hx hb dX9_undo_25 (by decide) ?_
    refine lv_isub hx hb dX9_undo_26 ?_
    refine va_putN (D := D) (ci := 0) (v := .int ((q.1 10 2) - 1 : Int32)) (ty := .int) (C := RX0) (T := TX0) (N := 6) hx hb hts u9_wsX9_undo_X0 tyX0 tyX0_ok nmX0 hown hK hP hD hS 10 rfl rfl 2 (by decide) (hN.use (.fieldLinkNest "TurnedFloors" 214 "TurnedFloors$History" "kept" "I" "TurnedFloors") (by decide +kernel)) (fun _ h9 => h9) rfl (by decide +kernel) rfl rfl (Nat.le_of_ble_eq_true rfl) dX9_undo_27 (fun H locs hp hd hs => ?_)
    obtain ⟨q1, eq1, h⟩ := dL_some h
    refine kz_re (w2 := wF ty ad q1) hp hd hs (by rw [← eq1]; exact wF_f10_2 ty ad q ((q.1 10 2) - 1 : Int32)) ?_
    clear hp hd hs hP hD hS
    intro hP hD hS
    refine lv_aload_n hx hb dX9_undo_30 rfl (lv_at hl 0 rfl) ?_
    refine va_get (D := D) (ci := 9) (v := .ref (ad 1)) (C := RX9) (T := TX9) (N := 19) hx hb hts u9_wsX9_undo_X9 hown hK hP 0 rfl rfl 0 (by decide) (hts (.fieldLink RX9 10 "TurnedFloors" "state" "LTurnedFloors$State;") f9_wsX9_undo_713) (fun _ h9 => h9) rfl dX9_undo_31 ?_
    refine va_getN (D := D) (ci := 6) (v := .ref (ad 2)) (C := RX6) (T := TX6) (N := 10) hx hb hts u9_wsX9_undo_X6 hown hK hP 1 rfl rfl 0 (by decide) (hN.use (.fieldLinkNest "TurnedFloors" 122 "TurnedFloors$State" "tower" "LTurnedFloors$Tower;" "TurnedFloors") (by decide +kernel)) (fun _ h9 => h9) rfl dX9_undo_34 ?_
    refine lv_aload_n hx hb dX9_undo_37 rfl (lv_at hl 0 rfl) ?_
    refine va_get (D := D) (ci := 9) (v := .ref (ad 10)) (C := RX9) (T := TX9) (N := 19) hx hb hts u9_wsX9_undo_X9 hown hK hP 0 rfl rfl 3 (by decide) (hts (.fieldLink RX9 27 "TurnedFloors" "history" "LTurnedFloors$History;") f9_wsX9_undo_712) (fun _ h9 => h9) rfl dX9_undo_38 ?_
    refine va_getN (D := D) (ci := 0) (v := .ref (ad 11)) (C := RX0) (T := TX0) (N := 6) hx hb hts u9_wsX9_undo_X0 hown hK hP 10 rfl rfl 0 (by decide) (hN.use (.fieldLinkNest "TurnedFloors" 216 "TurnedFloors$History" "towers" "[J" "TurnedFloors") (by decide +kernel)) (fun _ h9 => h9) rfl dX9_undo_41 ?_
    refine lv_aload_n hx hb dX9_undo_44 rfl (lv_at hl 0 rfl) ?_
    refine va_get (D := D) (ci := 9) (v := .ref (ad 10)) (C := RX9) (T := TX9) (N := 19) hx hb hts u9_wsX9_undo_X9 hown hK hP 0 rfl rfl 3 (by decide) (hts (.fieldLink RX9 27 "TurnedFloors" "history" "LTurnedFloors$History;") f9_wsX9_undo_712) (fun _ h9 => h9) rfl dX9_undo_45 ?_
    refine va_getN (D := D) (ci := 0) (v := .int (q1.1 10 2)) (C := RX0) (T := TX0) (N := 6) hx hb hts u9_wsX9_undo_X0 hown hK hP 10 rfl rfl 2 (by decide) (hN.use (.fieldLinkNest "TurnedFloors" 214 "TurnedFloors$History" "kept" "I" "TurnedFloors") (by decide +kernel)) (fun _ h9 => h9) rfl dX9_undo_48 ?_
    obtain ⟨g2, h⟩ := dG_some h
    refine va_lald hx hb hK hP 11 1 rfl rfl (dg_in g2) dX9_undo_51 ?_
    obtain ⟨v3, ev3, h⟩ := dL_some h
    refine kz_topl v3 ev3 ?_
    obtain ⟨q6, h5, h⟩ := dV_some h
    refine dw_kv (va_runV (As := [.long v3]) (rest := []) ⟨hx, hb, hml, hown, hts⟩ (qX8_unpack_s2 l D ty eo _ ad q1 v3 q6 h5) (cwV 1 hts gX9_undo_X8_unpack rfl rfl rfl (by decide +kernel) ⟨Nat.le_of_ble_eq_true rfl, Nat.le_of_ble_eq_true rfl⟩) (dw_preV (ci := 8) (q0 := 2) hK hN hE hP hD hS hA rfl rfl) rfl rfl hl.1 rfl (lv_room (Nat.le_of_ble_eq_true rfl)) dX9_undo_52 ⟨Nat.le_of_ble_eq_true rfl, Nat.le_of_ble_eq_true rfl⟩) hD hS hA (fun u9 H locs hw hp hd hs => ?_)
    clear hP hD hS
    obtain rfl := hw
    have hP := hp; have hD := hd; have hS := hs; clear hp hd hs
    refine lv_aload_n hx hb dX9_undo_55 rfl (lv_at hl 0 rfl) ?_
    refine lv_aload_n hx hb dX9_undo_56 rfl (lv_at hl 0 rfl) ?_
    refine va_get (D := D) (ci := 9) (v := .ref (ad 10)) (C := RX9) (T := TX9) (N := 19) hx hb hts u9_wsX9_undo_X9 hown hK hP 0 rfl rfl 3 (by decide) (hts (.fieldLink RX9 27 "TurnedFloors" "history" "LTurnedFloors$History;") f9_wsX9_undo_712) (fun _ h9 => h9) rfl dX9_undo_57 ?_
    refine va_getN (D := D) (ci := 0) (v := .ref (ad 12)) (C := RX0) (T := TX0) (N := 6) hx hb hts u9_wsX9_undo_X0 hown hK hP 10 rfl rfl 1 (by decide) (hN.use (.fieldLinkNest "TurnedFloors" 223 "TurnedFloors$History" "kinds" "[I" "TurnedFloors") (by decide +kernel)) (fun _ h9 => h9) rfl dX9_undo_60 ?_
    refine lv_aload_n hx hb dX9_undo_63 rfl (lv_at hl 0 rfl) ?_
    refine va_get (D := D) (ci := 9) (v := .ref (ad 10)) (C := RX9) (T := TX9) (N := 19) hx hb hts u9_wsX9_undo_X9 hown hK hP 0 rfl rfl 3 (by decide) (hts (.fieldLink RX9 27 "TurnedFloors" "history" "LTurnedFloors$History;") f9_wsX9_undo_712) (fun _ h9 => h9) rfl dX9_undo_64 ?_
    refine va_getN (D := D) (ci := 0) (v := .int (q6.1 10 2)) (C := RX0) (T := TX0) (N := 6) hx hb hts u9_wsX9_undo_X0 hown hK hP 10 rfl rfl 2 (by decide) (hN.use (.fieldLinkNest "TurnedFloors" 214 "TurnedFloors$History" "kept" "I" "TurnedFloors") (by decide +kernel)) (fun _ h9 => h9) rfl dX9_undo_67 ?_
    obtain ⟨g7, h⟩ := dG_some h
    refine va_iald hx hb hK hP 12 0 rfl rfl (dg_in g7) dX9_undo_70 ?_
    obtain ⟨v8, ev8, h⟩ := dL_some h
    refine kz_topi v8 ev8 ?_
    obtain ⟨r9, q11, h10, h⟩ := dB_some h
    refine dw_ki (va_runV (As := [.int v8]) (rest := []) ⟨hx, hb, hml, hown, hts⟩ (qX9_accept_s0 l D ty eo _ ad q6 v8 r9 q11 h10) (cwV 1 hts gX9_undo_X9_accept rfl rfl rfl (by decide +kernel) ⟨Nat.le_of_ble_eq_true rfl, Nat.le_of_ble_eq_true rfl⟩) (dw_preV (ci := 9) (q0 := 0) hK hN hE hP hD hS hA rfl rfl) rfl rfl hl.1 rfl (lv_room (Nat.le_of_ble_eq_true rfl)) dX9_undo_71 ⟨Nat.le_of_ble_eq_true rfl, Nat.le_of_ble_eq_true rfl⟩) hD hS hA (fun r9 u9 H locs hw hp hd hs => ?_)
    clear hP hD hS
    obtain ⟨rfl, rfl⟩ := hw
    have hP := hp; have hD := hd; have hS := hs; clear hp hd hs
    cases h
    exact kz_iret hx hb hr hlocks hP hK hD hS dX9_undo_74 ⟨rfl, rfl⟩
  · rw [if_neg c9] at h
    refine lv_aload_n hx hb dX9_undo_10 rfl (lv_at hl 0 rfl) ?_
    refine lv_bipush (v := (-3)) hx hb dX9_undo_11 (by decide) ?_
    obtain ⟨r12, q14, h13, h⟩ := dB_some h
    refine dw_ki (va_runV (As := [.int (-3)]) (rest := []) ⟨hx, hb, hml, hown, hts⟩ (qX9_refuse_s0 l D ty eo _ ad q (-3) r12 q14 h13) (cwV 1 hts gX9_undo_X9_refuse rfl rfl rfl (by decide +kernel) ⟨Nat.le_of_ble_eq_true rfl, Nat.le_of_ble_eq_true rfl⟩) (dw_preV (ci := 9) (q0 := 0) hK hN hE hP hD hS hA rfl rfl) rfl rfl hl.1 rfl (lv_room (Nat.le_of_ble_eq_true rfl)) dX9_undo_13 ⟨Nat.le_of_ble_eq_true rfl, Nat.le_of_ble_eq_true rfl⟩) hD hS hA (fun r9 u9 H locs hw hp hd hs => ?_)
    clear hP hD hS
    obtain ⟨rfl, rfl⟩ := hw
    have hP := hp; have hD := hd; have hS := hs; clear hp hd hs
    cases h
    exact kz_iret hx hb hr hlocks hP hK hD hS dX9_undo_16 ⟨rfl, rfl⟩

set_option maxHeartbeats 4000000 in
set_option maxRecDepth 100000 in
theorem WX3_setDigits_s32_55 {p : Program} {l : Launch} {e : Env} {s : State} {m : MethodId} {args : Array Value} {below : List Frame} {meth : Method} {c : Code} {D : va_G} {ty : Nat → ClassId} {eo : Nat → Nat} {A : Nat → Prop} {ad : Nat → Nat} {o2 : dK} (C : dc_C p s m args meth c cX3_setDigits none 5 RX3 wsX3_setDigits D ty eo A) {k2 : dK → Int32 → Int32 → Option (dK)} {k25 : dK → Int32 → Int32 → Int32 → Int32 → Option (dK)} (hk2 : ∀ (q : dK) (x1 : Int32) (x2 : Int32) (H : Heap) (locs : List Loc) (ls : Array Slot), k2 q x1 x2 = some o2 → va_P D vwCl (wF ty ad q) H → va_D A (wF ty ad q) → va_S A s.heap H locs → lv_has ls 5 [(0, .ref (ad 32)), (1, .int x1), (2, .int x2)] → W p l e ({ frames := 1, cells := 0, slots := 0, locals := 20 } : Room) s m args below meth c H locs 0 0 (MQ below (va_Qv (fun (u : va_W) => wF ty ad o2 = u) (kz_B D ty A) A) args s 0 0 A) (F0 m 2 ls [])) (hk25 : ∀ (q : dK) (x1 : Int32) (x2 : Int32) (x3 : Int32) (x4 : Int32) (H : Heap) (locs : List Loc) (ls : Array Slot), k25 q x1 x2 x3 x4 = some o2 → va_P D vwCl (wF ty ad q) H → va_D A (wF ty ad q) → va_S A s.heap H locs → lv_has ls 5 [(0, .ref (ad 32)), (1, .int x1), (2, .int x2), (3, .int x3), (4, .int x4)] → W p l e ({ frames := 1, cells := 0, slots := 0, locals := 20 } : Room) s m args below meth c H locs 0 0 (MQ below (va_Qv (fun (u : va_W) => wF ty ad o2 = u) (kz_B D ty A) A) args s 0 0 A) (F0 m 25 ls [])) (q : dK) (x1 : Int32) (x2 : Int32) (x3 : Int32) (x4 : Int32) (y0 : Int32) (y1 : Int32) (y2 : Int32) (H : Heap) (locs : List Loc) (ls : Array Slot) (h : zX3_setDigits_s32_55 k2 k25 q x1 x2 x3 x4 y0 y1 y2 = some o2) (hP : va_P D vwCl (wF ty ad q) H) (hD : va_D A (wF ty ad q)) (hS : va_S A s.heap H locs) (hl : lv_has ls 5 [(0, .ref (ad 32)), (1, .int x1), (2, .int x2), (3, .int x3), (4, .int x4)]) : W p l e ({ frames := 1, cells := 0, slots := 0, locals := 20 } : Room) s m args below meth c H locs 0 0 (MQ below (va_Qv (fun (u : va_W) => wF ty ad o2 = u) (kz_B D ty A) A) args s 0 0 A) (F0 m 55 ls [.int y0, .int y1, .int y2, .ref (ad 34)]) := by
  have C0 := C
  obtain ⟨hx, hb, hr, hts, hown, hlocks, hml, hK, hN, hE, hA⟩ := C
  unfold zX3_setDigits_s32_55 at h
  obtain ⟨r1, h2, h⟩ := dV_some h
  refine dw_ks (va_runSN (As := [.int y0]) (rest := [.int y1, .int y2, .ref (ad 34)]) ⟨hx, hb, hml, hown, hts⟩ (qX9_bit l D ty eo _ y0 _ h2) ⟨va_cnB 1 hts gX3_setDigits_X9_bit_n133 rfl rfl rfl (hN.1 _ (by decide +kernel : (.methodLinkNest "TurnedFloors$Paper" 133 yX9_bit "TurnedFloors" : Cond) ∈ kzN1)) (hts (.initialized RX9) f9_wsX3_setDigits_714) (by decide +kernel) ⟨Nat.le_of_ble_eq_true rfl, Nat.le_of_ble_eq_true rfl⟩, hts (.static yX9_bit) (by decide +kernel), trivial⟩ (kz_preS hK hN hE hP hD hS hA [] (by decide) rfl) rfl rfl hl.1 rfl (lv_room (Nat.le_of_ble_eq_true rfl)) dX3_setDigits_55 ⟨Nat.le_of_ble_eq_true rfl, Nat.le_of_ble_eq_true rfl⟩) hP hD hS hA (fun _ _ h9 => h9.2.symm) (fun r9 u9 H locs hw hp hd hs => ?_)
  obtain ⟨rfl, -⟩ := hw
  clear hP hD hS
  have hP := hp; have hD := hd; have hS := hs; clear hp hd hs
  refine lv_iadd hx hb dX3_setDigits_58 ?_
  obtain ⟨g3, h⟩ := dG_some h
  refine va_iast hx hb hK hP hD hS 34 0 rfl rfl (dg_in g3) dX3_setDigits_59 (fun H locs hp hd hs => ?_)
  obtain ⟨q4, eq4, h⟩ := dL_some h
  refine kz_re (w2 := wF ty ad q4) hp hd hs (by rw [← eq4]; exact wF_a34 ty ad q (Int32.toNatClampNeg y2) (y1 + r1)) ?_
  clear hp hd hs hP hD hS
  intro hP hD hS
  refine lv_iinc (v := x4 + 1) (lv' := [(4, .int (x4 + 1)), (0, .ref (ad 32)), (1, .int x1), (2, .int x2), (3, .int x3)]) hx hb dX3_setDigits_60 hl (k := 4) rfl rfl (by decide) rfl (fun ls hl => ?_)
  refine lv_goto (tgt := 25) hx hb dX3_setDigits_63 (by decide) ?_
  exact hk25 _ _ _ _ _ _ _ _ h hP hD hS (lv_sub hl [1, 2, 3, 4, 0] rfl)
set_option maxHeartbeats 4000000 in
set_option maxRecDepth 100000 in
theorem WX3_setDigits_s32_25b {p : Program} {l : Launch} {e : Env} {s : State} {m : MethodId} {args : Array Value} {below : List Frame} {meth : Method} {c : Code} {D : va_G} {ty : Nat → ClassId} {eo : Nat → Nat} {A : Nat → Prop} {ad : Nat → Nat} {o2 : dK} (C : dc_C p s m args meth c cX3_setDigits none 5 RX3 wsX3_setDigits D ty eo A) {k2 : dK → Int32 → Int32 → Option (dK)} {k25 : dK → Int32 → Int32 → Int32 → Int32 → Option (dK)} (hk2 : ∀ (q : dK) (x1 : Int32) (x2 : Int32) (H : Heap) (locs : List Loc) (ls : Array Slot), k2 q x1 x2 = some o2 → va_P D vwCl (wF ty ad q) H → va_D A (wF ty ad q) → va_S A s.heap H locs → lv_has ls 5 [(0, .ref (ad 32)), (1, .int x1), (2, .int x2)] → W p l e ({ frames := 1, cells := 0, slots := 0, locals := 20 } : Room) s m args below meth c H locs 0 0 (MQ below (va_Qv (fun (u : va_W) => wF ty ad o2 = u) (kz_B D ty A) A) args s 0 0 A) (F0 m 2 ls [])) (hk25 : ∀ (q : dK) (x1 : Int32) (x2 : Int32) (x3 : Int32) (x4 : Int32) (H : Heap) (locs : List Loc) (ls : Array Slot), k25 q x1 x2 x3 x4 = some o2 → va_P D vwCl (wF ty ad q) H → va_D A (wF ty ad q) → va_S A s.heap H locs → lv_has ls 5 [(0, .ref (ad 32)), (1, .int x1), (2, .int x2), (3, .int x3), (4, .int x4)] → W p l e ({ frames := 1, cells := 0, slots := 0, locals := 20 } : Room) s m args below meth c H locs 0 0 (MQ below (va_Qv (fun (u : va_W) => wF ty ad o2 = u) (kz_B D ty A) A) args s 0 0 A) (F0 m 25 ls [])) (q : dK) (x1 : Int32) (x2 : Int32) (x3 : Int32) (x4 : Int32) (H : Heap) (locs : List Loc) (ls : Array Slot) (h : zX3_setDigits_s32_25b k2 k25 q x1 x2 x3 x4 = some o2) (hP : va_P D vwCl (wF ty ad q) H) (hD : va_D A (wF ty ad q)) (hS : va_S A s.heap H locs) (hl : lv_has ls 5 [(0, .ref (ad 32)), (1, .int x1), (2, .int x2), (3, .int x3), (4, .int x4)]) : W p l e ({ frames := 1, cells := 0, slots := 0, locals := 20 } : Room) s m args below meth c H locs 0 0 (MQ below (va_Qv (fun (u : va_W) => wF ty ad o2 = u) (kz_B D ty A) A) args s 0 0 A) (F0 m 25 ls []) := by
  have C0 := C
  obtain ⟨hx, hb, hr, hts, hown, hlocks, hml, hK, hN, hE, hA⟩ := C
  unfold zX3_setDigits_s32_25b at h
  refine lv_iload hx hb dX3_setDigits_25 (lv_at hl 4 rfl) ?_
  refine lv_iload_n hx hb dX3_setDigits_27 rfl (lv_at hl 2 rfl) ?_
  refine lv_icmp_ge (tgt := 66) hx hb dX3_setDigits_28 (by decide) (fun c9 => ?_) (fun c9 => ?_)
  · rw [if_pos c9] at h
    refine lv_aload_n hx hb dX3_setDigits_66 rfl (lv_at hl 0 rfl) ?_
    refine va_get (D := D) (ci := 3) (v := .ref (ad 34)) (C := RX3) (T := TX3) (N := 20) hx hb hts u9_wsX3_setDigits_X3 hown hK hP 32 rfl rfl 1 (by decide) (hts (.fieldLink RX3 15 "TurnedFloors$Paper" "digits" "[I") f9_wsX3_setDigits_716) (fun _ h9 => h9) rfl dX3_setDigits_67 ?_
    refine lv_iload_n hx hb dX3_setDigits_70 rfl (lv_at hl 2 rfl) ?_
    refine lv_iload_n hx hb dX3_setDigits_71 rfl (lv_at hl 3 rfl) ?_
    obtain ⟨g1, h⟩ := dG_some h
    refine va_iast hx hb hK hP hD hS 34 0 rfl rfl (dg_in g1) dX3_setDigits_72 (fun H locs hp hd hs => ?_)
    obtain ⟨q2, eq2, h⟩ := dL_some h
    refine kz_re (w2 := wF ty ad q2) hp hd hs (by rw [← eq2]; exact wF_a34 ty ad q (Int32.toNatClampNeg x2) x3) ?_
    clear hp hd hs hP hD hS
    intro hP hD hS
    refine lv_iinc (v := x2 + 1) (lv' := [(2, .int (x2 + 1)), (0, .ref (ad 32)), (1, .int x1), (3, .int x3), (4, .int x4)]) hx hb dX3_setDigits_73 hl (k := 2) rfl rfl (by decide) rfl (fun ls hl => ?_)
    refine lv_goto (tgt := 2) hx hb dX3_setDigits_76 (by decide) ?_
    exact hk2 _ _ _ _ _ _ h hP hD hS (lv_sub hl [1, 2, 0] rfl)
  · rw [if_neg c9] at h
    refine lv_aload_n hx hb dX3_setDigits_31 rfl (lv_at hl 0 rfl) ?_
    refine va_get (D := D) (ci := 3) (v := .ref (ad 34)) (C := RX3) (T := TX3) (N := 20) hx hb hts u9_wsX3_setDigits_X3 hown hK hP 32 rfl rfl 1 (by decide) (hts (.fieldLink RX3 15 "TurnedFloors$Paper" "digits" "[I") f9_wsX3_setDigits_716) (fun _ h9 => h9) rfl dX3_setDigits_32 ?_
    refine lv_iload hx hb dX3_setDigits_35 (lv_at hl 4 rfl) ?_
    refine lv_dup2_11 hx hb dX3_setDigits_37 rfl rfl ?_
    obtain ⟨g3, h⟩ := dG_some h
    refine va_iald hx hb hK hP 34 0 rfl rfl (dg_in g3) dX3_setDigits_38 ?_
    obtain ⟨v4, ev4, h⟩ := dL_some h
    refine kz_topi v4 ev4 ?_
    refine lv_aload_n hx hb dX3_setDigits_39 rfl (lv_at hl 0 rfl) ?_
    refine va_get (D := D) (ci := 3) (v := .ref (ad 34)) (C := RX3) (T := TX3) (N := 20) hx hb hts u9_wsX3_setDigits_X3 hown hK hP 32 rfl rfl 1 (by decide) (hts (.fieldLink RX3 15 "TurnedFloors$Paper" "digits" "[I") f9_wsX3_setDigits_716) (fun _ h9 => h9) rfl dX3_setDigits_40 ?_
    refine lv_iload hx hb dX3_setDigits_43 (lv_at hl 4 rfl) ?_
    obtain ⟨g5, h⟩ := dG_some h
    refine va_iald hx hb hK hP 34 0 rfl rfl (dg_in g5) dX3_setDigits_45 ?_
    obtain ⟨v6, ev6, h⟩ := dL_some h
    refine kz_topi v6 ev6 ?_
    refine lv_iload_n hx hb dX3_setDigits_46 rfl (lv_at hl 3 rfl) ?_
    refine lv_icmp_lt (tgt := 54) hx hb dX3_setDigits_47 (by decide) (fun c9 => ?_) (fun c9 => ?_)
    · rw [if_pos c9] at h
      refine lv_iconst (v := 0) hx hb dX3_setDigits_54 (by decide) ?_
      exact WX3_setDigits_s32_55 C0 hk2 hk25 _ _ _ _ _ _ _ _ _ _ _ h hP hD hS (lv_sub hl [0, 1, 2, 3, 4] rfl)
    · rw [if_neg c9] at h
      refine lv_iconst (v := 1) hx hb dX3_setDigits_50 (by decide) ?_
      refine lv_goto (tgt := 55) hx hb dX3_setDigits_51 (by decide) ?_
      exact WX3_setDigits_s32_55 C0 hk2 hk25 _ _ _ _ _ _ _ _ _ _ _ h hP hD hS (lv_sub hl [0, 1, 2, 3, 4] rfl)
set_option maxHeartbeats 4000000 in
set_option maxRecDepth 100000 in
theorem WX3_setDigits_s32_25 {p : Program} {l : Launch} {e : Env} {s : State} {m : MethodId} {args : Array Value} {below : List Frame} {meth : Method} {c : Code} {D : va_G} {ty : Nat → ClassId} {eo : Nat → Nat} {A : Nat → Prop} {ad : Nat → Nat} {o2 : dK} (C : dc_C p s m args meth c cX3_setDigits none 5 RX3 wsX3_setDigits D ty eo A) {k2 : dK → Int32 → Int32 → Option (dK)} (hk2 : ∀ (q : dK) (x1 : Int32) (x2 : Int32) (H : Heap) (locs : List Loc) (ls : Array Slot), k2 q x1 x2 = some o2 → va_P D vwCl (wF ty ad q) H → va_D A (wF ty ad q) → va_S A s.heap H locs → lv_has ls 5 [(0, .ref (ad 32)), (1, .int x1), (2, .int x2)] → W p l e ({ frames := 1, cells := 0, slots := 0, locals := 20 } : Room) s m args below meth c H locs 0 0 (MQ below (va_Qv (fun (u : va_W) => wF ty ad o2 = u) (kz_B D ty A) A) args s 0 0 A) (F0 m 2 ls [])) (n : Nat) (q : dK) (x1 : Int32) (x2 : Int32) (x3 : Int32) (x4 : Int32) (H : Heap) (locs : List Loc) (ls : Array Slot) (h : zX3_setDigits_s32_25 k2 n q x1 x2 x3 x4 = some o2) (hP : va_P D vwCl (wF ty ad q) H) (hD : va_D A (wF ty ad q)) (hS : va_S A s.heap H locs) (hl : lv_has ls 5 [(0, .ref (ad 32)), (1, .int x1), (2, .int x2), (3, .int x3), (4, .int x4)]) : W p l e ({ frames := 1, cells := 0, slots := 0, locals := 20 } : Room) s m args below meth c H locs 0 0 (MQ below (va_Qv (fun (u : va_W) => wF ty ad o2 = u) (kz_B D ty A) A) args s 0 0 A) (F0 m 25 ls []) := by
  exact dFix_W (F := fun k (a : dK × Int32 × Int32 × Int32 × Int32) => zX3_setDigits_s32_25b k2 (fun q x1 x2 x3 x4 => k (q, x1, x2, x3, x4)) a.1 a.2.1 a.2.2.1 a.2.2.2.1 a.2.2.2.2) (o := o2) (P := fun (a : dK × Int32 × Int32 × Int32 × Int32) H locs ls => va_P D vwCl (wF ty ad a.1) H ∧ va_D A (wF ty ad a.1) ∧ va_S A s.heap H locs ∧ lv_has ls 5 [(0, .ref (ad 32)), (1, .int a.2.1), (2, .int a.2.2.1), (3, .int a.2.2.2.1), (4, .int a.2.2.2.2)]) (G := fun H locs ls => W p l e ({ frames := 1, cells := 0, slots := 0, locals := 20 } : Room) s m args below meth c H locs 0 0 (MQ below (va_Qv (fun (u : va_W) => wF ty ad o2 = u) (kz_B D ty A) A) args s 0 0 A) (F0 m 25 ls []))
    (fun k hk a H locs ls h hp => WX3_setDigits_s32_25b C hk2 (fun q x1 x2 x3 x4 H locs ls h h1 h2 h3 h4 => hk (q, x1, x2, x3, x4) H locs ls h ⟨h1, h2, h3, h4⟩) a.1 a.2.1 a.2.2.1 a.2.2.2.1 a.2.2.2.2 H locs ls h hp.1 hp.2.1 hp.2.2.1 hp.2.2.2) n (q, x1, x2, x3, x4) H locs ls h ⟨hP, hD, hS, hl⟩
set_option maxHeartbeats 4000000 in
set_option maxRecDepth 100000 in
theorem WX3_setDigits_s32_2b {p : Program} {l : Launch} {e : Env} {s : State} {m : MethodId} {args : Array Value} {below : List Frame} {meth : Method} {c : Code} {D : va_G} {ty : Nat → ClassId} {eo : Nat → Nat} {A : Nat → Prop} {ad : Nat → Nat} {o2 : dK} (C : dc_C p s m args meth c cX3_setDigits none 5 RX3 wsX3_setDigits D ty eo A) {k2 : dK → Int32 → Int32 → Option (dK)} (hk2 : ∀ (q : dK) (x1 : Int32) (x2 : Int32) (H : Heap) (locs : List Loc) (ls : Array Slot), k2 q x1 x2 = some o2 → va_P D vwCl (wF ty ad q) H → va_D A (wF ty ad q) → va_S A s.heap H locs → lv_has ls 5 [(0, .ref (ad 32)), (1, .int x1), (2, .int x2)] → W p l e ({ frames := 1, cells := 0, slots := 0, locals := 20 } : Room) s m args below meth c H locs 0 0 (MQ below (va_Qv (fun (u : va_W) => wF ty ad o2 = u) (kz_B D ty A) A) args s 0 0 A) (F0 m 2 ls [])) (q : dK) (x1 : Int32) (x2 : Int32) (H : Heap) (locs : List Loc) (ls : Array Slot) (h : zX3_setDigits_s32_2b k2 q x1 x2 = some o2) (hP : va_P D vwCl (wF ty ad q) H) (hD : va_D A (wF ty ad q)) (hS : va_S A s.heap H locs) (hl : lv_has ls 5 [(0, .ref (ad 32)), (1, .int x1), (2, .int x2)]) : W p l e ({ frames := 1, cells := 0, slots := 0, locals := 20 } : Room) s m args below meth c H locs 0 0 (MQ below (va_Qv (fun (u : va_W) => wF ty ad o2 = u) (kz_B D ty A) A) args s 0 0 A) (F0 m 2 ls []) := by
  have C0 := C
  obtain ⟨hx, hb, hr, hts, hown, hlocks, hml, hK, hN, hE, hA⟩ := C
  unfold zX3_setDigits_s32_2b at h
  refine lv_iload_n hx hb dX3_setDigits_2 rfl (lv_at hl 2 rfl) ?_
  refine lv_bipush (v := 6) hx hb dX3_setDigits_3 (by decide) ?_
  refine lv_icmp_ge (tgt := 79) hx hb dX3_setDigits_5 (by decide) (fun c9 => ?_) (fun c9 => ?_)
  · rw [if_pos c9] at h
    cases h
    exact kz_vret hx hb hr hlocks hP hK hD hS dX3_setDigits_79 rfl
  · rw [if_neg c9] at h
    refine lv_iload_n hx hb dX3_setDigits_8 rfl (lv_at hl 2 rfl) ?_
    refine lv_iload_n hx hb dX3_setDigits_9 rfl (lv_at hl 1 rfl) ?_
    refine va_gets hx hb hE.1 hS hown (hts (.fieldLink RX3 76 "TurnedFloors$Paper" "FACTORIALS" "[I") f9_wsX3_setDigits_717) (fun _ h9 => h9) dX3_setDigits_10 ?_
    refine lv_iload_n hx hb dX3_setDigits_13 rfl (lv_at hl 2 rfl) ?_
    obtain ⟨g1, h⟩ := dG_some h
    refine va_ti (v := .int (([1, 1, 2, 6, 24, 120, 720] : List Int32).getD (Int32.toNatClampNeg x2) 0)) hx hb hE.2.1 hS (dg_in g1) rfl dX3_setDigits_14 ?_
    obtain ⟨v2, ev2, h⟩ := dL_some h
    refine kz_topi v2 ev2 ?_
    obtain ⟨g3, h⟩ := dG_some h
    refine lv_idiv hx hb dX3_setDigits_15 (dnz_ne g3) ?_
    refine lv_iload_n hx hb dX3_setDigits_16 rfl (lv_at hl 2 rfl) ?_
    refine lv_iconst (v := 1) hx hb dX3_setDigits_17 (by decide) ?_
    refine lv_iadd hx hb dX3_setDigits_18 ?_
    obtain ⟨g4, h⟩ := dG_some h
    refine lv_irem hx hb dX3_setDigits_19 (dnz_ne g4) ?_
    refine lv_isub hx hb dX3_setDigits_20 ?_
    obtain ⟨v5, ev5, h⟩ := dL_some h
    refine kz_topi v5 ev5 ?_
    refine lv_istore_n (lv' := [(3, .int v5), (0, .ref (ad 32)), (1, .int x1), (2, .int x2)]) hx hb dX3_setDigits_21 rfl hl (by decide) rfl (fun ls hl => ?_)
    refine lv_iconst (v := 0) hx hb dX3_setDigits_22 (by decide) ?_
    refine lv_istore (lv' := [(4, .int 0), (3, .int v5), (0, .ref (ad 32)), (1, .int x1), (2, .int x2)]) hx hb dX3_setDigits_23 hl (by decide) rfl (fun ls hl => ?_)
    exact WX3_setDigits_s32_25 C0 hk2 _ _ _ _ _ _ _ _ _ h hP hD hS (lv_sub hl [2, 3, 4, 1, 0] rfl)
set_option maxHeartbeats 4000000 in
set_option maxRecDepth 100000 in
theorem WX3_setDigits_s32_2 {p : Program} {l : Launch} {e : Env} {s : State} {m : MethodId} {args : Array Value} {below : List Frame} {meth : Method} {c : Code} {D : va_G} {ty : Nat → ClassId} {eo : Nat → Nat} {A : Nat → Prop} {ad : Nat → Nat} {o2 : dK} (C : dc_C p s m args meth c cX3_setDigits none 5 RX3 wsX3_setDigits D ty eo A)   (n : Nat) (q : dK) (x1 : Int32) (x2 : Int32) (H : Heap) (locs : List Loc) (ls : Array Slot) (h : zX3_setDigits_s32_2  n q x1 x2 = some o2) (hP : va_P D vwCl (wF ty ad q) H) (hD : va_D A (wF ty ad q)) (hS : va_S A s.heap H locs) (hl : lv_has ls 5 [(0, .ref (ad 32)), (1, .int x1), (2, .int x2)]) : W p l e ({ frames := 1, cells := 0, slots := 0, locals := 20 } : Room) s m args below meth c H locs 0 0 (MQ below (va_Qv (fun (u : va_W) => wF ty ad o2 = u) (kz_B D ty A) A) args s 0 0 A) (F0 m 2 ls []) := by
  exact dFix_W (F := fun k (a : dK × Int32 × Int32) => zX3_setDigits_s32_2b  (fun q x1 x2 => k (q, x1, x2)) a.1 a.2.1 a.2.2) (o := o2) (P := fun (a : dK × Int32 × Int32) H locs ls => va_P D vwCl (wF ty ad a.1) H ∧ va_D A (wF ty ad a.1) ∧ va_S A s.heap H locs ∧ lv_has ls 5 [(0, .ref (ad 32)), (1, .int a.2.1), (2, .int a.2.2)]) (G := fun H locs ls => W p l e ({ frames := 1, cells := 0, slots := 0, locals := 20 } : Room) s m args below meth c H locs 0 0 (MQ below (va_Qv (fun (u : va_W) => wF ty ad o2 = u) (kz_B D ty A) A) args s 0 0 A) (F0 m 2 ls []))
    (fun k hk a H locs ls h hp => WX3_setDigits_s32_2b C  (fun q x1 x2 H locs ls h h1 h2 h3 h4 => hk (q, x1, x2) H locs ls h ⟨h1, h2, h3, h4⟩) a.1 a.2.1 a.2.2 H locs ls h hp.1 hp.2.1 hp.2.2.1 hp.2.2.2) n (q, x1, x2) H locs ls h ⟨hP, hD, hS, hl⟩
set_option maxHeartbeats 4000000 in
set_option maxRecDepth 100000 in
theorem qX3_setDigits_s32 (l : Launch) (D : va_G) (ty : Nat → ClassId) (eo : Nat → Nat) (sz : Nat) (ad : Nat → Nat) (q : dK) (p1 : Int32) (o2 : dK) (h : zX3_setDigits_s32 q p1 = some o2) : Met l yX3_setDigits wsX3_setDigits ({ frames := 1, cells := 0, slots := 0, locals := 20 } : Room) (va_Pc [.ref (ad 32), .int p1] (kz_pre D ty eo (wF ty ad q) sz)) (va_Qv (fun (u : va_W) => wF ty ad o2 = u) (kz_B D ty (va_A (wF ty ad q) sz)) (va_A (wF ty ad q) sz)) 0 0 (va_A (wF ty ad q) sz) := by
  refine Met.ofW (cc := cX3_setDigits) (maxL := 5) (ret := none) (by decide) rfl ?_
  intro p e s m args below meth c s₁ B hml hv
  obtain ⟨rfl, hsz, hP, hK, hD0, hN, hE⟩ := hv
  have hx := B.exec
  have hb := B.bytes
  have hr := B.returns
  have hts := atoms_spec (ws := wsX3_setDigits) B.pre
  have hown : s.vm.findClass RX3 = some m.cls := findClass_of_methodNamed B.named
  have hlocks := B.notSynchronized
  subst hsz
  have hD := hD0.self (sz := s.heap.size)
  generalize hAe : va_A (wF ty ad q) s.heap.size = A at hD hE ⊢
  have hA : ∀ q : Nat, s.heap.size ≤ q → A q := fun q h => by rw [← hAe]; exact Or.inr h
  clear hAe
  have hS : va_S A s.heap s.heap [] := va_S.rf
  have hl := lv_entry ([.ref (ad 32), .int p1]) (n := 5) (Nat.le_of_ble_eq_true rfl)
  rw [lg_entry_eq]
  generalize (lg_sl ([.ref (ad 32), .int p1]) ++ List.replicate (5 - (lg_sl ([.ref (ad 32), .int p1])).length) Slot.unset).toArray = ls at hl ⊢
  have hl : lv_has ls 5 [(0, .ref (ad 32)), (1, .int p1)] := hl
  have C : dc_C p s m _ meth c cX3_setDigits none 5 RX3 wsX3_setDigits D ty eo A := ⟨hx, hb, hr, hts, hown, hlocks, hml, hK, hN, hE, hA⟩
  unfold zX3_setDigits_s32 at h
  refine lv_iconst (v := 0) hx hb dX3_setDigits_0 (by decide) ?_
  refine lv_istore_n (lv' := [(2, .int 0), (0, .ref (ad 32)), (1, .int p1)]) hx hb dX3_setDigits_1 rfl hl (by decide) rfl (fun ls hl => ?_)
  exact WX3_setDigits_s32_2 C  _ _ _ _ _ _ _ h hP hD hS (lv_sub hl [1, 2, 0] rfl)

set_option maxHeartbeats 4000000 in
set_option maxRecDepth 100000 in
theorem WX3_numberOfOrder_s32_43 {p : Program} {l : Launch} {e : Env} {s : State} {m : MethodId} {args : Array Value} {below : List Frame} {meth : Method} {c : Code} {D : va_G} {ty : Nat → ClassId} {eo : Nat → Nat} {A : Nat → Prop} {ad : Nat → Nat} {o1 : Int32} {o2 : dK} (C : dc_C p s m args meth c cX3_numberOfOrder (some .int) 5 RX3 wsX3_numberOfOrder D ty eo A) {k4 : dK → Int32 → Int32 → Option (Int32 × dK)} {k15 : dK → Int32 → Int32 → Int32 → Int32 → Option (Int32 × dK)} (hk4 : ∀ (q : dK) (x1 : Int32) (x2 : Int32) (H : Heap) (locs : List Loc) (ls : Array Slot), k4 q x1 x2 = some (o1, o2) → va_P D vwCl (wF ty ad q) H → va_D A (wF ty ad q) → va_S A s.heap H locs → lv_has ls 5 [(0, .ref (ad 32)), (1, .int x1), (2, .int x2)] → W p l e ({ frames := 1, cells := 0, slots := 0, locals := 20 } : Room) s m args below meth c H locs 0 0 (MQ below (va_Qi (fun (r : Int32) (u : va_W) => o1 = r ∧ wF ty ad o2 = u) (kz_B D ty A) A) args s 0 0 A) (F0 m 4 ls [])) (hk15 : ∀ (q : dK) (x1 : Int32) (x2 : Int32) (x3 : Int32) (x4 : Int32) (H : Heap) (locs : List Loc) (ls : Array Slot), k15 q x1 x2 x3 x4 = some (o1, o2) → va_P D vwCl (wF ty ad q) H → va_D A (wF ty ad q) → va_S A s.heap H locs → lv_has ls 5 [(0, .ref (ad 32)), (1, .int x1), (2, .int x2), (3, .int x3), (4, .int x4)] → W p l e ({ frames := 1, cells := 0, slots := 0, locals := 20 } : Room) s m args below meth c H locs 0 0 (MQ below (va_Qi (fun (r : Int32) (u : va_W) => o1 = r ∧ wF ty ad o2 = u) (kz_B D ty A) A) args s 0 0 A) (F0 m 15 ls [])) (q : dK) (x1 : Int32) (x2 : Int32) (x4 : Int32) (y0 : Int32) (y1 : Int32) (H : Heap) (locs : List Loc) (ls : Array Slot) (h : zX3_numberOfOrder_s32_43 k4 k15 q x1 x2 x4 y0 y1 = some (o1, o2)) (hP : va_P D vwCl (wF ty ad q) H) (hD : va_D A (wF ty ad q)) (hS : va_S A s.heap H locs) (hl : lv_has ls 5 [(0, .ref (ad 32)), (1, .int x1), (2, .int x2), (4, .int x4)]) : W p l e ({ frames := 1, cells := 0, slots := 0, locals := 20 } : Room) s m args below meth c H locs 0 0 (MQ below (va_Qi (fun (r : Int32) (u : va_W) => o1 = r ∧ wF ty ad o2 = u) (kz_B D ty A) A) args s 0 0 A) (F0 m 43 ls [.int y0, .int y1]) := by
  have C0 := C
  obtain ⟨hx, hb, hr, hts, hown, hlocks, hml, hK, hN, hE, hA⟩ := C
  unfold zX3_numberOfOrder_s32_43 at h
  obtain ⟨r1, h2, h⟩ := dV_some h
  refine dw_ks (va_runSN (As := [.int y0]) (rest := [.int y1]) ⟨hx, hb, hml, hown, hts⟩ (qX9_bit l D ty eo _ y0 _ h2) ⟨va_cnB 1 hts gX3_numberOfOrder_X9_bit_n133 rfl rfl rfl (hN.1 _ (by decide +kernel : (.methodLinkNest "TurnedFloors$Paper" 133 yX9_bit "TurnedFloors" : Cond) ∈ kzN1)) (hts (.initialized RX9) f9_wsX3_numberOfOrder_718) (by decide +kernel) ⟨Nat.le_of_ble_eq_true rfl, Nat.le_of_ble_eq_true rfl⟩, hts (.static yX9_bit) (by decide +kernel), trivial⟩ (kz_preS hK hN hE hP hD hS hA [] (by decide) rfl) rfl rfl hl.1 rfl (lv_room (Nat.le_of_ble_eq_true rfl)) dX3_numberOfOrder_43 ⟨Nat.le_of_ble_eq_true rfl, Nat.le_of_ble_eq_true rfl⟩) hP hD hS hA (fun _ _ h9 => h9.2.symm) (fun r9 u9 H locs hw hp hd hs => ?_)
  obtain ⟨rfl, -⟩ := hw
  clear hP hD hS
  have hP := hp; have hD := hd; have hS := hs; clear hp hd hs
  refine lv_iadd hx hb dX3_numberOfOrder_46 ?_
  refine lv_istore_n (lv' := [(3, .int (y1 + r1)), (0, .ref (ad 32)), (1, .int x1), (2, .int x2), (4, .int x4)]) hx hb dX3_numberOfOrder_47 rfl hl (by decide) rfl (fun ls hl => ?_)
  refine lv_iinc (v := x4 + 1) (lv' := [(4, .int (x4 + 1)), (3, .int (y1 + r1)), (0, .ref (ad 32)), (1, .int x1), (2, .int x2)]) hx hb dX3_numberOfOrder_48 hl (k := 4) rfl rfl (by decide) rfl (fun ls hl => ?_)
  refine lv_goto (tgt := 15) hx hb dX3_numberOfOrder_51 (by decide) ?_
  exact hk15 _ _ _ _ _ _ _ _ h hP hD hS (lv_sub hl [2, 3, 4, 1, 0] rfl)
set_option maxHeartbeats 4000000 in
set_option maxRecDepth 100000 in
theorem WX3_numberOfOrder_s32_15b {p : Program} {l : Launch} {e : Env} {s : State} {m : MethodId} {args : Array Value} {below : List Frame} {meth : Method} {c : Code} {D : va_G} {ty : Nat → ClassId} {eo : Nat → Nat} {A : Nat → Prop} {ad : Nat → Nat} {o1 : Int32} {o2 : dK} (C : dc_C p s m args meth c cX3_numberOfOrder (some .int) 5 RX3 wsX3_numberOfOrder D ty eo A) {k4 : dK → Int32 → Int32 → Option (Int32 × dK)} {k15 : dK → Int32 → Int32 → Int32 → Int32 → Option (Int32 × dK)} (hk4 : ∀ (q : dK) (x1 : Int32) (x2 : Int32) (H : Heap) (locs : List Loc) (ls : Array Slot), k4 q x1 x2 = some (o1, o2) → va_P D vwCl (wF ty ad q) H → va_D A (wF ty ad q) → va_S A s.heap H locs → lv_has ls 5 [(0, .ref (ad 32)), (1, .int x1), (2, .int x2)] → W p l e ({ frames := 1, cells := 0, slots := 0, locals := 20 } : Room) s m args below meth c H locs 0 0 (MQ below (va_Qi (fun (r : Int32) (u : va_W) => o1 = r ∧ wF ty ad o2 = u) (kz_B D ty A) A) args s 0 0 A) (F0 m 4 ls [])) (hk15 : ∀ (q : dK) (x1 : Int32) (x2 : Int32) (x3 : Int32) (x4 : Int32) (H : Heap) (locs : List Loc) (ls : Array Slot), k15 q x1 x2 x3 x4 = some (o1, o2) → va_P D vwCl (wF ty ad q) H → va_D A (wF ty ad q) → va_S A s.heap H locs → lv_has ls 5 [(0, .ref (ad 32)), (1, .int x1), (2, .int x2), (3, .int x3), (4, .int x4)] → W p l e ({ frames := 1, cells := 0, slots := 0, locals := 20 } : Room) s m args below meth c H locs 0 0 (MQ below (va_Qi (fun (r : Int32) (u : va_W) => o1 = r ∧ wF ty ad o2 = u) (kz_B D ty A) A) args s 0 0 A) (F0 m 15 ls [])) (q : dK) (x1 : Int32) (x2 : Int32) (x3 : Int32) (x4 : Int32) (H : Heap) (locs : List Loc) (ls : Array Slot) (h : zX3_numberOfOrder_s32_15b k4 k15 q x1 x2 x3 x4 = some (o1, o2)) (hP : va_P D vwCl (wF ty ad q) H) (hD : va_D A (wF ty ad q)) (hS : va_S A s.heap H locs) (hl : lv_has ls 5 [(0, .ref (ad 32)), (1, .int x1), (2, .int x2), (3, .int x3), (4, .int x4)]) : W p l e ({ frames := 1, cells := 0, slots := 0, locals := 20 } : Room) s m args below meth c H locs 0 0 (MQ below (va_Qi (fun (r : Int32) (u : va_W) => o1 = r ∧ wF ty ad o2 = u) (kz_B D ty A) A) args s 0 0 A) (F0 m 15 ls []) := by
  have C0 := C
  obtain ⟨hx, hb, hr, hts, hown, hlocks, hml, hK, hN, hE, hA⟩ := C
  unfold zX3_numberOfOrder_s32_15b at h
  refine lv_iload hx hb dX3_numberOfOrder_15 (lv_at hl 4 rfl) ?_
  refine lv_iload_n hx hb dX3_numberOfOrder_17 rfl (lv_at hl 2 rfl) ?_
  refine lv_icmp_ge (tgt := 54) hx hb dX3_numberOfOrder_18 (by decide) (fun c9 => ?_) (fun c9 => ?_)
  · rw [if_pos c9] at h
    refine lv_iload_n hx hb dX3_numberOfOrder_54 rfl (lv_at hl 1 rfl) ?_
    refine lv_iload_n hx hb dX3_numberOfOrder_55 rfl (lv_at hl 3 rfl) ?_
    refine va_gets hx hb hE.1 hS hown (hts (.fieldLink RX3 76 "TurnedFloors$Paper" "FACTORIALS" "[I") f9_wsX3_numberOfOrder_720) (fun _ h9 => h9) dX3_numberOfOrder_56 ?_
    refine lv_iload_n hx hb dX3_numberOfOrder_59 rfl (lv_at hl 2 rfl) ?_
    obtain ⟨g1, h⟩ := dG_some h
    refine va_ti (v := .int (([1, 1, 2, 6, 24, 120, 720] : List Int32).getD (Int32.toNatClampNeg x2) 0)) hx hb hE.2.1 hS (dg_in g1) rfl dX3_numberOfOrder_60 ?_
    obtain ⟨v2, ev2, h⟩ := dL_some h
    refine kz_topi v2 ev2 ?_
    refine lv_imul hx hb dX3_numberOfOrder_61 ?_
    refine lv_iadd hx hb dX3_numberOfOrder_62 ?_
    refine lv_istore_n (lv' := [(1, .int (x1 + (x3 * v2))), (0, .ref (ad 32)), (2, .int x2), (3, .int x3), (4, .int x4)]) hx hb dX3_numberOfOrder_63 rfl hl (by decide) rfl (fun ls hl => ?_)
    refine lv_iinc (v := x2 + 1) (lv' := [(2, .int (x2 + 1)), (1, .int (x1 + (x3 * v2))), (0, .ref (ad 32)), (3, .int x3), (4, .int x4)]) hx hb dX3_numberOfOrder_64 hl (k := 2) rfl rfl (by decide) rfl (fun ls hl => ?_)
    refine lv_goto (tgt := 4) hx hb dX3_numberOfOrder_67 (by decide) ?_
    exact hk4 _ _ _ _ _ _ h hP hD hS (lv_sub hl [2, 1, 0] rfl)
  · rw [if_neg c9] at h
    refine lv_iload_n hx hb dX3_numberOfOrder_21 rfl (lv_at hl 3 rfl) ?_
    refine lv_aload_n hx hb dX3_numberOfOrder_22 rfl (lv_at hl 0 rfl) ?_
    refine va_get (D := D) (ci := 3) (v := .ref (ad 34)) (C := RX3) (T := TX3) (N := 20) hx hb hts u9_wsX3_numberOfOrder_X3 hown hK hP 32 rfl rfl 1 (by decide) (hts (.fieldLink RX3 15 "TurnedFloors$Paper" "digits" "[I") f9_wsX3_numberOfOrder_721) (fun _ h9 => h9) rfl dX3_numberOfOrder_23 ?_
    refine lv_iload hx hb dX3_numberOfOrder_26 (lv_at hl 4 rfl) ?_
    obtain ⟨g3, h⟩ := dG_some h
    refine va_iald hx hb hK hP 34 0 rfl rfl (dg_in g3) dX3_numberOfOrder_28 ?_
    obtain ⟨v4, ev4, h⟩ := dL_some h
    refine kz_topi v4 ev4 ?_
    refine lv_aload_n hx hb dX3_numberOfOrder_29 rfl (lv_at hl 0 rfl) ?_
    refine va_get (D := D) (ci := 3) (v := .ref (ad 34)) (C := RX3) (T := TX3) (N := 20) hx hb hts u9_wsX3_numberOfOrder_X3 hown hK hP 32 rfl rfl 1 (by decide) (hts (.fieldLink RX3 15 "TurnedFloors$Paper" "digits" "[I") f9_wsX3_numberOfOrder_721) (fun _ h9 => h9) rfl dX3_numberOfOrder_30 ?_
    refine lv_iload_n hx hb dX3_numberOfOrder_33 rfl (lv_at hl 2 rfl) ?_
    obtain ⟨g5, h⟩ := dG_some h
    refine va_iald hx hb hK hP 34 0 rfl rfl (dg_in g5) dX3_numberOfOrder_34 ?_
    obtain ⟨v6, ev6, h⟩ := dL_some h
    refine kz_topi v6 ev6 ?_
    refine lv_icmp_le (tgt := 42) hx hb dX3_numberOfOrder_35 (by decide) (fun c9 => ?_) (fun c9 => ?_)
    · rw [if_pos c9] at h
      refine lv_iconst (v := 0) hx hb dX3_numberOfOrder_42 (by decide) ?_
      exact WX3_numberOfOrder_s32_43 C0 hk4 hk15 _ _ _ _ _ _ _ _ _ h hP hD hS (lv_sub hl [0, 1, 2, 4] rfl)
    · rw [if_neg c9] at h
      refine lv_iconst (v := 1) hx hb dX3_numberOfOrder_38 (by decide) ?_
      refine lv_goto (tgt := 43) hx hb dX3_numberOfOrder_39 (by decide) ?_
      exact WX3_numberOfOrder_s32_43 C0 hk4 hk15 _ _ _ _ _ _ _ _ _ h hP hD hS (lv_sub hl [0, 1, 2, 4] rfl)
set_option maxHeartbeats 4000000 in
set_option maxRecDepth 100000 in
theorem WX3_numberOfOrder_s32_15 {p : Program} {l : Launch} {e : Env} {s : State} {m : MethodId} {args : Array Value} {below : List Frame} {meth : Method} {c : Code} {D : va_G} {ty : Nat → ClassId} {eo : Nat → Nat} {A : Nat → Prop} {ad : Nat → Nat} {o1 : Int32} {o2 : dK} (C : dc_C p s m args meth c cX3_numberOfOrder (some .int) 5 RX3 wsX3_numberOfOrder D ty eo A) {k4 : dK → Int32 → Int32 → Option (Int32 × dK)} (hk4 : ∀ (q : dK) (x1 : Int32) (x2 : Int32) (H : Heap) (locs : List Loc) (ls : Array Slot), k4 q x1 x2 = some (o1, o2) → va_P D vwCl (wF ty ad q) H → va_D A (wF ty ad q) → va_S A s.heap H locs → lv_has ls 5 [(0, .ref (ad 32)), (1, .int x1), (2, .int x2)] → W p l e ({ frames := 1, cells := 0, slots := 0, locals := 20 } : Room) s m args below meth c H locs 0 0 (MQ below (va_Qi (fun (r : Int32) (u : va_W) => o1 = r ∧ wF ty ad o2 = u) (kz_B D ty A) A) args s 0 0 A) (F0 m 4 ls [])) (n : Nat) (q : dK) (x1 : Int32) (x2 : Int32) (x3 : Int32) (x4 : Int32) (H : Heap) (locs : List Loc) (ls : Array Slot) (h : zX3_numberOfOrder_s32_15 k4 n q x1 x2 x3 x4 = some (o1, o2)) (hP : va_P D vwCl (wF ty ad q) H) (hD : va_D A (wF ty ad q)) (hS : va_S A s.heap H locs) (hl : lv_has ls 5 [(0, .ref (ad 32)), (1, .int x1), (2, .int x2), (3, .int x3), (4, .int x4)]) : W p l e ({ frames := 1, cells := 0, slots := 0, locals := 20 } : Room) s m args below meth c H locs 0 0 (MQ below (va_Qi (fun (r : Int32) (u : va_W) => o1 = r ∧ wF ty ad o2 = u) (kz_B D ty A) A) args s 0 0 A) (F0 m 15 ls []) := by
  exact dFix_W (F := fun k (a : dK × Int32 × Int32 × Int32 × Int32) => zX3_numberOfOrder_s32_15b k4 (fun q x1 x2 x3 x4 => k (q, x1, x2, x3, x4)) a.1 a.2.1 a.2.2.1 a.2.2.2.1 a.2.2.2.2) (o := (o1, o2)) (P := fun (a : dK × Int32 × Int32 × Int32 × Int32) H locs ls => va_P D vwCl (wF ty ad a.1) H ∧ va_D A (wF ty ad a.1) ∧ va_S A s.heap H locs ∧ lv_has ls 5 [(0, .ref (ad 32)), (1, .int a.2.1), (2, .int a.2.2.1), (3, .int a.2.2.2.1), (4, .int a.2.2.2.2)]) (G := fun H locs ls => W p l e ({ frames := 1, cells := 0, slots := 0, locals := 20 } : Room) s m args below meth c H locs 0 0 (MQ below (va_Qi (fun (r : Int32) (u : va_W) => o1 = r ∧ wF ty ad o2 = u) (kz_B D ty A) A) args s 0 0 A) (F0 m 15 ls []))
    (fun k hk a H locs ls h hp => WX3_numberOfOrder_s32_15b C hk4 (fun q x1 x2 x3 x4 H locs ls h h1 h2 h3 h4 => hk (q, x1, x2, x3, x4) H locs ls h ⟨h1, h2, h3, h4⟩) a.1 a.2.1 a.2.2.1 a.2.2.2.1 a.2.2.2.2 H locs ls h hp.1 hp.2.1 hp.2.2.1 hp.2.2.2) n (q, x1, x2, x3, x4) H locs ls h ⟨hP, hD, hS, hl⟩
set_option maxHeartbeats 4000000 in
set_option maxRecDepth 100000 in
theorem WX3_numberOfOrder_s32_4b {p : Program} {l : Launch} {e : Env} {s : State} {m : MethodId} {args : Array Value} {below : List Frame} {meth : Method} {c : Code} {D : va_G} {ty : Nat → ClassId} {eo : Nat → Nat} {A : Nat → Prop} {ad : Nat → Nat} {o1 : Int32} {o2 : dK} (C : dc_C p s m args meth c cX3_numberOfOrder (some .int) 5 RX3 wsX3_numberOfOrder D ty eo A) {k4 : dK → Int32 → Int32 → Option (Int32 × dK)} (hk4 : ∀ (q : dK) (x1 : Int32) (x2 : Int32) (H : Heap) (locs : List Loc) (ls : Array Slot), k4 q x1 x2 = some (o1, o2) → va_P D vwCl (wF ty ad q) H → va_D A (wF ty ad q) → va_S A s.heap H locs → lv_has ls 5 [(0, .ref (ad 32)), (1, .int x1), (2, .int x2)] → W p l e ({ frames := 1, cells := 0, slots := 0, locals := 20 } : Room) s m args below meth c H locs 0 0 (MQ below (va_Qi (fun (r : Int32) (u : va_W) => o1 = r ∧ wF ty ad o2 = u) (kz_B D ty A) A) args s 0 0 A) (F0 m 4 ls [])) (q : dK) (x1 : Int32) (x2 : Int32) (H : Heap) (locs : List Loc) (ls : Array Slot) (h : zX3_numberOfOrder_s32_4b k4 q x1 x2 = some (o1, o2)) (hP : va_P D vwCl (wF ty ad q) H) (hD : va_D A (wF ty ad q)) (hS : va_S A s.heap H locs) (hl : lv_has ls 5 [(0, .ref (ad 32)), (1, .int x1), (2, .int x2)]) : W p l e ({ frames := 1, cells := 0, slots := 0, locals := 20 } : Room) s m args below meth c H locs 0 0 (MQ below (va_Qi (fun (r : Int32) (u : va_W) => o1 = r ∧ wF ty ad o2 = u) (kz_B D ty A) A) args s 0 0 A) (F0 m 4 ls []) := by
  have C0 := C
  obtain ⟨hx, hb, hr, hts, hown, hlocks, hml, hK, hN, hE, hA⟩ := C
  unfold zX3_numberOfOrder_s32_4b at h
  refine lv_iload_n hx hb dX3_numberOfOrder_4 rfl (lv_at hl 2 rfl) ?_
  refine lv_bipush (v := 6) hx hb dX3_numberOfOrder_5 (by decide) ?_
  refine lv_icmp_ge (tgt := 70) hx hb dX3_numberOfOrder_7 (by decide) (fun c9 => ?_) (fun c9 => ?_)
  · rw [if_pos c9] at h
    refine lv_iload_n hx hb dX3_numberOfOrder_70 rfl (lv_at hl 1 rfl) ?_
    cases h
    exact kz_iret hx hb hr hlocks hP hK hD hS dX3_numberOfOrder_71 ⟨rfl, rfl⟩
  · rw [if_neg c9] at h
    refine lv_iconst (v := 0) hx hb dX3_numberOfOrder_10 (by decide) ?_
    refine lv_istore_n (lv' := [(3, .int 0), (0, .ref (ad 32)), (1, .int x1), (2, .int x2)]) hx hb dX3_numberOfOrder_11 rfl hl (by decide) rfl (fun ls hl => ?_)
    refine lv_iconst (v := 0) hx hb dX3_numberOfOrder_12 (by decide) ?_
    refine lv_istore (lv' := [(4, .int 0), (3, .int 0), (0, .ref (ad 32)), (1, .int x1), (2, .int x2)]) hx hb dX3_numberOfOrder_13 hl (by decide) rfl (fun ls hl => ?_)
    exact WX3_numberOfOrder_s32_15 C0 hk4 _ _ _ _ _ _ _ _ _ h hP hD hS (lv_sub hl [2, 3, 4, 1, 0] rfl)
set_option maxHeartbeats 4000000 in
set_option maxRecDepth 100000 in
theorem WX3_numberOfOrder_s32_4 {p : Program} {l : Launch} {e : Env} {s : State} {m : MethodId} {args : Array Value} {below : List Frame} {meth : Method} {c : Code} {D : va_G} {ty : Nat → ClassId} {eo : Nat → Nat} {A : Nat → Prop} {ad : Nat → Nat} {o1 : Int32} {o2 : dK} (C : dc_C p s m args meth c cX3_numberOfOrder (some .int) 5 RX3 wsX3_numberOfOrder D ty eo A)   (n : Nat) (q : dK) (x1 : Int32) (x2 : Int32) (H : Heap) (locs : List Loc) (ls : Array Slot) (h : zX3_numberOfOrder_s32_4  n q x1 x2 = some (o1, o2)) (hP : va_P D vwCl (wF ty ad q) H) (hD : va_D A (wF ty ad q)) (hS : va_S A s.heap H locs) (hl : lv_has ls 5 [(0, .ref (ad 32)), (1, .int x1), (2, .int x2)]) : W p l e ({ frames := 1, cells := 0, slots := 0, locals := 20 } : Room) s m args below meth c H locs 0 0 (MQ below (va_Qi (fun (r : Int32) (u : va_W) => o1 = r ∧ wF ty ad o2 = u) (kz_B D ty A) A) args s 0 0 A) (F0 m 4 ls []) := by
  exact dFix_W (F := fun k (a : dK × Int32 × Int32) => zX3_numberOfOrder_s32_4b  (fun q x1 x2 => k (q, x1, x2)) a.1 a.2.1 a.2.2) (o := (o1, o2)) (P := fun (a : dK × Int32 × Int32) H locs ls => va_P D vwCl (wF ty ad a.1) H ∧ va_D A (wF ty ad a.1) ∧ va_S A s.heap H locs ∧ lv_has ls 5 [(0, .ref (ad 32)), (1, .int a.2.1), (2, .int a.2.2)]) (G := fun H locs ls => W p l e ({ frames := 1, cells := 0, slots := 0, locals := 20 } : Room) s m args below meth c H locs 0 0 (MQ below (va_Qi (fun (r : Int32) (u : va_W) => o1 = r ∧ wF ty ad o2 = u) (kz_B D ty A) A) args s 0 0 A) (F0 m 4 ls []))
    (fun k hk a H locs ls h hp => WX3_numberOfOrder_s32_4b C  (fun q x1 x2 H locs ls h h1 h2 h3 h4 => hk (q, x1, x2) H locs ls h ⟨h1, h2, h3, h4⟩) a.1 a.2.1 a.2.2 H locs ls h hp.1 hp.2.1 hp.2.2.1 hp.2.2.2) n (q, x1, x2) H locs ls h ⟨hP, hD, hS, hl⟩
set_option maxHeartbeats 4000000 in
set_option maxRecDepth 100000 in
theorem qX3_numberOfOrder_s32 (l : Launch) (D : va_G) (ty : Nat → ClassId) (eo : Nat → Nat) (sz : Nat) (ad : Nat → Nat) (q : dK)  (o1 : Int32) (o2 : dK) (h : zX3_numberOfOrder_s32 q = some (o1, o2)) : Met l yX3_numberOfOrder wsX3_numberOfOrder ({ frames := 1, cells := 0, slots := 0, locals := 20 } : Room) (va_Pc [.ref (ad 32)] (kz_pre D ty eo (wF ty ad q) sz)) (va_Qi (fun (r : Int32) (u : va_W) => o1 = r ∧ wF ty ad o2 = u) (kz_B D ty (va_A (wF ty ad q) sz)) (va_A (wF ty ad q) sz)) 0 0 (va_A (wF ty ad q) sz) := by
  refine Met.ofW (cc := cX3_numberOfOrder) (maxL := 5) (ret := (some .int)) (by decide) rfl ?_
  intro p e s m args below meth c s₁ B hml hv
  obtain ⟨rfl, hsz, hP, hK, hD0, hN, hE⟩ := hv
  have hx := B.exec
  have hb := B.bytes
  have hr := B.returns
  have hts := atoms_spec (ws := wsX3_numberOfOrder) B.pre
  have hown : s.vm.findClass RX3 = some m.cls := findClass_of_methodNamed B.named
  have hlocks := B.notSynchronized
  subst hsz
  have hD := hD0.self (sz := s.heap.size)
  generalize hAe : va_A (wF ty ad q) s.heap.size = A at hD hE ⊢
  have hA : ∀ q : Nat, s.heap.size ≤ q → A q := fun q h => by rw [← hAe]; exact Or.inr h
  clear hAe
  have hS : va_S A s.heap s.heap [] := va_S.rf
  have hl := lv_entry ([.ref (ad 32)]) (n := 5) (Nat.le_of_ble_eq_true rfl)
  rw [lg_entry_eq]
  generalize (lg_sl ([.ref (ad 32)]) ++ List.replicate (5 - (lg_sl ([.ref (ad 32)])).length) Slot.unset).toArray = ls at hl ⊢
  have hl : lv_has ls 5 [(0, .ref (ad 32))] := hl
  have C : dc_C p s m _ meth c cX3_numberOfOrder (some .int) 5 RX3 wsX3_numberOfOrder D ty eo A := ⟨hx, hb, hr, hts, hown, hlocks, hml, hK, hN, hE, hA⟩
  unfold zX3_numberOfOrder_s32 at h
  refine lv_iconst (v := 0) hx hb dX3_numberOfOrder_0 (by decide) ?_
  refine lv_istore_n (lv' := [(1, .int 0), (0, .ref (ad 32))]) hx hb dX3_numberOfOrder_1 rfl hl (by decide) rfl (fun ls hl => ?_)
  refine lv_iconst (v := 0) hx hb dX3_numberOfOrder_2 (by decide) ?_
  refine lv_istore_n (lv' := [(2, .int 0), (1, .int 0), (0, .ref (ad 32))]) hx hb dX3_numberOfOrder_3 rfl hl (by decide) rfl (fun ls hl => ?_)
  exact WX3_numberOfOrder_s32_4 C  _ _ _ _ _ _ _ h hP hD hS (lv_sub hl [2, 1, 0] rfl)

set_option maxHeartbeats 4000000 in
set_option maxRecDepth 100000 in
theorem WX3_listOrder_s32_60b {p : Program} {l : Launch} {e : Env} {s : State} {m : MethodId} {args : Array Value} {below : List Frame} {meth : Method} {c : Code} {D : va_G} {ty : Nat → ClassId} {eo : Nat → Nat} {A : Nat → Prop} {ad : Nat → Nat} {o2 : dK} (C : dc_C p s m args meth c cX3_listOrder none 6 RX3 wsX3_listOrder D ty eo A) {k40 : dK → Int32 → Int32 → Option (dK)} {k60 : dK → Int32 → Int32 → Int32 → Int32 → Option (dK)} (hk40 : ∀ (q : dK) (x1 : Int32) (x2 : Int32) (H : Heap) (locs : List Loc) (ls : Array Slot), k40 q x1 x2 = some o2 → va_P D vwCl (wF ty ad q) H → va_D A (wF ty ad q) → va_S A s.heap H locs → lv_has ls 6 [(0, .ref (ad 32)), (1, .int x1), (2, .int x2)] → W p l e ({ frames := 2, cells := 0, slots := 0, locals := 44 } : Room) s m args below meth c H locs 0 0 (MQ below (va_Qv (fun (u : va_W) => wF ty ad o2 = u) (kz_B D ty A) A) args s 0 0 A) (F0 m 40 ls [])) (hk60 : ∀ (q : dK) (x1 : Int32) (x2 : Int32) (x3 : Int32) (x4 : Int32) (H : Heap) (locs : List Loc) (ls : Array Slot), k60 q x1 x2 x3 x4 = some o2 → va_P D vwCl (wF ty ad q) H → va_D A (wF ty ad q) → va_S A s.heap H locs → lv_has ls 6 [(0, .ref (ad 32)), (1, .int x1), (2, .int x2), (3, .int x3), (4, .int x4)] → W p l e ({ frames := 2, cells := 0, slots := 0, locals := 44 } : Room) s m args below meth c H locs 0 0 (MQ below (va_Qv (fun (u : va_W) => wF ty ad o2 = u) (kz_B D ty A) A) args s 0 0 A) (F0 m 60 ls [])) (q : dK) (x1 : Int32) (x2 : Int32) (x3 : Int32) (x4 : Int32) (H : Heap) (locs : List Loc) (ls : Array Slot) (h : zX3_listOrder_s32_60b k40 k60 q x1 x2 x3 x4 = some o2) (hP : va_P D vwCl (wF ty ad q) H) (hD : va_D A (wF ty ad q)) (hS : va_S A s.heap H locs) (hl : lv_has ls 6 [(0, .ref (ad 32)), (1, .int x1), (2, .int x2), (3, .int x3), (4, .int x4)]) : W p l e ({ frames := 2, cells := 0, slots := 0, locals := 44 } : Room) s m args below meth c H locs 0 0 (MQ below (va_Qv (fun (u : va_W) => wF ty ad o2 = u) (kz_B D ty A) A) args s 0 0 A) (F0 m 60 ls []) := by
  have C0 := C
  obtain ⟨hx, hb, hr, hts, hown, hlocks, hml, hK, hN, hE, hA⟩ := C
  unfold zX3_listOrder_s32_60b at h
  refine lv_iload_n hx hb dX3_listOrder_60 rfl (lv_at hl 3 rfl) ?_
  refine lv_iload hx hb dX3_listOrder_61 (lv_at hl 4 rfl) ?_
  refine lv_icmp_ge (tgt := 105) hx hb dX3_listOrder_63 (by decide) (fun c9 => ?_) (fun c9 => ?_)
  · rw [if_pos c9] at h
    refine lv_aload_n hx hb dX3_listOrder_105 rfl (lv_at hl 0 rfl) ?_
    refine va_get (D := D) (ci := 3) (v := .ref (ad 40)) (C := RX3) (T := TX3) (N := 20) hx hb hts u9_wsX3_listOrder_X3 hown hK hP 32 rfl rfl 7 (by decide) (hts (.fieldLink RX3 33 "TurnedFloors$Paper" "turnedOrders" "[I") f9_wsX3_listOrder_723) (fun _ h9 => h9) rfl dX3_listOrder_106 ?_
    refine lv_iload_n hx hb dX3_listOrder_109 rfl (lv_at hl 1 rfl) ?_
    refine lv_bipush (v := 6) hx hb dX3_listOrder_110 (by decide) ?_
    refine lv_imul hx hb dX3_listOrder_112 ?_
    refine lv_iload_n hx hb dX3_listOrder_113 rfl (lv_at hl 2 rfl) ?_
    refine lv_iadd hx hb dX3_listOrder_114 ?_
    refine lv_iconst (v := 1) hx hb dX3_listOrder_115 (by decide) ?_
    refine lv_isub hx hb dX3_listOrder_116 ?_
    refine lv_aload_n hx hb dX3_listOrder_117 rfl (lv_at hl 0 rfl) ?_
    obtain ⟨r1, q3, h2, h⟩ := dB_some h
    refine dw_ki (va_runV (As := []) (rest := [.int (((x1 * 6 : Int32) + x2) - 1 : Int32), .ref (ad 40)]) ⟨hx, hb, hml, hown, hts⟩ (qX3_numberOfOrder_s32 l D ty eo _ ad q  r1 q3 h2) (cwV 0 hts gX3_listOrder_X3_numberOfOrder rfl rfl rfl (by decide +kernel) ⟨Nat.le_of_ble_eq_true rfl, Nat.le_of_ble_eq_true rfl⟩) (dw_preV (ci := 3) (q0 := 32) hK hN hE hP hD hS hA rfl rfl) rfl rfl hl.1 rfl (lv_room (Nat.le_of_ble_eq_true rfl)) dX3_listOrder_118 ⟨Nat.le_of_ble_eq_true rfl, Nat.le_of_ble_eq_true rfl⟩) hD hS hA (fun r9 u9 H locs hw hp hd hs => ?_)
    clear hP hD hS
    obtain ⟨rfl, rfl⟩ := hw
    have hP := hp; have hD := hd; have hS := hs; clear hp hd hs
    obtain ⟨g4, h⟩ := dG_some h
    refine va_iast hx hb hK hP hD hS 40 0 rfl rfl (dg_in g4) dX3_listOrder_121 (fun H locs hp hd hs => ?_)
    obtain ⟨q5, eq5, h⟩ := dL_some h
    refine kz_re (w2 := wF ty ad q5) hp hd hs (by rw [← eq5]; exact wF_a40 ty ad q3 (Int32.toNatClampNeg (((x1 * 6 : Int32) + x2) - 1 : Int32)) r1) ?_
    clear hp hd hs hP hD hS
    intro hP hD hS
    refine lv_iinc (v := x2 + 1) (lv' := [(2, .int (x2 + 1)), (0, .ref (ad 32)), (1, .int x1), (3, .int x3), (4, .int x4)]) hx hb dX3_listOrder_122 hl (k := 2) rfl rfl (by decide) rfl (fun ls hl => ?_)
    refine lv_goto (tgt := 40) hx hb dX3_listOrder_125 (by decide) ?_
    exact hk40 _ _ _ _ _ _ h hP hD hS (lv_sub hl [1, 2, 0] rfl)
  · rw [if_neg c9] at h
    refine lv_aload_n hx hb dX3_listOrder_66 rfl (lv_at hl 0 rfl) ?_
    refine va_get (D := D) (ci := 3) (v := .ref (ad 34)) (C := RX3) (T := TX3) (N := 20) hx hb hts u9_wsX3_listOrder_X3 hown hK hP 32 rfl rfl 1 (by decide) (hts (.fieldLink RX3 15 "TurnedFloors$Paper" "digits" "[I") f9_wsX3_listOrder_724) (fun _ h9 => h9) rfl dX3_listOrder_67 ?_
    refine lv_iload_n hx hb dX3_listOrder_70 rfl (lv_at hl 3 rfl) ?_
    obtain ⟨g6, h⟩ := dG_some h
    refine va_iald hx hb hK hP 34 0 rfl rfl (dg_in g6) dX3_listOrder_71 ?_
    obtain ⟨v7, ev7, h⟩ := dL_some h
    refine kz_topi v7 ev7 ?_
    refine lv_istore (lv' := [(5, .int v7), (0, .ref (ad 32)), (1, .int x1), (2, .int x2), (3, .int x3), (4, .int x4)]) hx hb dX3_listOrder_72 hl (by decide) rfl (fun ls hl => ?_)
    refine lv_aload_n hx hb dX3_listOrder_74 rfl (lv_at hl 1 rfl) ?_
    refine va_get (D := D) (ci := 3) (v := .ref (ad 34)) (C := RX3) (T := TX3) (N := 20) hx hb hts u9_wsX3_listOrder_X3 hown hK hP 32 rfl rfl 1 (by decide) (hts (.fieldLink RX3 15 "TurnedFloors$Paper" "digits" "[I") f9_wsX3_listOrder_724) (fun _ h9 => h9) rfl dX3_listOrder_75 ?_
    refine lv_iload_n hx hb dX3_listOrder_78 rfl (lv_at hl 4 rfl) ?_
    refine lv_aload_n hx hb dX3_listOrder_79 rfl (lv_at hl 1 rfl) ?_
    refine va_get (D := D) (ci := 3) (v := .ref (ad 34)) (C := RX3) (T := TX3) (N := 20) hx hb hts u9_wsX3_listOrder_X3 hown hK hP 32 rfl rfl 1 (by decide) (hts (.fieldLink RX3 15 "TurnedFloors$Paper" "digits" "[I") f9_wsX3_listOrder_724) (fun _ h9 => h9) rfl dX3_listOrder_80 ?_
    refine lv_iload hx hb dX3_listOrder_83 (lv_at hl 5 rfl) ?_
    obtain ⟨g8, h⟩ := dG_some h
    refine va_iald hx hb hK hP 34 0 rfl rfl (dg_in g8) dX3_listOrder_85 ?_
    obtain ⟨v9, ev9, h⟩ := dL_some h
    refine kz_topi v9 ev9 ?_
    obtain ⟨g10, h⟩ := dG_some h
    refine va_iast hx hb hK hP hD hS 34 0 rfl rfl (dg_in g10) dX3_listOrder_86 (fun H locs hp hd hs => ?_)
    obtain ⟨q11, eq11, h⟩ := dL_some h
    refine kz_re (w2 := wF ty ad q11) hp hd hs (by rw [← eq11]; exact wF_a34 ty ad q (Int32.toNatClampNeg x3) v9) ?_
    clear hp hd hs hP hD hS
    intro hP hD hS
    refine lv_aload_n hx hb dX3_listOrder_87 rfl (lv_at hl 1 rfl) ?_
    refine va_get (D := D) (ci := 3) (v := .ref (ad 34)) (C := RX3) (T := TX3) (N := 20) hx hb hts u9_wsX3_listOrder_X3 hown hK hP 32 rfl rfl 1 (by decide) (hts (.fieldLink RX3 15 "TurnedFloors$Paper" "digits" "[I") f9_wsX3_listOrder_724) (fun _ h9 => h9) rfl dX3_listOrder_88 ?_
    refine lv_iload hx hb dX3_listOrder_91 (lv_at hl 5 rfl) ?_
    refine lv_iload hx hb dX3_listOrder_93 (lv_at hl 0 rfl) ?_
    obtain ⟨g12, h⟩ := dG_some h
    refine va_iast hx hb hK hP hD hS 34 0 rfl rfl (dg_in g12) dX3_listOrder_95 (fun H locs hp hd hs => ?_)
    obtain ⟨q13, eq13, h⟩ := dL_some h
    refine kz_re (w2 := wF ty ad q13) hp hd hs (by rw [← eq13]; exact wF_a34 ty ad q11 (Int32.toNatClampNeg x4) v7) ?_
    clear hp hd hs hP hD hS
    intro hP hD hS
    refine lv_iinc (v := x3 + 1) (lv' := [(3, .int (x3 + 1)), (5, .int v7), (0, .ref (ad 32)), (1, .int x1), (2, .int x2), (4, .int x4)]) hx hb dX3_listOrder_96 hl (k := 4) rfl rfl (by decide) rfl (fun ls hl => ?_)
    refine lv_iinc (v := x4 + (-1)) (lv' := [(4, .int (x4 + (-1))), (3, .int (x3 + 1)), (5, .int v7), (0, .ref (ad 32)), (1, .int x1), (2, .int x2)]) hx hb dX3_listOrder_99 hl (k := 5) rfl rfl (by decide) rfl (fun ls hl => ?_)
    refine lv_goto (tgt := 60) hx hb dX3_listOrder_102 (by decide) ?_
    exact hk60 _ _ _ _ _ _ _ _ h hP hD hS (lv_sub hl [3, 4, 5, 1, 0] rfl)
set_option maxHeartbeats 4000000 in
set_option maxRecDepth 100000 in
theorem WX3_listOrder_s32_60 {p : Program} {l : Launch} {e : Env} {s : State} {m : MethodId} {args : Array Value} {below : List Frame} {meth : Method} {c : Code} {D : va_G} {ty : Nat → ClassId} {eo : Nat → Nat} {A : Nat → Prop} {ad : Nat → Nat} {o2 : dK} (C : dc_C p s m args meth c cX3_listOrder none 6 RX3 wsX3_listOrder D ty eo A) {k40 : dK → Int32 → Int32 → Option (dK)} (hk40 : ∀ (q : dK) (x1 : Int32) (x2 : Int32) (H : Heap) (locs : List Loc) (ls : Array Slot), k40 q x1 x2 = some o2 → va_P D vwCl (wF ty ad q) H → va_D A (wF ty ad q) → va_S A s.heap H locs → lv_has ls 6 [(0, .ref (ad 32)), (1, .int x1), (2, .int x2)] → W p l e ({ frames := 2, cells := 0, slots := 0, locals := 44 } : Room) s m args below meth c H locs 0 0 (MQ below (va_Qv (fun (u : va_W) => wF ty ad o2 = u) (kz_B D ty A) A) args s 0 0 A) (F0 m 40 ls [])) (n : Nat) (q : dK) (x1 : Int32) (x2 : Int32) (x3 : Int32) (x4 : Int32) (H : Heap) (locs : List Loc) (ls : Array Slot) (h : zX3_listOrder_s32_60 k40 n q x1 x2 x3 x4 = some o2) (hP : va_P D vwCl (wF ty ad q) H) (hD : va_D A (wF ty ad q)) (hS : va_S A s.heap H locs) (hl : lv_has ls 6 [(0, .ref (ad 32)), (1, .int x1), (2, .int x2), (3, .int x3), (4, .int x4)]) : W p l e ({ frames := 2, cells := 0, slots := 0, locals := 44 } : Room) s m args below meth c H locs 0 0 (MQ below (va_Qv (fun (u : va_W) => wF ty ad o2 = u) (kz_B D ty A) A) args s 0 0 A) (F0 m 60 ls []) := by
  exact dFix_W (F := fun k (a : dK × Int32 × Int32 × Int32 × Int32) => zX3_listOrder_s32_60b k40 (fun q x1 x2 x3 x4 => k (q, x1, x2, x3, x4)) a.1 a.2.1 a.2.2.1 a.2.2.2.1 a.2.2.2.2) (o := o2) (P := fun (a : dK × Int32 × Int32 × Int32 × Int32) H locs ls => va_P D vwCl (wF ty ad a.1) H ∧ va_D A (wF ty ad a.1) ∧ va_S A s.heap H locs ∧ lv_has ls 6 [(0, .ref (ad 32)), (1, .int a.2.1), (2, .int a.2.2.1), (3, .int a.2.2.2.1), (4, .int a.2.2.2.2)]) (G := fun H locs ls => W p l e ({ frames := 2, cells := 0, slots := 0, locals := 44 } : Room) s m args below meth c H locs 0 0 (MQ below (va_Qv (fun (u : va_W) => wF ty ad o2 = u) (kz_B D ty A) A) args s 0 0 A) (F0 m 60 ls []))
    (fun k hk a H locs ls h hp => WX3_listOrder_s32_60b C hk40 (fun q x1 x2 x3 x4 H locs ls h h1 h2 h3 h4 => hk (q, x1, x2, x3, x4) H locs ls h ⟨h1, h2, h3, h4⟩) a.1 a.2.1 a.2.2.1 a.2.2.2.1 a.2.2.2.2 H locs ls h hp.1 hp.2.1 hp.2.2.1 hp.2.2.2) n (q, x1, x2, x3, x4) H locs ls h ⟨hP, hD, hS, hl⟩
set_option maxHeartbeats 4000000 in
set_option maxRecDepth 100000 in
theorem WX3_listOrder_s32_40b {p : Program} {l : Launch} {e : Env} {s : State} {m : MethodId} {args : Array Value} {below : List Frame} {meth : Method} {c : Code} {D : va_G} {ty : Nat → ClassId} {eo : Nat → Nat} {A : Nat → Prop} {ad : Nat → Nat} {o2 : dK} (C : dc_C p s m args meth c cX3_listOrder none 6 RX3 wsX3_listOrder D ty eo A) {k40 : dK → Int32 → Int32 → Option (dK)} (hk40 : ∀ (q : dK) (x1 : Int32) (x2 : Int32) (H : Heap) (locs : List Loc) (ls : Array Slot), k40 q x1 x2 = some o2 → va_P D vwCl (wF ty ad q) H → va_D A (wF ty ad q) → va_S A s.heap H locs → lv_has ls 6 [(0, .ref (ad 32)), (1, .int x1), (2, .int x2)] → W p l e ({ frames := 2, cells := 0, slots := 0, locals := 44 } : Room) s m args below meth c H locs 0 0 (MQ below (va_Qv (fun (u : va_W) => wF ty ad o2 = u) (kz_B D ty A) A) args s 0 0 A) (F0 m 40 ls [])) (q : dK) (x1 : Int32) (x2 : Int32) (H : Heap) (locs : List Loc) (ls : Array Slot) (h : zX3_listOrder_s32_40b k40 q x1 x2 = some o2) (hP : va_P D vwCl (wF ty ad q) H) (hD : va_D A (wF ty ad q)) (hS : va_S A s.heap H locs) (hl : lv_has ls 6 [(0, .ref (ad 32)), (1, .int x1), (2, .int x2)]) : W p l e ({ frames := 2, cells := 0, slots := 0, locals := 44 } : Room) s m args below meth c H locs 0 0 (MQ below (va_Qv (fun (u : va_W) => wF ty ad o2 = u) (kz_B D ty A) A) args s 0 0 A) (F0 m 40 ls []) := by
  have C0 := C
  obtain ⟨hx, hb, hr, hts, hown, hlocks, hml, hK, hN, hE, hA⟩ := C
  unfold zX3_listOrder_s32_40b at h
  refine lv_iload_n hx hb dX3_listOrder_40 rfl (lv_at hl 2 rfl) ?_
  refine lv_aload_n hx hb dX3_listOrder_41 rfl (lv_at hl 0 rfl) ?_
  refine va_get (D := D) (ci := 3) (v := .int (q.1 32 13)) (C := RX3) (T := TX3) (N := 20) hx hb hts u9_wsX3_listOrder_X3 hown hK hP 32 rfl rfl 13 (by decide) (hts (.fieldLink RX3 51 "TurnedFloors$Paper" "floors" "I") f9_wsX3_listOrder_725) (fun _ h9 => h9) rfl dX3_listOrder_42 ?_
  refine lv_icmp_gt (tgt := 128) hx hb dX3_listOrder_45 (by decide) (fun c9 => ?_) (fun c9 => ?_)
  · rw [if_pos c9] at h
    cases h
    exact kz_vret hx hb hr hlocks hP hK hD hS dX3_listOrder_128 rfl
  · rw [if_neg c9] at h
    refine lv_aload_n hx hb dX3_listOrder_48 rfl (lv_at hl 0 rfl) ?_
    refine lv_iload_n hx hb dX3_listOrder_49 rfl (lv_at hl 1 rfl) ?_
    obtain ⟨q3, h2, h⟩ := dV_some h
    refine dw_kv (va_runV (As := [.int x1]) (rest := []) ⟨hx, hb, hml, hown, hts⟩ (qX3_setDigits_s32 l D ty eo _ ad q x1 q3 h2) (cwV 1 hts gX3_listOrder_X3_setDigits rfl rfl rfl (by decide +kernel) ⟨Nat.le_of_ble_eq_true rfl, Nat.le_of_ble_eq_true rfl⟩) (dw_preV (ci := 3) (q0 := 32) hK hN hE hP hD hS hA rfl rfl) rfl rfl hl.1 rfl (lv_room (Nat.le_of_ble_eq_true rfl)) dX3_listOrder_50 ⟨Nat.le_of_ble_eq_true rfl, Nat.le_of_ble_eq_true rfl⟩) hD hS hA (fun u9 H locs hw hp hd hs => ?_)
    clear hP hD hS
    obtain rfl := hw
    have hP := hp; have hD := hd; have hS := hs; clear hp hd hs
    refine lv_iconst (v := 0) hx hb dX3_listOrder_53 (by decide) ?_
    refine lv_istore_n (lv' := [(3, .int 0), (0, .ref (ad 32)), (1, .int x1), (2, .int x2)]) hx hb dX3_listOrder_54 rfl hl (by decide) rfl (fun ls hl => ?_)
    refine lv_iload_n hx hb dX3_listOrder_55 rfl (lv_at hl 3 rfl) ?_
    refine lv_iconst (v := 1) hx hb dX3_listOrder_56 (by decide) ?_
    refine lv_isub hx hb dX3_listOrder_57 ?_
    refine lv_istore (lv' := [(4, .int (x2 - 1 : Int32)), (3, .int 0), (0, .ref (ad 32)), (1, .int x1), (2, .int x2)]) hx hb dX3_listOrder_58 hl (by decide) rfl (fun ls hl => ?_)
    exact WX3_listOrder_s32_60 C0 hk40 _ _ _ _ _ _ _ _ _ h hP hD hS (lv_sub hl [2, 3, 4, 1, 0] rfl)
set_option maxHeartbeats 4000000 in
set_option maxRecDepth 100000 in
theorem WX3_listOrder_s32_40 {p : Program} {l : Launch} {e : Env} {s : State} {m : MethodId} {args : Array Value} {below : List Frame} {meth : Method} {c : Code} {D : va_G} {ty : Nat → ClassId} {eo : Nat → Nat} {A : Nat → Prop} {ad : Nat → Nat} {o2 : dK} (C : dc_C p s m args meth c cX3_listOrder none 6 RX3 wsX3_listOrder D ty eo A)   (n : Nat) (q : dK) (x1 : Int32) (x2 : Int32) (H : Heap) (locs : List Loc) (ls : Array Slot) (h : zX3_listOrder_s32_40  n q x1 x2 = some o2) (hP : va_P D vwCl (wF ty ad q) H) (hD : va_D A (wF ty ad q)) (hS : va_S A s.heap H locs) (hl : lv_has ls 6 [(0, .ref (ad 32)), (1, .int x1), (2, .int x2)]) : W p l e ({ frames := 2, cells := 0, slots := 0, locals := 44 } : Room) s m args below meth c H locs 0 0 (MQ below (va_Qv (fun (u : va_W) => wF ty ad o2 = u) (kz_B D ty A) A) args s 0 0 A) (F0 m 40 ls []) := by
  exact dFix_W (F := fun k (a : dK × Int32 × Int32) => zX3_listOrder_s32_40b  (fun q x1 x2 => k (q, x1, x2)) a.1 a.2.1 a.2.2) (o := o2) (P := fun (a : dK × Int32 × Int32) H locs ls => va_P D vwCl (wF ty ad a.1) H ∧ va_D A (wF ty ad a.1) ∧ va_S A s.heap H locs ∧ lv_has ls 6 [(0, .ref (ad 32)), (1, .int a.2.1), (2, .int a.2.2)]) (G := fun H locs ls => W p l e ({ frames := 2, cells := 0, slots := 0, locals := 44 } : Room) s m args below meth c H locs 0 0 (MQ below (va_Qv (fun (u : va_W) => wF ty ad o2 = u) (kz_B D ty A) A) args s 0 0 A) (F0 m 40 ls []))
    (fun k hk a H locs ls h hp => WX3_listOrder_s32_40b C  (fun q x1 x2 H locs ls h h1 h2 h3 h4 => hk (q, x1, x2) H locs ls h ⟨h1, h2, h3, h4⟩) a.1 a.2.1 a.2.2 H locs ls h hp.1 hp.2.1 hp.2.2.1 hp.2.2.2) n (q, x1, x2) H locs ls h ⟨hP, hD, hS, hl⟩
set_option maxHeartbeats 4000000 in
set_option maxRecDepth 100000 in
theorem WX3_listOrder_s32_7b {p : Program} {l : Launch} {e : Env} {s : State} {m : MethodId} {args : Array Value} {below : List Frame} {meth : Method} {c : Code} {D : va_G} {ty : Nat → ClassId} {eo : Nat → Nat} {A : Nat → Prop} {ad : Nat → Nat} {o2 : dK} (C : dc_C p s m args meth c cX3_listOrder none 6 RX3 wsX3_listOrder D ty eo A) {k7 : dK → Int32 → Int32 → Option (dK)} (hk7 : ∀ (q : dK) (x1 : Int32) (x2 : Int32) (H : Heap) (locs : List Loc) (ls : Array Slot), k7 q x1 x2 = some o2 → va_P D vwCl (wF ty ad q) H → va_D A (wF ty ad q) → va_S A s.heap H locs → lv_has ls 6 [(0, .ref (ad 32)), (1, .int x1), (2, .int x2)] → W p l e ({ frames := 2, cells := 0, slots := 0, locals := 44 } : Room) s m args below meth c H locs 0 0 (MQ below (va_Qv (fun (u : va_W) => wF ty ad o2 = u) (kz_B D ty A) A) args s 0 0 A) (F0 m 7 ls [])) (q : dK) (x1 : Int32) (x2 : Int32) (H : Heap) (locs : List Loc) (ls : Array Slot) (h : zX3_listOrder_s32_7b k7 q x1 x2 = some o2) (hP : va_P D vwCl (wF ty ad q) H) (hD : va_D A (wF ty ad q)) (hS : va_S A s.heap H locs) (hl : lv_has ls 6 [(0, .ref (ad 32)), (1, .int x1), (2, .int x2)]) : W p l e ({ frames := 2, cells := 0, slots := 0, locals := 44 } : Room) s m args below meth c H locs 0 0 (MQ below (va_Qv (fun (u : va_W) => wF ty ad o2 = u) (kz_B D ty A) A) args s 0 0 A) (F0 m 7 ls []) := by
  have C0 := C
  obtain ⟨hx, hb, hr, hts, hown, hlocks, hml, hK, hN, hE, hA⟩ := C
  unfold zX3_listOrder_s32_7b at h
  refine lv_iload_n hx hb dX3_listOrder_7 rfl (lv_at hl 2 rfl) ?_
  refine lv_bipush (v := 6) hx hb dX3_listOrder_8 (by decide) ?_
  refine lv_icmp_ge (tgt := 38) hx hb dX3_listOrder_10 (by decide) (fun c9 => ?_) (fun c9 => ?_)
  · rw [if_pos c9] at h
    refine lv_iconst (v := 1) hx hb dX3_listOrder_38 (by decide) ?_
    refine lv_istore_n (lv' := [(2, .int 1), (0, .ref (ad 32)), (1, .int x1)]) hx hb dX3_listOrder_39 rfl hl (by decide) rfl (fun ls hl => ?_)
    exact WX3_listOrder_s32_40 C0  _ _ _ _ _ _ _ h hP hD hS (lv_sub hl [1, 2, 0] rfl)
  · rw [if_neg c9] at h
    refine lv_aload_n hx hb dX3_listOrder_13 rfl (lv_at hl 0 rfl) ?_
    refine va_get (D := D) (ci := 3) (v := .ref (ad 39)) (C := RX3) (T := TX3) (N := 20) hx hb hts u9_wsX3_listOrder_X3 hown hK hP 32 rfl rfl 6 (by decide) (hts (.fieldLink RX3 30 "TurnedFloors$Paper" "orders" "[I") f9_wsX3_listOrder_726) (fun _ h9 => h9) rfl dX3_listOrder_14 ?_
    refine lv_iload_n hx hb dX3_listOrder_17 rfl (lv_at hl 1 rfl) ?_
    refine lv_dup2_11 hx hb dX3_listOrder_18 rfl rfl ?_
    obtain ⟨g1, h⟩ := dG_some h
    refine va_iald hx hb hK hP 39 0 rfl rfl (dg_in g1) dX3_listOrder_19 ?_
    obtain ⟨v2, ev2, h⟩ := dL_some h
    refine kz_topi v2 ev2 ?_
    refine lv_aload_n hx hb dX3_listOrder_20 rfl (lv_at hl 0 rfl) ?_
    refine va_get (D := D) (ci := 3) (v := .ref (ad 34)) (C := RX3) (T := TX3) (N := 20) hx hb hts u9_wsX3_listOrder_X3 hown hK hP 32 rfl rfl 1 (by decide) (hts (.fieldLink RX3 15 "TurnedFloors$Paper" "digits" "[I") f9_wsX3_listOrder_724) (fun _ h9 => h9) rfl dX3_listOrder_21 ?_
    refine lv_iload_n hx hb dX3_listOrder_24 rfl (lv_at hl 2 rfl) ?_
    obtain ⟨g3, h⟩ := dG_some h
    refine va_iald hx hb hK hP 34 0 rfl rfl (dg_in g3) dX3_listOrder_25 ?_
    obtain ⟨v4, ev4, h⟩ := dL_some h
    refine kz_topi v4 ev4 ?_
    refine lv_iconst (v := 3) hx hb dX3_listOrder_26 (by decide) ?_
    refine lv_iload_n hx hb dX3_listOrder_27 rfl (lv_at hl 2 rfl) ?_
    refine lv_imul hx hb dX3_listOrder_28 ?_
    refine lv_ishl hx hb dX3_listOrder_29 ?_
    refine lv_ior hx hb dX3_listOrder_30 ?_
    obtain ⟨g5, h⟩ := dG_some h
    refine va_iast hx hb hK hP hD hS 39 0 rfl rfl (dg_in g5) dX3_listOrder_31 (fun H locs hp hd hs => ?_)
    obtain ⟨q6, eq6, h⟩ := dL_some h
    refine kz_re (w2 := wF ty ad q6) hp hd hs (by rw [← eq6]; exact wF_a39 ty ad q (Int32.toNatClampNeg x1) (v2 ||| (v4 <<< (((3 * x2 : Int32) : Int32) &&& 31)))) ?_
    clear hp hd hs hP hD hS
    intro hP hD hS
    refine lv_iinc (v := x2 + 1) (lv' := [(2, .int (x2 + 1)), (0, .ref (ad 32)), (1, .int x1)]) hx hb dX3_listOrder_32 hl (k := 2) rfl rfl (by decide) rfl (fun ls hl => ?_)
    refine lv_goto (tgt := 7) hx hb dX3_listOrder_35 (by decide) ?_
    exact hk7 _ _ _ _ _ _ h hP hD hS (lv_sub hl [1, 2, 0] rfl)
set_option maxHeartbeats 4000000 in
set_option maxRecDepth 100000 in
theorem WX3_listOrder_s32_7 {p : Program} {l : Launch} {e : Env} {s : State} {m : MethodId} {args : Array Value} {below : List Frame} {meth : Method} {c : Code} {D : va_G} {ty : Nat → ClassId} {eo : Nat → Nat} {A : Nat → Prop} {ad : Nat → Nat} {o2 : dK} (C : dc_C p s m args meth c cX3_listOrder none 6 RX3 wsX3_listOrder D ty eo A)   (n : Nat) (q : dK) (x1 : Int32) (x2 : Int32) (H : Heap) (locs : List Loc) (ls : Array Slot) (h : zX3_listOrder_s32_7  n q x1 x2 = some o2) (hP : va_P D vwCl (wF ty ad q) H) (hD : va_D A (wF ty ad q)) (hS : va_S A s.heap H locs) (hl : lv_has ls 6 [(0, .ref (ad 32)), (1, .int x1), (2, .int x2)]) : W p l e ({ frames := 2, cells := 0, slots := 0, locals := 44 } : Room) s m args below meth c H locs 0 0 (MQ below (va_Qv (fun (u : va_W) => wF ty ad o2 = u) (kz_B D ty A) A) args s 0 0 A) (F0 m 7 ls []) := by
  exact dFix_W (F := fun k (a : dK × Int32 × Int32) => zX3_listOrder_s32_7b  (fun q x1 x2 => k (q, x1, x2)) a.1 a.2.1 a.2.2) (o := o2) (P := fun (a : dK × Int32 × Int32) H locs ls => va_P D vwCl (wF ty ad a.1) H ∧ va_D A (wF ty ad a.1) ∧ va_S A s.heap H locs ∧ lv_has ls 6 [(0, .ref (ad 32)), (1, .int a.2.1), (2, .int a.2.2)]) (G := fun H locs ls => W p l e ({ frames := 2, cells := 0, slots := 0, locals := 44 } : Room) s m args below meth c H locs 0 0 (MQ below (va_Qv (fun (u : va_W) => wF ty ad o2 = u) (kz_B D ty A) A) args s 0 0 A) (F0 m 7 ls []))
    (fun k hk a H locs ls h hp => WX3_listOrder_s32_7b C  (fun q x1 x2 H locs ls h h1 h2 h3 h4 => hk (q, x1, x2) H locs ls h ⟨h1, h2, h3, h4⟩) a.1 a.2.1 a.2.2 H locs ls h hp.1 hp.2.1 hp.2.2.1 hp.2.2.2) n (q, x1, x2) H locs ls h ⟨hP, hD, hS, hl⟩
set_option maxHeartbeats 4000000 in
set_option maxRecDepth 100000 in
theorem qX3_listOrder_s32 (l : Launch) (D : va_G) (ty : Nat → ClassId) (eo : Nat → Nat) (sz : Nat) (ad : Nat → Nat) (q : dK) (p1 : Int32) (o2 : dK) (h : zX3_listOrder_s32 q p1 = some o2) : Met l yX3_listOrder wsX3_listOrder ({ frames := 2, cells := 0, slots := 0, locals := 44 } : Room) (va_Pc [.ref (ad 32), .int p1] (kz_pre D ty eo (wF ty ad q) sz)) (va_Qv (fun (u : va_W) => wF ty ad o2 = u) (kz_B D ty (va_A (wF ty ad q) sz)) (va_A (wF ty ad q) sz)) 0 0 (va_A (wF ty ad q) sz) := by
  refine Met.ofW (cc := cX3_listOrder) (maxL := 6) (ret := none) (by decide) rfl ?_
  intro p e s m args below meth c s₁ B hml hv
  obtain ⟨rfl, hsz, hP, hK, hD0, hN, hE⟩ := hv
  have hx := B.exec
  have hb := B.bytes
  have hr := B.returns
  have hts := atoms_spec (ws := wsX3_listOrder) B.pre
  have hown : s.vm.findClass RX3 = some m.cls := findClass_of_methodNamed B.named
  have hlocks := B.notSynchronized
  subst hsz
  have hD := hD0.self (sz := s.heap.size)
  generalize hAe : va_A (wF ty ad q) s.heap.size = A at hD hE ⊢
  have hA : ∀ q : Nat, s.heap.size ≤ q → A q := fun q h => by rw [← hAe]; exact Or.inr h
  clear hAe
  have hS : va_S A s.heap s.heap [] := va_S.rf
  have hl := lv_entry ([.ref (ad 32), .int p1]) (n := 6) (Nat.le_of_ble_eq_true rfl)
  rw [lg_entry_eq]
  generalize (lg_sl ([.ref (ad 32), .int p1]) ++ List.replicate (6 - (lg_sl ([.ref (ad 32), .int p1])).length) Slot.unset).toArray = ls at hl ⊢
  have hl : lv_has ls 6 [(0, .ref (ad 32)), (1, .int p1)] := hl
  have C : dc_C p s m _ meth c cX3_listOrder none 6 RX3 wsX3_listOrder D ty eo A := ⟨hx, hb, hr, hts, hown, hlocks, hml, hK, hN, hE, hA⟩
  unfold zX3_listOrder_s32 at h
  refine lv_aload_n hx hb dX3_listOrder_0 rfl (lv_at hl 0 rfl) ?_
  refine lv_iload_n hx hb dX3_listOrder_1 rfl (lv_at hl 1 rfl) ?_
  obtain ⟨q3, h2, h⟩ := dV_some h
  refine dw_kv (va_runV (As := [.int p1]) (rest := []) ⟨hx, hb, hml, hown, hts⟩ (qX3_setDigits_s32 l D ty eo _ ad q p1 q3 h2) (cwV 1 hts gX3_listOrder_X3_setDigits rfl rfl rfl (by decide +kernel) ⟨Nat.le_of_ble_eq_true rfl, Nat.le_of_ble_eq_true rfl⟩) (dw_preV (ci := 3) (q0 := 32) hK hN hE hP hD hS hA rfl rfl) rfl rfl hl.1 rfl (lv_room (Nat.le_of_ble_eq_true rfl)) dX3_listOrder_2 ⟨Nat.le_of_ble_eq_true rfl, Nat.le_of_ble_eq_true rfl⟩) hD hS hA (fun u9 H locs hw hp hd hs => ?_)
  clear hP hD hS
  obtain rfl := hw
  have hP := hp; have hD := hd; have hS := hs; clear hp hd hs
  refine lv_iconst (v := 0) hx hb dX3_listOrder_5 (by decide) ?_
  refine lv_istore_n (lv' := [(2, .int 0), (0, .ref (ad 32)), (1, .int p1)]) hx hb dX3_listOrder_6 rfl hl (by decide) rfl (fun ls hl => ?_)
  exact WX3_listOrder_s32_7 C  _ _ _ _ _ _ _ h hP hD hS (lv_sub hl [1, 2, 0] rfl)

set_option maxHeartbeats 4000000 in
set_option maxRecDepth 100000 in
theorem WX3_headsTurned_4b {p : Program} {l : Launch} {e : Env} {s : State} {m : MethodId} {args : Array Value} {below : List Frame} {meth : Method} {c : Code} {D : va_G} {ty : Nat → ClassId} {eo : Nat → Nat} {A : Nat → Prop} {o1 : Int32} (C : dc_C p s m args meth c cX3_headsTurned (some .int) 4 RX3 wsX3_headsTurned D ty eo A) {k4 : Int32 → Int32 → Int32 → Int32 → Option (Int32)} (hk4 : ∀ (x0 : Int32) (x1 : Int32) (x2 : Int32) (x3 : Int32) (H : Heap) (locs : List Loc) (ls : Array Slot), k4 x0 x1 x2 x3 = some o1 → va_P D vwCl (([] : va_W)) H → va_D A (([] : va_W)) → va_S A s.heap H locs → lv_has ls 4 [(0, .int x0), (1, .int x1), (2, .int x2), (3, .int x3)] → W p l e ({ frames := 0, cells := 0, slots := 0, locals := 0 } : Room) s m args below meth c H locs 0 0 (MQ below (va_Qi (fun (r : Int32) (u : va_W) => o1 = r ∧ ([] : va_W) = u) (kz_B D ty A) A) args s 0 0 A) (F0 m 4 ls [])) (x0 : Int32) (x1 : Int32) (x2 : Int32) (x3 : Int32) (H : Heap) (locs : List Loc) (ls : Array Slot) (h : zX3_headsTurned_4b k4 x0 x1 x2 x3 = some o1) (hP : va_P D vwCl (([] : va_W)) H) (hD : va_D A (([] : va_W))) (hS : va_S A s.heap H locs) (hl : lv_has ls 4 [(0, .int x0), (1, .int x1), (2, .int x2), (3, .int x3)]) : W p l e ({ frames := 0, cells := 0, slots := 0, locals := 0 } : Room) s m args below meth c H locs 0 0 (MQ below (va_Qi (fun (r : Int32) (u : va_W) => o1 = r ∧ ([] : va_W) = u) (kz_B D ty A) A) args s 0 0 A) (F0 m 4 ls []) := by
  have C0 := C
  obtain ⟨hx, hb, hr, hts, hown, hlocks, hml, hK, hN, hE, hA⟩ := C
  unfold zX3_headsTurned_4b at h
  refine lv_iload_n hx hb dX3_headsTurned_4 rfl (lv_at hl 3 rfl) ?_
  refine lv_iload_n hx hb dX3_headsTurned_5 rfl (lv_at hl 1 rfl) ?_
  refine lv_icmp_ge (tgt := 31) hx hb dX3_headsTurned_6 (by decide) (fun c9 => ?_) (fun c9 => ?_)
  · rw [if_pos c9] at h
    refine lv_iload_n hx hb dX3_headsTurned_31 rfl (lv_at hl 0 rfl) ?_
    refine lv_iload_n hx hb dX3_headsTurned_32 rfl (lv_at hl 1 rfl) ?_
    refine lv_ishr hx hb dX3_headsTurned_33 ?_
    refine lv_iload_n hx hb dX3_headsTurned_34 rfl (lv_at hl 1 rfl) ?_
    refine lv_ishl hx hb dX3_headsTurned_35 ?_
    refine lv_iload_n hx hb dX3_headsTurned_36 rfl (lv_at hl 2 rfl) ?_
    refine lv_ior hx hb dX3_headsTurned_37 ?_
    obtain ⟨v1, ev1, h⟩ := dL_some h
    refine kz_topi v1 ev1 ?_
    cases h
    exact kz_iret hx hb hr hlocks hP hK hD hS dX3_headsTurned_38 ⟨rfl, rfl⟩
  · rw [if_neg c9] at h
    refine lv_iload_n hx hb dX3_headsTurned_9 rfl (lv_at hl 2 rfl) ?_
    refine lv_iconst (v := 1) hx hb dX3_headsTurned_10 (by decide) ?_
    refine lv_iload_n hx hb dX3_headsTurned_11 rfl (lv_at hl 0 rfl) ?_
    refine lv_iload_n hx hb dX3_headsTurned_12 rfl (lv_at hl 3 rfl) ?_
    refine lv_ishr hx hb dX3_headsTurned_13 ?_
    refine lv_iconst (v := 1) hx hb dX3_headsTurned_14 (by decide) ?_
    refine lv_iand hx hb dX3_headsTurned_15 ?_
    refine lv_isub hx hb dX3_headsTurned_16 ?_
    refine lv_iload_n hx hb dX3_headsTurned_17 rfl (lv_at hl 1 rfl) ?_
    refine lv_iconst (v := 1) hx hb dX3_headsTurned_18 (by decide) ?_
    refine lv_isub hx hb dX3_headsTurned_19 ?_
    refine lv_iload_n hx hb dX3_headsTurned_20 rfl (lv_at hl 3 rfl) ?_
    refine lv_isub hx hb dX3_headsTurned_21 ?_
    refine lv_ishl hx hb dX3_headsTurned_22 ?_
    obtain ⟨v2, ev2, h⟩ := dL_some h
    refine kz_topi v2 ev2 ?_
    refine lv_ior hx hb dX3_headsTurned_23 ?_
    refine lv_istore_n (lv' := [(2, .int (x2 ||| v2)), (0, .int x0), (1, .int x1), (3, .int x3)]) hx hb dX3_headsTurned_24 rfl hl (by decide) rfl (fun ls hl => ?_)
    refine lv_iinc (v := x3 + 1) (lv' := [(3, .int (x3 + 1)), (2, .int (x2 ||| v2)), (0, .int x0), (1, .int x1)]) hx hb dX3_headsTurned_25 hl (k := 3) rfl rfl (by decide) rfl (fun ls hl => ?_)
    refine lv_goto (tgt := 4) hx hb dX3_headsTurned_28 (by decide) ?_
    exact hk4 _ _ _ _ _ _ _ h hP hD hS (lv_sub hl [2, 3, 1, 0] rfl)
set_option maxHeartbeats 4000000 in
set_option maxRecDepth 100000 in
theorem WX3_headsTurned_4 {p : Program} {l : Launch} {e : Env} {s : State} {m : MethodId} {args : Array Value} {below : List Frame} {meth : Method} {c : Code} {D : va_G} {ty : Nat → ClassId} {eo : Nat → Nat} {A : Nat → Prop} {o1 : Int32} (C : dc_C p s m args meth c cX3_headsTurned (some .int) 4 RX3 wsX3_headsTurned D ty eo A)   (n : Nat) (x0 : Int32) (x1 : Int32) (x2 : Int32) (x3 : Int32) (H : Heap) (locs : List Loc) (ls : Array Slot) (h : zX3_headsTurned_4  n x0 x1 x2 x3 = some o1) (hP : va_P D vwCl (([] : va_W)) H) (hD : va_D A (([] : va_W))) (hS : va_S A s.heap H locs) (hl : lv_has ls 4 [(0, .int x0), (1, .int x1), (2, .int x2), (3, .int x3)]) : W p l e ({ frames := 0, cells := 0, slots := 0, locals := 0 } : Room) s m args below meth c H locs 0 0 (MQ below (va_Qi (fun (r : Int32) (u : va_W) => o1 = r ∧ ([] : va_W) = u) (kz_B D ty A) A) args s 0 0 A) (F0 m 4 ls []) := by
  exact dFix_W (F := fun k (a : Int32 × Int32 × Int32 × Int32) => zX3_headsTurned_4b  (fun x0 x1 x2 x3 => k (x0, x1, x2, x3)) a.1 a.2.1 a.2.2.1 a.2.2.2) (o := o1) (P := fun (a : Int32 × Int32 × Int32 × Int32) H locs ls => va_P D vwCl (([] : va_W)) H ∧ va_D A (([] : va_W)) ∧ va_S A s.heap H locs ∧ lv_has ls 4 [(0, .int a.1), (1, .int a.2.1), (2, .int a.2.2.1), (3, .int a.2.2.2)]) (G := fun H locs ls => W p l e ({ frames := 0, cells := 0, slots := 0, locals := 0 } : Room) s m args below meth c H locs 0 0 (MQ below (va_Qi (fun (r : Int32) (u : va_W) => o1 = r ∧ ([] : va_W) = u) (kz_B D ty A) A) args s 0 0 A) (F0 m 4 ls []))
    (fun k hk a H locs ls h hp => WX3_headsTurned_4b C  (fun x0 x1 x2 x3 H locs ls h h1 h2 h3 h4 => hk (x0, x1, x2, x3) H locs ls h ⟨h1, h2, h3, h4⟩) a.1 a.2.1 a.2.2.1 a.2.2.2 H locs ls h hp.1 hp.2.1 hp.2.2.1 hp.2.2.2) n (x0, x1, x2, x3) H locs ls h ⟨hP, hD, hS, hl⟩
set_option maxHeartbeats 4000000 in
set_option maxRecDepth 100000 in
theorem qX3_headsTurned (l : Launch) (D : va_G) (ty : Nat → ClassId) (eo : Nat → Nat) (sz : Nat) (p1 : Int32) (p2 : Int32) (o1 : Int32) (h : zX3_headsTurned p1 p2 = some o1) : Met l yX3_headsTurned wsX3_headsTurned ({ frames := 0, cells := 0, slots := 0, locals := 0 } : Room) (va_Pc [.int p1, .int p2] (kz_pre D ty eo (([] : va_W)) sz)) (va_Qi (fun (r : Int32) (u : va_W) => o1 = r ∧ ([] : va_W) = u) (kz_B D ty (va_A (([] : va_W)) sz)) (va_A (([] : va_W)) sz)) 0 0 (va_A (([] : va_W)) sz) := by
  refine Met.ofW (cc := cX3_headsTurned) (maxL := 4) (ret := (some .int)) (by decide) rfl ?_
  intro p e s m args below meth c s₁ B hml hv
  obtain ⟨rfl, hsz, hP, hK, hD0, hN, hE⟩ := hv
  have hx := B.exec
  have hb := B.bytes
  have hr := B.returns
  have hts := atoms_spec (ws := wsX3_headsTurned) B.pre
  have hown : s.vm.findClass RX3 = some m.cls := findClass_of_methodNamed B.named
  have hlocks := B.notSynchronized
  subst hsz
  have hD := hD0.self (sz := s.heap.size)
  generalize hAe : va_A (([] : va_W)) s.heap.size = A at hD hE ⊢
  have hA : ∀ q : Nat, s.heap.size ≤ q → A q := fun q h => by rw [← hAe]; exact Or.inr h
  clear hAe
  have hS : va_S A s.heap s.heap [] := va_S.rf
  have hl := lv_entry ([.int p1, .int p2]) (n := 4) (Nat.le_of_ble_eq_true rfl)
  rw [lg_entry_eq]
  generalize (lg_sl ([.int p1, .int p2]) ++ List.replicate (4 - (lg_sl ([.int p1, .int p2])).length) Slot.unset).toArray = ls at hl ⊢
  have hl : lv_has ls 4 [(0, .int p1), (1, .int p2)] := hl
  have C : dc_C p s m _ meth c cX3_headsTurned (some .int) 4 RX3 wsX3_headsTurned D ty eo A := ⟨hx, hb, hr, hts, hown, hlocks, hml, hK, hN, hE, hA⟩
  unfold zX3_headsTurned at h
  refine lv_iconst (v := 0) hx hb dX3_headsTurned_0 (by decide) ?_
  refine lv_istore_n (lv' := [(2, .int 0), (0, .int p1), (1, .int p2)]) hx hb dX3_headsTurned_1 rfl hl (by decide) rfl (fun ls hl => ?_)
  refine lv_iconst (v := 0) hx hb dX3_headsTurned_2 (by decide) ?_
  refine lv_istore_n (lv' := [(3, .int 0), (2, .int 0), (0, .int p1), (1, .int p2)]) hx hb dX3_headsTurned_3 rfl hl (by decide) rfl (fun ls hl => ?_)
  exact WX3_headsTurned_4 C  _ _ _ _ _ _ _ _ h hP hD hS (lv_sub hl [2, 3, 1, 0] rfl)
