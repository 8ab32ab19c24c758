theorem u9_wsX10_tells_X10 : ∀ w ∈ u_ws RX10 TX10 56, w ∈ wsX10_tells := by
  first | exact fun w h => List.mem_cons_of_mem _ (List.mem_append_right _ h) | decide +kernel
theorem f9_wsX10_tells_62 : (Cond.fieldLink RX10 278 "TurnedFloorsModel" "go" "I") ∈ wsX10_tells := by decide +kernel
theorem f9_wsX10_tells_63 : (Cond.fieldLink RX10 288 "TurnedFloorsModel" "broken" "Z") ∈ wsX10_tells := by decide +kernel
theorem f9_wsX10_tells_64 : (Cond.constantLong RX10 339 99) ∈ wsX10_tells := by decide +kernel
theorem f9_wsX10_tells_65 : (Cond.fieldLink RX10 275 "TurnedFloorsModel" "goEnd" "I") ∈ wsX10_tells := by decide +kernel
theorem f9_wsX10_tells_66 : (Cond.fieldLink RX10 28 "TurnedFloorsModel" "kept" "[I") ∈ wsX10_tells := by decide +kernel
theorem f9_wsX10_tells_67 : (Cond.fieldLink RX10 308 "TurnedFloorsModel" "inOrders" "Z") ∈ wsX10_tells := by decide +kernel
theorem u9_wsX10_at_X10 : ∀ w ∈ u_ws RX10 TX10 56, w ∈ wsX10_at := by
  first | exact fun w h => List.mem_cons_of_mem _ (List.mem_append_right _ h) | decide +kernel
theorem f9_wsX10_at_69 : (Cond.fieldLink RX10 28 "TurnedFloorsModel" "kept" "[I") ∈ wsX10_at := by decide +kernel
theorem u9_wsX10_rankBelow_X10 : ∀ w ∈ u_ws RX10 TX10 56, w ∈ wsX10_rankBelow := by
  first | exact fun w h => List.mem_cons_of_mem _ (List.mem_append_right _ h) | decide +kernel
theorem f9_wsX10_rankBelow_71 : (Cond.fieldLink RX10 28 "TurnedFloorsModel" "kept" "[I") ∈ wsX10_rankBelow := by decide +kernel
theorem u9_wsX10_setsTurn_X10 : ∀ w ∈ u_ws RX10 TX10 56, w ∈ wsX10_setsTurn := by
  first | exact fun w h => List.mem_cons_of_mem _ (List.mem_append_right _ h) | decide +kernel
theorem f9_wsX10_setsTurn_73 : (Cond.fieldLink RX10 63 "TurnedFloorsModel" "asked" "[I") ∈ wsX10_setsTurn := by decide +kernel
theorem u9_wsX10_paysNow_X10 : ∀ w ∈ u_ws RX10 TX10 56, w ∈ wsX10_paysNow := by
  first | exact fun w h => List.mem_cons_of_mem _ (List.mem_append_right _ h) | decide +kernel
theorem f9_wsX10_paysNow_75 : (Cond.fieldLink RX10 63 "TurnedFloorsModel" "asked" "[I") ∈ wsX10_paysNow := by decide +kernel
theorem u9_wsX10_asks_X10 : ∀ w ∈ u_ws RX10 TX10 56, w ∈ wsX10_asks := by
  first | exact fun w h => List.mem_cons_of_mem _ (List.mem_append_right _ h) | decide +kernel
theorem f9_wsX10_asks_77 : (Cond.fieldLink RX10 28 "TurnedFloorsModel" "kept" "[I") ∈ wsX10_asks := by decide +kernel
theorem u9_wsX10_terms_X10 : ∀ w ∈ u_ws RX10 TX10 56, w ∈ wsX10_terms := by
  first | exact fun w h => List.mem_cons_of_mem _ (List.mem_append_right _ h) | decide +kernel
theorem f9_wsX10_terms_79 : (Cond.fieldLink RX10 28 "TurnedFloorsModel" "kept" "[I") ∈ wsX10_terms := by decide +kernel
set_option maxHeartbeats 4000000 in
set_option maxRecDepth 100000 in
theorem WX10_testOf_45 {p : Program} {l : Launch} {e : Env} {s : State} {m : MethodId} {args : Array Value} {below : List Frame} {meth : Method} {c : Code} {D : va_G} {ty : Nat → ClassId} {eo : Nat → Nat} {A : Nat → Prop} {ad : Nat → Nat} {o1 : Int32} {o2 : dS} {kV : dS → Int32 → Option (Int32 × dS)} {nV : Nat} (hkV : ∀ (sz : Nat) (q : dS) (p1 : Int32) (o1 : Int32) (o2 : dS), kV q p1 = some (o1, o2) → Met l yX10_testOf wsX10_testOf ({ frames := 44 + 4 * nV, cells := 0, slots := 0, locals := 1210 + 94 * nV } : Room) (va_Pc [.ref (ad 0), .int p1] (kz_pre D ty eo (w10 ty ad q) sz)) (va_Qi (fun (r : Int32) (u : va_W) => o1 = r ∧ w10 ty ad o2 = u) (kz_B D ty (va_A (w10 ty ad q) sz)) (va_A (w10 ty ad q) sz)) 0 0 (va_A (w10 ty ad q) sz)) (C : dc_C p s m args meth c cX10_testOf (some .boolean) 4 RX10 wsX10_testOf D ty eo A) {k6 : dS → Int32 → Int32 → Option (Int32 × dS)} (hk6 : ∀ (q : dS) (x1 : Int32) (x2 : Int32) (H : Heap) (locs : List Loc) (ls : Array Slot), k6 q x1 x2 = some (o1, o2) → va_P D vwCl (w10 ty ad q) H → va_D A (w10 ty ad q) → va_S A s.heap H locs → lv_has ls 4 [(0, .ref (ad 0)), (1, .int x1), (2, .int x2)] → W p l e ({ frames := 44 + 4 * nV + 4, cells := 0, slots := 0, locals := 1210 + 94 * nV + 94 } : Room) s m args below meth c H locs 0 0 (MQ below (va_Qi (fun (r : Int32) (u : va_W) => o1 = r ∧ w10 ty ad o2 = u) (kz_B D ty A) A) args s 0 0 A) (F0 m 6 ls [])) (q : dS) (x1 : Int32) (y0 : Int32) (H : Heap) (locs : List Loc) (ls : Array Slot) (h : zX10_testOf_45 kV k6 q x1 y0 = some (o1, o2)) (hP : va_P D vwCl (w10 ty ad q) H) (hD : va_D A (w10 ty ad q)) (hS : va_S A s.heap H locs) (hl : lv_has ls 4 [(0, .ref (ad 0)), (1, .int x1)]) : W p l e ({ frames := 44 + 4 * nV + 4, cells := 0, slots := 0, locals := 1210 + 94 * nV + 94 } : Room) s m args below meth c H locs 0 0 (MQ below (va_Qi (fun (r : Int32) (u : va_W) => o1 = r ∧ w10 ty ad o2 = u) (kz_B D ty A) A) args s 0 0 A) (F0 m 45 ls [.int y0]) := by
  have C0 := C
  obtain ⟨hx, hb, hr, hts, hown, hlocks, hml, hK, hN, hE, hA⟩ := C
  unfold zX10_testOf_45 at h
  refine lv_istore_n (lv' := [(2, .int y0), (0, .ref (ad 0)), (1, .int x1)]) hx hb dX10_testOf_45 rfl hl (by decide) rfl (fun ls hl => ?_)
  refine lv_goto (tgt := 6) hx hb dX10_testOf_46 (by decide) ?_
  exact hk6 _ _ _ _ _ _ h hP hD hS (lv_sub hl [1, 2, 0] rfl)
set_option maxHeartbeats 4000000 in
set_option maxRecDepth 100000 in
theorem WX10_testOf_40 {p : Program} {l : Launch} {e : Env} {s : State} {m : MethodId} {args : Array Value} {below : List Frame} {meth : Method} {c : Code} {D : va_G} {ty : Nat → ClassId} {eo : Nat → Nat} {A : Nat → Prop} {ad : Nat → Nat} {o1 : Int32} {o2 : dS} {kV : dS → Int32 → Option (Int32 × dS)} {nV : Nat} (hkV : ∀ (sz : Nat) (q : dS) (p1 : Int32) (o1 : Int32) (o2 : dS), kV q p1 = some (o1, o2) → Met l yX10_testOf wsX10_testOf ({ frames := 44 + 4 * nV, cells := 0, slots := 0, locals := 1210 + 94 * nV } : Room) (va_Pc [.ref (ad 0), .int p1] (kz_pre D ty eo (w10 ty ad q) sz)) (va_Qi (fun (r : Int32) (u : va_W) => o1 = r ∧ w10 ty ad o2 = u) (kz_B D ty (va_A (w10 ty ad q) sz)) (va_A (w10 ty ad q) sz)) 0 0 (va_A (w10 ty ad q) sz)) (C : dc_C p s m args meth c cX10_testOf (some .boolean) 4 RX10 wsX10_testOf D ty eo A) {k6 : dS → Int32 → Int32 → Option (Int32 × dS)} (hk6 : ∀ (q : dS) (x1 : Int32) (x2 : Int32) (H : Heap) (locs : List Loc) (ls : Array Slot), k6 q x1 x2 = some (o1, o2) → va_P D vwCl (w10 ty ad q) H → va_D A (w10 ty ad q) → va_S A s.heap H locs → lv_has ls 4 [(0, .ref (ad 0)), (1, .int x1), (2, .int x2)] → W p l e ({ frames := 44 + 4 * nV + 4, cells := 0, slots := 0, locals := 1210 + 94 * nV + 94 } : Room) s m args below meth c H locs 0 0 (MQ below (va_Qi (fun (r : Int32) (u : va_W) => o1 = r ∧ w10 ty ad o2 = u) (kz_B D ty A) A) args s 0 0 A) (F0 m 6 ls [])) (q : dS) (x1 : Int32) (H : Heap) (locs : List Loc) (ls : Array Slot) (h : zX10_testOf_40 kV k6 q x1 = some (o1, o2)) (hP : va_P D vwCl (w10 ty ad q) H) (hD : va_D A (w10 ty ad q)) (hS : va_S A s.heap H locs) (hl : lv_has ls 4 [(0, .ref (ad 0)), (1, .int x1)]) : W p l e ({ frames := 44 + 4 * nV + 4, cells := 0, slots := 0, locals := 1210 + 94 * nV + 94 } : Room) s m args below meth c H locs 0 0 (MQ below (va_Qi (fun (r : Int32) (u : va_W) => o1 = r ∧ w10 ty ad o2 = u) (kz_B D ty A) A) args s 0 0 A) (F0 m 40 ls []) := by
  have C0 := C
  obtain ⟨hx, hb, hr, hts, hown, hlocks, hml, hK, hN, hE, hA⟩ := C
  unfold zX10_testOf_40 at h
  refine lv_iconst (v := 1) hx hb dX10_testOf_40 (by decide) ?_
  refine lv_goto (tgt := 45) hx hb dX10_testOf_41 (by decide) ?_
  exact WX10_testOf_45 hkV C0 hk6 _ _ _ _ _ _ h hP hD hS (lv_sub hl [0, 1] rfl)
set_option maxHeartbeats 4000000 in
set_option maxRecDepth 100000 in
theorem WX10_testOf_28 {p : Program} {l : Launch} {e : Env} {s : State} {m : MethodId} {args : Array Value} {below : List Frame} {meth : Method} {c : Code} {D : va_G} {ty : Nat → ClassId} {eo : Nat → Nat} {A : Nat → Prop} {ad : Nat → Nat} {o1 : Int32} {o2 : dS} {kV : dS → Int32 → Option (Int32 × dS)} {nV : Nat} (hkV : ∀ (sz : Nat) (q : dS) (p1 : Int32) (o1 : Int32) (o2 : dS), kV q p1 = some (o1, o2) → Met l yX10_testOf wsX10_testOf ({ frames := 44 + 4 * nV, cells := 0, slots := 0, locals := 1210 + 94 * nV } : Room) (va_Pc [.ref (ad 0), .int p1] (kz_pre D ty eo (w10 ty ad q) sz)) (va_Qi (fun (r : Int32) (u : va_W) => o1 = r ∧ w10 ty ad o2 = u) (kz_B D ty (va_A (w10 ty ad q) sz)) (va_A (w10 ty ad q) sz)) 0 0 (va_A (w10 ty ad q) sz)) (C : dc_C p s m args meth c cX10_testOf (some .boolean) 4 RX10 wsX10_testOf D ty eo A) {k6 : dS → Int32 → Int32 → Option (Int32 × dS)} (hk6 : ∀ (q : dS) (x1 : Int32) (x2 : Int32) (H : Heap) (locs : List Loc) (ls : Array Slot), k6 q x1 x2 = some (o1, o2) → va_P D vwCl (w10 ty ad q) H → va_D A (w10 ty ad q) → va_S A s.heap H locs → lv_has ls 4 [(0, .ref (ad 0)), (1, .int x1), (2, .int x2)] → W p l e ({ frames := 44 + 4 * nV + 4, cells := 0, slots := 0, locals := 1210 + 94 * nV + 94 } : Room) s m args below meth c H locs 0 0 (MQ below (va_Qi (fun (r : Int32) (u : va_W) => o1 = r ∧ w10 ty ad o2 = u) (kz_B D ty A) A) args s 0 0 A) (F0 m 6 ls [])) (q : dS) (x1 : Int32) (x2 : Int32) (y0 : Int32) (H : Heap) (locs : List Loc) (ls : Array Slot) (h : zX10_testOf_28 kV k6 q x1 x2 y0 = some (o1, o2)) (hP : va_P D vwCl (w10 ty ad q) H) (hD : va_D A (w10 ty ad q)) (hS : va_S A s.heap H locs) (hl : lv_has ls 4 [(0, .ref (ad 0)), (1, .int x1), (2, .int x2)]) : W p l e ({ frames := 44 + 4 * nV + 4, cells := 0, slots := 0, locals := 1210 + 94 * nV + 94 } : Room) s m args below meth c H locs 0 0 (MQ below (va_Qi (fun (r : Int32) (u : va_W) => o1 = r ∧ w10 ty ad o2 = u) (kz_B D ty A) A) args s 0 0 A) (F0 m 28 ls [.int y0, .ref (ad 0)]) := by
  have C0 := C
  obtain ⟨hx, hb, hr, hts, hown, hlocks, hml, hK, hN, hE, hA⟩ := C
  unfold zX10_testOf_28 at h
  obtain ⟨r1, q3, h2, h⟩ := dB_some h
  refine dw_ki (va_runV (As := [.int y0]) (rest := []) ⟨hx, hb, hml, hown, hts⟩ (qX10_bothOf l D ty eo _ ad kV nV hkV q y0 r1 q3 h2) (cwV 1 hts gX10_testOf_X10_bothOf rfl rfl rfl (by decide +kernel) ⟨by dsimp only [headSpec]; omega, by dsimp only [headSpec]; omega⟩) (dw_preV (ci := 10) (q0 := 0) hK hN hE hP hD hS hA rfl rfl) rfl rfl hl.1 rfl (lv_room (Nat.le_of_ble_eq_true rfl)) dX10_testOf_28 ⟨Nat.le_of_ble_eq_true rfl, Nat.le_of_ble_eq_true rfl⟩) hD hS hA (fun r9 u9 H locs hw hp hd hs => ?_)
  clear hP hD hS
  obtain ⟨rfl, rfl⟩ := hw
  have hP := hp; have hD := hd; have hS := hs; clear hp hd hs
  refine lv_istore_n (lv' := [(3, .int r1), (0, .ref (ad 0)), (1, .int x1), (2, .int x2)]) hx hb dX10_testOf_31 rfl hl (by decide) rfl (fun ls hl => ?_)
  refine lv_iload_n hx hb dX10_testOf_32 rfl (lv_at hl 3 rfl) ?_
  refine lv_if_ne (tgt := 40) hx hb dX10_testOf_33 (by decide) (fun c9 => ?_) (fun c9 => ?_)
  · rw [if_neg c9] at h
    exact WX10_testOf_40 hkV C0 hk6 _ _ _ _ _ h hP hD hS (lv_sub hl [1, 2] rfl)
  · rw [if_pos c9] at h
    refine lv_iload_n hx hb dX10_testOf_36 rfl (lv_at hl 0 rfl) ?_
    refine lv_if_eq (tgt := 44) hx hb dX10_testOf_37 (by decide) (fun c9 => ?_) (fun c9 => ?_)
    · rw [if_pos c9] at h
      refine lv_iconst (v := 0) hx hb dX10_testOf_44 (by decide) ?_
      exact WX10_testOf_45 hkV C0 hk6 _ _ _ _ _ _ h hP hD hS (lv_sub hl [1, 2] rfl)
    · rw [if_neg c9] at h
      exact WX10_testOf_40 hkV C0 hk6 _ _ _ _ _ h hP hD hS (lv_sub hl [1, 2] rfl)
set_option maxHeartbeats 4000000 in
set_option maxRecDepth 100000 in
theorem WX10_testOf_27 {p : Program} {l : Launch} {e : Env} {s : State} {m : MethodId} {args : Array Value} {below : List Frame} {meth : Method} {c : Code} {D : va_G} {ty : Nat → ClassId} {eo : Nat → Nat} {A : Nat → Prop} {ad : Nat → Nat} {o1 : Int32} {o2 : dS} {kV : dS → Int32 → Option (Int32 × dS)} {nV : Nat} (hkV : ∀ (sz : Nat) (q : dS) (p1 : Int32) (o1 : Int32) (o2 : dS), kV q p1 = some (o1, o2) → Met l yX10_testOf wsX10_testOf ({ frames := 44 + 4 * nV, cells := 0, slots := 0, locals := 1210 + 94 * nV } : Room) (va_Pc [.ref (ad 0), .int p1] (kz_pre D ty eo (w10 ty ad q) sz)) (va_Qi (fun (r : Int32) (u : va_W) => o1 = r ∧ w10 ty ad o2 = u) (kz_B D ty (va_A (w10 ty ad q) sz)) (va_A (w10 ty ad q) sz)) 0 0 (va_A (w10 ty ad q) sz)) (C : dc_C p s m args meth c cX10_testOf (some .boolean) 4 RX10 wsX10_testOf D ty eo A) {k6 : dS → Int32 → Int32 → Option (Int32 × dS)} (hk6 : ∀ (q : dS) (x1 : Int32) (x2 : Int32) (H : Heap) (locs : List Loc) (ls : Array Slot), k6 q x1 x2 = some (o1, o2) → va_P D vwCl (w10 ty ad q) H → va_D A (w10 ty ad q) → va_S A s.heap H locs → lv_has ls 4 [(0, .ref (ad 0)), (1, .int x1), (2, .int x2)] → W p l e ({ frames := 44 + 4 * nV + 4, cells := 0, slots := 0, locals := 1210 + 94 * nV + 94 } : Room) s m args below meth c H locs 0 0 (MQ below (va_Qi (fun (r : Int32) (u : va_W) => o1 = r ∧ w10 ty ad o2 = u) (kz_B D ty A) A) args s 0 0 A) (F0 m 6 ls [])) (q : dS) (x1 : Int32) (x2 : Int32) (H : Heap) (locs : List Loc) (ls : Array Slot) (h : zX10_testOf_27 kV k6 q x1 x2 = some (o1, o2)) (hP : va_P D vwCl (w10 ty ad q) H) (hD : va_D A (w10 ty ad q)) (hS : va_S A s.heap H locs) (hl : lv_has ls 4 [(0, .ref (ad 0)), (1, .int x1), (2, .int x2)]) : W p l e ({ frames := 44 + 4 * nV + 4, cells := 0, slots := 0, locals := 1210 + 94 * nV + 94 } : Room) s m args below meth c H locs 0 0 (MQ below (va_Qi (fun (r : Int32) (u : va_W) => o1 = r ∧ w10 ty ad o2 = u) (kz_B D ty A) A) args s 0 0 A) (F0 m 27 ls [.ref (ad 0)]) := by
  have C0 := C
  obtain ⟨hx, hb, hr, hts, hown, hlocks, hml, hK, hN, hE, hA⟩ := C
  unfold zX10_testOf_27 at h
  refine lv_iconst (v := 0) hx hb dX10_testOf_27 (by decide) ?_
  exact WX10_testOf_28 hkV C0 hk6 _ _ _ _ _ _ _ h hP hD hS (lv_sub hl [0, 1, 2] rfl)
set_option maxHeartbeats 4000000 in
set_option maxRecDepth 100000 in
theorem WX10_testOf_6b {p : Program} {l : Launch} {e : Env} {s : State} {m : MethodId} {args : Array Value} {below : List Frame} {meth : Method} {c : Code} {D : va_G} {ty : Nat → ClassId} {eo : Nat → Nat} {A : Nat → Prop} {ad : Nat → Nat} {o1 : Int32} {o2 : dS} {kV : dS → Int32 → Option (Int32 × dS)} {nV : Nat} (hkV : ∀ (sz : Nat) (q : dS) (p1 : Int32) (o1 : Int32) (o2 : dS), kV q p1 = some (o1, o2) → Met l yX10_testOf wsX10_testOf ({ frames := 44 + 4 * nV, cells := 0, slots := 0, locals := 1210 + 94 * nV } : Room) (va_Pc [.ref (ad 0), .int p1] (kz_pre D ty eo (w10 ty ad q) sz)) (va_Qi (fun (r : Int32) (u : va_W) => o1 = r ∧ w10 ty ad o2 = u) (kz_B D ty (va_A (w10 ty ad q) sz)) (va_A (w10 ty ad q) sz)) 0 0 (va_A (w10 ty ad q) sz)) (C : dc_C p s m args meth c cX10_testOf (some .boolean) 4 RX10 wsX10_testOf D ty eo A) {k6 : dS → Int32 → Int32 → Option (Int32 × dS)} (hk6 : ∀ (q : dS) (x1 : Int32) (x2 : Int32) (H : Heap) (locs : List Loc) (ls : Array Slot), k6 q x1 x2 = some (o1, o2) → va_P D vwCl (w10 ty ad q) H → va_D A (w10 ty ad q) → va_S A s.heap H locs → lv_has ls 4 [(0, .ref (ad 0)), (1, .int x1), (2, .int x2)] → W p l e ({ frames := 44 + 4 * nV + 4, cells := 0, slots := 0, locals := 1210 + 94 * nV + 94 } : Room) s m args below meth c H locs 0 0 (MQ below (va_Qi (fun (r : Int32) (u : va_W) => o1 = r ∧ w10 ty ad o2 = u) (kz_B D ty A) A) args s 0 0 A) (F0 m 6 ls [])) (q : dS) (x1 : Int32) (x2 : Int32) (H : Heap) (locs : List Loc) (ls : Array Slot) (h : zX10_testOf_6b kV k6 q x1 x2 = some (o1, o2)) (hP : va_P D vwCl (w10 ty ad q) H) (hD : va_D A (w10 ty ad q)) (hS : va_S A s.heap H locs) (hl : lv_has ls 4 [(0, .ref (ad 0)), (1, .int x1), (2, .int x2)]) : W p l e ({ frames := 44 + 4 * nV + 4, cells := 0, slots := 0, locals := 1210 + 94 * nV + 94 } : Room) s m args below meth c H locs 0 0 (MQ below (va_Qi (fun (r : Int32) (u : va_W) => o1 = r ∧ w10 ty ad o2 = u) (kz_B D ty A) A) args s 0 0 A) (F0 m 6 ls []) := by
  have C0 := C
  obtain ⟨hx, hb, hr, hts, hown, hlocks, hml, hK, hN, hE, hA⟩ := C
  unfold zX10_testOf_6b at h
  refine lv_aload_n hx hb dX10_testOf_6 rfl (lv_at hl 0 rfl) ?_
  refine lv_iconst (v := 5) hx hb dX10_testOf_7 (by decide) ?_
  obtain ⟨r1, q3, h2, h⟩ := dB_some h
  refine dw_ki (va_runV (As := [.int 5]) (rest := []) ⟨hx, hb, hml, hown, hts⟩ (qX10_passes0 l D ty eo _ ad q 5 r1 q3 h2) (cwV 1 hts gX10_testOf_X10_passes0 rfl rfl rfl (by decide +kernel) ⟨by dsimp only [headSpec]; omega, by dsimp only [headSpec]; omega⟩) (dw_preV (ci := 10) (q0 := 0) hK hN hE hP hD hS hA rfl rfl) rfl rfl hl.1 rfl (lv_room (Nat.le_of_ble_eq_true rfl)) dX10_testOf_8 ⟨Nat.le_of_ble_eq_true rfl, Nat.le_of_ble_eq_true rfl⟩) hD hS hA (fun r9 u9 H locs hw hp hd hs => ?_)
  clear hP hD hS
  obtain ⟨rfl, rfl⟩ := hw
  have hP := hp; have hD := hd; have hS := hs; clear hp hd hs
  refine lv_if_eq (tgt := 49) hx hb dX10_testOf_11 (by decide) (fun c9 => ?_) (fun c9 => ?_)
  · rw [if_pos c9] at h
    refine lv_iload_n hx hb dX10_testOf_49 rfl (lv_at hl 2 rfl) ?_
    obtain ⟨g4, h⟩ := dG_some h
    cases h
    exact kz_zret hx hb hr hlocks (dbl_nar g4) hP hK hD hS dX10_testOf_50 ⟨rfl, rfl⟩
  · rw [if_neg c9] at h
    refine lv_aload_n hx hb dX10_testOf_14 rfl (lv_at hl 0 rfl) ?_
    refine lv_iload_n hx hb dX10_testOf_15 rfl (lv_at hl 1 rfl) ?_
    refine lv_if_eq (tgt := 27) hx hb dX10_testOf_16 (by decide) (fun c9 => ?_) (fun c9 => ?_)
    · rw [if_pos c9] at h
      exact WX10_testOf_27 hkV C0 hk6 _ _ _ _ _ _ h hP hD hS (lv_sub hl [0, 1, 2] rfl)
    · rw [if_neg c9] at h
      refine lv_iload_n hx hb dX10_testOf_19 rfl (lv_at hl 2 rfl) ?_
      refine lv_if_ne (tgt := 27) hx hb dX10_testOf_20 (by decide) (fun c9 => ?_) (fun c9 => ?_)
      · rw [if_neg c9] at h
        exact WX10_testOf_27 hkV C0 hk6 _ _ _ _ _ _ h hP hD hS (lv_sub hl [0, 1, 2] rfl)
      · rw [if_pos c9] at h
        refine lv_iconst (v := 1) hx hb dX10_testOf_23 (by decide) ?_
        refine lv_goto (tgt := 28) hx hb dX10_testOf_24 (by decide) ?_
        exact WX10_testOf_28 hkV C0 hk6 _ _ _ _ _ _ _ h hP hD hS (lv_sub hl [0, 1, 2] rfl)
set_option maxHeartbeats 4000000 in
set_option maxRecDepth 100000 in
theorem WX10_testOf_6 {p : Program} {l : Launch} {e : Env} {s : State} {m : MethodId} {args : Array Value} {below : List Frame} {meth : Method} {c : Code} {D : va_G} {ty : Nat → ClassId} {eo : Nat → Nat} {A : Nat → Prop} {ad : Nat → Nat} {o1 : Int32} {o2 : dS} {kV : dS → Int32 → Option (Int32 × dS)} {nV : Nat} (hkV : ∀ (sz : Nat) (q : dS) (p1 : Int32) (o1 : Int32) (o2 : dS), kV q p1 = some (o1, o2) → Met l yX10_testOf wsX10_testOf ({ frames := 44 + 4 * nV, cells := 0, slots := 0, locals := 1210 + 94 * nV } : Room) (va_Pc [.ref (ad 0), .int p1] (kz_pre D ty eo (w10 ty ad q) sz)) (va_Qi (fun (r : Int32) (u : va_W) => o1 = r ∧ w10 ty ad o2 = u) (kz_B D ty (va_A (w10 ty ad q) sz)) (va_A (w10 ty ad q) sz)) 0 0 (va_A (w10 ty ad q) sz)) (C : dc_C p s m args meth c cX10_testOf (some .boolean) 4 RX10 wsX10_testOf D ty eo A)   (n : Nat) (q : dS) (x1 : Int32) (x2 : Int32) (H : Heap) (locs : List Loc) (ls : Array Slot) (h : zX10_testOf_6 kV  n q x1 x2 = some (o1, o2)) (hP : va_P D vwCl (w10 ty ad q) H) (hD : va_D A (w10 ty ad q)) (hS : va_S A s.heap H locs) (hl : lv_has ls 4 [(0, .ref (ad 0)), (1, .int x1), (2, .int x2)]) : W p l e ({ frames := 44 + 4 * nV + 4, cells := 0, slots := 0, locals := 1210 + 94 * nV + 94 } : Room) s m args below meth c H locs 0 0 (MQ below (va_Qi (fun (r : Int32) (u : va_W) => o1 = r ∧ w10 ty ad o2 = u) (kz_B D ty A) A) args s 0 0 A) (F0 m 6 ls []) := by
  exact dFix_W (F := fun k (a : dS × Int32 × Int32) => zX10_testOf_6b kV  (fun q x1 x2 => k (q, x1, x2)) a.1 a.2.1 a.2.2) (o := (o1, o2)) (P := fun (a : dS × Int32 × Int32) H locs ls => va_P D vwCl (w10 ty ad a.1) H ∧ va_D A (w10 ty ad a.1) ∧ va_S A s.heap H locs ∧ lv_has ls 4 [(0, .ref (ad 0)), (1, .int a.2.1), (2, .int a.2.2)]) (G := fun H locs ls => W p l e ({ frames := 44 + 4 * nV + 4, cells := 0, slots := 0, locals := 1210 + 94 * nV + 94 } : Room) s m args below meth c H locs 0 0 (MQ below (va_Qi (fun (r : Int32) (u : va_W) => o1 = r ∧ w10 ty ad o2 = u) (kz_B D ty A) A) args s 0 0 A) (F0 m 6 ls []))
    (fun k hk a H locs ls h hp => WX10_testOf_6b hkV C  (fun q x1 x2 H locs ls h h1 h2 h3 h4 => hk (q, x1, x2) H locs ls h ⟨h1, h2, h3, h4⟩) a.1 a.2.1 a.2.2 H locs ls h hp.1 hp.2.1 hp.2.2.1 hp.2.2.2) n (q, x1, x2) H locs ls h ⟨hP, hD, hS, hl⟩
set_option maxHeartbeats 4000000 in
set_option maxRecDepth 100000 in
theorem qX10_testOf_o (l : Launch) (D : va_G) (ty : Nat → ClassId) (eo : Nat → Nat) (sz : Nat) (ad : Nat → Nat) (kV : dS → Int32 → Option (Int32 × dS)) (nV : Nat) (hkV : ∀ (sz : Nat) (q : dS) (p1 : Int32) (o1 : Int32) (o2 : dS), kV q p1 = some (o1, o2) → Met l yX10_testOf wsX10_testOf ({ frames := 44 + 4 * nV, cells := 0, slots := 0, locals := 1210 + 94 * nV } : Room) (va_Pc [.ref (ad 0), .int p1] (kz_pre D ty eo (w10 ty ad q) sz)) (va_Qi (fun (r : Int32) (u : va_W) => o1 = r ∧ w10 ty ad o2 = u) (kz_B D ty (va_A (w10 ty ad q) sz)) (va_A (w10 ty ad q) sz)) 0 0 (va_A (w10 ty ad q) sz)) (q : dS) (p1 : Int32) (o1 : Int32) (o2 : dS) (h : zX10_testOf_o kV q p1 = some (o1, o2)) : Met l yX10_testOf wsX10_testOf ({ frames := 44 + 4 * nV + 4, cells := 0, slots := 0, locals := 1210 + 94 * nV + 94 } : Room) (va_Pc [.ref (ad 0), .int p1] (kz_pre D ty eo (w10 ty ad q) sz)) (va_Qi (fun (r : Int32) (u : va_W) => o1 = r ∧ w10 ty ad o2 = u) (kz_B D ty (va_A (w10 ty ad q) sz)) (va_A (w10 ty ad q) sz)) 0 0 (va_A (w10 ty ad q) sz) := by
  refine Met.ofW (cc := cX10_testOf) (maxL := 4) (ret := (some .boolean)) (by decide) rfl ?_
  intro p e s m args below meth c s₁ B hml hv
  obtain ⟨rfl, hsz, hP, hK, hD0, hN, hE⟩ := hv
  have hx := B.exec
  have hb := B.bytes
  have hr := B.returns
  have hts := atoms_spec (ws := wsX10_testOf) B.pre
  have hown : s.vm.findClass RX10 = some m.cls := findClass_of_methodNamed B.named
  have hlocks := B.notSynchronized
  subst hsz
  have hD := hD0.self (sz := s.heap.size)
  generalize hAe : va_A (w10 ty ad q) s.heap.size = A at hD hE ⊢
  have hA : ∀ q : Nat, s.heap.size ≤ q → A q := fun q h => by rw [← hAe]; exact Or.inr h
  clear hAe
  have hS : va_S A s.heap s.heap [] := va_S.rf
  have hl := lv_entry ([.ref (ad 0), .int p1]) (n := 4) (Nat.le_of_ble_eq_true rfl)
  rw [lg_entry_eq]
  generalize (lg_sl ([.ref (ad 0), .int p1]) ++ List.replicate (4 - (lg_sl ([.ref (ad 0), .int p1])).length) Slot.unset).toArray = ls at hl ⊢
  have hl : lv_has ls 4 [(0, .ref (ad 0)), (1, .int p1)] := hl
  have C : dc_C p s m _ meth c cX10_testOf (some .boolean) 4 RX10 wsX10_testOf D ty eo A := ⟨hx, hb, hr, hts, hown, hlocks, hml, hK, hN, hE, hA⟩
  unfold zX10_testOf_o at h
  refine lv_aload_n hx hb dX10_testOf_0 rfl (lv_at hl 0 rfl) ?_
  refine lv_iload_n hx hb dX10_testOf_1 rfl (lv_at hl 1 rfl) ?_
  obtain ⟨r1, q3, h2, h⟩ := dB_some h
  refine dw_ki (va_runV (As := [.int p1]) (rest := []) ⟨hx, hb, hml, hown, hts⟩ (qX10_bothOf l D ty eo _ ad kV nV hkV q p1 r1 q3 h2) (cwV 1 hts gX10_testOf_X10_bothOf rfl rfl rfl (by decide +kernel) ⟨by dsimp only [headSpec]; omega, by dsimp only [headSpec]; omega⟩) (dw_preV (ci := 10) (q0 := 0) hK hN hE hP hD hS hA rfl rfl) rfl rfl hl.1 rfl (lv_room (Nat.le_of_ble_eq_true rfl)) dX10_testOf_2 ⟨Nat.le_of_ble_eq_true rfl, Nat.le_of_ble_eq_true rfl⟩) hD hS hA (fun r9 u9 H locs hw hp hd hs => ?_)
  clear hP hD hS
  obtain ⟨rfl, rfl⟩ := hw
  have hP := hp; have hD := hd; have hS := hs; clear hp hd hs
  refine lv_istore_n (lv' := [(2, .int r1), (0, .ref (ad 0)), (1, .int p1)]) hx hb dX10_testOf_5 rfl hl (by decide) rfl (fun ls hl => ?_)
  exact WX10_testOf_6 hkV C  _ _ _ _ _ _ _ h hP hD hS (lv_sub hl [1, 2, 0] rfl)
set_option maxHeartbeats 4000000 in
set_option maxRecDepth 100000 in
theorem qX10_testOf (l : Launch) (D : va_G) (ty : Nat → ClassId) (eo : Nat → Nat) (sz : Nat) (ad : Nat → Nat) (n : Nat) : ∀ (q : dS) (p1 : Int32) (o1 : Int32) (o2 : dS), zX10_testOf n q p1 = some (o1, o2) → Met l yX10_testOf wsX10_testOf ({ frames := 44 + 4 * n, cells := 0, slots := 0, locals := 1210 + 94 * n } : Room) (va_Pc [.ref (ad 0), .int p1] (kz_pre D ty eo (w10 ty ad q) sz)) (va_Qi (fun (r : Int32) (u : va_W) => o1 = r ∧ w10 ty ad o2 = u) (kz_B D ty (va_A (w10 ty ad q) sz)) (va_A (w10 ty ad q) sz)) 0 0 (va_A (w10 ty ad q) sz) := by
  induction n generalizing sz with
  | zero => intro q p1 o1 o2 h; cases h
  | succ n ih =>
    intro q p1 o1 o2 h
    have h2 := qX10_testOf_o l D ty eo sz ad (zX10_testOf n) n (fun sz q p1 o1 o2 h => ih sz q p1 o1 o2 h) q p1 o1 o2 h
    have e : ({ frames := 44 + 4 * n + 4, cells := 0, slots := 0, locals := 1210 + 94 * n + 94 } : Room) = ({ frames := 44 + 4 * (n + 1), cells := 0, slots := 0, locals := 1210 + 94 * (n + 1) } : Room) := by congr 1 <;> omega
    rw [← e]
    exact h2

set_option maxHeartbeats 4000000 in
set_option maxRecDepth 100000 in
theorem WX10_tells_199 {p : Program} {l : Launch} {e : Env} {s : State} {m : MethodId} {args : Array Value} {below : List Frame} {meth : Method} {c : Code} {D : va_G} {ty : Nat → ClassId} {eo : Nat → Nat} {A : Nat → Prop} {ad : Nat → Nat} {o1 : Int32} {o2 : dS} (C : dc_C p s m args meth c cX10_tells (some .int) 10 RX10 wsX10_tells D ty eo A) {k60 : dS → Int32 → Int64 → Option (Int32 × dS)} (hk60 : ∀ (q : dS) (x1 : Int32) (x3 : Int64) (H : Heap) (locs : List Loc) (ls : Array Slot), k60 q x1 x3 = some (o1, o2) → va_P D vwCl (w10 ty ad q) H → va_D A (w10 ty ad q) → va_S A s.heap H locs → lv_has ls 10 [(0, .ref (ad 0)), (1, .int x1), (3, .long x3)] → W p l e ({ frames := 85, cells := 0, slots := 0, locals := 2173 } : Room) s m args below meth c H locs 0 0 (MQ below (va_Qi (fun (r : Int32) (u : va_W) => o1 = r ∧ w10 ty ad o2 = u) (kz_B D ty A) A) args s 0 0 A) (F0 m 60 ls [])) (q : dS) (x1 : Int32) (x3 : Int64) (H : Heap) (locs : List Loc) (ls : Array Slot) (h : zX10_tells_199 k60 q x1 x3 = some (o1, o2)) (hP : va_P D vwCl (w10 ty ad q) H) (hD : va_D A (w10 ty ad q)) (hS : va_S A s.heap H locs) (hl : lv_has ls 10 [(0, .ref (ad 0)), (1, .int x1), (3, .long x3)]) : W p l e ({ frames := 85, cells := 0, slots := 0, locals := 2173 } : Room) s m args below meth c H locs 0 0 (MQ below (va_Qi (fun (r : Int32) (u : va_W) => o1 = r ∧ w10 ty ad o2 = u) (kz_B D ty A) A) args s 0 0 A) (F0 m 199 ls []) := by
  have C0 := C
  obtain ⟨hx, hb, hr, hts, hown, hlocks, hml, hK, hN, hE, hA⟩ := C
  unfold zX10_tells_199 at h
  refine lv_aload_n hx hb dX10_tells_199 rfl (lv_at hl 0 rfl) ?_
  refine lv_dup hx hb dX10_tells_200 rfl ?_
  refine va_get (D := D) (ci := 10) (v := .int (q.1 0 22)) (C := RX10) (T := TX10) (N := 56) hx hb hts u9_wsX10_tells_X10 hown hK hP 0 rfl rfl 22 (by decide) (hts (.fieldLink RX10 278 "TurnedFloorsModel" "go" "I") f9_wsX10_tells_62) (fun _ h9 => h9) rfl dX10_tells_201 ?_
  refine lv_iconst (v := 1) hx hb dX10_tells_204 (by decide) ?_
  refine lv_iadd hx hb dX10_tells_205 ?_
  refine va_put (D := D) (ci := 10) (v := .int ((q.1 0 22) + 1 : Int32)) (ty := .int) (C := RX10) (T := TX10) (N := 56) hx hb hts u9_wsX10_tells_X10 tyX10 tyX10_ok nmX10 hown hK hP hD hS 0 rfl rfl 22 (by decide) (hts (.fieldLink RX10 278 "TurnedFloorsModel" "go" "I") f9_wsX10_tells_62) (fun _ h9 => h9) rfl (by decide +kernel) rfl rfl (Nat.le_of_ble_eq_true rfl) dX10_tells_206 (fun H locs hp hd hs => ?_)
  obtain ⟨q1, eq1, h⟩ := dL_some h
  refine kz_re (w2 := w10 ty ad q1) hp hd hs (by rw [← eq1]; exact w10_f22 ty ad q ((q.1 0 22) + 1 : Int32)) ?_
  clear hp hd hs hP hD hS
  intro hP hD hS
  refine lv_goto (tgt := 60) hx hb dX10_tells_209 (by decide) ?_
  exact hk60 _ _ _ _ _ _ h hP hD hS (lv_sub hl [0, 1, 2] rfl)
set_option maxHeartbeats 4000000 in
set_option maxRecDepth 100000 in
theorem WX10_tells_198 {p : Program} {l : Launch} {e : Env} {s : State} {m : MethodId} {args : Array Value} {below : List Frame} {meth : Method} {c : Code} {D : va_G} {ty : Nat → ClassId} {eo : Nat → Nat} {A : Nat → Prop} {ad : Nat → Nat} {o1 : Int32} {o2 : dS} (C : dc_C p s m args meth c cX10_tells (some .int) 10 RX10 wsX10_tells D ty eo A) {k60 : dS → Int32 → Int64 → Option (Int32 × dS)} (hk60 : ∀ (q : dS) (x1 : Int32) (x3 : Int64) (H : Heap) (locs : List Loc) (ls : Array Slot), k60 q x1 x3 = some (o1, o2) → va_P D vwCl (w10 ty ad q) H → va_D A (w10 ty ad q) → va_S A s.heap H locs → lv_has ls 10 [(0, .ref (ad 0)), (1, .int x1), (3, .long x3)] → W p l e ({ frames := 85, cells := 0, slots := 0, locals := 2173 } : Room) s m args below meth c H locs 0 0 (MQ below (va_Qi (fun (r : Int32) (u : va_W) => o1 = r ∧ w10 ty ad o2 = u) (kz_B D ty A) A) args s 0 0 A) (F0 m 60 ls [])) (q : dS) (x1 : Int32) (y0 : Int64) (H : Heap) (locs : List Loc) (ls : Array Slot) (h : zX10_tells_198 k60 q x1 y0 = some (o1, o2)) (hP : va_P D vwCl (w10 ty ad q) H) (hD : va_D A (w10 ty ad q)) (hS : va_S A s.heap H locs) (hl : lv_has ls 10 [(0, .ref (ad 0)), (1, .int x1)]) : W p l e ({ frames := 85, cells := 0, slots := 0, locals := 2173 } : Room) s m args below meth c H locs 0 0 (MQ below (va_Qi (fun (r : Int32) (u : va_W) => o1 = r ∧ w10 ty ad o2 = u) (kz_B D ty A) A) args s 0 0 A) (F0 m 198 ls [.long y0]) := by
  have C0 := C
  obtain ⟨hx, hb, hr, hts, hown, hlocks, hml, hK, hN, hE, hA⟩ := C
  unfold zX10_tells_198 at h
  refine lv_lstore_n (lv' := [(3, .long y0), (0, .ref (ad 0)), (1, .int x1)]) hx hb dX10_tells_198 rfl hl (by decide) rfl (fun ls hl => ?_)
  exact WX10_tells_199 C0 hk60 _ _ _ _ _ _ h hP hD hS (lv_sub hl [1, 2, 0] rfl)
set_option maxHeartbeats 4000000 in
set_option maxRecDepth 100000 in
theorem WX10_tells_145 {p : Program} {l : Launch} {e : Env} {s : State} {m : MethodId} {args : Array Value} {below : List Frame} {meth : Method} {c : Code} {D : va_G} {ty : Nat → ClassId} {eo : Nat → Nat} {A : Nat → Prop} {ad : Nat → Nat} {o1 : Int32} {o2 : dS} (C : dc_C p s m args meth c cX10_tells (some .int) 10 RX10 wsX10_tells D ty eo A) {k60 : dS → Int32 → Int64 → Option (Int32 × dS)} (hk60 : ∀ (q : dS) (x1 : Int32) (x3 : Int64) (H : Heap) (locs : List Loc) (ls : Array Slot), k60 q x1 x3 = some (o1, o2) → va_P D vwCl (w10 ty ad q) H → va_D A (w10 ty ad q) → va_S A s.heap H locs → lv_has ls 10 [(0, .ref (ad 0)), (1, .int x1), (3, .long x3)] → W p l e ({ frames := 85, cells := 0, slots := 0, locals := 2173 } : Room) s m args below meth c H locs 0 0 (MQ below (va_Qi (fun (r : Int32) (u : va_W) => o1 = r ∧ w10 ty ad o2 = u) (kz_B D ty A) A) args s 0 0 A) (F0 m 60 ls [])) (q : dS) (x1 : Int32) (x3 : Int64) (x5 : Int32) (x6 : Int64) (x8 : Int32) (y0 : Int32) (H : Heap) (locs : List Loc) (ls : Array Slot) (h : zX10_tells_145 k60 q x1 x3 x5 x6 x8 y0 = some (o1, o2)) (hP : va_P D vwCl (w10 ty ad q) H) (hD : va_D A (w10 ty ad q)) (hS : va_S A s.heap H locs) (hl : lv_has ls 10 [(0, .ref (ad 0)), (1, .int x1), (3, .long x3), (5, .int x5), (6, .long x6), (8, .int x8)]) : W p l e ({ frames := 85, cells := 0, slots := 0, locals := 2173 } : Room) s m args below meth c H locs 0 0 (MQ below (va_Qi (fun (r : Int32) (u : va_W) => o1 = r ∧ w10 ty ad o2 = u) (kz_B D ty A) A) args s 0 0 A) (F0 m 145 ls [.int y0]) := by
  have C0 := C
  obtain ⟨hx, hb, hr, hts, hown, hlocks, hml, hK, hN, hE, hA⟩ := C
  unfold zX10_tells_145 at h
  refine lv_istore (lv' := [(9, .int y0), (0, .ref (ad 0)), (1, .int x1), (3, .long x3), (5, .int x5), (6, .long x6), (8, .int x8)]) hx hb dX10_tells_145 hl (by decide) rfl (fun ls hl => ?_)
  refine lv_iload hx hb dX10_tells_147 (lv_at hl 4 rfl) ?_
  refine lv_iload_n hx hb dX10_tells_149 rfl (lv_at hl 2 rfl) ?_
  refine lv_icmp_ne (tgt := 199) hx hb dX10_tells_150 (by decide) (fun c9 => ?_) (fun c9 => ?_)
  · rw [if_neg c9] at h
    exact WX10_tells_199 C0 hk60 _ _ _ _ _ _ h hP hD hS (lv_sub hl [1, 2, 3] rfl)
  · rw [if_pos c9] at h
    refine lv_iload hx hb dX10_tells_153 (lv_at hl 0 rfl) ?_
    refine lv_if_eq (tgt := 199) hx hb dX10_tells_155 (by decide) (fun c9 => ?_) (fun c9 => ?_)
    · rw [if_pos c9] at h
      exact WX10_tells_199 C0 hk60 _ _ _ _ _ _ h hP hD hS (lv_sub hl [1, 2, 3] rfl)
    · rw [if_neg c9] at h
      refine lv_aload_n hx hb dX10_tells_158 rfl (lv_at hl 1 rfl) ?_
      refine va_get (D := D) (ci := 10) (v := .int (q.1 0 24)) (C := RX10) (T := TX10) (N := 56) hx hb hts u9_wsX10_tells_X10 hown hK hP 0 rfl rfl 24 (by decide) (hts (.fieldLink RX10 288 "TurnedFloorsModel" "broken" "Z") f9_wsX10_tells_63) (fun _ h9 => h9) rfl dX10_tells_159 ?_
      refine lv_if_ne (tgt := 199) hx hb dX10_tells_162 (by decide) (fun c9 => ?_) (fun c9 => ?_)
      · rw [if_neg c9] at h
        exact WX10_tells_199 C0 hk60 _ _ _ _ _ _ h hP hD hS (lv_sub hl [1, 2, 3] rfl)
      · rw [if_pos c9] at h
        refine lv_iload hx hb dX10_tells_165 (lv_at hl 6 rfl) ?_
        refine lv_if_ne (tgt := 199) hx hb dX10_tells_167 (by decide) (fun c9 => ?_) (fun c9 => ?_)
        · rw [if_neg c9] at h
          exact WX10_tells_199 C0 hk60 _ _ _ _ _ _ h hP hD hS (lv_sub hl [1, 2, 3] rfl)
        · rw [if_pos c9] at h
          refine lv_lload hx hb dX10_tells_170 (lv_at hl 5 rfl) ?_
          refine lv_lconst (v := 0) hx hb dX10_tells_172 (by decide) ?_
          refine W.lcmp hx hb dX10_tells_173 ?_
          refine lv_if_ge (tgt := 181) hx hb dX10_tells_174 (by decide) (fun c9 => ?_) (fun c9 => ?_)
          · rw [if_pos c9] at h
            refine lv_lload hx hb dX10_tells_181 (lv_at hl 5 rfl) ?_
            refine lv_ldc2 (v := 99) hx hb hown (hts (.constantLong RX10 339 99) f9_wsX10_tells_64) dX10_tells_183 ?_
            refine W.lcmp hx hb dX10_tells_186 ?_
            refine lv_if_le (tgt := 196) hx hb dX10_tells_187 (by decide) (fun c9 => ?_) (fun c9 => ?_)
            · rw [if_pos c9] at h
              refine lv_lload hx hb dX10_tells_196 (lv_at hl 5 rfl) ?_
              exact WX10_tells_198 C0 hk60 _ _ _ _ _ _ h hP hD hS (lv_sub hl [1, 2] rfl)
            · rw [if_neg c9] at h
              refine lv_ldc2 (v := 99) hx hb hown (hts (.constantLong RX10 339 99) f9_wsX10_tells_64) dX10_tells_190 ?_
              refine lv_goto (tgt := 198) hx hb dX10_tells_193 (by decide) ?_
              exact WX10_tells_198 C0 hk60 _ _ _ _ _ _ h hP hD hS (lv_sub hl [1, 2] rfl)
          · rw [if_neg c9] at h
            refine lv_lconst (v := 0) hx hb dX10_tells_177 (by decide) ?_
            refine lv_goto (tgt := 198) hx hb dX10_tells_178 (by decide) ?_
            exact WX10_tells_198 C0 hk60 _ _ _ _ _ _ h hP hD hS (lv_sub hl [1, 2] rfl)
set_option maxHeartbeats 4000000 in
set_option maxRecDepth 100000 in
theorem WX10_tells_140 {p : Program} {l : Launch} {e : Env} {s : State} {m : MethodId} {args : Array Value} {below : List Frame} {meth : Method} {c : Code} {D : va_G} {ty : Nat → ClassId} {eo : Nat → Nat} {A : Nat → Prop} {ad : Nat → Nat} {o1 : Int32} {o2 : dS} (C : dc_C p s m args meth c cX10_tells (some .int) 10 RX10 wsX10_tells D ty eo A) {k60 : dS → Int32 → Int64 → Option (Int32 × dS)} (hk60 : ∀ (q : dS) (x1 : Int32) (x3 : Int64) (H : Heap) (locs : List Loc) (ls : Array Slot), k60 q x1 x3 = some (o1, o2) → va_P D vwCl (w10 ty ad q) H → va_D A (w10 ty ad q) → va_S A s.heap H locs → lv_has ls 10 [(0, .ref (ad 0)), (1, .int x1), (3, .long x3)] → W p l e ({ frames := 85, cells := 0, slots := 0, locals := 2173 } : Room) s m args below meth c H locs 0 0 (MQ below (va_Qi (fun (r : Int32) (u : va_W) => o1 = r ∧ w10 ty ad o2 = u) (kz_B D ty A) A) args s 0 0 A) (F0 m 60 ls [])) (q : dS) (x1 : Int32) (x3 : Int64) (x5 : Int32) (x6 : Int64) (x8 : Int32) (H : Heap) (locs : List Loc) (ls : Array Slot) (h : zX10_tells_140 k60 q x1 x3 x5 x6 x8 = some (o1, o2)) (hP : va_P D vwCl (w10 ty ad q) H) (hD : va_D A (w10 ty ad q)) (hS : va_S A s.heap H locs) (hl : lv_has ls 10 [(0, .ref (ad 0)), (1, .int x1), (3, .long x3), (5, .int x5), (6, .long x6), (8, .int x8)]) : W p l e ({ frames := 85, cells := 0, slots := 0, locals := 2173 } : Room) s m args below meth c H locs 0 0 (MQ below (va_Qi (fun (r : Int32) (u : va_W) => o1 = r ∧ w10 ty ad o2 = u) (kz_B D ty A) A) args s 0 0 A) (F0 m 140 ls []) := by
  have C0 := C
  obtain ⟨hx, hb, hr, hts, hown, hlocks, hml, hK, hN, hE, hA⟩ := C
  unfold zX10_tells_140 at h
  refine lv_iconst (v := 1) hx hb dX10_tells_140 (by decide) ?_
  refine lv_goto (tgt := 145) hx hb dX10_tells_141 (by decide) ?_
  exact WX10_tells_145 C0 hk60 _ _ _ _ _ _ _ _ _ _ h hP hD hS (lv_sub hl [0, 1, 2, 3, 4, 5] rfl)
set_option maxHeartbeats 4000000 in
set_option maxRecDepth 100000 in
theorem WX10_tells_111 {p : Program} {l : Launch} {e : Env} {s : State} {m : MethodId} {args : Array Value} {below : List Frame} {meth : Method} {c : Code} {D : va_G} {ty : Nat → ClassId} {eo : Nat → Nat} {A : Nat → Prop} {ad : Nat → Nat} {o1 : Int32} {o2 : dS} (C : dc_C p s m args meth c cX10_tells (some .int) 10 RX10 wsX10_tells D ty eo A) {k60 : dS → Int32 → Int64 → Option (Int32 × dS)} (hk60 : ∀ (q : dS) (x1 : Int32) (x3 : Int64) (H : Heap) (locs : List Loc) (ls : Array Slot), k60 q x1 x3 = some (o1, o2) → va_P D vwCl (w10 ty ad q) H → va_D A (w10 ty ad q) → va_S A s.heap H locs → lv_has ls 10 [(0, .ref (ad 0)), (1, .int x1), (3, .long x3)] → W p l e ({ frames := 85, cells := 0, slots := 0, locals := 2173 } : Room) s m args below meth c H locs 0 0 (MQ below (va_Qi (fun (r : Int32) (u : va_W) => o1 = r ∧ w10 ty ad o2 = u) (kz_B D ty A) A) args s 0 0 A) (F0 m 60 ls [])) (q : dS) (x1 : Int32) (x3 : Int64) (x5 : Int32) (y0 : Int64) (H : Heap) (locs : List Loc) (ls : Array Slot) (h : zX10_tells_111 k60 q x1 x3 x5 y0 = some (o1, o2)) (hP : va_P D vwCl (w10 ty ad q) H) (hD : va_D A (w10 ty ad q)) (hS : va_S A s.heap H locs) (hl : lv_has ls 10 [(0, .ref (ad 0)), (1, .int x1), (3, .long x3), (5, .int x5)]) : W p l e ({ frames := 85, cells := 0, slots := 0, locals := 2173 } : Room) s m args below meth c H locs 0 0 (MQ below (va_Qi (fun (r : Int32) (u : va_W) => o1 = r ∧ w10 ty ad o2 = u) (kz_B D ty A) A) args s 0 0 A) (F0 m 111 ls [.long y0]) := by
  have C0 := C
  obtain ⟨hx, hb, hr, hts, hown, hlocks, hml, hK, hN, hE, hA⟩ := C
  unfold zX10_tells_111 at h
  refine lv_lstore (lv' := [(6, .long y0), (0, .ref (ad 0)), (1, .int x1), (3, .long x3), (5, .int x5)]) hx hb dX10_tells_111 hl (by decide) rfl (fun ls hl => ?_)
  refine lv_aload_n hx hb dX10_tells_113 rfl (lv_at hl 1 rfl) ?_
  refine va_get (D := D) (ci := 10) (v := .int (q.1 0 24)) (C := RX10) (T := TX10) (N := 56) hx hb hts u9_wsX10_tells_X10 hown hK hP 0 rfl rfl 24 (by decide) (hts (.fieldLink RX10 288 "TurnedFloorsModel" "broken" "Z") f9_wsX10_tells_63) (fun _ h9 => h9) rfl dX10_tells_114 ?_
  refine lv_istore (lv' := [(8, .int (q.1 0 24)), (6, .long y0), (0, .ref (ad 0)), (1, .int x1), (3, .long x3), (5, .int x5)]) hx hb dX10_tells_117 hl (by decide) rfl (fun ls hl => ?_)
  refine lv_aload_n hx hb dX10_tells_119 rfl (lv_at hl 2 rfl) ?_
  refine lv_iconst (v := 0) hx hb dX10_tells_120 (by decide) ?_
  refine va_put (D := D) (ci := 10) (v := .int 0) (ty := .boolean) (C := RX10) (T := TX10) (N := 56) hx hb hts u9_wsX10_tells_X10 tyX10 tyX10_ok nmX10 hown hK hP hD hS 0 rfl rfl 24 (by decide) (hts (.fieldLink RX10 288 "TurnedFloorsModel" "broken" "Z") f9_wsX10_tells_63) (fun _ h9 => h9) rfl (by decide +kernel) rfl rfl (Nat.le_of_ble_eq_true rfl) dX10_tells_121 (fun H locs hp hd hs => ?_)
  obtain ⟨q1, eq1, h⟩ := dL_some h
  refine kz_re (w2 := w10 ty ad q1) hp hd hs (by rw [← eq1]; exact w10_f24 ty ad q 0) ?_
  clear hp hd hs hP hD hS
  intro hP hD hS
  refine lv_aload_n hx hb dX10_tells_124 rfl (lv_at hl 2 rfl) ?_
  refine lv_iconst (v := 4) hx hb dX10_tells_125 (by decide) ?_
  obtain ⟨r2, q4, h3, h⟩ := dB_some h
  refine dw_ki (va_runV (As := [.int 4]) (rest := []) ⟨hx, hb, hml, hown, hts⟩ (qX10_passes0 l D ty eo _ ad q1 4 r2 q4 h3) (cwV 1 hts gX10_tells_X10_passes0 rfl rfl rfl (by decide +kernel) ⟨Nat.le_of_ble_eq_true rfl, Nat.le_of_ble_eq_true rfl⟩) (dw_preV (ci := 10) (q0 := 0) hK hN hE hP hD hS hA rfl rfl) rfl rfl hl.1 rfl (lv_room (Nat.le_of_ble_eq_true rfl)) dX10_tells_126 ⟨Nat.le_of_ble_eq_true rfl, Nat.le_of_ble_eq_true rfl⟩) hD hS hA (fun r9 u9 H locs hw hp hd hs => ?_)
  clear hP hD hS
  obtain ⟨rfl, rfl⟩ := hw
  have hP := hp; have hD := hd; have hS := hs; clear hp hd hs
  refine lv_if_eq (tgt := 140) hx hb dX10_tells_129 (by decide) (fun c9 => ?_) (fun c9 => ?_)
  · rw [if_pos c9] at h
    exact WX10_tells_140 C0 hk60 _ _ _ _ _ _ _ _ _ h hP hD hS (lv_sub hl [2, 3, 4, 5, 1, 0] rfl)
  · rw [if_neg c9] at h
    refine lv_aload_n hx hb dX10_tells_132 rfl (lv_at hl 2 rfl) ?_
    refine lv_iconst (v := 1) hx hb dX10_tells_133 (by decide) ?_
    obtain ⟨r5, q7, h6, h⟩ := dB_some h
    refine dw_ki (va_runV (As := [.int 1]) (rest := []) ⟨hx, hb, hml, hown, hts⟩ (qX10_testOf l D ty eo _ ad 10 q4 1 r5 q7 h6) (cwV 1 hts gX10_tells_X10_testOf rfl rfl rfl (by decide +kernel) ⟨Nat.le_of_ble_eq_true rfl, Nat.le_of_ble_eq_true rfl⟩) (dw_preV (ci := 10) (q0 := 0) hK hN hE hP hD hS hA rfl rfl) rfl rfl hl.1 rfl (lv_room (Nat.le_of_ble_eq_true rfl)) dX10_tells_134 ⟨Nat.le_of_ble_eq_true rfl, Nat.le_of_ble_eq_true rfl⟩) hD hS hA (fun r9 u9 H locs hw hp hd hs => ?_)
    clear hP hD hS
    obtain ⟨rfl, rfl⟩ := hw
    have hP := hp; have hD := hd; have hS := hs; clear hp hd hs
    refine lv_if_eq (tgt := 144) hx hb dX10_tells_137 (by decide) (fun c9 => ?_) (fun c9 => ?_)
    · rw [if_pos c9] at h
      refine lv_iconst (v := 0) hx hb dX10_tells_144 (by decide) ?_
      exact WX10_tells_145 C0 hk60 _ _ _ _ _ _ _ _ _ _ h hP hD hS (lv_sub hl [2, 3, 4, 5, 1, 0] rfl)
    · rw [if_neg c9] at h
      exact WX10_tells_140 C0 hk60 _ _ _ _ _ _ _ _ _ h hP hD hS (lv_sub hl [2, 3, 4, 5, 1, 0] rfl)
set_option maxHeartbeats 4000000 in
set_option maxRecDepth 100000 in
theorem WX10_tells_60b {p : Program} {l : Launch} {e : Env} {s : State} {m : MethodId} {args : Array Value} {below : List Frame} {meth : Method} {c : Code} {D : va_G} {ty : Nat → ClassId} {eo : Nat → Nat} {A : Nat → Prop} {ad : Nat → Nat} {o1 : Int32} {o2 : dS} (C : dc_C p s m args meth c cX10_tells (some .int) 10 RX10 wsX10_tells D ty eo A) {k60 : dS → Int32 → Int64 → Option (Int32 × dS)} (hk60 : ∀ (q : dS) (x1 : Int32) (x3 : Int64) (H : Heap) (locs : List Loc) (ls : Array Slot), k60 q x1 x3 = some (o1, o2) → va_P D vwCl (w10 ty ad q) H → va_D A (w10 ty ad q) → va_S A s.heap H locs → lv_has ls 10 [(0, .ref (ad 0)), (1, .int x1), (3, .long x3)] → W p l e ({ frames := 85, cells := 0, slots := 0, locals := 2173 } : Room) s m args below meth c H locs 0 0 (MQ below (va_Qi (fun (r : Int32) (u : va_W) => o1 = r ∧ w10 ty ad o2 = u) (kz_B D ty A) A) args s 0 0 A) (F0 m 60 ls [])) (q : dS) (x1 : Int32) (x3 : Int64) (H : Heap) (locs : List Loc) (ls : Array Slot) (h : zX10_tells_60b k60 q x1 x3 = some (o1, o2)) (hP : va_P D vwCl (w10 ty ad q) H) (hD : va_D A (w10 ty ad q)) (hS : va_S A s.heap H locs) (hl : lv_has ls 10 [(0, .ref (ad 0)), (1, .int x1), (3, .long x3)]) : W p l e ({ frames := 85, cells := 0, slots := 0, locals := 2173 } : Room) s m args below meth c H locs 0 0 (MQ below (va_Qi (fun (r : Int32) (u : va_W) => o1 = r ∧ w10 ty ad o2 = u) (kz_B D ty A) A) args s 0 0 A) (F0 m 60 ls []) := by
  have C0 := C
  obtain ⟨hx, hb, hr, hts, hown, hlocks, hml, hK, hN, hE, hA⟩ := C
  unfold zX10_tells_60b at h
  refine lv_aload_n hx hb dX10_tells_60 rfl (lv_at hl 0 rfl) ?_
  refine va_get (D := D) (ci := 10) (v := .int (q.1 0 22)) (C := RX10) (T := TX10) (N := 56) hx hb hts u9_wsX10_tells_X10 hown hK hP 0 rfl rfl 22 (by decide) (hts (.fieldLink RX10 278 "TurnedFloorsModel" "go" "I") f9_wsX10_tells_62) (fun _ h9 => h9) rfl dX10_tells_61 ?_
  refine lv_aload_n hx hb dX10_tells_64 rfl (lv_at hl 0 rfl) ?_
  refine va_get (D := D) (ci := 10) (v := .int (q.1 0 23)) (C := RX10) (T := TX10) (N := 56) hx hb hts u9_wsX10_tells_X10 hown hK hP 0 rfl rfl 23 (by decide) (hts (.fieldLink RX10 275 "TurnedFloorsModel" "goEnd" "I") f9_wsX10_tells_65) (fun _ h9 => h9) rfl dX10_tells_65 ?_
  refine lv_icmp_ge (tgt := 212) hx hb dX10_tells_68 (by decide) (fun c9 => ?_) (fun c9 => ?_)
  · rw [if_pos c9] at h
    refine lv_lload_n hx hb dX10_tells_212 rfl (lv_at hl 2 rfl) ?_
    refine lv_l2i (v := Int64.toInt32 x3) hx hb dX10_tells_213 rfl ?_
    cases h
    exact kz_iret hx hb hr hlocks hP hK hD hS dX10_tells_214 ⟨rfl, rfl⟩
  · rw [if_neg c9] at h
    refine lv_aload_n hx hb dX10_tells_71 rfl (lv_at hl 0 rfl) ?_
    refine lv_aload_n hx hb dX10_tells_72 rfl (lv_at hl 0 rfl) ?_
    refine va_get (D := D) (ci := 10) (v := .int (q.1 0 22)) (C := RX10) (T := TX10) (N := 56) hx hb hts u9_wsX10_tells_X10 hown hK hP 0 rfl rfl 22 (by decide) (hts (.fieldLink RX10 278 "TurnedFloorsModel" "go" "I") f9_wsX10_tells_62) (fun _ h9 => h9) rfl dX10_tells_73 ?_
    obtain ⟨r1, q3, h2, h⟩ := dB_some h
    refine dw_ki (va_runV (As := [.int (q.1 0 22)]) (rest := []) ⟨hx, hb, hml, hown, hts⟩ (qX10_codeAt l D ty eo _ ad q (q.1 0 22) r1 q3 h2) (cwV 1 hts gX10_tells_X10_codeAt rfl rfl rfl (by decide +kernel) ⟨Nat.le_of_ble_eq_true rfl, Nat.le_of_ble_eq_true rfl⟩) (dw_preV (ci := 10) (q0 := 0) hK hN hE hP hD hS hA rfl rfl) rfl rfl hl.1 rfl (lv_room (Nat.le_of_ble_eq_true rfl)) dX10_tells_76 ⟨Nat.le_of_ble_eq_true rfl, Nat.le_of_ble_eq_true rfl⟩) hD hS hA (fun r9 u9 H locs hw hp hd hs => ?_)
    clear hP hD hS
    obtain ⟨rfl, rfl⟩ := hw
    have hP := hp; have hD := hd; have hS := hs; clear hp hd hs
    refine lv_istore (lv' := [(5, .int r1), (0, .ref (ad 0)), (1, .int x1), (3, .long x3)]) hx hb dX10_tells_79 hl (by decide) rfl (fun ls hl => ?_)
    refine lv_aload_n hx hb dX10_tells_81 rfl (lv_at hl 1 rfl) ?_
    refine lv_iconst (v := 0) hx hb dX10_tells_82 (by decide) ?_
    refine va_put (D := D) (ci := 10) (v := .int 0) (ty := .boolean) (C := RX10) (T := TX10) (N := 56) hx hb hts u9_wsX10_tells_X10 tyX10 tyX10_ok nmX10 hown hK hP hD hS 0 rfl rfl 24 (by decide) (hts (.fieldLink RX10 288 "TurnedFloorsModel" "broken" "Z") f9_wsX10_tells_63) (fun _ h9 => h9) rfl (by decide +kernel) rfl rfl (Nat.le_of_ble_eq_true rfl) dX10_tells_83 (fun H locs hp hd hs => ?_)
    obtain ⟨q4, eq4, h⟩ := dL_some h
    refine kz_re (w2 := w10 ty ad q4) hp hd hs (by rw [← eq4]; exact w10_f24 ty ad q3 0) ?_
    clear hp hd hs hP hD hS
    intro hP hD hS
    refine lv_aload_n hx hb dX10_tells_86 rfl (lv_at hl 1 rfl) ?_
    refine lv_dup hx hb dX10_tells_87 rfl ?_
    refine va_get (D := D) (ci := 10) (v := .int (q4.1 0 22)) (C := RX10) (T := TX10) (N := 56) hx hb hts u9_wsX10_tells_X10 hown hK hP 0 rfl rfl 22 (by decide) (hts (.fieldLink RX10 278 "TurnedFloorsModel" "go" "I") f9_wsX10_tells_62) (fun _ h9 => h9) rfl dX10_tells_88 ?_
    refine lv_iconst (v := 1) hx hb dX10_tells_91 (by decide) ?_
    refine lv_iadd hx hb dX10_tells_92 ?_
    refine va_put (D := D) (ci := 10) (v := .int ((q4.1 0 22) + 1 : Int32)) (ty := .int) (C := RX10) (T := TX10) (N := 56) hx hb hts u9_wsX10_tells_X10 tyX10 tyX10_ok nmX10 hown hK hP hD hS 0 rfl rfl 22 (by decide) (hts (.fieldLink RX10 278 "TurnedFloorsModel" "go" "I") f9_wsX10_tells_62) (fun _ h9 => h9) rfl (by decide +kernel) rfl rfl (Nat.le_of_ble_eq_true rfl) dX10_tells_93 (fun H locs hp hd hs => ?_)
    obtain ⟨q5, eq5, h⟩ := dL_some h
    refine kz_re (w2 := w10 ty ad q5) hp hd hs (by rw [← eq5]; exact w10_f22 ty ad q4 ((q4.1 0 22) + 1 : Int32)) ?_
    clear hp hd hs hP hD hS
    intro hP hD hS
    refine lv_iload hx hb dX10_tells_96 (lv_at hl 0 rfl) ?_
    refine lv_iconst (v := 1) hx hb dX10_tells_98 (by decide) ?_
    refine lv_icmp_ne (tgt := 110) hx hb dX10_tells_99 (by decide) (fun c9 => ?_) (fun c9 => ?_)
    · rw [if_neg c9] at h
      refine lv_lconst (v := 1) hx hb dX10_tells_110 (by decide) ?_
      exact WX10_tells_111 C0 hk60 _ _ _ _ _ _ _ _ h hP hD hS (lv_sub hl [1, 2, 3, 0] rfl)
    · rw [if_pos c9] at h
      refine lv_aload_n hx hb dX10_tells_102 rfl (lv_at hl 1 rfl) ?_
      refine lv_iconst (v := 1) hx hb dX10_tells_103 (by decide) ?_
      obtain ⟨r6, q8, h7, h⟩ := dB_some h
      refine dw_kl (va_runV (As := [.int 1]) (rest := []) ⟨hx, hb, hml, hown, hts⟩ (qX10_sumOf l D ty eo _ ad 10 q5 1 r6 q8 h7) (cwV 1 hts gX10_tells_X10_sumOf rfl rfl rfl (by decide +kernel) ⟨Nat.le_of_ble_eq_true rfl, Nat.le_of_ble_eq_true rfl⟩) (dw_preV (ci := 10) (q0 := 0) hK hN hE hP hD hS hA rfl rfl) rfl rfl hl.1 rfl (lv_room (Nat.le_of_ble_eq_true rfl)) dX10_tells_104 ⟨Nat.le_of_ble_eq_true rfl, Nat.le_of_ble_eq_true rfl⟩) hD hS hA (fun r9 u9 H locs hw hp hd hs => ?_)
      clear hP hD hS
      obtain ⟨rfl, rfl⟩ := hw
      have hP := hp; have hD := hd; have hS := hs; clear hp hd hs
      refine lv_goto (tgt := 111) hx hb dX10_tells_107 (by decide) ?_
      exact WX10_tells_111 C0 hk60 _ _ _ _ _ _ _ _ h hP hD hS (lv_sub hl [1, 2, 3, 0] rfl)
set_option maxHeartbeats 4000000 in
set_option maxRecDepth 100000 in
theorem WX10_tells_60 {p : Program} {l : Launch} {e : Env} {s : State} {m : MethodId} {args : Array Value} {below : List Frame} {meth : Method} {c : Code} {D : va_G} {ty : Nat → ClassId} {eo : Nat → Nat} {A : Nat → Prop} {ad : Nat → Nat} {o1 : Int32} {o2 : dS} (C : dc_C p s m args meth c cX10_tells (some .int) 10 RX10 wsX10_tells D ty eo A)   (n : Nat) (q : dS) (x1 : Int32) (x3 : Int64) (H : Heap) (locs : List Loc) (ls : Array Slot) (h : zX10_tells_60  n q x1 x3 = some (o1, o2)) (hP : va_P D vwCl (w10 ty ad q) H) (hD : va_D A (w10 ty ad q)) (hS : va_S A s.heap H locs) (hl : lv_has ls 10 [(0, .ref (ad 0)), (1, .int x1), (3, .long x3)]) : W p l e ({ frames := 85, cells := 0, slots := 0, locals := 2173 } : Room) s m args below meth c H locs 0 0 (MQ below (va_Qi (fun (r : Int32) (u : va_W) => o1 = r ∧ w10 ty ad o2 = u) (kz_B D ty A) A) args s 0 0 A) (F0 m 60 ls []) := by
  exact dFix_W (F := fun k (a : dS × Int32 × Int64) => zX10_tells_60b  (fun q x1 x3 => k (q, x1, x3)) a.1 a.2.1 a.2.2) (o := (o1, o2)) (P := fun (a : dS × Int32 × Int64) H locs ls => va_P D vwCl (w10 ty ad a.1) H ∧ va_D A (w10 ty ad a.1) ∧ va_S A s.heap H locs ∧ lv_has ls 10 [(0, .ref (ad 0)), (1, .int a.2.1), (3, .long a.2.2)]) (G := fun H locs ls => W p l e ({ frames := 85, cells := 0, slots := 0, locals := 2173 } : Room) s m args below meth c H locs 0 0 (MQ below (va_Qi (fun (r : Int32) (u : va_W) => o1 = r ∧ w10 ty ad o2 = u) (kz_B D ty A) A) args s 0 0 A) (F0 m 60 ls []))
    (fun k hk a H locs ls h hp => WX10_tells_60b C  (fun q x1 x3 H locs ls h h1 h2 h3 h4 => hk (q, x1, x3) H locs ls h ⟨h1, h2, h3, h4⟩) a.1 a.2.1 a.2.2 H locs ls h hp.1 hp.2.1 hp.2.2.1 hp.2.2.2) n (q, x1, x3) H locs ls h ⟨hP, hD, hS, hl⟩
set_option maxHeartbeats 4000000 in
set_option maxRecDepth 100000 in
theorem qX10_tells (l : Launch) (D : va_G) (ty : Nat → ClassId) (eo : Nat → Nat) (sz : Nat) (ad : Nat → Nat) (q : dS) (p1 : Int32) (p2 : Int32) (o1 : Int32) (o2 : dS) (h : zX10_tells q p1 p2 = some (o1, o2)) : Met l yX10_tells wsX10_tells ({ frames := 85, cells := 0, slots := 0, locals := 2173 } : Room) (va_Pc [.ref (ad 0), .int p1, .int p2] (kz_pre D ty eo (w10 ty ad q) sz)) (va_Qi (fun (r : Int32) (u : va_W) => o1 = r ∧ w10 ty ad o2 = u) (kz_B D ty (va_A (w10 ty ad q) sz)) (va_A (w10 ty ad q) sz)) 0 0 (va_A (w10 ty ad q) sz) := by
  refine Met.ofW (cc := cX10_tells) (maxL := 10) (ret := (some .int)) (by decide) rfl ?_
  intro p e s m args below meth c s₁ B hml hv
  obtain ⟨rfl, hsz, hP, hK, hD0, hN, hE⟩ := hv
  have hx := B.exec
  have hb := B.bytes
  have hr := B.returns
  have hts := atoms_spec (ws := wsX10_tells) B.pre
  have hown : s.vm.findClass RX10 = some m.cls := findClass_of_methodNamed B.named
  have hlocks := B.notSynchronized
  subst hsz
  have hD := hD0.self (sz := s.heap.size)
  generalize hAe : va_A (w10 ty ad q) s.heap.size = A at hD hE ⊢
  have hA : ∀ q : Nat, s.heap.size ≤ q → A q := fun q h => by rw [← hAe]; exact Or.inr h
  clear hAe
  have hS : va_S A s.heap s.heap [] := va_S.rf
  have hl := lv_entry ([.ref (ad 0), .int p1, .int p2]) (n := 10) (Nat.le_of_ble_eq_true rfl)
  rw [lg_entry_eq]
  generalize (lg_sl ([.ref (ad 0), .int p1, .int p2]) ++ List.replicate (10 - (lg_sl ([.ref (ad 0), .int p1, .int p2])).length) Slot.unset).toArray = ls at hl ⊢
  have hl : lv_has ls 10 [(0, .ref (ad 0)), (1, .int p1), (2, .int p2)] := hl
  have C : dc_C p s m _ meth c cX10_tells (some .int) 10 RX10 wsX10_tells D ty eo A := ⟨hx, hb, hr, hts, hown, hlocks, hml, hK, hN, hE, hA⟩
  unfold zX10_tells at h
  refine lv_aload_n hx hb dX10_tells_0 rfl (lv_at hl 0 rfl) ?_
  refine va_get (D := D) (ci := 10) (v := .ref (ad 2)) (C := RX10) (T := TX10) (N := 56) hx hb hts u9_wsX10_tells_X10 hown hK hP 0 rfl rfl 2 (by decide) (hts (.fieldLink RX10 28 "TurnedFloorsModel" "kept" "[I") f9_wsX10_tells_66) (fun _ h9 => h9) rfl dX10_tells_1 ?_
  refine lv_bipush (v := 32) hx hb dX10_tells_4 (by decide) ?_
  refine va_iald hx hb hK hP 2 0 rfl rfl (by simp only [vp_in]; decide) dX10_tells_6 ?_
  refine kz_topi (q.1 2 32) (congrArg (q.1 2) (by decide +kernel : Int32.toNatClampNeg 32 = 32)) ?_
  refine lv_iconst (v := (-1)) hx hb dX10_tells_7 (by decide) ?_
  refine lv_icmp_ne (tgt := 13) hx hb dX10_tells_8 (by decide) (fun c9 => ?_) (fun c9 => ?_)
  · rw [if_neg c9] at h
    refine lv_aload_n hx hb dX10_tells_13 rfl (lv_at hl 0 rfl) ?_
    refine lv_iconst (v := 0) hx hb dX10_tells_14 (by decide) ?_
    refine va_put (D := D) (ci := 10) (v := .int 0) (ty := .boolean) (C := RX10) (T := TX10) (N := 56) hx hb hts u9_wsX10_tells_X10 tyX10 tyX10_ok nmX10 hown hK hP hD hS 0 rfl rfl 25 (by decide) (hts (.fieldLink RX10 308 "TurnedFloorsModel" "inOrders" "Z") f9_wsX10_tells_67) (fun _ h9 => h9) rfl (by decide +kernel) rfl rfl (Nat.le_of_ble_eq_true rfl) dX10_tells_15 (fun H locs hp hd hs => ?_)
    obtain ⟨q1, eq1, h⟩ := dL_some h
    refine kz_re (w2 := w10 ty ad q1) hp hd hs (by rw [← eq1]; exact w10_f25 ty ad q 0) ?_
    clear hp hd hs hP hD hS
    intro hP hD hS
    refine lv_iload_n hx hb dX10_tells_18 rfl (lv_at hl 2 rfl) ?_
    refine lv_i2l (v := Int32.toInt64 p2) hx hb dX10_tells_19 rfl ?_
    refine lv_lstore_n (lv' := [(3, .long (Int32.toInt64 p2)), (0, .ref (ad 0)), (1, .int p1), (2, .int p2)]) hx hb dX10_tells_20 rfl hl (by decide) rfl (fun ls hl => ?_)
    refine lv_aload_n hx hb dX10_tells_21 rfl (lv_at hl 1 rfl) ?_
    refine lv_sipush (v := 400) hx hb dX10_tells_22 (by decide) ?_
    refine lv_aload_n hx hb dX10_tells_25 rfl (lv_at hl 1 rfl) ?_
    refine va_get (D := D) (ci := 10) (v := .ref (ad 2)) (C := RX10) (T := TX10) (N := 56) hx hb hts u9_wsX10_tells_X10 hown hK hP 0 rfl rfl 2 (by decide) (hts (.fieldLink RX10 28 "TurnedFloorsModel" "kept" "[I") f9_wsX10_tells_66) (fun _ h9 => h9) rfl dX10_tells_26 ?_
    refine lv_bipush (v := 32) hx hb dX10_tells_29 (by decide) ?_
    refine va_iald hx hb hK hP 2 0 rfl rfl (by simp only [vp_in]; decide) dX10_tells_31 ?_
    refine kz_topi (q1.1 2 32) (congrArg (q1.1 2) (by decide +kernel : Int32.toNatClampNeg 32 = 32)) ?_
    refine lv_imul hx hb dX10_tells_32 ?_
    refine va_put (D := D) (ci := 10) (v := .int (400 * (q1.1 2 32) : Int32)) (ty := .int) (C := RX10) (T := TX10) (N := 56) hx hb hts u9_wsX10_tells_X10 tyX10 tyX10_ok nmX10 hown hK hP hD hS 0 rfl rfl 22 (by decide) (hts (.fieldLink RX10 278 "TurnedFloorsModel" "go" "I") f9_wsX10_tells_62) (fun _ h9 => h9) rfl (by decide +kernel) rfl rfl (Nat.le_of_ble_eq_true rfl) dX10_tells_33 (fun H locs hp hd hs => ?_)
    obtain ⟨q2, eq2, h⟩ := dL_some h
    refine kz_re (w2 := w10 ty ad q2) hp hd hs (by rw [← eq2]; exact w10_f22 ty ad q1 (400 * (q1.1 2 32) : Int32)) ?_
    clear hp hd hs hP hD hS
    intro hP hD hS
    refine lv_aload_n hx hb dX10_tells_36 rfl (lv_at hl 1 rfl) ?_
    refine lv_aload_n hx hb dX10_tells_37 rfl (lv_at hl 1 rfl) ?_
    refine va_get (D := D) (ci := 10) (v := .int (q2.1 0 22)) (C := RX10) (T := TX10) (N := 56) hx hb hts u9_wsX10_tells_X10 hown hK hP 0 rfl rfl 22 (by decide) (hts (.fieldLink RX10 278 "TurnedFloorsModel" "go" "I") f9_wsX10_tells_62) (fun _ h9 => h9) rfl dX10_tells_38 ?_
    refine lv_aload_n hx hb dX10_tells_41 rfl (lv_at hl 1 rfl) ?_
    refine va_get (D := D) (ci := 10) (v := .ref (ad 2)) (C := RX10) (T := TX10) (N := 56) hx hb hts u9_wsX10_tells_X10 hown hK hP 0 rfl rfl 2 (by decide) (hts (.fieldLink RX10 28 "TurnedFloorsModel" "kept" "[I") f9_wsX10_tells_66) (fun _ h9 => h9) rfl dX10_tells_42 ?_
    refine lv_bipush (v := 33) hx hb dX10_tells_45 (by decide) ?_
    refine lv_aload_n hx hb dX10_tells_47 rfl (lv_at hl 1 rfl) ?_
    refine va_get (D := D) (ci := 10) (v := .ref (ad 2)) (C := RX10) (T := TX10) (N := 56) hx hb hts u9_wsX10_tells_X10 hown hK hP 0 rfl rfl 2 (by decide) (hts (.fieldLink RX10 28 "TurnedFloorsModel" "kept" "[I") f9_wsX10_tells_66) (fun _ h9 => h9) rfl dX10_tells_48 ?_
    refine lv_bipush (v := 32) hx hb dX10_tells_51 (by decide) ?_
    refine va_iald hx hb hK hP 2 0 rfl rfl (by simp only [vp_in]; decide) dX10_tells_53 ?_
    refine kz_topi (q2.1 2 32) (congrArg (q2.1 2) (by decide +kernel : Int32.toNatClampNeg 32 = 32)) ?_
    refine lv_iadd hx hb dX10_tells_54 ?_
    obtain ⟨g3, h⟩ := dG_some h
    refine va_iald hx hb hK hP 2 0 rfl rfl (dg_in g3) dX10_tells_55 ?_
    obtain ⟨v4, ev4, h⟩ := dL_some h
    refine kz_topi v4 ev4 ?_
    refine lv_iadd hx hb dX10_tells_56 ?_
    refine va_put (D := D) (ci := 10) (v := .int ((q2.1 0 22) + v4)) (ty := .int) (C := RX10) (T := TX10) (N := 56) hx hb hts u9_wsX10_tells_X10 tyX10 tyX10_ok nmX10 hown hK hP hD hS 0 rfl rfl 23 (by decide) (hts (.fieldLink RX10 275 "TurnedFloorsModel" "goEnd" "I") f9_wsX10_tells_65) (fun _ h9 => h9) rfl (by decide +kernel) rfl rfl (Nat.le_of_ble_eq_true rfl) dX10_tells_57 (fun H locs hp hd hs => ?_)
    obtain ⟨q5, eq5, h⟩ := dL_some h
    refine kz_re (w2 := w10 ty ad q5) hp hd hs (by rw [← eq5]; exact w10_f23 ty ad q2 ((q2.1 0 22) + v4)) ?_
    clear hp hd hs hP hD hS
    intro hP hD hS
    exact WX10_tells_60 C  _ _ _ _ _ _ _ h hP hD hS (lv_sub hl [1, 2, 0] rfl)
  · rw [if_pos c9] at h
    refine lv_iload_n hx hb dX10_tells_11 rfl (lv_at hl 2 rfl) ?_
    cases h
    exact kz_iret hx hb hr hlocks hP hK hD hS dX10_tells_12 ⟨rfl, rfl⟩

set_option maxHeartbeats 4000000 in
set_option maxRecDepth 100000 in
theorem WX10_isNow_15 {p : Program} {l : Launch} {e : Env} {s : State} {m : MethodId} {args : Array Value} {below : List Frame} {meth : Method} {c : Code} {D : va_G} {ty : Nat → ClassId} {eo : Nat → Nat} {A : Nat → Prop} {ad : Nat → Nat} {o1 : Int32} {o2 : dS} (C : dc_C p s m args meth c cX10_isNow (some .boolean) 2 RX10 wsX10_isNow D ty eo A)   (q : dS) (y0 : Int32) (H : Heap) (locs : List Loc) (ls : Array Slot) (h : zX10_isNow_15  q y0 = some (o1, o2)) (hP : va_P D vwCl (w10 ty ad q) H) (hD : va_D A (w10 ty ad q)) (hS : va_S A s.heap H locs) (hl : lv_has ls 2 []) : W p l e ({ frames := 86, cells := 0, slots := 0, locals := 2202 } : Room) s m args below meth c H locs 0 0 (MQ below (va_Qi (fun (r : Int32) (u : va_W) => o1 = r ∧ w10 ty ad o2 = u) (kz_B D ty A) A) args s 0 0 A) (F0 m 15 ls [.int y0]) := by
  have C0 := C
  obtain ⟨hx, hb, hr, hts, hown, hlocks, hml, hK, hN, hE, hA⟩ := C
  unfold zX10_isNow_15 at h
  obtain ⟨g1, h⟩ := dG_some h
  cases h
  exact kz_zret hx hb hr hlocks (dbl_nar g1) hP hK hD hS dX10_isNow_15 ⟨rfl, rfl⟩
set_option maxHeartbeats 4000000 in
set_option maxRecDepth 100000 in
theorem qX10_isNow (l : Launch) (D : va_G) (ty : Nat → ClassId) (eo : Nat → Nat) (sz : Nat) (ad : Nat → Nat) (q : dS) (p1 : Int32) (o1 : Int32) (o2 : dS) (h : zX10_isNow q p1 = some (o1, o2)) : Met l yX10_isNow wsX10_isNow ({ frames := 86, cells := 0, slots := 0, locals := 2202 } : Room) (va_Pc [.ref (ad 0), .int p1] (kz_pre D ty eo (w10 ty ad q) sz)) (va_Qi (fun (r : Int32) (u : va_W) => o1 = r ∧ w10 ty ad o2 = u) (kz_B D ty (va_A (w10 ty ad q) sz)) (va_A (w10 ty ad q) sz)) 0 0 (va_A (w10 ty ad q) sz) := by
  refine Met.ofW (cc := cX10_isNow) (maxL := 2) (ret := (some .boolean)) (by decide) rfl ?_
  intro p e s m args below meth c s₁ B hml hv
  obtain ⟨rfl, hsz, hP, hK, hD0, hN, hE⟩ := hv
  have hx := B.exec
  have hb := B.bytes
  have hr := B.returns
  have hts := atoms_spec (ws := wsX10_isNow) B.pre
  have hown : s.vm.findClass RX10 = some m.cls := findClass_of_methodNamed B.named
  have hlocks := B.notSynchronized
  subst hsz
  have hD := hD0.self (sz := s.heap.size)
  generalize hAe : va_A (w10 ty ad q) s.heap.size = A at hD hE ⊢
  have hA : ∀ q : Nat, s.heap.size ≤ q → A q := fun q h => by rw [← hAe]; exact Or.inr h
  clear hAe
  have hS : va_S A s.heap s.heap [] := va_S.rf
  have hl := lv_entry ([.ref (ad 0), .int p1]) (n := 2) (Nat.le_of_ble_eq_true rfl)
  rw [lg_entry_eq]
  generalize (lg_sl ([.ref (ad 0), .int p1]) ++ List.replicate (2 - (lg_sl ([.ref (ad 0), .int p1])).length) Slot.unset).toArray = ls at hl ⊢
  have hl : lv_has ls 2 [(0, .ref (ad 0)), (1, .int p1)] := hl
  have C : dc_C p s m _ meth c cX10_isNow (some .boolean) 2 RX10 wsX10_isNow D ty eo A := ⟨hx, hb, hr, hts, hown, hlocks, hml, hK, hN, hE, hA⟩
  unfold zX10_isNow at h
  refine lv_aload_n hx hb dX10_isNow_0 rfl (lv_at hl 0 rfl) ?_
  refine lv_iload_n hx hb dX10_isNow_1 rfl (lv_at hl 1 rfl) ?_
  refine lv_iconst (v := 0) hx hb dX10_isNow_2 (by decide) ?_
  obtain ⟨r1, q3, h2, h⟩ := dB_some h
  refine dw_ki (va_runV (As := [.int p1, .int 0]) (rest := []) ⟨hx, hb, hml, hown, hts⟩ (qX10_tells l D ty eo _ ad q p1 0 r1 q3 h2) (cwV 2 hts gX10_isNow_X10_tells rfl rfl rfl (by decide +kernel) ⟨Nat.le_of_ble_eq_true rfl, Nat.le_of_ble_eq_true rfl⟩) (dw_preV (ci := 10) (q0 := 0) hK hN hE hP hD hS hA rfl rfl) rfl rfl hl.1 rfl (lv_room (Nat.le_of_ble_eq_true rfl)) dX10_isNow_3 ⟨Nat.le_of_ble_eq_true rfl, Nat.le_of_ble_eq_true rfl⟩) hD hS hA (fun r9 u9 H locs hw hp hd hs => ?_)
  clear hP hD hS
  obtain ⟨rfl, rfl⟩ := hw
  have hP := hp; have hD := hd; have hS := hs; clear hp hd hs
  refine lv_iconst (v := 1) hx hb dX10_isNow_6 (by decide) ?_
  refine lv_icmp_ne (tgt := 14) hx hb dX10_isNow_7 (by decide) (fun c9 => ?_) (fun c9 => ?_)
  · rw [if_neg c9] at h
    refine lv_iconst (v := 0) hx hb dX10_isNow_14 (by decide) ?_
    exact WX10_isNow_15 C  _ _ _ _ _ h hP hD hS (lv_sub hl [] rfl)
  · rw [if_pos c9] at h
    refine lv_iconst (v := 1) hx hb dX10_isNow_10 (by decide) ?_
    refine lv_goto (tgt := 15) hx hb dX10_isNow_11 (by decide) ?_
    exact WX10_isNow_15 C  _ _ _ _ _ h hP hD hS (lv_sub hl [] rfl)

set_option maxHeartbeats 4000000 in
set_option maxRecDepth 100000 in
theorem qX10_tipsAt (l : Launch) (D : va_G) (ty : Nat → ClassId) (eo : Nat → Nat) (sz : Nat) (ad : Nat → Nat) (q : dS) (p1 : Int32) (o1 : Int32) (o2 : dS) (h : zX10_tipsAt q p1 = some (o1, o2)) : Met l yX10_tipsAt wsX10_tipsAt ({ frames := 87, cells := 0, slots := 0, locals := 2223 } : Room) (va_Pc [.ref (ad 0), .int p1] (kz_pre D ty eo (w10 ty ad q) sz)) (va_Qi (fun (r : Int32) (u : va_W) => o1 = r ∧ w10 ty ad o2 = u) (kz_B D ty (va_A (w10 ty ad q) sz)) (va_A (w10 ty ad q) sz)) 0 0 (va_A (w10 ty ad q) sz) := by
  refine Met.ofW (cc := cX10_tipsAt) (maxL := 2) (ret := (some .boolean)) (by decide) rfl ?_
  intro p e s m args below meth c s₁ B hml hv
  obtain ⟨rfl, hsz, hP, hK, hD0, hN, hE⟩ := hv
  have hx := B.exec
  have hb := B.bytes
  have hr := B.returns
  have hts := atoms_spec (ws := wsX10_tipsAt) B.pre
  have hown : s.vm.findClass RX10 = some m.cls := findClass_of_methodNamed B.named
  have hlocks := B.notSynchronized
  subst hsz
  have hD := hD0.self (sz := s.heap.size)
  generalize hAe : va_A (w10 ty ad q) s.heap.size = A at hD hE ⊢
  have hA : ∀ q : Nat, s.heap.size ≤ q → A q := fun q h => by rw [← hAe]; exact Or.inr h
  clear hAe
  have hS : va_S A s.heap s.heap [] := va_S.rf
  have hl := lv_entry ([.ref (ad 0), .int p1]) (n := 2) (Nat.le_of_ble_eq_true rfl)
  rw [lg_entry_eq]
  generalize (lg_sl ([.ref (ad 0), .int p1]) ++ List.replicate (2 - (lg_sl ([.ref (ad 0), .int p1])).length) Slot.unset).toArray = ls at hl ⊢
  have hl : lv_has ls 2 [(0, .ref (ad 0)), (1, .int p1)] := hl
  have C : dc_C p s m _ meth c cX10_tipsAt (some .boolean) 2 RX10 wsX10_tipsAt D ty eo A := ⟨hx, hb, hr, hts, hown, hlocks, hml, hK, hN, hE, hA⟩
  unfold zX10_tipsAt at h
  refine lv_aload_n hx hb dX10_tipsAt_0 rfl (lv_at hl 0 rfl) ?_
  refine lv_iload_n hx hb dX10_tipsAt_1 rfl (lv_at hl 1 rfl) ?_
  obtain ⟨q3, h2, h⟩ := dV_some h
  refine dw_kv (va_runV (As := [.int p1]) (rest := []) ⟨hx, hb, hml, hown, hts⟩ (qX10_setsFloor l D ty eo _ ad q p1 q3 h2) (cwV 1 hts gX10_tipsAt_X10_setsFloor rfl rfl rfl (by decide +kernel) ⟨Nat.le_of_ble_eq_true rfl, Nat.le_of_ble_eq_true rfl⟩) (dw_preV (ci := 10) (q0 := 0) hK hN hE hP hD hS hA rfl rfl) rfl rfl hl.1 rfl (lv_room (Nat.le_of_ble_eq_true rfl)) dX10_tipsAt_2 ⟨Nat.le_of_ble_eq_true rfl, Nat.le_of_ble_eq_true rfl⟩) hD hS hA (fun u9 H locs hw hp hd hs => ?_)
  clear hP hD hS
  obtain rfl := hw
  have hP := hp; have hD := hd; have hS := hs; clear hp hd hs
  refine lv_aload_n hx hb dX10_tipsAt_5 rfl (lv_at hl 0 rfl) ?_
  refine lv_iconst (v := 3) hx hb dX10_tipsAt_6 (by decide) ?_
  obtain ⟨r4, q6, h5, h⟩ := dB_some h
  refine dw_ki (va_runV (As := [.int 3]) (rest := []) ⟨hx, hb, hml, hown, hts⟩ (qX10_isNow l D ty eo _ ad q3 3 r4 q6 h5) (cwV 1 hts gX10_tipsAt_X10_isNow rfl rfl rfl (by decide +kernel) ⟨Nat.le_of_ble_eq_true rfl, Nat.le_of_ble_eq_true rfl⟩) (dw_preV (ci := 10) (q0 := 0) hK hN hE hP hD hS hA rfl rfl) rfl rfl hl.1 rfl (lv_room (Nat.le_of_ble_eq_true rfl)) dX10_tipsAt_7 ⟨Nat.le_of_ble_eq_true rfl, Nat.le_of_ble_eq_true rfl⟩) hD hS hA (fun r9 u9 H locs hw hp hd hs => ?_)
  clear hP hD hS
  obtain ⟨rfl, rfl⟩ := hw
  have hP := hp; have hD := hd; have hS := hs; clear hp hd hs
  obtain ⟨g7, h⟩ := dG_some h
  cases h
  exact kz_zret hx hb hr hlocks (dbl_nar g7) hP hK hD hS dX10_tipsAt_10 ⟨rfl, rfl⟩

set_option maxHeartbeats 4000000 in
set_option maxRecDepth 100000 in
theorem WX10_at_68 {p : Program} {l : Launch} {e : Env} {s : State} {m : MethodId} {args : Array Value} {below : List Frame} {meth : Method} {c : Code} {D : va_G} {ty : Nat → ClassId} {eo : Nat → Nat} {A : Nat → Prop} {ad : Nat → Nat} {o1 : Int32} {o2 : dS} (C : dc_C p s m args meth c cX10_at (some .int) 3 RX10 wsX10_at D ty eo A)   (q : dS) (y0 : Int32) (H : Heap) (locs : List Loc) (ls : Array Slot) (h : zX10_at_68  q y0 = some (o1, o2)) (hP : va_P D vwCl (w10 ty ad q) H) (hD : va_D A (w10 ty ad q)) (hS : va_S A s.heap H locs) (hl : lv_has ls 3 []) : W p l e ({ frames := 88, cells := 0, slots := 0, locals := 2244 } : Room) s m args below meth c H locs 0 0 (MQ below (va_Qi (fun (r : Int32) (u : va_W) => o1 = r ∧ w10 ty ad o2 = u) (kz_B D ty A) A) args s 0 0 A) (F0 m 68 ls [.int y0]) := by
  have C0 := C
  obtain ⟨hx, hb, hr, hts, hown, hlocks, hml, hK, hN, hE, hA⟩ := C
  unfold zX10_at_68 at h
  cases h
  exact kz_iret hx hb hr hlocks hP hK hD hS dX10_at_68 ⟨rfl, rfl⟩
set_option maxHeartbeats 4000000 in
set_option maxRecDepth 100000 in
theorem qX10_at (l : Launch) (D : va_G) (ty : Nat → ClassId) (eo : Nat → Nat) (sz : Nat) (ad : Nat → Nat) (q : dS) (p1 : Int32) (p2 : Int32) (o1 : Int32) (o2 : dS) (h : zX10_at q p1 p2 = some (o1, o2)) : Met l yX10_at wsX10_at ({ frames := 88, cells := 0, slots := 0, locals := 2244 } : Room) (va_Pc [.ref (ad 0), .int p1, .int p2] (kz_pre D ty eo (w10 ty ad q) sz)) (va_Qi (fun (r : Int32) (u : va_W) => o1 = r ∧ w10 ty ad o2 = u) (kz_B D ty (va_A (w10 ty ad q) sz)) (va_A (w10 ty ad q) sz)) 0 0 (va_A (w10 ty ad q) sz) := by
  refine Met.ofW (cc := cX10_at) (maxL := 3) (ret := (some .int)) (by decide) rfl ?_
  intro p e s m args below meth c s₁ B hml hv
  obtain ⟨rfl, hsz, hP, hK, hD0, hN, hE⟩ := hv
  have hx := B.exec
  have hb := B.bytes
  have hr := B.returns
  have hts := atoms_spec (ws := wsX10_at) B.pre
  have hown : s.vm.findClass RX10 = some m.cls := findClass_of_methodNamed B.named
  have hlocks := B.notSynchronized
  subst hsz
  have hD := hD0.self (sz := s.heap.size)
  generalize hAe : va_A (w10 ty ad q) s.heap.size = A at hD hE ⊢
  have hA : ∀ q : Nat, s.heap.size ≤ q → A q := fun q h => by rw [← hAe]; exact Or.inr h
  clear hAe
  have hS : va_S A s.heap s.heap [] := va_S.rf
  have hl := lv_entry ([.ref (ad 0), .int p1, .int p2]) (n := 3) (Nat.le_of_ble_eq_true rfl)
  rw [lg_entry_eq]
  generalize (lg_sl ([.ref (ad 0), .int p1, .int p2]) ++ List.replicate (3 - (lg_sl ([.ref (ad 0), .int p1, .int p2])).length) Slot.unset).toArray = ls at hl ⊢
  have hl : lv_has ls 3 [(0, .ref (ad 0)), (1, .int p1), (2, .int p2)] := hl
  have C : dc_C p s m _ meth c cX10_at (some .int) 3 RX10 wsX10_at D ty eo A := ⟨hx, hb, hr, hts, hown, hlocks, hml, hK, hN, hE, hA⟩
  unfold zX10_at at h
  refine lv_aload_n hx hb dX10_at_0 rfl (lv_at hl 0 rfl) ?_
  refine lv_iload_n hx hb dX10_at_1 rfl (lv_at hl 1 rfl) ?_
  obtain ⟨r1, q3, h2, h⟩ := dB_some h
  refine dw_ki (va_runV (As := [.int p1]) (rest := []) ⟨hx, hb, hml, hown, hts⟩ (qX10_isPlace l D ty eo _ ad q p1 r1 q3 h2) (cwV 1 hts gX10_at_X10_isPlace rfl rfl rfl (by decide +kernel) ⟨Nat.le_of_ble_eq_true rfl, Nat.le_of_ble_eq_true rfl⟩) (dw_preV (ci := 10) (q0 := 0) hK hN hE hP hD hS hA rfl rfl) rfl rfl hl.1 rfl (lv_room (Nat.le_of_ble_eq_true rfl)) dX10_at_2 ⟨Nat.le_of_ble_eq_true rfl, Nat.le_of_ble_eq_true rfl⟩) hD hS hA (fun r9 u9 H locs hw hp hd hs => ?_)
  clear hP hD hS
  obtain ⟨rfl, rfl⟩ := hw
  have hP := hp; have hD := hd; have hS := hs; clear hp hd hs
  refine lv_if_ne (tgt := 10) hx hb dX10_at_5 (by decide) (fun c9 => ?_) (fun c9 => ?_)
  · rw [if_neg c9] at h
    refine lv_iload_n hx hb dX10_at_10 rfl (lv_at hl 2 rfl) ?_
    by_cases c4 : p2 = 0
    · rw [if_pos c4] at h
      refine lv_tableIn (off := 25) (tgt := 36) hx hb dX10_at_11 (by rw [c4]; decide) (by rw [c4]; decide) (by rw [c4]; decide) (by decide) ?_
      refine lv_aload_n hx hb dX10_at_36 rfl (lv_at hl 0 rfl) ?_
      refine va_get (D := D) (ci := 10) (v := .ref (ad 2)) (C := RX10) (T := TX10) (N := 56) hx hb hts u9_wsX10_at_X10 hown hK hP 0 rfl rfl 2 (by decide) (hts (.fieldLink RX10 28 "TurnedFloorsModel" "kept" "[I") f9_wsX10_at_69) (fun _ h9 => h9) rfl dX10_at_37 ?_
      refine lv_iconst (v := 0) hx hb dX10_at_40 (by decide) ?_
      refine lv_iload_n hx hb dX10_at_41 rfl (lv_at hl 1 rfl) ?_
      refine lv_iadd hx hb dX10_at_42 ?_
      obtain ⟨g5, h⟩ := dG_some h
      refine va_iald hx hb hK hP 2 0 rfl rfl (dg_in g5) dX10_at_43 ?_
      obtain ⟨v6, ev6, h⟩ := dL_some h
      refine kz_topi v6 ev6 ?_
      cases h
      exact kz_iret hx hb hr hlocks hP hK hD hS dX10_at_44 ⟨rfl, rfl⟩
    rw [if_neg c4] at h
    by_cases c7 : p2 = 1
    · rw [if_pos c7] at h
      refine lv_tableIn (off := 34) (tgt := 45) hx hb dX10_at_11 (by rw [c7]; decide) (by rw [c7]; decide) (by rw [c7]; decide) (by decide) ?_
      refine lv_aload_n hx hb dX10_at_45 rfl (lv_at hl 0 rfl) ?_
      refine va_get (D := D) (ci := 10) (v := .ref (ad 2)) (C := RX10) (T := TX10) (N := 56) hx hb hts u9_wsX10_at_X10 hown hK hP 0 rfl rfl 2 (by decide) (hts (.fieldLink RX10 28 "TurnedFloorsModel" "kept" "[I") f9_wsX10_at_69) (fun _ h9 => h9) rfl dX10_at_46 ?_
      refine lv_bipush (v := 6) hx hb dX10_at_49 (by decide) ?_
      refine lv_iload_n hx hb dX10_at_51 rfl (lv_at hl 1 rfl) ?_
      refine lv_iadd hx hb dX10_at_52 ?_
      obtain ⟨g8, h⟩ := dG_some h
      refine va_iald hx hb hK hP 2 0 rfl rfl (dg_in g8) dX10_at_53 ?_
      obtain ⟨v9, ev9, h⟩ := dL_some h
      refine kz_topi v9 ev9 ?_
      cases h
      exact kz_iret hx hb hr hlocks hP hK hD hS dX10_at_54 ⟨rfl, rfl⟩
    rw [if_neg c7] at h
    by_cases c10 : p2 = 2
    · rw [if_pos c10] at h
      refine lv_tableIn (off := 44) (tgt := 55) hx hb dX10_at_11 (by rw [c10]; decide) (by rw [c10]; decide) (by rw [c10]; decide) (by decide) ?_
      refine lv_aload_n hx hb dX10_at_55 rfl (lv_at hl 0 rfl) ?_
      refine lv_iload_n hx hb dX10_at_56 rfl (lv_at hl 1 rfl) ?_
      obtain ⟨r11, q13, h12, h⟩ := dB_some h
      refine dw_ki (va_runV (As := [.int p1]) (rest := []) ⟨hx, hb, hml, hown, hts⟩ (qX10_tipsAt l D ty eo _ ad q3 p1 r11 q13 h12) (cwV 1 hts gX10_at_X10_tipsAt rfl rfl rfl (by decide +kernel) ⟨Nat.le_of_ble_eq_true rfl, Nat.le_of_ble_eq_true rfl⟩) (dw_preV (ci := 10) (q0 := 0) hK hN hE hP hD hS hA rfl rfl) rfl rfl hl.1 rfl (lv_room (Nat.le_of_ble_eq_true rfl)) dX10_at_57 ⟨Nat.le_of_ble_eq_true rfl, Nat.le_of_ble_eq_true rfl⟩) hD hS hA (fun r9 u9 H locs hw hp hd hs => ?_)
      clear hP hD hS
      obtain ⟨rfl, rfl⟩ := hw
      have hP := hp; have hD := hd; have hS := hs; clear hp hd hs
      refine lv_if_eq (tgt := 67) hx hb dX10_at_60 (by decide) (fun c9 => ?_) (fun c9 => ?_)
      · rw [if_pos c9] at h
        refine lv_iconst (v := 0) hx hb dX10_at_67 (by decide) ?_
        exact WX10_at_68 C  _ _ _ _ _ h hP hD hS (lv_sub hl [] rfl)
      · rw [if_neg c9] at h
        refine lv_iconst (v := 1) hx hb dX10_at_63 (by decide) ?_
        refine lv_goto (tgt := 68) hx hb dX10_at_64 (by decide) ?_
        exact WX10_at_68 C  _ _ _ _ _ h hP hD hS (lv_sub hl [] rfl)
    rw [if_neg c10] at h
    refine lv_tableOut (tgt := 69) hx hb dX10_at_11 (by simp only [← Int32.toInt_inj, Int32.reduceToInt] at c4 c7 c10; omega) (by decide) ?_
    refine lv_iconst (v := (-1)) hx hb dX10_at_69 (by decide) ?_
    cases h
    exact kz_iret hx hb hr hlocks hP hK hD hS dX10_at_70 ⟨rfl, rfl⟩
  · rw [if_pos c9] at h
    refine lv_iconst (v := (-1)) hx hb dX10_at_8 (by decide) ?_
    cases h
    exact kz_iret hx hb hr hlocks hP hK hD hS dX10_at_9 ⟨rfl, rfl⟩

set_option maxHeartbeats 4000000 in
set_option maxRecDepth 100000 in
theorem WX10_rankBelow_20 {p : Program} {l : Launch} {e : Env} {s : State} {m : MethodId} {args : Array Value} {below : List Frame} {meth : Method} {c : Code} {D : va_G} {ty : Nat → ClassId} {eo : Nat → Nat} {A : Nat → Prop} {ad : Nat → Nat} {o1 : Int32} {o2 : dS} (C : dc_C p s m args meth c cX10_rankBelow (some .int) 2 RX10 wsX10_rankBelow D ty eo A)   (q : dS) (y0 : Int32) (H : Heap) (locs : List Loc) (ls : Array Slot) (h : zX10_rankBelow_20  q y0 = some (o1, o2)) (hP : va_P D vwCl (w10 ty ad q) H) (hD : va_D A (w10 ty ad q)) (hS : va_S A s.heap H locs) (hl : lv_has ls 2 []) : W p l e ({ frames := 1, cells := 0, slots := 0, locals := 20 } : Room) s m args below meth c H locs 0 0 (MQ below (va_Qi (fun (r : Int32) (u : va_W) => o1 = r ∧ w10 ty ad o2 = u) (kz_B D ty A) A) args s 0 0 A) (F0 m 20 ls [.int y0]) := by
  have C0 := C
  obtain ⟨hx, hb, hr, hts, hown, hlocks, hml, hK, hN, hE, hA⟩ := C
  unfold zX10_rankBelow_20 at h
  cases h
  exact kz_iret hx hb hr hlocks hP hK hD hS dX10_rankBelow_20 ⟨rfl, rfl⟩
set_option maxHeartbeats 4000000 in
set_option maxRecDepth 100000 in
theorem qX10_rankBelow (l : Launch) (D : va_G) (ty : Nat → ClassId) (eo : Nat → Nat) (sz : Nat) (ad : Nat → Nat) (q : dS) (p1 : Int32) (o1 : Int32) (o2 : dS) (h : zX10_rankBelow q p1 = some (o1, o2)) : Met l yX10_rankBelow wsX10_rankBelow ({ frames := 1, cells := 0, slots := 0, locals := 20 } : Room) (va_Pc [.ref (ad 0), .int p1] (kz_pre D ty eo (w10 ty ad q) sz)) (va_Qi (fun (r : Int32) (u : va_W) => o1 = r ∧ w10 ty ad o2 = u) (kz_B D ty (va_A (w10 ty ad q) sz)) (va_A (w10 ty ad q) sz)) 0 0 (va_A (w10 ty ad q) sz) := by
  refine Met.ofW (cc := cX10_rankBelow) (maxL := 2) (ret := (some .int)) (by decide) rfl ?_
  intro p e s m args below meth c s₁ B hml hv
  obtain ⟨rfl, hsz, hP, hK, hD0, hN, hE⟩ := hv
  have hx := B.exec
  have hb := B.bytes
  have hr := B.returns
  have hts := atoms_spec (ws := wsX10_rankBelow) B.pre
  have hown : s.vm.findClass RX10 = some m.cls := findClass_of_methodNamed B.named
  have hlocks := B.notSynchronized
  subst hsz
  have hD := hD0.self (sz := s.heap.size)
  generalize hAe : va_A (w10 ty ad q) s.heap.size = A at hD hE ⊢
  have hA : ∀ q : Nat, s.heap.size ≤ q → A q := fun q h => by rw [← hAe]; exact Or.inr h
  clear hAe
  have hS : va_S A s.heap s.heap [] := va_S.rf
  have hl := lv_entry ([.ref (ad 0), .int p1]) (n := 2) (Nat.le_of_ble_eq_true rfl)
  rw [lg_entry_eq]
  generalize (lg_sl ([.ref (ad 0), .int p1]) ++ List.replicate (2 - (lg_sl ([.ref (ad 0), .int p1])).length) Slot.unset).toArray = ls at hl ⊢
  have hl : lv_has ls 2 [(0, .ref (ad 0)), (1, .int p1)] := hl
  have C : dc_C p s m _ meth c cX10_rankBelow (some .int) 2 RX10 wsX10_rankBelow D ty eo A := ⟨hx, hb, hr, hts, hown, hlocks, hml, hK, hN, hE, hA⟩
  unfold zX10_rankBelow at h
  refine lv_iload_n hx hb dX10_rankBelow_0 rfl (lv_at hl 1 rfl) ?_
  refine lv_aload_n hx hb dX10_rankBelow_1 rfl (lv_at hl 0 rfl) ?_
  obtain ⟨r1, q3, h2, h⟩ := dB_some h
  refine dw_ki (va_runV (As := []) (rest := [.int p1]) ⟨hx, hb, hml, hown, hts⟩ (qX10_size l D ty eo _ ad q  r1 q3 h2) (cwV 0 hts gX10_rankBelow_X10_size rfl rfl rfl (by decide +kernel) ⟨Nat.le_of_ble_eq_true rfl, Nat.le_of_ble_eq_true rfl⟩) (dw_preV (ci := 10) (q0 := 0) hK hN hE hP hD hS hA rfl rfl) rfl rfl hl.1 rfl (lv_room (Nat.le_of_ble_eq_true rfl)) dX10_rankBelow_2 ⟨Nat.le_of_ble_eq_true rfl, Nat.le_of_ble_eq_true rfl⟩) hD hS hA (fun r9 u9 H locs hw hp hd hs => ?_)
  clear hP hD hS
  obtain ⟨rfl, rfl⟩ := hw
  have hP := hp; have hD := hd; have hS := hs; clear hp hd hs
  refine lv_icmp_ge (tgt := 19) hx hb dX10_rankBelow_5 (by decide) (fun c9 => ?_) (fun c9 => ?_)
  · rw [if_pos c9] at h
    refine lv_iconst (v := (-1)) hx hb dX10_rankBelow_19 (by decide) ?_
    exact WX10_rankBelow_20 C  _ _ _ _ _ h hP hD hS (lv_sub hl [] rfl)
  · rw [if_neg c9] at h
    refine lv_aload_n hx hb dX10_rankBelow_8 rfl (lv_at hl 0 rfl) ?_
    refine va_get (D := D) (ci := 10) (v := .ref (ad 2)) (C := RX10) (T := TX10) (N := 56) hx hb hts u9_wsX10_rankBelow_X10 hown hK hP 0 rfl rfl 2 (by decide) (hts (.fieldLink RX10 28 "TurnedFloorsModel" "kept" "[I") f9_wsX10_rankBelow_71) (fun _ h9 => h9) rfl dX10_rankBelow_9 ?_
    refine lv_iconst (v := 0) hx hb dX10_rankBelow_12 (by decide) ?_
    refine lv_iload_n hx hb dX10_rankBelow_13 rfl (lv_at hl 1 rfl) ?_
    refine lv_iadd hx hb dX10_rankBelow_14 ?_
    obtain ⟨g4, h⟩ := dG_some h
    refine va_iald hx hb hK hP 2 0 rfl rfl (dg_in g4) dX10_rankBelow_15 ?_
    obtain ⟨v5, ev5, h⟩ := dL_some h
    refine kz_topi v5 ev5 ?_
    refine lv_goto (tgt := 20) hx hb dX10_rankBelow_16 (by decide) ?_
    exact WX10_rankBelow_20 C  _ _ _ _ _ h hP hD hS (lv_sub hl [] rfl)

set_option maxHeartbeats 4000000 in
set_option maxRecDepth 100000 in
theorem qX10_setsTurn (l : Launch) (D : va_G) (ty : Nat → ClassId) (eo : Nat → Nat) (sz : Nat) (ad : Nat → Nat) (q : dS) (p1 : Int32) (p2 : Int32) (p3 : Int32) (p4 : Int32) (o2 : dS) (h : zX10_setsTurn q p1 p2 p3 p4 = some o2) : Met l yX10_setsTurn wsX10_setsTurn ({ frames := 2, cells := 0, slots := 0, locals := 43 } : Room) (va_Pc [.ref (ad 0), .int p1, .int p2, .int p3, .int p4] (kz_pre D ty eo (w10 ty ad q) sz)) (va_Qv (fun (u : va_W) => w10 ty ad o2 = u) (kz_B D ty (va_A (w10 ty ad q) sz)) (va_A (w10 ty ad q) sz)) 0 0 (va_A (w10 ty ad q) sz) := by
  refine Met.ofW (cc := cX10_setsTurn) (maxL := 5) (ret := none) (by decide) rfl ?_
  intro p e s m args below meth c s₁ B hml hv
  obtain ⟨rfl, hsz, hP, hK, hD0, hN, hE⟩ := hv
  have hx := B.exec
  have hb := B.bytes
  have hr := B.returns
  have hts := atoms_spec (ws := wsX10_setsTurn) B.pre
  have hown : s.vm.findClass RX10 = some m.cls := findClass_of_methodNamed B.named
  have hlocks := B.notSynchronized
  subst hsz
  have hD := hD0.self (sz := s.heap.size)
  generalize hAe : va_A (w10 ty ad q) s.heap.size = A at hD hE ⊢
  have hA : ∀ q : Nat, s.heap.size ≤ q → A q := fun q h => by rw [← hAe]; exact Or.inr h
  clear hAe
  have hS : va_S A s.heap s.heap [] := va_S.rf
  have hl := lv_entry ([.ref (ad 0), .int p1, .int p2, .int p3, .int p4]) (n := 5) (Nat.le_of_ble_eq_true rfl)
  rw [lg_entry_eq]
  generalize (lg_sl ([.ref (ad 0), .int p1, .int p2, .int p3, .int p4]) ++ List.replicate (5 - (lg_sl ([.ref (ad 0), .int p1, .int p2, .int p3, .int p4])).length) Slot.unset).toArray = ls at hl ⊢
  have hl : lv_has ls 5 [(0, .ref (ad 0)), (1, .int p1), (2, .int p2), (3, .int p3), (4, .int p4)] := hl
  have C : dc_C p s m _ meth c cX10_setsTurn none 5 RX10 wsX10_setsTurn D ty eo A := ⟨hx, hb, hr, hts, hown, hlocks, hml, hK, hN, hE, hA⟩
  unfold zX10_setsTurn at h
  refine lv_aload_n hx hb dX10_setsTurn_0 rfl (lv_at hl 0 rfl) ?_
  refine va_get (D := D) (ci := 10) (v := .ref (ad 12)) (C := RX10) (T := TX10) (N := 56) hx hb hts u9_wsX10_setsTurn_X10 hown hK hP 0 rfl rfl 26 (by decide) (hts (.fieldLink RX10 63 "TurnedFloorsModel" "asked" "[I") f9_wsX10_setsTurn_73) (fun _ h9 => h9) rfl dX10_setsTurn_1 ?_
  refine lv_iconst (v := 0) hx hb dX10_setsTurn_4 (by decide) ?_
  refine lv_iload_n hx hb dX10_setsTurn_5 rfl (lv_at hl 1 rfl) ?_
  refine va_iast hx hb hK hP hD hS 12 0 rfl rfl (by simp only [vp_in]; decide) dX10_setsTurn_6 (fun H locs hp hd hs => ?_)
  obtain ⟨q1, eq1, h⟩ := dL_some h
  refine kz_re (w2 := w10 ty ad q1) hp hd hs (by rw [(by decide +kernel : Int32.toNatClampNeg 0 = 0), ← eq1]; exact w10_a12 ty ad q 0 p1) ?_
  clear hp hd hs hP hD hS
  intro hP hD hS
  refine lv_aload_n hx hb dX10_setsTurn_7 rfl (lv_at hl 0 rfl) ?_
  refine va_get (D := D) (ci := 10) (v := .ref (ad 12)) (C := RX10) (T := TX10) (N := 56) hx hb hts u9_wsX10_setsTurn_X10 hown hK hP 0 rfl rfl 26 (by decide) (hts (.fieldLink RX10 63 "TurnedFloorsModel" "asked" "[I") f9_wsX10_setsTurn_73) (fun _ h9 => h9) rfl dX10_setsTurn_8 ?_
  refine lv_iconst (v := 1) hx hb dX10_setsTurn_11 (by decide) ?_
  refine lv_iload_n hx hb dX10_setsTurn_12 rfl (lv_at hl 2 rfl) ?_
  refine va_iast hx hb hK hP hD hS 12 0 rfl rfl (by simp only [vp_in]; decide) dX10_setsTurn_13 (fun H locs hp hd hs => ?_)
  obtain ⟨q2, eq2, h⟩ := dL_some h
  refine kz_re (w2 := w10 ty ad q2) hp hd hs (by rw [(by decide +kernel : Int32.toNatClampNeg 1 = 1), ← eq2]; exact w10_a12 ty ad q1 1 p2) ?_
  clear hp hd hs hP hD hS
  intro hP hD hS
  refine lv_aload_n hx hb dX10_setsTurn_14 rfl (lv_at hl 0 rfl) ?_
  refine va_get (D := D) (ci := 10) (v := .ref (ad 12)) (C := RX10) (T := TX10) (N := 56) hx hb hts u9_wsX10_setsTurn_X10 hown hK hP 0 rfl rfl 26 (by decide) (hts (.fieldLink RX10 63 "TurnedFloorsModel" "asked" "[I") f9_wsX10_setsTurn_73) (fun _ h9 => h9) rfl dX10_setsTurn_15 ?_
  refine lv_iconst (v := 2) hx hb dX10_setsTurn_18 (by decide) ?_
  refine lv_iload_n hx hb dX10_setsTurn_19 rfl (lv_at hl 3 rfl) ?_
  refine va_iast hx hb hK hP hD hS 12 0 rfl rfl (by simp only [vp_in]; decide) dX10_setsTurn_20 (fun H locs hp hd hs => ?_)
  obtain ⟨q3, eq3, h⟩ := dL_some h
  refine kz_re (w2 := w10 ty ad q3) hp hd hs (by rw [(by decide +kernel : Int32.toNatClampNeg 2 = 2), ← eq3]; exact w10_a12 ty ad q2 2 p3) ?_
  clear hp hd hs hP hD hS
  intro hP hD hS
  refine lv_aload_n hx hb dX10_setsTurn_21 rfl (lv_at hl 0 rfl) ?_
  refine lv_iconst (v := (-1)) hx hb dX10_setsTurn_22 (by decide) ?_
  refine lv_iconst (v := (-1)) hx hb dX10_setsTurn_23 (by decide) ?_
  refine lv_iload hx hb dX10_setsTurn_24 (lv_at hl 4 rfl) ?_
  obtain ⟨q6, h5, h⟩ := dV_some h
  refine dw_kv (va_runV (As := [.int (-1), .int (-1), .int p4]) (rest := []) ⟨hx, hb, hml, hown, hts⟩ (qX10_setsAsked l D ty eo _ ad q3 (-1) (-1) p4 q6 h5) (cwV 3 hts gX10_setsTurn_X10_setsAsked rfl rfl rfl (by decide +kernel) ⟨Nat.le_of_ble_eq_true rfl, Nat.le_of_ble_eq_true rfl⟩) (dw_preV (ci := 10) (q0 := 0) hK hN hE hP hD hS hA rfl rfl) rfl rfl hl.1 rfl (lv_room (Nat.le_of_ble_eq_true rfl)) dX10_setsTurn_26 ⟨Nat.le_of_ble_eq_true rfl, Nat.le_of_ble_eq_true rfl⟩) hD hS hA (fun u9 H locs hw hp hd hs => ?_)
  clear hP hD hS
  obtain rfl := hw
  have hP := hp; have hD := hd; have hS := hs; clear hp hd hs
  cases h
  exact kz_vret hx hb hr hlocks hP hK hD hS dX10_setsTurn_29 rfl

set_option maxHeartbeats 4000000 in
set_option maxRecDepth 100000 in
theorem qX10_paysNow (l : Launch) (D : va_G) (ty : Nat → ClassId) (eo : Nat → Nat) (sz : Nat) (ad : Nat → Nat) (q : dS)  (o1 : Int32) (o2 : dS) (h : zX10_paysNow q = some (o1, o2)) : Met l yX10_paysNow wsX10_paysNow ({ frames := 86, cells := 0, slots := 0, locals := 2202 } : Room) (va_Pc [.ref (ad 0)] (kz_pre D ty eo (w10 ty ad q) sz)) (va_Qi (fun (r : Int32) (u : va_W) => o1 = r ∧ w10 ty ad o2 = u) (kz_B D ty (va_A (w10 ty ad q) sz)) (va_A (w10 ty ad q) sz)) 0 0 (va_A (w10 ty ad q) sz) := by
  refine Met.ofW (cc := cX10_paysNow) (maxL := 1) (ret := (some .int)) (by decide) rfl ?_
  intro p e s m args below meth c s₁ B hml hv
  obtain ⟨rfl, hsz, hP, hK, hD0, hN, hE⟩ := hv
  have hx := B.exec
  have hb := B.bytes
  have hr := B.returns
  have hts := atoms_spec (ws := wsX10_paysNow) B.pre
  have hown : s.vm.findClass RX10 = some m.cls := findClass_of_methodNamed B.named
  have hlocks := B.notSynchronized
  subst hsz
  have hD := hD0.self (sz := s.heap.size)
  generalize hAe : va_A (w10 ty ad q) s.heap.size = A at hD hE ⊢
  have hA : ∀ q : Nat, s.heap.size ≤ q → A q := fun q h => by rw [← hAe]; exact Or.inr h
  clear hAe
  have hS : va_S A s.heap s.heap [] := va_S.rf
  have hl := lv_entry ([.ref (ad 0)]) (n := 1) (Nat.le_of_ble_eq_true rfl)
  rw [lg_entry_eq]
  generalize (lg_sl ([.ref (ad 0)]) ++ List.replicate (1 - (lg_sl ([.ref (ad 0)])).length) Slot.unset).toArray = ls at hl ⊢
  have hl : lv_has ls 1 [(0, .ref (ad 0))] := hl
  have C : dc_C p s m _ meth c cX10_paysNow (some .int) 1 RX10 wsX10_paysNow D ty eo A := ⟨hx, hb, hr, hts, hown, hlocks, hml, hK, hN, hE, hA⟩
  unfold zX10_paysNow at h
  refine lv_aload_n hx hb dX10_paysNow_0 rfl (lv_at hl 0 rfl) ?_
  refine lv_iconst (v := 1) hx hb dX10_paysNow_1 (by decide) ?_
  refine lv_aload_n hx hb dX10_paysNow_2 rfl (lv_at hl 0 rfl) ?_
  refine va_get (D := D) (ci := 10) (v := .ref (ad 12)) (C := RX10) (T := TX10) (N := 56) hx hb hts u9_wsX10_paysNow_X10 hown hK hP 0 rfl rfl 26 (by decide) (hts (.fieldLink RX10 63 "TurnedFloorsModel" "asked" "[I") f9_wsX10_paysNow_75) (fun _ h9 => h9) rfl dX10_paysNow_3 ?_
  refine lv_iconst (v := 0) hx hb dX10_paysNow_6 (by decide) ?_
  refine va_iald hx hb hK hP 12 0 rfl rfl (by simp only [vp_in]; decide) dX10_paysNow_7 ?_
  refine kz_topi (q.1 12 0) (congrArg (q.1 12) (by decide +kernel : Int32.toNatClampNeg 0 = 0)) ?_
  obtain ⟨r1, q3, h2, h⟩ := dB_some h
  refine dw_ki (va_runV (As := [.int 1, .int (q.1 12 0)]) (rest := []) ⟨hx, hb, hml, hown, hts⟩ (qX10_tells l D ty eo _ ad q 1 (q.1 12 0) r1 q3 h2) (cwV 2 hts gX10_paysNow_X10_tells rfl rfl rfl (by decide +kernel) ⟨Nat.le_of_ble_eq_true rfl, Nat.le_of_ble_eq_true rfl⟩) (dw_preV (ci := 10) (q0 := 0) hK hN hE hP hD hS hA rfl rfl) rfl rfl hl.1 rfl (lv_room (Nat.le_of_ble_eq_true rfl)) dX10_paysNow_8 ⟨Nat.le_of_ble_eq_true rfl, Nat.le_of_ble_eq_true rfl⟩) hD hS hA (fun r9 u9 H locs hw hp hd hs => ?_)
  clear hP hD hS
  obtain ⟨rfl, rfl⟩ := hw
  have hP := hp; have hD := hd; have hS := hs; clear hp hd hs
  cases h
  exact kz_iret hx hb hr hlocks hP hK hD hS dX10_paysNow_11 ⟨rfl, rfl⟩

set_option maxHeartbeats 4000000 in
set_option maxRecDepth 100000 in
theorem WX10_asks_82 {p : Program} {l : Launch} {e : Env} {s : State} {m : MethodId} {args : Array Value} {below : List Frame} {meth : Method} {c : Code} {D : va_G} {ty : Nat → ClassId} {eo : Nat → Nat} {A : Nat → Prop} {ad : Nat → Nat} {o1 : Int32} {o2 : dS} (C : dc_C p s m args meth c cX10_asks (some .int) 3 RX10 wsX10_asks D ty eo A)   (q : dS) (y0 : Int32) (H : Heap) (locs : List Loc) (ls : Array Slot) (h : zX10_asks_82  q y0 = some (o1, o2)) (hP : va_P D vwCl (w10 ty ad q) H) (hD : va_D A (w10 ty ad q)) (hS : va_S A s.heap H locs) (hl : lv_has ls 3 []) : W p l e ({ frames := 87, cells := 0, slots := 0, locals := 2223 } : Room) s m args below meth c H locs 0 0 (MQ below (va_Qi (fun (r : Int32) (u : va_W) => o1 = r ∧ w10 ty ad o2 = u) (kz_B D ty A) A) args s 0 0 A) (F0 m 82 ls [.int y0]) := by
  have C0 := C
  obtain ⟨hx, hb, hr, hts, hown, hlocks, hml, hK, hN, hE, hA⟩ := C
  unfold zX10_asks_82 at h
  cases h
  exact kz_iret hx hb hr hlocks hP hK hD hS dX10_asks_82 ⟨rfl, rfl⟩
set_option maxHeartbeats 4000000 in
set_option maxRecDepth 100000 in
theorem qX10_asks (l : Launch) (D : va_G) (ty : Nat → ClassId) (eo : Nat → Nat) (sz : Nat) (ad : Nat → Nat) (q : dS) (p1 : Int32) (p2 : Int32) (o1 : Int32) (o2 : dS) (h : zX10_asks q p1 p2 = some (o1, o2)) : Met l yX10_asks wsX10_asks ({ frames := 87, cells := 0, slots := 0, locals := 2223 } : Room) (va_Pc [.ref (ad 0), .int p1, .int p2] (kz_pre D ty eo (w10 ty ad q) sz)) (va_Qi (fun (r : Int32) (u : va_W) => o1 = r ∧ w10 ty ad o2 = u) (kz_B D ty (va_A (w10 ty ad q) sz)) (va_A (w10 ty ad q) sz)) 0 0 (va_A (w10 ty ad q) sz) := by
  refine Met.ofW (cc := cX10_asks) (maxL := 3) (ret := (some .int)) (by decide) rfl ?_
  intro p e s m args below meth c s₁ B hml hv
  obtain ⟨rfl, hsz, hP, hK, hD0, hN, hE⟩ := hv
  have hx := B.exec
  have hb := B.bytes
  have hr := B.returns
  have hts := atoms_spec (ws := wsX10_asks) B.pre
  have hown : s.vm.findClass RX10 = some m.cls := findClass_of_methodNamed B.named
  have hlocks := B.notSynchronized
  subst hsz
  have hD := hD0.self (sz := s.heap.size)
  generalize hAe : va_A (w10 ty ad q) s.heap.size = A at hD hE ⊢
  have hA : ∀ q : Nat, s.heap.size ≤ q → A q := fun q h => by rw [← hAe]; exact Or.inr h
  clear hAe
  have hS : va_S A s.heap s.heap [] := va_S.rf
  have hl := lv_entry ([.ref (ad 0), .int p1, .int p2]) (n := 3) (Nat.le_of_ble_eq_true rfl)
  rw [lg_entry_eq]
  generalize (lg_sl ([.ref (ad 0), .int p1, .int p2]) ++ List.replicate (3 - (lg_sl ([.ref (ad 0), .int p1, .int p2])).length) Slot.unset).toArray = ls at hl ⊢
  have hl : lv_has ls 3 [(0, .ref (ad 0)), (1, .int p1), (2, .int p2)] := hl
  have C : dc_C p s m _ meth c cX10_asks (some .int) 3 RX10 wsX10_asks D ty eo A := ⟨hx, hb, hr, hts, hown, hlocks, hml, hK, hN, hE, hA⟩
  unfold zX10_asks at h
  refine lv_iload_n hx hb dX10_asks_0 rfl (lv_at hl 1 rfl) ?_
  refine lv_iconst (v := 1) hx hb dX10_asks_1 (by decide) ?_
  refine lv_aload_n hx hb dX10_asks_2 rfl (lv_at hl 0 rfl) ?_
  obtain ⟨r1, q3, h2, h⟩ := dB_some h
  refine dw_ki (va_runV (As := []) (rest := [.int 1, .int p1]) ⟨hx, hb, hml, hown, hts⟩ (qX10_size l D ty eo _ ad q  r1 q3 h2) (cwV 0 hts gX10_asks_X10_size rfl rfl rfl (by decide +kernel) ⟨Nat.le_of_ble_eq_true rfl, Nat.le_of_ble_eq_true rfl⟩) (dw_preV (ci := 10) (q0 := 0) hK hN hE hP hD hS hA rfl rfl) rfl rfl hl.1 rfl (lv_room (Nat.le_of_ble_eq_true rfl)) dX10_asks_3 ⟨Nat.le_of_ble_eq_true rfl, Nat.le_of_ble_eq_true rfl⟩) hD hS hA (fun r9 u9 H locs hw hp hd hs => ?_)
  clear hP hD hS
  obtain ⟨rfl, rfl⟩ := hw
  have hP := hp; have hD := hd; have hS := hs; clear hp hd hs
  obtain ⟨r4, h5, h⟩ := dV_some h
  refine dw_ks (va_runS (As := [.int p1, .int 1, .int r1]) (rest := []) ⟨hx, hb, hml, hown, hts⟩ (qX10_lies l D ty eo _ p1 1 r1 _ h5) (va_cwS 3 hts gX10_asks_X10_lies rfl rfl rfl (by decide +kernel) ⟨Nat.le_of_ble_eq_true rfl, Nat.le_of_ble_eq_true rfl⟩) (kz_preS hK hN hE hP hD hS hA [] (by decide) rfl) rfl rfl hl.1 rfl (lv_room (Nat.le_of_ble_eq_true rfl)) dX10_asks_6 ⟨Nat.le_of_ble_eq_true rfl, Nat.le_of_ble_eq_true rfl⟩) hP hD hS hA (fun _ _ h9 => h9.2.symm) (fun r9 u9 H locs hw hp hd hs => ?_)
  obtain ⟨rfl, -⟩ := hw
  clear hP hD hS
  have hP := hp; have hD := hd; have hS := hs; clear hp hd hs
  refine lv_if_ne (tgt := 14) hx hb dX10_asks_9 (by decide) (fun c9 => ?_) (fun c9 => ?_)
  · rw [if_neg c9] at h
    refine lv_aload_n hx hb dX10_asks_14 rfl (lv_at hl 0 rfl) ?_
    refine lv_iload_n hx hb dX10_asks_15 rfl (lv_at hl 1 rfl) ?_
    refine lv_aload_n hx hb dX10_asks_16 rfl (lv_at hl 0 rfl) ?_
    refine va_get (D := D) (ci := 10) (v := .ref (ad 2)) (C := RX10) (T := TX10) (N := 56) hx hb hts u9_wsX10_asks_X10 hown hK hP 0 rfl rfl 2 (by decide) (hts (.fieldLink RX10 28 "TurnedFloorsModel" "kept" "[I") f9_wsX10_asks_77) (fun _ h9 => h9) rfl dX10_asks_17 ?_
    refine lv_iconst (v := 0) hx hb dX10_asks_20 (by decide) ?_
    refine va_iald hx hb hK hP 2 0 rfl rfl (by simp only [vp_in]; decide) dX10_asks_21 ?_
    refine kz_topi (q3.1 2 0) (congrArg (q3.1 2) (by decide +kernel : Int32.toNatClampNeg 0 = 0)) ?_
    refine lv_aload_n hx hb dX10_asks_22 rfl (lv_at hl 0 rfl) ?_
    refine lv_iload_n hx hb dX10_asks_23 rfl (lv_at hl 1 rfl) ?_
    obtain ⟨r6, q8, h7, h⟩ := dB_some h
    refine dw_ki (va_runV (As := [.int p1]) (rest := [.int (q3.1 2 0), .int p1, .ref (ad 0)]) ⟨hx, hb, hml, hown, hts⟩ (qX10_rankBelow l D ty eo _ ad q3 p1 r6 q8 h7) (cwV 1 hts gX10_asks_X10_rankBelow rfl rfl rfl (by decide +kernel) ⟨Nat.le_of_ble_eq_true rfl, Nat.le_of_ble_eq_true rfl⟩) (dw_preV (ci := 10) (q0 := 0) hK hN hE hP hD hS hA rfl rfl) rfl rfl hl.1 rfl (lv_room (Nat.le_of_ble_eq_true rfl)) dX10_asks_24 ⟨Nat.le_of_ble_eq_true rfl, Nat.le_of_ble_eq_true rfl⟩) hD hS hA (fun r9 u9 H locs hw hp hd hs => ?_)
    clear hP hD hS
    obtain ⟨rfl, rfl⟩ := hw
    have hP := hp; have hD := hd; have hS := hs; clear hp hd hs
    refine lv_aload_n hx hb dX10_asks_27 rfl (lv_at hl 0 rfl) ?_
    refine va_get (D := D) (ci := 10) (v := .ref (ad 2)) (C := RX10) (T := TX10) (N := 56) hx hb hts u9_wsX10_asks_X10 hown hK hP 0 rfl rfl 2 (by decide) (hts (.fieldLink RX10 28 "TurnedFloorsModel" "kept" "[I") f9_wsX10_asks_77) (fun _ h9 => h9) rfl dX10_asks_28 ?_
    refine lv_bipush (v := 6) hx hb dX10_asks_31 (by decide) ?_
    refine va_iald hx hb hK hP 2 0 rfl rfl (by simp only [vp_in]; decide) dX10_asks_33 ?_
    refine kz_topi (q8.1 2 6) (congrArg (q8.1 2) (by decide +kernel : Int32.toNatClampNeg 6 = 6)) ?_
    obtain ⟨q11, h10, h⟩ := dV_some h
    refine dw_kv (va_runV (As := [.int p1, .int (q3.1 2 0), .int r6, .int (q8.1 2 6)]) (rest := []) ⟨hx, hb, hml, hown, hts⟩ (qX10_setsTurn l D ty eo _ ad q8 p1 (q3.1 2 0) r6 (q8.1 2 6) q11 h10) (cwV 4 hts gX10_asks_X10_setsTurn rfl rfl rfl (by decide +kernel) ⟨Nat.le_of_ble_eq_true rfl, Nat.le_of_ble_eq_true rfl⟩) (dw_preV (ci := 10) (q0 := 0) hK hN hE hP hD hS hA rfl rfl) rfl rfl hl.1 rfl (lv_room (Nat.le_of_ble_eq_true rfl)) dX10_asks_34 ⟨Nat.le_of_ble_eq_true rfl, Nat.le_of_ble_eq_true rfl⟩) hD hS hA (fun u9 H locs hw hp hd hs => ?_)
    clear hP hD hS
    obtain rfl := hw
    have hP := hp; have hD := hd; have hS := hs; clear hp hd hs
    refine lv_iload_n hx hb dX10_asks_37 rfl (lv_at hl 2 rfl) ?_
    by_cases c12 : p2 = 0
    · rw [if_pos c12] at h
      refine lv_lookup (off := 26) (tgt := 64) hx hb dX10_asks_38 (by decide) (by rw [c12]; decide) (by decide) ?_
      refine lv_aload_n hx hb dX10_asks_64 rfl (lv_at hl 0 rfl) ?_
      obtain ⟨r13, q15, h14, h⟩ := dB_some h
      refine dw_ki (va_runV (As := []) (rest := []) ⟨hx, hb, hml, hown, hts⟩ (qX10_paysNow l D ty eo _ ad q11  r13 q15 h14) (cwV 0 hts gX10_asks_X10_paysNow rfl rfl rfl (by decide +kernel) ⟨Nat.le_of_ble_eq_true rfl, Nat.le_of_ble_eq_true rfl⟩) (dw_preV (ci := 10) (q0 := 0) hK hN hE hP hD hS hA rfl rfl) rfl rfl hl.1 rfl (lv_room (Nat.le_of_ble_eq_true rfl)) dX10_asks_65 ⟨Nat.le_of_ble_eq_true rfl, Nat.le_of_ble_eq_true rfl⟩) hD hS hA (fun r9 u9 H locs hw hp hd hs => ?_)
      clear hP hD hS
      obtain ⟨rfl, rfl⟩ := hw
      have hP := hp; have hD := hd; have hS := hs; clear hp hd hs
      cases h
      exact kz_iret hx hb hr hlocks hP hK hD hS dX10_asks_68 ⟨rfl, rfl⟩
    rw [if_neg c12] at h
    by_cases c16 : p2 = 1
    · rw [if_pos c16] at h
      refine lv_lookup (off := 31) (tgt := 69) hx hb dX10_asks_38 (by decide) (by rw [c16]; decide) (by decide) ?_
      refine lv_aload_n hx hb dX10_asks_69 rfl (lv_at hl 0 rfl) ?_
      refine lv_iconst (v := 2) hx hb dX10_asks_70 (by decide) ?_
      obtain ⟨r17, q19, h18, h⟩ := dB_some h
      refine dw_ki (va_runV (As := [.int 2]) (rest := []) ⟨hx, hb, hml, hown, hts⟩ (qX10_isNow l D ty eo _ ad q11 2 r17 q19 h18) (cwV 1 hts gX10_asks_X10_isNow rfl rfl rfl (by decide +kernel) ⟨Nat.le_of_ble_eq_true rfl, Nat.le_of_ble_eq_true rfl⟩) (dw_preV (ci := 10) (q0 := 0) hK hN hE hP hD hS hA rfl rfl) rfl rfl hl.1 rfl (lv_room (Nat.le_of_ble_eq_true rfl)) dX10_asks_71 ⟨Nat.le_of_ble_eq_true rfl, Nat.le_of_ble_eq_true rfl⟩) hD hS hA (fun r9 u9 H locs hw hp hd hs => ?_)
      clear hP hD hS
      obtain ⟨rfl, rfl⟩ := hw
      have hP := hp; have hD := hd; have hS := hs; clear hp hd hs
      refine lv_if_eq (tgt := 81) hx hb dX10_asks_74 (by decide) (fun c9 => ?_) (fun c9 => ?_)
      · rw [if_pos c9] at h
        refine lv_iconst (v := 0) hx hb dX10_asks_81 (by decide) ?_
        exact WX10_asks_82 C  _ _ _ _ _ h hP hD hS (lv_sub hl [] rfl)
      · rw [if_neg c9] at h
        refine lv_iconst (v := 1) hx hb dX10_asks_77 (by decide) ?_
        refine lv_goto (tgt := 82) hx hb dX10_asks_78 (by decide) ?_
        exact WX10_asks_82 C  _ _ _ _ _ h hP hD hS (lv_sub hl [] rfl)
    rw [if_neg c16] at h
    refine lv_lookup (off := 45) (tgt := 83) hx hb dX10_asks_38 (by decide) (by simp only [← Int32.toInt_inj, Int32.reduceToInt] at c12 c16; first | (simp [Op.lookupswitch.offset, c12, c16]; done) | (simp [Op.lookupswitch.offset]; omega)) (by decide) ?_
    refine lv_iconst (v := (-1)) hx hb dX10_asks_83 (by decide) ?_
    cases h
    exact kz_iret hx hb hr hlocks hP hK hD hS dX10_asks_84 ⟨rfl, rfl⟩
  · rw [if_pos c9] at h
    refine lv_iconst (v := (-1)) hx hb dX10_asks_12 (by decide) ?_
    cases h
    exact kz_iret hx hb hr hlocks hP hK hD hS dX10_asks_13 ⟨rfl, rfl⟩

set_option maxHeartbeats 4000000 in
set_option maxRecDepth 100000 in
theorem qX10_isTerm (l : Launch) (D : va_G) (ty : Nat → ClassId) (eo : Nat → Nat) (sz : Nat) (p1 : Int32) (p2 : Int32) (o1 : Int32) (h : zX10_isTerm p1 p2 = some o1) : Met l yX10_isTerm wsX10_isTerm ({ frames := 2, cells := 0, slots := 0, locals := 42 } : Room) (va_Pc [.int p1, .int p2] (kz_pre D ty eo (([] : va_W)) sz)) (va_Qi (fun (r : Int32) (u : va_W) => o1 = r ∧ ([] : va_W) = u) (kz_B D ty (va_A (([] : va_W)) sz)) (va_A (([] : va_W)) sz)) 0 0 (va_A (([] : va_W)) sz) := by
  refine Met.ofW (cc := cX10_isTerm) (maxL := 2) (ret := (some .boolean)) (by decide) rfl ?_
  intro p e s m args below meth c s₁ B hml hv
  obtain ⟨rfl, hsz, hP, hK, hD0, hN, hE⟩ := hv
  have hx := B.exec
  have hb := B.bytes
  have hr := B.returns
  have hts := atoms_spec (ws := wsX10_isTerm) B.pre
  have hown : s.vm.findClass RX10 = some m.cls := findClass_of_methodNamed B.named
  have hlocks := B.notSynchronized
  subst hsz
  have hD := hD0.self (sz := s.heap.size)
  generalize hAe : va_A (([] : va_W)) s.heap.size = A at hD hE ⊢
  have hA : ∀ q : Nat, s.heap.size ≤ q → A q := fun q h => by rw [← hAe]; exact Or.inr h
  clear hAe
  have hS : va_S A s.heap s.heap [] := va_S.rf
  have hl := lv_entry ([.int p1, .int p2]) (n := 2) (Nat.le_of_ble_eq_true rfl)
  rw [lg_entry_eq]
  generalize (lg_sl ([.int p1, .int p2]) ++ List.replicate (2 - (lg_sl ([.int p1, .int p2])).length) Slot.unset).toArray = ls at hl ⊢
  have hl : lv_has ls 2 [(0, .int p1), (1, .int p2)] := hl
  have C : dc_C p s m _ meth c cX10_isTerm (some .boolean) 2 RX10 wsX10_isTerm D ty eo A := ⟨hx, hb, hr, hts, hown, hlocks, hml, hK, hN, hE, hA⟩
  unfold zX10_isTerm at h
  refine lv_iload_n hx hb dX10_isTerm_0 rfl (lv_at hl 0 rfl) ?_
  by_cases c1 : p1 = 0
  · rw [if_pos c1] at h
    refine lv_tableIn (off := 31) (tgt := 32) hx hb dX10_isTerm_1 (by rw [c1]; decide) (by rw [c1]; decide) (by rw [c1]; decide) (by decide) ?_
    refine lv_iload_n hx hb dX10_isTerm_32 rfl (lv_at hl 1 rfl) ?_
    refine lv_iconst (v := 0) hx hb dX10_isTerm_33 (by decide) ?_
    refine lv_sipush (v := 999) hx hb dX10_isTerm_34 (by decide) ?_
    obtain ⟨r2, h3, h⟩ := dV_some h
    refine dw_ks (va_runS (As := [.int p2, .int 0, .int 999]) (rest := []) ⟨hx, hb, hml, hown, hts⟩ (qX10_lies l D ty eo _ p2 0 999 _ h3) (va_cwS 3 hts gX10_isTerm_X10_lies rfl rfl rfl (by decide +kernel) ⟨Nat.le_of_ble_eq_true rfl, Nat.le_of_ble_eq_true rfl⟩) (kz_preS hK hN hE hP hD hS hA [] (by decide) rfl) rfl rfl hl.1 rfl (lv_room (Nat.le_of_ble_eq_true rfl)) dX10_isTerm_37 ⟨Nat.le_of_ble_eq_true rfl, Nat.le_of_ble_eq_true rfl⟩) hP hD hS hA (fun _ _ h9 => h9.2.symm) (fun r9 u9 H locs hw hp hd hs => ?_)
    obtain ⟨rfl, -⟩ := hw
    clear hP hD hS
    have hP := hp; have hD := hd; have hS := hs; clear hp hd hs
    obtain ⟨g4, h⟩ := dG_some h
    cases h
    exact kz_zret hx hb hr hlocks (dbl_nar g4) hP hK hD hS dX10_isTerm_40 ⟨rfl, rfl⟩
  rw [if_neg c1] at h
  by_cases c5 : p1 = 1
  · rw [if_pos c5] at h
    refine lv_tableIn (off := 40) (tgt := 41) hx hb dX10_isTerm_1 (by rw [c5]; decide) (by rw [c5]; decide) (by rw [c5]; decide) (by decide) ?_
    refine lv_iload_n hx hb dX10_isTerm_41 rfl (lv_at hl 1 rfl) ?_
    refine lv_iconst (v := 0) hx hb dX10_isTerm_42 (by decide) ?_
    refine lv_bipush (v := 10) hx hb dX10_isTerm_43 (by decide) ?_
    obtain ⟨r6, h7, h⟩ := dV_some h
    refine dw_ks (va_runS (As := [.int p2, .int 0, .int 10]) (rest := []) ⟨hx, hb, hml, hown, hts⟩ (qX10_lies l D ty eo _ p2 0 10 _ h7) (va_cwS 3 hts gX10_isTerm_X10_lies rfl rfl rfl (by decide +kernel) ⟨Nat.le_of_ble_eq_true rfl, Nat.le_of_ble_eq_true rfl⟩) (kz_preS hK hN hE hP hD hS hA [] (by decide) rfl) rfl rfl hl.1 rfl (lv_room (Nat.le_of_ble_eq_true rfl)) dX10_isTerm_45 ⟨Nat.le_of_ble_eq_true rfl, Nat.le_of_ble_eq_true rfl⟩) hP hD hS hA (fun _ _ h9 => h9.2.symm) (fun r9 u9 H locs hw hp hd hs => ?_)
    obtain ⟨rfl, -⟩ := hw
    clear hP hD hS
    have hP := hp; have hD := hd; have hS := hs; clear hp hd hs
    obtain ⟨g8, h⟩ := dG_some h
    cases h
    exact kz_zret hx hb hr hlocks (dbl_nar g8) hP hK hD hS dX10_isTerm_48 ⟨rfl, rfl⟩
  rw [if_neg c5] at h
  by_cases c9 : p1 = 2
  · rw [if_pos c9] at h
    refine lv_tableIn (off := 48) (tgt := 49) hx hb dX10_isTerm_1 (by rw [c9]; decide) (by rw [c9]; decide) (by rw [c9]; decide) (by decide) ?_
    refine lv_iload_n hx hb dX10_isTerm_49 rfl (lv_at hl 1 rfl) ?_
    refine lv_iconst (v := 0) hx hb dX10_isTerm_50 (by decide) ?_
    refine lv_bipush (v := 9) hx hb dX10_isTerm_51 (by decide) ?_
    obtain ⟨r10, h11, h⟩ := dV_some h
    refine dw_ks (va_runS (As := [.int p2, .int 0, .int 9]) (rest := []) ⟨hx, hb, hml, hown, hts⟩ (qX10_lies l D ty eo _ p2 0 9 _ h11) (va_cwS 3 hts gX10_isTerm_X10_lies rfl rfl rfl (by decide +kernel) ⟨Nat.le_of_ble_eq_true rfl, Nat.le_of_ble_eq_true rfl⟩) (kz_preS hK hN hE hP hD hS hA [] (by decide) rfl) rfl rfl hl.1 rfl (lv_room (Nat.le_of_ble_eq_true rfl)) dX10_isTerm_53 ⟨Nat.le_of_ble_eq_true rfl, Nat.le_of_ble_eq_true rfl⟩) hP hD hS hA (fun _ _ h9 => h9.2.symm) (fun r9 u9 H locs hw hp hd hs => ?_)
    obtain ⟨rfl, -⟩ := hw
    clear hP hD hS
    have hP := hp; have hD := hd; have hS := hs; clear hp hd hs
    obtain ⟨g12, h⟩ := dG_some h
    cases h
    exact kz_zret hx hb hr hlocks (dbl_nar g12) hP hK hD hS dX10_isTerm_56 ⟨rfl, rfl⟩
  rw [if_neg c9] at h
  by_cases c13 : p1 = 3
  · rw [if_pos c13] at h
    refine lv_tableIn (off := 56) (tgt := 57) hx hb dX10_isTerm_1 (by rw [c13]; decide) (by rw [c13]; decide) (by rw [c13]; decide) (by decide) ?_
    refine lv_iload_n hx hb dX10_isTerm_57 rfl (lv_at hl 1 rfl) ?_
    obtain ⟨r14, h15, h⟩ := dV_some h
    refine dw_ks (va_runS (As := [.int p2]) (rest := []) ⟨hx, hb, hml, hown, hts⟩ (qX10_isBit l D ty eo _ p2 _ h15) (va_cwS 1 hts gX10_isTerm_X10_isBit rfl rfl rfl (by decide +kernel) ⟨Nat.le_of_ble_eq_true rfl, Nat.le_of_ble_eq_true rfl⟩) (kz_preS hK hN hE hP hD hS hA [] (by decide) rfl) rfl rfl hl.1 rfl (lv_room (Nat.le_of_ble_eq_true rfl)) dX10_isTerm_58 ⟨Nat.le_of_ble_eq_true rfl, Nat.le_of_ble_eq_true rfl⟩) hP hD hS hA (fun _ _ h9 => h9.2.symm) (fun r9 u9 H locs hw hp hd hs => ?_)
    obtain ⟨rfl, -⟩ := hw
    clear hP hD hS
    have hP := hp; have hD := hd; have hS := hs; clear hp hd hs
    obtain ⟨g16, h⟩ := dG_some h
    cases h
    exact kz_zret hx hb hr hlocks (dbl_nar g16) hP hK hD hS dX10_isTerm_61 ⟨rfl, rfl⟩
  rw [if_neg c13] at h
  refine lv_tableOut (tgt := 62) hx hb dX10_isTerm_1 (by simp only [← Int32.toInt_inj, Int32.reduceToInt] at c1 c5 c9 c13; omega) (by decide) ?_
  refine lv_iconst (v := 0) hx hb dX10_isTerm_62 (by decide) ?_
  cases h
  exact kz_zret hx hb hr hlocks rfl hP hK hD hS dX10_isTerm_63 ⟨rfl, rfl⟩

set_option maxHeartbeats 4000000 in
set_option maxRecDepth 100000 in
theorem WX10_termAt_31 {p : Program} {l : Launch} {e : Env} {s : State} {m : MethodId} {args : Array Value} {below : List Frame} {meth : Method} {c : Code} {D : va_G} {ty : Nat → ClassId} {eo : Nat → Nat} {A : Nat → Prop} {o1 : Int32} (C : dc_C p s m args meth c cX10_termAt (some .int) 1 RX10 wsX10_termAt D ty eo A)   (y0 : Int32) (H : Heap) (locs : List Loc) (ls : Array Slot) (h : zX10_termAt_31  y0 = some o1) (hP : va_P D vwCl (([] : va_W)) H) (hD : va_D A (([] : va_W))) (hS : va_S A s.heap H locs) (hl : lv_has ls 1 []) : W p l e ({ frames := 0, cells := 0, slots := 0, locals := 0 } : Room) s m args below meth c H locs 0 0 (MQ below (va_Qi (fun (r : Int32) (u : va_W) => o1 = r ∧ ([] : va_W) = u) (kz_B D ty A) A) args s 0 0 A) (F0 m 31 ls [.int y0]) := by
  have C0 := C
  obtain ⟨hx, hb, hr, hts, hown, hlocks, hml, hK, hN, hE, hA⟩ := C
  unfold zX10_termAt_31 at h
  cases h
  exact kz_iret hx hb hr hlocks hP hK hD hS dX10_termAt_31 ⟨rfl, rfl⟩
set_option maxHeartbeats 4000000 in
set_option maxRecDepth 100000 in
theorem qX10_termAt (l : Launch) (D : va_G) (ty : Nat → ClassId) (eo : Nat → Nat) (sz : Nat) (p1 : Int32) (o1 : Int32) (h : zX10_termAt p1 = some o1) : Met l yX10_termAt wsX10_termAt ({ frames := 0, cells := 0, slots := 0, locals := 0 } : Room) (va_Pc [.int p1] (kz_pre D ty eo (([] : va_W)) sz)) (va_Qi (fun (r : Int32) (u : va_W) => o1 = r ∧ ([] : va_W) = u) (kz_B D ty (va_A (([] : va_W)) sz)) (va_A (([] : va_W)) sz)) 0 0 (va_A (([] : va_W)) sz) := by
  refine Met.ofW (cc := cX10_termAt) (maxL := 1) (ret := (some .int)) (by decide) rfl ?_
  intro p e s m args below meth c s₁ B hml hv
  obtain ⟨rfl, hsz, hP, hK, hD0, hN, hE⟩ := hv
  have hx := B.exec
  have hb := B.bytes
  have hr := B.returns
  have hts := atoms_spec (ws := wsX10_termAt) B.pre
  have hown : s.vm.findClass RX10 = some m.cls := findClass_of_methodNamed B.named
  have hlocks := B.notSynchronized
  subst hsz
  have hD := hD0.self (sz := s.heap.size)
  generalize hAe : va_A (([] : va_W)) s.heap.size = A at hD hE ⊢
  have hA : ∀ q : Nat, s.heap.size ≤ q → A q := fun q h => by rw [← hAe]; exact Or.inr h
  clear hAe
  have hS : va_S A s.heap s.heap [] := va_S.rf
  have hl := lv_entry ([.int p1]) (n := 1) (Nat.le_of_ble_eq_true rfl)
  rw [lg_entry_eq]
  generalize (lg_sl ([.int p1]) ++ List.replicate (1 - (lg_sl ([.int p1])).length) Slot.unset).toArray = ls at hl ⊢
  have hl : lv_has ls 1 [(0, .int p1)] := hl
  have C : dc_C p s m _ meth c cX10_termAt (some .int) 1 RX10 wsX10_termAt D ty eo A := ⟨hx, hb, hr, hts, hown, hlocks, hml, hK, hN, hE, hA⟩
  unfold zX10_termAt at h
  refine lv_iload_n hx hb dX10_termAt_0 rfl (lv_at hl 0 rfl) ?_
  refine lv_if_ne (tgt := 9) hx hb dX10_termAt_1 (by decide) (fun c9 => ?_) (fun c9 => ?_)
  · rw [if_neg c9] at h
    refine lv_iload_n hx hb dX10_termAt_9 rfl (lv_at hl 0 rfl) ?_
    refine lv_iconst (v := 1) hx hb dX10_termAt_10 (by decide) ?_
    refine lv_icmp_ne (tgt := 19) hx hb dX10_termAt_11 (by decide) (fun c9 => ?_) (fun c9 => ?_)
    · rw [if_neg c9] at h
      refine lv_iload_n hx hb dX10_termAt_19 rfl (lv_at hl 0 rfl) ?_
      refine lv_iconst (v := 2) hx hb dX10_termAt_20 (by decide) ?_
      refine lv_icmp_ne (tgt := 29) hx hb dX10_termAt_21 (by decide) (fun c9 => ?_) (fun c9 => ?_)
      · rw [if_neg c9] at h
        refine lv_bipush (v := 28) hx hb dX10_termAt_29 (by decide) ?_
        exact WX10_termAt_31 C  _ _ _ _ h hP hD hS (lv_sub hl [] rfl)
      · rw [if_pos c9] at h
        refine lv_bipush (v := 27) hx hb dX10_termAt_24 (by decide) ?_
        refine lv_goto (tgt := 31) hx hb dX10_termAt_26 (by decide) ?_
        exact WX10_termAt_31 C  _ _ _ _ h hP hD hS (lv_sub hl [] rfl)
    · rw [if_pos c9] at h
      refine lv_bipush (v := 26) hx hb dX10_termAt_14 (by decide) ?_
      refine lv_goto (tgt := 31) hx hb dX10_termAt_16 (by decide) ?_
      exact WX10_termAt_31 C  _ _ _ _ h hP hD hS (lv_sub hl [] rfl)
  · rw [if_pos c9] at h
    refine lv_bipush (v := 13) hx hb dX10_termAt_4 (by decide) ?_
    refine lv_goto (tgt := 31) hx hb dX10_termAt_6 (by decide) ?_
    exact WX10_termAt_31 C  _ _ _ _ h hP hD hS (lv_sub hl [] rfl)

set_option maxHeartbeats 4000000 in
set_option maxRecDepth 100000 in
theorem qX10_terms (l : Launch) (D : va_G) (ty : Nat → ClassId) (eo : Nat → Nat) (sz : Nat) (ad : Nat → Nat) (q : dS) (p1 : Int32) (p2 : Int32) (o1 : Int32) (o2 : dS) (h : zX10_terms q p1 p2 = some (o1, o2)) : Met l yX10_terms wsX10_terms ({ frames := 3, cells := 0, slots := 0, locals := 63 } : Room) (va_Pc [.ref (ad 0), .int p1, .int p2] (kz_pre D ty eo (w10 ty ad q) sz)) (va_Qi (fun (r : Int32) (u : va_W) => o1 = r ∧ w10 ty ad o2 = u) (kz_B D ty (va_A (w10 ty ad q) sz)) (va_A (w10 ty ad q) sz)) 0 0 (va_A (w10 ty ad q) sz) := by
  refine Met.ofW (cc := cX10_terms) (maxL := 4) (ret := (some .int)) (by decide) rfl ?_
  intro p e s m args below meth c s₁ B hml hv
  obtain ⟨rfl, hsz, hP, hK, hD0, hN, hE⟩ := hv
  have hx := B.exec
  have hb := B.bytes
  have hr := B.returns
  have hts := atoms_spec (ws := wsX10_terms) B.pre
  have hown : s.vm.findClass RX10 = some m.cls := findClass_of_methodNamed B.named
  have hlocks := B.notSynchronized
  subst hsz
  have hD := hD0.self (sz := s.heap.size)
  generalize hAe : va_A (w10 ty ad q) s.heap.size = A at hD hE ⊢
  have hA : ∀ q : Nat, s.heap.size ≤ q → A q := fun q h => by rw [← hAe]; exact Or.inr h
  clear hAe
  have hS : va_S A s.heap s.heap [] := va_S.rf
  have hl := lv_entry ([.ref (ad 0), .int p1, .int p2]) (n := 4) (Nat.le_of_ble_eq_true rfl)
  rw [lg_entry_eq]
  generalize (lg_sl ([.ref (ad 0), .int p1, .int p2]) ++ List.replicate (4 - (lg_sl ([.ref (ad 0), .int p1, .int p2])).length) Slot.unset).toArray = ls at hl ⊢
  have hl : lv_has ls 4 [(0, .ref (ad 0)), (1, .int p1), (2, .int p2)] := hl
  have C : dc_C p s m _ meth c cX10_terms (some .int) 4 RX10 wsX10_terms D ty eo A := ⟨hx, hb, hr, hts, hown, hlocks, hml, hK, hN, hE, hA⟩
  unfold zX10_terms at h
  refine lv_iload_n hx hb dX10_terms_0 rfl (lv_at hl 1 rfl) ?_
  refine lv_iload_n hx hb dX10_terms_1 rfl (lv_at hl 2 rfl) ?_
  obtain ⟨r1, h2, h⟩ := dV_some h
  refine dw_ks (va_runS (As := [.int p1, .int p2]) (rest := []) ⟨hx, hb, hml, hown, hts⟩ (qX10_isTerm l D ty eo _ p1 p2 _ h2) (va_cwS 2 hts gX10_terms_X10_isTerm rfl rfl rfl (by decide +kernel) ⟨Nat.le_of_ble_eq_true rfl, Nat.le_of_ble_eq_true rfl⟩) (kz_preS hK hN hE hP hD hS hA [] (by decide) rfl) rfl rfl hl.1 rfl (lv_room (Nat.le_of_ble_eq_true rfl)) dX10_terms_2 ⟨Nat.le_of_ble_eq_true rfl, Nat.le_of_ble_eq_true rfl⟩) hP hD hS hA (fun _ _ h9 => h9.2.symm) (fun r9 u9 H locs hw hp hd hs => ?_)
  obtain ⟨rfl, -⟩ := hw
  clear hP hD hS
  have hP := hp; have hD := hd; have hS := hs; clear hp hd hs
  refine lv_if_ne (tgt := 14) hx hb dX10_terms_5 (by decide) (fun c9 => ?_) (fun c9 => ?_)
  · rw [if_neg c9] at h
    refine lv_aload_n hx hb dX10_terms_14 rfl (lv_at hl 0 rfl) ?_
    refine va_get (D := D) (ci := 10) (v := .ref (ad 2)) (C := RX10) (T := TX10) (N := 56) hx hb hts u9_wsX10_terms_X10 hown hK hP 0 rfl rfl 2 (by decide) (hts (.fieldLink RX10 28 "TurnedFloorsModel" "kept" "[I") f9_wsX10_terms_79) (fun _ h9 => h9) rfl dX10_terms_15 ?_
    refine lv_iload_n hx hb dX10_terms_18 rfl (lv_at hl 1 rfl) ?_
    obtain ⟨r3, h4, h⟩ := dV_some h
    refine dw_ks (va_runS (As := [.int p1]) (rest := [.ref (ad 2)]) ⟨hx, hb, hml, hown, hts⟩ (qX10_termAt l D ty eo _ p1 _ h4) (va_cwS 1 hts gX10_terms_X10_termAt rfl rfl rfl (by decide +kernel) ⟨Nat.le_of_ble_eq_true rfl, Nat.le_of_ble_eq_true rfl⟩) (kz_preS hK hN hE hP hD hS hA [] (by decide) rfl) rfl rfl hl.1 rfl (lv_room (Nat.le_of_ble_eq_true rfl)) dX10_terms_19 ⟨Nat.le_of_ble_eq_true rfl, Nat.le_of_ble_eq_true rfl⟩) hP hD hS hA (fun _ _ h9 => h9.2.symm) (fun r9 u9 H locs hw hp hd hs => ?_)
    obtain ⟨rfl, -⟩ := hw
    clear hP hD hS
    have hP := hp; have hD := hd; have hS := hs; clear hp hd hs
    obtain ⟨g5, h⟩ := dG_some h
    refine va_iald hx hb hK hP 2 0 rfl rfl (dg_in g5) dX10_terms_22 ?_
    obtain ⟨v6, ev6, h⟩ := dL_some h
    refine kz_topi v6 ev6 ?_
    refine lv_istore_n (lv' := [(3, .int v6), (0, .ref (ad 0)), (1, .int p1), (2, .int p2)]) hx hb dX10_terms_23 rfl hl (by decide) rfl (fun ls hl => ?_)
    refine lv_aload_n hx hb dX10_terms_24 rfl (lv_at hl 1 rfl) ?_
    refine va_get (D := D) (ci := 10) (v := .ref (ad 2)) (C := RX10) (T := TX10) (N := 56) hx hb hts u9_wsX10_terms_X10 hown hK hP 0 rfl rfl 2 (by decide) (hts (.fieldLink RX10 28 "TurnedFloorsModel" "kept" "[I") f9_wsX10_terms_79) (fun _ h9 => h9) rfl dX10_terms_25 ?_
    refine lv_iload_n hx hb dX10_terms_28 rfl (lv_at hl 2 rfl) ?_
    obtain ⟨r7, h8, h⟩ := dV_some h
    refine dw_ks (va_runS (As := [.int p1]) (rest := [.ref (ad 2)]) ⟨hx, hb, hml, hown, hts⟩ (qX10_termAt l D ty eo _ p1 _ h8) (va_cwS 1 hts gX10_terms_X10_termAt rfl rfl rfl (by decide +kernel) ⟨Nat.le_of_ble_eq_true rfl, Nat.le_of_ble_eq_true rfl⟩) (kz_preS hK hN hE hP hD hS hA [] (by decide) rfl) rfl rfl hl.1 rfl (lv_room (Nat.le_of_ble_eq_true rfl)) dX10_terms_29 ⟨Nat.le_of_ble_eq_true rfl, Nat.le_of_ble_eq_true rfl⟩) hP hD hS hA (fun _ _ h9 => h9.2.symm) (fun r9 u9 H locs hw hp hd hs => ?_)
    obtain ⟨rfl, -⟩ := hw
    clear hP hD hS
    have hP := hp; have hD := hd; have hS := hs; clear hp hd hs
    refine lv_iload_n hx hb dX10_terms_32 rfl (lv_at hl 3 rfl) ?_
    obtain ⟨g9, h⟩ := dG_some h
    refine va_iast hx hb hK hP hD hS 2 0 rfl rfl (dg_in g9) dX10_terms_33 (fun H locs hp hd hs => ?_)
    obtain ⟨q10, eq10, h⟩ := dL_some h
    refine kz_re (w2 := w10 ty ad q10) hp hd hs (by rw [← eq10]; exact w10_a2 ty ad q (Int32.toNatClampNeg r7) p2) ?_
    clear hp hd hs hP hD hS
    intro hP hD hS
    refine lv_aload_n hx hb dX10_terms_34 rfl (lv_at hl 1 rfl) ?_
    refine lv_iload_n hx hb dX10_terms_35 rfl (lv_at hl 0 rfl) ?_
    obtain ⟨r11, q13, h12, h⟩ := dB_some h
    refine dw_ki (va_runV (As := [.int v6]) (rest := []) ⟨hx, hb, hml, hown, hts⟩ (qX10_settled l D ty eo _ ad q10 v6 r11 q13 h12) (cwV 1 hts gX10_terms_X10_settled rfl rfl rfl (by decide +kernel) ⟨Nat.le_of_ble_eq_true rfl, Nat.le_of_ble_eq_true rfl⟩) (dw_preV (ci := 10) (q0 := 0) hK hN hE hP hD hS hA rfl rfl) rfl rfl hl.1 rfl (lv_room (Nat.le_of_ble_eq_true rfl)) dX10_terms_36 ⟨Nat.le_of_ble_eq_true rfl, Nat.le_of_ble_eq_true rfl⟩) hD hS hA (fun r9 u9 H locs hw hp hd hs => ?_)
    clear hP hD hS
    obtain ⟨rfl, rfl⟩ := hw
    have hP := hp; have hD := hd; have hS := hs; clear hp hd hs
    cases h
    exact kz_iret hx hb hr hlocks hP hK hD hS dX10_terms_39 ⟨rfl, rfl⟩
  · rw [if_pos c9] at h
    refine lv_aload_n hx hb dX10_terms_8 rfl (lv_at hl 0 rfl) ?_
    refine lv_iconst (v := (-1)) hx hb dX10_terms_9 (by decide) ?_
    obtain ⟨r14, q16, h15, h⟩ := dB_some h
    refine dw_ki (va_runV (As := [.int (-1)]) (rest := []) ⟨hx, hb, hml, hown, hts⟩ (qX10_refuses l D ty eo _ ad q (-1) r14 q16 h15) (cwV 1 hts gX10_terms_X10_refuses rfl rfl rfl (by decide +kernel) ⟨Nat.le_of_ble_eq_true rfl, Nat.le_of_ble_eq_true rfl⟩) (dw_preV (ci := 10) (q0 := 0) hK hN hE hP hD hS hA rfl rfl) rfl rfl hl.1 rfl (lv_room (Nat.le_of_ble_eq_true rfl)) dX10_terms_10 ⟨Nat.le_of_ble_eq_true rfl, Nat.le_of_ble_eq_true rfl⟩) hD hS hA (fun r9 u9 H locs hw hp hd hs => ?_)
    clear hP hD hS
    obtain ⟨rfl, rfl⟩ := hw
    have hP := hp; have hD := hd; have hS := hs; clear hp hd hs
    cases h
    exact kz_iret hx hb hr hlocks hP hK hD hS dX10_terms_13 ⟨rfl, rfl⟩
