section
theorem u9_wsX10_tells_X10 : ∀ w ∈ u_ws RX10 TX10 56, w ∈ wsX10_tells := fun w h => List.mem_cons_of_mem _ (vW10_wsX100 w h)
theorem f9_wsX10_tells_62 : (Cond.fieldLink RX10 278 "TurnedFloorsModel" "go" "I") ∈ wsX10_tells := List.mem_cons_of_mem _ mvW10_64
theorem f9_wsX10_tells_63 : (Cond.fieldLink RX10 288 "TurnedFloorsModel" "broken" "Z") ∈ wsX10_tells := List.mem_cons_of_mem _ mvW10_66
theorem f9_wsX10_tells_64 : (Cond.constantLong RX10 339 99) ∈ wsX10_tells := List.mem_cons_of_mem _ mvW10_67
theorem f9_wsX10_tells_65 : (Cond.fieldLink RX10 275 "TurnedFloorsModel" "goEnd" "I") ∈ wsX10_tells := List.mem_cons_of_mem _ mvW10_65
theorem f9_wsX10_tells_66 : (Cond.fieldLink RX10 28 "TurnedFloorsModel" "kept" "[I") ∈ wsX10_tells := List.mem_cons_of_mem _ mvW10_20
theorem f9_wsX10_tells_67 : (Cond.fieldLink RX10 308 "TurnedFloorsModel" "inOrders" "Z") ∈ wsX10_tells := List.mem_cons_of_mem _ mvW10_63
theorem u9_wsX10_at_X10 : ∀ w ∈ u_ws RX10 TX10 56, w ∈ wsX10_at := fun w h => List.mem_cons_of_mem _ (vW10_wsX100 w h)
theorem f9_wsX10_at_69 : (Cond.fieldLink RX10 28 "TurnedFloorsModel" "kept" "[I") ∈ wsX10_at := List.mem_cons_of_mem _ mvW10_20
theorem u9_wsX10_rankBelow_X10 : ∀ w ∈ u_ws RX10 TX10 56, w ∈ wsX10_rankBelow := fun w h => List.mem_cons_of_mem _ (vW10_wsX100 w h)
theorem f9_wsX10_rankBelow_71 : (Cond.fieldLink RX10 28 "TurnedFloorsModel" "kept" "[I") ∈ wsX10_rankBelow := List.mem_cons_of_mem _ mvW10_20
theorem u9_wsX10_setsTurn_X10 : ∀ w ∈ u_ws RX10 TX10 56, w ∈ wsX10_setsTurn := fun w h => List.mem_cons_of_mem _ (vW10_wsX100 w h)
theorem f9_wsX10_setsTurn_73 : (Cond.fieldLink RX10 63 "TurnedFloorsModel" "asked" "[I") ∈ wsX10_setsTurn := List.mem_cons_of_mem _ mvW10_50
theorem u9_wsX10_paysNow_X10 : ∀ w ∈ u_ws RX10 TX10 56, w ∈ wsX10_paysNow := fun w h => List.mem_cons_of_mem _ (vW10_wsX100 w h)
theorem f9_wsX10_paysNow_75 : (Cond.fieldLink RX10 63 "TurnedFloorsModel" "asked" "[I") ∈ wsX10_paysNow := List.mem_cons_of_mem _ mvW10_50
theorem u9_wsX10_asks_X10 : ∀ w ∈ u_ws RX10 TX10 56, w ∈ wsX10_asks := fun w h => List.mem_cons_of_mem _ (vW10_wsX100 w h)
theorem f9_wsX10_asks_77 : (Cond.fieldLink RX10 28 "TurnedFloorsModel" "kept" "[I") ∈ wsX10_asks := List.mem_cons_of_mem _ mvW10_20
theorem u9_wsX10_terms_X10 : ∀ w ∈ u_ws RX10 TX10 56, w ∈ wsX10_terms := fun w h => List.mem_cons_of_mem _ (vW10_wsX100 w h)
theorem f9_wsX10_terms_79 : (Cond.fieldLink RX10 28 "TurnedFloorsModel" "kept" "[I") ∈ wsX10_terms := List.mem_cons_of_mem _ mvW10_20
set_option maxHeartbeats 4000000 in
set_option maxRecDepth 100000 in
theorem WX10_testOf_45 {p : Program} {l : Launch} {e : Env} {s : State} {m : MethodId} {args : Array Value} {below : List Frame} {meth : Method} {c : Code} {D : va_G} {ty : Nat → ClassId} {eo : Nat → Nat} {A : Nat → Prop} {ad : Nat → Nat} {o1 : Int32} {o2 : dS} {kV : dS → Int32 → Option (Int32 × dS)} {nV : Nat} (hkV : ∀ (sz : Nat) (q : dS) (p1 : Int32) (o1 : Int32) (o2 : dS), kV q p1 = some (o1, o2) → Met l yX10_testOf wsX10_testOf ({ frames := 44 + 4 * nV, cells := 0, slots := 0, locals := 1210 + 94 * nV } : Room) (va_Pc [.ref (ad 0), .int p1] (kz_pre D ty eo (w10 ty ad q) sz)) (va_Qi (fun (r : Int32) (u : va_W) => o1 = r ∧ w10 ty ad o2 = u) (kz_B D ty (va_A (w10 ty ad q) sz)) (va_A (w10 ty ad q) sz)) 0 0 (va_A (w10 ty ad q) sz)) (C : dc_C p s m args meth c cX10_testOf (some .boolean) 4 RX10 wsX10_testOf D ty eo A) {k6 : dS → Int32 → Int32 → Option (Int32 × dS)} (hk6 : ∀ (q : dS) (x1 : Int32) (x2 : Int32) (H : Heap) (locs : List Loc) (ls : Array Slot), k6 q x1 x2 = some (o1, o2) → va_P D vwCl (w10 ty ad q) H → va_D A (w10 ty ad q) → va_S A s.heap H locs → lv_has ls 4 [(0, .ref (ad 0)), (1, .int x1), (2, .int x2)] → W p l e ({ frames := 44 + 4 * nV + 4, cells := 0, slots := 0, locals := 1210 + 94 * nV + 94 } : Room) s m args below meth c H locs 0 0 (MQ below (va_Qi (fun (r : Int32) (u : va_W) => o1 = r ∧ w10 ty ad o2 = u) (kz_B D ty A) A) args s 0 0 A) (F0 m 6 ls [])) (q : dS) (x1 : Int32) (y0 : Int32) (H : Heap) (locs : List Loc) (ls : Array Slot) (h : zX10_testOf_45 kV k6 q x1 y0 = some (o1, o2)) (hP : va_P D vwCl (w10 ty ad q) H) (hD : va_D A (w10 ty ad q)) (hS : va_S A s.heap H locs) (hl : lv_has ls 4 [(0, .ref (ad 0)), (1, .int x1)]) : W p l e ({ frames := 44 + 4 * nV + 4, cells := 0, slots := 0, locals := 1210 + 94 * nV + 94 } : Room) s m args below meth c H locs 0 0 (MQ below (va_Qi (fun (r : Int32) (u : va_W) => o1 = r ∧ w10 ty ad o2 = u) (kz_B D ty A) A) args s 0 0 A) (F0 m 45 ls [.int y0]) := by
  have C0 := C
  obtain ⟨hx, hb, hr, hts, hown, hlocks, hml, hK, hN, hE, hA⟩ := C
  unfold zX10_testOf_45 at h
  refine lv_istore_n (lv' := [(2, .int y0), (0, .ref (ad 0)), (1, .int x1)]) hx hb dX10_testOf_45 rfl hl (by decide) rfl (fun ls hl => ?_)
  refine lv_goto (tgt := 6) hx hb dX10_testOf_46 (by decide) ?_
  exact hk6 _ _ _ _ _ _ h hP hD hS (lv_sub hl [1, 2, 0] rfl)
set_option maxHeartbeats 4000000 in
set_option maxRecDepth 100000 in
theorem WX10_testOf_40 {p : Program} {l : Launch} {e : Env} {s : State} {m : MethodId} {args : Array Value} {below : List Frame} {meth : Method} {c : Code} {D : va_G} {ty : Nat → ClassId} {eo : Nat → Nat} {A : Nat → Prop} {ad : Nat → Nat} {o1 : Int32} {o2 : dS} {kV : dS → Int32 → Option (Int32 × dS)} {nV : Nat} (hkV : ∀ (sz : Nat) (q : dS) (p1 : Int32) (o1 : Int32) (o2 : dS), kV q p1 = some (o1, o2) → Met l yX10_testOf wsX10_testOf ({ frames := 44 + 4 * nV, cells := 0, slots := 0, locals := 1210 + 94 * nV } : Room) (va_Pc [.ref (ad 0), .int p1] (kz_pre D ty eo (w10 ty ad q) sz)) (va_Qi (fun (r : Int32) (u : va_W) => o1 = r ∧ w10 ty ad o2 = u) (kz_B D ty (va_A (w10 ty ad q) sz)) (va_A (w10 ty ad q) sz)) 0 0 (va_A (w10 ty ad q) sz)) (C : dc_C p s m args meth c cX10_testOf (some .boolean) 4 RX10 wsX10_testOf D ty eo A) {k6 : dS → Int32 → Int32 → Option (Int32 × dS)} (hk6 : ∀ (q : dS) (x1 : Int32) (x2 : Int32) (H : Heap) (locs : List Loc) (ls : Array Slot), k6 q x1 x2 = some (o1, o2) → va_P D vwCl (w10 ty ad q) H → va_D A (w10 ty ad q) → va_S A s.heap H locs → lv_has ls 4 [(0, .ref (ad 0)), (1, .int x1), (2, .int x2)] → W p l e ({ frames := 44 + 4 * nV + 4, cells := 0, slots := 0, locals := 1210 + 94 * nV + 94 } : Room) s m args below meth c H locs 0 0 (MQ below (va_Qi (fun (r : Int32) (u : va_W) => o1 = r ∧ w10 ty ad o2 = u) (kz_B D ty A) A) args s 0 0 A) (F0 m 6 ls [])) (q : dS) (x1 : Int32) (H : Heap) (locs : List Loc) (ls : Array Slot) (h : zX10_testOf_40 kV k6 q x1 = some (o1, o2)) (hP : va_P D vwCl (w10 ty ad q) H) (hD : va_D A (w10 ty ad q)) (hS : va_S A s.heap H locs) (hl : lv_has ls 4 [(0, .ref (ad 0)), (1, .int x1)]) : W p l e ({ frames := 44 + 4 * nV + 4, cells := 0, slots := 0, locals := 1210 + 94 * nV + 94 } : Room) s m args below meth c H locs 0 0 (MQ below (va_Qi (fun (r : Int32) (u : va_W) => o1 = r ∧ w10 ty ad o2 = u) (kz_B D ty A) A) args s 0 0 A) (F0 m 40 ls []) := by
  have C0 := C
  obtain ⟨hx, hb, hr, hts, hown, hlocks, hml, hK, hN, hE, hA⟩ := C
  unfold zX10_testOf_40 at h
  refine lv_iconst (v := 1) hx hb dX10_testOf_40 (by decide) ?_
  refine lv_goto (tgt := 45) hx hb dX10_testOf_41 (by decide) ?_
  exact WX10_testOf_45 hkV C0 hk6 _ _ _ _ _ _ h hP hD hS (lv_sub hl [0, 1] rfl)
set_option maxHeartbeats 4000000 in
set_option maxRecDepth 100000 in
theorem WX10_testOf_28 {p : Program} {l : Launch} {e : Env} {s : State} {m : MethodId} {args : Array Value} {below : List Frame} {meth : Method} {c : Code} {D : va_G} {ty : Nat → ClassId} {eo : Nat → Nat} {A : Nat → Prop} {ad : Nat → Nat} {o1 : Int32} {o2 : dS} {kV : dS → Int32 → Option (Int32 × dS)} {nV : Nat} (hkV : ∀ (sz : Nat) (q : dS) (p1 : Int32) (o1 : Int32) (o2 : dS), kV q p1 = some (o1, o2) → Met l yX10_testOf wsX10_testOf ({ frames := 44 + 4 * nV, cells := 0, slots := 0, locals := 1210 + 94 * nV } : Room) (va_Pc [.ref (ad 0), .int p1] (kz_pre D ty eo (w10 ty ad q) sz)) (va_Qi (fun (r : Int32) (u : va_W) => o1 = r ∧ w10 ty ad o2 = u) (kz_B D ty (va_A (w10 ty ad q) sz)) (va_A (w10 ty ad q) sz)) 0 0 (va_A (w10 ty ad q) sz)) (C : dc_C p s m args meth c cX10_testOf (some .boolean) 4 RX10 wsX10_testOf D ty eo A) {k6 : dS → Int32 → Int32 → Option (Int32 × dS)} (hk6 : ∀ (q : dS) (x1 : Int32) (x2 : Int32) (H : Heap) (locs : List Loc) (ls : Array Slot), k6 q x1 x2 = some (o1, o2) → va_P D vwCl (w10 ty ad q) H → va_D A (w10 ty ad q) → va_S A s.heap H locs → lv_has ls 4 [(0, .ref (ad 0)), (1, .int x1), (2, .int x2)] → W p l e ({ frames := 44 + 4 * nV + 4, cells := 0, slots := 0, locals := 1210 + 94 * nV + 94 } : Room) s m args below meth c H locs 0 0 (MQ below (va_Qi (fun (r : Int32) (u : va_W) => o1 = r ∧ w10 ty ad o2 = u) (kz_B D ty A) A) args s 0 0 A) (F0 m 6 ls [])) (q : dS) (x1 : Int32) (x2 : Int32) (y0 : Int32) (H : Heap) (locs : List Loc) (ls : Array Slot) (h : zX10_testOf_28 kV k6 q x1 x2 y0 = some (o1, o2)) (hP : va_P D vwCl (w10 ty ad q) H) (hD : va_D A (w10 ty ad q)) (hS : va_S A s.heap H locs) (hl : lv_has ls 4 [(0, .ref (ad 0)), (1, .int x1), (2, .int x2)]) : W p l e ({ frames := 44 + 4 * nV + 4, cells := 0, slots := 0, locals := 1210 + 94 * nV + 94 } : Room) s m args below meth c H locs 0 0 (MQ below (va_Qi (fun (r : Int32) (u : va_W) => o1 = r ∧ w10 ty ad o2 = u) (kz_B D ty A) A) args s 0 0 A) (F0 m 28 ls [.int y0, .ref (ad 0)]) := by
  have C0 := C
  obtain ⟨hx, hb, hr, hts, hown, hlocks, hml, hK, hN, hE, hA⟩ := C
  unfold zX10_testOf_28 at h
  obtain ⟨r1, q3, h2, h⟩ := dB_some h
  refine dw_ki (va_runV (As := [.int y0]) (rest := []) ⟨hx, hb, hml, hown, hts⟩ (qX10_bothOf l D ty eo _ ad kV nV hkV q y0 r1 q3 h2) (cwV 1 hts gX10_testOf_X10_bothOf rfl rfl rfl hd_X10_bothOf_v ⟨by dsimp only [headSpec]; omega, by dsimp only [headSpec]; omega⟩) (pv10_10_0 hK hN hE hP hD hS hA) rfl rfl hl.1 rfl (lv_room (Nat.le_of_ble_eq_true rfl)) dX10_testOf_28 ⟨Nat.le_of_ble_eq_true rfl, Nat.le_of_ble_eq_true rfl⟩) hD hS hA (fun r9 u9 H locs hw hp hd hs => ?_)
  clear hP hD hS
  obtain ⟨rfl, rfl⟩ := hw
  have hP := hp; have hD := hd; have hS := hs; clear hp hd hs
  refine lv_istore_n (lv' := [(3, .int r1), (0, .ref (ad 0)), (1, .int x1), (2, .int x2)]) hx hb dX10_testOf_31 rfl hl (by decide) rfl (fun ls hl => ?_)
  refine lv_iload_n hx hb dX10_testOf_32 rfl (lv_at hl 3 rfl) ?_
  refine lv_if_ne (tgt := 40) hx hb dX10_testOf_33 (by decide) (fun c9 => ?_) (fun c9 => ?_)
  · rw [if_neg c9] at h
    exact WX10_testOf_40 hkV C0 hk6 _ _ _ _ _ h hP hD hS (lv_sub hl [1, 2] rfl)
  · rw [if_pos c9] at h
    refine lv_iload_n hx hb dX10_testOf_36 rfl (lv_at hl 0 rfl) ?_
    refine lv_if_eq (tgt := 44) hx hb dX10_testOf_37 (by decide) (fun c9 => ?_) (fun c9 => ?_)
    · rw [if_pos c9] at h
      refine lv_iconst (v := 0) hx hb dX10_testOf_44 (by decide) ?_
      exact WX10_testOf_45 hkV C0 hk6 _ _ _ _ _ _ h hP hD hS (lv_sub hl [1, 2] rfl)
    · rw [if_neg c9] at h
      exact WX10_testOf_40 hkV C0 hk6 _ _ _ _ _ h hP hD hS (lv_sub hl [1, 2] rfl)
set_option maxHeartbeats 4000000 in
set_option maxRecDepth 100000 in
theorem WX10_testOf_27 {p : Program} {l : Launch} {e : Env} {s : State} {m : MethodId} {args : Array Value} {below : List Frame} {meth : Method} {c : Code} {D : va_G} {ty : Nat → ClassId} {eo : Nat → Nat} {A : Nat → Prop} {ad : Nat → Nat} {o1 : Int32} {o2 : dS} {kV : dS → Int32 → Option (Int32 × dS)} {nV : Nat} (hkV : ∀ (sz : Nat) (q : dS) (p1 : Int32) (o1 : Int32) (o2 : dS), kV q p1 = some (o1, o2) → Met l yX10_testOf wsX10_testOf ({ frames := 44 + 4 * nV, cells := 0, slots := 0, locals := 1210 + 94 * nV } : Room) (va_Pc [.ref (ad 0), .int p1] (kz_pre D ty eo (w10 ty ad q) sz)) (va_Qi (fun (r : Int32) (u : va_W) => o1 = r ∧ w10 ty ad o2 = u) (kz_B D ty (va_A (w10 ty ad q) sz)) (va_A (w10 ty ad q) sz)) 0 0 (va_A (w10 ty ad q) sz)) (C : dc_C p s m args meth c cX10_testOf (some .boolean) 4 RX10 wsX10_testOf D ty eo A) {k6 : dS → Int32 → Int32 → Option (Int32 × dS)} (hk6 : ∀ (q : dS) (x1 : Int32) (x2 : Int32) (H : Heap) (locs : List Loc) (ls : Array Slot), k6 q x1 x2 = some (o1, o2) → va_P D vwCl (w10 ty ad q) H → va_D A (w10 ty ad q) → va_S A s.heap H locs → lv_has ls 4 [(0, .ref (ad 0)), (1, .int x1), (2, .int x2)] → W p l e ({ frames := 44 + 4 * nV + 4, cells := 0, slots := 0, locals := 1210 + 94 * nV + 94 } : Room) s m args below meth c H locs 0 0 (MQ below (va_Qi (fun (r : Int32) (u : va_W) => o1 = r ∧ w10 ty ad o2 = u) (kz_B D ty A) A) args s 0 0 A) (F0 m 6 ls [])) (q : dS) (x1 : Int32) (x2 : Int32) (H : Heap) (locs : List Loc) (ls : Array Slot) (h : zX10_testOf_27 kV k6 q x1 x2 = some (o1, o2)) (hP : va_P D vwCl (w10 ty ad q) H) (hD : va_D A (w10 ty ad q)) (hS : va_S A s.heap H locs) (hl : lv_has ls 4 [(0, .ref (ad 0)), (1, .int x1), (2, .int x2)]) : W p l e ({ frames := 44 + 4 * nV + 4, cells := 0, slots := 0, locals := 1210 + 94 * nV + 94 } : Room) s m args below meth c H locs 0 0 (MQ below (va_Qi (fun (r : Int32) (u : va_W) => o1 = r ∧ w10 ty ad o2 = u) (kz_B D ty A) A) args s 0 0 A) (F0 m 27 ls [.ref (ad 0)]) := by
  have C0 := C
  obtain ⟨hx, hb, hr, hts, hown, hlocks, hml, hK, hN, hE, hA⟩ := C
  unfold zX10_testOf_27 at h
  refine lv_iconst (v := 0) hx hb dX10_testOf_27 (by decide) ?_
  exact WX10_testOf_28 hkV C0 hk6 _ _ _ _ _ _ _ h hP hD hS (lv_sub hl [0, 1, 2] rfl)
set_option maxHeartbeats 4000000 in
set_option maxRecDepth 100000 in
theorem WX10_testOf_6b {p : Program} {l : Launch} {e : Env} {s : State} {m : MethodId} {args : Array Value} {below : List Frame} {meth : Method} {c : Code} {D : va_G} {ty : Nat → ClassId} {eo : Nat → Nat} {A : Nat → Prop} {ad : Nat → Nat} {o1 : Int32} {o2 : dS} {kV : dS → Int32 → Option (Int32 × dS)} {nV : Nat} (hkV : ∀ (sz : Nat) (q : dS) (p1 : Int32) (o1 : Int32) (o2 : dS), kV q p1 = some (o1, o2) → Met l yX10_testOf wsX10_testOf ({ frames := 44 + 4 * nV, cells := 0, slots := 0, locals := 1210 + 94 * nV } : Room) (va_Pc [.ref (ad 0), .int p1] (kz_pre D ty eo (w10 ty ad q) sz)) (va_Qi (fun (r : Int32) (u : va_W) => o1 = r ∧ w10 ty ad o2 = u) (kz_B D ty (va_A (w10 ty ad q) sz)) (va_A (w10 ty ad q) sz)) 0 0 (va_A (w10 ty ad q) sz)) (C : dc_C p s m args meth c cX10_testOf (some .boolean) 4 RX10 wsX10_testOf D ty eo A) {k6 : dS → Int32 → Int32 → Option (Int32 × dS)} (hk6 : ∀ (q : dS) (x1 : Int32) (x2 : Int32) (H : Heap) (locs : List Loc) (ls : Array Slot), k6 q x1 x2 = some (o1, o2) → va_P D vwCl (w10 ty ad q) H → va_D A (w10 ty ad q) → va_S A s.heap H locs → lv_has ls 4 [(0, .ref (ad 0)), (1, .int x1), (2, .int x2)] → W p l e ({ frames := 44 + 4 * nV + 4, cells := 0, slots := 0, locals := 1210 + 94 * nV + 94 } : Room) s m args below meth c H locs 0 0 (MQ below (va_Qi (fun (r : Int32) (u : va_W) => o1 = r ∧ w10 ty ad o2 = u) (kz_B D ty A) A) args s 0 0 A) (F0 m 6 ls [])) (q : dS) (x1 : Int32) (x2 : Int32) (H : Heap) (locs : List Loc) (ls : Array Slot) (h : zX10_testOf_6b kV k6 q x1 x2 = some (o1, o2)) (hP : va_P D vwCl (w10 ty ad q) H) (hD : va_D A (w10 ty ad q)) (hS : va_S A s.heap H locs) (hl : lv_has ls 4 [(0, .ref (ad 0)), (1, .int x1), (2, .int x2)]) : W p l e ({ frames := 44 + 4 * nV + 4, cells := 0, slots := 0, locals := 1210 + 94 * nV + 94 } : Room) s m args below meth c H locs 0 0 (MQ below (va_Qi (fun (r : Int32) (u : va_W) => o1 = r ∧ w10 ty ad o2 = u) (kz_B D ty A) A) args s 0 0 A) (F0 m 6 ls []) := by
  have C0 := C
  obtain ⟨hx, hb, hr, hts, hown, hlocks, hml, hK, hN, hE, hA⟩ := C
  unfold zX10_testOf_6b at h
  refine lv_aload_n hx hb dX10_testOf_6 rfl (lv_at hl 0 rfl) ?_
  refine lv_iconst (v := 5) hx hb dX10_testOf_7 (by decide) ?_
  obtain ⟨r1, q3, h2, h⟩ := dB_some h
  refine dw_ki (va_runV (As := [.int 5]) (rest := []) ⟨hx, hb, hml, hown, hts⟩ (qX10_passes0 l D ty eo _ ad q 5 r1 q3 h2) (cwV 1 hts gX10_testOf_X10_passes0 rfl rfl rfl hd_X10_passes0_v ⟨by dsimp only [headSpec]; omega, by dsimp only [headSpec]; omega⟩) (pv10_10_0 hK hN hE hP hD hS hA) rfl rfl hl.1 rfl (lv_room (Nat.le_of_ble_eq_true rfl)) dX10_testOf_8 ⟨Nat.le_of_ble_eq_true rfl, Nat.le_of_ble_eq_true rfl⟩) hD hS hA (fun r9 u9 H locs hw hp hd hs => ?_)
  clear hP hD hS
  obtain ⟨rfl, rfl⟩ := hw
  have hP := hp; have hD := hd; have hS := hs; clear hp hd hs
  refine lv_if_eq (tgt := 49) hx hb dX10_testOf_11 (by decide) (fun c9 => ?_) (fun c9 => ?_)
  · rw [if_pos c9] at h
    refine lv_iload_n hx hb dX10_testOf_49 rfl (lv_at hl 2 rfl) ?_
    obtain ⟨g4, h⟩ := dG_some h
    cases h
    exact kz_zret hx hb hr hlocks (dbl_nar g4) hP hK hD hS dX10_testOf_50 ⟨rfl, rfl⟩
  · rw [if_neg c9] at h
    refine lv_aload_n hx hb dX10_testOf_14 rfl (lv_at hl 0 rfl) ?_
    refine lv_iload_n hx hb dX10_testOf_15 rfl (lv_at hl 1 rfl) ?_
    refine lv_if_eq (tgt := 27) hx hb dX10_testOf_16 (by decide) (fun c9 => ?_) (fun c9 => ?_)
    · rw [if_pos c9] at h
      exact WX10_testOf_27 hkV C0 hk6 _ _ _ _ _ _ h hP hD hS (lv_sub hl [0, 1, 2] rfl)
    · rw [if_neg c9] at h
      refine lv_iload_n hx hb dX10_testOf_19 rfl (lv_at hl 2 rfl) ?_
      refine lv_if_ne (tgt := 27) hx hb dX10_testOf_20 (by decide) (fun c9 => ?_) (fun c9 => ?_)
      · rw [if_neg c9] at h
        exact WX10_testOf_27 hkV C0 hk6 _ _ _ _ _ _ h hP hD hS (lv_sub hl [0, 1, 2] rfl)
      · rw [if_pos c9] at h
        refine lv_iconst (v := 1) hx hb dX10_testOf_23 (by decide) ?_
        refine lv_goto (tgt := 28) hx hb dX10_testOf_24 (by decide) ?_
        exact WX10_testOf_28 hkV C0 hk6 _ _ _ _ _ _ _ h hP hD hS (lv_sub hl [0, 1, 2] rfl)
set_option maxHeartbeats 4000000 in
set_option maxRecDepth 100000 in
theorem WX10_testOf_6 {p : Program} {l : Launch} {e : Env} {s : State} {m : MethodId} {args : Array Value} {below : List Frame} {meth : Method} {c : Code} {D : va_G} {ty : Nat → ClassId} {eo : Nat → Nat} {A : Nat → Prop} {ad : Nat → Nat} {o1 : Int32} {o2 : dS} {kV : dS → Int32 → Option (Int32 × dS)} {nV : Nat} (hkV : ∀ (sz : Nat) (q : dS) (p1 : Int32) (o1 : Int32) (o2 : dS), kV q p1 = some (o1, o2) → Met l yX10_testOf wsX10_testOf ({ frames := 44 + 4 * nV, cells := 0, slots := 0, locals := 1210 + 94 * nV } : Room) (va_Pc [.ref (ad 0), .int p1] (kz_pre D ty eo (w10 ty ad q) sz)) (va_Qi (fun (r : Int32) (u : va_W) => o1 = r ∧ w10 ty ad o2 = u) (kz_B D ty (va_A (w10 ty ad q) sz)) (va_A (w10 ty ad q) sz)) 0 0 (va_A (w10 ty ad q) sz)) (C : dc_C p s m args meth c cX10_testOf (some .boolean) 4 RX10 wsX10_testOf D ty eo A)   (n : Nat) (q : dS) (x1 : Int32) (x2 : Int32) (H : Heap) (locs : List Loc) (ls : Array Slot) (h : zX10_testOf_6 kV  n q x1 x2 = some (o1, o2)) (hP : va_P D vwCl (w10 ty ad q) H) (hD : va_D A (w10 ty ad q)) (hS : va_S A s.heap H locs) (hl : lv_has ls 4 [(0, .ref (ad 0)), (1, .int x1), (2, .int x2)]) : W p l e ({ frames := 44 + 4 * nV + 4, cells := 0, slots := 0, locals := 1210 + 94 * nV + 94 } : Room) s m args below meth c H locs 0 0 (MQ below (va_Qi (fun (r : Int32) (u : va_W) => o1 = r ∧ w10 ty ad o2 = u) (kz_B D ty A) A) args s 0 0 A) (F0 m 6 ls []) := by
  exact dFix_W (F := fun k (a : dS × Int32 × Int32) => zX10_testOf_6b kV  (fun q x1 x2 => k (q, x1, x2)) a.1 a.2.1 a.2.2) (o := (o1, o2)) (P := fun (a : dS × Int32 × Int32) H locs ls => va_P D vwCl (w10 ty ad a.1) H ∧ va_D A (w10 ty ad a.1) ∧ va_S A s.heap H locs ∧ lv_has ls 4 [(0, .ref (ad 0)), (1, .int a.2.1), (2, .int a.2.2)]) (G := fun H locs ls => W p l e ({ frames := 44 + 4 * nV + 4, cells := 0, slots := 0, locals := 1210 + 94 * nV + 94 } : Room) s m args below meth c H locs 0 0 (MQ below (va_Qi (fun (r : Int32) (u : va_W) => o1 = r ∧ w10 ty ad o2 = u) (kz_B D ty A) A) args s 0 0 A) (F0 m 6 ls []))
    (fun k hk a H locs ls h hp => WX10_testOf_6b hkV C  (fun q x1 x2 H locs ls h h1 h2 h3 h4 => hk (q, x1, x2) H locs ls h ⟨h1, h2, h3, h4⟩) a.1 a.2.1 a.2.2 H locs ls h hp.1 hp.2.1 hp.2.2.1 hp.2.2.2) n (q, x1, x2) H locs ls h ⟨hP, hD, hS, hl⟩
set_option maxHeartbeats 4000000 in
set_option maxRecDepth 100000 in
theorem qX10_testOf_o (l : Launch) (D : va_G) (ty : Nat → ClassId) (eo : Nat → Nat) (sz : Nat) (ad : Nat → Nat) (kV : dS → Int32 → Option (Int32 × dS)) (nV : Nat) (hkV : ∀ (sz : Nat) (q : dS) (p1 : Int32) (o1 : Int32) (o2 : dS), kV q p1 = some (o1, o2) → Met l yX10_testOf wsX10_testOf ({ frames := 44 + 4 * nV, cells := 0, slots := 0, locals := 1210 + 94 * nV } : Room) (va_Pc [.ref (ad 0), .int p1] (kz_pre D ty eo (w10 ty ad q) sz)) (va_Qi (fun (r : Int32) (u : va_W) => o1 = r ∧ w10 ty ad o2 = u) (kz_B D ty (va_A (w10 ty ad q) sz)) (va_A (w10 ty ad q) sz)) 0 0 (va_A (w10 ty ad q) sz)) (q : dS) (p1 : Int32) (o1 : Int32) (o2 : dS) (h : zX10_testOf_o kV q p1 = some (o1, o2)) : Met l yX10_testOf wsX10_testOf ({ frames := 44 + 4 * nV + 4, cells := 0, slots := 0, locals := 1210 + 94 * nV + 94 } : Room) (va_Pc [.ref (ad 0), .int p1] (kz_pre D ty eo (w10 ty ad q) sz)) (va_Qi (fun (r : Int32) (u : va_W) => o1 = r ∧ w10 ty ad o2 = u) (kz_B D ty (va_A (w10 ty ad q) sz)) (va_A (w10 ty ad q) sz)) 0 0 (va_A (w10 ty ad q) sz) := by
  refine Met.ofW (cc := cX10_testOf) (maxL := 4) (ret := (some .boolean)) (by decide) rfl ?_
  intro p e s m args below meth c s₁ B hml hv
  obtain ⟨rfl, hsz, hP, hK, hD0, hN, hE⟩ := hv
  have hx := B.exec
  have hb := B.bytes
  have hr := B.returns
  have hts := atoms_spec (ws := wsX10_testOf) B.pre
  have hown : s.vm.findClass RX10 = some m.cls := findClass_of_methodNamed B.named
  have hlocks := B.notSynchronized
  subst hsz
  have hD := hD0.self (sz := s.heap.size)
  generalize hAe : va_A (w10 ty ad q) s.heap.size = A at hD hE ⊢
  have hA : ∀ q : Nat, s.heap.size ≤ q → A q := fun q h => by rw [← hAe]; exact Or.inr h
  clear hAe
  have hS : va_S A s.heap s.heap [] := va_S.rf
  have hl := lv_entry ([.ref (ad 0), .int p1]) (n := 4) (Nat.le_of_ble_eq_true rfl)
  rw [lg_entry_eq]
  generalize (lg_sl ([.ref (ad 0), .int p1]) ++ List.replicate (4 - (lg_sl ([.ref (ad 0), .int p1])).length) Slot.unset).toArray = ls at hl ⊢
  have hl : lv_has ls 4 [(0, .ref (ad 0)), (1, .int p1)] := hl
  have C : dc_C p s m _ meth c cX10_testOf (some .boolean) 4 RX10 wsX10_testOf D ty eo A := ⟨hx, hb, hr, hts, hown, hlocks, hml, hK, hN, hE, hA⟩
  unfold zX10_testOf_o at h
  refine lv_aload_n hx hb dX10_testOf_0 rfl (lv_at hl 0 rfl) ?_
  refine lv_iload_n hx hb dX10_testOf_1 rfl (lv_at hl 1 rfl) ?_
  obtain ⟨r1, q3, h2, h⟩ := dB_some h
  refine dw_ki (va_runV (As := [.int p1]) (rest := []) ⟨hx, hb, hml, hown, hts⟩ (qX10_bothOf l D ty eo _ ad kV nV hkV q p1 r1 q3 h2) (cwV 1 hts gX10_testOf_X10_bothOf rfl rfl rfl hd_X10_bothOf_v ⟨by dsimp only [headSpec]; omega, by dsimp only [headSpec]; omega⟩) (pv10_10_0 hK hN hE hP hD hS hA) rfl rfl hl.1 rfl (lv_room (Nat.le_of_ble_eq_true rfl)) dX10_testOf_2 ⟨Nat.le_of_ble_eq_true rfl, Nat.le_of_ble_eq_true rfl⟩) hD hS hA (fun r9 u9 H locs hw hp hd hs => ?_)
  clear hP hD hS
  obtain ⟨rfl, rfl⟩ := hw
  have hP := hp; have hD := hd; have hS := hs; clear hp hd hs
  refine lv_istore_n (lv' := [(2, .int r1), (0, .ref (ad 0)), (1, .int p1)]) hx hb dX10_testOf_5 rfl hl (by decide) rfl (fun ls hl => ?_)
  exact WX10_testOf_6 hkV C  _ _ _ _ _ _ _ h hP hD hS (lv_sub hl [1, 2, 0] rfl)
set_option maxHeartbeats 4000000 in
set_option maxRecDepth 100000 in
theorem qX10_testOf (l : Launch) (D : va_G) (ty : Nat → ClassId) (eo : Nat → Nat) (sz : Nat) (ad : Nat → Nat) (n : Nat) : ∀ (q : dS) (p1 : Int32) (o1 : Int32) (o2 : dS), zX10_testOf n q p1 = some (o1, o2) → Met l yX10_testOf wsX10_testOf ({ frames := 44 + 4 * n, cells := 0, slots := 0, locals := 1210 + 94 * n } : Room) (va_Pc [.ref (ad 0), .int p1] (kz_pre D ty eo (w10 ty ad q) sz)) (va_Qi (fun (r : Int32) (u : va_W) => o1 = r ∧ w10 ty ad o2 = u) (kz_B D ty (va_A (w10 ty ad q) sz)) (va_A (w10 ty ad q) sz)) 0 0 (va_A (w10 ty ad q) sz) := by
  induction n generalizing sz with
  | zero => intro q p1 o1 o2 h; cases h
  | succ n ih =>
    intro q p1 o1 o2 h
    have h2 := qX10_testOf_o l D ty eo sz ad (zX10_testOf n) n (fun sz q p1 o1 o2 h => ih sz q p1 o1 o2 h) q p1 o1 o2 h
    have e : ({ frames := 44 + 4 * n + 4, cells := 0, slots := 0, locals := 1210 + 94 * n + 94 } : Room) = ({ frames := 44 + 4 * (n + 1), cells := 0, slots := 0, locals := 1210 + 94 * (n + 1) } : Room) := by congr 1 <;> omega
    rw [← e]
    exact h2

set_option maxHeartbeats 4000000 in
set_option maxRecDepth 100000 in
theorem WX10_tells_199 {p : Program} {l : Launch} {e : Env} {s : State} {m : MethodId} {args : Array Value} {below : List Frame} {meth : Method} {c : Code} {D : va_G} {ty : Nat → ClassId} {eo : Nat → Nat} {A : Nat → Prop} {ad : Nat → Nat} {o1 : Int32} {o2 : dS} (C : dc_C p s m args meth c cX10_tells (some .int) 10 RX10 wsX10_tells D ty eo A) {k60 : dS → Int32 → Int64 → Option (Int32 × dS)} (hk60 : ∀ (q : dS) (x1 : Int32) (x3 : Int64) (H : Heap) (locs : List Loc) (ls : Array Slot), k60 q x1 x3 = some (o1, o2) → va_P D vwCl (w10 ty ad q) H → va_D A (w10 ty ad q) → va_S A s.heap H locs → lv_has ls 10 [(0, .ref (ad 0)), (1, .int x1), (3, .long x3)] → W p l e ({ frames := 85, cells := 0, slots := 0, locals := 2173 } : Room) s m args below meth c H locs 0 0 (MQ below (va_Qi (fun (r : Int32) (u : va_W) => o1 = r ∧ w10 ty ad o2 = u) (kz_B D ty A) A) args s 0 0 A) (F0 m 60 ls [])) (q : dS) (x1 : Int32) (x3 : Int64) (H : Heap) (locs : List Loc) (ls : Array Slot) (h : zX10_tells_199 k60 q x1 x3 = some (o1, o2)) (hP : va_P D vwCl (w10 ty ad q) H) (hD : va_D A (w10 ty ad q)) (hS : va_S A s.heap H locs) (hl : lv_has ls 10 [(0, .ref (ad 0)), (1, .int x1), (3, .long x3)]) : W p l e ({ frames := 85, cells := 0, slots := 0, locals := 2173 } : Room) s m args below meth c H locs 0 0 (MQ below (va_Qi (fun (r : Int32) (u : va_W) => o1 = r ∧ w10 ty ad o2 = u) (kz_B D ty A) A) args s 0 0 A) (F0 m 199 ls []) := by
  have C0 := C
  obtain ⟨hx, hb, hr, hts, hown, hlocks, hml, hK, hN, hE, hA⟩ := C
  unfold zX10_tells_199 at h
  refine lv_aload_n hx hb dX10_tells_199 rfl (lv_at hl 0 rfl) ?_
  refine lv_dup hx hb dX10_tells_200 rfl ?_
  refine va_get (D := D) (ci := 10) (v := .int (q.1 0 22)) (C := RX10) (T := TX10) (N := 56) hx hb hts u9_wsX10_tells_X10 hown hK hP 0 rfl rfl 22 (by decide) (hts (.fieldLink RX10 278 "TurnedFloorsModel" "go" "I") f9_wsX10_tells_62) (fun _ h9 => h9) rfl dX10_tells_201 ?_
  refine lv_iconst (v := 1) hx hb dX10_tells_204 (by decide) ?_
  refine lv_iadd hx hb dX10_tells_205 ?_
  refine va_put (D := D) (ci := 10) (v := .int ((q.1 0 22) + 1 : Int32)) (ty := .int) (C := RX10) (T := TX10) (N := 56) hx hb hts u9_wsX10_tells_X10 tyX10 tyX10_ok nmX10 hown hK hP hD hS 0 rfl rfl 22 (by decide) (hts (.fieldLink RX10 278 "TurnedFloorsModel" "go" "I") f9_wsX10_tells_62) (fun _ h9 => h9) rfl (by decide +kernel) rfl rfl (Nat.le_of_ble_eq_true rfl) dX10_tells_206 (fun H locs hp hd hs => ?_)
  obtain ⟨q1, eq1, h⟩ := dL_some h
  refine kz_re (w2 := w10 ty ad q1) hp hd hs (by rw [← eq1]; exact w10_f22 ty ad q ((q.1 0 22) + 1 : Int32)) ?_
  clear hp hd hs hP hD hS
  intro hP hD hS
  refine lv_goto (tgt := 60) hx hb dX10_tells_209 (by decide) ?_
  exact hk60 _ _ _ _ _ _ h hP hD hS (lv_sub hl [0, 1, 2] rfl)
set_option maxHeartbeats 4000000 in
set_option maxRecDepth 100000 in
theorem WX10_tells_198 {p : Program} {l : Launch} {e : Env} {s : State} {m : MethodId} {args : Array Value} {below : List Frame} {meth : Method} {c : Code} {D : va_G} {ty : Nat → ClassId} {eo : Nat → Nat} {A : Nat → Prop} {ad : Nat → Nat} {o1 : Int32} {o2 : dS} (C : dc_C p s m args meth c cX10_tells (some .int) 10 RX10 wsX10_tells D ty eo A) {k60 : dS → Int32 → Int64 → Option (Int32 × dS)} (hk60 : ∀ (q : dS) (x1 : Int32) (x3 : Int64) (H : Heap) (locs : List Loc) (ls : Array Slot), k60 q x1 x3 = some (o1, o2) → va_P D vwCl (w10 ty ad q) H → va_D A (w10 ty ad q) → va_S A s.heap H locs → lv_has ls 10 [(0, .ref (ad 0)), (1, .int x1), (3, .long x3)] → W p l e ({ frames := 85, cells := 0, slots := 0, locals := 2173 } : Room) s m args below meth c H locs 0 0 (MQ below (va_Qi (fun (r : Int32) (u : va_W) => o1 = r ∧ w10 ty ad o2 = u) (kz_B D ty A) A) args s 0 0 A) (F0 m 60 ls [])) (q : dS) (x1 : Int32) (y0 : Int64) (H : Heap) (locs : List Loc) (ls : Array Slot) (h : zX10_tells_198 k60 q x1 y0 = some (o1, o2)) (hP : va_P D vwCl (w10 ty ad q) H) (hD : va_D A (w10 ty ad q)) (hS : va_S A s.heap H locs) (hl : lv_has ls 10 [(0, .ref (ad 0)), (1, .int x1)]) : W p l e ({ frames := 85, cells := 0, slots := 0, locals := 2173 } : Room) s m args below meth c H locs 0 0 (MQ below (va_Qi (fun (r : Int32) (u : va_W) => o1 = r ∧ w10 ty ad o2 = u) (kz_B D ty A) A) args s 0 0 A) (F0 m 198 ls [.long y0]) := by
  have C0 := C
  obtain ⟨hx, hb, hr, hts, hown, hlocks, hml, hK, hN, hE, hA⟩ := C
  unfold zX10_tells_198 at h
  refine lv_lstore_n (lv' := [(3, .long y0), (0, .ref (ad 0)), (1, .int x1)]) hx hb dX10_tells_198 rfl hl (by decide) rfl (fun ls hl => ?_)
  exact WX10_tells_199 C0 hk60 _ _ _ _ _ _ h hP hD hS (lv_sub hl [1, 2, 0] rfl)
set_option maxHeartbeats 4000000 in
set_option maxRecDepth 100000 in
theorem WX10_tells_145 {p : Program} {l : Launch} {e : Env} {s : State} {m : MethodId} {args : Array Value} {below : List Frame} {meth : Method} {c : Code} {D : va_G} {ty : Nat → ClassId} {eo : Nat → Nat} {A : Nat → Prop} {ad : Nat → Nat} {o1 : Int32} {o2 : dS} (C : dc_C p s m args meth c cX10_tells (some .int) 10 RX10 wsX10_tells D ty eo A) {k60 : dS → Int32 → Int64 → Option (Int32 × dS)} (hk60 : ∀ (q : dS) (x1 : Int32) (x3 : Int64) (H : Heap) (locs : List Loc) (ls : Array Slot), k60 q x1 x3 = some (o1, o2) → va_P D vwCl (w10 ty ad q) H → va_D A (w10 ty ad q) → va_S A s.heap H locs → lv_has ls 10 [(0, .ref (ad 0)), (1, .int x1), (3, .long x3)] → W p l e ({ frames := 85, cells := 0, slots := 0, locals := 2173 } : Room) s m args below meth c H locs 0 0 (MQ below (va_Qi (fun (r : Int32) (u : va_W) => o1 = r ∧ w10 ty ad o2 = u) (kz_B D ty A) A) args s 0 0 A) (F0 m 60 ls [])) (q : dS) (x1 : Int32) (x3 : Int64) (x5 : Int32) (x6 : Int64) (x8 : Int32) (y0 : Int32) (H : Heap) (locs : List Loc) (ls : Array Slot) (h : zX10_tells_145 k60 q x1 x3 x5 x6 x8 y0 = some (o1, o2)) (hP : va_P D vwCl (w10 ty ad q) H) (hD : va_D A (w10 ty ad q)) (hS : va_S A s.heap H locs) (hl : lv_has ls 10 [(0, .ref (ad 0)), (1, .int x1), (3, .long x3), (5, .int x5), (6, .long x6), (8, .int x8)]) : W p l e ({ frames := 85, cells := 0, slots := 0, locals := 2173 } : Room) s m args below meth c H locs 0 0 (MQ below (va_Qi (fun (r : Int32) (u : va_W) => o1 = r ∧ w10 ty ad o2 = u) (kz_B D ty A) A) args s 0 0 A) (F0 m 145 ls [.int y0]) := by
  have C0 := C
  obtain ⟨hx, hb, hr, hts, hown, hlocks, hml, hK, hN, hE, hA⟩ := C
  unfold zX10_tells_145 at h
  refine lv_istore (lv' := [(9, .int y0), (0, .ref (ad 0)), (1, .int x1), (3, .long x3), (5, .int x5), (6, .long x6), (8, .int x8)]) hx hb dX10_tells_145 hl (by decide) rfl (fun ls hl => ?_)
  refine lv_iload hx hb dX10_tells_147 (lv_at hl 4 rfl) ?_
  refine lv_iload_n hx hb dX10_tells_149 rfl (lv_at hl 2 rfl) ?_
  refine lv_icmp_ne (tgt := 199) hx hb dX10_tells_150 (by decide) (fun c9 => ?_) (fun c9 => ?_)
  · rw [if_neg c9] at h
    exact WX10_tells_199 C0 hk60 _ _ _ _ _ _ h hP hD hS (lv_sub hl [1, 2, 3] rfl)
  · rw [if_pos c9] at h
    refine lv_iload hx hb dX10_tells_153 (lv_at hl 0 rfl) ?_
    refine lv_if_eq (tgt := 199) hx hb dX10_tells_155 (by decide) (fun c9 => ?_) (fun c9 => ?_)
    · rw [if_pos c9] at h
      exact WX10_tells_199 C0 hk60 _ _ _ _ _ _ h hP hD hS (lv_sub hl [1, 2, 3] rfl)
    · rw [if_neg c9] at h
      refine lv_aload_n hx hb dX10_tells_158 rfl (lv_at hl 1 rfl) ?_
      refine va_get (D := D) (ci := 10) (v := .int (q.1 0 24)) (C := RX10) (T := TX10) (N := 56) hx hb hts u9_wsX10_tells_X10 hown hK hP 0 rfl rfl 24 (by decide) (hts (.fieldLink RX10 288 "TurnedFloorsModel" "broken" "Z") f9_wsX10_tells_63) (fun _ h9 => h9) rfl dX10_tells_159 ?_
      refine lv_if_ne (tgt := 199) hx hb dX10_tells_162 (by decide) (fun c9 => ?_) (fun c9 => ?_)
      · rw [if_neg c9] at h
        exact WX10_tells_199 C0 hk60 _ _ _ _ _ _ h hP hD hS (lv_sub hl [1, 2, 3] rfl)
      · rw [if_pos c9] at h
        refine lv_iload hx hb dX10_tells_165 (lv_at hl 6 rfl) ?_
        refine lv_if_ne (tgt := 199) hx hb dX10_tells_167 (by decide) (fun c9 => ?_) (fun c9 => ?_)
        · rw [if_neg c9] at h
          exact WX10_tells_199 C0 hk60 _ _ _ _ _ _ h hP hD hS (lv_sub hl [1, 2, 3] rfl)
        · rw [if_pos c9] at h
          refine lv_lload hx hb dX10_tells_170 (lv_at hl 5 rfl) ?_
          refine lv_lconst (v := 0) hx hb dX10_tells_172 (by decide) ?_
          refine W.lcmp hx hb dX10_tells_173 ?_
          refine lv_if_ge (tgt := 181) hx hb dX10_tells_174 (by decide) (fun c9 => ?_) (fun c9 => ?_)
          · rw [if_pos c9] at h
            refine lv_lload hx hb dX10_tells_181 (lv_at hl 5 rfl) ?_
            refine lv_ldc2 (v := 99) hx hb hown (hts (.constantLong RX10 339 99) f9_wsX10_tells_64) dX10_tells_183 ?_
            refine W.lcmp hx hb dX10_tells_186 ?_
            refine lv_if_le (tgt := 196) hx hb dX10_tells_187 (by decide) (fun c9 => ?_) (fun c9 => ?_)
            · rw [if_pos c9] at h
              refine lv_lload hx hb dX10_tells_196 (lv_at hl 5 rfl) ?_
              exact WX10_tells_198 C0 hk60 _ _ _ _ _ _ h hP hD hS (lv_sub hl [1, 2] rfl)
            · rw [if_neg c9] at h
              refine lv_ldc2 (v := 99) hx hb hown (hts (.constantLong RX10 339 99) f9_wsX10_tells_64) dX10_tells_190 ?_
              refine lv_goto (tgt := 198) hx hb dX10_tells_193 (by decide) ?_
              exact WX10_tells_198 C0 hk60 _ _ _ _ _ _ h hP hD hS (lv_sub hl [1, 2] rfl)
          · rw [if_neg c9] at h
            refine lv_lconst (v := 0) hx hb dX10_tells_177 (by decide) ?_
            refine lv_goto (tgt := 198) hx hb dX10_tells_178 (by decide) ?_
            exact WX10_tells_198 C0 hk60 _ _ _ _ _ _ h hP hD hS (lv_sub hl [1, 2] rfl)
set_option maxHeartbeats 4000000 in
set_option maxRecDepth 100000 in
theorem WX10_tells_140 {p : Program} {l : Launch} {e : Env} {s : State} {m : MethodId} {args : Array Value} {below : List Frame} {meth : Method} {c : Code} {D : va_G} {ty : Nat → ClassId} {eo : Nat → Nat} {A : Nat → Prop} {ad : Nat → Nat} {o1 : Int32} {o2 : dS} (C : dc_C p s m args meth c cX10_tells (some .int) 10 RX10 wsX10_tells D ty eo A) {k60 : dS → Int32 → Int64 → Option (Int32 × dS)} (hk60 : ∀ (q : dS) (x1 : Int32) (x3 : Int64) (H : Heap) (locs : List Loc) (ls : Array Slot), k60 q x1 x3 = some (o1, o2) → va_P D vwCl (w10 ty ad q) H → va_D A (w10 ty ad q) → va_S A s.heap H locs → lv_has ls 10 [(0, .ref (ad 0)), (1, .int x1), (3, .long x3)] → W p l e ({ frames := 85, cells := 0, slots := 0, locals := 2173 } : Room) s m args below meth c H locs 0 0 (MQ below (va_Qi (fun (r : Int32) (u : va_W) => o1 = r ∧ w10 ty ad o2 = u) (kz_B D ty A) A) args s 0 0 A) (F0 m 60 ls [])) (q : dS) (x1 : Int32) (x3 : Int64) (x5 : Int32) (x6 : Int64) (x8 : Int32) (H : Heap) (locs : List Loc) (ls : Array Slot) (h : zX10_tells_140 k60 q x1 x3 x5 x6 x8 = some (o1, o2)) (hP : va_P D vwCl (w10 ty ad q) H) (hD : va_D A (w10 ty ad q)) (hS : va_S A s.heap H locs) (hl : lv_has ls 10 [(0, .ref (ad 0)), (1, .int x1), (3, .long x3), (5, .int x5), (6, .long x6), (8, .int x8)]) : W p l e ({ frames := 85, cells := 0, slots := 0, locals := 2173 } : Room) s m args below meth c H locs 0 0 (MQ below (va_Qi (fun (r : Int32) (u : va_W) => o1 = r ∧ w10 ty ad o2 = u) (kz_B D ty A) A) args s 0 0 A) (F0 m 140 ls []) := by
  have C0 := C
  obtain ⟨hx, hb, hr, hts, hown, hlocks, hml, hK, hN, hE, hA⟩ := C
  unfold zX10_tells_140 at h
  refine lv_iconst (v := 1) hx hb dX10_tells_140 (by decide) ?_
  refine lv_goto (tgt := 145) hx hb dX10_tells_141 (by decide) ?_
  exact WX10_tells_145 C0 hk60 _ _ _ _ _ _ _ _ _ _ h hP hD hS (lv_sub hl [0, 1, 2, 3, 4, 5] rfl)
set_option maxHeartbeats 4000000 in
set_option maxRecDepth 100000 in
theorem WX10_tells_111 {p : Program} {l : Launch} {e : Env} {s : State} {m : MethodId} {args : Array Value} {below : List Frame} {meth : Method} {c : Code} {D : va_G} {ty : Nat → ClassId} {eo : Nat → Nat} {A : Nat → Prop} {ad : Nat → Nat} {o1 : Int32} {o2 : dS} (C : dc_C p s m args meth c cX10_tells (some .int) 10 RX10 wsX10_tells D ty eo A) {k60 : dS → Int32 → Int64 → Option (Int32 × dS)} (hk60 : ∀ (q : dS) (x1 : Int32) (x3 : Int64) (H : Heap) (locs : List Loc) (ls : Array Slot), k60 q x1 x3 = some (o1, o2) → va_P D vwCl (w10 ty ad q) H → va_D A (w10 ty ad q) → va_S A s.heap H locs → lv_has ls 10 [(0, .ref (ad 0)), (1, .int x1), (3, .long x3)] → W p l e ({ frames := 85, cells := 0, slots := 0, locals := 2173 } : Room) s m args below meth c H locs 0 0 (MQ below (va_Qi (fun (r : Int32) (u : va_W) => o1 = r ∧ w10 ty ad o2 = u) (kz_B D ty A) A) args s 0 0 A) (F0 m 60 ls [])) (q : dS) (x1 : Int32) (x3 : Int64) (x5 : Int32) (y0 : Int64) (H : Heap) (locs : List Loc) (ls : Array Slot) (h : zX10_tells_111 k60 q x1 x3 x5 y0 = some (o1, o2)) (hP : va_P D vwCl (w10 ty ad q) H) (hD : va_D A (w10 ty ad q)) (hS : va_S A s.heap H locs) (hl : lv_has ls 10 [(0, .ref (ad 0)), (1, .int x1), (3, .long x3), (5, .int x5)]) : W p l e ({ frames := 85, cells := 0, slots := 0, locals := 2173 } : Room) s m args below meth c H locs 0 0 (MQ below (va_Qi (fun (r : Int32) (u : va_W) => o1 = r ∧ w10 ty ad o2 = u) (kz_B D ty A) A) args s 0 0 A) (F0 m 111 ls [.long y0]) := by
  have C0 := C
  obtain ⟨hx, hb, hr, hts, hown, hlocks, hml, hK, hN, hE, hA⟩ := C
  unfold zX10_tells_111 at h
  refine lv_lstore (lv' := [(6, .long y0), (0, .ref (ad 0)), (1, .int x1), (3, .long x3), (5, .int x5)]) hx hb dX10_tells_111 hl (by decide) rfl (fun ls hl => ?_)
  refine lv_aload_n hx hb dX10_tells_113 rfl (lv_at hl 1 rfl) ?_
  refine va_get (D := D) (ci := 10) (v := .int (q.1 0 24)) (C := RX10) (T := TX10) (N := 56) hx hb hts u9_wsX10_tells_X10 hown hK hP 0 rfl rfl 24 (by decide) (hts (.fieldLink RX10 288 "TurnedFloorsModel" "broken" "Z") f9_wsX10_tells_63) (fun _ h9 => h9) rfl dX10_tells_114 ?_
  refine lv_istore (lv' := [(8, .int (q.1 0 24)), (6, .long y0), (0, .ref (ad 0)), (1, .int x1), (3, .long x3), (5, .int x5)]) hx hb dX10_tells_117 hl (by decide) rfl (fun ls hl => ?_)
  refine lv_aload_n hx hb dX10_tells_119 rfl (lv_at hl 2 rfl) ?_
  refine lv_iconst (v := 0) hx hb dX10_tells_120 (by decide) ?_
  refine va_put (D := D) (ci := 10) (v := .int 0) (ty := .boolean) (C := RX10) (T := TX10) (N := 56) hx hb hts u9_wsX10_tells_X10 tyX10 tyX10_ok nmX10 hown hK hP hD hS 0 rfl rfl 24 (by decide) (hts (.fieldLink RX10 288 "TurnedFloorsModel" "broken" "Z") f9_wsX10_tells_63) (fun _ h9 => h9) rfl (by decide +kernel) rfl rfl (Nat.le_of_ble_eq_true rfl) dX10_tells_121 (fun H locs hp hd hs => ?_)
  obtain ⟨q1, eq1, h⟩ := dL_some h
  refine kz_re (w2 := w10 ty ad q1) hp hd hs (by rw [← eq1]; exact w10_f24 ty ad q 0) ?_
  clear hp hd hs hP hD hS
  intro hP hD hS
  refine lv_aload_n hx hb dX10_tells_124 rfl (lv_at hl 2 rfl) ?_
  refine lv_iconst (v := 4) hx hb dX10_tells_125 (by decide) ?_
  obtain ⟨r2, q4, h3, h⟩ := dB_some h
  refine dw_ki (va_runV (As := [.int 4]) (rest := []) ⟨hx, hb, hml, hown, hts⟩ (qX10_passes0 l D ty eo _ ad q1 4 r2 q4 h3) (cwV 1 hts gX10_tells_X10_passes0 rfl rfl rfl hd_X10_passes0_v ⟨Nat.le_of_ble_eq_true rfl, Nat.le_of_ble_eq_true rfl⟩) (pv10_10_0 hK hN hE hP hD hS hA) rfl rfl hl.1 rfl (lv_room (Nat.le_of_ble_eq_true rfl)) dX10_tells_126 ⟨Nat.le_of_ble_eq_true rfl, Nat.le_of_ble_eq_true rfl⟩) hD hS hA (fun r9 u9 H locs hw hp hd hs => ?_)
  clear hP hD hS
  obtain ⟨rfl, rfl⟩ := hw
  have hP := hp; have hD := hd; have hS := hs; clear hp hd hs
  refine lv_if_eq (tgt := 140) hx hb dX10_tells_129 (by decide) (fun c9 => ?_) (fun c9 => ?_)
  · rw [if_pos c9] at h
    exact WX10_tells_140 C0 hk60 _ _ _ _ _ _ _ _ _ h hP hD hS (lv_sub hl [2, 3, 4, 5, 1, 0] rfl)
  · rw [if_neg c9] at h
    refine lv_aload_n hx hb dX10_tells_132 rfl (lv_at hl 2 rfl) ?_
    refine lv_iconst (v := 1) hx hb dX10_tells_133 (by decide) ?_
    obtain ⟨r5, q7, h6, h⟩ := dB_some h
    refine dw_ki (va_runV (As := [.int 1]) (rest := []) ⟨hx, hb, hml, hown, hts⟩ (qX10_testOf l D ty eo _ ad 10 q4 1 r5 q7 h6) (cwV 1 hts gX10_tells_X10_testOf rfl rfl rfl hd_X10_testOf_v ⟨Nat.le_of_ble_eq_true rfl, Nat.le_of_ble_eq_true rfl⟩) (pv10_10_0 hK hN hE hP hD hS hA) rfl rfl hl.1 rfl (lv_room (Nat.le_of_ble_eq_true rfl)) dX10_tells_134 ⟨Nat.le_of_ble_eq_true rfl, Nat.le_of_ble_eq_true rfl⟩) hD hS hA (fun r9 u9 H locs hw hp hd hs => ?_)
    clear hP hD hS
    obtain ⟨rfl, rfl⟩ := hw
    have hP := hp; have hD := hd; have hS := hs; clear hp hd hs
    refine lv_if_eq (tgt := 144) hx hb dX10_tells_137 (by decide) (fun c9 => ?_) (fun c9 => ?_)
    · rw [if_pos c9] at h
      refine lv_iconst (v := 0) hx hb dX10_tells_144 (by decide) ?_
      exact WX10_tells_145 C0 hk60 _ _ _ _ _ _ _ _ _ _ h hP hD hS (lv_sub hl [2, 3, 4, 5, 1, 0] rfl)
    · rw [if_neg c9] at h
      exact WX10_tells_140 C0 hk60 _ _ _ _ _ _ _ _ _ h hP hD hS (lv_sub hl [2, 3, 4, 5, 1, 0] rfl)
set_option maxHeartbeats 4000000 in
set_option maxRecDepth 100000 in
theorem WX10_tells_60b {p : Program} {l : Launch} {e : Env} {s : State} {m : MethodId} {args : Array Value} {below : List Frame} {meth : Method} {c : Code} {D : va_G} {ty : Nat → ClassId} {eo : Nat → Nat} {A : Nat → Prop} {ad : Nat → Nat} {o1 : Int32} {o2 : dS} (C : dc_C p s m args meth c cX10_tells (some .int) 10 RX10 wsX10_tells D ty eo A) {k60 : dS → Int32 → Int64 → Option (Int32 × dS)} (hk60 : ∀ (q : dS) (x1 : Int32) (x3 : Int64) (H : Heap) (locs : List Loc) (ls : Array Slot), k60 q x1 x3 = some (o1, o2) → va_P D vwCl (w10 ty ad q) H → va_D A (w10 ty ad q) → va_S A s.heap H locs → lv_has ls 10 [(0, .ref (ad 0)), (1, .int x1), (3, .long x3)] → W p l e ({ frames := 85, cells := 0, slots := 0, locals := 2173 } : Room) s m args below meth c H locs 0 0 (MQ below (va_Qi (fun (r : Int32) (u : va_W) => o1 = r ∧ w10 ty ad o2 = u) (kz_B D ty A) A) args s 0 0 A) (F0 m 60 ls [])) (q : dS) (x1 : Int32) (x3 : Int64) (H : Heap) (locs : List Loc) (ls : Array Slot) (h : zX10_tells_60b k60 q x1 x3 = some (o1, o2)) (hP : va_P D vwCl (w10 ty ad q) H) (hD : va_D A (w10 ty ad q)) (hS : va_S A s.heap H locs) (hl : lv_has ls 10 [(0, .ref (ad 0)), (1, .int x1), (3, .long x3)]) : W p l e ({ frames := 85, cells := 0, slots := 0, locals := 2173 } : Room) s m args below meth c H locs 0 0 (MQ below (va_Qi (fun (r : Int32) (u : va_W) => o1 = r ∧ w10 ty ad o2 = u) (kz_B D ty A) A) args s 0 0 A) (F0 m 60 ls []) := by
  have C0 := C
  obtain ⟨hx, hb, hr, hts, hown, hlocks, hml, hK, hN, hE, hA⟩ := C
  unfold zX10_tells_60b at h
  refine lv_aload_n hx hb dX10_tells_60 rfl (lv_at hl 0 rfl) ?_
  refine va_get (D := D) (ci := 10) (v := .int (q.1 0 22)) (C := RX10) (T := TX10) (N := 56) hx hb hts u9_wsX10_tells_X10 hown hK hP 0 rfl rfl 22 (by decide) (hts (.fieldLink RX10 278 "TurnedFloorsModel" "go" "I") f9_wsX10_tells_62) (fun _ h9 => h9) rfl dX10_tells_61 ?_
  refine lv_aload_n hx hb dX10_tells_64 rfl (lv_at hl 0 rfl) ?_
  refine va_get (D := D) (ci := 10) (v := .int (q.1 0 23)) (C := RX10) (T := TX10) (N := 56) hx hb hts u9_wsX10_tells_X10 hown hK hP 0 rfl rfl 23 (by decide) (hts (.fieldLink RX10 275 "TurnedFloorsModel" "goEnd" "I") f9_wsX10_tells_65) (fun _ h9 => h9) rfl dX10_tells_65 ?_
  refine lv_icmp_ge (tgt := 212) hx hb dX10_tells_68 (by decide) (fun c9 => ?_) (fun c9 => ?_)
  · rw [if_pos c9] at h
    refine lv_lload_n hx hb dX10_tells_212 rfl (lv_at hl 2 rfl) ?_
    refine lv_l2i (v := Int64.toInt32 x3) hx hb dX10_tells_213 rfl ?_
    cases h
    exact kz_iret hx hb hr hlocks hP hK hD hS dX10_tells_214 ⟨rfl, rfl⟩
  · rw [if_neg c9] at h
    refine lv_aload_n hx hb dX10_tells_71 rfl (lv_at hl 0 rfl) ?_
    refine lv_aload_n hx hb dX10_tells_72 rfl (lv_at hl 0 rfl) ?_
    refine va_get (D := D) (ci := 10) (v := .int (q.1 0 22)) (C := RX10) (T := TX10) (N := 56) hx hb hts u9_wsX10_tells_X10 hown hK hP 0 rfl rfl 22 (by decide) (hts (.fieldLink RX10 278 "TurnedFloorsModel" "go" "I") f9_wsX10_tells_62) (fun _ h9 => h9) rfl dX10_tells_73 ?_
    obtain ⟨r1, q3, h2, h⟩ := dB_some h
    refine dw_ki (va_runV (As := [.int (q.1 0 22)]) (rest := []) ⟨hx, hb, hml, hown, hts⟩ (qX10_codeAt l D ty eo _ ad q (q.1 0 22) r1 q3 h2) (cwV 1 hts gX10_tells_X10_codeAt rfl rfl rfl hd_X10_codeAt_v ⟨Nat.le_of_ble_eq_true rfl, Nat.le_of_ble_eq_true rfl⟩) (pv10_10_0 hK hN hE hP hD hS hA) rfl rfl hl.1 rfl (lv_room (Nat.le_of_ble_eq_true rfl)) dX10_tells_76 ⟨Nat.le_of_ble_eq_true rfl, Nat.le_of_ble_eq_true rfl⟩) hD hS hA (fun r9 u9 H locs hw hp hd hs => ?_)
    clear hP hD hS
    obtain ⟨rfl, rfl⟩ := hw
    have hP := hp; have hD := hd; have hS := hs; clear hp hd hs
    refine lv_istore (lv' := [(5, .int r1), (0, .ref (ad 0)), (1, .int x1), (3, .long x3)]) hx hb dX10_tells_79 hl (by decide) rfl (fun ls hl => ?_)
    refine lv_aload_n hx hb dX10_tells_81 rfl (lv_at hl 1 rfl) ?_
    refine lv_iconst (v := 0) hx hb dX10_tells_82 (by decide) ?_
    refine va_put (D := D) (ci := 10) (v := .int 0) (ty := .boolean) (C := RX10) (T := TX10) (N := 56) hx hb hts u9_wsX10_tells_X10 tyX10 tyX10_ok nmX10 hown hK hP hD hS 0 rfl rfl 24 (by decide) (hts (.fieldLink RX10 288 "TurnedFloorsModel" "broken" "Z") f9_wsX10_tells_63) (fun _ h9 => h9) rfl (by decide +kernel) rfl rfl (Nat.le_of_ble_eq_true rfl) dX10_tells_83 (fun H locs hp hd hs => ?_)
    obtain ⟨q4, eq4, h⟩ := dL_some h
    refine kz_re (w2 := w10 ty ad q4) hp hd hs (by rw [← eq4]; exact w10_f24 ty ad q3 0) ?_
    clear hp hd hs hP hD hS
    intro hP hD hS
    refine lv_aload_n hx hb dX10_tells_86 rfl (lv_at hl 1 rfl) ?_
    refine lv_dup hx hb dX10_tells_87 rfl ?_
    refine va_get (D := D) (ci := 10) (v := .int (q4.1 0 22)) (C := RX10) (T := TX10) (N := 56) hx hb hts u9_wsX10_tells_X10 hown hK hP 0 rfl rfl 22 (by decide) (hts (.fieldLink RX10 278 "TurnedFloorsModel" "go" "I") f9_wsX10_tells_62) (fun _ h9 => h9) rfl dX10_tells_88 ?_
    refine lv_iconst (v := 1) hx hb dX10_tells_91 (by decide) ?_
    refine lv_iadd hx hb dX10_tells_92 ?_
    refine va_put (D := D) (ci := 10) (v := .int ((q4.1 0 22) + 1 : Int32)) (ty := .int) (C := RX10) (T := TX10) (N := 56) hx hb hts u9_wsX10_tells_X10 tyX10 tyX10_ok nmX10 hown hK hP hD hS 0 rfl rfl 22 (by decide) (hts (.fieldLink RX10 278 "TurnedFloorsModel" "go" "I") f9_wsX10_tells_62) (fun _ h9 => h9) rfl (by decide +kernel) rfl rfl (Nat.le_of_ble_eq_true rfl) dX10_tells_93 (fun H locs hp hd hs => ?_)
    obtain ⟨q5, eq5, h⟩ := dL_some h
    refine kz_re (w2 := w10 ty ad q5) hp hd hs (by rw [← eq5]; exact w10_f22 ty ad q4 ((q4.1 0 22) + 1 : Int32)) ?_
    clear hp hd hs hP hD hS
    intro hP hD hS
    refine lv_iload hx hb dX10_tells_96 (lv_at hl 0 rfl) ?_
    refine lv_iconst (v := 1) hx hb dX10_tells_98 (by decide) ?_
    refine lv_icmp_ne (tgt := 110) hx hb dX10_tells_99 (by decide) (fun c9 => ?_) (fun c9 => ?_)
    · rw [if_neg c9] at h
      refine lv_lconst (v := 1) hx hb dX10_tells_110 (by decide) ?_
      exact WX10_tells_111 C0 hk60 _ _ _ _ _ _ _ _ h hP hD hS (lv_sub hl [1, 2, 3, 0] rfl)
    · rw [if_pos c9] at h
      refine lv_aload_n hx hb dX10_tells_102 rfl (lv_at hl 1 rfl) ?_
      refine lv_iconst (v := 1) hx hb dX10_tells_103 (by decide) ?_
      obtain ⟨r6, q8, h7, h⟩ := dB_some h
      refine dw_kl (va_runV (As := [.int 1]) (rest := []) ⟨hx, hb, hml, hown, hts⟩ (qX10_sumOf l D ty eo _ ad 10 q5 1 r6 q8 h7) (cwV 1 hts gX10_tells_X10_sumOf rfl rfl rfl hd_X10_sumOf_v ⟨Nat.le_of_ble_eq_true rfl, Nat.le_of_ble_eq_true rfl⟩) (pv10_10_0 hK hN hE hP hD hS hA) rfl rfl hl.1 rfl (lv_room (Nat.le_of_ble_eq_true rfl)) dX10_tells_104 ⟨Nat.le_of_ble_eq_true rfl, Nat.le_of_ble_eq_true rfl⟩) hD hS hA (fun r9 u9 H locs hw hp hd hs => ?_)
      clear hP hD hS
      obtain ⟨rfl, rfl⟩ := hw
      have hP := hp; have hD := hd; have hS := hs; clear hp hd hs
      refine lv_goto (tgt := 111) hx hb dX10_tells_107 (by decide) ?_
      exact WX10_tells_111 C0 hk60 _ _ _ _ _ _ _ _ h hP hD hS (lv_sub hl [1, 2, 3, 0] rfl)
set_option maxHeartbeats 4000000 in
set_option maxRecDepth 100000 in
theorem WX10_tells_60 {p : Program} {l : Launch} {e : Env} {s : State} {m : MethodId} {args : Array Value} {below : List Frame} {meth : Method} {c : Code} {D : va_G} {ty : Nat → ClassId} {eo : Nat → Nat} {A : Nat → Prop} {ad : Nat → Nat} {o1 : Int32} {o2 : dS} (C : dc_C p s m args meth c cX10_tells (some .int) 10 RX10 wsX10_tells D ty eo A)   (n : Nat) (q : dS) (x1 : Int32) (x3 : Int64) (H : Heap) (locs : List Loc) (ls : Array Slot) (h : zX10_tells_60  n q x1 x3 = some (o1, o2)) (hP : va_P D vwCl (w10 ty ad q) H) (hD : va_D A (w10 ty ad q)) (hS : va_S A s.heap H locs) (hl : lv_has ls 10 [(0, .ref (ad 0)), (1, .int x1), (3, .long x3)]) : W p l e ({ frames := 85, cells := 0, slots := 0, locals := 2173 } : Room) s m args below meth c H locs 0 0 (MQ below (va_Qi (fun (r : Int32) (u : va_W) => o1 = r ∧ w10 ty ad o2 = u) (kz_B D ty A) A) args s 0 0 A) (F0 m 60 ls []) := by
  exact dFix_W (F := fun k (a : dS × Int32 × Int64) => zX10_tells_60b  (fun q x1 x3 => k (q, x1, x3)) a.1 a.2.1 a.2.2) (o := (o1, o2)) (P := fun (a : dS × Int32 × Int64) H locs ls => va_P D vwCl (w10 ty ad a.1) H ∧ va_D A (w10 ty ad a.1) ∧ va_S A s.heap H locs ∧ lv_has ls 10 [(0, .ref (ad 0)), (1, .int a.2.1), (3, .long a.2.2)]) (G := fun H locs ls => W p l e ({ frames := 85, cells := 0, slots := 0, locals := 2173 } : Room) s m args below meth c H locs 0 0 (MQ below (va_Qi (fun (r : Int32) (u : va_W) => o1 = r ∧ w10 ty ad o2 = u) (kz_B D ty A) A) args s 0 0 A) (F0 m 60 ls []))
    (fun k hk a H locs ls h hp => WX10_tells_60b C  (fun q x1 x3 H locs ls h h1 h2 h3 h4 => hk (q, x1, x3) H locs ls h ⟨h1, h2, h3, h4⟩) a.1 a.2.1 a.2.2 H locs ls h hp.1 hp.2.1 hp.2.2.1 hp.2.2.2) n (q, x1, x3) H locs ls h ⟨hP, hD, hS, hl⟩
set_option maxHeartbeats 4000000 in
set_option maxRecDepth 100000 in
theorem qX10_tells (l : Launch) (D : va_G) (ty : Nat → ClassId) (eo : Nat → Nat) (sz : Nat) (ad : Nat → Nat) (q : dS) (p1 : Int32) (p2 : Int32) (o1 : Int32) (o2 : dS) (h : zX10_tells q p1 p2 = some (o1, o2)) : Met l yX10_tells wsX10_tells ({ frames := 85, cells := 0, slots := 0, locals := 2173 } : Room) (va_Pc [.ref (ad 0), .int p1, .int p2] (kz_pre D ty eo (w10 ty ad q) sz)) (va_Qi (fun (r : Int32) (u : va_W) => o1 = r ∧ w10 ty ad o2 = u) (kz_B D ty (va_A (w10 ty ad q) sz)) (va_A (w10 ty ad q) sz)) 0 0 (va_A (w10 ty ad q) sz) := by
  refine Met.ofW (cc := cX10_tells) (maxL := 10) (ret := (some .int)) (by decide) rfl ?_
  intro p e s m args below meth c s₁ B hml hv
  obtain ⟨rfl, hsz, hP, hK, hD0, hN, hE⟩ := hv
  have hx := B.exec
  have hb := B.bytes
  have hr := B.returns
  have hts := atoms_spec (ws := wsX10_tells) B.pre
  have hown : s.vm.findClass RX10 = some m.cls := findClass_of_methodNamed B.named
  have hlocks := B.notSynchronized
  subst hsz
  have hD := hD0.self (sz := s.heap.size)
  generalize hAe : va_A (w10 ty ad q) s.heap.size = A at hD hE ⊢
  have hA : ∀ q : Nat, s.heap.size ≤ q → A q := fun q h => by rw [← hAe]; exact Or.inr h
  clear hAe
  have hS : va_S A s.heap s.heap [] := va_S.rf
  have hl := lv_entry ([.ref (ad 0), .int p1, .int p2]) (n := 10) (Nat.le_of_ble_eq_true rfl)
  rw [lg_entry_eq]
  generalize (lg_sl ([.ref (ad 0), .int p1, .int p2]) ++ List.replicate (10 - (lg_sl ([.ref (ad 0), .int p1, .int p2])).length) Slot.unset).toArray = ls at hl ⊢
  have hl : lv_has ls 10 [(0, .ref (ad 0)), (1, .int p1), (2, .int p2)] := hl
  have C : dc_C p s m _ meth c cX10_tells (some .int) 10 RX10 wsX10_tells D ty eo A := ⟨hx, hb, hr, hts, hown, hlocks, hml, hK, hN, hE, hA⟩
  unfold zX10_tells at h
  refine lv_aload_n hx hb dX10_tells_0 rfl (lv_at hl 0 rfl) ?_
  refine va_get (D := D) (ci := 10) (v := .ref (ad 2)) (C := RX10) (T := TX10) (N := 56) hx hb hts u9_wsX10_tells_X10 hown hK hP 0 rfl rfl 2 (by decide) (hts (.fieldLink RX10 28 "TurnedFloorsModel" "kept" "[I") f9_wsX10_tells_66) (fun _ h9 => h9) rfl dX10_tells_1 ?_
  refine lv_bipush (v := 32) hx hb dX10_tells_4 (by decide) ?_
  refine va_iald hx hb hK hP 2 0 rfl rfl (by simp only [vp_in]; decide) dX10_tells_6 ?_
  refine kz_topi (q.1 2 32) (congrArg (q.1 2) (by decide +kernel : Int32.toNatClampNeg 32 = 32)) ?_
  refine lv_iconst (v := (-1)) hx hb dX10_tells_7 (by decide) ?_
  refine lv_icmp_ne (tgt := 13) hx hb dX10_tells_8 (by decide) (fun c9 => ?_) (fun c9 => ?_)
  · rw [if_neg c9] at h
    refine lv_aload_n hx hb dX10_tells_13 rfl (lv_at hl 0 rfl) ?_
    refine lv_iconst (v := 0) hx hb dX10_tells_14 (by decide) ?_
    refine va_put (D := D) (ci := 10) (v := .int 0) (ty := .boolean) (C := RX10) (T := TX10) (N := 56) hx hb hts u9_wsX10_tells_X10 tyX10 tyX10_ok nmX10 hown hK hP hD hS 0 rfl rfl 25 (by decide) (hts (.fieldLink RX10 308 "TurnedFloorsModel" "inOrders" "Z") f9_wsX10_tells_67) (fun _ h9 => h9) rfl (by decide +kernel) rfl rfl (Nat.le_of_ble_eq_true rfl) dX10_tells_15 (fun H locs hp hd hs => ?_)
    obtain ⟨q1, eq1, h⟩ := dL_some h
    refine kz_re (w2 := w10 ty ad q1) hp hd hs (by rw [← eq1]; exact w10_f25 ty ad q 0) ?_
    clear hp hd hs hP hD hS
    intro hP hD hS
    refine lv_iload_n hx hb dX10_tells_18 rfl (lv_at hl 2 rfl) ?_
    refine lv_i2l (v := Int32.toInt64 p2) hx hb dX10_tells_19 rfl ?_
    refine lv_lstore_n (lv' := [(3, .long (Int32.toInt64 p2)), (0, .ref (ad 0)), (1, .int p1), (2, .int p2)]) hx hb dX10_tells_20 rfl hl (by decide) rfl (fun ls hl => ?_)
    refine lv_aload_n hx hb dX10_tells_21 rfl (lv_at hl 1 rfl) ?_
    refine lv_sipush (v := 400) hx hb dX10_tells_22 (by decide) ?_
    refine lv_aload_n hx hb dX10_tells_25 rfl (lv_at hl 1 rfl) ?_
    refine va_get (D := D) (ci := 10) (v := .ref (ad 2)) (C := RX10) (T := TX10) (N := 56) hx hb hts u9_wsX10_tells_X10 hown hK hP 0 rfl rfl 2 (by decide) (hts (.fieldLink RX10 28 "TurnedFloorsModel" "kept" "[I") f9_wsX10_tells_66) (fun _ h9 => h9) rfl dX10_tells_26 ?_
    refine lv_bipush (v := 32) hx hb dX10_tells_29 (by decide) ?_
    refine va_iald hx hb hK hP 2 0 rfl rfl (by simp only [vp_in]; decide) dX10_tells_31 ?_
    refine kz_topi (q1.1 2 32) (congrArg (q1.1 2) (by decide +kernel : Int32.toNatClampNeg 32 = 32)) ?_
    refine lv_imul hx hb dX10_tells_32 ?_
    refine va_put (D := D) (ci := 10) (v := .int (400 * (q1.1 2 32) : Int32)) (ty := .int) (C := RX10) (T := TX10) (N := 56) hx hb hts u9_wsX10_tells_X10 tyX10 tyX10_ok nmX10 hown hK hP hD hS 0 rfl rfl 22 (by decide) (hts (.fieldLink RX10 278 "TurnedFloorsModel" "go" "I") f9_wsX10_tells_62) (fun _ h9 => h9) rfl (by decide +kernel) rfl rfl (Nat.le_of_ble_eq_true rfl) dX10_tells_33 (fun H locs hp hd hs => ?_)
    obtain ⟨q2, eq2, h⟩ := dL_some h
    refine kz_re (w2 := w10 ty ad q2) hp hd hs (by rw [← eq2]; exact w10_f22 ty ad q1 (400 * (q1.1 2 32) : Int32)) ?_
    clear hp hd hs hP hD hS
    intro hP hD hS
    refine lv_aload_n hx hb dX10_tells_36 rfl (lv_at hl 1 rfl) ?_
    refine lv_aload_n hx hb dX10_tells_37 rfl (lv_at hl 1 rfl) ?_
    refine va_get (D := D) (ci := 10) (v := .int (q2.1 0 22)) (C := RX10) (T := TX10) (N := 56) hx hb hts u9_wsX10_tells_X10 hown hK hP 0 rfl rfl 22 (by decide) (hts (.fieldLink RX10 278 "TurnedFloorsModel" "go" "I") f9_wsX10_tells_62) (fun _ h9 => h9) rfl dX10_tells_38 ?_
    refine lv_aload_n hx hb dX10_tells_41 rfl (lv_at hl 1 rfl) ?_
    refine va_get (D := D) (ci := 10) (v := .ref (ad 2)) (C := RX10) (T := TX10) (N := 56) hx hb hts u9_wsX10_tells_X10 hown hK hP 0 rfl rfl 2 (by decide) (hts (.fieldLink RX10 28 "TurnedFloorsModel" "kept" "[I") f9_wsX10_tells_66) (fun _ h9 => h9) rfl dX10_tells_42 ?_
    refine lv_bipush (v := 33) hx hb dX10_tells_45 (by decide) ?_
    refine lv_aload_n hx hb dX10_tells_47 rfl (lv_at hl 1 rfl) ?_
    refine va_get (D := D) (ci := 10) (v := .ref (ad 2)) (C := RX10) (T := TX10) (N := 56) hx hb hts u9_wsX10_tells_X10 hown hK hP 0 rfl rfl 2 (by decide) (hts (.fieldLink RX10 28 "TurnedFloorsModel" "kept" "[I") f9_wsX10_tells_66) (fun _ h9 => h9) rfl dX10_tells_48 ?_
    refine lv_bipush (v := 32) hx hb dX10_tells_51 (by decide) ?_
    refine va_iald hx hb hK hP 2 0 rfl rfl (by simp only [vp_in]; decide) dX10_tells_53 ?_
    refine kz_topi (q2.1 2 32) (congrArg (q2.1 2) (by decide +kernel : Int32.toNatClampNeg 32 = 32)) ?_
    refine lv_iadd hx hb dX10_tells_54 ?_
    obtain ⟨g3, h⟩ := dG_some h
    refine va_iald hx hb hK hP 2 0 rfl rfl (dg_in g3) dX10_tells_55 ?_
    obtain ⟨v4, ev4, h⟩ := dL_some h
    refine kz_topi v4 ev4 ?_
    refine lv_iadd hx hb dX10_tells_56 ?_
    refine va_put (D := D) (ci := 10) (v := .int ((q2.1 0 22) + v4)) (ty := .int) (C := RX10) (T := TX10) (N := 56) hx hb hts u9_wsX10_tells_X10 tyX10 tyX10_ok nmX10 hown hK hP hD hS 0 rfl rfl 23 (by decide) (hts (.fieldLink RX10 275 "TurnedFloorsModel" "goEnd" "I") f9_wsX10_tells_65) (fun _ h9 => h9) rfl (by decide +kernel) rfl rfl (Nat.le_of_ble_eq_true rfl) dX10_tells_57 (fun H locs hp hd hs => ?_)
    obtain ⟨q5, eq5, h⟩ := dL_some h
    refine kz_re (w2 := w10 ty ad q5) hp hd hs (by rw [← eq5]; exact w10_f23 ty ad q2 ((q2.1 0 22) + v4)) ?_
    clear hp hd hs hP hD hS
    intro hP hD hS
    exact WX10_tells_60 C  _ _ _ _ _ _ _ h hP hD hS (lv_sub hl [1, 2, 0] rfl)
  · rw [if_pos c9] at h
    refine lv_iload_n hx hb dX10_tells_11 rfl (lv_at hl 2 rfl) ?_
    cases h
    exact kz_iret hx hb hr hlocks hP hK hD hS dX10_tells_12 ⟨rfl, rfl⟩

set_option maxHeartbeats 4000000 in
set_option maxRecDepth 100000 in
theorem WX10_isNow_15 {p : Program} {l : Launch} {e : Env} {s : State} {m : MethodId} {args : Array Value} {below : List Frame} {meth : Method} {c : Code} {D : va_G} {ty : Nat → ClassId} {eo : Nat → Nat} {A : Nat → Prop} {ad : Nat → Nat} {o1 : Int32} {o2 : dS} (C : dc_C p s m args meth c cX10_isNow (some .boolean) 2 RX10 wsX10_isNow D ty eo A)   (q : dS) (y0 : Int32) (H : Heap) (locs : List Loc) (ls : Array Slot) (h : zX10_isNow_15  q y0 = some (o1, o2)) (hP : va_P D vwCl (w10 ty ad q) H) (hD : va_D A (w10 ty ad q)) (hS : va_S A s.heap H locs) (hl : lv_has ls 2 []) : W p l e ({ frames := 86, cells := 0, slots := 0, locals := 2202 } : Room) s m args below meth c H locs 0 0 (MQ below (va_Qi (fun (r : Int32) (u : va_W) => o1 = r ∧ w10 ty ad o2 = u) (kz_B D ty A) A) args s 0 0 A) (F0 m 15 ls [.int y0]) := by
  have C0 := C
  obtain ⟨hx, hb, hr, hts, hown, hlocks, hml, hK, hN, hE, hA⟩ := C
  unfold zX10_isNow_15 at h
  obtain ⟨g1, h⟩ := dG_some h
  cases h
  exact kz_zret hx hb hr hlocks (dbl_nar g1) hP hK hD hS dX10_isNow_15 ⟨rfl, rfl⟩
set_option maxHeartbeats 4000000 in
set_option maxRecDepth 100000 in
theorem qX10_isNow (l : Launch) (D : va_G) (ty : Nat → ClassId) (eo : Nat → Nat) (sz : Nat) (ad : Nat → Nat) (q : dS) (p1 : Int32) (o1 : Int32) (o2 : dS) (h : zX10_isNow q p1 = some (o1, o2)) : Met l yX10_isNow wsX10_isNow ({ frames := 86, cells := 0, slots := 0, locals := 2202 } : Room) (va_Pc [.ref (ad 0), .int p1] (kz_pre D ty eo (w10 ty ad q) sz)) (va_Qi (fun (r : Int32) (u : va_W) => o1 = r ∧ w10 ty ad o2 = u) (kz_B D ty (va_A (w10 ty ad q) sz)) (va_A (w10 ty ad q) sz)) 0 0 (va_A (w10 ty ad q) sz) := by
  refine Met.ofW (cc := cX10_isNow) (maxL := 2) (ret := (some .boolean)) (by decide) rfl ?_
  intro p e s m args below meth c s₁ B hml hv
  obtain ⟨rfl, hsz, hP, hK, hD0, hN, hE⟩ := hv
  have hx := B.exec
  have hb := B.bytes
  have hr := B.returns
  have hts := atoms_spec (ws := wsX10_isNow) B.pre
  have hown : s.vm.findClass RX10 = some m.cls := findClass_of_methodNamed B.named
  have hlocks := B.notSynchronized
  subst hsz
  have hD := hD0.self (sz := s.heap.size)
  generalize hAe : va_A (w10 ty ad q) s.heap.size = A at hD hE ⊢
  have hA : ∀ q : Nat, s.heap.size ≤ q → A q := fun q h => by rw [← hAe]; exact Or.inr h
  clear hAe
  have hS : va_S A s.heap s.heap [] := va_S.rf
  have hl := lv_entry ([.ref (ad 0), .int p1]) (n := 2) (Nat.le_of_ble_eq_true rfl)
  rw [lg_entry_eq]
  generalize (lg_sl ([.ref (ad 0), .int p1]) ++ List.replicate (2 - (lg_sl ([.ref (ad 0), .int p1])).length) Slot.unset).toArray = ls at hl ⊢
  have hl : lv_has ls 2 [(0, .ref (ad 0)), (1, .int p1)] := hl
  have C : dc_C p s m _ meth c cX10_isNow (some .boolean) 2 RX10 wsX10_isNow D ty eo A := ⟨hx, hb, hr, hts, hown, hlocks, hml, hK, hN, hE, hA⟩
  unfold zX10_isNow at h
  refine lv_aload_n hx hb dX10_isNow_0 rfl (lv_at hl 0 rfl) ?_
  refine lv_iload_n hx hb dX10_isNow_1 rfl (lv_at hl 1 rfl) ?_
  refine lv_iconst (v := 0) hx hb dX10_isNow_2 (by decide) ?_
  obtain ⟨r1, q3, h2, h⟩ := dB_some h
  refine dw_ki (va_runV (As := [.int p1, .int 0]) (rest := []) ⟨hx, hb, hml, hown, hts⟩ (qX10_tells l D ty eo _ ad q p1 0 r1 q3 h2) (cwV 2 hts gX10_isNow_X10_tells rfl rfl rfl hd_X10_tells_v ⟨Nat.le_of_ble_eq_true rfl, Nat.le_of_ble_eq_true rfl⟩) (pv10_10_0 hK hN hE hP hD hS hA) rfl rfl hl.1 rfl (lv_room (Nat.le_of_ble_eq_true rfl)) dX10_isNow_3 ⟨Nat.le_of_ble_eq_true rfl, Nat.le_of_ble_eq_true rfl⟩) hD hS hA (fun r9 u9 H locs hw hp hd hs => ?_)
  clear hP hD hS
  obtain ⟨rfl, rfl⟩ := hw
  have hP := hp; have hD := hd; have hS := hs; clear hp hd hs
  refine lv_iconst (v := 1) hx hb dX10_isNow_6 (by decide) ?_
  refine lv_icmp_ne (tgt := 14) hx hb dX10_isNow_7 (by decide) (fun c9 => ?_) (fun c9 => ?_)
  · rw [if_neg c9] at h
    refine lv_iconst (v := 0) hx hb dX10_isNow_14 (by decide) ?_
    exact WX10_isNow_15 C  _ _ _ _ _ h hP hD hS (lv_sub hl [] rfl)
  · rw [if_pos c9] at h
    refine lv_iconst (v := 1) hx hb dX10_isNow_10 (by decide) ?_
    refine lv_goto (tgt := 15) hx hb dX10_isNow_11 (by decide) ?_
    exact WX10_isNow_15 C  _ _ _ _ _ h hP hD hS (lv_sub hl [] rfl)

set_option maxHeartbeats 4000000 in
set_option maxRecDepth 100000 in
theorem qX10_tipsAt (l : Launch) (D : va_G) (ty : Nat → ClassId) (eo : Nat → Nat) (sz : Nat) (ad : Nat → Nat) (q : dS) (p1 : Int32) (o1 : Int32) (o2 : dS) (h : zX10_tipsAt q p1 = some (o1, o2)) : Met l yX10_tipsAt wsX10_tipsAt ({ frames := 87, cells := 0, slots := 0, locals := 2223 } : Room) (va_Pc [.ref (ad 0), .int p1] (kz_pre D ty eo (w10 ty ad q) sz)) (va_Qi (fun (r : Int32) (u : va_W) => o1 = r ∧ w10 ty ad o2 = u) (kz_B D ty (va_A (w10 ty ad q) sz)) (va_A (w10 ty ad q) sz)) 0 0 (va_A (w10 ty ad q) sz) := by
  refine Met.ofW (cc := cX10_tipsAt) (maxL := 2) (ret := (some .boolean)) (by decide) rfl ?_
  intro p e s m args below meth c s₁ B hml hv
  obtain ⟨rfl, hsz, hP, hK, hD0, hN, hE⟩ := hv
  have hx := B.exec
  have hb := B.bytes
  have hr := B.returns
  have hts := atoms_spec (ws := wsX10_tipsAt) B.pre
  have hown : s.vm.findClass RX10 = some m.cls := findClass_of_methodNamed B.named
  have hlocks := B.notSynchronized
  subst hsz
  have hD := hD0.self (sz := s.heap.size)
  generalize hAe : va_A (w10 ty ad q) s.heap.size = A at hD hE ⊢
  have hA : ∀ q : Nat, s.heap.size ≤ q → A q := fun q h => by rw [← hAe]; exact Or.inr h
  clear hAe
  have hS : va_S A s.heap s.heap [] := va_S.rf
  have hl := lv_entry ([.ref (ad 0), .int p1]) (n := 2) (Nat.le_of_ble_eq_true rfl)
  rw [lg_entry_eq]
  generalize (lg_sl ([.ref (ad 0), .int p1]) ++ List.replicate (2 - (lg_sl ([.ref (ad 0), .int p1])).length) Slot.unset).toArray = ls at hl ⊢
  have hl : lv_has ls 2 [(0, .ref (ad 0)), (1, .int p1)] := hl
  have C : dc_C p s m _ meth c cX10_tipsAt (some .boolean) 2 RX10 wsX10_tipsAt D ty eo A := ⟨hx, hb, hr, hts, hown, hlocks, hml, hK, hN, hE, hA⟩
  unfold zX10_tipsAt at h
  refine lv_aload_n hx hb dX10_tipsAt_0 rfl (lv_at hl 0 rfl) ?_
  refine lv_iload_n hx hb dX10_tipsAt_1 rfl (lv_at hl 1 rfl) ?_
  obtain ⟨q3, h2, h⟩ := dV_some h
  refine dw_kv (va_runV (As := [.int p1]) (rest := []) ⟨hx, hb, hml, hown, hts⟩ (qX10_setsFloor l D ty eo _ ad q p1 q3 h2) (cwV 1 hts gX10_tipsAt_X10_setsFloor rfl rfl rfl hd_X10_setsFloor_v ⟨Nat.le_of_ble_eq_true rfl, Nat.le_of_ble_eq_true rfl⟩) (pv10_10_0 hK hN hE hP hD hS hA) rfl rfl hl.1 rfl (lv_room (Nat.le_of_ble_eq_true rfl)) dX10_tipsAt_2 ⟨Nat.le_of_ble_eq_true rfl, Nat.le_of_ble_eq_true rfl⟩) hD hS hA (fun u9 H locs hw hp hd hs => ?_)
  clear hP hD hS
  obtain rfl := hw
  have hP := hp; have hD := hd; have hS := hs; clear hp hd hs
  refine lv_aload_n hx hb dX10_tipsAt_5 rfl (lv_at hl 0 rfl) ?_
  refine lv_iconst (v := 3) hx hb dX10_tipsAt_6 (by decide) ?_
  obtain ⟨r4, q6, h5, h⟩ := dB_some h
  refine dw_ki (va_runV (As := [.int 3]) (rest := []) ⟨hx, hb, hml, hown, hts⟩ (qX10_isNow l D ty eo _ ad q3 3 r4 q6 h5) (cwV 1 hts gX10_tipsAt_X10_isNow rfl rfl rfl hd_X10_isNow_v ⟨Nat.le_of_ble_eq_true rfl, Nat.le_of_ble_eq_true rfl⟩) (pv10_10_0 hK hN hE hP hD hS hA) rfl rfl hl.1 rfl (lv_room (Nat.le_of_ble_eq_true rfl)) dX10_tipsAt_7 ⟨Nat.le_of_ble_eq_true rfl, Nat.le_of_ble_eq_true rfl⟩) hD hS hA (fun r9 u9 H locs hw hp hd hs => ?_)
  clear hP hD hS
  obtain ⟨rfl, rfl⟩ := hw
  have hP := hp; have hD := hd; have hS := hs; clear hp hd hs
  obtain ⟨g7, h⟩ := dG_some h
  cases h
  exact kz_zret hx hb hr hlocks (dbl_nar g7) hP hK hD hS dX10_tipsAt_10 ⟨rfl, rfl⟩

set_option maxHeartbeats 4000000 in
set_option maxRecDepth 100000 in
theorem WX10_at_68 {p : Program} {l : Launch} {e : Env} {s : State} {m : MethodId} {args : Array Value} {below : List Frame} {meth : Method} {c : Code} {D : va_G} {ty : Nat → ClassId} {eo : Nat → Nat} {A : Nat → Prop} {ad : Nat → Nat} {o1 : Int32} {o2 : dS} (C : dc_C p s m args meth c cX10_at (some .int) 3 RX10 wsX10_at D ty eo A)   (q : dS) (y0 : Int32) (H : Heap) (locs : List Loc) (ls : Array Slot) (h : zX10_at_68  q y0 = some (o1, o2)) (hP : va_P D vwCl (w10 ty ad q) H) (hD : va_D A (w10 ty ad q)) (hS : va_S A s.heap H locs) (hl : lv_has ls 3 []) : W p l e ({ frames := 88, cells := 0, slots := 0, locals := 2244 } : Room) s m args below meth c H locs 0 0 (MQ below (va_Qi (fun (r : Int32) (u : va_W) => o1 = r ∧ w10 ty ad o2 = u) (kz_B D ty A) A) args s 0 0 A) (F0 m 68 ls [.int y0]) := by
  have C0 := C
  obtain ⟨hx, hb, hr, hts, hown, hlocks, hml, hK, hN, hE, hA⟩ := C
  unfold zX10_at_68 at h
  cases h
  exact kz_iret hx hb hr hlocks hP hK hD hS dX10_at_68 ⟨rfl, rfl⟩
set_option maxHeartbeats 4000000 in
set_option maxRecDepth 100000 in
theorem qX10_at (l : Launch) (D : va_G) (ty : Nat → ClassId) (eo : Nat → Nat) (sz : Nat) (ad : Nat → Nat) (q : dS) (p1 : Int32) (p2 : Int32) (o1 : Int32) (o2 : dS) (h : zX10_at q p1 p2 = some (o1, o2)) : Met l yX10_at wsX10_at ({ frames := 88, cells := 0, slots := 0, locals := 2244 } : Room) (va_Pc [.ref (ad 0), .int p1, .int p2] (kz_pre D ty eo (w10 ty ad q) sz)) (va_Qi (fun (r : Int32) (u : va_W) => o1 = r ∧ w10 ty ad o2 = u) (kz_B D ty (va_A (w10 ty ad q) sz)) (va_A (w10 ty ad q) sz)) 0 0 (va_A (w10 ty ad q) sz) := by
  refine Met.ofW (cc := cX10_at) (maxL := 3) (ret := (some .int)) (by decide) rfl ?_
  intro p e s m args below meth c s₁ B hml hv
  obtain ⟨rfl, hsz, hP, hK, hD0, hN, hE⟩ := hv
  have hx := B.exec
  have hb := B.bytes
  have hr := B.returns
  have hts := atoms_spec (ws := wsX10_at) B.pre
  have hown : s.vm.findClass RX10 = some m.cls := findClass_of_methodNamed B.named
  have hlocks := B.notSynchronized
  subst hsz
  have hD := hD0.self (sz := s.heap.size)
  generalize hAe : va_A (w10 ty ad q) s.heap.size = A at hD hE ⊢
  have hA : ∀ q : Nat, s.heap.size ≤ q → A q := fun q h => by rw [← hAe]; exact Or.inr h
  clear hAe
  have hS : va_S A s.heap s.heap [] := va_S.rf
  have hl := lv_entry ([.ref (ad 0), .int p1, .int p2]) (n := 3) (Nat.le_of_ble_eq_true rfl)
  rw [lg_entry_eq]
  generalize (lg_sl ([.ref (ad 0), .int p1, .int p2]) ++ List.replicate (3 - (lg_sl ([.ref (ad 0), .int p1, .int p2])).length) Slot.unset).toArray = ls at hl ⊢
  have hl : lv_has ls 3 [(0, .ref (ad 0)), (1, .int p1), (2, .int p2)] := hl
  have C : dc_C p s m _ meth c cX10_at (some .int) 3 RX10 wsX10_at D ty eo A := ⟨hx, hb, hr, hts, hown, hlocks, hml, hK, hN, hE, hA⟩
  unfold zX10_at at h
  refine lv_aload_n hx hb dX10_at_0 rfl (lv_at hl 0 rfl) ?_
  refine lv_iload_n hx hb dX10_at_1 rfl (lv_at hl 1 rfl) ?_
  obtain ⟨r1, q3, h2, h⟩ := dB_some h
  refine dw_ki (va_runV (As := [.int p1]) (rest := []) ⟨hx, hb, hml, hown, hts⟩ (qX10_isPlace l D ty eo _ ad q p1 r1 q3 h2) (cwV 1 hts gX10_at_X10_isPlace rfl rfl rfl hd_X10_isPlace_v ⟨Nat.le_of_ble_eq_true rfl, Nat.le_of_ble_eq_true rfl⟩) (pv10_10_0 hK hN hE hP hD hS hA) rfl rfl hl.1 rfl (lv_room (Nat.le_of_ble_eq_true rfl)) dX10_at_2 ⟨Nat.le_of_ble_eq_true rfl, Nat.le_of_ble_eq_true rfl⟩) hD hS hA (fun r9 u9 H locs hw hp hd hs => ?_)
  clear hP hD hS
  obtain ⟨rfl, rfl⟩ := hw
  have hP := hp; have hD := hd; have hS := hs; clear hp hd hs
  refine lv_if_ne (tgt := 10) hx hb dX10_at_5 (by decide) (fun c9 => ?_) (fun c9 => ?_)
  · rw [if_neg c9] at h
    refine lv_iload_n hx hb dX10_at_10 rfl (lv_at hl 2 rfl) ?_
    by_cases c4 : p2 = 0
    · rw [if_pos c4] at h
      refine lv_tableIn (off := 25) (tgt := 36) hx hb dX10_at_11 (by rw [c4]; decide) (by rw [c4]; decide) (by rw [c4]; decide) (by decide) ?_
      refine lv_aload_n hx hb dX10_at_36 rfl (lv_at hl 0 rfl) ?_
      refine va_get (D := D) (ci := 10) (v := .ref (ad 2)) (C := RX10) (T := TX10) (N := 56) hx hb hts u9_wsX10_at_X10 hown hK hP 0 rfl rfl 2 (by decide) (hts (.fieldLink RX10 28 "TurnedFloorsModel" "kept" "[I") f9_wsX10_at_69) (fun _ h9 => h9) rfl dX10_at_37 ?_
      refine lv_iconst (v := 0) hx hb dX10_at_40 (by decide) ?_
      refine lv_iload_n hx hb dX10_at_41 rfl (lv_at hl 1 rfl) ?_
      refine lv_iadd hx hb dX10_at_42 ?_
      obtain ⟨g5, h⟩ := dG_some h
      refine va_iald hx hb hK hP 2 0 rfl rfl (dg_in g5) dX10_at_43 ?_
      obtain ⟨v6, ev6, h⟩ := dL_some h
      refine kz_topi v6 ev6 ?_
      cases h
      exact kz_iret hx hb hr hlocks hP hK hD hS dX10_at_44 ⟨rfl, rfl⟩
    rw [if_neg c4] at h
    by_cases c7 : p2 = 1
    · rw [if_pos c7] at h
      refine lv_tableIn (off := 34) (tgt := 45) hx hb dX10_at_11 (by rw [c7]; decide) (by rw [c7]; decide) (by rw [c7]; decide) (by decide) ?_
      refine lv_aload_n hx hb dX10_at_45 rfl (lv_at hl 0 rfl) ?_
      refine va_get (D := D) (ci := 10) (v := .ref (ad 2)) (C := RX10) (T := TX10) (N := 56) hx hb hts u9_wsX10_at_X10 hown hK hP 0 rfl rfl 2 (by decide) (hts (.fieldLink RX10 28 "TurnedFloorsModel" "kept" "[I") f9_wsX10_at_69) (fun _ h9 => h9) rfl dX10_at_46 ?_
      refine lv_bipush (v := 6) hx hb dX10_at_49 (by decide) ?_
      refine lv_iload_n hx hb dX10_at_51 rfl (lv_at hl 1 rfl) ?_
      refine lv_iadd hx hb dX10_at_52 ?_
      obtain ⟨g8, h⟩ := dG_some h
      refine va_iald hx hb hK hP 2 0 rfl rfl (dg_in g8) dX10_at_53 ?_
      obtain ⟨v9, ev9, h⟩ := dL_some h
      refine kz_topi v9 ev9 ?_
      cases h
      exact kz_iret hx hb hr hlocks hP hK hD hS dX10_at_54 ⟨rfl, rfl⟩
    rw [if_neg c7] at h
    by_cases c10 : p2 = 2
    · rw [if_pos c10] at h
      refine lv_tableIn (off := 44) (tgt := 55) hx hb dX10_at_11 (by rw [c10]; decide) (by rw [c10]; decide) (by rw [c10]; decide) (by decide) ?_
      refine lv_aload_n hx hb dX10_at_55 rfl (lv_at hl 0 rfl) ?_
      refine lv_iload_n hx hb dX10_at_56 rfl (lv_at hl 1 rfl) ?_
      obtain ⟨r11, q13, h12, h⟩ := dB_some h
      refine dw_ki (va_runV (As := [.int p1]) (rest := []) ⟨hx, hb, hml, hown, hts⟩ (qX10_tipsAt l D ty eo _ ad q3 p1 r11 q13 h12) (cwV 1 hts gX10_at_X10_tipsAt rfl rfl rfl hd_X10_tipsAt_v ⟨Nat.le_of_ble_eq_true rfl, Nat.le_of_ble_eq_true rfl⟩) (pv10_10_0 hK hN hE hP hD hS hA) rfl rfl hl.1 rfl (lv_room (Nat.le_of_ble_eq_true rfl)) dX10_at_57 ⟨Nat.le_of_ble_eq_true rfl, Nat.le_of_ble_eq_true rfl⟩) hD hS hA (fun r9 u9 H locs hw hp hd hs => ?_)
      clear hP hD hS
      obtain ⟨rfl, rfl⟩ := hw
      have hP := hp; have hD := hd; have hS := hs; clear hp hd hs
      refine lv_if_eq (tgt := 67) hx hb dX10_at_60 (by decide) (fun c9 => ?_) (fun c9 => ?_)
      · rw [if_pos c9] at h
        refine lv_iconst (v := 0) hx hb dX10_at_67 (by decide) ?_
        exact WX10_at_68 C  _ _ _ _ _ h hP hD hS (lv_sub hl [] rfl)
      · rw [if_neg c9] at h
        refine lv_iconst (v := 1) hx hb dX10_at_63 (by decide) ?_
        refine lv_goto (tgt := 68) hx hb dX10_at_64 (by decide) ?_
        exact WX10_at_68 C  _ _ _ _ _ h hP hD hS (lv_sub hl [] rfl)
    rw [if_neg c10] at h
    refine lv_tableOut (tgt := 69) hx hb dX10_at_11 (by simp only [← Int32.toInt_inj, Int32.reduceToInt] at c4 c7 c10; omega) (by decide) ?_
    refine lv_iconst (v := (-1)) hx hb dX10_at_69 (by decide) ?_
    cases h
    exact kz_iret hx hb hr hlocks hP hK hD hS dX10_at_70 ⟨rfl, rfl⟩
  · rw [if_pos c9] at h
    refine lv_iconst (v := (-1)) hx hb dX10_at_8 (by decide) ?_
    cases h
    exact kz_iret hx hb hr hlocks hP hK hD hS dX10_at_9 ⟨rfl, rfl⟩

set_option maxHeartbeats 4000000 in
set_option maxRecDepth 100000 in
theorem WX10_rankBelow_20 {p : Program} {l : Launch} {e : Env} {s : State} {m : MethodId} {args : Array Value} {below : List Frame} {meth : Method} {c : Code} {D : va_G} {ty : Nat → ClassId} {eo : Nat → Nat} {A : Nat → Prop} {ad : Nat → Nat} {o1 : Int32} {o2 : dS} (C : dc_C p s m args meth c cX10_rankBelow (some .int) 2 RX10 wsX10_rankBelow D ty eo A)   (q : dS) (y0 : Int32) (H : Heap) (locs : List Loc) (ls : Array Slot) (h : zX10_rankBelow_20  q y0 = some (o1, o2)) (hP : va_P D vwCl (w10 ty ad q) H) (hD : va_D A (w10 ty ad q)) (hS : va_S A s.heap H locs) (hl : lv_has ls 2 []) : W p l e ({ frames := 1, cells := 0, slots := 0, locals := 20 } : Room) s m args below meth c H locs 0 0 (MQ below (va_Qi (fun (r : Int32) (u : va_W) => o1 = r ∧ w10 ty ad o2 = u) (kz_B D ty A) A) args s 0 0 A) (F0 m 20 ls [.int y0]) := by
  have C0 := C
  obtain ⟨hx, hb, hr, hts, hown, hlocks, hml, hK, hN, hE, hA⟩ := C
  unfold zX10_rankBelow_20 at h
  cases h
  exact kz_iret hx hb hr hlocks hP hK hD hS dX10_rankBelow_20 ⟨rfl, rfl⟩
set_option maxHeartbeats 4000000 in
set_option maxRecDepth 100000 in
theorem qX10_rankBelow (l : Launch) (D : va_G) (ty : Nat → ClassId) (eo : Nat → Nat) (sz : Nat) (ad : Nat → Nat) (q : dS) (p1 : Int32) (o1 : Int32) (o2 : dS) (h : zX10_rankBelow q p1 = some (o1, o2)) : Met l yX10_rankBelow wsX10_rankBelow ({ frames := 1, cells := 0, slots := 0, locals := 20 } : Room) (va_Pc [.ref (ad 0), .int p1] (kz_pre D ty eo (w10 ty ad q) sz)) (va_Qi (fun (r : Int32) (u : va_W) => o1 = r ∧ w10 ty ad o2 = u) (kz_B D ty (va_A (w10 ty ad q) sz)) (va_A (w10 ty ad q) sz)) 0 0 (va_A (w10 ty ad q) sz) := by
  refine Met.ofW (cc := cX10_rankBelow) (maxL := 2) (ret := (some .int)) (by decide) rfl ?_
  intro p e s m args below meth c s₁ B hml hv
  obtain ⟨rfl, hsz, hP, hK, hD0, hN, hE⟩ := hv
  have hx := B.exec
  have hb := B.bytes
  have hr := B.returns
  have hts := atoms_spec (ws := wsX10_rankBelow) B.pre
  have hown : s.vm.findClass RX10 = some m.cls := findClass_of_methodNamed B.named
  have hlocks := B.notSynchronized
  subst hsz
  have hD := hD0.self (sz := s.heap.size)
  generalize hAe : va_A (w10 ty ad q) s.heap.size = A at hD hE ⊢
  have hA : ∀ q : Nat, s.heap.size ≤ q → A q := fun q h => by rw [← hAe]; exact Or.inr h
  clear hAe
  have hS : va_S A s.heap s.heap [] := va_S.rf
  have hl := lv_entry ([.ref (ad 0), .int p1]) (n := 2) (Nat.le_of_ble_eq_true rfl)
  rw [lg_entry_eq]
  generalize (lg_sl ([.ref (ad 0), .int p1]) ++ List.replicate (2 - (lg_sl ([.ref (ad 0), .int p1])).length) Slot.unset).toArray = ls at hl ⊢
  have hl : lv_has ls 2 [(0, .ref (ad 0)), (1, .int p1)] := hl
  have C : dc_C p s m _ meth c cX10_rankBelow (some .int) 2 RX10 wsX10_rankBelow D ty eo A := ⟨hx, hb, hr, hts, hown, hlocks, hml, hK, hN, hE, hA⟩
  unfold zX10_rankBelow at h
  refine lv_iload_n hx hb dX10_rankBelow_0 rfl (lv_at hl 1 rfl) ?_
  refine lv_aload_n hx hb dX10_rankBelow_1 rfl (lv_at hl 0 rfl) ?_
  obtain ⟨r1, q3, h2, h⟩ := dB_some h
  refine dw_ki (va_runV (As := []) (rest := [.int p1]) ⟨hx, hb, hml, hown, hts⟩ (qX10_size l D ty eo _ ad q  r1 q3 h2) (cwV 0 hts gX10_rankBelow_X10_size rfl rfl rfl hd_X10_size_v ⟨Nat.le_of_ble_eq_true rfl, Nat.le_of_ble_eq_true rfl⟩) (pv10_10_0 hK hN hE hP hD hS hA) rfl rfl hl.1 rfl (lv_room (Nat.le_of_ble_eq_true rfl)) dX10_rankBelow_2 ⟨Nat.le_of_ble_eq_true rfl, Nat.le_of_ble_eq_true rfl⟩) hD hS hA (fun r9 u9 H locs hw hp hd hs => ?_)
  clear hP hD hS
  obtain ⟨rfl, rfl⟩ := hw
  have hP := hp; have hD := hd; have hS := hs; clear hp hd hs
  refine lv_icmp_ge (tgt := 19) hx hb dX10_rankBelow_5 (by decide) (fun c9 => ?_) (fun c9 => ?_)
  · rw [if_pos c9] at h
    refine lv_iconst (v := (-1)) hx hb dX10_rankBelow_19 (by decide) ?_
    exact WX10_rankBelow_20 C  _ _ _ _ _ h hP hD hS (lv_sub hl [] rfl)
  · rw [if_neg c9] at h
    refine lv_aload_n hx hb dX10_rankBelow_8 rfl (lv_at hl 0 rfl) ?_
    refine va_get (D := D) (ci := 10) (v := .ref (ad 2)) (C := RX10) (T := TX10) (N := 56) hx hb hts u9_wsX10_rankBelow_X10 hown hK hP 0 rfl rfl 2 (by decide) (hts (.fieldLink RX10 28 "TurnedFloorsModel" "kept" "[I") f9_wsX10_rankBelow_71) (fun _ h9 => h9) rfl dX10_rankBelow_9 ?_
    refine lv_iconst (v := 0) hx hb dX10_rankBelow_12 (by decide) ?_
    refine lv_iload_n hx hb dX10_rankBelow_13 rfl (lv_at hl 1 rfl) ?_
    refine lv_iadd hx hb dX10_rankBelow_14 ?_
    obtain ⟨g4, h⟩ := dG_some h
    refine va_iald hx hb hK hP 2 0 rfl rfl (dg_in g4) dX10_rankBelow_15 ?_
    obtain ⟨v5, ev5, h⟩ := dL_some h
    refine kz_topi v5 ev5 ?_
    refine lv_goto (tgt := 20) hx hb dX10_rankBelow_16 (by decide) ?_
    exact WX10_rankBelow_20 C  _ _ _ _ _ h hP hD hS (lv_sub hl [] rfl)

set_option maxHeartbeats 4000000 in
set_option maxRecDepth 100000 in
theorem qX10_setsTurn (l : Launch) (D : va_G) (ty : Nat → ClassId) (eo : Nat → Nat) (sz : Nat) (ad : Nat → Nat) (q : dS) (p1 : Int32) (p2 : Int32) (p3 : Int32) (p4 : Int32) (o2 : dS) (h : zX10_setsTurn q p1 p2 p3 p4 = some o2) : Met l yX10_setsTurn wsX10_setsTurn ({ frames := 2, cells := 0, slots := 0, locals := 43 } : Room) (va_Pc [.ref (ad 0), .int p1, .int p2, .int p3, .int p4] (kz_pre D ty eo (w10 ty ad q) sz)) (va_Qv (fun (u : va_W) => w10 ty ad o2 = u) (kz_B D ty (va_A (w10 ty ad q) sz)) (va_A (w10 ty ad q) sz)) 0 0 (va_A (w10 ty ad q) sz) := by
  refine Met.ofW (cc := cX10_setsTurn) (maxL := 5) (ret := none) (by decide) rfl ?_
  intro p e s m args below meth c s₁ B hml hv
  obtain ⟨rfl, hsz, hP, hK, hD0, hN, hE⟩ := hv
  have hx := B.exec
  have hb := B.bytes
  have hr := B.returns
  have hts := atoms_spec (ws := wsX10_setsTurn) B.pre
  have hown : s.vm.findClass RX10 = some m.cls := findClass_of_methodNamed B.named
  have hlocks := B.notSynchronized
  subst hsz
  have hD := hD0.self (sz := s.heap.size)
  generalize hAe : va_A (w10 ty ad q) s.heap.size = A at hD hE ⊢
  have hA : ∀ q : Nat, s.heap.size ≤ q → A q := fun q h => by rw [← hAe]; exact Or.inr h
  clear hAe
  have hS : va_S A s.heap s.heap [] := va_S.rf
  have hl := lv_entry ([.ref (ad 0), .int p1, .int p2, .int p3, .int p4]) (n := 5) (Nat.le_of_ble_eq_true rfl)
  rw [lg_entry_eq]
  generalize (lg_sl ([.ref (ad 0), .int p1, .int p2, .int p3, .int p4]) ++ List.replicate (5 - (lg_sl ([.ref (ad 0), .int p1, .int p2, .int p3, .int p4])).length) Slot.unset).toArray = ls at hl ⊢
  have hl : lv_has ls 5 [(0, .ref (ad 0)), (1, .int p1), (2, .int p2), (3, .int p3), (4, .int p4)] := hl
  have C : dc_C p s m _ meth c cX10_setsTurn none 5 RX10 wsX10_setsTurn D ty eo A := ⟨hx, hb, hr, hts, hown, hlocks, hml, hK, hN, hE, hA⟩
  unfold zX10_setsTurn at h
  refine lv_aload_n hx hb dX10_setsTurn_0 rfl (lv_at hl 0 rfl) ?_
  refine va_get (D := D) (ci := 10) (v := .ref (ad 12)) (C := RX10) (T := TX10) (N := 56) hx hb hts u9_wsX10_setsTurn_X10 hown hK hP 0 rfl rfl 26 (by decide) (hts (.fieldLink RX10 63 "TurnedFloorsModel" "asked" "[I") f9_wsX10_setsTurn_73) (fun _ h9 => h9) rfl dX10_setsTurn_1 ?_
  refine lv_iconst (v := 0) hx hb dX10_setsTurn_4 (by decide) ?_
  refine lv_iload_n hx hb dX10_setsTurn_5 rfl (lv_at hl 1 rfl) ?_
  refine va_iast hx hb hK hP hD hS 12 0 rfl rfl (by simp only [vp_in]; decide) dX10_setsTurn_6 (fun H locs hp hd hs => ?_)
  obtain ⟨q1, eq1, h⟩ := dL_some h
  refine kz_re (w2 := w10 ty ad q1) hp hd hs (by rw [(by decide +kernel : Int32.toNatClampNeg 0 = 0), ← eq1]; exact w10_a12 ty ad q 0 p1) ?_
  clear hp hd hs hP hD hS
  intro hP hD hS
  refine lv_aload_n hx hb dX10_setsTurn_7 rfl (lv_at hl 0 rfl) ?_
  refine va_get (D := D) (ci := 10) (v := .ref (ad 12)) (C := RX10) (T := TX10) (N := 56) hx hb hts u9_wsX10_setsTurn_X10 hown hK hP 0 rfl rfl 26 (by decide) (hts (.fieldLink RX10 63 "TurnedFloorsModel" "asked" "[I") f9_wsX10_setsTurn_73) (fun _ h9 => h9) rfl dX10_setsTurn_8 ?_
  refine lv_iconst (v := 1) hx hb dX10_setsTurn_11 (by decide) ?_
  refine lv_iload_n hx hb dX10_setsTurn_12 rfl (lv_at hl 2 rfl) ?_
  refine va_iast hx hb hK hP hD hS 12 0 rfl rfl (by simp only [vp_in]; decide) dX10_setsTurn_13 (fun H locs hp hd hs => ?_)
  obtain ⟨q2, eq2, h⟩ := dL_some h
  refine kz_re (w2 := w10 ty ad q2) hp hd hs (by rw [(by decide +kernel : Int32.toNatClampNeg 1 = 1), ← eq2]; exact w10_a12 ty ad q1 1 p2) ?_
  clear hp hd hs hP hD hS
  intro hP hD hS
  refine lv_aload_n hx hb dX10_setsTurn_14 rfl (lv_at hl 0 rfl) ?_
  refine va_get (D := D) (ci := 10) (v := .ref (ad 12)) (C := RX10) (T := TX10) (N := 56) hx hb hts u9_wsX10_setsTurn_X10 hown hK hP 0 rfl rfl 26 (by decide) (hts (.fieldLink RX10 63 "TurnedFloorsModel" "asked" "[I") f9_wsX10_setsTurn_73) (fun _ h9 => h9) rfl dX10_setsTurn_15 ?_
  refine lv_iconst (v := 2) hx hb dX10_setsTurn_18 (by decide) ?_
  refine lv_iload_n hx hb dX10_setsTurn_19 rfl (lv_at hl 3 rfl) ?_
  refine va_iast hx hb hK hP hD hS 12 0 rfl rfl (by simp only [vp_in]; decide) dX10_setsTurn_20 (fun H locs hp hd hs => ?_)
  obtain ⟨q3, eq3, h⟩ := dL_some h
  refine kz_re (w2 := w10 ty ad q3) hp hd hs (by rw [(by decide +kernel : Int32.toNatClampNeg 2 = 2), ← eq3]; exact w10_a12 ty ad q2 2 p3) ?_
  clear hp hd hs hP hD hS
  intro hP hD hS
  refine lv_aload_n hx hb dX10_setsTurn_21 rfl (lv_at hl 0 rfl) ?_
  refine lv_iconst (v := (-1)) hx hb dX10_setsTurn_22 (by decide) ?_
  refine lv_iconst (v := (-1)) hx hb dX10_setsTurn_23 (by decide) ?_
  refine lv_iload hx hb dX10_setsTurn_24 (lv_at hl 4 rfl) ?_
  obtain ⟨q6, h5, h⟩ := dV_some h
  refine dw_kv (va_runV (As := [.int (-1), .int (-1), .int p4]) (rest := []) ⟨hx, hb, hml, hown, hts⟩ (qX10_setsAsked l D ty eo _ ad q3 (-1) (-1) p4 q6 h5) (cwV 3 hts gX10_setsTurn_X10_setsAsked rfl rfl rfl hd_X10_setsAsked_v ⟨Nat.le_of_ble_eq_true rfl, Nat.le_of_ble_eq_true rfl⟩) (pv10_10_0 hK hN hE hP hD hS hA) rfl rfl hl.1 rfl (lv_room (Nat.le_of_ble_eq_true rfl)) dX10_setsTurn_26 ⟨Nat.le_of_ble_eq_true rfl, Nat.le_of_ble_eq_true rfl⟩) hD hS hA (fun u9 H locs hw hp hd hs => ?_)
  clear hP hD hS
  obtain rfl := hw
  have hP := hp; have hD := hd; have hS := hs; clear hp hd hs
  cases h
  exact kz_vret hx hb hr hlocks hP hK hD hS dX10_setsTurn_29 rfl

set_option maxHeartbeats 4000000 in
set_option maxRecDepth 100000 in
theorem qX10_paysNow (l : Launch) (D : va_G) (ty : Nat → ClassId) (eo : Nat → Nat) (sz : Nat) (ad : Nat → Nat) (q : dS)  (o1 : Int32) (o2 : dS) (h : zX10_paysNow q = some (o1, o2)) : Met l yX10_paysNow wsX10_paysNow ({ frames := 86, cells := 0, slots := 0, locals := 2202 } : Room) (va_Pc [.ref (ad 0)] (kz_pre D ty eo (w10 ty ad q) sz)) (va_Qi (fun (r : Int32) (u : va_W) => o1 = r ∧ w10 ty ad o2 = u) (kz_B D ty (va_A (w10 ty ad q) sz)) (va_A (w10 ty ad q) sz)) 0 0 (va_A (w10 ty ad q) sz) := by
  refine Met.ofW (cc := cX10_paysNow) (maxL := 1) (ret := (some .int)) (by decide) rfl ?_
  intro p e s m args below meth c s₁ B hml hv
  obtain ⟨rfl, hsz, hP, hK, hD0, hN, hE⟩ := hv
  have hx := B.exec
  have hb := B.bytes
  have hr := B.returns
  have hts := atoms_spec (ws := wsX10_paysNow) B.pre
  have hown : s.vm.findClass RX10 = some m.cls := findClass_of_methodNamed B.named
  have hlocks := B.notSynchronized
  subst hsz
  have hD := hD0.self (sz := s.heap.size)
  generalize hAe : va_A (w10 ty ad q) s.heap.size = A at hD hE ⊢
  have hA : ∀ q : Nat, s.heap.size ≤ q → A q := fun q h => by rw [← hAe]; exact Or.inr h
  clear hAe
  have hS : va_S A s.heap s.heap [] := va_S.rf
  have hl := lv_entry ([.ref (ad 0)]) (n := 1) (Nat.le_of_ble_eq_true rfl)
  rw [lg_entry_eq]
  generalize (lg_sl ([.ref (ad 0)]) ++ List.replicate (1 - (lg_sl ([.ref (ad 0)])).length) Slot.unset).toArray = ls at hl ⊢
  have hl : lv_has ls 1 [(0, .ref (ad 0))] := hl
  have C : dc_C p s m _ meth c cX10_paysNow (some .int) 1 RX10 wsX10_paysNow D ty eo A := ⟨hx, hb, hr, hts, hown, hlocks, hml, hK, hN, hE, hA⟩
  unfold zX10_paysNow at h
  refine lv_aload_n hx hb dX10_paysNow_0 rfl (lv_at hl 0 rfl) ?_
  refine lv_iconst (v := 1) hx hb dX10_paysNow_1 (by decide) ?_
  refine lv_aload_n hx hb dX10_paysNow_2 rfl (lv_at hl 0 rfl) ?_
  refine va_get (D := D) (ci := 10) (v := .ref (ad 12)) (C := RX10) (T := TX10) (N := 56) hx hb hts u9_wsX10_paysNow_X10 hown hK hP 0 rfl rfl 26 (by decide) (hts (.fieldLink RX10 63 "TurnedFloorsModel" "asked" "[I") f9_wsX10_paysNow_75) (fun _ h9 => h9) rfl dX10_paysNow_3 ?_
  refine lv_iconst (v := 0) hx hb dX10_paysNow_6 (by decide) ?_
  refine va_iald hx hb hK hP 12 0 rfl rfl (by simp only [vp_in]; decide) dX10_paysNow_7 ?_
  refine kz_topi (q.1 12 0) (congrArg (q.1 12) (by decide +kernel : Int32.toNatClampNeg 0 = 0)) ?_
  obtain ⟨r1, q3, h2, h⟩ := dB_some h
  refine dw_ki (va_runV (As := [.int 1, .int (q.1 12 0)]) (rest := []) ⟨hx, hb, hml, hown, hts⟩ (qX10_tells l D ty eo _ ad q 1 (q.1 12 0) r1 q3 h2) (cwV 2 hts gX10_paysNow_X10_tells rfl rfl rfl hd_X10_tells_v ⟨Nat.le_of_ble_eq_true rfl, Nat.le_of_ble_eq_true rfl⟩) (pv10_10_0 hK hN hE hP hD hS hA) rfl rfl hl.1 rfl (lv_room (Nat.le_of_ble_eq_true rfl)) dX10_paysNow_8 ⟨Nat.le_of_ble_eq_true rfl, Nat.le_of_ble_eq_true rfl⟩) hD hS hA (fun r9 u9 H locs hw hp hd hs => ?_)
  clear hP hD hS
  obtain ⟨rfl, rfl⟩ := hw
  have hP := hp; have hD := hd; have hS := hs; clear hp hd hs
  cases h
  exact kz_iret hx hb hr hlocks hP hK hD hS dX10_paysNow_11 ⟨rfl, rfl⟩

set_option maxHeartbeats 4000000 in
set_option maxRecDepth 100000 in
theorem WX10_asks_82 {p : Program} {l : Launch} {e : Env} {s : State} {m : MethodId} {args : Array Value} {below : List Frame} {meth : Method} {c : Code} {D : va_G} {ty : Nat → ClassId} {eo : Nat → Nat} {A : Nat → Prop} {ad : Nat → Nat} {o1 : Int32} {o2 : dS} (C : dc_C p s m args meth c cX10_asks (some .int) 3 RX10 wsX10_asks D ty eo A)   (q : dS) (y0 : Int32) (H : Heap) (locs : List Loc) (ls : Array Slot) (h : zX10_asks_82  q y0 = some (o1, o2)) (hP : va_P D vwCl (w10 ty ad q) H) (hD : va_D A (w10 ty ad q)) (hS : va_S A s.heap H locs) (hl : lv_has ls 3 []) : W p l e ({ frames := 87, cells := 0, slots := 0, locals := 2223 } : Room) s m args below meth c H locs 0 0 (MQ below (va_Qi (fun (r : Int32) (u : va_W) => o1 = r ∧ w10 ty ad o2 = u) (kz_B D ty A) A) args s 0 0 A) (F0 m 82 ls [.int y0]) := by
  have C0 := C
  obtain ⟨hx, hb, hr, hts, hown, hlocks, hml, hK, hN, hE, hA⟩ := C
  unfold zX10_asks_82 at h
  cases h
  exact kz_iret hx hb hr hlocks hP hK hD hS dX10_asks_82 ⟨rfl, rfl⟩
set_option maxHeartbeats 4000000 in
set_option maxRecDepth 100000 in
theorem qX10_asks (l : Launch) (D : va_G) (ty : Nat → ClassId) (eo : Nat → Nat) (sz : Nat) (ad : Nat → Nat) (q : dS) (p1 : Int32) (p2 : Int32) (o1 : Int32) (o2 : dS) (h : zX10_asks q p1 p2 = some (o1, o2)) : Met l yX10_asks wsX10_asks ({ frames := 87, cells := 0, slots := 0, locals := 2223 } : Room) (va_Pc [.ref (ad 0), .int p1, .int p2] (kz_pre D ty eo (w10 ty ad q) sz)) (va_Qi (fun (r : Int32) (u : va_W) => o1 = r ∧ w10 ty ad o2 = u) (kz_B D ty (va_A (w10 ty ad q) sz)) (va_A (w10 ty ad q) sz)) 0 0 (va_A (w10 ty ad q) sz) := by
  refine Met.ofW (cc := cX10_asks) (maxL := 3) (ret := (some .int)) (by decide) rfl ?_
  intro p e s m args below meth c s₁ B hml hv
  obtain ⟨rfl, hsz, hP, hK, hD0, hN, hE⟩ := hv
  have hx := B.exec
  have hb := B.bytes
  have hr := B.returns
  have hts := atoms_spec (ws := wsX10_asks) B.pre
  have hown : s.vm.findClass RX10 = some m.cls := findClass_of_methodNamed B.named
  have hlocks := B.notSynchronized
  subst hsz
  have hD := hD0.self (sz := s.heap.size)
  generalize hAe : va_A (w10 ty ad q) s.heap.size = A at hD hE ⊢
  have hA : ∀ q : Nat, s.heap.size ≤ q → A q := fun q h => by rw [← hAe]; exact Or.inr h
  clear hAe
  have hS : va_S A s.heap s.heap [] := va_S.rf
  have hl := lv_entry ([.ref (ad 0), .int p1, .int p2]) (n := 3) (Nat.le_of_ble_eq_true rfl)
  rw [lg_entry_eq]
  generalize (lg_sl ([.ref (ad 0), .int p1, .int p2]) ++ List.replicate (3 - (lg_sl ([.ref (ad 0), .int p1, .int p2])).length) Slot.unset).toArray = ls at hl ⊢
  have hl : lv_has ls 3 [(0, .ref (ad 0)), (1, .int p1), (2, .int p2)] := hl
  have C : dc_C p s m _ meth c cX10_asks (some .int) 3 RX10 wsX10_asks D ty eo A := ⟨hx, hb, hr, hts, hown, hlocks, hml, hK, hN, hE, hA⟩
  unfold zX10_asks at h
  refine lv_iload_n hx hb dX10_asks_0 rfl (lv_at hl 1 rfl) ?_
  refine lv_iconst (v := 1) hx hb dX10_asks_1 (by decide) ?_
  refine lv_aload_n hx hb dX10_asks_2 rfl (lv_at hl 0 rfl) ?_
  obtain ⟨r1, q3, h2, h⟩ := dB_some h
  refine dw_ki (va_runV (As := []) (rest := [.int 1, .int p1]) ⟨hx, hb, hml, hown, hts⟩ (qX10_size l D ty eo _ ad q  r1 q3 h2) (cwV 0 hts gX10_asks_X10_size rfl rfl rfl hd_X10_size_v ⟨Nat.le_of_ble_eq_true rfl, Nat.le_of_ble_eq_true rfl⟩) (pv10_10_0 hK hN hE hP hD hS hA) rfl rfl hl.1 rfl (lv_room (Nat.le_of_ble_eq_true rfl)) dX10_asks_3 ⟨Nat.le_of_ble_eq_true rfl, Nat.le_of_ble_eq_true rfl⟩) hD hS hA (fun r9 u9 H locs hw hp hd hs => ?_)
  clear hP hD hS
  obtain ⟨rfl, rfl⟩ := hw
  have hP := hp; have hD := hd; have hS := hs; clear hp hd hs
  obtain ⟨r4, h5, h⟩ := dV_some h
  refine dw_ks (va_runS (As := [.int p1, .int 1, .int r1]) (rest := []) ⟨hx, hb, hml, hown, hts⟩ (qX10_lies l D ty eo _ p1 1 r1 _ h5) (va_cwS 3 hts gX10_asks_X10_lies rfl rfl rfl hd_X10_lies ⟨Nat.le_of_ble_eq_true rfl, Nat.le_of_ble_eq_true rfl⟩) (pvS_0 hK hN hE hP hD hS hA) rfl rfl hl.1 rfl (lv_room (Nat.le_of_ble_eq_true rfl)) dX10_asks_6 ⟨Nat.le_of_ble_eq_true rfl, Nat.le_of_ble_eq_true rfl⟩) hP hD hS hA (fun _ _ h9 => h9.2.symm) (fun r9 u9 H locs hw hp hd hs => ?_)
  obtain ⟨rfl, -⟩ := hw
  clear hP hD hS
  have hP := hp; have hD := hd; have hS := hs; clear hp hd hs
  refine lv_if_ne (tgt := 14) hx hb dX10_asks_9 (by decide) (fun c9 => ?_) (fun c9 => ?_)
  · rw [if_neg c9] at h
    refine lv_aload_n hx hb dX10_asks_14 rfl (lv_at hl 0 rfl) ?_
    refine lv_iload_n hx hb dX10_asks_15 rfl (lv_at hl 1 rfl) ?_
    refine lv_aload_n hx hb dX10_asks_16 rfl (lv_at hl 0 rfl) ?_
    refine va_get (D := D) (ci := 10) (v := .ref (ad 2)) (C := RX10) (T := TX10) (N := 56) hx hb hts u9_wsX10_asks_X10 hown hK hP 0 rfl rfl 2 (by decide) (hts (.fieldLink RX10 28 "TurnedFloorsModel" "kept" "[I") f9_wsX10_asks_77) (fun _ h9 => h9) rfl dX10_asks_17 ?_
    refine lv_iconst (v := 0) hx hb dX10_asks_20 (by decide) ?_
    refine va_iald hx hb hK hP 2 0 rfl rfl (by simp only [vp_in]; decide) dX10_asks_21 ?_
    refine kz_topi (q3.1 2 0) (congrArg (q3.1 2) (by decide +kernel : Int32.toNatClampNeg 0 = 0)) ?_
    refine lv_aload_n hx hb dX10_asks_22 rfl (lv_at hl 0 rfl) ?_
    refine lv_iload_n hx hb dX10_asks_23 rfl (lv_at hl 1 rfl) ?_
    obtain ⟨r6, q8, h7, h⟩ := dB_some h
    refine dw_ki (va_runV (As := [.int p1]) (rest := [.int (q3.1 2 0), .int p1, .ref (ad 0)]) ⟨hx, hb, hml, hown, hts⟩ (qX10_rankBelow l D ty eo _ ad q3 p1 r6 q8 h7) (cwV 1 hts gX10_asks_X10_rankBelow rfl rfl rfl hd_X10_rankBelow_v ⟨Nat.le_of_ble_eq_true rfl, Nat.le_of_ble_eq_true rfl⟩) (pv10_10_0 hK hN hE hP hD hS hA) rfl rfl hl.1 rfl (lv_room (Nat.le_of_ble_eq_true rfl)) dX10_asks_24 ⟨Nat.le_of_ble_eq_true rfl, Nat.le_of_ble_eq_true rfl⟩) hD hS hA (fun r9 u9 H locs hw hp hd hs => ?_)
    clear hP hD hS
    obtain ⟨rfl, rfl⟩ := hw
    have hP := hp; have hD := hd; have hS := hs; clear hp hd hs
    refine lv_aload_n hx hb dX10_asks_27 rfl (lv_at hl 0 rfl) ?_
    refine va_get (D := D) (ci := 10) (v := .ref (ad 2)) (C := RX10) (T := TX10) (N := 56) hx hb hts u9_wsX10_asks_X10 hown hK hP 0 rfl rfl 2 (by decide) (hts (.fieldLink RX10 28 "TurnedFloorsModel" "kept" "[I") f9_wsX10_asks_77) (fun _ h9 => h9) rfl dX10_asks_28 ?_
    refine lv_bipush (v := 6) hx hb dX10_asks_31 (by decide) ?_
    refine va_iald hx hb hK hP 2 0 rfl rfl (by simp only [vp_in]; decide) dX10_asks_33 ?_
    refine kz_topi (q8.1 2 6) (congrArg (q8.1 2) (by decide +kernel : Int32.toNatClampNeg 6 = 6)) ?_
    obtain ⟨q11, h10, h⟩ := dV_some h
    refine dw_kv (va_runV (As := [.int p1, .int (q3.1 2 0), .int r6, .int (q8.1 2 6)]) (rest := []) ⟨hx, hb, hml, hown, hts⟩ (qX10_setsTurn l D ty eo _ ad q8 p1 (q3.1 2 0) r6 (q8.1 2 6) q11 h10) (cwV 4 hts gX10_asks_X10_setsTurn rfl rfl rfl hd_X10_setsTurn_v ⟨Nat.le_of_ble_eq_true rfl, Nat.le_of_ble_eq_true rfl⟩) (pv10_10_0 hK hN hE hP hD hS hA) rfl rfl hl.1 rfl (lv_room (Nat.le_of_ble_eq_true rfl)) dX10_asks_34 ⟨Nat.le_of_ble_eq_true rfl, Nat.le_of_ble_eq_true rfl⟩) hD hS hA (fun u9 H locs hw hp hd hs => ?_)
    clear hP hD hS
    obtain rfl := hw
    have hP := hp; have hD := hd; have hS := hs; clear hp hd hs
    refine lv_iload_n hx hb dX10_asks_37 rfl (lv_at hl 2 rfl) ?_
    by_cases c12 : p2 = 0
    · rw [if_pos c12] at h
      refine lv_lookup (off := 26) (tgt := 64) hx hb dX10_asks_38 (by decide) (by rw [c12]; decide) (by decide) ?_
      refine lv_aload_n hx hb dX10_asks_64 rfl (lv_at hl 0 rfl) ?_
      obtain ⟨r13, q15, h14, h⟩ := dB_some h
      refine dw_ki (va_runV (As := []) (rest := []) ⟨hx, hb, hml, hown, hts⟩ (qX10_paysNow l D ty eo _ ad q11  r13 q15 h14) (cwV 0 hts gX10_asks_X10_paysNow rfl rfl rfl hd_X10_paysNow_v ⟨Nat.le_of_ble_eq_true rfl, Nat.le_of_ble_eq_true rfl⟩) (pv10_10_0 hK hN hE hP hD hS hA) rfl rfl hl.1 rfl (lv_room (Nat.le_of_ble_eq_true rfl)) dX10_asks_65 ⟨Nat.le_of_ble_eq_true rfl, Nat.le_of_ble_eq_true rfl⟩) hD hS hA (fun r9 u9 H locs hw hp hd hs => ?_)
      clear hP hD hS
      obtain ⟨rfl, rfl⟩ := hw
      have hP := hp; have hD := hd; have hS := hs; clear hp hd hs
      cases h
      exact kz_iret hx hb hr hlocks hP hK hD hS dX10_asks_68 ⟨rfl, rfl⟩
    rw [if_neg c12] at h
    by_cases c16 : p2 = 1
    · rw [if_pos c16] at h
      refine lv_lookup (off := 31) (tgt := 69) hx hb dX10_asks_38 (by decide) (by rw [c16]; decide) (by decide) ?_
      refine lv_aload_n hx hb dX10_asks_69 rfl (lv_at hl 0 rfl) ?_
      refine lv_iconst (v := 2) hx hb dX10_asks_70 (by decide) ?_
      obtain ⟨r17, q19, h18, h⟩ := dB_some h
      refine dw_ki (va_runV (As := [.int 2]) (rest := []) ⟨hx, hb, hml, hown, hts⟩ (qX10_isNow l D ty eo _ ad q11 2 r17 q19 h18) (cwV 1 hts gX10_asks_X10_isNow rfl rfl rfl hd_X10_isNow_v ⟨Nat.le_of_ble_eq_true rfl, Nat.le_of_ble_eq_true rfl⟩) (pv10_10_0 hK hN hE hP hD hS hA) rfl rfl hl.1 rfl (lv_room (Nat.le_of_ble_eq_true rfl)) dX10_asks_71 ⟨Nat.le_of_ble_eq_true rfl, Nat.le_of_ble_eq_true rfl⟩) hD hS hA (fun r9 u9 H locs hw hp hd hs => ?_)
      clear hP hD hS
      obtain ⟨rfl, rfl⟩ := hw
      have hP := hp; have hD := hd; have hS := hs; clear hp hd hs
      refine lv_if_eq (tgt := 81) hx hb dX10_asks_74 (by decide) (fun c9 => ?_) (fun c9 => ?_)
      · rw [if_pos c9] at h
        refine lv_iconst (v := 0) hx hb dX10_asks_81 (by decide) ?_
        exact WX10_asks_82 C  _ _ _ _ _ h hP hD hS (lv_sub hl [] rfl)
      · rw [if_neg c9] at h
        refine lv_iconst (v := 1) hx hb dX10_asks_77 (by decide) ?_
        refine lv_goto (tgt := 82) hx hb dX10_asks_78 (by decide) ?_
        exact WX10_asks_82 C  _ _ _ _ _ h hP hD hS (lv_sub hl [] rfl)
    rw [if_neg c16] at h
    refine lv_lookup (off := 45) (tgt := 83) hx hb dX10_asks_38 (by decide) (by simp only [← Int32.toInt_inj, Int32.reduceToInt] at c12 c16; first | (simp [Op.lookupswitch.offset, c12, c16]; done) | (simp [Op.lookupswitch.offset]; omega)) (by decide) ?_
    refine lv_iconst (v := (-1)) hx hb dX10_asks_83 (by decide) ?_
    cases h
    exact kz_iret hx hb hr hlocks hP hK hD hS dX10_asks_84 ⟨rfl, rfl⟩
  · rw [if_pos c9] at h
    refine lv_iconst (v := (-1)) hx hb dX10_asks_12 (by decide) ?_
    cases h
    exact kz_iret hx hb hr hlocks hP hK hD hS dX10_asks_13 ⟨rfl, rfl⟩

set_option maxHeartbeats 4000000 in
set_option maxRecDepth 100000 in
theorem qX10_isTerm (l : Launch) (D : va_G) (ty : Nat → ClassId) (eo : Nat → Nat) (sz : Nat) (p1 : Int32) (p2 : Int32) (o1 : Int32) (h : zX10_isTerm p1 p2 = some o1) : Met l yX10_isTerm wsX10_isTerm ({ frames := 2, cells := 0, slots := 0, locals := 42 } : Room) (va_Pc [.int p1, .int p2] (kz_pre D ty eo (([] : va_W)) sz)) (va_Qi (fun (r : Int32) (u : va_W) => o1 = r ∧ ([] : va_W) = u) (kz_B D ty (va_A (([] : va_W)) sz)) (va_A (([] : va_W)) sz)) 0 0 (va_A (([] : va_W)) sz) := by
  refine Met.ofW (cc := cX10_isTerm) (maxL := 2) (ret := (some .boolean)) (by decide) rfl ?_
  intro p e s m args below meth c s₁ B hml hv
  obtain ⟨rfl, hsz, hP, hK, hD0, hN, hE⟩ := hv
  have hx := B.exec
  have hb := B.bytes
  have hr := B.returns
  have hts := atoms_spec (ws := wsX10_isTerm) B.pre
  have hown : s.vm.findClass RX10 = some m.cls := findClass_of_methodNamed B.named
  have hlocks := B.notSynchronized
  subst hsz
  have hD := hD0.self (sz := s.heap.size)
  generalize hAe : va_A (([] : va_W)) s.heap.size = A at hD hE ⊢
  have hA : ∀ q : Nat, s.heap.size ≤ q → A q := fun q h => by rw [← hAe]; exact Or.inr h
  clear hAe
  have hS : va_S A s.heap s.heap [] := va_S.rf
  have hl := lv_entry ([.int p1, .int p2]) (n := 2) (Nat.le_of_ble_eq_true rfl)
  rw [lg_entry_eq]
  generalize (lg_sl ([.int p1, .int p2]) ++ List.replicate (2 - (lg_sl ([.int p1, .int p2])).length) Slot.unset).toArray = ls at hl ⊢
  have hl : lv_has ls 2 [(0, .int p1), (1, .int p2)] := hl
  have C : dc_C p s m _ meth c cX10_isTerm (some .boolean) 2 RX10 wsX10_isTerm D ty eo A := ⟨hx, hb, hr, hts, hown, hlocks, hml, hK, hN, hE, hA⟩
  unfold zX10_isTerm at h
  refine lv_iload_n hx hb dX10_isTerm_0 rfl (lv_at hl 0 rfl) ?_
  by_cases c1 : p1 = 0
  · rw [if_pos c1] at h
    refine lv_tableIn (off := 31) (tgt := 32) hx hb dX10_isTerm_1 (by rw [c1]; decide) (by rw [c1]; decide) (by rw [c1]; decide) (by decide) ?_
    refine lv_iload_n hx hb dX10_isTerm_32 rfl (lv_at hl 1 rfl) ?_
    refine lv_iconst (v := 0) hx hb dX10_isTerm_33 (by decide) ?_
    refine lv_sipush (v := 999) hx hb dX10_isTerm_34 (by decide) ?_
    obtain ⟨r2, h3, h⟩ := dV_some h
    refine dw_ks (va_runS (As := [.int p2, .int 0, .int 999]) (rest := []) ⟨hx, hb, hml, hown, hts⟩ (qX10_lies l D ty eo _ p2 0 999 _ h3) (va_cwS 3 hts gX10_isTerm_X10_lies rfl rfl rfl hd_X10_lies ⟨Nat.le_of_ble_eq_true rfl, Nat.le_of_ble_eq_true rfl⟩) (pvS_0 hK hN hE hP hD hS hA) rfl rfl hl.1 rfl (lv_room (Nat.le_of_ble_eq_true rfl)) dX10_isTerm_37 ⟨Nat.le_of_ble_eq_true rfl, Nat.le_of_ble_eq_true rfl⟩) hP hD hS hA (fun _ _ h9 => h9.2.symm) (fun r9 u9 H locs hw hp hd hs => ?_)
    obtain ⟨rfl, -⟩ := hw
    clear hP hD hS
    have hP := hp; have hD := hd; have hS := hs; clear hp hd hs
    obtain ⟨g4, h⟩ := dG_some h
    cases h
    exact kz_zret hx hb hr hlocks (dbl_nar g4) hP hK hD hS dX10_isTerm_40 ⟨rfl, rfl⟩
  rw [if_neg c1] at h
  by_cases c5 : p1 = 1
  · rw [if_pos c5] at h
    refine lv_tableIn (off := 40) (tgt := 41) hx hb dX10_isTerm_1 (by rw [c5]; decide) (by rw [c5]; decide) (by rw [c5]; decide) (by decide) ?_
    refine lv_iload_n hx hb dX10_isTerm_41 rfl (lv_at hl 1 rfl) ?_
    refine lv_iconst (v := 0) hx hb dX10_isTerm_42 (by decide) ?_
    refine lv_bipush (v := 10) hx hb dX10_isTerm_43 (by decide) ?_
    obtain ⟨r6, h7, h⟩ := dV_some h
    refine dw_ks (va_runS (As := [.int p2, .int 0, .int 10]) (rest := []) ⟨hx, hb, hml, hown, hts⟩ (qX10_lies l D ty eo _ p2 0 10 _ h7) (va_cwS 3 hts gX10_isTerm_X10_lies rfl rfl rfl hd_X10_lies ⟨Nat.le_of_ble_eq_true rfl, Nat.le_of_ble_eq_true rfl⟩) (pvS_0 hK hN hE hP hD hS hA) rfl rfl hl.1 rfl (lv_room (Nat.le_of_ble_eq_true rfl)) dX10_isTerm_45 ⟨Nat.le_of_ble_eq_true rfl, Nat.le_of_ble_eq_true rfl⟩) hP hD hS hA (fun _ _ h9 => h9.2.symm) (fun r9 u9 H locs hw hp hd hs => ?_)
    obtain ⟨rfl, -⟩ := hw
    clear hP hD hS
    have hP := hp; have hD := hd; have hS := hs; clear hp hd hs
    obtain ⟨g8, h⟩ := dG_some h
    cases h
    exact kz_zret hx hb hr hlocks (dbl_nar g8) hP hK hD hS dX10_isTerm_48 ⟨rfl, rfl⟩
  rw [if_neg c5] at h
  by_cases c9 : p1 = 2
  · rw [if_pos c9] at h
    refine lv_tableIn (off := 48) (tgt := 49) hx hb dX10_isTerm_1 (by rw [c9]; decide) (by rw [c9]; decide) (by rw [c9]; decide) (by decide) ?_
    refine lv_iload_n hx hb dX10_isTerm_49 rfl (lv_at hl 1 rfl) ?_
    refine lv_iconst (v := 0) hx hb dX10_isTerm_50 (by decide) ?_
    refine lv_bipush (v := 9) hx hb dX10_isTerm_51 (by decide) ?_
    obtain ⟨r10, h11, h⟩ := dV_some h
    refine dw_ks (va_runS (As := [.int p2, .int 0, .int 9]) (rest := []) ⟨hx, hb, hml, hown, hts⟩ (qX10_lies l D ty eo _ p2 0 9 _ h11) (va_cwS 3 hts gX10_isTerm_X10_lies rfl rfl rfl hd_X10_lies ⟨Nat.le_of_ble_eq_true rfl, Nat.le_of_ble_eq_true rfl⟩) (pvS_0 hK hN hE hP hD hS hA) rfl rfl hl.1 rfl (lv_room (Nat.le_of_ble_eq_true rfl)) dX10_isTerm_53 ⟨Nat.le_of_ble_eq_true rfl, Nat.le_of_ble_eq_true rfl⟩) hP hD hS hA (fun _ _ h9 => h9.2.symm) (fun r9 u9 H locs hw hp hd hs => ?_)
    obtain ⟨rfl, -⟩ := hw
    clear hP hD hS
    have hP := hp; have hD := hd; have hS := hs; clear hp hd hs
    obtain ⟨g12, h⟩ := dG_some h
    cases h
    exact kz_zret hx hb hr hlocks (dbl_nar g12) hP hK hD hS dX10_isTerm_56 ⟨rfl, rfl⟩
  rw [if_neg c9] at h
  by_cases c13 : p1 = 3
  · rw [if_pos c13] at h
    refine lv_tableIn (off := 56) (tgt := 57) hx hb dX10_isTerm_1 (by rw [c13]; decide) (by rw [c13]; decide) (by rw [c13]; decide) (by decide) ?_
    refine lv_iload_n hx hb dX10_isTerm_57 rfl (lv_at hl 1 rfl) ?_
    obtain ⟨r14, h15, h⟩ := dV_some h
    refine dw_ks (va_runS (As := [.int p2]) (rest := []) ⟨hx, hb, hml, hown, hts⟩ (qX10_isBit l D ty eo _ p2 _ h15) (va_cwS 1 hts gX10_isTerm_X10_isBit rfl rfl rfl hd_X10_isBit ⟨Nat.le_of_ble_eq_true rfl, Nat.le_of_ble_eq_true rfl⟩) (pvS_0 hK hN hE hP hD hS hA) rfl rfl hl.1 rfl (lv_room (Nat.le_of_ble_eq_true rfl)) dX10_isTerm_58 ⟨Nat.le_of_ble_eq_true rfl, Nat.le_of_ble_eq_true rfl⟩) hP hD hS hA (fun _ _ h9 => h9.2.symm) (fun r9 u9 H locs hw hp hd hs => ?_)
    obtain ⟨rfl, -⟩ := hw
    clear hP hD hS
    have hP := hp; have hD := hd; have hS := hs; clear hp hd hs
    obtain ⟨g16, h⟩ := dG_some h
    cases h
    exact kz_zret hx hb hr hlocks (dbl_nar g16) hP hK hD hS dX10_isTerm_61 ⟨rfl, rfl⟩
  rw [if_neg c13] at h
  refine lv_tableOut (tgt := 62) hx hb dX10_isTerm_1 (by simp only [← Int32.toInt_inj, Int32.reduceToInt] at c1 c5 c9 c13; omega) (by decide) ?_
  refine lv_iconst (v := 0) hx hb dX10_isTerm_62 (by decide) ?_
  cases h
  exact kz_zret hx hb hr hlocks rfl hP hK hD hS dX10_isTerm_63 ⟨rfl, rfl⟩

set_option maxHeartbeats 4000000 in
set_option maxRecDepth 100000 in
theorem WX10_termAt_31 {p : Program} {l : Launch} {e : Env} {s : State} {m : MethodId} {args : Array Value} {below : List Frame} {meth : Method} {c : Code} {D : va_G} {ty : Nat → ClassId} {eo : Nat → Nat} {A : Nat → Prop} {o1 : Int32} (C : dc_C p s m args meth c cX10_termAt (some .int) 1 RX10 wsX10_termAt D ty eo A)   (y0 : Int32) (H : Heap) (locs : List Loc) (ls : Array Slot) (h : zX10_termAt_31  y0 = some o1) (hP : va_P D vwCl (([] : va_W)) H) (hD : va_D A (([] : va_W))) (hS : va_S A s.heap H locs) (hl : lv_has ls 1 []) : W p l e ({ frames := 0, cells := 0, slots := 0, locals := 0 } : Room) s m args below meth c H locs 0 0 (MQ below (va_Qi (fun (r : Int32) (u : va_W) => o1 = r ∧ ([] : va_W) = u) (kz_B D ty A) A) args s 0 0 A) (F0 m 31 ls [.int y0]) := by
  have C0 := C
  obtain ⟨hx, hb, hr, hts, hown, hlocks, hml, hK, hN, hE, hA⟩ := C
  unfold zX10_termAt_31 at h
  cases h
  exact kz_iret hx hb hr hlocks hP hK hD hS dX10_termAt_31 ⟨rfl, rfl⟩
set_option maxHeartbeats 4000000 in
set_option maxRecDepth 100000 in
theorem qX10_termAt (l : Launch) (D : va_G) (ty : Nat → ClassId) (eo : Nat → Nat) (sz : Nat) (p1 : Int32) (o1 : Int32) (h : zX10_termAt p1 = some o1) : Met l yX10_termAt wsX10_termAt ({ frames := 0, cells := 0, slots := 0, locals := 0 } : Room) (va_Pc [.int p1] (kz_pre D ty eo (([] : va_W)) sz)) (va_Qi (fun (r : Int32) (u : va_W) => o1 = r ∧ ([] : va_W) = u) (kz_B D ty (va_A (([] : va_W)) sz)) (va_A (([] : va_W)) sz)) 0 0 (va_A (([] : va_W)) sz) := by
  refine Met.ofW (cc := cX10_termAt) (maxL := 1) (ret := (some .int)) (by decide) rfl ?_
  intro p e s m args below meth c s₁ B hml hv
  obtain ⟨rfl, hsz, hP, hK, hD0, hN, hE⟩ := hv
  have hx := B.exec
  have hb := B.bytes
  have hr := B.returns
  have hts := atoms_spec (ws := wsX10_termAt) B.pre
  have hown : s.vm.findClass RX10 = some m.cls := findClass_of_methodNamed B.named
  have hlocks := B.notSynchronized
  subst hsz
  have hD := hD0.self (sz := s.heap.size)
  generalize hAe : va_A (([] : va_W)) s.heap.size = A at hD hE ⊢
  have hA : ∀ q : Nat, s.heap.size ≤ q → A q := fun q h => by rw [← hAe]; exact Or.inr h
  clear hAe
  have hS : va_S A s.heap s.heap [] := va_S.rf
  have hl := lv_entry ([.int p1]) (n := 1) (Nat.le_of_ble_eq_true rfl)
  rw [lg_entry_eq]
  generalize (lg_sl ([.int p1]) ++ List.replicate (1 - (lg_sl ([.int p1])).length) Slot.unset).toArray = ls at hl ⊢
  have hl : lv_has ls 1 [(0, .int p1)] := hl
  have C : dc_C p s m _ meth c cX10_termAt (some .int) 1 RX10 wsX10_termAt D ty eo A := ⟨hx, hb, hr, hts, hown, hlocks, hml, hK, hN, hE, hA⟩
  unfold zX10_termAt at h
  refine lv_iload_n hx hb dX10_termAt_0 rfl (lv_at hl 0 rfl) ?_
  refine lv_if_ne (tgt := 9) hx hb dX10_termAt_1 (by decide) (fun c9 => ?_) (fun c9 => ?_)
  · rw [if_neg c9] at h
    refine lv_iload_n hx hb dX10_termAt_9 rfl (lv_at hl 0 rfl) ?_
    refine lv_iconst (v := 1) hx hb dX10_termAt_10 (by decide) ?_
    refine lv_icmp_ne (tgt := 19) hx hb dX10_termAt_11 (by decide) (fun c9 => ?_) (fun c9 => ?_)
    · rw [if_neg c9] at h
      refine lv_iload_n hx hb dX10_termAt_19 rfl (lv_at hl 0 rfl) ?_
      refine lv_iconst (v := 2) hx hb dX10_termAt_20 (by decide) ?_
      refine lv_icmp_ne (tgt := 29) hx hb dX10_termAt_21 (by decide) (fun c9 => ?_) (fun c9 => ?_)
      · rw [if_neg c9] at h
        refine lv_bipush (v := 28) hx hb dX10_termAt_29 (by decide) ?_
        exact WX10_termAt_31 C  _ _ _ _ h hP hD hS (lv_sub hl [] rfl)
      · rw [if_pos c9] at h
        refine lv_bipush (v := 27) hx hb dX10_termAt_24 (by decide) ?_
        refine lv_goto (tgt := 31) hx hb dX10_termAt_26 (by decide) ?_
        exact WX10_termAt_31 C  _ _ _ _ h hP hD hS (lv_sub hl [] rfl)
    · rw [if_pos c9] at h
      refine lv_bipush (v := 26) hx hb dX10_termAt_14 (by decide) ?_
      refine lv_goto (tgt := 31) hx hb dX10_termAt_16 (by decide) ?_
      exact WX10_termAt_31 C  _ _ _ _ h hP hD hS (lv_sub hl [] rfl)
  · rw [if_pos c9] at h
    refine lv_bipush (v := 13) hx hb dX10_termAt_4 (by decide) ?_
    refine lv_goto (tgt := 31) hx hb dX10_termAt_6 (by decide) ?_
    exact WX10_termAt_31 C  _ _ _ _ h hP hD hS (lv_sub hl [] rfl)

set_option maxHeartbeats 4000000 in
set_option maxRecDepth 100000 in
theorem qX10_terms (l : Launch) (D : va_G) (ty : Nat → ClassId) (eo : Nat → Nat) (sz : Nat) (ad : Nat → Nat) (q : dS) (p1 : Int32) (p2 : Int32) (o1 : Int32) (o2 : dS) (h : zX10_terms q p1 p2 = some (o1, o2)) : Met l yX10_terms wsX10_terms ({ frames := 3, cells := 0, slots := 0, locals := 63 } : Room) (va_Pc [.ref (ad 0), .int p1, .int p2] (kz_pre D ty eo (w10 ty ad q) sz)) (va_Qi (fun (r : Int32) (u : va_W) => o1 = r ∧ w10 ty ad o2 = u) (kz_B D ty (va_A (w10 ty ad q) sz)) (va_A (w10 ty ad q) sz)) 0 0 (va_A (w10 ty ad q) sz) := by
  refine Met.ofW (cc := cX10_terms) (maxL := 4) (ret := (some .int)) (by decide) rfl ?_
  intro p e s m args below meth c s₁ B hml hv
  obtain ⟨rfl, hsz, hP, hK, hD0, hN, hE⟩ := hv
  have hx := B.exec
  have hb := B.bytes
  have hr := B.returns
  have hts := atoms_spec (ws := wsX10_terms) B.pre
  have hown : s.vm.findClass RX10 = some m.cls := findClass_of_methodNamed B.named
  have hlocks := B.notSynchronized
  subst hsz
  have hD := hD0.self (sz := s.heap.size)
  generalize hAe : va_A (w10 ty ad q) s.heap.size = A at hD hE ⊢
  have hA : ∀ q : Nat, s.heap.size ≤ q → A q := fun q h => by rw [← hAe]; exact Or.inr h
  clear hAe
  have hS : va_S A s.heap s.heap [] := va_S.rf
  have hl := lv_entry ([.ref (ad 0), .int p1, .int p2]) (n := 4) (Nat.le_of_ble_eq_true rfl)
  rw [lg_entry_eq]
  generalize (lg_sl ([.ref (ad 0), .int p1, .int p2]) ++ List.replicate (4 - (lg_sl ([.ref (ad 0), .int p1, .int p2])).length) Slot.unset).toArray = ls at hl ⊢
  have hl : lv_has ls 4 [(0, .ref (ad 0)), (1, .int p1), (2, .int p2)] := hl
  have C : dc_C p s m _ meth c cX10_terms (some .int) 4 RX10 wsX10_terms D ty eo A := ⟨hx, hb, hr, hts, hown, hlocks, hml, hK, hN, hE, hA⟩
  unfold zX10_terms at h
  refine lv_iload_n hx hb dX10_terms_0 rfl (lv_at hl 1 rfl) ?_
  refine lv_iload_n hx hb dX10_terms_1 rfl (lv_at hl 2 rfl) ?_
  obtain ⟨r1, h2, h⟩ := dV_some h
  refine dw_ks (va_runS (As := [.int p1, .int p2]) (rest := []) ⟨hx, hb, hml, hown, hts⟩ (qX10_isTerm l D ty eo _ p1 p2 _ h2) (va_cwS 2 hts gX10_terms_X10_isTerm rfl rfl rfl hd_X10_isTerm ⟨Nat.le_of_ble_eq_true rfl, Nat.le_of_ble_eq_true rfl⟩) (pvS_0 hK hN hE hP hD hS hA) rfl rfl hl.1 rfl (lv_room (Nat.le_of_ble_eq_true rfl)) dX10_terms_2 ⟨Nat.le_of_ble_eq_true rfl, Nat.le_of_ble_eq_true rfl⟩) hP hD hS hA (fun _ _ h9 => h9.2.symm) (fun r9 u9 H locs hw hp hd hs => ?_)
  obtain ⟨rfl, -⟩ := hw
  clear hP hD hS
  have hP := hp; have hD := hd; have hS := hs; clear hp hd hs
  refine lv_if_ne (tgt := 14) hx hb dX10_terms_5 (by decide) (fun c9 => ?_) (fun c9 => ?_)
  · rw [if_neg c9] at h
    refine lv_aload_n hx hb dX10_terms_14 rfl (lv_at hl 0 rfl) ?_
    refine va_get (D := D) (ci := 10) (v := .ref (ad 2)) (C := RX10) (T := TX10) (N := 56) hx hb hts u9_wsX10_terms_X10 hown hK hP 0 rfl rfl 2 (by decide) (hts (.fieldLink RX10 28 "TurnedFloorsModel" "kept" "[I") f9_wsX10_terms_79) (fun _ h9 => h9) rfl dX10_terms_15 ?_
    refine lv_iload_n hx hb dX10_terms_18 rfl (lv_at hl 1 rfl) ?_
    obtain ⟨r3, h4, h⟩ := dV_some h
    refine dw_ks (va_runS (As := [.int p1]) (rest := [.ref (ad 2)]) ⟨hx, hb, hml, hown, hts⟩ (qX10_termAt l D ty eo _ p1 _ h4) (va_cwS 1 hts gX10_terms_X10_termAt rfl rfl rfl hd_X10_termAt ⟨Nat.le_of_ble_eq_true rfl, Nat.le_of_ble_eq_true rfl⟩) (pvS_0 hK hN hE hP hD hS hA) rfl rfl hl.1 rfl (lv_room (Nat.le_of_ble_eq_true rfl)) dX10_terms_19 ⟨Nat.le_of_ble_eq_true rfl, Nat.le_of_ble_eq_true rfl⟩) hP hD hS hA (fun _ _ h9 => h9.2.symm) (fun r9 u9 H locs hw hp hd hs => ?_)
    obtain ⟨rfl, -⟩ := hw
    clear hP hD hS
    have hP := hp; have hD := hd; have hS := hs; clear hp hd hs
    obtain ⟨g5, h⟩ := dG_some h
    refine va_iald hx hb hK hP 2 0 rfl rfl (dg_in g5) dX10_terms_22 ?_
    obtain ⟨v6, ev6, h⟩ := dL_some h
    refine kz_topi v6 ev6 ?_
    refine lv_istore_n (lv' := [(3, .int v6), (0, .ref (ad 0)), (1, .int p1), (2, .int p2)]) hx hb dX10_terms_23 rfl hl (by decide) rfl (fun ls hl => ?_)
    refine lv_aload_n hx hb dX10_terms_24 rfl (lv_at hl 1 rfl) ?_
    refine va_get (D := D) (ci := 10) (v := .ref (ad 2)) (C := RX10) (T := TX10) (N := 56) hx hb hts u9_wsX10_terms_X10 hown hK hP 0 rfl rfl 2 (by decide) (hts (.fieldLink RX10 28 "TurnedFloorsModel" "kept" "[I") f9_wsX10_terms_79) (fun _ h9 => h9) rfl dX10_terms_25 ?_
    refine lv_iload_n hx hb dX10_terms_28 rfl (lv_at hl 2 rfl) ?_
    obtain ⟨r7, h8, h⟩ := dV_some h
    refine dw_ks (va_runS (As := [.int p1]) (rest := [.ref (ad 2)]) ⟨hx, hb, hml, hown, hts⟩ (qX10_termAt l D ty eo _ p1 _ h8) (va_cwS 1 hts gX10_terms_X10_termAt rfl rfl rfl hd_X10_termAt ⟨Nat.le_of_ble_eq_true rfl, Nat.le_of_ble_eq_true rfl⟩) (pvS_0 hK hN hE hP hD hS hA) rfl rfl hl.1 rfl (lv_room (Nat.le_of_ble_eq_true rfl)) dX10_terms_29 ⟨Nat.le_of_ble_eq_true rfl, Nat.le_of_ble_eq_true rfl⟩) hP hD hS hA (fun _ _ h9 => h9.2.symm) (fun r9 u9 H locs hw hp hd hs => ?_)
    obtain ⟨rfl, -⟩ := hw
    clear hP hD hS
    have hP := hp; have hD := hd; have hS := hs; clear hp hd hs
    refine lv_iload_n hx hb dX10_terms_32 rfl (lv_at hl 3 rfl) ?_
    obtain ⟨g9, h⟩ := dG_some h
    refine va_iast hx hb hK hP hD hS 2 0 rfl rfl (dg_in g9) dX10_terms_33 (fun H locs hp hd hs => ?_)
    obtain ⟨q10, eq10, h⟩ := dL_some h
    refine kz_re (w2 := w10 ty ad q10) hp hd hs (by rw [← eq10]; exact w10_a2 ty ad q (Int32.toNatClampNeg r7) p2) ?_
    clear hp hd hs hP hD hS
    intro hP hD hS
    refine lv_aload_n hx hb dX10_terms_34 rfl (lv_at hl 1 rfl) ?_
    refine lv_iload_n hx hb dX10_terms_35 rfl (lv_at hl 0 rfl) ?_
    obtain ⟨r11, q13, h12, h⟩ := dB_some h
    refine dw_ki (va_runV (As := [.int v6]) (rest := []) ⟨hx, hb, hml, hown, hts⟩ (qX10_settled l D ty eo _ ad q10 v6 r11 q13 h12) (cwV 1 hts gX10_terms_X10_settled rfl rfl rfl hd_X10_settled_v ⟨Nat.le_of_ble_eq_true rfl, Nat.le_of_ble_eq_true rfl⟩) (pv10_10_0 hK hN hE hP hD hS hA) rfl rfl hl.1 rfl (lv_room (Nat.le_of_ble_eq_true rfl)) dX10_terms_36 ⟨Nat.le_of_ble_eq_true rfl, Nat.le_of_ble_eq_true rfl⟩) hD hS hA (fun r9 u9 H locs hw hp hd hs => ?_)
    clear hP hD hS
    obtain ⟨rfl, rfl⟩ := hw
    have hP := hp; have hD := hd; have hS := hs; clear hp hd hs
    cases h
    exact kz_iret hx hb hr hlocks hP hK hD hS dX10_terms_39 ⟨rfl, rfl⟩
  · rw [if_pos c9] at h
    refine lv_aload_n hx hb dX10_terms_8 rfl (lv_at hl 0 rfl) ?_
    refine lv_iconst (v := (-1)) hx hb dX10_terms_9 (by decide) ?_
    obtain ⟨r14, q16, h15, h⟩ := dB_some h
    refine dw_ki (va_runV (As := [.int (-1)]) (rest := []) ⟨hx, hb, hml, hown, hts⟩ (qX10_refuses l D ty eo _ ad q (-1) r14 q16 h15) (cwV 1 hts gX10_terms_X10_refuses rfl rfl rfl hd_X10_refuses_v ⟨Nat.le_of_ble_eq_true rfl, Nat.le_of_ble_eq_true rfl⟩) (pv10_10_0 hK hN hE hP hD hS hA) rfl rfl hl.1 rfl (lv_room (Nat.le_of_ble_eq_true rfl)) dX10_terms_10 ⟨Nat.le_of_ble_eq_true rfl, Nat.le_of_ble_eq_true rfl⟩) hD hS hA (fun r9 u9 H locs hw hp hd hs => ?_)
    clear hP hD hS
    obtain ⟨rfl, rfl⟩ := hw
    have hP := hp; have hD := hd; have hS := hs; clear hp hd hs
    cases h
    exact kz_iret hx hb hr hlocks hP hK hD hS dX10_terms_13 ⟨rfl, rfl⟩
end
section
set_option maxRecDepth 20000 in
theorem ggX10_row_X10_refuses : GoodIn wsX10_row wsX10_refuses := wd_c vW10_ok mvW10_13
set_option maxRecDepth 20000 in
theorem gX10_row_X10_refuses : GoodIn wsX10_row (wsV RX10 119 RX10 yX10_refuses wsX10_refuses) := goodIn_app (wd_l vW10_ok _ pvW10_142) ggX10_row_X10_refuses
set_option maxRecDepth 20000 in
theorem ggX10_row_X10_size : GoodIn wsX10_row wsX10_size := wd_c vW10_ok mvW10_24
set_option maxRecDepth 20000 in
theorem gX10_row_X10_size : GoodIn wsX10_row (wsV RX10 125 RX10 yX10_size wsX10_size) := goodIn_app (wd_l vW10_ok _ pvW10_144) ggX10_row_X10_size
set_option maxRecDepth 20000 in
theorem ggX10_row_X10_isRank : GoodIn wsX10_row wsX10_isRank := wd_c vW10_ok mvW10_3
set_option maxRecDepth 20000 in
theorem gX10_row_X10_isRank : GoodIn wsX10_row (va_wsS RX10 129 yX10_isRank wsX10_isRank) := goodIn_app (wd_l vW10_ok _ pvW10_145) ggX10_row_X10_isRank
set_option maxRecDepth 20000 in
theorem ggX10_row_X10_isBit : GoodIn wsX10_row wsX10_isBit := wd_c vW10_ok mvW10_9
set_option maxRecDepth 20000 in
theorem gX10_row_X10_isBit : GoodIn wsX10_row (va_wsS RX10 133 yX10_isBit wsX10_isBit) := goodIn_app (wd_l vW10_ok _ pvW10_146) ggX10_row_X10_isBit
set_option maxRecDepth 20000 in
theorem ggX10_row_X10_placeOf : GoodIn wsX10_row wsX10_placeOf := wd_c vW10_ok mvW10_19
set_option maxRecDepth 20000 in
theorem gX10_row_X10_placeOf : GoodIn wsX10_row (wsV RX10 136 RX10 yX10_placeOf wsX10_placeOf) := goodIn_app (wd_l vW10_ok _ pvW10_147) ggX10_row_X10_placeOf
set_option maxRecDepth 20000 in
theorem ggX10_row_X10_adds : GoodIn wsX10_row wsX10_adds := wd_c vW10_ok mvW10_28
set_option maxRecDepth 20000 in
theorem gX10_row_X10_adds : GoodIn wsX10_row (wsV RX10 139 RX10 yX10_adds wsX10_adds) := goodIn_app (wd_l vW10_ok _ pvW10_148) ggX10_row_X10_adds
set_option maxRecDepth 20000 in
theorem ggX10_row_X10_settled : GoodIn wsX10_row wsX10_settled := wd_c vW10_ok mvW10_32
set_option maxRecDepth 20000 in
theorem gX10_row_X10_settled : GoodIn wsX10_row (wsV RX10 122 RX10 yX10_settled wsX10_settled) := goodIn_app (wd_l vW10_ok _ pvW10_143) ggX10_row_X10_settled
theorem da9_dX10_row_0 : (decode cX10_row 0 = .ok (.aload_n 0, 1)) ∧ (decode cX10_row 1 = .ok (.getfield 169, 3)) ∧ (decode cX10_row 4 = .ok (.istore_n 1, 1)) ∧ (decode cX10_row 5 = .ok (.aload_n 0, 1)) ∧ (decode cX10_row 6 = .ok (.iconst 0, 1)) ∧ (decode cX10_row 7 = .ok (.putfield 169, 3)) ∧ (decode cX10_row 10 = .ok (.iload_n 1, 1)) ∧ (decode cX10_row 11 = .ok (.ifCond .ne 10, 3)) ∧ (decode cX10_row 14 = .ok (.aload_n 0, 1)) ∧ (decode cX10_row 15 = .ok (.bipush (-6), 2)) ∧ (decode cX10_row 17 = .ok (.invokevirtual 119, 3)) ∧ (decode cX10_row 20 = .ok (.ireturn, 1)) ∧ (decode cX10_row 21 = .ok (.iconst 0, 1)) ∧ (decode cX10_row 22 = .ok (.istore_n 2, 1)) ∧ (decode cX10_row 23 = .ok (.aload_n 0, 1)) ∧ (decode cX10_row 24 = .ok (.iload_n 1, 1)) := by decide +kernel
theorem dX10_row_0 : decode cX10_row 0 = .ok (.aload_n 0, 1) := da9_dX10_row_0.1
theorem dX10_row_1 : decode cX10_row 1 = .ok (.getfield 169, 3) := da9_dX10_row_0.2.1
theorem dX10_row_4 : decode cX10_row 4 = .ok (.istore_n 1, 1) := da9_dX10_row_0.2.2.1
theorem dX10_row_5 : decode cX10_row 5 = .ok (.aload_n 0, 1) := da9_dX10_row_0.2.2.2.1
theorem dX10_row_6 : decode cX10_row 6 = .ok (.iconst 0, 1) := da9_dX10_row_0.2.2.2.2.1
theorem dX10_row_7 : decode cX10_row 7 = .ok (.putfield 169, 3) := da9_dX10_row_0.2.2.2.2.2.1
theorem dX10_row_10 : decode cX10_row 10 = .ok (.iload_n 1, 1) := da9_dX10_row_0.2.2.2.2.2.2.1
theorem dX10_row_11 : decode cX10_row 11 = .ok (.ifCond .ne 10, 3) := da9_dX10_row_0.2.2.2.2.2.2.2.1
theorem dX10_row_14 : decode cX10_row 14 = .ok (.aload_n 0, 1) := da9_dX10_row_0.2.2.2.2.2.2.2.2.1
theorem dX10_row_15 : decode cX10_row 15 = .ok (.bipush (-6), 2) := da9_dX10_row_0.2.2.2.2.2.2.2.2.2.1
theorem dX10_row_17 : decode cX10_row 17 = .ok (.invokevirtual 119, 3) := da9_dX10_row_0.2.2.2.2.2.2.2.2.2.2.1
theorem dX10_row_20 : decode cX10_row 20 = .ok (.ireturn, 1) := da9_dX10_row_0.2.2.2.2.2.2.2.2.2.2.2.1
theorem dX10_row_21 : decode cX10_row 21 = .ok (.iconst 0, 1) := da9_dX10_row_0.2.2.2.2.2.2.2.2.2.2.2.2.1
theorem dX10_row_22 : decode cX10_row 22 = .ok (.istore_n 2, 1) := da9_dX10_row_0.2.2.2.2.2.2.2.2.2.2.2.2.2.1
theorem dX10_row_23 : decode cX10_row 23 = .ok (.aload_n 0, 1) := da9_dX10_row_0.2.2.2.2.2.2.2.2.2.2.2.2.2.2.1
theorem dX10_row_24 : decode cX10_row 24 = .ok (.iload_n 1, 1) := da9_dX10_row_0.2.2.2.2.2.2.2.2.2.2.2.2.2.2.2
theorem da9_dX10_row_25 : (decode cX10_row 25 = .ok (.iconst 2, 1)) ∧ (decode cX10_row 26 = .ok (.irem, 1)) ∧ (decode cX10_row 27 = .ok (.putfield 172, 3)) ∧ (decode cX10_row 30 = .ok (.iconst 0, 1)) ∧ (decode cX10_row 31 = .ok (.istore_n 3, 1)) ∧ (decode cX10_row 32 = .ok (.iload_n 3, 1)) ∧ (decode cX10_row 33 = .ok (.iconst 2, 1)) ∧ (decode cX10_row 34 = .ok (.iadd, 1)) ∧ (decode cX10_row 35 = .ok (.iload_n 1, 1)) ∧ (decode cX10_row 36 = .ok (.if_icmp .gt 120, 3)) ∧ (decode cX10_row 39 = .ok (.aload_n 0, 1)) ∧ (decode cX10_row 40 = .ok (.invokevirtual 125, 3)) ∧ (decode cX10_row 43 = .ok (.bipush 6, 2)) ∧ (decode cX10_row 45 = .ok (.if_icmp .ge 47, 3)) ∧ (decode cX10_row 48 = .ok (.aload_n 0, 1)) ∧ (decode cX10_row 49 = .ok (.getfield 45, 3)) := by decide +kernel
theorem dX10_row_25 : decode cX10_row 25 = .ok (.iconst 2, 1) := da9_dX10_row_25.1
theorem dX10_row_26 : decode cX10_row 26 = .ok (.irem, 1) := da9_dX10_row_25.2.1
theorem dX10_row_27 : decode cX10_row 27 = .ok (.putfield 172, 3) := da9_dX10_row_25.2.2.1
theorem dX10_row_30 : decode cX10_row 30 = .ok (.iconst 0, 1) := da9_dX10_row_25.2.2.2.1
theorem dX10_row_31 : decode cX10_row 31 = .ok (.istore_n 3, 1) := da9_dX10_row_25.2.2.2.2.1
theorem dX10_row_32 : decode cX10_row 32 = .ok (.iload_n 3, 1) := da9_dX10_row_25.2.2.2.2.2.1
theorem dX10_row_33 : decode cX10_row 33 = .ok (.iconst 2, 1) := da9_dX10_row_25.2.2.2.2.2.2.1
theorem dX10_row_34 : decode cX10_row 34 = .ok (.iadd, 1) := da9_dX10_row_25.2.2.2.2.2.2.2.1
theorem dX10_row_35 : decode cX10_row 35 = .ok (.iload_n 1, 1) := da9_dX10_row_25.2.2.2.2.2.2.2.2.1
theorem dX10_row_36 : decode cX10_row 36 = .ok (.if_icmp .gt 120, 3) := da9_dX10_row_25.2.2.2.2.2.2.2.2.2.1
theorem dX10_row_39 : decode cX10_row 39 = .ok (.aload_n 0, 1) := da9_dX10_row_25.2.2.2.2.2.2.2.2.2.2.1
theorem dX10_row_40 : decode cX10_row 40 = .ok (.invokevirtual 125, 3) := da9_dX10_row_25.2.2.2.2.2.2.2.2.2.2.2.1
theorem dX10_row_43 : decode cX10_row 43 = .ok (.bipush 6, 2) := da9_dX10_row_25.2.2.2.2.2.2.2.2.2.2.2.2.1
theorem dX10_row_45 : decode cX10_row 45 = .ok (.if_icmp .ge 47, 3) := da9_dX10_row_25.2.2.2.2.2.2.2.2.2.2.2.2.2.1
theorem dX10_row_48 : decode cX10_row 48 = .ok (.aload_n 0, 1) := da9_dX10_row_25.2.2.2.2.2.2.2.2.2.2.2.2.2.2.1
theorem dX10_row_49 : decode cX10_row 49 = .ok (.getfield 45, 3) := da9_dX10_row_25.2.2.2.2.2.2.2.2.2.2.2.2.2.2.2
theorem da9_dX10_row_52 : (decode cX10_row 52 = .ok (.iload_n 3, 1)) ∧ (decode cX10_row 53 = .ok (.baload, 1)) ∧ (decode cX10_row 54 = .ok (.invokestatic 129, 3)) ∧ (decode cX10_row 57 = .ok (.ifCond .eq 35, 3)) ∧ (decode cX10_row 60 = .ok (.aload_n 0, 1)) ∧ (decode cX10_row 61 = .ok (.getfield 45, 3)) ∧ (decode cX10_row 64 = .ok (.iload_n 3, 1)) ∧ (decode cX10_row 65 = .ok (.iconst 1, 1)) ∧ (decode cX10_row 66 = .ok (.iadd, 1)) ∧ (decode cX10_row 67 = .ok (.baload, 1)) ∧ (decode cX10_row 68 = .ok (.invokestatic 133, 3)) ∧ (decode cX10_row 71 = .ok (.ifCond .eq 21, 3)) ∧ (decode cX10_row 74 = .ok (.aload_n 0, 1)) ∧ (decode cX10_row 75 = .ok (.aload_n 0, 1)) ∧ (decode cX10_row 76 = .ok (.getfield 45, 3)) ∧ (decode cX10_row 79 = .ok (.iload_n 3, 1)) := by decide +kernel
theorem dX10_row_52 : decode cX10_row 52 = .ok (.iload_n 3, 1) := da9_dX10_row_52.1
theorem dX10_row_53 : decode cX10_row 53 = .ok (.baload, 1) := da9_dX10_row_52.2.1
theorem dX10_row_54 : decode cX10_row 54 = .ok (.invokestatic 129, 3) := da9_dX10_row_52.2.2.1
theorem dX10_row_57 : decode cX10_row 57 = .ok (.ifCond .eq 35, 3) := da9_dX10_row_52.2.2.2.1
theorem dX10_row_60 : decode cX10_row 60 = .ok (.aload_n 0, 1) := da9_dX10_row_52.2.2.2.2.1
theorem dX10_row_61 : decode cX10_row 61 = .ok (.getfield 45, 3) := da9_dX10_row_52.2.2.2.2.2.1
theorem dX10_row_64 : decode cX10_row 64 = .ok (.iload_n 3, 1) := da9_dX10_row_52.2.2.2.2.2.2.1
theorem dX10_row_65 : decode cX10_row 65 = .ok (.iconst 1, 1) := da9_dX10_row_52.2.2.2.2.2.2.2.1
theorem dX10_row_66 : decode cX10_row 66 = .ok (.iadd, 1) := da9_dX10_row_52.2.2.2.2.2.2.2.2.1
theorem dX10_row_67 : decode cX10_row 67 = .ok (.baload, 1) := da9_dX10_row_52.2.2.2.2.2.2.2.2.2.1
theorem dX10_row_68 : decode cX10_row 68 = .ok (.invokestatic 133, 3) := da9_dX10_row_52.2.2.2.2.2.2.2.2.2.2.1
theorem dX10_row_71 : decode cX10_row 71 = .ok (.ifCond .eq 21, 3) := da9_dX10_row_52.2.2.2.2.2.2.2.2.2.2.2.1
theorem dX10_row_74 : decode cX10_row 74 = .ok (.aload_n 0, 1) := da9_dX10_row_52.2.2.2.2.2.2.2.2.2.2.2.2.1
theorem dX10_row_75 : decode cX10_row 75 = .ok (.aload_n 0, 1) := da9_dX10_row_52.2.2.2.2.2.2.2.2.2.2.2.2.2.1
theorem dX10_row_76 : decode cX10_row 76 = .ok (.getfield 45, 3) := da9_dX10_row_52.2.2.2.2.2.2.2.2.2.2.2.2.2.2.1
theorem dX10_row_79 : decode cX10_row 79 = .ok (.iload_n 3, 1) := da9_dX10_row_52.2.2.2.2.2.2.2.2.2.2.2.2.2.2.2
theorem da9_dX10_row_80 : (decode cX10_row 80 = .ok (.baload, 1)) ∧ (decode cX10_row 81 = .ok (.invokevirtual 136, 3)) ∧ (decode cX10_row 84 = .ok (.iconst (-1), 1)) ∧ (decode cX10_row 85 = .ok (.if_icmp .ne 7, 3)) ∧ (decode cX10_row 88 = .ok (.iconst 1, 1)) ∧ (decode cX10_row 89 = .ok (.goto 4, 3)) ∧ (decode cX10_row 92 = .ok (.iconst 0, 1)) ∧ (decode cX10_row 93 = .ok (.istore 4, 2)) ∧ (decode cX10_row 95 = .ok (.iload 4, 2)) ∧ (decode cX10_row 97 = .ok (.ifCond .eq 21, 3)) ∧ (decode cX10_row 100 = .ok (.aload_n 0, 1)) ∧ (decode cX10_row 101 = .ok (.aload_n 0, 1)) ∧ (decode cX10_row 102 = .ok (.getfield 45, 3)) ∧ (decode cX10_row 105 = .ok (.iload_n 3, 1)) ∧ (decode cX10_row 106 = .ok (.baload, 1)) ∧ (decode cX10_row 107 = .ok (.aload_n 0, 1)) := by decide +kernel
theorem dX10_row_80 : decode cX10_row 80 = .ok (.baload, 1) := da9_dX10_row_80.1
theorem dX10_row_81 : decode cX10_row 81 = .ok (.invokevirtual 136, 3) := da9_dX10_row_80.2.1
theorem dX10_row_84 : decode cX10_row 84 = .ok (.iconst (-1), 1) := da9_dX10_row_80.2.2.1
theorem dX10_row_85 : decode cX10_row 85 = .ok (.if_icmp .ne 7, 3) := da9_dX10_row_80.2.2.2.1
theorem dX10_row_88 : decode cX10_row 88 = .ok (.iconst 1, 1) := da9_dX10_row_80.2.2.2.2.1
theorem dX10_row_89 : decode cX10_row 89 = .ok (.goto 4, 3) := da9_dX10_row_80.2.2.2.2.2.1
theorem dX10_row_92 : decode cX10_row 92 = .ok (.iconst 0, 1) := da9_dX10_row_80.2.2.2.2.2.2.1
theorem dX10_row_93 : decode cX10_row 93 = .ok (.istore 4, 2) := da9_dX10_row_80.2.2.2.2.2.2.2.1
theorem dX10_row_95 : decode cX10_row 95 = .ok (.iload 4, 2) := da9_dX10_row_80.2.2.2.2.2.2.2.2.1
theorem dX10_row_97 : decode cX10_row 97 = .ok (.ifCond .eq 21, 3) := da9_dX10_row_80.2.2.2.2.2.2.2.2.2.1
theorem dX10_row_100 : decode cX10_row 100 = .ok (.aload_n 0, 1) := da9_dX10_row_80.2.2.2.2.2.2.2.2.2.2.1
theorem dX10_row_101 : decode cX10_row 101 = .ok (.aload_n 0, 1) := da9_dX10_row_80.2.2.2.2.2.2.2.2.2.2.2.1
theorem dX10_row_102 : decode cX10_row 102 = .ok (.getfield 45, 3) := da9_dX10_row_80.2.2.2.2.2.2.2.2.2.2.2.2.1
theorem dX10_row_105 : decode cX10_row 105 = .ok (.iload_n 3, 1) := da9_dX10_row_80.2.2.2.2.2.2.2.2.2.2.2.2.2.1
theorem dX10_row_106 : decode cX10_row 106 = .ok (.baload, 1) := da9_dX10_row_80.2.2.2.2.2.2.2.2.2.2.2.2.2.2.1
theorem dX10_row_107 : decode cX10_row 107 = .ok (.aload_n 0, 1) := da9_dX10_row_80.2.2.2.2.2.2.2.2.2.2.2.2.2.2.2
theorem da9_dX10_row_108 : (decode cX10_row 108 = .ok (.getfield 45, 3)) ∧ (decode cX10_row 111 = .ok (.iload_n 3, 1)) ∧ (decode cX10_row 112 = .ok (.iconst 1, 1)) ∧ (decode cX10_row 113 = .ok (.iadd, 1)) ∧ (decode cX10_row 114 = .ok (.baload, 1)) ∧ (decode cX10_row 115 = .ok (.invokevirtual 139, 3)) ∧ (decode cX10_row 118 = .ok (.iload_n 2, 1)) ∧ (decode cX10_row 119 = .ok (.iload 4, 2)) ∧ (decode cX10_row 121 = .ok (.ifCond .eq 7, 3)) ∧ (decode cX10_row 124 = .ok (.iconst 1, 1)) ∧ (decode cX10_row 125 = .ok (.goto 4, 3)) ∧ (decode cX10_row 128 = .ok (.iconst 0, 1)) ∧ (decode cX10_row 129 = .ok (.iadd, 1)) ∧ (decode cX10_row 130 = .ok (.istore_n 2, 1)) ∧ (decode cX10_row 131 = .ok (.aload_n 0, 1)) ∧ (decode cX10_row 132 = .ok (.dup, 1)) := by decide +kernel
theorem dX10_row_108 : decode cX10_row 108 = .ok (.getfield 45, 3) := da9_dX10_row_108.1
theorem dX10_row_111 : decode cX10_row 111 = .ok (.iload_n 3, 1) := da9_dX10_row_108.2.1
theorem dX10_row_112 : decode cX10_row 112 = .ok (.iconst 1, 1) := da9_dX10_row_108.2.2.1
theorem dX10_row_113 : decode cX10_row 113 = .ok (.iadd, 1) := da9_dX10_row_108.2.2.2.1
theorem dX10_row_114 : decode cX10_row 114 = .ok (.baload, 1) := da9_dX10_row_108.2.2.2.2.1
theorem dX10_row_115 : decode cX10_row 115 = .ok (.invokevirtual 139, 3) := da9_dX10_row_108.2.2.2.2.2.1
theorem dX10_row_118 : decode cX10_row 118 = .ok (.iload_n 2, 1) := da9_dX10_row_108.2.2.2.2.2.2.1
theorem dX10_row_119 : decode cX10_row 119 = .ok (.iload 4, 2) := da9_dX10_row_108.2.2.2.2.2.2.2.1
theorem dX10_row_121 : decode cX10_row 121 = .ok (.ifCond .eq 7, 3) := da9_dX10_row_108.2.2.2.2.2.2.2.2.1
theorem dX10_row_124 : decode cX10_row 124 = .ok (.iconst 1, 1) := da9_dX10_row_108.2.2.2.2.2.2.2.2.2.1
theorem dX10_row_125 : decode cX10_row 125 = .ok (.goto 4, 3) := da9_dX10_row_108.2.2.2.2.2.2.2.2.2.2.1
theorem dX10_row_128 : decode cX10_row 128 = .ok (.iconst 0, 1) := da9_dX10_row_108.2.2.2.2.2.2.2.2.2.2.2.1
theorem dX10_row_129 : decode cX10_row 129 = .ok (.iadd, 1) := da9_dX10_row_108.2.2.2.2.2.2.2.2.2.2.2.2.1
theorem dX10_row_130 : decode cX10_row 130 = .ok (.istore_n 2, 1) := da9_dX10_row_108.2.2.2.2.2.2.2.2.2.2.2.2.2.1
theorem dX10_row_131 : decode cX10_row 131 = .ok (.aload_n 0, 1) := da9_dX10_row_108.2.2.2.2.2.2.2.2.2.2.2.2.2.2.1
theorem dX10_row_132 : decode cX10_row 132 = .ok (.dup, 1) := da9_dX10_row_108.2.2.2.2.2.2.2.2.2.2.2.2.2.2.2
theorem da9_dX10_row_133 : (decode cX10_row 133 = .ok (.getfield 172, 3)) ∧ (decode cX10_row 136 = .ok (.iload 4, 2)) ∧ (decode cX10_row 138 = .ok (.ifCond .eq 7, 3)) ∧ (decode cX10_row 141 = .ok (.iconst 0, 1)) ∧ (decode cX10_row 142 = .ok (.goto 4, 3)) ∧ (decode cX10_row 145 = .ok (.iconst 1, 1)) ∧ (decode cX10_row 146 = .ok (.iadd, 1)) ∧ (decode cX10_row 147 = .ok (.putfield 172, 3)) ∧ (decode cX10_row 150 = .ok (.iinc 3 2, 3)) ∧ (decode cX10_row 153 = .ok (.goto (-121), 3)) ∧ (decode cX10_row 156 = .ok (.aload_n 0, 1)) ∧ (decode cX10_row 157 = .ok (.iload_n 2, 1)) ∧ (decode cX10_row 158 = .ok (.invokevirtual 122, 3)) ∧ (decode cX10_row 161 = .ok (.ireturn, 1)) := by decide +kernel
theorem dX10_row_133 : decode cX10_row 133 = .ok (.getfield 172, 3) := da9_dX10_row_133.1
theorem dX10_row_136 : decode cX10_row 136 = .ok (.iload 4, 2) := da9_dX10_row_133.2.1
theorem dX10_row_138 : decode cX10_row 138 = .ok (.ifCond .eq 7, 3) := da9_dX10_row_133.2.2.1
theorem dX10_row_141 : decode cX10_row 141 = .ok (.iconst 0, 1) := da9_dX10_row_133.2.2.2.1
theorem dX10_row_142 : decode cX10_row 142 = .ok (.goto 4, 3) := da9_dX10_row_133.2.2.2.2.1
theorem dX10_row_145 : decode cX10_row 145 = .ok (.iconst 1, 1) := da9_dX10_row_133.2.2.2.2.2.1
theorem dX10_row_146 : decode cX10_row 146 = .ok (.iadd, 1) := da9_dX10_row_133.2.2.2.2.2.2.1
theorem dX10_row_147 : decode cX10_row 147 = .ok (.putfield 172, 3) := da9_dX10_row_133.2.2.2.2.2.2.2.1
theorem dX10_row_150 : decode cX10_row 150 = .ok (.iinc 3 2, 3) := da9_dX10_row_133.2.2.2.2.2.2.2.2.1
theorem dX10_row_153 : decode cX10_row 153 = .ok (.goto (-121), 3) := da9_dX10_row_133.2.2.2.2.2.2.2.2.2.1
theorem dX10_row_156 : decode cX10_row 156 = .ok (.aload_n 0, 1) := da9_dX10_row_133.2.2.2.2.2.2.2.2.2.2.1
theorem dX10_row_157 : decode cX10_row 157 = .ok (.iload_n 2, 1) := da9_dX10_row_133.2.2.2.2.2.2.2.2.2.2.2.1
theorem dX10_row_158 : decode cX10_row 158 = .ok (.invokevirtual 122, 3) := da9_dX10_row_133.2.2.2.2.2.2.2.2.2.2.2.2.1
theorem dX10_row_161 : decode cX10_row 161 = .ok (.ireturn, 1) := da9_dX10_row_133.2.2.2.2.2.2.2.2.2.2.2.2.2
theorem da9_dX10_bricks_0 : (decode cX10_bricks 0 = .ok (.aload_n 0, 1)) ∧ (decode cX10_bricks 1 = .ok (.getfield 172, 3)) ∧ (decode cX10_bricks 4 = .ok (.ireturn, 1)) := by decide +kernel
theorem dX10_bricks_0 : decode cX10_bricks 0 = .ok (.aload_n 0, 1) := da9_dX10_bricks_0.1
theorem dX10_bricks_1 : decode cX10_bricks 1 = .ok (.getfield 172, 3) := da9_dX10_bricks_0.2.1
theorem dX10_bricks_4 : decode cX10_bricks 4 = .ok (.ireturn, 1) := da9_dX10_bricks_0.2.2
theorem da9_dX10_feed_0 : (decode cX10_feed 0 = .ok (.aload_n 0, 1)) ∧ (decode cX10_feed 1 = .ok (.getfield 169, 3)) ∧ (decode cX10_feed 4 = .ok (.bipush 20, 2)) ∧ (decode cX10_feed 6 = .ok (.iadd, 1)) ∧ (decode cX10_feed 7 = .ok (.sipush 400, 3)) ∧ (decode cX10_feed 10 = .ok (.if_icmp .le 5, 3)) ∧ (decode cX10_feed 13 = .ok (.iconst (-1), 1)) ∧ (decode cX10_feed 14 = .ok (.ireturn, 1)) ∧ (decode cX10_feed 15 = .ok (.aload_n 0, 1)) ∧ (decode cX10_feed 16 = .ok (.getfield 48, 3)) ∧ (decode cX10_feed 19 = .ok (.iconst 0, 1)) ∧ (decode cX10_feed 20 = .ok (.iload_n 1, 1)) ∧ (decode cX10_feed 21 = .ok (.iastore, 1)) ∧ (decode cX10_feed 22 = .ok (.aload_n 0, 1)) ∧ (decode cX10_feed 23 = .ok (.getfield 48, 3)) ∧ (decode cX10_feed 26 = .ok (.iconst 1, 1)) := by decide +kernel
theorem dX10_feed_0 : decode cX10_feed 0 = .ok (.aload_n 0, 1) := da9_dX10_feed_0.1
theorem dX10_feed_1 : decode cX10_feed 1 = .ok (.getfield 169, 3) := da9_dX10_feed_0.2.1
theorem dX10_feed_4 : decode cX10_feed 4 = .ok (.bipush 20, 2) := da9_dX10_feed_0.2.2.1
theorem dX10_feed_6 : decode cX10_feed 6 = .ok (.iadd, 1) := da9_dX10_feed_0.2.2.2.1
theorem dX10_feed_7 : decode cX10_feed 7 = .ok (.sipush 400, 3) := da9_dX10_feed_0.2.2.2.2.1
theorem dX10_feed_10 : decode cX10_feed 10 = .ok (.if_icmp .le 5, 3) := da9_dX10_feed_0.2.2.2.2.2.1
theorem dX10_feed_13 : decode cX10_feed 13 = .ok (.iconst (-1), 1) := da9_dX10_feed_0.2.2.2.2.2.2.1
theorem dX10_feed_14 : decode cX10_feed 14 = .ok (.ireturn, 1) := da9_dX10_feed_0.2.2.2.2.2.2.2.1
theorem dX10_feed_15 : decode cX10_feed 15 = .ok (.aload_n 0, 1) := da9_dX10_feed_0.2.2.2.2.2.2.2.2.1
theorem dX10_feed_16 : decode cX10_feed 16 = .ok (.getfield 48, 3) := da9_dX10_feed_0.2.2.2.2.2.2.2.2.2.1
theorem dX10_feed_19 : decode cX10_feed 19 = .ok (.iconst 0, 1) := da9_dX10_feed_0.2.2.2.2.2.2.2.2.2.2.1
theorem dX10_feed_20 : decode cX10_feed 20 = .ok (.iload_n 1, 1) := da9_dX10_feed_0.2.2.2.2.2.2.2.2.2.2.2.1
theorem dX10_feed_21 : decode cX10_feed 21 = .ok (.iastore, 1) := da9_dX10_feed_0.2.2.2.2.2.2.2.2.2.2.2.2.1
theorem dX10_feed_22 : decode cX10_feed 22 = .ok (.aload_n 0, 1) := da9_dX10_feed_0.2.2.2.2.2.2.2.2.2.2.2.2.2.1
theorem dX10_feed_23 : decode cX10_feed 23 = .ok (.getfield 48, 3) := da9_dX10_feed_0.2.2.2.2.2.2.2.2.2.2.2.2.2.2.1
theorem dX10_feed_26 : decode cX10_feed 26 = .ok (.iconst 1, 1) := da9_dX10_feed_0.2.2.2.2.2.2.2.2.2.2.2.2.2.2.2
theorem da9_dX10_feed_27 : (decode cX10_feed 27 = .ok (.iload_n 2, 1)) ∧ (decode cX10_feed 28 = .ok (.iastore, 1)) ∧ (decode cX10_feed 29 = .ok (.aload_n 0, 1)) ∧ (decode cX10_feed 30 = .ok (.getfield 48, 3)) ∧ (decode cX10_feed 33 = .ok (.iconst 2, 1)) ∧ (decode cX10_feed 34 = .ok (.iload_n 3, 1)) ∧ (decode cX10_feed 35 = .ok (.iastore, 1)) ∧ (decode cX10_feed 36 = .ok (.aload_n 0, 1)) ∧ (decode cX10_feed 37 = .ok (.getfield 48, 3)) ∧ (decode cX10_feed 40 = .ok (.iconst 3, 1)) ∧ (decode cX10_feed 41 = .ok (.iload 4, 2)) ∧ (decode cX10_feed 43 = .ok (.iastore, 1)) ∧ (decode cX10_feed 44 = .ok (.aload_n 0, 1)) ∧ (decode cX10_feed 45 = .ok (.getfield 48, 3)) ∧ (decode cX10_feed 48 = .ok (.iconst 4, 1)) ∧ (decode cX10_feed 49 = .ok (.iload 5, 2)) := by decide +kernel
theorem dX10_feed_27 : decode cX10_feed 27 = .ok (.iload_n 2, 1) := da9_dX10_feed_27.1
theorem dX10_feed_28 : decode cX10_feed 28 = .ok (.iastore, 1) := da9_dX10_feed_27.2.1
theorem dX10_feed_29 : decode cX10_feed 29 = .ok (.aload_n 0, 1) := da9_dX10_feed_27.2.2.1
theorem dX10_feed_30 : decode cX10_feed 30 = .ok (.getfield 48, 3) := da9_dX10_feed_27.2.2.2.1
theorem dX10_feed_33 : decode cX10_feed 33 = .ok (.iconst 2, 1) := da9_dX10_feed_27.2.2.2.2.1
theorem dX10_feed_34 : decode cX10_feed 34 = .ok (.iload_n 3, 1) := da9_dX10_feed_27.2.2.2.2.2.1
theorem dX10_feed_35 : decode cX10_feed 35 = .ok (.iastore, 1) := da9_dX10_feed_27.2.2.2.2.2.2.1
theorem dX10_feed_36 : decode cX10_feed 36 = .ok (.aload_n 0, 1) := da9_dX10_feed_27.2.2.2.2.2.2.2.1
theorem dX10_feed_37 : decode cX10_feed 37 = .ok (.getfield 48, 3) := da9_dX10_feed_27.2.2.2.2.2.2.2.2.1
theorem dX10_feed_40 : decode cX10_feed 40 = .ok (.iconst 3, 1) := da9_dX10_feed_27.2.2.2.2.2.2.2.2.2.1
theorem dX10_feed_41 : decode cX10_feed 41 = .ok (.iload 4, 2) := da9_dX10_feed_27.2.2.2.2.2.2.2.2.2.2.1
theorem dX10_feed_43 : decode cX10_feed 43 = .ok (.iastore, 1) := da9_dX10_feed_27.2.2.2.2.2.2.2.2.2.2.2.1
theorem dX10_feed_44 : decode cX10_feed 44 = .ok (.aload_n 0, 1) := da9_dX10_feed_27.2.2.2.2.2.2.2.2.2.2.2.2.1
theorem dX10_feed_45 : decode cX10_feed 45 = .ok (.getfield 48, 3) := da9_dX10_feed_27.2.2.2.2.2.2.2.2.2.2.2.2.2.1
theorem dX10_feed_48 : decode cX10_feed 48 = .ok (.iconst 4, 1) := da9_dX10_feed_27.2.2.2.2.2.2.2.2.2.2.2.2.2.2.1
theorem dX10_feed_49 : decode cX10_feed 49 = .ok (.iload 5, 2) := da9_dX10_feed_27.2.2.2.2.2.2.2.2.2.2.2.2.2.2.2
theorem da9_dX10_feed_51 : (decode cX10_feed 51 = .ok (.iastore, 1)) ∧ (decode cX10_feed 52 = .ok (.iconst 0, 1)) ∧ (decode cX10_feed 53 = .ok (.istore 6, 2)) ∧ (decode cX10_feed 55 = .ok (.iload 6, 2)) ∧ (decode cX10_feed 57 = .ok (.bipush 20, 2)) ∧ (decode cX10_feed 59 = .ok (.if_icmp .ge 42, 3)) ∧ (decode cX10_feed 62 = .ok (.aload_n 0, 1)) ∧ (decode cX10_feed 63 = .ok (.getfield 45, 3)) ∧ (decode cX10_feed 66 = .ok (.aload_n 0, 1)) ∧ (decode cX10_feed 67 = .ok (.getfield 169, 3)) ∧ (decode cX10_feed 70 = .ok (.iload 6, 2)) ∧ (decode cX10_feed 72 = .ok (.iadd, 1)) ∧ (decode cX10_feed 73 = .ok (.aload_n 0, 1)) ∧ (decode cX10_feed 74 = .ok (.getfield 48, 3)) ∧ (decode cX10_feed 77 = .ok (.iload 6, 2)) ∧ (decode cX10_feed 79 = .ok (.iconst 4, 1)) := by decide +kernel
theorem dX10_feed_51 : decode cX10_feed 51 = .ok (.iastore, 1) := da9_dX10_feed_51.1
theorem dX10_feed_52 : decode cX10_feed 52 = .ok (.iconst 0, 1) := da9_dX10_feed_51.2.1
theorem dX10_feed_53 : decode cX10_feed 53 = .ok (.istore 6, 2) := da9_dX10_feed_51.2.2.1
theorem dX10_feed_55 : decode cX10_feed 55 = .ok (.iload 6, 2) := da9_dX10_feed_51.2.2.2.1
theorem dX10_feed_57 : decode cX10_feed 57 = .ok (.bipush 20, 2) := da9_dX10_feed_51.2.2.2.2.1
theorem dX10_feed_59 : decode cX10_feed 59 = .ok (.if_icmp .ge 42, 3) := da9_dX10_feed_51.2.2.2.2.2.1
theorem dX10_feed_62 : decode cX10_feed 62 = .ok (.aload_n 0, 1) := da9_dX10_feed_51.2.2.2.2.2.2.1
theorem dX10_feed_63 : decode cX10_feed 63 = .ok (.getfield 45, 3) := da9_dX10_feed_51.2.2.2.2.2.2.2.1
theorem dX10_feed_66 : decode cX10_feed 66 = .ok (.aload_n 0, 1) := da9_dX10_feed_51.2.2.2.2.2.2.2.2.1
theorem dX10_feed_67 : decode cX10_feed 67 = .ok (.getfield 169, 3) := da9_dX10_feed_51.2.2.2.2.2.2.2.2.2.1
theorem dX10_feed_70 : decode cX10_feed 70 = .ok (.iload 6, 2) := da9_dX10_feed_51.2.2.2.2.2.2.2.2.2.2.1
theorem dX10_feed_72 : decode cX10_feed 72 = .ok (.iadd, 1) := da9_dX10_feed_51.2.2.2.2.2.2.2.2.2.2.2.1
theorem dX10_feed_73 : decode cX10_feed 73 = .ok (.aload_n 0, 1) := da9_dX10_feed_51.2.2.2.2.2.2.2.2.2.2.2.2.1
theorem dX10_feed_74 : decode cX10_feed 74 = .ok (.getfield 48, 3) := da9_dX10_feed_51.2.2.2.2.2.2.2.2.2.2.2.2.2.1
theorem dX10_feed_77 : decode cX10_feed 77 = .ok (.iload 6, 2) := da9_dX10_feed_51.2.2.2.2.2.2.2.2.2.2.2.2.2.2.1
theorem dX10_feed_79 : decode cX10_feed 79 = .ok (.iconst 4, 1) := da9_dX10_feed_51.2.2.2.2.2.2.2.2.2.2.2.2.2.2.2
theorem da9_dX10_feed_80 : (decode cX10_feed 80 = .ok (.idiv, 1)) ∧ (decode cX10_feed 81 = .ok (.iaload, 1)) ∧ (decode cX10_feed 82 = .ok (.bipush 24, 2)) ∧ (decode cX10_feed 84 = .ok (.bipush 8, 2)) ∧ (decode cX10_feed 86 = .ok (.iload 6, 2)) ∧ (decode cX10_feed 88 = .ok (.iconst 4, 1)) ∧ (decode cX10_feed 89 = .ok (.irem, 1)) ∧ (decode cX10_feed 90 = .ok (.imul, 1)) ∧ (decode cX10_feed 91 = .ok (.isub, 1)) ∧ (decode cX10_feed 92 = .ok (.ishr, 1)) ∧ (decode cX10_feed 93 = .ok (.i2b, 1)) ∧ (decode cX10_feed 94 = .ok (.bastore, 1)) ∧ (decode cX10_feed 95 = .ok (.iinc 6 1, 3)) ∧ (decode cX10_feed 98 = .ok (.goto (-43), 3)) ∧ (decode cX10_feed 101 = .ok (.aload_n 0, 1)) ∧ (decode cX10_feed 102 = .ok (.dup, 1)) := by decide +kernel
theorem dX10_feed_80 : decode cX10_feed 80 = .ok (.idiv, 1) := da9_dX10_feed_80.1
theorem dX10_feed_81 : decode cX10_feed 81 = .ok (.iaload, 1) := da9_dX10_feed_80.2.1
theorem dX10_feed_82 : decode cX10_feed 82 = .ok (.bipush 24, 2) := da9_dX10_feed_80.2.2.1
theorem dX10_feed_84 : decode cX10_feed 84 = .ok (.bipush 8, 2) := da9_dX10_feed_80.2.2.2.1
theorem dX10_feed_86 : decode cX10_feed 86 = .ok (.iload 6, 2) := da9_dX10_feed_80.2.2.2.2.1
theorem dX10_feed_88 : decode cX10_feed 88 = .ok (.iconst 4, 1) := da9_dX10_feed_80.2.2.2.2.2.1
theorem dX10_feed_89 : decode cX10_feed 89 = .ok (.irem, 1) := da9_dX10_feed_80.2.2.2.2.2.2.1
theorem dX10_feed_90 : decode cX10_feed 90 = .ok (.imul, 1) := da9_dX10_feed_80.2.2.2.2.2.2.2.1
theorem dX10_feed_91 : decode cX10_feed 91 = .ok (.isub, 1) := da9_dX10_feed_80.2.2.2.2.2.2.2.2.1
theorem dX10_feed_92 : decode cX10_feed 92 = .ok (.ishr, 1) := da9_dX10_feed_80.2.2.2.2.2.2.2.2.2.1
theorem dX10_feed_93 : decode cX10_feed 93 = .ok (.i2b, 1) := da9_dX10_feed_80.2.2.2.2.2.2.2.2.2.2.1
theorem dX10_feed_94 : decode cX10_feed 94 = .ok (.bastore, 1) := da9_dX10_feed_80.2.2.2.2.2.2.2.2.2.2.2.1
theorem dX10_feed_95 : decode cX10_feed 95 = .ok (.iinc 6 1, 3) := da9_dX10_feed_80.2.2.2.2.2.2.2.2.2.2.2.2.1
theorem dX10_feed_98 : decode cX10_feed 98 = .ok (.goto (-43), 3) := da9_dX10_feed_80.2.2.2.2.2.2.2.2.2.2.2.2.2.1
theorem dX10_feed_101 : decode cX10_feed 101 = .ok (.aload_n 0, 1) := da9_dX10_feed_80.2.2.2.2.2.2.2.2.2.2.2.2.2.2.1
theorem dX10_feed_102 : decode cX10_feed 102 = .ok (.dup, 1) := da9_dX10_feed_80.2.2.2.2.2.2.2.2.2.2.2.2.2.2.2
theorem da9_dX10_feed_103 : (decode cX10_feed 103 = .ok (.getfield 169, 3)) ∧ (decode cX10_feed 106 = .ok (.bipush 20, 2)) ∧ (decode cX10_feed 108 = .ok (.iadd, 1)) ∧ (decode cX10_feed 109 = .ok (.putfield 169, 3)) ∧ (decode cX10_feed 112 = .ok (.aload_n 0, 1)) ∧ (decode cX10_feed 113 = .ok (.getfield 169, 3)) ∧ (decode cX10_feed 116 = .ok (.ireturn, 1)) := by decide +kernel
theorem dX10_feed_103 : decode cX10_feed 103 = .ok (.getfield 169, 3) := da9_dX10_feed_103.1
theorem dX10_feed_106 : decode cX10_feed 106 = .ok (.bipush 20, 2) := da9_dX10_feed_103.2.1
theorem dX10_feed_108 : decode cX10_feed 108 = .ok (.iadd, 1) := da9_dX10_feed_103.2.2.1
theorem dX10_feed_109 : decode cX10_feed 109 = .ok (.putfield 169, 3) := da9_dX10_feed_103.2.2.2.1
theorem dX10_feed_112 : decode cX10_feed 112 = .ok (.aload_n 0, 1) := da9_dX10_feed_103.2.2.2.2.1
theorem dX10_feed_113 : decode cX10_feed 113 = .ok (.getfield 169, 3) := da9_dX10_feed_103.2.2.2.2.2.1
theorem dX10_feed_116 : decode cX10_feed 116 = .ok (.ireturn, 1) := da9_dX10_feed_103.2.2.2.2.2.2
set_option maxRecDepth 20000 in
theorem ggX10_end_X10_lies : GoodIn wsX10_end wsX10_lies := wd_c vW10_ok mvW10_6
set_option maxRecDepth 20000 in
theorem gX10_end_X10_lies : GoodIn wsX10_end (va_wsS RX10 18 yX10_lies wsX10_lies) := goodIn_app (wd_l vW10_ok _ pvW10_141) ggX10_end_X10_lies
theorem da9_dX10_end_0 : (decode cX10_end 0 = .ok (.iload_n 1, 1)) ∧ (decode cX10_end 1 = .ok (.iconst 0, 1)) ∧ (decode cX10_end 2 = .ok (.aload_n 0, 1)) ∧ (decode cX10_end 3 = .ok (.getfield 169, 3)) ∧ (decode cX10_end 6 = .ok (.invokestatic 18, 3)) ∧ (decode cX10_end 9 = .ok (.ifCond .ne 5, 3)) ∧ (decode cX10_end 12 = .ok (.iconst (-1), 1)) ∧ (decode cX10_end 13 = .ok (.ireturn, 1)) ∧ (decode cX10_end 14 = .ok (.aload_n 0, 1)) ∧ (decode cX10_end 15 = .ok (.iload_n 1, 1)) ∧ (decode cX10_end 16 = .ok (.putfield 169, 3)) ∧ (decode cX10_end 19 = .ok (.iload_n 1, 1)) ∧ (decode cX10_end 20 = .ok (.ireturn, 1)) := by decide +kernel
theorem dX10_end_0 : decode cX10_end 0 = .ok (.iload_n 1, 1) := da9_dX10_end_0.1
theorem dX10_end_1 : decode cX10_end 1 = .ok (.iconst 0, 1) := da9_dX10_end_0.2.1
theorem dX10_end_2 : decode cX10_end 2 = .ok (.aload_n 0, 1) := da9_dX10_end_0.2.2.1
theorem dX10_end_3 : decode cX10_end 3 = .ok (.getfield 169, 3) := da9_dX10_end_0.2.2.2.1
theorem dX10_end_6 : decode cX10_end 6 = .ok (.invokestatic 18, 3) := da9_dX10_end_0.2.2.2.2.1
theorem dX10_end_9 : decode cX10_end 9 = .ok (.ifCond .ne 5, 3) := da9_dX10_end_0.2.2.2.2.2.1
theorem dX10_end_12 : decode cX10_end 12 = .ok (.iconst (-1), 1) := da9_dX10_end_0.2.2.2.2.2.2.1
theorem dX10_end_13 : decode cX10_end 13 = .ok (.ireturn, 1) := da9_dX10_end_0.2.2.2.2.2.2.2.1
theorem dX10_end_14 : decode cX10_end 14 = .ok (.aload_n 0, 1) := da9_dX10_end_0.2.2.2.2.2.2.2.2.1
theorem dX10_end_15 : decode cX10_end 15 = .ok (.iload_n 1, 1) := da9_dX10_end_0.2.2.2.2.2.2.2.2.2.1
theorem dX10_end_16 : decode cX10_end 16 = .ok (.putfield 169, 3) := da9_dX10_end_0.2.2.2.2.2.2.2.2.2.2.1
theorem dX10_end_19 : decode cX10_end 19 = .ok (.iload_n 1, 1) := da9_dX10_end_0.2.2.2.2.2.2.2.2.2.2.2.1
theorem dX10_end_20 : decode cX10_end 20 = .ok (.ireturn, 1) := da9_dX10_end_0.2.2.2.2.2.2.2.2.2.2.2.2
theorem da9_dX10_isSmall_0 : (decode cX10_isSmall 0 = .ok (.iload_n 0, 1)) ∧ (decode cX10_isSmall 1 = .ok (.bipush 97, 2)) ∧ (decode cX10_isSmall 3 = .ok (.if_icmp .lt 13, 3)) ∧ (decode cX10_isSmall 6 = .ok (.iload_n 0, 1)) ∧ (decode cX10_isSmall 7 = .ok (.bipush 122, 2)) ∧ (decode cX10_isSmall 9 = .ok (.if_icmp .gt 7, 3)) ∧ (decode cX10_isSmall 12 = .ok (.iconst 1, 1)) ∧ (decode cX10_isSmall 13 = .ok (.goto 4, 3)) ∧ (decode cX10_isSmall 16 = .ok (.iconst 0, 1)) ∧ (decode cX10_isSmall 17 = .ok (.ireturn, 1)) := by decide +kernel
theorem dX10_isSmall_0 : decode cX10_isSmall 0 = .ok (.iload_n 0, 1) := da9_dX10_isSmall_0.1
theorem dX10_isSmall_1 : decode cX10_isSmall 1 = .ok (.bipush 97, 2) := da9_dX10_isSmall_0.2.1
theorem dX10_isSmall_3 : decode cX10_isSmall 3 = .ok (.if_icmp .lt 13, 3) := da9_dX10_isSmall_0.2.2.1
theorem dX10_isSmall_6 : decode cX10_isSmall 6 = .ok (.iload_n 0, 1) := da9_dX10_isSmall_0.2.2.2.1
theorem dX10_isSmall_7 : decode cX10_isSmall 7 = .ok (.bipush 122, 2) := da9_dX10_isSmall_0.2.2.2.2.1
theorem dX10_isSmall_9 : decode cX10_isSmall 9 = .ok (.if_icmp .gt 7, 3) := da9_dX10_isSmall_0.2.2.2.2.2.1
theorem dX10_isSmall_12 : decode cX10_isSmall 12 = .ok (.iconst 1, 1) := da9_dX10_isSmall_0.2.2.2.2.2.2.1
theorem dX10_isSmall_13 : decode cX10_isSmall 13 = .ok (.goto 4, 3) := da9_dX10_isSmall_0.2.2.2.2.2.2.2.1
theorem dX10_isSmall_16 : decode cX10_isSmall 16 = .ok (.iconst 0, 1) := da9_dX10_isSmall_0.2.2.2.2.2.2.2.2.1
theorem dX10_isSmall_17 : decode cX10_isSmall 17 = .ok (.ireturn, 1) := da9_dX10_isSmall_0.2.2.2.2.2.2.2.2.2
theorem da9_dX10_isDigit_0 : (decode cX10_isDigit 0 = .ok (.iload_n 0, 1)) ∧ (decode cX10_isDigit 1 = .ok (.bipush 48, 2)) ∧ (decode cX10_isDigit 3 = .ok (.if_icmp .lt 13, 3)) ∧ (decode cX10_isDigit 6 = .ok (.iload_n 0, 1)) ∧ (decode cX10_isDigit 7 = .ok (.bipush 57, 2)) ∧ (decode cX10_isDigit 9 = .ok (.if_icmp .gt 7, 3)) ∧ (decode cX10_isDigit 12 = .ok (.iconst 1, 1)) ∧ (decode cX10_isDigit 13 = .ok (.goto 4, 3)) ∧ (decode cX10_isDigit 16 = .ok (.iconst 0, 1)) ∧ (decode cX10_isDigit 17 = .ok (.ireturn, 1)) := by decide +kernel
theorem dX10_isDigit_0 : decode cX10_isDigit 0 = .ok (.iload_n 0, 1) := da9_dX10_isDigit_0.1
theorem dX10_isDigit_1 : decode cX10_isDigit 1 = .ok (.bipush 48, 2) := da9_dX10_isDigit_0.2.1
theorem dX10_isDigit_3 : decode cX10_isDigit 3 = .ok (.if_icmp .lt 13, 3) := da9_dX10_isDigit_0.2.2.1
theorem dX10_isDigit_6 : decode cX10_isDigit 6 = .ok (.iload_n 0, 1) := da9_dX10_isDigit_0.2.2.2.1
theorem dX10_isDigit_7 : decode cX10_isDigit 7 = .ok (.bipush 57, 2) := da9_dX10_isDigit_0.2.2.2.2.1
theorem dX10_isDigit_9 : decode cX10_isDigit 9 = .ok (.if_icmp .gt 7, 3) := da9_dX10_isDigit_0.2.2.2.2.2.1
theorem dX10_isDigit_12 : decode cX10_isDigit 12 = .ok (.iconst 1, 1) := da9_dX10_isDigit_0.2.2.2.2.2.2.1
theorem dX10_isDigit_13 : decode cX10_isDigit 13 = .ok (.goto 4, 3) := da9_dX10_isDigit_0.2.2.2.2.2.2.2.1
theorem dX10_isDigit_16 : decode cX10_isDigit 16 = .ok (.iconst 0, 1) := da9_dX10_isDigit_0.2.2.2.2.2.2.2.2.1
theorem dX10_isDigit_17 : decode cX10_isDigit 17 = .ok (.ireturn, 1) := da9_dX10_isDigit_0.2.2.2.2.2.2.2.2.2
theorem da9_dX10_wordOf_0 : (decode cX10_wordOf 0 = .ok (.iconst 1, 1)) ∧ (decode cX10_wordOf 1 = .ok (.istore_n 3, 1)) ∧ (decode cX10_wordOf 2 = .ok (.iconst 0, 1)) ∧ (decode cX10_wordOf 3 = .ok (.istore 4, 2)) ∧ (decode cX10_wordOf 5 = .ok (.iload 4, 2)) ∧ (decode cX10_wordOf 7 = .ok (.aload_n 0, 1)) ∧ (decode cX10_wordOf 8 = .ok (.getfield 41, 3)) ∧ (decode cX10_wordOf 11 = .ok (.arraylength, 1)) ∧ (decode cX10_wordOf 12 = .ok (.if_icmp .ge 114, 3)) ∧ (decode cX10_wordOf 15 = .ok (.iconst 0, 1)) ∧ (decode cX10_wordOf 16 = .ok (.istore 5, 2)) ∧ (decode cX10_wordOf 18 = .ok (.aload_n 0, 1)) ∧ (decode cX10_wordOf 19 = .ok (.getfield 41, 3)) ∧ (decode cX10_wordOf 22 = .ok (.iload 4, 2)) ∧ (decode cX10_wordOf 24 = .ok (.iload 5, 2)) ∧ (decode cX10_wordOf 26 = .ok (.iadd, 1)) := by decide +kernel
theorem dX10_wordOf_0 : decode cX10_wordOf 0 = .ok (.iconst 1, 1) := da9_dX10_wordOf_0.1
theorem dX10_wordOf_1 : decode cX10_wordOf 1 = .ok (.istore_n 3, 1) := da9_dX10_wordOf_0.2.1
theorem dX10_wordOf_2 : decode cX10_wordOf 2 = .ok (.iconst 0, 1) := da9_dX10_wordOf_0.2.2.1
theorem dX10_wordOf_3 : decode cX10_wordOf 3 = .ok (.istore 4, 2) := da9_dX10_wordOf_0.2.2.2.1
theorem dX10_wordOf_5 : decode cX10_wordOf 5 = .ok (.iload 4, 2) := da9_dX10_wordOf_0.2.2.2.2.1
theorem dX10_wordOf_7 : decode cX10_wordOf 7 = .ok (.aload_n 0, 1) := da9_dX10_wordOf_0.2.2.2.2.2.1
theorem dX10_wordOf_8 : decode cX10_wordOf 8 = .ok (.getfield 41, 3) := da9_dX10_wordOf_0.2.2.2.2.2.2.1
theorem dX10_wordOf_11 : decode cX10_wordOf 11 = .ok (.arraylength, 1) := da9_dX10_wordOf_0.2.2.2.2.2.2.2.1
theorem dX10_wordOf_12 : decode cX10_wordOf 12 = .ok (.if_icmp .ge 114, 3) := da9_dX10_wordOf_0.2.2.2.2.2.2.2.2.1
theorem dX10_wordOf_15 : decode cX10_wordOf 15 = .ok (.iconst 0, 1) := da9_dX10_wordOf_0.2.2.2.2.2.2.2.2.2.1
theorem dX10_wordOf_16 : decode cX10_wordOf 16 = .ok (.istore 5, 2) := da9_dX10_wordOf_0.2.2.2.2.2.2.2.2.2.2.1
theorem dX10_wordOf_18 : decode cX10_wordOf 18 = .ok (.aload_n 0, 1) := da9_dX10_wordOf_0.2.2.2.2.2.2.2.2.2.2.2.1
theorem dX10_wordOf_19 : decode cX10_wordOf 19 = .ok (.getfield 41, 3) := da9_dX10_wordOf_0.2.2.2.2.2.2.2.2.2.2.2.2.1
theorem dX10_wordOf_22 : decode cX10_wordOf 22 = .ok (.iload 4, 2) := da9_dX10_wordOf_0.2.2.2.2.2.2.2.2.2.2.2.2.2.1
theorem dX10_wordOf_24 : decode cX10_wordOf 24 = .ok (.iload 5, 2) := da9_dX10_wordOf_0.2.2.2.2.2.2.2.2.2.2.2.2.2.2.1
theorem dX10_wordOf_26 : decode cX10_wordOf 26 = .ok (.iadd, 1) := da9_dX10_wordOf_0.2.2.2.2.2.2.2.2.2.2.2.2.2.2.2
theorem da9_dX10_wordOf_27 : (decode cX10_wordOf 27 = .ok (.baload, 1)) ∧ (decode cX10_wordOf 28 = .ok (.bipush 32, 2)) ∧ (decode cX10_wordOf 30 = .ok (.if_icmp .eq 9, 3)) ∧ (decode cX10_wordOf 33 = .ok (.iinc 5 1, 3)) ∧ (decode cX10_wordOf 36 = .ok (.goto (-18), 3)) ∧ (decode cX10_wordOf 39 = .ok (.iload 5, 2)) ∧ (decode cX10_wordOf 41 = .ok (.iload_n 2, 1)) ∧ (decode cX10_wordOf 42 = .ok (.iload_n 1, 1)) ∧ (decode cX10_wordOf 43 = .ok (.isub, 1)) ∧ (decode cX10_wordOf 44 = .ok (.if_icmp .ne 7, 3)) ∧ (decode cX10_wordOf 47 = .ok (.iconst 1, 1)) ∧ (decode cX10_wordOf 48 = .ok (.goto 4, 3)) ∧ (decode cX10_wordOf 51 = .ok (.iconst 0, 1)) ∧ (decode cX10_wordOf 52 = .ok (.istore 6, 2)) ∧ (decode cX10_wordOf 54 = .ok (.iconst 0, 1)) ∧ (decode cX10_wordOf 55 = .ok (.istore 7, 2)) := by decide +kernel
theorem dX10_wordOf_27 : decode cX10_wordOf 27 = .ok (.baload, 1) := da9_dX10_wordOf_27.1
theorem dX10_wordOf_28 : decode cX10_wordOf 28 = .ok (.bipush 32, 2) := da9_dX10_wordOf_27.2.1
theorem dX10_wordOf_30 : decode cX10_wordOf 30 = .ok (.if_icmp .eq 9, 3) := da9_dX10_wordOf_27.2.2.1
theorem dX10_wordOf_33 : decode cX10_wordOf 33 = .ok (.iinc 5 1, 3) := da9_dX10_wordOf_27.2.2.2.1
theorem dX10_wordOf_36 : decode cX10_wordOf 36 = .ok (.goto (-18), 3) := da9_dX10_wordOf_27.2.2.2.2.1
theorem dX10_wordOf_39 : decode cX10_wordOf 39 = .ok (.iload 5, 2) := da9_dX10_wordOf_27.2.2.2.2.2.1
theorem dX10_wordOf_41 : decode cX10_wordOf 41 = .ok (.iload_n 2, 1) := da9_dX10_wordOf_27.2.2.2.2.2.2.1
theorem dX10_wordOf_42 : decode cX10_wordOf 42 = .ok (.iload_n 1, 1) := da9_dX10_wordOf_27.2.2.2.2.2.2.2.1
theorem dX10_wordOf_43 : decode cX10_wordOf 43 = .ok (.isub, 1) := da9_dX10_wordOf_27.2.2.2.2.2.2.2.2.1
theorem dX10_wordOf_44 : decode cX10_wordOf 44 = .ok (.if_icmp .ne 7, 3) := da9_dX10_wordOf_27.2.2.2.2.2.2.2.2.2.1
theorem dX10_wordOf_47 : decode cX10_wordOf 47 = .ok (.iconst 1, 1) := da9_dX10_wordOf_27.2.2.2.2.2.2.2.2.2.2.1
theorem dX10_wordOf_48 : decode cX10_wordOf 48 = .ok (.goto 4, 3) := da9_dX10_wordOf_27.2.2.2.2.2.2.2.2.2.2.2.1
theorem dX10_wordOf_51 : decode cX10_wordOf 51 = .ok (.iconst 0, 1) := da9_dX10_wordOf_27.2.2.2.2.2.2.2.2.2.2.2.2.1
theorem dX10_wordOf_52 : decode cX10_wordOf 52 = .ok (.istore 6, 2) := da9_dX10_wordOf_27.2.2.2.2.2.2.2.2.2.2.2.2.2.1
theorem dX10_wordOf_54 : decode cX10_wordOf 54 = .ok (.iconst 0, 1) := da9_dX10_wordOf_27.2.2.2.2.2.2.2.2.2.2.2.2.2.2.1
theorem dX10_wordOf_55 : decode cX10_wordOf 55 = .ok (.istore 7, 2) := da9_dX10_wordOf_27.2.2.2.2.2.2.2.2.2.2.2.2.2.2.2
theorem da9_dX10_wordOf_57 : (decode cX10_wordOf 57 = .ok (.iload 7, 2)) ∧ (decode cX10_wordOf 59 = .ok (.iload 5, 2)) ∧ (decode cX10_wordOf 61 = .ok (.if_icmp .ge 43, 3)) ∧ (decode cX10_wordOf 64 = .ok (.iload 6, 2)) ∧ (decode cX10_wordOf 66 = .ok (.ifCond .eq 38, 3)) ∧ (decode cX10_wordOf 69 = .ok (.aload_n 0, 1)) ∧ (decode cX10_wordOf 70 = .ok (.getfield 41, 3)) ∧ (decode cX10_wordOf 73 = .ok (.iload 4, 2)) ∧ (decode cX10_wordOf 75 = .ok (.iload 7, 2)) ∧ (decode cX10_wordOf 77 = .ok (.iadd, 1)) ∧ (decode cX10_wordOf 78 = .ok (.baload, 1)) ∧ (decode cX10_wordOf 79 = .ok (.aload_n 0, 1)) ∧ (decode cX10_wordOf 80 = .ok (.getfield 45, 3)) ∧ (decode cX10_wordOf 83 = .ok (.iload_n 1, 1)) ∧ (decode cX10_wordOf 84 = .ok (.iload 7, 2)) ∧ (decode cX10_wordOf 86 = .ok (.iadd, 1)) := by decide +kernel
theorem dX10_wordOf_57 : decode cX10_wordOf 57 = .ok (.iload 7, 2) := da9_dX10_wordOf_57.1
theorem dX10_wordOf_59 : decode cX10_wordOf 59 = .ok (.iload 5, 2) := da9_dX10_wordOf_57.2.1
theorem dX10_wordOf_61 : decode cX10_wordOf 61 = .ok (.if_icmp .ge 43, 3) := da9_dX10_wordOf_57.2.2.1
theorem dX10_wordOf_64 : decode cX10_wordOf 64 = .ok (.iload 6, 2) := da9_dX10_wordOf_57.2.2.2.1
theorem dX10_wordOf_66 : decode cX10_wordOf 66 = .ok (.ifCond .eq 38, 3) := da9_dX10_wordOf_57.2.2.2.2.1
theorem dX10_wordOf_69 : decode cX10_wordOf 69 = .ok (.aload_n 0, 1) := da9_dX10_wordOf_57.2.2.2.2.2.1
theorem dX10_wordOf_70 : decode cX10_wordOf 70 = .ok (.getfield 41, 3) := da9_dX10_wordOf_57.2.2.2.2.2.2.1
theorem dX10_wordOf_73 : decode cX10_wordOf 73 = .ok (.iload 4, 2) := da9_dX10_wordOf_57.2.2.2.2.2.2.2.1
theorem dX10_wordOf_75 : decode cX10_wordOf 75 = .ok (.iload 7, 2) := da9_dX10_wordOf_57.2.2.2.2.2.2.2.2.1
theorem dX10_wordOf_77 : decode cX10_wordOf 77 = .ok (.iadd, 1) := da9_dX10_wordOf_57.2.2.2.2.2.2.2.2.2.1
theorem dX10_wordOf_78 : decode cX10_wordOf 78 = .ok (.baload, 1) := da9_dX10_wordOf_57.2.2.2.2.2.2.2.2.2.2.1
theorem dX10_wordOf_79 : decode cX10_wordOf 79 = .ok (.aload_n 0, 1) := da9_dX10_wordOf_57.2.2.2.2.2.2.2.2.2.2.2.1
theorem dX10_wordOf_80 : decode cX10_wordOf 80 = .ok (.getfield 45, 3) := da9_dX10_wordOf_57.2.2.2.2.2.2.2.2.2.2.2.2.1
theorem dX10_wordOf_83 : decode cX10_wordOf 83 = .ok (.iload_n 1, 1) := da9_dX10_wordOf_57.2.2.2.2.2.2.2.2.2.2.2.2.2.1
theorem dX10_wordOf_84 : decode cX10_wordOf 84 = .ok (.iload 7, 2) := da9_dX10_wordOf_57.2.2.2.2.2.2.2.2.2.2.2.2.2.2.1
theorem dX10_wordOf_86 : decode cX10_wordOf 86 = .ok (.iadd, 1) := da9_dX10_wordOf_57.2.2.2.2.2.2.2.2.2.2.2.2.2.2.2
theorem da9_dX10_wordOf_87 : (decode cX10_wordOf 87 = .ok (.baload, 1)) ∧ (decode cX10_wordOf 88 = .ok (.if_icmp .ne 7, 3)) ∧ (decode cX10_wordOf 91 = .ok (.iconst 1, 1)) ∧ (decode cX10_wordOf 92 = .ok (.goto 4, 3)) ∧ (decode cX10_wordOf 95 = .ok (.iconst 0, 1)) ∧ (decode cX10_wordOf 96 = .ok (.istore 6, 2)) ∧ (decode cX10_wordOf 98 = .ok (.iinc 7 1, 3)) ∧ (decode cX10_wordOf 101 = .ok (.goto (-44), 3)) ∧ (decode cX10_wordOf 104 = .ok (.iload 6, 2)) ∧ (decode cX10_wordOf 106 = .ok (.ifCond .eq 5, 3)) ∧ (decode cX10_wordOf 109 = .ok (.iload_n 3, 1)) ∧ (decode cX10_wordOf 110 = .ok (.ireturn, 1)) ∧ (decode cX10_wordOf 111 = .ok (.iload 4, 2)) ∧ (decode cX10_wordOf 113 = .ok (.iload 5, 2)) ∧ (decode cX10_wordOf 115 = .ok (.iconst 1, 1)) ∧ (decode cX10_wordOf 116 = .ok (.iadd, 1)) := by decide +kernel
theorem dX10_wordOf_87 : decode cX10_wordOf 87 = .ok (.baload, 1) := da9_dX10_wordOf_87.1
theorem dX10_wordOf_88 : decode cX10_wordOf 88 = .ok (.if_icmp .ne 7, 3) := da9_dX10_wordOf_87.2.1
theorem dX10_wordOf_91 : decode cX10_wordOf 91 = .ok (.iconst 1, 1) := da9_dX10_wordOf_87.2.2.1
theorem dX10_wordOf_92 : decode cX10_wordOf 92 = .ok (.goto 4, 3) := da9_dX10_wordOf_87.2.2.2.1
theorem dX10_wordOf_95 : decode cX10_wordOf 95 = .ok (.iconst 0, 1) := da9_dX10_wordOf_87.2.2.2.2.1
theorem dX10_wordOf_96 : decode cX10_wordOf 96 = .ok (.istore 6, 2) := da9_dX10_wordOf_87.2.2.2.2.2.1
theorem dX10_wordOf_98 : decode cX10_wordOf 98 = .ok (.iinc 7 1, 3) := da9_dX10_wordOf_87.2.2.2.2.2.2.1
theorem dX10_wordOf_101 : decode cX10_wordOf 101 = .ok (.goto (-44), 3) := da9_dX10_wordOf_87.2.2.2.2.2.2.2.1
theorem dX10_wordOf_104 : decode cX10_wordOf 104 = .ok (.iload 6, 2) := da9_dX10_wordOf_87.2.2.2.2.2.2.2.2.1
theorem dX10_wordOf_106 : decode cX10_wordOf 106 = .ok (.ifCond .eq 5, 3) := da9_dX10_wordOf_87.2.2.2.2.2.2.2.2.2.1
theorem dX10_wordOf_109 : decode cX10_wordOf 109 = .ok (.iload_n 3, 1) := da9_dX10_wordOf_87.2.2.2.2.2.2.2.2.2.2.1
theorem dX10_wordOf_110 : decode cX10_wordOf 110 = .ok (.ireturn, 1) := da9_dX10_wordOf_87.2.2.2.2.2.2.2.2.2.2.2.1
theorem dX10_wordOf_111 : decode cX10_wordOf 111 = .ok (.iload 4, 2) := da9_dX10_wordOf_87.2.2.2.2.2.2.2.2.2.2.2.2.1
theorem dX10_wordOf_113 : decode cX10_wordOf 113 = .ok (.iload 5, 2) := da9_dX10_wordOf_87.2.2.2.2.2.2.2.2.2.2.2.2.2.1
theorem dX10_wordOf_115 : decode cX10_wordOf 115 = .ok (.iconst 1, 1) := da9_dX10_wordOf_87.2.2.2.2.2.2.2.2.2.2.2.2.2.2.1
theorem dX10_wordOf_116 : decode cX10_wordOf 116 = .ok (.iadd, 1) := da9_dX10_wordOf_87.2.2.2.2.2.2.2.2.2.2.2.2.2.2.2
theorem da9_dX10_wordOf_117 : (decode cX10_wordOf 117 = .ok (.iadd, 1)) ∧ (decode cX10_wordOf 118 = .ok (.istore 4, 2)) ∧ (decode cX10_wordOf 120 = .ok (.iinc 3 1, 3)) ∧ (decode cX10_wordOf 123 = .ok (.goto (-118), 3)) ∧ (decode cX10_wordOf 126 = .ok (.iconst 0, 1)) ∧ (decode cX10_wordOf 127 = .ok (.ireturn, 1)) := by decide +kernel
theorem dX10_wordOf_117 : decode cX10_wordOf 117 = .ok (.iadd, 1) := da9_dX10_wordOf_117.1
theorem dX10_wordOf_118 : decode cX10_wordOf 118 = .ok (.istore 4, 2) := da9_dX10_wordOf_117.2.1
theorem dX10_wordOf_120 : decode cX10_wordOf 120 = .ok (.iinc 3 1, 3) := da9_dX10_wordOf_117.2.2.1
theorem dX10_wordOf_123 : decode cX10_wordOf 123 = .ok (.goto (-118), 3) := da9_dX10_wordOf_117.2.2.2.1
theorem dX10_wordOf_126 : decode cX10_wordOf 126 = .ok (.iconst 0, 1) := da9_dX10_wordOf_117.2.2.2.2.1
theorem dX10_wordOf_127 : decode cX10_wordOf 127 = .ok (.ireturn, 1) := da9_dX10_wordOf_117.2.2.2.2.2
end
section
theorem u9_wsX10_row_X10 : ∀ w ∈ u_ws RX10 TX10 56, w ∈ wsX10_row := fun w h => List.mem_cons_of_mem _ (vW10_wsX100 w h)
theorem f9_wsX10_row_81 : (Cond.fieldLink RX10 172 "TurnedFloorsModel" "bricks0" "I") ∈ wsX10_row := List.mem_cons_of_mem _ mvW10_148
theorem f9_wsX10_row_82 : (Cond.fieldLink RX10 45 "TurnedFloorsModel" "tape" "[B") ∈ wsX10_row := List.mem_cons_of_mem _ mvW10_147
theorem f9_wsX10_row_83 : (Cond.fieldLink RX10 169 "TurnedFloorsModel" "taped" "I") ∈ wsX10_row := List.mem_cons_of_mem _ mvW10_145
theorem u9_wsX10_bricks_X10 : ∀ w ∈ u_ws RX10 TX10 56, w ∈ wsX10_bricks := fun w h => List.mem_cons_of_mem _ (vW10_wsX100 w h)
theorem f9_wsX10_bricks_85 : (Cond.fieldLink RX10 172 "TurnedFloorsModel" "bricks0" "I") ∈ wsX10_bricks := List.mem_cons_of_mem _ mvW10_148
theorem u9_wsX10_feed_X10 : ∀ w ∈ u_ws RX10 TX10 56, w ∈ wsX10_feed := fun w h => List.mem_cons_of_mem _ (vW10_wsX100 w h)
theorem f9_wsX10_feed_87 : (Cond.fieldLink RX10 169 "TurnedFloorsModel" "taped" "I") ∈ wsX10_feed := List.mem_cons_of_mem _ mvW10_145
theorem f9_wsX10_feed_88 : (Cond.fieldLink RX10 45 "TurnedFloorsModel" "tape" "[B") ∈ wsX10_feed := List.mem_cons_of_mem _ mvW10_147
theorem f9_wsX10_feed_89 : (Cond.fieldLink RX10 48 "TurnedFloorsModel" "five" "[I") ∈ wsX10_feed := List.mem_cons_of_mem _ mvW10_146
theorem u9_wsX10_end_X10 : ∀ w ∈ u_ws RX10 TX10 56, w ∈ wsX10_end := fun w h => List.mem_cons_of_mem _ (vW10_wsX100 w h)
theorem f9_wsX10_end_91 : (Cond.fieldLink RX10 169 "TurnedFloorsModel" "taped" "I") ∈ wsX10_end := List.mem_cons_of_mem _ mvW10_145
theorem u9_wsX10_wordOf_X10 : ∀ w ∈ u_ws RX10 TX10 56, w ∈ wsX10_wordOf := fun w h => List.mem_cons_of_mem _ (vW10_wsX100 w h)
theorem f9_wsX10_wordOf_93 : (Cond.fieldLink RX10 41 "TurnedFloorsModel" "words" "[B") ∈ wsX10_wordOf := List.mem_cons_of_mem _ mvW10_183
theorem f9_wsX10_wordOf_94 : (Cond.fieldLink RX10 45 "TurnedFloorsModel" "tape" "[B") ∈ wsX10_wordOf := List.mem_cons_of_mem _ mvW10_147
set_option maxHeartbeats 4000000 in
set_option maxRecDepth 100000 in
theorem WX10_row_146 {p : Program} {l : Launch} {e : Env} {s : State} {m : MethodId} {args : Array Value} {below : List Frame} {meth : Method} {c : Code} {D : va_G} {ty : Nat → ClassId} {eo : Nat → Nat} {A : Nat → Prop} {ad : Nat → Nat} {o1 : Int32} {o2 : dS} (C : dc_C p s m args meth c cX10_row (some .int) 5 RX10 wsX10_row D ty eo A) {k32 : dS → Int32 → Int32 → Int32 → Option (Int32 × dS)} (hk32 : ∀ (q : dS) (x1 : Int32) (x2 : Int32) (x3 : Int32) (H : Heap) (locs : List Loc) (ls : Array Slot), k32 q x1 x2 x3 = some (o1, o2) → va_P D vwCl (w10 ty ad q) H → va_D A (w10 ty ad q) → va_S A s.heap H locs → lv_has ls 5 [(0, .ref (ad 0)), (1, .int x1), (2, .int x2), (3, .int x3)] → W p l e ({ frames := 2, cells := 0, slots := 0, locals := 43 } : Room) s m args below meth c H locs 0 0 (MQ below (va_Qi (fun (r : Int32) (u : va_W) => o1 = r ∧ w10 ty ad o2 = u) (kz_B D ty A) A) args s 0 0 A) (F0 m 32 ls [])) (q : dS) (x1 : Int32) (x2 : Int32) (x3 : Int32) (y0 : Int32) (y1 : Int32) (H : Heap) (locs : List Loc) (ls : Array Slot) (h : zX10_row_146 k32 q x1 x2 x3 y0 y1 = some (o1, o2)) (hP : va_P D vwCl (w10 ty ad q) H) (hD : va_D A (w10 ty ad q)) (hS : va_S A s.heap H locs) (hl : lv_has ls 5 [(0, .ref (ad 0)), (1, .int x1), (2, .int x2), (3, .int x3)]) : W p l e ({ frames := 2, cells := 0, slots := 0, locals := 43 } : Room) s m args below meth c H locs 0 0 (MQ below (va_Qi (fun (r : Int32) (u : va_W) => o1 = r ∧ w10 ty ad o2 = u) (kz_B D ty A) A) args s 0 0 A) (F0 m 146 ls [.int y0, .int y1, .ref (ad 0)]) := by
  have C0 := C
  obtain ⟨hx, hb, hr, hts, hown, hlocks, hml, hK, hN, hE, hA⟩ := C
  unfold zX10_row_146 at h
  refine lv_iadd hx hb dX10_row_146 ?_
  refine va_put (D := D) (ci := 10) (v := .int (y1 + y0)) (ty := .int) (C := RX10) (T := TX10) (N := 56) hx hb hts u9_wsX10_row_X10 tyX10 tyX10_ok nmX10 hown hK hP hD hS 0 rfl rfl 6 (by decide) (hts (.fieldLink RX10 172 "TurnedFloorsModel" "bricks0" "I") f9_wsX10_row_81) (fun _ h9 => h9) rfl (by decide +kernel) rfl rfl (Nat.le_of_ble_eq_true rfl) dX10_row_147 (fun H locs hp hd hs => ?_)
  obtain ⟨q1, eq1, h⟩ := dL_some h
  refine kz_re (w2 := w10 ty ad q1) hp hd hs (by rw [← eq1]; exact w10_f6 ty ad q (y1 + y0)) ?_
  clear hp hd hs hP hD hS
  intro hP hD hS
  refine lv_iinc (v := x3 + 2) (lv' := [(3, .int (x3 + 2)), (0, .ref (ad 0)), (1, .int x1), (2, .int x2)]) hx hb dX10_row_150 hl (k := 3) rfl rfl (by decide) rfl (fun ls hl => ?_)
  refine lv_goto (tgt := 32) hx hb dX10_row_153 (by decide) ?_
  exact hk32 _ _ _ _ _ _ _ h hP hD hS (lv_sub hl [1, 2, 3, 0] rfl)
set_option maxHeartbeats 4000000 in
set_option maxRecDepth 100000 in
theorem WX10_row_129 {p : Program} {l : Launch} {e : Env} {s : State} {m : MethodId} {args : Array Value} {below : List Frame} {meth : Method} {c : Code} {D : va_G} {ty : Nat → ClassId} {eo : Nat → Nat} {A : Nat → Prop} {ad : Nat → Nat} {o1 : Int32} {o2 : dS} (C : dc_C p s m args meth c cX10_row (some .int) 5 RX10 wsX10_row D ty eo A) {k32 : dS → Int32 → Int32 → Int32 → Option (Int32 × dS)} (hk32 : ∀ (q : dS) (x1 : Int32) (x2 : Int32) (x3 : Int32) (H : Heap) (locs : List Loc) (ls : Array Slot), k32 q x1 x2 x3 = some (o1, o2) → va_P D vwCl (w10 ty ad q) H → va_D A (w10 ty ad q) → va_S A s.heap H locs → lv_has ls 5 [(0, .ref (ad 0)), (1, .int x1), (2, .int x2), (3, .int x3)] → W p l e ({ frames := 2, cells := 0, slots := 0, locals := 43 } : Room) s m args below meth c H locs 0 0 (MQ below (va_Qi (fun (r : Int32) (u : va_W) => o1 = r ∧ w10 ty ad o2 = u) (kz_B D ty A) A) args s 0 0 A) (F0 m 32 ls [])) (q : dS) (x1 : Int32) (x3 : Int32) (x4 : Int32) (y0 : Int32) (y1 : Int32) (H : Heap) (locs : List Loc) (ls : Array Slot) (h : zX10_row_129 k32 q x1 x3 x4 y0 y1 = some (o1, o2)) (hP : va_P D vwCl (w10 ty ad q) H) (hD : va_D A (w10 ty ad q)) (hS : va_S A s.heap H locs) (hl : lv_has ls 5 [(0, .ref (ad 0)), (1, .int x1), (3, .int x3), (4, .int x4)]) : W p l e ({ frames := 2, cells := 0, slots := 0, locals := 43 } : Room) s m args below meth c H locs 0 0 (MQ below (va_Qi (fun (r : Int32) (u : va_W) => o1 = r ∧ w10 ty ad o2 = u) (kz_B D ty A) A) args s 0 0 A) (F0 m 129 ls [.int y0, .int y1]) := by
  have C0 := C
  obtain ⟨hx, hb, hr, hts, hown, hlocks, hml, hK, hN, hE, hA⟩ := C
  unfold zX10_row_129 at h
  refine lv_iadd hx hb dX10_row_129 ?_
  refine lv_istore_n (lv' := [(2, .int (y1 + y0)), (0, .ref (ad 0)), (1, .int x1), (3, .int x3), (4, .int x4)]) hx hb dX10_row_130 rfl hl (by decide) rfl (fun ls hl => ?_)
  refine lv_aload_n hx hb dX10_row_131 rfl (lv_at hl 1 rfl) ?_
  refine lv_dup hx hb dX10_row_132 rfl ?_
  refine va_get (D := D) (ci := 10) (v := .int (q.1 0 6)) (C := RX10) (T := TX10) (N := 56) hx hb hts u9_wsX10_row_X10 hown hK hP 0 rfl rfl 6 (by decide) (hts (.fieldLink RX10 172 "TurnedFloorsModel" "bricks0" "I") f9_wsX10_row_81) (fun _ h9 => h9) rfl dX10_row_133 ?_
  refine lv_iload hx hb dX10_row_136 (lv_at hl 4 rfl) ?_
  refine lv_if_eq (tgt := 145) hx hb dX10_row_138 (by decide) (fun c9 => ?_) (fun c9 => ?_)
  · rw [if_pos c9] at h
    refine lv_iconst (v := 1) hx hb dX10_row_145 (by decide) ?_
    exact WX10_row_146 C0 hk32 _ _ _ _ _ _ _ _ _ h hP hD hS (lv_sub hl [1, 2, 0, 3] rfl)
  · rw [if_neg c9] at h
    refine lv_iconst (v := 0) hx hb dX10_row_141 (by decide) ?_
    refine lv_goto (tgt := 146) hx hb dX10_row_142 (by decide) ?_
    exact WX10_row_146 C0 hk32 _ _ _ _ _ _ _ _ _ h hP hD hS (lv_sub hl [1, 2, 0, 3] rfl)
set_option maxHeartbeats 4000000 in
set_option maxRecDepth 100000 in
theorem WX10_row_118 {p : Program} {l : Launch} {e : Env} {s : State} {m : MethodId} {args : Array Value} {below : List Frame} {meth : Method} {c : Code} {D : va_G} {ty : Nat → ClassId} {eo : Nat → Nat} {A : Nat → Prop} {ad : Nat → Nat} {o1 : Int32} {o2 : dS} (C : dc_C p s m args meth c cX10_row (some .int) 5 RX10 wsX10_row D ty eo A) {k32 : dS → Int32 → Int32 → Int32 → Option (Int32 × dS)} (hk32 : ∀ (q : dS) (x1 : Int32) (x2 : Int32) (x3 : Int32) (H : Heap) (locs : List Loc) (ls : Array Slot), k32 q x1 x2 x3 = some (o1, o2) → va_P D vwCl (w10 ty ad q) H → va_D A (w10 ty ad q) → va_S A s.heap H locs → lv_has ls 5 [(0, .ref (ad 0)), (1, .int x1), (2, .int x2), (3, .int x3)] → W p l e ({ frames := 2, cells := 0, slots := 0, locals := 43 } : Room) s m args below meth c H locs 0 0 (MQ below (va_Qi (fun (r : Int32) (u : va_W) => o1 = r ∧ w10 ty ad o2 = u) (kz_B D ty A) A) args s 0 0 A) (F0 m 32 ls [])) (q : dS) (x1 : Int32) (x2 : Int32) (x3 : Int32) (x4 : Int32) (H : Heap) (locs : List Loc) (ls : Array Slot) (h : zX10_row_118 k32 q x1 x2 x3 x4 = some (o1, o2)) (hP : va_P D vwCl (w10 ty ad q) H) (hD : va_D A (w10 ty ad q)) (hS : va_S A s.heap H locs) (hl : lv_has ls 5 [(0, .ref (ad 0)), (1, .int x1), (2, .int x2), (3, .int x3), (4, .int x4)]) : W p l e ({ frames := 2, cells := 0, slots := 0, locals := 43 } : Room) s m args below meth c H locs 0 0 (MQ below (va_Qi (fun (r : Int32) (u : va_W) => o1 = r ∧ w10 ty ad o2 = u) (kz_B D ty A) A) args s 0 0 A) (F0 m 118 ls []) := by
  have C0 := C
  obtain ⟨hx, hb, hr, hts, hown, hlocks, hml, hK, hN, hE, hA⟩ := C
  unfold zX10_row_118 at h
  refine lv_iload_n hx hb dX10_row_118 rfl (lv_at hl 2 rfl) ?_
  refine lv_iload hx hb dX10_row_119 (lv_at hl 4 rfl) ?_
  refine lv_if_eq (tgt := 128) hx hb dX10_row_121 (by decide) (fun c9 => ?_) (fun c9 => ?_)
  · rw [if_pos c9] at h
    refine lv_iconst (v := 0) hx hb dX10_row_128 (by decide) ?_
    exact WX10_row_129 C0 hk32 _ _ _ _ _ _ _ _ _ h hP hD hS (lv_sub hl [0, 1, 3, 4] rfl)
  · rw [if_neg c9] at h
    refine lv_iconst (v := 1) hx hb dX10_row_124 (by decide) ?_
    refine lv_goto (tgt := 129) hx hb dX10_row_125 (by decide) ?_
    exact WX10_row_129 C0 hk32 _ _ _ _ _ _ _ _ _ h hP hD hS (lv_sub hl [0, 1, 3, 4] rfl)
set_option maxHeartbeats 4000000 in
set_option maxRecDepth 100000 in
theorem WX10_row_93 {p : Program} {l : Launch} {e : Env} {s : State} {m : MethodId} {args : Array Value} {below : List Frame} {meth : Method} {c : Code} {D : va_G} {ty : Nat → ClassId} {eo : Nat → Nat} {A : Nat → Prop} {ad : Nat → Nat} {o1 : Int32} {o2 : dS} (C : dc_C p s m args meth c cX10_row (some .int) 5 RX10 wsX10_row D ty eo A) {k32 : dS → Int32 → Int32 → Int32 → Option (Int32 × dS)} (hk32 : ∀ (q : dS) (x1 : Int32) (x2 : Int32) (x3 : Int32) (H : Heap) (locs : List Loc) (ls : Array Slot), k32 q x1 x2 x3 = some (o1, o2) → va_P D vwCl (w10 ty ad q) H → va_D A (w10 ty ad q) → va_S A s.heap H locs → lv_has ls 5 [(0, .ref (ad 0)), (1, .int x1), (2, .int x2), (3, .int x3)] → W p l e ({ frames := 2, cells := 0, slots := 0, locals := 43 } : Room) s m args below meth c H locs 0 0 (MQ below (va_Qi (fun (r : Int32) (u : va_W) => o1 = r ∧ w10 ty ad o2 = u) (kz_B D ty A) A) args s 0 0 A) (F0 m 32 ls [])) (q : dS) (x1 : Int32) (x2 : Int32) (x3 : Int32) (y0 : Int32) (H : Heap) (locs : List Loc) (ls : Array Slot) (h : zX10_row_93 k32 q x1 x2 x3 y0 = some (o1, o2)) (hP : va_P D vwCl (w10 ty ad q) H) (hD : va_D A (w10 ty ad q)) (hS : va_S A s.heap H locs) (hl : lv_has ls 5 [(0, .ref (ad 0)), (1, .int x1), (2, .int x2), (3, .int x3)]) : W p l e ({ frames := 2, cells := 0, slots := 0, locals := 43 } : Room) s m args below meth c H locs 0 0 (MQ below (va_Qi (fun (r : Int32) (u : va_W) => o1 = r ∧ w10 ty ad o2 = u) (kz_B D ty A) A) args s 0 0 A) (F0 m 93 ls [.int y0]) := by
  have C0 := C
  obtain ⟨hx, hb, hr, hts, hown, hlocks, hml, hK, hN, hE, hA⟩ := C
  unfold zX10_row_93 at h
  refine lv_istore (lv' := [(4, .int y0), (0, .ref (ad 0)), (1, .int x1), (2, .int x2), (3, .int x3)]) hx hb dX10_row_93 hl (by decide) rfl (fun ls hl => ?_)
  refine lv_iload hx hb dX10_row_95 (lv_at hl 0 rfl) ?_
  refine lv_if_eq (tgt := 118) hx hb dX10_row_97 (by decide) (fun c9 => ?_) (fun c9 => ?_)
  · rw [if_pos c9] at h
    exact WX10_row_118 C0 hk32 _ _ _ _ _ _ _ _ h hP hD hS (lv_sub hl [1, 2, 3, 4, 0] rfl)
  · rw [if_neg c9] at h
    refine lv_aload_n hx hb dX10_row_100 rfl (lv_at hl 1 rfl) ?_
    refine lv_aload_n hx hb dX10_row_101 rfl (lv_at hl 1 rfl) ?_
    refine va_get (D := D) (ci := 10) (v := .ref (ad 7)) (C := RX10) (T := TX10) (N := 56) hx hb hts u9_wsX10_row_X10 hown hK hP 0 rfl rfl 11 (by decide) (hts (.fieldLink RX10 45 "TurnedFloorsModel" "tape" "[B") f9_wsX10_row_82) (fun _ h9 => h9) rfl dX10_row_102 ?_
    refine lv_iload_n hx hb dX10_row_105 rfl (lv_at hl 4 rfl) ?_
    obtain ⟨g1, h⟩ := dG_some h
    refine va_bald hx hb hK hP 7 3 rfl rfl (dg_in g1) dX10_row_106 ?_
    obtain ⟨v2, ev2, h⟩ := dL_some h
    refine kz_topi v2 ev2 ?_
    refine lv_aload_n hx hb dX10_row_107 rfl (lv_at hl 1 rfl) ?_
    refine va_get (D := D) (ci := 10) (v := .ref (ad 7)) (C := RX10) (T := TX10) (N := 56) hx hb hts u9_wsX10_row_X10 hown hK hP 0 rfl rfl 11 (by decide) (hts (.fieldLink RX10 45 "TurnedFloorsModel" "tape" "[B") f9_wsX10_row_82) (fun _ h9 => h9) rfl dX10_row_108 ?_
    refine lv_iload_n hx hb dX10_row_111 rfl (lv_at hl 4 rfl) ?_
    refine lv_iconst (v := 1) hx hb dX10_row_112 (by decide) ?_
    refine lv_iadd hx hb dX10_row_113 ?_
    obtain ⟨g3, h⟩ := dG_some h
    refine va_bald hx hb hK hP 7 3 rfl rfl (dg_in g3) dX10_row_114 ?_
    obtain ⟨v4, ev4, h⟩ := dL_some h
    refine kz_topi v4 ev4 ?_
    obtain ⟨q7, h6, h⟩ := dV_some h
    refine dw_kv (va_runV (As := [.int v2, .int v4]) (rest := []) ⟨hx, hb, hml, hown, hts⟩ (qX10_adds l D ty eo _ ad q v2 v4 q7 h6) (cwV 2 hts gX10_row_X10_adds rfl rfl rfl hd_X10_adds_v ⟨Nat.le_of_ble_eq_true rfl, Nat.le_of_ble_eq_true rfl⟩) (pv10_10_0 hK hN hE hP hD hS hA) rfl rfl hl.1 rfl (lv_room (Nat.le_of_ble_eq_true rfl)) dX10_row_115 ⟨Nat.le_of_ble_eq_true rfl, Nat.le_of_ble_eq_true rfl⟩) hD hS hA (fun u9 H locs hw hp hd hs => ?_)
    clear hP hD hS
    obtain rfl := hw
    have hP := hp; have hD := hd; have hS := hs; clear hp hd hs
    exact WX10_row_118 C0 hk32 _ _ _ _ _ _ _ _ h hP hD hS (lv_sub hl [1, 2, 3, 4, 0] rfl)
set_option maxHeartbeats 4000000 in
set_option maxRecDepth 100000 in
theorem WX10_row_92 {p : Program} {l : Launch} {e : Env} {s : State} {m : MethodId} {args : Array Value} {below : List Frame} {meth : Method} {c : Code} {D : va_G} {ty : Nat → ClassId} {eo : Nat → Nat} {A : Nat → Prop} {ad : Nat → Nat} {o1 : Int32} {o2 : dS} (C : dc_C p s m args meth c cX10_row (some .int) 5 RX10 wsX10_row D ty eo A) {k32 : dS → Int32 → Int32 → Int32 → Option (Int32 × dS)} (hk32 : ∀ (q : dS) (x1 : Int32) (x2 : Int32) (x3 : Int32) (H : Heap) (locs : List Loc) (ls : Array Slot), k32 q x1 x2 x3 = some (o1, o2) → va_P D vwCl (w10 ty ad q) H → va_D A (w10 ty ad q) → va_S A s.heap H locs → lv_has ls 5 [(0, .ref (ad 0)), (1, .int x1), (2, .int x2), (3, .int x3)] → W p l e ({ frames := 2, cells := 0, slots := 0, locals := 43 } : Room) s m args below meth c H locs 0 0 (MQ below (va_Qi (fun (r : Int32) (u : va_W) => o1 = r ∧ w10 ty ad o2 = u) (kz_B D ty A) A) args s 0 0 A) (F0 m 32 ls [])) (q : dS) (x1 : Int32) (x2 : Int32) (x3 : Int32) (H : Heap) (locs : List Loc) (ls : Array Slot) (h : zX10_row_92 k32 q x1 x2 x3 = some (o1, o2)) (hP : va_P D vwCl (w10 ty ad q) H) (hD : va_D A (w10 ty ad q)) (hS : va_S A s.heap H locs) (hl : lv_has ls 5 [(0, .ref (ad 0)), (1, .int x1), (2, .int x2), (3, .int x3)]) : W p l e ({ frames := 2, cells := 0, slots := 0, locals := 43 } : Room) s m args below meth c H locs 0 0 (MQ below (va_Qi (fun (r : Int32) (u : va_W) => o1 = r ∧ w10 ty ad o2 = u) (kz_B D ty A) A) args s 0 0 A) (F0 m 92 ls []) := by
  have C0 := C
  obtain ⟨hx, hb, hr, hts, hown, hlocks, hml, hK, hN, hE, hA⟩ := C
  unfold zX10_row_92 at h
  refine lv_iconst (v := 0) hx hb dX10_row_92 (by decide) ?_
  exact WX10_row_93 C0 hk32 _ _ _ _ _ _ _ _ h hP hD hS (lv_sub hl [0, 1, 2, 3] rfl)
set_option maxHeartbeats 4000000 in
set_option maxRecDepth 100000 in
theorem WX10_row_32b {p : Program} {l : Launch} {e : Env} {s : State} {m : MethodId} {args : Array Value} {below : List Frame} {meth : Method} {c : Code} {D : va_G} {ty : Nat → ClassId} {eo : Nat → Nat} {A : Nat → Prop} {ad : Nat → Nat} {o1 : Int32} {o2 : dS} (C : dc_C p s m args meth c cX10_row (some .int) 5 RX10 wsX10_row D ty eo A) {k32 : dS → Int32 → Int32 → Int32 → Option (Int32 × dS)} (hk32 : ∀ (q : dS) (x1 : Int32) (x2 : Int32) (x3 : Int32) (H : Heap) (locs : List Loc) (ls : Array Slot), k32 q x1 x2 x3 = some (o1, o2) → va_P D vwCl (w10 ty ad q) H → va_D A (w10 ty ad q) → va_S A s.heap H locs → lv_has ls 5 [(0, .ref (ad 0)), (1, .int x1), (2, .int x2), (3, .int x3)] → W p l e ({ frames := 2, cells := 0, slots := 0, locals := 43 } : Room) s m args below meth c H locs 0 0 (MQ below (va_Qi (fun (r : Int32) (u : va_W) => o1 = r ∧ w10 ty ad o2 = u) (kz_B D ty A) A) args s 0 0 A) (F0 m 32 ls [])) (q : dS) (x1 : Int32) (x2 : Int32) (x3 : Int32) (H : Heap) (locs : List Loc) (ls : Array Slot) (h : zX10_row_32b k32 q x1 x2 x3 = some (o1, o2)) (hP : va_P D vwCl (w10 ty ad q) H) (hD : va_D A (w10 ty ad q)) (hS : va_S A s.heap H locs) (hl : lv_has ls 5 [(0, .ref (ad 0)), (1, .int x1), (2, .int x2), (3, .int x3)]) : W p l e ({ frames := 2, cells := 0, slots := 0, locals := 43 } : Room) s m args below meth c H locs 0 0 (MQ below (va_Qi (fun (r : Int32) (u : va_W) => o1 = r ∧ w10 ty ad o2 = u) (kz_B D ty A) A) args s 0 0 A) (F0 m 32 ls []) := by
  have C0 := C
  obtain ⟨hx, hb, hr, hts, hown, hlocks, hml, hK, hN, hE, hA⟩ := C
  unfold zX10_row_32b at h
  refine lv_iload_n hx hb dX10_row_32 rfl (lv_at hl 3 rfl) ?_
  refine lv_iconst (v := 2) hx hb dX10_row_33 (by decide) ?_
  refine lv_iadd hx hb dX10_row_34 ?_
  refine lv_iload_n hx hb dX10_row_35 rfl (lv_at hl 1 rfl) ?_
  refine lv_icmp_gt (tgt := 156) hx hb dX10_row_36 (by decide) (fun c9 => ?_) (fun c9 => ?_)
  · rw [if_pos c9] at h
    refine lv_aload_n hx hb dX10_row_156 rfl (lv_at hl 0 rfl) ?_
    refine lv_iload_n hx hb dX10_row_157 rfl (lv_at hl 2 rfl) ?_
    obtain ⟨r1, q3, h2, h⟩ := dB_some h
    refine dw_ki (va_runV (As := [.int x2]) (rest := []) ⟨hx, hb, hml, hown, hts⟩ (qX10_settled l D ty eo _ ad q x2 r1 q3 h2) (cwV 1 hts gX10_row_X10_settled rfl rfl rfl hd_X10_settled_v ⟨Nat.le_of_ble_eq_true rfl, Nat.le_of_ble_eq_true rfl⟩) (pv10_10_0 hK hN hE hP hD hS hA) rfl rfl hl.1 rfl (lv_room (Nat.le_of_ble_eq_true rfl)) dX10_row_158 ⟨Nat.le_of_ble_eq_true rfl, Nat.le_of_ble_eq_true rfl⟩) hD hS hA (fun r9 u9 H locs hw hp hd hs => ?_)
    clear hP hD hS
    obtain ⟨rfl, rfl⟩ := hw
    have hP := hp; have hD := hd; have hS := hs; clear hp hd hs
    cases h
    exact kz_iret hx hb hr hlocks hP hK hD hS dX10_row_161 ⟨rfl, rfl⟩
  · rw [if_neg c9] at h
    refine lv_aload_n hx hb dX10_row_39 rfl (lv_at hl 0 rfl) ?_
    obtain ⟨r4, q6, h5, h⟩ := dB_some h
    refine dw_ki (va_runV (As := []) (rest := []) ⟨hx, hb, hml, hown, hts⟩ (qX10_size l D ty eo _ ad q  r4 q6 h5) (cwV 0 hts gX10_row_X10_size rfl rfl rfl hd_X10_size_v ⟨Nat.le_of_ble_eq_true rfl, Nat.le_of_ble_eq_true rfl⟩) (pv10_10_0 hK hN hE hP hD hS hA) rfl rfl hl.1 rfl (lv_room (Nat.le_of_ble_eq_true rfl)) dX10_row_40 ⟨Nat.le_of_ble_eq_true rfl, Nat.le_of_ble_eq_true rfl⟩) hD hS hA (fun r9 u9 H locs hw hp hd hs => ?_)
    clear hP hD hS
    obtain ⟨rfl, rfl⟩ := hw
    have hP := hp; have hD := hd; have hS := hs; clear hp hd hs
    refine lv_bipush (v := 6) hx hb dX10_row_43 (by decide) ?_
    refine lv_icmp_ge (tgt := 92) hx hb dX10_row_45 (by decide) (fun c9 => ?_) (fun c9 => ?_)
    · rw [if_pos c9] at h
      exact WX10_row_92 C0 hk32 _ _ _ _ _ _ _ h hP hD hS (lv_sub hl [0, 1, 2, 3] rfl)
    · rw [if_neg c9] at h
      refine lv_aload_n hx hb dX10_row_48 rfl (lv_at hl 0 rfl) ?_
      refine va_get (D := D) (ci := 10) (v := .ref (ad 7)) (C := RX10) (T := TX10) (N := 56) hx hb hts u9_wsX10_row_X10 hown hK hP 0 rfl rfl 11 (by decide) (hts (.fieldLink RX10 45 "TurnedFloorsModel" "tape" "[B") f9_wsX10_row_82) (fun _ h9 => h9) rfl dX10_row_49 ?_
      refine lv_iload_n hx hb dX10_row_52 rfl (lv_at hl 3 rfl) ?_
      obtain ⟨g7, h⟩ := dG_some h
      refine va_bald hx hb hK hP 7 3 rfl rfl (dg_in g7) dX10_row_53 ?_
      obtain ⟨v8, ev8, h⟩ := dL_some h
      refine kz_topi v8 ev8 ?_
      obtain ⟨r9, h10, h⟩ := dV_some h
      refine dw_ks (va_runS (As := [.int v8]) (rest := []) ⟨hx, hb, hml, hown, hts⟩ (qX10_isRank l D ty eo _ v8 _ h10) (va_cwS 1 hts gX10_row_X10_isRank rfl rfl rfl hd_X10_isRank ⟨Nat.le_of_ble_eq_true rfl, Nat.le_of_ble_eq_true rfl⟩) (pvS_0 hK hN hE hP hD hS hA) rfl rfl hl.1 rfl (lv_room (Nat.le_of_ble_eq_true rfl)) dX10_row_54 ⟨Nat.le_of_ble_eq_true rfl, Nat.le_of_ble_eq_true rfl⟩) hP hD hS hA (fun _ _ h9 => h9.2.symm) (fun r9 u9 H locs hw hp hd hs => ?_)
      obtain ⟨rfl, -⟩ := hw
      clear hP hD hS
      have hP := hp; have hD := hd; have hS := hs; clear hp hd hs
      refine lv_if_eq (tgt := 92) hx hb dX10_row_57 (by decide) (fun c9 => ?_) (fun c9 => ?_)
      · rw [if_pos c9] at h
        exact WX10_row_92 C0 hk32 _ _ _ _ _ _ _ h hP hD hS (lv_sub hl [0, 1, 2, 3] rfl)
      · rw [if_neg c9] at h
        refine lv_aload_n hx hb dX10_row_60 rfl (lv_at hl 0 rfl) ?_
        refine va_get (D := D) (ci := 10) (v := .ref (ad 7)) (C := RX10) (T := TX10) (N := 56) hx hb hts u9_wsX10_row_X10 hown hK hP 0 rfl rfl 11 (by decide) (hts (.fieldLink RX10 45 "TurnedFloorsModel" "tape" "[B") f9_wsX10_row_82) (fun _ h9 => h9) rfl dX10_row_61 ?_
        refine lv_iload_n hx hb dX10_row_64 rfl (lv_at hl 3 rfl) ?_
        refine lv_iconst (v := 1) hx hb dX10_row_65 (by decide) ?_
        refine lv_iadd hx hb dX10_row_66 ?_
        obtain ⟨g11, h⟩ := dG_some h
        refine va_bald hx hb hK hP 7 3 rfl rfl (dg_in g11) dX10_row_67 ?_
        obtain ⟨v12, ev12, h⟩ := dL_some h
        refine kz_topi v12 ev12 ?_
        obtain ⟨r13, h14, h⟩ := dV_some h
        refine dw_ks (va_runS (As := [.int v12]) (rest := []) ⟨hx, hb, hml, hown, hts⟩ (qX10_isBit l D ty eo _ v12 _ h14) (va_cwS 1 hts gX10_row_X10_isBit rfl rfl rfl hd_X10_isBit ⟨Nat.le_of_ble_eq_true rfl, Nat.le_of_ble_eq_true rfl⟩) (pvS_0 hK hN hE hP hD hS hA) rfl rfl hl.1 rfl (lv_room (Nat.le_of_ble_eq_true rfl)) dX10_row_68 ⟨Nat.le_of_ble_eq_true rfl, Nat.le_of_ble_eq_true rfl⟩) hP hD hS hA (fun _ _ h9 => h9.2.symm) (fun r9 u9 H locs hw hp hd hs => ?_)
        obtain ⟨rfl, -⟩ := hw
        clear hP hD hS
        have hP := hp; have hD := hd; have hS := hs; clear hp hd hs
        refine lv_if_eq (tgt := 92) hx hb dX10_row_71 (by decide) (fun c9 => ?_) (fun c9 => ?_)
        · rw [if_pos c9] at h
          exact WX10_row_92 C0 hk32 _ _ _ _ _ _ _ h hP hD hS (lv_sub hl [0, 1, 2, 3] rfl)
        · rw [if_neg c9] at h
          refine lv_aload_n hx hb dX10_row_74 rfl (lv_at hl 0 rfl) ?_
          refine lv_aload_n hx hb dX10_row_75 rfl (lv_at hl 0 rfl) ?_
          refine va_get (D := D) (ci := 10) (v := .ref (ad 7)) (C := RX10) (T := TX10) (N := 56) hx hb hts u9_wsX10_row_X10 hown hK hP 0 rfl rfl 11 (by decide) (hts (.fieldLink RX10 45 "TurnedFloorsModel" "tape" "[B") f9_wsX10_row_82) (fun _ h9 => h9) rfl dX10_row_76 ?_
          refine lv_iload_n hx hb dX10_row_79 rfl (lv_at hl 3 rfl) ?_
          obtain ⟨g15, h⟩ := dG_some h
          refine va_bald hx hb hK hP 7 3 rfl rfl (dg_in g15) dX10_row_80 ?_
          obtain ⟨v16, ev16, h⟩ := dL_some h
          refine kz_topi v16 ev16 ?_
          obtain ⟨r17, q19, h18, h⟩ := dB_some h
          refine dw_ki (va_runV (As := [.int v16]) (rest := []) ⟨hx, hb, hml, hown, hts⟩ (qX10_placeOf l D ty eo _ ad q6 v16 r17 q19 h18) (cwV 1 hts gX10_row_X10_placeOf rfl rfl rfl hd_X10_placeOf_v ⟨Nat.le_of_ble_eq_true rfl, Nat.le_of_ble_eq_true rfl⟩) (pv10_10_0 hK hN hE hP hD hS hA) rfl rfl hl.1 rfl (lv_room (Nat.le_of_ble_eq_true rfl)) dX10_row_81 ⟨Nat.le_of_ble_eq_true rfl, Nat.le_of_ble_eq_true rfl⟩) hD hS hA (fun r9 u9 H locs hw hp hd hs => ?_)
          clear hP hD hS
          obtain ⟨rfl, rfl⟩ := hw
          have hP := hp; have hD := hd; have hS := hs; clear hp hd hs
          refine lv_iconst (v := (-1)) hx hb dX10_row_84 (by decide) ?_
          refine lv_icmp_ne (tgt := 92) hx hb dX10_row_85 (by decide) (fun c9 => ?_) (fun c9 => ?_)
          · rw [if_neg c9] at h
            exact WX10_row_92 C0 hk32 _ _ _ _ _ _ _ h hP hD hS (lv_sub hl [0, 1, 2, 3] rfl)
          · rw [if_pos c9] at h
            refine lv_iconst (v := 1) hx hb dX10_row_88 (by decide) ?_
            refine lv_goto (tgt := 93) hx hb dX10_row_89 (by decide) ?_
            exact WX10_row_93 C0 hk32 _ _ _ _ _ _ _ _ h hP hD hS (lv_sub hl [0, 1, 2, 3] rfl)
set_option maxHeartbeats 4000000 in
set_option maxRecDepth 100000 in
theorem WX10_row_32 {p : Program} {l : Launch} {e : Env} {s : State} {m : MethodId} {args : Array Value} {below : List Frame} {meth : Method} {c : Code} {D : va_G} {ty : Nat → ClassId} {eo : Nat → Nat} {A : Nat → Prop} {ad : Nat → Nat} {o1 : Int32} {o2 : dS} (C : dc_C p s m args meth c cX10_row (some .int) 5 RX10 wsX10_row D ty eo A)   (n : Nat) (q : dS) (x1 : Int32) (x2 : Int32) (x3 : Int32) (H : Heap) (locs : List Loc) (ls : Array Slot) (h : zX10_row_32  n q x1 x2 x3 = some (o1, o2)) (hP : va_P D vwCl (w10 ty ad q) H) (hD : va_D A (w10 ty ad q)) (hS : va_S A s.heap H locs) (hl : lv_has ls 5 [(0, .ref (ad 0)), (1, .int x1), (2, .int x2), (3, .int x3)]) : W p l e ({ frames := 2, cells := 0, slots := 0, locals := 43 } : Room) s m args below meth c H locs 0 0 (MQ below (va_Qi (fun (r : Int32) (u : va_W) => o1 = r ∧ w10 ty ad o2 = u) (kz_B D ty A) A) args s 0 0 A) (F0 m 32 ls []) := by
  exact dFix_W (F := fun k (a : dS × Int32 × Int32 × Int32) => zX10_row_32b  (fun q x1 x2 x3 => k (q, x1, x2, x3)) a.1 a.2.1 a.2.2.1 a.2.2.2) (o := (o1, o2)) (P := fun (a : dS × Int32 × Int32 × Int32) H locs ls => va_P D vwCl (w10 ty ad a.1) H ∧ va_D A (w10 ty ad a.1) ∧ va_S A s.heap H locs ∧ lv_has ls 5 [(0, .ref (ad 0)), (1, .int a.2.1), (2, .int a.2.2.1), (3, .int a.2.2.2)]) (G := fun H locs ls => W p l e ({ frames := 2, cells := 0, slots := 0, locals := 43 } : Room) s m args below meth c H locs 0 0 (MQ below (va_Qi (fun (r : Int32) (u : va_W) => o1 = r ∧ w10 ty ad o2 = u) (kz_B D ty A) A) args s 0 0 A) (F0 m 32 ls []))
    (fun k hk a H locs ls h hp => WX10_row_32b C  (fun q x1 x2 x3 H locs ls h h1 h2 h3 h4 => hk (q, x1, x2, x3) H locs ls h ⟨h1, h2, h3, h4⟩) a.1 a.2.1 a.2.2.1 a.2.2.2 H locs ls h hp.1 hp.2.1 hp.2.2.1 hp.2.2.2) n (q, x1, x2, x3) H locs ls h ⟨hP, hD, hS, hl⟩
set_option maxHeartbeats 4000000 in
set_option maxRecDepth 100000 in
theorem qX10_row (l : Launch) (D : va_G) (ty : Nat → ClassId) (eo : Nat → Nat) (sz : Nat) (ad : Nat → Nat) (q : dS)  (o1 : Int32) (o2 : dS) (h : zX10_row q = some (o1, o2)) : Met l yX10_row wsX10_row ({ frames := 2, cells := 0, slots := 0, locals := 43 } : Room) (va_Pc [.ref (ad 0)] (kz_pre D ty eo (w10 ty ad q) sz)) (va_Qi (fun (r : Int32) (u : va_W) => o1 = r ∧ w10 ty ad o2 = u) (kz_B D ty (va_A (w10 ty ad q) sz)) (va_A (w10 ty ad q) sz)) 0 0 (va_A (w10 ty ad q) sz) := by
  refine Met.ofW (cc := cX10_row) (maxL := 5) (ret := (some .int)) (by decide) rfl ?_
  intro p e s m args below meth c s₁ B hml hv
  obtain ⟨rfl, hsz, hP, hK, hD0, hN, hE⟩ := hv
  have hx := B.exec
  have hb := B.bytes
  have hr := B.returns
  have hts := atoms_spec (ws := wsX10_row) B.pre
  have hown : s.vm.findClass RX10 = some m.cls := findClass_of_methodNamed B.named
  have hlocks := B.notSynchronized
  subst hsz
  have hD := hD0.self (sz := s.heap.size)
  generalize hAe : va_A (w10 ty ad q) s.heap.size = A at hD hE ⊢
  have hA : ∀ q : Nat, s.heap.size ≤ q → A q := fun q h => by rw [← hAe]; exact Or.inr h
  clear hAe
  have hS : va_S A s.heap s.heap [] := va_S.rf
  have hl := lv_entry ([.ref (ad 0)]) (n := 5) (Nat.le_of_ble_eq_true rfl)
  rw [lg_entry_eq]
  generalize (lg_sl ([.ref (ad 0)]) ++ List.replicate (5 - (lg_sl ([.ref (ad 0)])).length) Slot.unset).toArray = ls at hl ⊢
  have hl : lv_has ls 5 [(0, .ref (ad 0))] := hl
  have C : dc_C p s m _ meth c cX10_row (some .int) 5 RX10 wsX10_row D ty eo A := ⟨hx, hb, hr, hts, hown, hlocks, hml, hK, hN, hE, hA⟩
  unfold zX10_row at h
  refine lv_aload_n hx hb dX10_row_0 rfl (lv_at hl 0 rfl) ?_
  refine va_get (D := D) (ci := 10) (v := .int (q.1 0 13)) (C := RX10) (T := TX10) (N := 56) hx hb hts u9_wsX10_row_X10 hown hK hP 0 rfl rfl 13 (by decide) (hts (.fieldLink RX10 169 "TurnedFloorsModel" "taped" "I") f9_wsX10_row_83) (fun _ h9 => h9) rfl dX10_row_1 ?_
  refine lv_istore_n (lv' := [(1, .int (q.1 0 13)), (0, .ref (ad 0))]) hx hb dX10_row_4 rfl hl (by decide) rfl (fun ls hl => ?_)
  refine lv_aload_n hx hb dX10_row_5 rfl (lv_at hl 1 rfl) ?_
  refine lv_iconst (v := 0) hx hb dX10_row_6 (by decide) ?_
  refine va_put (D := D) (ci := 10) (v := .int 0) (ty := .int) (C := RX10) (T := TX10) (N := 56) hx hb hts u9_wsX10_row_X10 tyX10 tyX10_ok nmX10 hown hK hP hD hS 0 rfl rfl 13 (by decide) (hts (.fieldLink RX10 169 "TurnedFloorsModel" "taped" "I") f9_wsX10_row_83) (fun _ h9 => h9) rfl (by decide +kernel) rfl rfl (Nat.le_of_ble_eq_true rfl) dX10_row_7 (fun H locs hp hd hs => ?_)
  obtain ⟨q1, eq1, h⟩ := dL_some h
  refine kz_re (w2 := w10 ty ad q1) hp hd hs (by rw [← eq1]; exact w10_f13 ty ad q 0) ?_
  clear hp hd hs hP hD hS
  intro hP hD hS
  refine lv_iload_n hx hb dX10_row_10 rfl (lv_at hl 0 rfl) ?_
  refine lv_if_ne (tgt := 21) hx hb dX10_row_11 (by decide) (fun c9 => ?_) (fun c9 => ?_)
  · rw [if_neg c9] at h
    refine lv_iconst (v := 0) hx hb dX10_row_21 (by decide) ?_
    refine lv_istore_n (lv' := [(2, .int 0), (1, .int (q.1 0 13)), (0, .ref (ad 0))]) hx hb dX10_row_22 rfl hl (by decide) rfl (fun ls hl => ?_)
    refine lv_aload_n hx hb dX10_row_23 rfl (lv_at hl 2 rfl) ?_
    refine lv_iload_n hx hb dX10_row_24 rfl (lv_at hl 1 rfl) ?_
    refine lv_iconst (v := 2) hx hb dX10_row_25 (by decide) ?_
    refine lv_irem hx hb dX10_row_26 (by decide) ?_
    refine va_put (D := D) (ci := 10) (v := .int ((q.1 0 13) - (q.1 0 13) / 2 * 2 : Int32)) (ty := .int) (C := RX10) (T := TX10) (N := 56) hx hb hts u9_wsX10_row_X10 tyX10 tyX10_ok nmX10 hown hK hP hD hS 0 rfl rfl 6 (by decide) (hts (.fieldLink RX10 172 "TurnedFloorsModel" "bricks0" "I") f9_wsX10_row_81) (fun _ h9 => h9) rfl (by decide +kernel) rfl rfl (Nat.le_of_ble_eq_true rfl) dX10_row_27 (fun H locs hp hd hs => ?_)
    obtain ⟨q2, eq2, h⟩ := dL_some h
    refine kz_re (w2 := w10 ty ad q2) hp hd hs (by rw [← eq2]; exact w10_f6 ty ad q1 ((q.1 0 13) - (q.1 0 13) / 2 * 2 : Int32)) ?_
    clear hp hd hs hP hD hS
    intro hP hD hS
    refine lv_iconst (v := 0) hx hb dX10_row_30 (by decide) ?_
    refine lv_istore_n (lv' := [(3, .int 0), (2, .int 0), (1, .int (q.1 0 13)), (0, .ref (ad 0))]) hx hb dX10_row_31 rfl hl (by decide) rfl (fun ls hl => ?_)
    exact WX10_row_32 C  _ _ _ _ _ _ _ _ h hP hD hS (lv_sub hl [3, 2, 1, 0] rfl)
  · rw [if_pos c9] at h
    refine lv_aload_n hx hb dX10_row_14 rfl (lv_at hl 1 rfl) ?_
    refine lv_bipush (v := (-6)) hx hb dX10_row_15 (by decide) ?_
    obtain ⟨r3, q5, h4, h⟩ := dB_some h
    refine dw_ki (va_runV (As := [.int (-6)]) (rest := []) ⟨hx, hb, hml, hown, hts⟩ (qX10_refuses l D ty eo _ ad q1 (-6) r3 q5 h4) (cwV 1 hts gX10_row_X10_refuses rfl rfl rfl hd_X10_refuses_v ⟨Nat.le_of_ble_eq_true rfl, Nat.le_of_ble_eq_true rfl⟩) (pv10_10_0 hK hN hE hP hD hS hA) rfl rfl hl.1 rfl (lv_room (Nat.le_of_ble_eq_true rfl)) dX10_row_17 ⟨Nat.le_of_ble_eq_true rfl, Nat.le_of_ble_eq_true rfl⟩) hD hS hA (fun r9 u9 H locs hw hp hd hs => ?_)
    clear hP hD hS
    obtain ⟨rfl, rfl⟩ := hw
    have hP := hp; have hD := hd; have hS := hs; clear hp hd hs
    cases h
    exact kz_iret hx hb hr hlocks hP hK hD hS dX10_row_20 ⟨rfl, rfl⟩

set_option maxHeartbeats 4000000 in
set_option maxRecDepth 100000 in
theorem qX10_bricks (l : Launch) (D : va_G) (ty : Nat → ClassId) (eo : Nat → Nat) (sz : Nat) (ad : Nat → Nat) (q : dS)  (o1 : Int32) (o2 : dS) (h : zX10_bricks q = some (o1, o2)) : Met l yX10_bricks wsX10_bricks ({ frames := 0, cells := 0, slots := 0, locals := 0 } : Room) (va_Pc [.ref (ad 0)] (kz_pre D ty eo (w10 ty ad q) sz)) (va_Qi (fun (r : Int32) (u : va_W) => o1 = r ∧ w10 ty ad o2 = u) (kz_B D ty (va_A (w10 ty ad q) sz)) (va_A (w10 ty ad q) sz)) 0 0 (va_A (w10 ty ad q) sz) := by
  refine Met.ofW (cc := cX10_bricks) (maxL := 1) (ret := (some .int)) (by decide) rfl ?_
  intro p e s m args below meth c s₁ B hml hv
  obtain ⟨rfl, hsz, hP, hK, hD0, hN, hE⟩ := hv
  have hx := B.exec
  have hb := B.bytes
  have hr := B.returns
  have hts := atoms_spec (ws := wsX10_bricks) B.pre
  have hown : s.vm.findClass RX10 = some m.cls := findClass_of_methodNamed B.named
  have hlocks := B.notSynchronized
  subst hsz
  have hD := hD0.self (sz := s.heap.size)
  generalize hAe : va_A (w10 ty ad q) s.heap.size = A at hD hE ⊢
  have hA : ∀ q : Nat, s.heap.size ≤ q → A q := fun q h => by rw [← hAe]; exact Or.inr h
  clear hAe
  have hS : va_S A s.heap s.heap [] := va_S.rf
  have hl := lv_entry ([.ref (ad 0)]) (n := 1) (Nat.le_of_ble_eq_true rfl)
  rw [lg_entry_eq]
  generalize (lg_sl ([.ref (ad 0)]) ++ List.replicate (1 - (lg_sl ([.ref (ad 0)])).length) Slot.unset).toArray = ls at hl ⊢
  have hl : lv_has ls 1 [(0, .ref (ad 0))] := hl
  have C : dc_C p s m _ meth c cX10_bricks (some .int) 1 RX10 wsX10_bricks D ty eo A := ⟨hx, hb, hr, hts, hown, hlocks, hml, hK, hN, hE, hA⟩
  unfold zX10_bricks at h
  refine lv_aload_n hx hb dX10_bricks_0 rfl (lv_at hl 0 rfl) ?_
  refine va_get (D := D) (ci := 10) (v := .int (q.1 0 6)) (C := RX10) (T := TX10) (N := 56) hx hb hts u9_wsX10_bricks_X10 hown hK hP 0 rfl rfl 6 (by decide) (hts (.fieldLink RX10 172 "TurnedFloorsModel" "bricks0" "I") f9_wsX10_bricks_85) (fun _ h9 => h9) rfl dX10_bricks_1 ?_
  cases h
  exact kz_iret hx hb hr hlocks hP hK hD hS dX10_bricks_4 ⟨rfl, rfl⟩

set_option maxHeartbeats 4000000 in
set_option maxRecDepth 100000 in
theorem WX10_feed_55b {p : Program} {l : Launch} {e : Env} {s : State} {m : MethodId} {args : Array Value} {below : List Frame} {meth : Method} {c : Code} {D : va_G} {ty : Nat → ClassId} {eo : Nat → Nat} {A : Nat → Prop} {ad : Nat → Nat} {o1 : Int32} {o2 : dS} (C : dc_C p s m args meth c cX10_feed (some .int) 7 RX10 wsX10_feed D ty eo A) {k55 : dS → Int32 → Option (Int32 × dS)} (hk55 : ∀ (q : dS) (x6 : Int32) (H : Heap) (locs : List Loc) (ls : Array Slot), k55 q x6 = some (o1, o2) → va_P D vwCl (w10 ty ad q) H → va_D A (w10 ty ad q) → va_S A s.heap H locs → lv_has ls 7 [(0, .ref (ad 0)), (6, .int x6)] → W p l e ({ frames := 0, cells := 0, slots := 0, locals := 0 } : Room) s m args below meth c H locs 0 0 (MQ below (va_Qi (fun (r : Int32) (u : va_W) => o1 = r ∧ w10 ty ad o2 = u) (kz_B D ty A) A) args s 0 0 A) (F0 m 55 ls [])) (q : dS) (x6 : Int32) (H : Heap) (locs : List Loc) (ls : Array Slot) (h : zX10_feed_55b k55 q x6 = some (o1, o2)) (hP : va_P D vwCl (w10 ty ad q) H) (hD : va_D A (w10 ty ad q)) (hS : va_S A s.heap H locs) (hl : lv_has ls 7 [(0, .ref (ad 0)), (6, .int x6)]) : W p l e ({ frames := 0, cells := 0, slots := 0, locals := 0 } : Room) s m args below meth c H locs 0 0 (MQ below (va_Qi (fun (r : Int32) (u : va_W) => o1 = r ∧ w10 ty ad o2 = u) (kz_B D ty A) A) args s 0 0 A) (F0 m 55 ls []) := by
  have C0 := C
  obtain ⟨hx, hb, hr, hts, hown, hlocks, hml, hK, hN, hE, hA⟩ := C
  unfold zX10_feed_55b at h
  refine lv_iload hx hb dX10_feed_55 (lv_at hl 1 rfl) ?_
  refine lv_bipush (v := 20) hx hb dX10_feed_57 (by decide) ?_
  refine lv_icmp_ge (tgt := 101) hx hb dX10_feed_59 (by decide) (fun c9 => ?_) (fun c9 => ?_)
  · rw [if_pos c9] at h
    refine lv_aload_n hx hb dX10_feed_101 rfl (lv_at hl 0 rfl) ?_
    refine lv_dup hx hb dX10_feed_102 rfl ?_
    refine va_get (D := D) (ci := 10) (v := .int (q.1 0 13)) (C := RX10) (T := TX10) (N := 56) hx hb hts u9_wsX10_feed_X10 hown hK hP 0 rfl rfl 13 (by decide) (hts (.fieldLink RX10 169 "TurnedFloorsModel" "taped" "I") f9_wsX10_feed_87) (fun _ h9 => h9) rfl dX10_feed_103 ?_
    refine lv_bipush (v := 20) hx hb dX10_feed_106 (by decide) ?_
    refine lv_iadd hx hb dX10_feed_108 ?_
    refine va_put (D := D) (ci := 10) (v := .int ((q.1 0 13) + 20 : Int32)) (ty := .int) (C := RX10) (T := TX10) (N := 56) hx hb hts u9_wsX10_feed_X10 tyX10 tyX10_ok nmX10 hown hK hP hD hS 0 rfl rfl 13 (by decide) (hts (.fieldLink RX10 169 "TurnedFloorsModel" "taped" "I") f9_wsX10_feed_87) (fun _ h9 => h9) rfl (by decide +kernel) rfl rfl (Nat.le_of_ble_eq_true rfl) dX10_feed_109 (fun H locs hp hd hs => ?_)
    obtain ⟨q1, eq1, h⟩ := dL_some h
    refine kz_re (w2 := w10 ty ad q1) hp hd hs (by rw [← eq1]; exact w10_f13 ty ad q ((q.1 0 13) + 20 : Int32)) ?_
    clear hp hd hs hP hD hS
    intro hP hD hS
    refine lv_aload_n hx hb dX10_feed_112 rfl (lv_at hl 0 rfl) ?_
    refine va_get (D := D) (ci := 10) (v := .int (q1.1 0 13)) (C := RX10) (T := TX10) (N := 56) hx hb hts u9_wsX10_feed_X10 hown hK hP 0 rfl rfl 13 (by decide) (hts (.fieldLink RX10 169 "TurnedFloorsModel" "taped" "I") f9_wsX10_feed_87) (fun _ h9 => h9) rfl dX10_feed_113 ?_
    cases h
    exact kz_iret hx hb hr hlocks hP hK hD hS dX10_feed_116 ⟨rfl, rfl⟩
  · rw [if_neg c9] at h
    refine lv_aload_n hx hb dX10_feed_62 rfl (lv_at hl 0 rfl) ?_
    refine va_get (D := D) (ci := 10) (v := .ref (ad 7)) (C := RX10) (T := TX10) (N := 56) hx hb hts u9_wsX10_feed_X10 hown hK hP 0 rfl rfl 11 (by decide) (hts (.fieldLink RX10 45 "TurnedFloorsModel" "tape" "[B") f9_wsX10_feed_88) (fun _ h9 => h9) rfl dX10_feed_63 ?_
    refine lv_aload_n hx hb dX10_feed_66 rfl (lv_at hl 0 rfl) ?_
    refine va_get (D := D) (ci := 10) (v := .int (q.1 0 13)) (C := RX10) (T := TX10) (N := 56) hx hb hts u9_wsX10_feed_X10 hown hK hP 0 rfl rfl 13 (by decide) (hts (.fieldLink RX10 169 "TurnedFloorsModel" "taped" "I") f9_wsX10_feed_87) (fun _ h9 => h9) rfl dX10_feed_67 ?_
    refine lv_iload hx hb dX10_feed_70 (lv_at hl 1 rfl) ?_
    refine lv_iadd hx hb dX10_feed_72 ?_
    refine lv_aload_n hx hb dX10_feed_73 rfl (lv_at hl 0 rfl) ?_
    refine va_get (D := D) (ci := 10) (v := .ref (ad 8)) (C := RX10) (T := TX10) (N := 56) hx hb hts u9_wsX10_feed_X10 hown hK hP 0 rfl rfl 12 (by decide) (hts (.fieldLink RX10 48 "TurnedFloorsModel" "five" "[I") f9_wsX10_feed_89) (fun _ h9 => h9) rfl dX10_feed_74 ?_
    refine lv_iload hx hb dX10_feed_77 (lv_at hl 1 rfl) ?_
    refine lv_iconst (v := 4) hx hb dX10_feed_79 (by decide) ?_
    refine lv_idiv hx hb dX10_feed_80 (by decide) ?_
    obtain ⟨g2, h⟩ := dG_some h
    refine va_iald hx hb hK hP 8 0 rfl rfl (dg_in g2) dX10_feed_81 ?_
    obtain ⟨v3, ev3, h⟩ := dL_some h
    refine kz_topi v3 ev3 ?_
    refine lv_bipush (v := 24) hx hb dX10_feed_82 (by decide) ?_
    refine lv_bipush (v := 8) hx hb dX10_feed_84 (by decide) ?_
    refine lv_iload hx hb dX10_feed_86 (lv_at hl 1 rfl) ?_
    refine lv_iconst (v := 4) hx hb dX10_feed_88 (by decide) ?_
    refine lv_irem hx hb dX10_feed_89 (by decide) ?_
    refine lv_imul hx hb dX10_feed_90 ?_
    refine lv_isub hx hb dX10_feed_91 ?_
    refine lv_ishr hx hb dX10_feed_92 ?_
    obtain ⟨v4, ev4, h⟩ := dL_some h
    refine kz_topi v4 ev4 ?_
    refine lv_i2b (v := (Int32.toInt8 v4).toInt32) hx hb dX10_feed_93 rfl ?_
    obtain ⟨g5, h⟩ := dG_some h
    refine va_bast hx hb hK hP hD hS 7 3 rfl rfl (dg_in g5) dX10_feed_94 (fun H locs hp hd hs => ?_)
    obtain ⟨q6, eq6, h⟩ := dL_some h
    refine kz_re (w2 := w10 ty ad q6) hp hd hs (by rw [← eq6]; exact w10_a7 ty ad q (Int32.toNatClampNeg ((q.1 0 13) + x6)) (vp_nar .byte ((Int32.toInt8 v4).toInt32))) ?_
    clear hp hd hs hP hD hS
    intro hP hD hS
    refine lv_iinc (v := x6 + 1) (lv' := [(6, .int (x6 + 1)), (0, .ref (ad 0))]) hx hb dX10_feed_95 hl (k := 1) rfl rfl (by decide) rfl (fun ls hl => ?_)
    refine lv_goto (tgt := 55) hx hb dX10_feed_98 (by decide) ?_
    exact hk55 _ _ _ _ _ h hP hD hS (lv_sub hl [1, 0] rfl)
set_option maxHeartbeats 4000000 in
set_option maxRecDepth 100000 in
theorem WX10_feed_55 {p : Program} {l : Launch} {e : Env} {s : State} {m : MethodId} {args : Array Value} {below : List Frame} {meth : Method} {c : Code} {D : va_G} {ty : Nat → ClassId} {eo : Nat → Nat} {A : Nat → Prop} {ad : Nat → Nat} {o1 : Int32} {o2 : dS} (C : dc_C p s m args meth c cX10_feed (some .int) 7 RX10 wsX10_feed D ty eo A)   (n : Nat) (q : dS) (x6 : Int32) (H : Heap) (locs : List Loc) (ls : Array Slot) (h : zX10_feed_55  n q x6 = some (o1, o2)) (hP : va_P D vwCl (w10 ty ad q) H) (hD : va_D A (w10 ty ad q)) (hS : va_S A s.heap H locs) (hl : lv_has ls 7 [(0, .ref (ad 0)), (6, .int x6)]) : W p l e ({ frames := 0, cells := 0, slots := 0, locals := 0 } : Room) s m args below meth c H locs 0 0 (MQ below (va_Qi (fun (r : Int32) (u : va_W) => o1 = r ∧ w10 ty ad o2 = u) (kz_B D ty A) A) args s 0 0 A) (F0 m 55 ls []) := by
  exact dFix_W (F := fun k (a : dS × Int32) => zX10_feed_55b  (fun q x6 => k (q, x6)) a.1 a.2) (o := (o1, o2)) (P := fun (a : dS × Int32) H locs ls => va_P D vwCl (w10 ty ad a.1) H ∧ va_D A (w10 ty ad a.1) ∧ va_S A s.heap H locs ∧ lv_has ls 7 [(0, .ref (ad 0)), (6, .int a.2)]) (G := fun H locs ls => W p l e ({ frames := 0, cells := 0, slots := 0, locals := 0 } : Room) s m args below meth c H locs 0 0 (MQ below (va_Qi (fun (r : Int32) (u : va_W) => o1 = r ∧ w10 ty ad o2 = u) (kz_B D ty A) A) args s 0 0 A) (F0 m 55 ls []))
    (fun k hk a H locs ls h hp => WX10_feed_55b C  (fun q x6 H locs ls h h1 h2 h3 h4 => hk (q, x6) H locs ls h ⟨h1, h2, h3, h4⟩) a.1 a.2 H locs ls h hp.1 hp.2.1 hp.2.2.1 hp.2.2.2) n (q, x6) H locs ls h ⟨hP, hD, hS, hl⟩
set_option maxHeartbeats 4000000 in
set_option maxRecDepth 100000 in
theorem qX10_feed (l : Launch) (D : va_G) (ty : Nat → ClassId) (eo : Nat → Nat) (sz : Nat) (ad : Nat → Nat) (q : dS) (p1 : Int32) (p2 : Int32) (p3 : Int32) (p4 : Int32) (p5 : Int32) (o1 : Int32) (o2 : dS) (h : zX10_feed q p1 p2 p3 p4 p5 = some (o1, o2)) : Met l yX10_feed wsX10_feed ({ frames := 0, cells := 0, slots := 0, locals := 0 } : Room) (va_Pc [.ref (ad 0), .int p1, .int p2, .int p3, .int p4, .int p5] (kz_pre D ty eo (w10 ty ad q) sz)) (va_Qi (fun (r : Int32) (u : va_W) => o1 = r ∧ w10 ty ad o2 = u) (kz_B D ty (va_A (w10 ty ad q) sz)) (va_A (w10 ty ad q) sz)) 0 0 (va_A (w10 ty ad q) sz) := by
  refine Met.ofW (cc := cX10_feed) (maxL := 7) (ret := (some .int)) (by decide) rfl ?_
  intro p e s m args below meth c s₁ B hml hv
  obtain ⟨rfl, hsz, hP, hK, hD0, hN, hE⟩ := hv
  have hx := B.exec
  have hb := B.bytes
  have hr := B.returns
  have hts := atoms_spec (ws := wsX10_feed) B.pre
  have hown : s.vm.findClass RX10 = some m.cls := findClass_of_methodNamed B.named
  have hlocks := B.notSynchronized
  subst hsz
  have hD := hD0.self (sz := s.heap.size)
  generalize hAe : va_A (w10 ty ad q) s.heap.size = A at hD hE ⊢
  have hA : ∀ q : Nat, s.heap.size ≤ q → A q := fun q h => by rw [← hAe]; exact Or.inr h
  clear hAe
  have hS : va_S A s.heap s.heap [] := va_S.rf
  have hl := lv_entry ([.ref (ad 0), .int p1, .int p2, .int p3, .int p4, .int p5]) (n := 7) (Nat.le_of_ble_eq_true rfl)
  rw [lg_entry_eq]
  generalize (lg_sl ([.ref (ad 0), .int p1, .int p2, .int p3, .int p4, .int p5]) ++ List.replicate (7 - (lg_sl ([.ref (ad 0), .int p1, .int p2, .int p3, .int p4, .int p5])).length) Slot.unset).toArray = ls at hl ⊢
  have hl : lv_has ls 7 [(0, .ref (ad 0)), (1, .int p1), (2, .int p2), (3, .int p3), (4, .int p4), (5, .int p5)] := hl
  have C : dc_C p s m _ meth c cX10_feed (some .int) 7 RX10 wsX10_feed D ty eo A := ⟨hx, hb, hr, hts, hown, hlocks, hml, hK, hN, hE, hA⟩
  unfold zX10_feed at h
  refine lv_aload_n hx hb dX10_feed_0 rfl (lv_at hl 0 rfl) ?_
  refine va_get (D := D) (ci := 10) (v := .int (q.1 0 13)) (C := RX10) (T := TX10) (N := 56) hx hb hts u9_wsX10_feed_X10 hown hK hP 0 rfl rfl 13 (by decide) (hts (.fieldLink RX10 169 "TurnedFloorsModel" "taped" "I") f9_wsX10_feed_87) (fun _ h9 => h9) rfl dX10_feed_1 ?_
  refine lv_bipush (v := 20) hx hb dX10_feed_4 (by decide) ?_
  refine lv_iadd hx hb dX10_feed_6 ?_
  refine lv_sipush (v := 400) hx hb dX10_feed_7 (by decide) ?_
  refine lv_icmp_le (tgt := 15) hx hb dX10_feed_10 (by decide) (fun c9 => ?_) (fun c9 => ?_)
  · rw [if_pos c9] at h
    refine lv_aload_n hx hb dX10_feed_15 rfl (lv_at hl 0 rfl) ?_
    refine va_get (D := D) (ci := 10) (v := .ref (ad 8)) (C := RX10) (T := TX10) (N := 56) hx hb hts u9_wsX10_feed_X10 hown hK hP 0 rfl rfl 12 (by decide) (hts (.fieldLink RX10 48 "TurnedFloorsModel" "five" "[I") f9_wsX10_feed_89) (fun _ h9 => h9) rfl dX10_feed_16 ?_
    refine lv_iconst (v := 0) hx hb dX10_feed_19 (by decide) ?_
    refine lv_iload_n hx hb dX10_feed_20 rfl (lv_at hl 1 rfl) ?_
    refine va_iast hx hb hK hP hD hS 8 0 rfl rfl (by simp only [vp_in]; decide) dX10_feed_21 (fun H locs hp hd hs => ?_)
    obtain ⟨q1, eq1, h⟩ := dL_some h
    refine kz_re (w2 := w10 ty ad q1) hp hd hs (by rw [(by decide +kernel : Int32.toNatClampNeg 0 = 0), ← eq1]; exact w10_a8 ty ad q 0 p1) ?_
    clear hp hd hs hP hD hS
    intro hP hD hS
    refine lv_aload_n hx hb dX10_feed_22 rfl (lv_at hl 0 rfl) ?_
    refine va_get (D := D) (ci := 10) (v := .ref (ad 8)) (C := RX10) (T := TX10) (N := 56) hx hb hts u9_wsX10_feed_X10 hown hK hP 0 rfl rfl 12 (by decide) (hts (.fieldLink RX10 48 "TurnedFloorsModel" "five" "[I") f9_wsX10_feed_89) (fun _ h9 => h9) rfl dX10_feed_23 ?_
    refine lv_iconst (v := 1) hx hb dX10_feed_26 (by decide) ?_
    refine lv_iload_n hx hb dX10_feed_27 rfl (lv_at hl 2 rfl) ?_
    refine va_iast hx hb hK hP hD hS 8 0 rfl rfl (by simp only [vp_in]; decide) dX10_feed_28 (fun H locs hp hd hs => ?_)
    obtain ⟨q2, eq2, h⟩ := dL_some h
    refine kz_re (w2 := w10 ty ad q2) hp hd hs (by rw [(by decide +kernel : Int32.toNatClampNeg 1 = 1), ← eq2]; exact w10_a8 ty ad q1 1 p2) ?_
    clear hp hd hs hP hD hS
    intro hP hD hS
    refine lv_aload_n hx hb dX10_feed_29 rfl (lv_at hl 0 rfl) ?_
    refine va_get (D := D) (ci := 10) (v := .ref (ad 8)) (C := RX10) (T := TX10) (N := 56) hx hb hts u9_wsX10_feed_X10 hown hK hP 0 rfl rfl 12 (by decide) (hts (.fieldLink RX10 48 "TurnedFloorsModel" "five" "[I") f9_wsX10_feed_89) (fun _ h9 => h9) rfl dX10_feed_30 ?_
    refine lv_iconst (v := 2) hx hb dX10_feed_33 (by decide) ?_
    refine lv_iload_n hx hb dX10_feed_34 rfl (lv_at hl 3 rfl) ?_
    refine va_iast hx hb hK hP hD hS 8 0 rfl rfl (by simp only [vp_in]; decide) dX10_feed_35 (fun H locs hp hd hs => ?_)
    obtain ⟨q3, eq3, h⟩ := dL_some h
    refine kz_re (w2 := w10 ty ad q3) hp hd hs (by rw [(by decide +kernel : Int32.toNatClampNeg 2 = 2), ← eq3]; exact w10_a8 ty ad q2 2 p3) ?_
    clear hp hd hs hP hD hS
    intro hP hD hS
    refine lv_aload_n hx hb dX10_feed_36 rfl (lv_at hl 0 rfl) ?_
    refine va_get (D := D) (ci := 10) (v := .ref (ad 8)) (C := RX10) (T := TX10) (N := 56) hx hb hts u9_wsX10_feed_X10 hown hK hP 0 rfl rfl 12 (by decide) (hts (.fieldLink RX10 48 "TurnedFloorsModel" "five" "[I") f9_wsX10_feed_89) (fun _ h9 => h9) rfl dX10_feed_37 ?_
    refine lv_iconst (v := 3) hx hb dX10_feed_40 (by decide) ?_
    refine lv_iload hx hb dX10_feed_41 (lv_at hl 4 rfl) ?_
    refine va_iast hx hb hK hP hD hS 8 0 rfl rfl (by simp only [vp_in]; decide) dX10_feed_43 (fun H locs hp hd hs => ?_)
    obtain ⟨q4, eq4, h⟩ := dL_some h
    refine kz_re (w2 := w10 ty ad q4) hp hd hs (by rw [(by decide +kernel : Int32.toNatClampNeg 3 = 3), ← eq4]; exact w10_a8 ty ad q3 3 p4) ?_
    clear hp hd hs hP hD hS
    intro hP hD hS
    refine lv_aload_n hx hb dX10_feed_44 rfl (lv_at hl 0 rfl) ?_
    refine va_get (D := D) (ci := 10) (v := .ref (ad 8)) (C := RX10) (T := TX10) (N := 56) hx hb hts u9_wsX10_feed_X10 hown hK hP 0 rfl rfl 12 (by decide) (hts (.fieldLink RX10 48 "TurnedFloorsModel" "five" "[I") f9_wsX10_feed_89) (fun _ h9 => h9) rfl dX10_feed_45 ?_
    refine lv_iconst (v := 4) hx hb dX10_feed_48 (by decide) ?_
    refine lv_iload hx hb dX10_feed_49 (lv_at hl 5 rfl) ?_
    refine va_iast hx hb hK hP hD hS 8 0 rfl rfl (by simp only [vp_in]; decide) dX10_feed_51 (fun H locs hp hd hs => ?_)
    obtain ⟨q5, eq5, h⟩ := dL_some h
    refine kz_re (w2 := w10 ty ad q5) hp hd hs (by rw [(by decide +kernel : Int32.toNatClampNeg 4 = 4), ← eq5]; exact w10_a8 ty ad q4 4 p5) ?_
    clear hp hd hs hP hD hS
    intro hP hD hS
    refine lv_iconst (v := 0) hx hb dX10_feed_52 (by decide) ?_
    refine lv_istore (lv' := [(6, .int 0), (0, .ref (ad 0)), (1, .int p1), (2, .int p2), (3, .int p3), (4, .int p4), (5, .int p5)]) hx hb dX10_feed_53 hl (by decide) rfl (fun ls hl => ?_)
    exact WX10_feed_55 C  _ _ _ _ _ _ h hP hD hS (lv_sub hl [1, 0] rfl)
  · rw [if_neg c9] at h
    refine lv_iconst (v := (-1)) hx hb dX10_feed_13 (by decide) ?_
    cases h
    exact kz_iret hx hb hr hlocks hP hK hD hS dX10_feed_14 ⟨rfl, rfl⟩

set_option maxHeartbeats 4000000 in
set_option maxRecDepth 100000 in
theorem qX10_end (l : Launch) (D : va_G) (ty : Nat → ClassId) (eo : Nat → Nat) (sz : Nat) (ad : Nat → Nat) (q : dS) (p1 : Int32) (o1 : Int32) (o2 : dS) (h : zX10_end q p1 = some (o1, o2)) : Met l yX10_end wsX10_end ({ frames := 1, cells := 0, slots := 0, locals := 22 } : Room) (va_Pc [.ref (ad 0), .int p1] (kz_pre D ty eo (w10 ty ad q) sz)) (va_Qi (fun (r : Int32) (u : va_W) => o1 = r ∧ w10 ty ad o2 = u) (kz_B D ty (va_A (w10 ty ad q) sz)) (va_A (w10 ty ad q) sz)) 0 0 (va_A (w10 ty ad q) sz) := by
  refine Met.ofW (cc := cX10_end) (maxL := 2) (ret := (some .int)) (by decide) rfl ?_
  intro p e s m args below meth c s₁ B hml hv
  obtain ⟨rfl, hsz, hP, hK, hD0, hN, hE⟩ := hv
  have hx := B.exec
  have hb := B.bytes
  have hr := B.returns
  have hts := atoms_spec (ws := wsX10_end) B.pre
  have hown : s.vm.findClass RX10 = some m.cls := findClass_of_methodNamed B.named
  have hlocks := B.notSynchronized
  subst hsz
  have hD := hD0.self (sz := s.heap.size)
  generalize hAe : va_A (w10 ty ad q) s.heap.size = A at hD hE ⊢
  have hA : ∀ q : Nat, s.heap.size ≤ q → A q := fun q h => by rw [← hAe]; exact Or.inr h
  clear hAe
  have hS : va_S A s.heap s.heap [] := va_S.rf
  have hl := lv_entry ([.ref (ad 0), .int p1]) (n := 2) (Nat.le_of_ble_eq_true rfl)
  rw [lg_entry_eq]
  generalize (lg_sl ([.ref (ad 0), .int p1]) ++ List.replicate (2 - (lg_sl ([.ref (ad 0), .int p1])).length) Slot.unset).toArray = ls at hl ⊢
  have hl : lv_has ls 2 [(0, .ref (ad 0)), (1, .int p1)] := hl
  have C : dc_C p s m _ meth c cX10_end (some .int) 2 RX10 wsX10_end D ty eo A := ⟨hx, hb, hr, hts, hown, hlocks, hml, hK, hN, hE, hA⟩
  unfold zX10_end at h
  refine lv_iload_n hx hb dX10_end_0 rfl (lv_at hl 1 rfl) ?_
  refine lv_iconst (v := 0) hx hb dX10_end_1 (by decide) ?_
  refine lv_aload_n hx hb dX10_end_2 rfl (lv_at hl 0 rfl) ?_
  refine va_get (D := D) (ci := 10) (v := .int (q.1 0 13)) (C := RX10) (T := TX10) (N := 56) hx hb hts u9_wsX10_end_X10 hown hK hP 0 rfl rfl 13 (by decide) (hts (.fieldLink RX10 169 "TurnedFloorsModel" "taped" "I") f9_wsX10_end_91) (fun _ h9 => h9) rfl dX10_end_3 ?_
  obtain ⟨r1, h2, h⟩ := dV_some h
  refine dw_ks (va_runS (As := [.int p1, .int 0, .int (q.1 0 13)]) (rest := []) ⟨hx, hb, hml, hown, hts⟩ (qX10_lies l D ty eo _ p1 0 (q.1 0 13) _ h2) (va_cwS 3 hts gX10_end_X10_lies rfl rfl rfl hd_X10_lies ⟨Nat.le_of_ble_eq_true rfl, Nat.le_of_ble_eq_true rfl⟩) (pvS_0 hK hN hE hP hD hS hA) rfl rfl hl.1 rfl (lv_room (Nat.le_of_ble_eq_true rfl)) dX10_end_6 ⟨Nat.le_of_ble_eq_true rfl, Nat.le_of_ble_eq_true rfl⟩) hP hD hS hA (fun _ _ h9 => h9.2.symm) (fun r9 u9 H locs hw hp hd hs => ?_)
  obtain ⟨rfl, -⟩ := hw
  clear hP hD hS
  have hP := hp; have hD := hd; have hS := hs; clear hp hd hs
  refine lv_if_ne (tgt := 14) hx hb dX10_end_9 (by decide) (fun c9 => ?_) (fun c9 => ?_)
  · rw [if_neg c9] at h
    refine lv_aload_n hx hb dX10_end_14 rfl (lv_at hl 0 rfl) ?_
    refine lv_iload_n hx hb dX10_end_15 rfl (lv_at hl 1 rfl) ?_
    refine va_put (D := D) (ci := 10) (v := .int p1) (ty := .int) (C := RX10) (T := TX10) (N := 56) hx hb hts u9_wsX10_end_X10 tyX10 tyX10_ok nmX10 hown hK hP hD hS 0 rfl rfl 13 (by decide) (hts (.fieldLink RX10 169 "TurnedFloorsModel" "taped" "I") f9_wsX10_end_91) (fun _ h9 => h9) rfl (by decide +kernel) rfl rfl (Nat.le_of_ble_eq_true rfl) dX10_end_16 (fun H locs hp hd hs => ?_)
    obtain ⟨q3, eq3, h⟩ := dL_some h
    refine kz_re (w2 := w10 ty ad q3) hp hd hs (by rw [← eq3]; exact w10_f13 ty ad q p1) ?_
    clear hp hd hs hP hD hS
    intro hP hD hS
    refine lv_iload_n hx hb dX10_end_19 rfl (lv_at hl 1 rfl) ?_
    cases h
    exact kz_iret hx hb hr hlocks hP hK hD hS dX10_end_20 ⟨rfl, rfl⟩
  · rw [if_pos c9] at h
    refine lv_iconst (v := (-1)) hx hb dX10_end_12 (by decide) ?_
    cases h
    exact kz_iret hx hb hr hlocks hP hK hD hS dX10_end_13 ⟨rfl, rfl⟩

set_option maxHeartbeats 4000000 in
set_option maxRecDepth 100000 in
theorem WX10_isSmall_17 {p : Program} {l : Launch} {e : Env} {s : State} {m : MethodId} {args : Array Value} {below : List Frame} {meth : Method} {c : Code} {D : va_G} {ty : Nat → ClassId} {eo : Nat → Nat} {A : Nat → Prop} {o1 : Int32} (C : dc_C p s m args meth c cX10_isSmall (some .boolean) 1 RX10 wsX10_isSmall D ty eo A)   (y0 : Int32) (H : Heap) (locs : List Loc) (ls : Array Slot) (h : zX10_isSmall_17  y0 = some o1) (hP : va_P D vwCl (([] : va_W)) H) (hD : va_D A (([] : va_W))) (hS : va_S A s.heap H locs) (hl : lv_has ls 1 []) : W p l e ({ frames := 0, cells := 0, slots := 0, locals := 0 } : Room) s m args below meth c H locs 0 0 (MQ below (va_Qi (fun (r : Int32) (u : va_W) => o1 = r ∧ ([] : va_W) = u) (kz_B D ty A) A) args s 0 0 A) (F0 m 17 ls [.int y0]) := by
  have C0 := C
  obtain ⟨hx, hb, hr, hts, hown, hlocks, hml, hK, hN, hE, hA⟩ := C
  unfold zX10_isSmall_17 at h
  obtain ⟨g1, h⟩ := dG_some h
  cases h
  exact kz_zret hx hb hr hlocks (dbl_nar g1) hP hK hD hS dX10_isSmall_17 ⟨rfl, rfl⟩
set_option maxHeartbeats 4000000 in
set_option maxRecDepth 100000 in
theorem WX10_isSmall_16 {p : Program} {l : Launch} {e : Env} {s : State} {m : MethodId} {args : Array Value} {below : List Frame} {meth : Method} {c : Code} {D : va_G} {ty : Nat → ClassId} {eo : Nat → Nat} {A : Nat → Prop} {o1 : Int32} (C : dc_C p s m args meth c cX10_isSmall (some .boolean) 1 RX10 wsX10_isSmall D ty eo A)    (H : Heap) (locs : List Loc) (ls : Array Slot) (h : zX10_isSmall_16   = some o1) (hP : va_P D vwCl (([] : va_W)) H) (hD : va_D A (([] : va_W))) (hS : va_S A s.heap H locs) (hl : lv_has ls 1 []) : W p l e ({ frames := 0, cells := 0, slots := 0, locals := 0 } : Room) s m args below meth c H locs 0 0 (MQ below (va_Qi (fun (r : Int32) (u : va_W) => o1 = r ∧ ([] : va_W) = u) (kz_B D ty A) A) args s 0 0 A) (F0 m 16 ls []) := by
  have C0 := C
  obtain ⟨hx, hb, hr, hts, hown, hlocks, hml, hK, hN, hE, hA⟩ := C
  unfold zX10_isSmall_16 at h
  refine lv_iconst (v := 0) hx hb dX10_isSmall_16 (by decide) ?_
  exact WX10_isSmall_17 C0  _ _ _ _ h hP hD hS (lv_sub hl [] rfl)
set_option maxHeartbeats 4000000 in
set_option maxRecDepth 100000 in
theorem qX10_isSmall (l : Launch) (D : va_G) (ty : Nat → ClassId) (eo : Nat → Nat) (sz : Nat) (p1 : Int32) (o1 : Int32) (h : zX10_isSmall p1 = some o1) : Met l yX10_isSmall wsX10_isSmall ({ frames := 0, cells := 0, slots := 0, locals := 0 } : Room) (va_Pc [.int p1] (kz_pre D ty eo (([] : va_W)) sz)) (va_Qi (fun (r : Int32) (u : va_W) => o1 = r ∧ ([] : va_W) = u) (kz_B D ty (va_A (([] : va_W)) sz)) (va_A (([] : va_W)) sz)) 0 0 (va_A (([] : va_W)) sz) := by
  refine Met.ofW (cc := cX10_isSmall) (maxL := 1) (ret := (some .boolean)) (by decide) rfl ?_
  intro p e s m args below meth c s₁ B hml hv
  obtain ⟨rfl, hsz, hP, hK, hD0, hN, hE⟩ := hv
  have hx := B.exec
  have hb := B.bytes
  have hr := B.returns
  have hts := atoms_spec (ws := wsX10_isSmall) B.pre
  have hown : s.vm.findClass RX10 = some m.cls := findClass_of_methodNamed B.named
  have hlocks := B.notSynchronized
  subst hsz
  have hD := hD0.self (sz := s.heap.size)
  generalize hAe : va_A (([] : va_W)) s.heap.size = A at hD hE ⊢
  have hA : ∀ q : Nat, s.heap.size ≤ q → A q := fun q h => by rw [← hAe]; exact Or.inr h
  clear hAe
  have hS : va_S A s.heap s.heap [] := va_S.rf
  have hl := lv_entry ([.int p1]) (n := 1) (Nat.le_of_ble_eq_true rfl)
  rw [lg_entry_eq]
  generalize (lg_sl ([.int p1]) ++ List.replicate (1 - (lg_sl ([.int p1])).length) Slot.unset).toArray = ls at hl ⊢
  have hl : lv_has ls 1 [(0, .int p1)] := hl
  have C : dc_C p s m _ meth c cX10_isSmall (some .boolean) 1 RX10 wsX10_isSmall D ty eo A := ⟨hx, hb, hr, hts, hown, hlocks, hml, hK, hN, hE, hA⟩
  unfold zX10_isSmall at h
  refine lv_iload_n hx hb dX10_isSmall_0 rfl (lv_at hl 0 rfl) ?_
  refine lv_bipush (v := 97) hx hb dX10_isSmall_1 (by decide) ?_
  refine lv_icmp_lt (tgt := 16) hx hb dX10_isSmall_3 (by decide) (fun c9 => ?_) (fun c9 => ?_)
  · rw [if_pos c9] at h
    exact WX10_isSmall_16 C  _ _ _ h hP hD hS (lv_sub hl [] rfl)
  · rw [if_neg c9] at h
    refine lv_iload_n hx hb dX10_isSmall_6 rfl (lv_at hl 0 rfl) ?_
    refine lv_bipush (v := 122) hx hb dX10_isSmall_7 (by decide) ?_
    refine lv_icmp_gt (tgt := 16) hx hb dX10_isSmall_9 (by decide) (fun c9 => ?_) (fun c9 => ?_)
    · rw [if_pos c9] at h
      exact WX10_isSmall_16 C  _ _ _ h hP hD hS (lv_sub hl [] rfl)
    · rw [if_neg c9] at h
      refine lv_iconst (v := 1) hx hb dX10_isSmall_12 (by decide) ?_
      refine lv_goto (tgt := 17) hx hb dX10_isSmall_13 (by decide) ?_
      exact WX10_isSmall_17 C  _ _ _ _ h hP hD hS (lv_sub hl [] rfl)

set_option maxHeartbeats 4000000 in
set_option maxRecDepth 100000 in
theorem WX10_isDigit_17 {p : Program} {l : Launch} {e : Env} {s : State} {m : MethodId} {args : Array Value} {below : List Frame} {meth : Method} {c : Code} {D : va_G} {ty : Nat → ClassId} {eo : Nat → Nat} {A : Nat → Prop} {o1 : Int32} (C : dc_C p s m args meth c cX10_isDigit (some .boolean) 1 RX10 wsX10_isDigit D ty eo A)   (y0 : Int32) (H : Heap) (locs : List Loc) (ls : Array Slot) (h : zX10_isDigit_17  y0 = some o1) (hP : va_P D vwCl (([] : va_W)) H) (hD : va_D A (([] : va_W))) (hS : va_S A s.heap H locs) (hl : lv_has ls 1 []) : W p l e ({ frames := 0, cells := 0, slots := 0, locals := 0 } : Room) s m args below meth c H locs 0 0 (MQ below (va_Qi (fun (r : Int32) (u : va_W) => o1 = r ∧ ([] : va_W) = u) (kz_B D ty A) A) args s 0 0 A) (F0 m 17 ls [.int y0]) := by
  have C0 := C
  obtain ⟨hx, hb, hr, hts, hown, hlocks, hml, hK, hN, hE, hA⟩ := C
  unfold zX10_isDigit_17 at h
  obtain ⟨g1, h⟩ := dG_some h
  cases h
  exact kz_zret hx hb hr hlocks (dbl_nar g1) hP hK hD hS dX10_isDigit_17 ⟨rfl, rfl⟩
set_option maxHeartbeats 4000000 in
set_option maxRecDepth 100000 in
theorem WX10_isDigit_16 {p : Program} {l : Launch} {e : Env} {s : State} {m : MethodId} {args : Array Value} {below : List Frame} {meth : Method} {c : Code} {D : va_G} {ty : Nat → ClassId} {eo : Nat → Nat} {A : Nat → Prop} {o1 : Int32} (C : dc_C p s m args meth c cX10_isDigit (some .boolean) 1 RX10 wsX10_isDigit D ty eo A)    (H : Heap) (locs : List Loc) (ls : Array Slot) (h : zX10_isDigit_16   = some o1) (hP : va_P D vwCl (([] : va_W)) H) (hD : va_D A (([] : va_W))) (hS : va_S A s.heap H locs) (hl : lv_has ls 1 []) : W p l e ({ frames := 0, cells := 0, slots := 0, locals := 0 } : Room) s m args below meth c H locs 0 0 (MQ below (va_Qi (fun (r : Int32) (u : va_W) => o1 = r ∧ ([] : va_W) = u) (kz_B D ty A) A) args s 0 0 A) (F0 m 16 ls []) := by
  have C0 := C
  obtain ⟨hx, hb, hr, hts, hown, hlocks, hml, hK, hN, hE, hA⟩ := C
  unfold zX10_isDigit_16 at h
  refine lv_iconst (v := 0) hx hb dX10_isDigit_16 (by decide) ?_
  exact WX10_isDigit_17 C0  _ _ _ _ h hP hD hS (lv_sub hl [] rfl)
set_option maxHeartbeats 4000000 in
set_option maxRecDepth 100000 in
theorem qX10_isDigit (l : Launch) (D : va_G) (ty : Nat → ClassId) (eo : Nat → Nat) (sz : Nat) (p1 : Int32) (o1 : Int32) (h : zX10_isDigit p1 = some o1) : Met l yX10_isDigit wsX10_isDigit ({ frames := 0, cells := 0, slots := 0, locals := 0 } : Room) (va_Pc [.int p1] (kz_pre D ty eo (([] : va_W)) sz)) (va_Qi (fun (r : Int32) (u : va_W) => o1 = r ∧ ([] : va_W) = u) (kz_B D ty (va_A (([] : va_W)) sz)) (va_A (([] : va_W)) sz)) 0 0 (va_A (([] : va_W)) sz) := by
  refine Met.ofW (cc := cX10_isDigit) (maxL := 1) (ret := (some .boolean)) (by decide) rfl ?_
  intro p e s m args below meth c s₁ B hml hv
  obtain ⟨rfl, hsz, hP, hK, hD0, hN, hE⟩ := hv
  have hx := B.exec
  have hb := B.bytes
  have hr := B.returns
  have hts := atoms_spec (ws := wsX10_isDigit) B.pre
  have hown : s.vm.findClass RX10 = some m.cls := findClass_of_methodNamed B.named
  have hlocks := B.notSynchronized
  subst hsz
  have hD := hD0.self (sz := s.heap.size)
  generalize hAe : va_A (([] : va_W)) s.heap.size = A at hD hE ⊢
  have hA : ∀ q : Nat, s.heap.size ≤ q → A q := fun q h => by rw [← hAe]; exact Or.inr h
  clear hAe
  have hS : va_S A s.heap s.heap [] := va_S.rf
  have hl := lv_entry ([.int p1]) (n := 1) (Nat.le_of_ble_eq_true rfl)
  rw [lg_entry_eq]
  generalize (lg_sl ([.int p1]) ++ List.replicate (1 - (lg_sl ([.int p1])).length) Slot.unset).toArray = ls at hl ⊢
  have hl : lv_has ls 1 [(0, .int p1)] := hl
  have C : dc_C p s m _ meth c cX10_isDigit (some .boolean) 1 RX10 wsX10_isDigit D ty eo A := ⟨hx, hb, hr, hts, hown, hlocks, hml, hK, hN, hE, hA⟩
  unfold zX10_isDigit at h
  refine lv_iload_n hx hb dX10_isDigit_0 rfl (lv_at hl 0 rfl) ?_
  refine lv_bipush (v := 48) hx hb dX10_isDigit_1 (by decide) ?_
  refine lv_icmp_lt (tgt := 16) hx hb dX10_isDigit_3 (by decide) (fun c9 => ?_) (fun c9 => ?_)
  · rw [if_pos c9] at h
    exact WX10_isDigit_16 C  _ _ _ h hP hD hS (lv_sub hl [] rfl)
  · rw [if_neg c9] at h
    refine lv_iload_n hx hb dX10_isDigit_6 rfl (lv_at hl 0 rfl) ?_
    refine lv_bipush (v := 57) hx hb dX10_isDigit_7 (by decide) ?_
    refine lv_icmp_gt (tgt := 16) hx hb dX10_isDigit_9 (by decide) (fun c9 => ?_) (fun c9 => ?_)
    · rw [if_pos c9] at h
      exact WX10_isDigit_16 C  _ _ _ h hP hD hS (lv_sub hl [] rfl)
    · rw [if_neg c9] at h
      refine lv_iconst (v := 1) hx hb dX10_isDigit_12 (by decide) ?_
      refine lv_goto (tgt := 17) hx hb dX10_isDigit_13 (by decide) ?_
      exact WX10_isDigit_17 C  _ _ _ _ h hP hD hS (lv_sub hl [] rfl)

set_option maxHeartbeats 4000000 in
set_option maxRecDepth 100000 in
theorem WX10_wordOf_104 {p : Program} {l : Launch} {e : Env} {s : State} {m : MethodId} {args : Array Value} {below : List Frame} {meth : Method} {c : Code} {D : va_G} {ty : Nat → ClassId} {eo : Nat → Nat} {A : Nat → Prop} {ad : Nat → Nat} {o1 : Int32} {o2 : dS} (C : dc_C p s m args meth c cX10_wordOf (some .int) 8 RX10 wsX10_wordOf D ty eo A) {k5 : dS → Int32 → Int32 → Int32 → Int32 → Option (Int32 × dS)} (hk5 : ∀ (q : dS) (x1 : Int32) (x2 : Int32) (x3 : Int32) (x4 : Int32) (H : Heap) (locs : List Loc) (ls : Array Slot), k5 q x1 x2 x3 x4 = some (o1, o2) → va_P D vwCl (w10 ty ad q) H → va_D A (w10 ty ad q) → va_S A s.heap H locs → lv_has ls 8 [(0, .ref (ad 0)), (1, .int x1), (2, .int x2), (3, .int x3), (4, .int x4)] → W p l e ({ frames := 0, cells := 0, slots := 0, locals := 0 } : Room) s m args below meth c H locs 0 0 (MQ below (va_Qi (fun (r : Int32) (u : va_W) => o1 = r ∧ w10 ty ad o2 = u) (kz_B D ty A) A) args s 0 0 A) (F0 m 5 ls [])) (q : dS) (x1 : Int32) (x2 : Int32) (x3 : Int32) (x4 : Int32) (x5 : Int32) (x6 : Int32) (H : Heap) (locs : List Loc) (ls : Array Slot) (h : zX10_wordOf_104 k5 q x1 x2 x3 x4 x5 x6 = some (o1, o2)) (hP : va_P D vwCl (w10 ty ad q) H) (hD : va_D A (w10 ty ad q)) (hS : va_S A s.heap H locs) (hl : lv_has ls 8 [(0, .ref (ad 0)), (1, .int x1), (2, .int x2), (3, .int x3), (4, .int x4), (5, .int x5), (6, .int x6)]) : W p l e ({ frames := 0, cells := 0, slots := 0, locals := 0 } : Room) s m args below meth c H locs 0 0 (MQ below (va_Qi (fun (r : Int32) (u : va_W) => o1 = r ∧ w10 ty ad o2 = u) (kz_B D ty A) A) args s 0 0 A) (F0 m 104 ls []) := by
  have C0 := C
  obtain ⟨hx, hb, hr, hts, hown, hlocks, hml, hK, hN, hE, hA⟩ := C
  unfold zX10_wordOf_104 at h
  refine lv_iload hx hb dX10_wordOf_104 (lv_at hl 6 rfl) ?_
  refine lv_if_eq (tgt := 111) hx hb dX10_wordOf_106 (by decide) (fun c9 => ?_) (fun c9 => ?_)
  · rw [if_pos c9] at h
    refine lv_iload hx hb dX10_wordOf_111 (lv_at hl 4 rfl) ?_
    refine lv_iload hx hb dX10_wordOf_113 (lv_at hl 5 rfl) ?_
    refine lv_iconst (v := 1) hx hb dX10_wordOf_115 (by decide) ?_
    refine lv_iadd hx hb dX10_wordOf_116 ?_
    refine lv_iadd hx hb dX10_wordOf_117 ?_
    refine lv_istore (lv' := [(4, .int (x4 + (x5 + 1 : Int32))), (0, .ref (ad 0)), (1, .int x1), (2, .int x2), (3, .int x3), (5, .int x5), (6, .int x6)]) hx hb dX10_wordOf_118 hl (by decide) rfl (fun ls hl => ?_)
    refine lv_iinc (v := x3 + 1) (lv' := [(3, .int (x3 + 1)), (4, .int (x4 + (x5 + 1 : Int32))), (0, .ref (ad 0)), (1, .int x1), (2, .int x2), (5, .int x5), (6, .int x6)]) hx hb dX10_wordOf_120 hl (k := 4) rfl rfl (by decide) rfl (fun ls hl => ?_)
    refine lv_goto (tgt := 5) hx hb dX10_wordOf_123 (by decide) ?_
    exact hk5 _ _ _ _ _ _ _ _ h hP hD hS (lv_sub hl [2, 3, 4, 0, 1] rfl)
  · rw [if_neg c9] at h
    refine lv_iload_n hx hb dX10_wordOf_109 rfl (lv_at hl 3 rfl) ?_
    cases h
    exact kz_iret hx hb hr hlocks hP hK hD hS dX10_wordOf_110 ⟨rfl, rfl⟩
set_option maxHeartbeats 4000000 in
set_option maxRecDepth 100000 in
theorem WX10_wordOf_96 {p : Program} {l : Launch} {e : Env} {s : State} {m : MethodId} {args : Array Value} {below : List Frame} {meth : Method} {c : Code} {D : va_G} {ty : Nat → ClassId} {eo : Nat → Nat} {A : Nat → Prop} {ad : Nat → Nat} {o1 : Int32} {o2 : dS} (C : dc_C p s m args meth c cX10_wordOf (some .int) 8 RX10 wsX10_wordOf D ty eo A) {k5 : dS → Int32 → Int32 → Int32 → Int32 → Option (Int32 × dS)} {k57 : dS → Int32 → Int32 → Int32 → Int32 → Int32 → Int32 → Int32 → Option (Int32 × dS)} (hk5 : ∀ (q : dS) (x1 : Int32) (x2 : Int32) (x3 : Int32) (x4 : Int32) (H : Heap) (locs : List Loc) (ls : Array Slot), k5 q x1 x2 x3 x4 = some (o1, o2) → va_P D vwCl (w10 ty ad q) H → va_D A (w10 ty ad q) → va_S A s.heap H locs → lv_has ls 8 [(0, .ref (ad 0)), (1, .int x1), (2, .int x2), (3, .int x3), (4, .int x4)] → W p l e ({ frames := 0, cells := 0, slots := 0, locals := 0 } : Room) s m args below meth c H locs 0 0 (MQ below (va_Qi (fun (r : Int32) (u : va_W) => o1 = r ∧ w10 ty ad o2 = u) (kz_B D ty A) A) args s 0 0 A) (F0 m 5 ls [])) (hk57 : ∀ (q : dS) (x1 : Int32) (x2 : Int32) (x3 : Int32) (x4 : Int32) (x5 : Int32) (x6 : Int32) (x7 : Int32) (H : Heap) (locs : List Loc) (ls : Array Slot), k57 q x1 x2 x3 x4 x5 x6 x7 = some (o1, o2) → va_P D vwCl (w10 ty ad q) H → va_D A (w10 ty ad q) → va_S A s.heap H locs → lv_has ls 8 [(0, .ref (ad 0)), (1, .int x1), (2, .int x2), (3, .int x3), (4, .int x4), (5, .int x5), (6, .int x6), (7, .int x7)] → W p l e ({ frames := 0, cells := 0, slots := 0, locals := 0 } : Room) s m args below meth c H locs 0 0 (MQ below (va_Qi (fun (r : Int32) (u : va_W) => o1 = r ∧ w10 ty ad o2 = u) (kz_B D ty A) A) args s 0 0 A) (F0 m 57 ls [])) (q : dS) (x1 : Int32) (x2 : Int32) (x3 : Int32) (x4 : Int32) (x5 : Int32) (x7 : Int32) (y0 : Int32) (H : Heap) (locs : List Loc) (ls : Array Slot) (h : zX10_wordOf_96 k5 k57 q x1 x2 x3 x4 x5 x7 y0 = some (o1, o2)) (hP : va_P D vwCl (w10 ty ad q) H) (hD : va_D A (w10 ty ad q)) (hS : va_S A s.heap H locs) (hl : lv_has ls 8 [(0, .ref (ad 0)), (1, .int x1), (2, .int x2), (3, .int x3), (4, .int x4), (5, .int x5), (7, .int x7)]) : W p l e ({ frames := 0, cells := 0, slots := 0, locals := 0 } : Room) s m args below meth c H locs 0 0 (MQ below (va_Qi (fun (r : Int32) (u : va_W) => o1 = r ∧ w10 ty ad o2 = u) (kz_B D ty A) A) args s 0 0 A) (F0 m 96 ls [.int y0]) := by
  have C0 := C
  obtain ⟨hx, hb, hr, hts, hown, hlocks, hml, hK, hN, hE, hA⟩ := C
  unfold zX10_wordOf_96 at h
  refine lv_istore (lv' := [(6, .int y0), (0, .ref (ad 0)), (1, .int x1), (2, .int x2), (3, .int x3), (4, .int x4), (5, .int x5), (7, .int x7)]) hx hb dX10_wordOf_96 hl (by decide) rfl (fun ls hl => ?_)
  refine lv_iinc (v := x7 + 1) (lv' := [(7, .int (x7 + 1)), (6, .int y0), (0, .ref (ad 0)), (1, .int x1), (2, .int x2), (3, .int x3), (4, .int x4), (5, .int x5)]) hx hb dX10_wordOf_98 hl (k := 7) rfl rfl (by decide) rfl (fun ls hl => ?_)
  refine lv_goto (tgt := 57) hx hb dX10_wordOf_101 (by decide) ?_
  exact hk57 _ _ _ _ _ _ _ _ _ _ _ h hP hD hS (lv_sub hl [2, 3, 4, 5, 6, 7, 1, 0] rfl)
set_option maxHeartbeats 4000000 in
set_option maxRecDepth 100000 in
theorem WX10_wordOf_57b {p : Program} {l : Launch} {e : Env} {s : State} {m : MethodId} {args : Array Value} {below : List Frame} {meth : Method} {c : Code} {D : va_G} {ty : Nat → ClassId} {eo : Nat → Nat} {A : Nat → Prop} {ad : Nat → Nat} {o1 : Int32} {o2 : dS} (C : dc_C p s m args meth c cX10_wordOf (some .int) 8 RX10 wsX10_wordOf D ty eo A) {k5 : dS → Int32 → Int32 → Int32 → Int32 → Option (Int32 × dS)} {k57 : dS → Int32 → Int32 → Int32 → Int32 → Int32 → Int32 → Int32 → Option (Int32 × dS)} (hk5 : ∀ (q : dS) (x1 : Int32) (x2 : Int32) (x3 : Int32) (x4 : Int32) (H : Heap) (locs : List Loc) (ls : Array Slot), k5 q x1 x2 x3 x4 = some (o1, o2) → va_P D vwCl (w10 ty ad q) H → va_D A (w10 ty ad q) → va_S A s.heap H locs → lv_has ls 8 [(0, .ref (ad 0)), (1, .int x1), (2, .int x2), (3, .int x3), (4, .int x4)] → W p l e ({ frames := 0, cells := 0, slots := 0, locals := 0 } : Room) s m args below meth c H locs 0 0 (MQ below (va_Qi (fun (r : Int32) (u : va_W) => o1 = r ∧ w10 ty ad o2 = u) (kz_B D ty A) A) args s 0 0 A) (F0 m 5 ls [])) (hk57 : ∀ (q : dS) (x1 : Int32) (x2 : Int32) (x3 : Int32) (x4 : Int32) (x5 : Int32) (x6 : Int32) (x7 : Int32) (H : Heap) (locs : List Loc) (ls : Array Slot), k57 q x1 x2 x3 x4 x5 x6 x7 = some (o1, o2) → va_P D vwCl (w10 ty ad q) H → va_D A (w10 ty ad q) → va_S A s.heap H locs → lv_has ls 8 [(0, .ref (ad 0)), (1, .int x1), (2, .int x2), (3, .int x3), (4, .int x4), (5, .int x5), (6, .int x6), (7, .int x7)] → W p l e ({ frames := 0, cells := 0, slots := 0, locals := 0 } : Room) s m args below meth c H locs 0 0 (MQ below (va_Qi (fun (r : Int32) (u : va_W) => o1 = r ∧ w10 ty ad o2 = u) (kz_B D ty A) A) args s 0 0 A) (F0 m 57 ls [])) (q : dS) (x1 : Int32) (x2 : Int32) (x3 : Int32) (x4 : Int32) (x5 : Int32) (x6 : Int32) (x7 : Int32) (H : Heap) (locs : List Loc) (ls : Array Slot) (h : zX10_wordOf_57b k5 k57 q x1 x2 x3 x4 x5 x6 x7 = some (o1, o2)) (hP : va_P D vwCl (w10 ty ad q) H) (hD : va_D A (w10 ty ad q)) (hS : va_S A s.heap H locs) (hl : lv_has ls 8 [(0, .ref (ad 0)), (1, .int x1), (2, .int x2), (3, .int x3), (4, .int x4), (5, .int x5), (6, .int x6), (7, .int x7)]) : W p l e ({ frames := 0, cells := 0, slots := 0, locals := 0 } : Room) s m args below meth c H locs 0 0 (MQ below (va_Qi (fun (r : Int32) (u : va_W) => o1 = r ∧ w10 ty ad o2 = u) (kz_B D ty A) A) args s 0 0 A) (F0 m 57 ls []) := by
  have C0 := C
  obtain ⟨hx, hb, hr, hts, hown, hlocks, hml, hK, hN, hE, hA⟩ := C
  unfold zX10_wordOf_57b at h
  refine lv_iload hx hb dX10_wordOf_57 (lv_at hl 7 rfl) ?_
  refine lv_iload hx hb dX10_wordOf_59 (lv_at hl 5 rfl) ?_
  refine lv_icmp_ge (tgt := 104) hx hb dX10_wordOf_61 (by decide) (fun c9 => ?_) (fun c9 => ?_)
  · rw [if_pos c9] at h
    exact WX10_wordOf_104 C0 hk5 _ _ _ _ _ _ _ _ _ _ h hP hD hS (lv_sub hl [0, 1, 2, 3, 4, 5, 6] rfl)
  · rw [if_neg c9] at h
    refine lv_iload hx hb dX10_wordOf_64 (lv_at hl 6 rfl) ?_
    refine lv_if_eq (tgt := 104) hx hb dX10_wordOf_66 (by decide) (fun c9 => ?_) (fun c9 => ?_)
    · rw [if_pos c9] at h
      exact WX10_wordOf_104 C0 hk5 _ _ _ _ _ _ _ _ _ _ h hP hD hS (lv_sub hl [0, 1, 2, 3, 4, 5, 6] rfl)
    · rw [if_neg c9] at h
      refine lv_aload_n hx hb dX10_wordOf_69 rfl (lv_at hl 0 rfl) ?_
      refine va_get (D := D) (ci := 10) (v := .ref (ad 6)) (C := RX10) (T := TX10) (N := 56) hx hb hts u9_wsX10_wordOf_X10 hown hK hP 0 rfl rfl 7 (by decide) (hts (.fieldLink RX10 41 "TurnedFloorsModel" "words" "[B") f9_wsX10_wordOf_93) (fun _ h9 => h9) rfl dX10_wordOf_70 ?_
      refine lv_iload hx hb dX10_wordOf_73 (lv_at hl 4 rfl) ?_
      refine lv_iload hx hb dX10_wordOf_75 (lv_at hl 7 rfl) ?_
      refine lv_iadd hx hb dX10_wordOf_77 ?_
      obtain ⟨g1, h⟩ := dG_some h
      refine va_bald hx hb hK hP 6 3 rfl rfl (dg_in g1) dX10_wordOf_78 ?_
      obtain ⟨v2, ev2, h⟩ := dL_some h
      refine kz_topi v2 ev2 ?_
      refine lv_aload_n hx hb dX10_wordOf_79 rfl (lv_at hl 0 rfl) ?_
      refine va_get (D := D) (ci := 10) (v := .ref (ad 7)) (C := RX10) (T := TX10) (N := 56) hx hb hts u9_wsX10_wordOf_X10 hown hK hP 0 rfl rfl 11 (by decide) (hts (.fieldLink RX10 45 "TurnedFloorsModel" "tape" "[B") f9_wsX10_wordOf_94) (fun _ h9 => h9) rfl dX10_wordOf_80 ?_
      refine lv_iload_n hx hb dX10_wordOf_83 rfl (lv_at hl 1 rfl) ?_
      refine lv_iload hx hb dX10_wordOf_84 (lv_at hl 7 rfl) ?_
      refine lv_iadd hx hb dX10_wordOf_86 ?_
      obtain ⟨g3, h⟩ := dG_some h
      refine va_bald hx hb hK hP 7 3 rfl rfl (dg_in g3) dX10_wordOf_87 ?_
      obtain ⟨v4, ev4, h⟩ := dL_some h
      refine kz_topi v4 ev4 ?_
      refine lv_icmp_ne (tgt := 95) hx hb dX10_wordOf_88 (by decide) (fun c9 => ?_) (fun c9 => ?_)
      · rw [if_neg c9] at h
        refine lv_iconst (v := 0) hx hb dX10_wordOf_95 (by decide) ?_
        exact WX10_wordOf_96 C0 hk5 hk57 _ _ _ _ _ _ _ _ _ _ _ h hP hD hS (lv_sub hl [0, 1, 2, 3, 4, 5, 7] rfl)
      · rw [if_pos c9] at h
        refine lv_iconst (v := 1) hx hb dX10_wordOf_91 (by decide) ?_
        refine lv_goto (tgt := 96) hx hb dX10_wordOf_92 (by decide) ?_
        exact WX10_wordOf_96 C0 hk5 hk57 _ _ _ _ _ _ _ _ _ _ _ h hP hD hS (lv_sub hl [0, 1, 2, 3, 4, 5, 7] rfl)
set_option maxHeartbeats 4000000 in
set_option maxRecDepth 100000 in
theorem WX10_wordOf_57 {p : Program} {l : Launch} {e : Env} {s : State} {m : MethodId} {args : Array Value} {below : List Frame} {meth : Method} {c : Code} {D : va_G} {ty : Nat → ClassId} {eo : Nat → Nat} {A : Nat → Prop} {ad : Nat → Nat} {o1 : Int32} {o2 : dS} (C : dc_C p s m args meth c cX10_wordOf (some .int) 8 RX10 wsX10_wordOf D ty eo A) {k5 : dS → Int32 → Int32 → Int32 → Int32 → Option (Int32 × dS)} (hk5 : ∀ (q : dS) (x1 : Int32) (x2 : Int32) (x3 : Int32) (x4 : Int32) (H : Heap) (locs : List Loc) (ls : Array Slot), k5 q x1 x2 x3 x4 = some (o1, o2) → va_P D vwCl (w10 ty ad q) H → va_D A (w10 ty ad q) → va_S A s.heap H locs → lv_has ls 8 [(0, .ref (ad 0)), (1, .int x1), (2, .int x2), (3, .int x3), (4, .int x4)] → W p l e ({ frames := 0, cells := 0, slots := 0, locals := 0 } : Room) s m args below meth c H locs 0 0 (MQ below (va_Qi (fun (r : Int32) (u : va_W) => o1 = r ∧ w10 ty ad o2 = u) (kz_B D ty A) A) args s 0 0 A) (F0 m 5 ls [])) (n : Nat) (q : dS) (x1 : Int32) (x2 : Int32) (x3 : Int32) (x4 : Int32) (x5 : Int32) (x6 : Int32) (x7 : Int32) (H : Heap) (locs : List Loc) (ls : Array Slot) (h : zX10_wordOf_57 k5 n q x1 x2 x3 x4 x5 x6 x7 = some (o1, o2)) (hP : va_P D vwCl (w10 ty ad q) H) (hD : va_D A (w10 ty ad q)) (hS : va_S A s.heap H locs) (hl : lv_has ls 8 [(0, .ref (ad 0)), (1, .int x1), (2, .int x2), (3, .int x3), (4, .int x4), (5, .int x5), (6, .int x6), (7, .int x7)]) : W p l e ({ frames := 0, cells := 0, slots := 0, locals := 0 } : Room) s m args below meth c H locs 0 0 (MQ below (va_Qi (fun (r : Int32) (u : va_W) => o1 = r ∧ w10 ty ad o2 = u) (kz_B D ty A) A) args s 0 0 A) (F0 m 57 ls []) := by
  exact dFix_W (F := fun k (a : dS × Int32 × Int32 × Int32 × Int32 × Int32 × Int32 × Int32) => zX10_wordOf_57b k5 (fun q x1 x2 x3 x4 x5 x6 x7 => k (q, x1, x2, x3, x4, x5, x6, x7)) a.1 a.2.1 a.2.2.1 a.2.2.2.1 a.2.2.2.2.1 a.2.2.2.2.2.1 a.2.2.2.2.2.2.1 a.2.2.2.2.2.2.2) (o := (o1, o2)) (P := fun (a : dS × Int32 × Int32 × Int32 × Int32 × Int32 × Int32 × Int32) H locs ls => va_P D vwCl (w10 ty ad a.1) H ∧ va_D A (w10 ty ad a.1) ∧ va_S A s.heap H locs ∧ lv_has ls 8 [(0, .ref (ad 0)), (1, .int a.2.1), (2, .int a.2.2.1), (3, .int a.2.2.2.1), (4, .int a.2.2.2.2.1), (5, .int a.2.2.2.2.2.1), (6, .int a.2.2.2.2.2.2.1), (7, .int a.2.2.2.2.2.2.2)]) (G := fun H locs ls => W p l e ({ frames := 0, cells := 0, slots := 0, locals := 0 } : Room) s m args below meth c H locs 0 0 (MQ below (va_Qi (fun (r : Int32) (u : va_W) => o1 = r ∧ w10 ty ad o2 = u) (kz_B D ty A) A) args s 0 0 A) (F0 m 57 ls []))
    (fun k hk a H locs ls h hp => WX10_wordOf_57b C hk5 (fun q x1 x2 x3 x4 x5 x6 x7 H locs ls h h1 h2 h3 h4 => hk (q, x1, x2, x3, x4, x5, x6, x7) H locs ls h ⟨h1, h2, h3, h4⟩) a.1 a.2.1 a.2.2.1 a.2.2.2.1 a.2.2.2.2.1 a.2.2.2.2.2.1 a.2.2.2.2.2.2.1 a.2.2.2.2.2.2.2 H locs ls h hp.1 hp.2.1 hp.2.2.1 hp.2.2.2) n (q, x1, x2, x3, x4, x5, x6, x7) H locs ls h ⟨hP, hD, hS, hl⟩
set_option maxHeartbeats 4000000 in
set_option maxRecDepth 100000 in
theorem WX10_wordOf_52 {p : Program} {l : Launch} {e : Env} {s : State} {m : MethodId} {args : Array Value} {below : List Frame} {meth : Method} {c : Code} {D : va_G} {ty : Nat → ClassId} {eo : Nat → Nat} {A : Nat → Prop} {ad : Nat → Nat} {o1 : Int32} {o2 : dS} (C : dc_C p s m args meth c cX10_wordOf (some .int) 8 RX10 wsX10_wordOf D ty eo A) {k5 : dS → Int32 → Int32 → Int32 → Int32 → Option (Int32 × dS)} (hk5 : ∀ (q : dS) (x1 : Int32) (x2 : Int32) (x3 : Int32) (x4 : Int32) (H : Heap) (locs : List Loc) (ls : Array Slot), k5 q x1 x2 x3 x4 = some (o1, o2) → va_P D vwCl (w10 ty ad q) H → va_D A (w10 ty ad q) → va_S A s.heap H locs → lv_has ls 8 [(0, .ref (ad 0)), (1, .int x1), (2, .int x2), (3, .int x3), (4, .int x4)] → W p l e ({ frames := 0, cells := 0, slots := 0, locals := 0 } : Room) s m args below meth c H locs 0 0 (MQ below (va_Qi (fun (r : Int32) (u : va_W) => o1 = r ∧ w10 ty ad o2 = u) (kz_B D ty A) A) args s 0 0 A) (F0 m 5 ls [])) (q : dS) (x1 : Int32) (x2 : Int32) (x3 : Int32) (x4 : Int32) (x5 : Int32) (y0 : Int32) (H : Heap) (locs : List Loc) (ls : Array Slot) (h : zX10_wordOf_52 k5 q x1 x2 x3 x4 x5 y0 = some (o1, o2)) (hP : va_P D vwCl (w10 ty ad q) H) (hD : va_D A (w10 ty ad q)) (hS : va_S A s.heap H locs) (hl : lv_has ls 8 [(0, .ref (ad 0)), (1, .int x1), (2, .int x2), (3, .int x3), (4, .int x4), (5, .int x5)]) : W p l e ({ frames := 0, cells := 0, slots := 0, locals := 0 } : Room) s m args below meth c H locs 0 0 (MQ below (va_Qi (fun (r : Int32) (u : va_W) => o1 = r ∧ w10 ty ad o2 = u) (kz_B D ty A) A) args s 0 0 A) (F0 m 52 ls [.int y0]) := by
  have C0 := C
  obtain ⟨hx, hb, hr, hts, hown, hlocks, hml, hK, hN, hE, hA⟩ := C
  unfold zX10_wordOf_52 at h
  refine lv_istore (lv' := [(6, .int y0), (0, .ref (ad 0)), (1, .int x1), (2, .int x2), (3, .int x3), (4, .int x4), (5, .int x5)]) hx hb dX10_wordOf_52 hl (by decide) rfl (fun ls hl => ?_)
  refine lv_iconst (v := 0) hx hb dX10_wordOf_54 (by decide) ?_
  refine lv_istore (lv' := [(7, .int 0), (6, .int y0), (0, .ref (ad 0)), (1, .int x1), (2, .int x2), (3, .int x3), (4, .int x4), (5, .int x5)]) hx hb dX10_wordOf_55 hl (by decide) rfl (fun ls hl => ?_)
  exact WX10_wordOf_57 C0 hk5 _ _ _ _ _ _ _ _ _ _ _ _ h hP hD hS (lv_sub hl [2, 3, 4, 5, 6, 7, 1, 0] rfl)
set_option maxHeartbeats 4000000 in
set_option maxRecDepth 100000 in
theorem WX10_wordOf_18b {p : Program} {l : Launch} {e : Env} {s : State} {m : MethodId} {args : Array Value} {below : List Frame} {meth : Method} {c : Code} {D : va_G} {ty : Nat → ClassId} {eo : Nat → Nat} {A : Nat → Prop} {ad : Nat → Nat} {o1 : Int32} {o2 : dS} (C : dc_C p s m args meth c cX10_wordOf (some .int) 8 RX10 wsX10_wordOf D ty eo A) {k5 : dS → Int32 → Int32 → Int32 → Int32 → Option (Int32 × dS)} {k18 : dS → Int32 → Int32 → Int32 → Int32 → Int32 → Option (Int32 × dS)} (hk5 : ∀ (q : dS) (x1 : Int32) (x2 : Int32) (x3 : Int32) (x4 : Int32) (H : Heap) (locs : List Loc) (ls : Array Slot), k5 q x1 x2 x3 x4 = some (o1, o2) → va_P D vwCl (w10 ty ad q) H → va_D A (w10 ty ad q) → va_S A s.heap H locs → lv_has ls 8 [(0, .ref (ad 0)), (1, .int x1), (2, .int x2), (3, .int x3), (4, .int x4)] → W p l e ({ frames := 0, cells := 0, slots := 0, locals := 0 } : Room) s m args below meth c H locs 0 0 (MQ below (va_Qi (fun (r : Int32) (u : va_W) => o1 = r ∧ w10 ty ad o2 = u) (kz_B D ty A) A) args s 0 0 A) (F0 m 5 ls [])) (hk18 : ∀ (q : dS) (x1 : Int32) (x2 : Int32) (x3 : Int32) (x4 : Int32) (x5 : Int32) (H : Heap) (locs : List Loc) (ls : Array Slot), k18 q x1 x2 x3 x4 x5 = some (o1, o2) → va_P D vwCl (w10 ty ad q) H → va_D A (w10 ty ad q) → va_S A s.heap H locs → lv_has ls 8 [(0, .ref (ad 0)), (1, .int x1), (2, .int x2), (3, .int x3), (4, .int x4), (5, .int x5)] → W p l e ({ frames := 0, cells := 0, slots := 0, locals := 0 } : Room) s m args below meth c H locs 0 0 (MQ below (va_Qi (fun (r : Int32) (u : va_W) => o1 = r ∧ w10 ty ad o2 = u) (kz_B D ty A) A) args s 0 0 A) (F0 m 18 ls [])) (q : dS) (x1 : Int32) (x2 : Int32) (x3 : Int32) (x4 : Int32) (x5 : Int32) (H : Heap) (locs : List Loc) (ls : Array Slot) (h : zX10_wordOf_18b k5 k18 q x1 x2 x3 x4 x5 = some (o1, o2)) (hP : va_P D vwCl (w10 ty ad q) H) (hD : va_D A (w10 ty ad q)) (hS : va_S A s.heap H locs) (hl : lv_has ls 8 [(0, .ref (ad 0)), (1, .int x1), (2, .int x2), (3, .int x3), (4, .int x4), (5, .int x5)]) : W p l e ({ frames := 0, cells := 0, slots := 0, locals := 0 } : Room) s m args below meth c H locs 0 0 (MQ below (va_Qi (fun (r : Int32) (u : va_W) => o1 = r ∧ w10 ty ad o2 = u) (kz_B D ty A) A) args s 0 0 A) (F0 m 18 ls []) := by
  have C0 := C
  obtain ⟨hx, hb, hr, hts, hown, hlocks, hml, hK, hN, hE, hA⟩ := C
  unfold zX10_wordOf_18b at h
  refine lv_aload_n hx hb dX10_wordOf_18 rfl (lv_at hl 0 rfl) ?_
  refine va_get (D := D) (ci := 10) (v := .ref (ad 6)) (C := RX10) (T := TX10) (N := 56) hx hb hts u9_wsX10_wordOf_X10 hown hK hP 0 rfl rfl 7 (by decide) (hts (.fieldLink RX10 41 "TurnedFloorsModel" "words" "[B") f9_wsX10_wordOf_93) (fun _ h9 => h9) rfl dX10_wordOf_19 ?_
  refine lv_iload hx hb dX10_wordOf_22 (lv_at hl 4 rfl) ?_
  refine lv_iload hx hb dX10_wordOf_24 (lv_at hl 5 rfl) ?_
  refine lv_iadd hx hb dX10_wordOf_26 ?_
  obtain ⟨g1, h⟩ := dG_some h
  refine va_bald hx hb hK hP 6 3 rfl rfl (dg_in g1) dX10_wordOf_27 ?_
  obtain ⟨v2, ev2, h⟩ := dL_some h
  refine kz_topi v2 ev2 ?_
  refine lv_bipush (v := 32) hx hb dX10_wordOf_28 (by decide) ?_
  refine lv_icmp_eq (tgt := 39) hx hb dX10_wordOf_30 (by decide) (fun c9 => ?_) (fun c9 => ?_)
  · rw [if_pos c9] at h
    refine lv_iload hx hb dX10_wordOf_39 (lv_at hl 5 rfl) ?_
    refine lv_iload_n hx hb dX10_wordOf_41 rfl (lv_at hl 2 rfl) ?_
    refine lv_iload_n hx hb dX10_wordOf_42 rfl (lv_at hl 1 rfl) ?_
    refine lv_isub hx hb dX10_wordOf_43 ?_
    refine lv_icmp_ne (tgt := 51) hx hb dX10_wordOf_44 (by decide) (fun c9 => ?_) (fun c9 => ?_)
    · rw [if_neg c9] at h
      refine lv_iconst (v := 0) hx hb dX10_wordOf_51 (by decide) ?_
      exact WX10_wordOf_52 C0 hk5 _ _ _ _ _ _ _ _ _ _ h hP hD hS (lv_sub hl [0, 1, 2, 3, 4, 5] rfl)
    · rw [if_pos c9] at h
      refine lv_iconst (v := 1) hx hb dX10_wordOf_47 (by decide) ?_
      refine lv_goto (tgt := 52) hx hb dX10_wordOf_48 (by decide) ?_
      exact WX10_wordOf_52 C0 hk5 _ _ _ _ _ _ _ _ _ _ h hP hD hS (lv_sub hl [0, 1, 2, 3, 4, 5] rfl)
  · rw [if_neg c9] at h
    refine lv_iinc (v := x5 + 1) (lv' := [(5, .int (x5 + 1)), (0, .ref (ad 0)), (1, .int x1), (2, .int x2), (3, .int x3), (4, .int x4)]) hx hb dX10_wordOf_33 hl (k := 5) rfl rfl (by decide) rfl (fun ls hl => ?_)
    refine lv_goto (tgt := 18) hx hb dX10_wordOf_36 (by decide) ?_
    exact hk18 _ _ _ _ _ _ _ _ _ h hP hD hS (lv_sub hl [1, 2, 3, 4, 5, 0] rfl)
set_option maxHeartbeats 4000000 in
set_option maxRecDepth 100000 in
theorem WX10_wordOf_18 {p : Program} {l : Launch} {e : Env} {s : State} {m : MethodId} {args : Array Value} {below : List Frame} {meth : Method} {c : Code} {D : va_G} {ty : Nat → ClassId} {eo : Nat → Nat} {A : Nat → Prop} {ad : Nat → Nat} {o1 : Int32} {o2 : dS} (C : dc_C p s m args meth c cX10_wordOf (some .int) 8 RX10 wsX10_wordOf D ty eo A) {k5 : dS → Int32 → Int32 → Int32 → Int32 → Option (Int32 × dS)} (hk5 : ∀ (q : dS) (x1 : Int32) (x2 : Int32) (x3 : Int32) (x4 : Int32) (H : Heap) (locs : List Loc) (ls : Array Slot), k5 q x1 x2 x3 x4 = some (o1, o2) → va_P D vwCl (w10 ty ad q) H → va_D A (w10 ty ad q) → va_S A s.heap H locs → lv_has ls 8 [(0, .ref (ad 0)), (1, .int x1), (2, .int x2), (3, .int x3), (4, .int x4)] → W p l e ({ frames := 0, cells := 0, slots := 0, locals := 0 } : Room) s m args below meth c H locs 0 0 (MQ below (va_Qi (fun (r : Int32) (u : va_W) => o1 = r ∧ w10 ty ad o2 = u) (kz_B D ty A) A) args s 0 0 A) (F0 m 5 ls [])) (n : Nat) (q : dS) (x1 : Int32) (x2 : Int32) (x3 : Int32) (x4 : Int32) (x5 : Int32) (H : Heap) (locs : List Loc) (ls : Array Slot) (h : zX10_wordOf_18 k5 n q x1 x2 x3 x4 x5 = some (o1, o2)) (hP : va_P D vwCl (w10 ty ad q) H) (hD : va_D A (w10 ty ad q)) (hS : va_S A s.heap H locs) (hl : lv_has ls 8 [(0, .ref (ad 0)), (1, .int x1), (2, .int x2), (3, .int x3), (4, .int x4), (5, .int x5)]) : W p l e ({ frames := 0, cells := 0, slots := 0, locals := 0 } : Room) s m args below meth c H locs 0 0 (MQ below (va_Qi (fun (r : Int32) (u : va_W) => o1 = r ∧ w10 ty ad o2 = u) (kz_B D ty A) A) args s 0 0 A) (F0 m 18 ls []) := by
  exact dFix_W (F := fun k (a : dS × Int32 × Int32 × Int32 × Int32 × Int32) => zX10_wordOf_18b k5 (fun q x1 x2 x3 x4 x5 => k (q, x1, x2, x3, x4, x5)) a.1 a.2.1 a.2.2.1 a.2.2.2.1 a.2.2.2.2.1 a.2.2.2.2.2) (o := (o1, o2)) (P := fun (a : dS × Int32 × Int32 × Int32 × Int32 × Int32) H locs ls => va_P D vwCl (w10 ty ad a.1) H ∧ va_D A (w10 ty ad a.1) ∧ va_S A s.heap H locs ∧ lv_has ls 8 [(0, .ref (ad 0)), (1, .int a.2.1), (2, .int a.2.2.1), (3, .int a.2.2.2.1), (4, .int a.2.2.2.2.1), (5, .int a.2.2.2.2.2)]) (G := fun H locs ls => W p l e ({ frames := 0, cells := 0, slots := 0, locals := 0 } : Room) s m args below meth c H locs 0 0 (MQ below (va_Qi (fun (r : Int32) (u : va_W) => o1 = r ∧ w10 ty ad o2 = u) (kz_B D ty A) A) args s 0 0 A) (F0 m 18 ls []))
    (fun k hk a H locs ls h hp => WX10_wordOf_18b C hk5 (fun q x1 x2 x3 x4 x5 H locs ls h h1 h2 h3 h4 => hk (q, x1, x2, x3, x4, x5) H locs ls h ⟨h1, h2, h3, h4⟩) a.1 a.2.1 a.2.2.1 a.2.2.2.1 a.2.2.2.2.1 a.2.2.2.2.2 H locs ls h hp.1 hp.2.1 hp.2.2.1 hp.2.2.2) n (q, x1, x2, x3, x4, x5) H locs ls h ⟨hP, hD, hS, hl⟩
set_option maxHeartbeats 4000000 in
set_option maxRecDepth 100000 in
theorem WX10_wordOf_5b {p : Program} {l : Launch} {e : Env} {s : State} {m : MethodId} {args : Array Value} {below : List Frame} {meth : Method} {c : Code} {D : va_G} {ty : Nat → ClassId} {eo : Nat → Nat} {A : Nat → Prop} {ad : Nat → Nat} {o1 : Int32} {o2 : dS} (C : dc_C p s m args meth c cX10_wordOf (some .int) 8 RX10 wsX10_wordOf D ty eo A) {k5 : dS → Int32 → Int32 → Int32 → Int32 → Option (Int32 × dS)} (hk5 : ∀ (q : dS) (x1 : Int32) (x2 : Int32) (x3 : Int32) (x4 : Int32) (H : Heap) (locs : List Loc) (ls : Array Slot), k5 q x1 x2 x3 x4 = some (o1, o2) → va_P D vwCl (w10 ty ad q) H → va_D A (w10 ty ad q) → va_S A s.heap H locs → lv_has ls 8 [(0, .ref (ad 0)), (1, .int x1), (2, .int x2), (3, .int x3), (4, .int x4)] → W p l e ({ frames := 0, cells := 0, slots := 0, locals := 0 } : Room) s m args below meth c H locs 0 0 (MQ below (va_Qi (fun (r : Int32) (u : va_W) => o1 = r ∧ w10 ty ad o2 = u) (kz_B D ty A) A) args s 0 0 A) (F0 m 5 ls [])) (q : dS) (x1 : Int32) (x2 : Int32) (x3 : Int32) (x4 : Int32) (H : Heap) (locs : List Loc) (ls : Array Slot) (h : zX10_wordOf_5b k5 q x1 x2 x3 x4 = some (o1, o2)) (hP : va_P D vwCl (w10 ty ad q) H) (hD : va_D A (w10 ty ad q)) (hS : va_S A s.heap H locs) (hl : lv_has ls 8 [(0, .ref (ad 0)), (1, .int x1), (2, .int x2), (3, .int x3), (4, .int x4)]) : W p l e ({ frames := 0, cells := 0, slots := 0, locals := 0 } : Room) s m args below meth c H locs 0 0 (MQ below (va_Qi (fun (r : Int32) (u : va_W) => o1 = r ∧ w10 ty ad o2 = u) (kz_B D ty A) A) args s 0 0 A) (F0 m 5 ls []) := by
  have C0 := C
  obtain ⟨hx, hb, hr, hts, hown, hlocks, hml, hK, hN, hE, hA⟩ := C
  unfold zX10_wordOf_5b at h
  refine lv_iload hx hb dX10_wordOf_5 (lv_at hl 4 rfl) ?_
  refine lv_aload_n hx hb dX10_wordOf_7 rfl (lv_at hl 0 rfl) ?_
  refine va_get (D := D) (ci := 10) (v := .ref (ad 6)) (C := RX10) (T := TX10) (N := 56) hx hb hts u9_wsX10_wordOf_X10 hown hK hP 0 rfl rfl 7 (by decide) (hts (.fieldLink RX10 41 "TurnedFloorsModel" "words" "[B") f9_wsX10_wordOf_93) (fun _ h9 => h9) rfl dX10_wordOf_8 ?_
  refine va_alen (v := 128) hx hb hK hP 6 3 rfl rfl rfl dX10_wordOf_11 ?_
  refine lv_icmp_ge (tgt := 126) hx hb dX10_wordOf_12 (by decide) (fun c9 => ?_) (fun c9 => ?_)
  · rw [if_pos c9] at h
    refine lv_iconst (v := 0) hx hb dX10_wordOf_126 (by decide) ?_
    cases h
    exact kz_iret hx hb hr hlocks hP hK hD hS dX10_wordOf_127 ⟨rfl, rfl⟩
  · rw [if_neg c9] at h
    refine lv_iconst (v := 0) hx hb dX10_wordOf_15 (by decide) ?_
    refine lv_istore (lv' := [(5, .int 0), (0, .ref (ad 0)), (1, .int x1), (2, .int x2), (3, .int x3), (4, .int x4)]) hx hb dX10_wordOf_16 hl (by decide) rfl (fun ls hl => ?_)
    exact WX10_wordOf_18 C0 hk5 _ _ _ _ _ _ _ _ _ _ h hP hD hS (lv_sub hl [1, 2, 3, 4, 5, 0] rfl)
set_option maxHeartbeats 4000000 in
set_option maxRecDepth 100000 in
theorem WX10_wordOf_5 {p : Program} {l : Launch} {e : Env} {s : State} {m : MethodId} {args : Array Value} {below : List Frame} {meth : Method} {c : Code} {D : va_G} {ty : Nat → ClassId} {eo : Nat → Nat} {A : Nat → Prop} {ad : Nat → Nat} {o1 : Int32} {o2 : dS} (C : dc_C p s m args meth c cX10_wordOf (some .int) 8 RX10 wsX10_wordOf D ty eo A)   (n : Nat) (q : dS) (x1 : Int32) (x2 : Int32) (x3 : Int32) (x4 : Int32) (H : Heap) (locs : List Loc) (ls : Array Slot) (h : zX10_wordOf_5  n q x1 x2 x3 x4 = some (o1, o2)) (hP : va_P D vwCl (w10 ty ad q) H) (hD : va_D A (w10 ty ad q)) (hS : va_S A s.heap H locs) (hl : lv_has ls 8 [(0, .ref (ad 0)), (1, .int x1), (2, .int x2), (3, .int x3), (4, .int x4)]) : W p l e ({ frames := 0, cells := 0, slots := 0, locals := 0 } : Room) s m args below meth c H locs 0 0 (MQ below (va_Qi (fun (r : Int32) (u : va_W) => o1 = r ∧ w10 ty ad o2 = u) (kz_B D ty A) A) args s 0 0 A) (F0 m 5 ls []) := by
  exact dFix_W (F := fun k (a : dS × Int32 × Int32 × Int32 × Int32) => zX10_wordOf_5b  (fun q x1 x2 x3 x4 => k (q, x1, x2, x3, x4)) a.1 a.2.1 a.2.2.1 a.2.2.2.1 a.2.2.2.2) (o := (o1, o2)) (P := fun (a : dS × Int32 × Int32 × Int32 × Int32) H locs ls => va_P D vwCl (w10 ty ad a.1) H ∧ va_D A (w10 ty ad a.1) ∧ va_S A s.heap H locs ∧ lv_has ls 8 [(0, .ref (ad 0)), (1, .int a.2.1), (2, .int a.2.2.1), (3, .int a.2.2.2.1), (4, .int a.2.2.2.2)]) (G := fun H locs ls => W p l e ({ frames := 0, cells := 0, slots := 0, locals := 0 } : Room) s m args below meth c H locs 0 0 (MQ below (va_Qi (fun (r : Int32) (u : va_W) => o1 = r ∧ w10 ty ad o2 = u) (kz_B D ty A) A) args s 0 0 A) (F0 m 5 ls []))
    (fun k hk a H locs ls h hp => WX10_wordOf_5b C  (fun q x1 x2 x3 x4 H locs ls h h1 h2 h3 h4 => hk (q, x1, x2, x3, x4) H locs ls h ⟨h1, h2, h3, h4⟩) a.1 a.2.1 a.2.2.1 a.2.2.2.1 a.2.2.2.2 H locs ls h hp.1 hp.2.1 hp.2.2.1 hp.2.2.2) n (q, x1, x2, x3, x4) H locs ls h ⟨hP, hD, hS, hl⟩
set_option maxHeartbeats 4000000 in
set_option maxRecDepth 100000 in
theorem qX10_wordOf (l : Launch) (D : va_G) (ty : Nat → ClassId) (eo : Nat → Nat) (sz : Nat) (ad : Nat → Nat) (q : dS) (p1 : Int32) (p2 : Int32) (o1 : Int32) (o2 : dS) (h : zX10_wordOf q p1 p2 = some (o1, o2)) : Met l yX10_wordOf wsX10_wordOf ({ frames := 0, cells := 0, slots := 0, locals := 0 } : Room) (va_Pc [.ref (ad 0), .int p1, .int p2] (kz_pre D ty eo (w10 ty ad q) sz)) (va_Qi (fun (r : Int32) (u : va_W) => o1 = r ∧ w10 ty ad o2 = u) (kz_B D ty (va_A (w10 ty ad q) sz)) (va_A (w10 ty ad q) sz)) 0 0 (va_A (w10 ty ad q) sz) := by
  refine Met.ofW (cc := cX10_wordOf) (maxL := 8) (ret := (some .int)) (by decide) rfl ?_
  intro p e s m args below meth c s₁ B hml hv
  obtain ⟨rfl, hsz, hP, hK, hD0, hN, hE⟩ := hv
  have hx := B.exec
  have hb := B.bytes
  have hr := B.returns
  have hts := atoms_spec (ws := wsX10_wordOf) B.pre
  have hown : s.vm.findClass RX10 = some m.cls := findClass_of_methodNamed B.named
  have hlocks := B.notSynchronized
  subst hsz
  have hD := hD0.self (sz := s.heap.size)
  generalize hAe : va_A (w10 ty ad q) s.heap.size = A at hD hE ⊢
  have hA : ∀ q : Nat, s.heap.size ≤ q → A q := fun q h => by rw [← hAe]; exact Or.inr h
  clear hAe
  have hS : va_S A s.heap s.heap [] := va_S.rf
  have hl := lv_entry ([.ref (ad 0), .int p1, .int p2]) (n := 8) (Nat.le_of_ble_eq_true rfl)
  rw [lg_entry_eq]
  generalize (lg_sl ([.ref (ad 0), .int p1, .int p2]) ++ List.replicate (8 - (lg_sl ([.ref (ad 0), .int p1, .int p2])).length) Slot.unset).toArray = ls at hl ⊢
  have hl : lv_has ls 8 [(0, .ref (ad 0)), (1, .int p1), (2, .int p2)] := hl
  have C : dc_C p s m _ meth c cX10_wordOf (some .int) 8 RX10 wsX10_wordOf D ty eo A := ⟨hx, hb, hr, hts, hown, hlocks, hml, hK, hN, hE, hA⟩
  unfold zX10_wordOf at h
  refine lv_iconst (v := 1) hx hb dX10_wordOf_0 (by decide) ?_
  refine lv_istore_n (lv' := [(3, .int 1), (0, .ref (ad 0)), (1, .int p1), (2, .int p2)]) hx hb dX10_wordOf_1 rfl hl (by decide) rfl (fun ls hl => ?_)
  refine lv_iconst (v := 0) hx hb dX10_wordOf_2 (by decide) ?_
  refine lv_istore (lv' := [(4, .int 0), (3, .int 1), (0, .ref (ad 0)), (1, .int p1), (2, .int p2)]) hx hb dX10_wordOf_3 hl (by decide) rfl (fun ls hl => ?_)
  exact WX10_wordOf_5 C  _ _ _ _ _ _ _ _ _ h hP hD hS (lv_sub hl [2, 3, 4, 1, 0] rfl)
end
section
set_option maxRecDepth 20000 in
theorem ggX10_splits_X10_isSmall : GoodIn wsX10_splits wsX10_isSmall := wd_c vW10_ok mvW10_175
set_option maxRecDepth 20000 in
theorem gX10_splits_X10_isSmall : GoodIn wsX10_splits (va_wsS RX10 178 yX10_isSmall wsX10_isSmall) := goodIn_app (wd_l vW10_ok _ pvW10_157) ggX10_splits_X10_isSmall
set_option maxRecDepth 20000 in
theorem ggX10_splits_X10_isDigit : GoodIn wsX10_splits wsX10_isDigit := wd_c vW10_ok mvW10_178
set_option maxRecDepth 20000 in
theorem gX10_splits_X10_isDigit : GoodIn wsX10_splits (va_wsS RX10 181 yX10_isDigit wsX10_isDigit) := goodIn_app (wd_l vW10_ok _ pvW10_158) ggX10_splits_X10_isDigit
set_option maxRecDepth 20000 in
theorem ggX10_splits_X10_wordOf : GoodIn wsX10_splits wsX10_wordOf := wd_c vW10_ok mvW10_182
set_option maxRecDepth 20000 in
theorem gX10_splits_X10_wordOf : GoodIn wsX10_splits (wsV RX10 184 RX10 yX10_wordOf wsX10_wordOf) := goodIn_app (wd_l vW10_ok _ pvW10_159) ggX10_splits_X10_wordOf
theorem da9_dX10_splits_0 : (decode cX10_splits 0 = .ok (.aload_n 0, 1)) ∧ (decode cX10_splits 1 = .ok (.iconst 0, 1)) ∧ (decode cX10_splits 2 = .ok (.putfield 175, 3)) ∧ (decode cX10_splits 5 = .ok (.iconst 0, 1)) ∧ (decode cX10_splits 6 = .ok (.istore_n 2, 1)) ∧ (decode cX10_splits 7 = .ok (.iload_n 2, 1)) ∧ (decode cX10_splits 8 = .ok (.iload_n 1, 1)) ∧ (decode cX10_splits 9 = .ok (.if_icmp .ge 254, 3)) ∧ (decode cX10_splits 12 = .ok (.aload_n 0, 1)) ∧ (decode cX10_splits 13 = .ok (.getfield 45, 3)) ∧ (decode cX10_splits 16 = .ok (.iload_n 2, 1)) ∧ (decode cX10_splits 17 = .ok (.baload, 1)) ∧ (decode cX10_splits 18 = .ok (.istore_n 3, 1)) ∧ (decode cX10_splits 19 = .ok (.iload_n 3, 1)) ∧ (decode cX10_splits 20 = .ok (.bipush 32, 2)) ∧ (decode cX10_splits 22 = .ok (.if_icmp .ne 9, 3)) := by decide +kernel
theorem dX10_splits_0 : decode cX10_splits 0 = .ok (.aload_n 0, 1) := da9_dX10_splits_0.1
theorem dX10_splits_1 : decode cX10_splits 1 = .ok (.iconst 0, 1) := da9_dX10_splits_0.2.1
theorem dX10_splits_2 : decode cX10_splits 2 = .ok (.putfield 175, 3) := da9_dX10_splits_0.2.2.1
theorem dX10_splits_5 : decode cX10_splits 5 = .ok (.iconst 0, 1) := da9_dX10_splits_0.2.2.2.1
theorem dX10_splits_6 : decode cX10_splits 6 = .ok (.istore_n 2, 1) := da9_dX10_splits_0.2.2.2.2.1
theorem dX10_splits_7 : decode cX10_splits 7 = .ok (.iload_n 2, 1) := da9_dX10_splits_0.2.2.2.2.2.1
theorem dX10_splits_8 : decode cX10_splits 8 = .ok (.iload_n 1, 1) := da9_dX10_splits_0.2.2.2.2.2.2.1
theorem dX10_splits_9 : decode cX10_splits 9 = .ok (.if_icmp .ge 254, 3) := da9_dX10_splits_0.2.2.2.2.2.2.2.1
theorem dX10_splits_12 : decode cX10_splits 12 = .ok (.aload_n 0, 1) := da9_dX10_splits_0.2.2.2.2.2.2.2.2.1
theorem dX10_splits_13 : decode cX10_splits 13 = .ok (.getfield 45, 3) := da9_dX10_splits_0.2.2.2.2.2.2.2.2.2.1
theorem dX10_splits_16 : decode cX10_splits 16 = .ok (.iload_n 2, 1) := da9_dX10_splits_0.2.2.2.2.2.2.2.2.2.2.1
theorem dX10_splits_17 : decode cX10_splits 17 = .ok (.baload, 1) := da9_dX10_splits_0.2.2.2.2.2.2.2.2.2.2.2.1
theorem dX10_splits_18 : decode cX10_splits 18 = .ok (.istore_n 3, 1) := da9_dX10_splits_0.2.2.2.2.2.2.2.2.2.2.2.2.1
theorem dX10_splits_19 : decode cX10_splits 19 = .ok (.iload_n 3, 1) := da9_dX10_splits_0.2.2.2.2.2.2.2.2.2.2.2.2.2.1
theorem dX10_splits_20 : decode cX10_splits 20 = .ok (.bipush 32, 2) := da9_dX10_splits_0.2.2.2.2.2.2.2.2.2.2.2.2.2.2.1
theorem dX10_splits_22 : decode cX10_splits 22 = .ok (.if_icmp .ne 9, 3) := da9_dX10_splits_0.2.2.2.2.2.2.2.2.2.2.2.2.2.2.2
theorem da9_dX10_splits_25 : (decode cX10_splits 25 = .ok (.iinc 2 1, 3)) ∧ (decode cX10_splits 28 = .ok (.goto (-21), 3)) ∧ (decode cX10_splits 31 = .ok (.iload_n 2, 1)) ∧ (decode cX10_splits 32 = .ok (.iconst 1, 1)) ∧ (decode cX10_splits 33 = .ok (.iadd, 1)) ∧ (decode cX10_splits 34 = .ok (.istore 4, 2)) ∧ (decode cX10_splits 36 = .ok (.iload_n 3, 1)) ∧ (decode cX10_splits 37 = .ok (.invokestatic 178, 3)) ∧ (decode cX10_splits 40 = .ok (.ifCond .eq 28, 3)) ∧ (decode cX10_splits 43 = .ok (.iload 4, 2)) ∧ (decode cX10_splits 45 = .ok (.iload_n 1, 1)) ∧ (decode cX10_splits 46 = .ok (.if_icmp .ge 22, 3)) ∧ (decode cX10_splits 49 = .ok (.aload_n 0, 1)) ∧ (decode cX10_splits 50 = .ok (.getfield 45, 3)) ∧ (decode cX10_splits 53 = .ok (.iload 4, 2)) ∧ (decode cX10_splits 55 = .ok (.baload, 1)) := by decide +kernel
theorem dX10_splits_25 : decode cX10_splits 25 = .ok (.iinc 2 1, 3) := da9_dX10_splits_25.1
theorem dX10_splits_28 : decode cX10_splits 28 = .ok (.goto (-21), 3) := da9_dX10_splits_25.2.1
theorem dX10_splits_31 : decode cX10_splits 31 = .ok (.iload_n 2, 1) := da9_dX10_splits_25.2.2.1
theorem dX10_splits_32 : decode cX10_splits 32 = .ok (.iconst 1, 1) := da9_dX10_splits_25.2.2.2.1
theorem dX10_splits_33 : decode cX10_splits 33 = .ok (.iadd, 1) := da9_dX10_splits_25.2.2.2.2.1
theorem dX10_splits_34 : decode cX10_splits 34 = .ok (.istore 4, 2) := da9_dX10_splits_25.2.2.2.2.2.1
theorem dX10_splits_36 : decode cX10_splits 36 = .ok (.iload_n 3, 1) := da9_dX10_splits_25.2.2.2.2.2.2.1
theorem dX10_splits_37 : decode cX10_splits 37 = .ok (.invokestatic 178, 3) := da9_dX10_splits_25.2.2.2.2.2.2.2.1
theorem dX10_splits_40 : decode cX10_splits 40 = .ok (.ifCond .eq 28, 3) := da9_dX10_splits_25.2.2.2.2.2.2.2.2.1
theorem dX10_splits_43 : decode cX10_splits 43 = .ok (.iload 4, 2) := da9_dX10_splits_25.2.2.2.2.2.2.2.2.2.1
theorem dX10_splits_45 : decode cX10_splits 45 = .ok (.iload_n 1, 1) := da9_dX10_splits_25.2.2.2.2.2.2.2.2.2.2.1
theorem dX10_splits_46 : decode cX10_splits 46 = .ok (.if_icmp .ge 22, 3) := da9_dX10_splits_25.2.2.2.2.2.2.2.2.2.2.2.1
theorem dX10_splits_49 : decode cX10_splits 49 = .ok (.aload_n 0, 1) := da9_dX10_splits_25.2.2.2.2.2.2.2.2.2.2.2.2.1
theorem dX10_splits_50 : decode cX10_splits 50 = .ok (.getfield 45, 3) := da9_dX10_splits_25.2.2.2.2.2.2.2.2.2.2.2.2.2.1
theorem dX10_splits_53 : decode cX10_splits 53 = .ok (.iload 4, 2) := da9_dX10_splits_25.2.2.2.2.2.2.2.2.2.2.2.2.2.2.1
theorem dX10_splits_55 : decode cX10_splits 55 = .ok (.baload, 1) := da9_dX10_splits_25.2.2.2.2.2.2.2.2.2.2.2.2.2.2.2
theorem da9_dX10_splits_56 : (decode cX10_splits 56 = .ok (.invokestatic 178, 3)) ∧ (decode cX10_splits 59 = .ok (.ifCond .eq 9, 3)) ∧ (decode cX10_splits 62 = .ok (.iinc 4 1, 3)) ∧ (decode cX10_splits 65 = .ok (.goto (-22), 3)) ∧ (decode cX10_splits 68 = .ok (.iload_n 3, 1)) ∧ (decode cX10_splits 69 = .ok (.invokestatic 181, 3)) ∧ (decode cX10_splits 72 = .ok (.ifCond .eq 28, 3)) ∧ (decode cX10_splits 75 = .ok (.iload 4, 2)) ∧ (decode cX10_splits 77 = .ok (.iload_n 1, 1)) ∧ (decode cX10_splits 78 = .ok (.if_icmp .ge 22, 3)) ∧ (decode cX10_splits 81 = .ok (.aload_n 0, 1)) ∧ (decode cX10_splits 82 = .ok (.getfield 45, 3)) ∧ (decode cX10_splits 85 = .ok (.iload 4, 2)) ∧ (decode cX10_splits 87 = .ok (.baload, 1)) ∧ (decode cX10_splits 88 = .ok (.invokestatic 181, 3)) ∧ (decode cX10_splits 91 = .ok (.ifCond .eq 9, 3)) := by decide +kernel
theorem dX10_splits_56 : decode cX10_splits 56 = .ok (.invokestatic 178, 3) := da9_dX10_splits_56.1
theorem dX10_splits_59 : decode cX10_splits 59 = .ok (.ifCond .eq 9, 3) := da9_dX10_splits_56.2.1
theorem dX10_splits_62 : decode cX10_splits 62 = .ok (.iinc 4 1, 3) := da9_dX10_splits_56.2.2.1
theorem dX10_splits_65 : decode cX10_splits 65 = .ok (.goto (-22), 3) := da9_dX10_splits_56.2.2.2.1
theorem dX10_splits_68 : decode cX10_splits 68 = .ok (.iload_n 3, 1) := da9_dX10_splits_56.2.2.2.2.1
theorem dX10_splits_69 : decode cX10_splits 69 = .ok (.invokestatic 181, 3) := da9_dX10_splits_56.2.2.2.2.2.1
theorem dX10_splits_72 : decode cX10_splits 72 = .ok (.ifCond .eq 28, 3) := da9_dX10_splits_56.2.2.2.2.2.2.1
theorem dX10_splits_75 : decode cX10_splits 75 = .ok (.iload 4, 2) := da9_dX10_splits_56.2.2.2.2.2.2.2.1
theorem dX10_splits_77 : decode cX10_splits 77 = .ok (.iload_n 1, 1) := da9_dX10_splits_56.2.2.2.2.2.2.2.2.1
theorem dX10_splits_78 : decode cX10_splits 78 = .ok (.if_icmp .ge 22, 3) := da9_dX10_splits_56.2.2.2.2.2.2.2.2.2.1
theorem dX10_splits_81 : decode cX10_splits 81 = .ok (.aload_n 0, 1) := da9_dX10_splits_56.2.2.2.2.2.2.2.2.2.2.1
theorem dX10_splits_82 : decode cX10_splits 82 = .ok (.getfield 45, 3) := da9_dX10_splits_56.2.2.2.2.2.2.2.2.2.2.2.1
theorem dX10_splits_85 : decode cX10_splits 85 = .ok (.iload 4, 2) := da9_dX10_splits_56.2.2.2.2.2.2.2.2.2.2.2.2.1
theorem dX10_splits_87 : decode cX10_splits 87 = .ok (.baload, 1) := da9_dX10_splits_56.2.2.2.2.2.2.2.2.2.2.2.2.2.1
theorem dX10_splits_88 : decode cX10_splits 88 = .ok (.invokestatic 181, 3) := da9_dX10_splits_56.2.2.2.2.2.2.2.2.2.2.2.2.2.2.1
theorem dX10_splits_91 : decode cX10_splits 91 = .ok (.ifCond .eq 9, 3) := da9_dX10_splits_56.2.2.2.2.2.2.2.2.2.2.2.2.2.2.2
theorem da9_dX10_splits_94 : (decode cX10_splits 94 = .ok (.iinc 4 1, 3)) ∧ (decode cX10_splits 97 = .ok (.goto (-22), 3)) ∧ (decode cX10_splits 100 = .ok (.aload_n 0, 1)) ∧ (decode cX10_splits 101 = .ok (.getfield 60, 3)) ∧ (decode cX10_splits 104 = .ok (.aload_n 0, 1)) ∧ (decode cX10_splits 105 = .ok (.getfield 175, 3)) ∧ (decode cX10_splits 108 = .ok (.iload_n 2, 1)) ∧ (decode cX10_splits 109 = .ok (.iastore, 1)) ∧ (decode cX10_splits 110 = .ok (.aload_n 0, 1)) ∧ (decode cX10_splits 111 = .ok (.getfield 57, 3)) ∧ (decode cX10_splits 114 = .ok (.aload_n 0, 1)) ∧ (decode cX10_splits 115 = .ok (.getfield 175, 3)) ∧ (decode cX10_splits 118 = .ok (.iconst 0, 1)) ∧ (decode cX10_splits 119 = .ok (.iastore, 1)) ∧ (decode cX10_splits 120 = .ok (.aload_n 0, 1)) ∧ (decode cX10_splits 121 = .ok (.getfield 54, 3)) := by decide +kernel
theorem dX10_splits_94 : decode cX10_splits 94 = .ok (.iinc 4 1, 3) := da9_dX10_splits_94.1
theorem dX10_splits_97 : decode cX10_splits 97 = .ok (.goto (-22), 3) := da9_dX10_splits_94.2.1
theorem dX10_splits_100 : decode cX10_splits 100 = .ok (.aload_n 0, 1) := da9_dX10_splits_94.2.2.1
theorem dX10_splits_101 : decode cX10_splits 101 = .ok (.getfield 60, 3) := da9_dX10_splits_94.2.2.2.1
theorem dX10_splits_104 : decode cX10_splits 104 = .ok (.aload_n 0, 1) := da9_dX10_splits_94.2.2.2.2.1
theorem dX10_splits_105 : decode cX10_splits 105 = .ok (.getfield 175, 3) := da9_dX10_splits_94.2.2.2.2.2.1
theorem dX10_splits_108 : decode cX10_splits 108 = .ok (.iload_n 2, 1) := da9_dX10_splits_94.2.2.2.2.2.2.1
theorem dX10_splits_109 : decode cX10_splits 109 = .ok (.iastore, 1) := da9_dX10_splits_94.2.2.2.2.2.2.2.1
theorem dX10_splits_110 : decode cX10_splits 110 = .ok (.aload_n 0, 1) := da9_dX10_splits_94.2.2.2.2.2.2.2.2.1
theorem dX10_splits_111 : decode cX10_splits 111 = .ok (.getfield 57, 3) := da9_dX10_splits_94.2.2.2.2.2.2.2.2.2.1
theorem dX10_splits_114 : decode cX10_splits 114 = .ok (.aload_n 0, 1) := da9_dX10_splits_94.2.2.2.2.2.2.2.2.2.2.1
theorem dX10_splits_115 : decode cX10_splits 115 = .ok (.getfield 175, 3) := da9_dX10_splits_94.2.2.2.2.2.2.2.2.2.2.2.1
theorem dX10_splits_118 : decode cX10_splits 118 = .ok (.iconst 0, 1) := da9_dX10_splits_94.2.2.2.2.2.2.2.2.2.2.2.2.1
theorem dX10_splits_119 : decode cX10_splits 119 = .ok (.iastore, 1) := da9_dX10_splits_94.2.2.2.2.2.2.2.2.2.2.2.2.2.1
theorem dX10_splits_120 : decode cX10_splits 120 = .ok (.aload_n 0, 1) := da9_dX10_splits_94.2.2.2.2.2.2.2.2.2.2.2.2.2.2.1
theorem dX10_splits_121 : decode cX10_splits 121 = .ok (.getfield 54, 3) := da9_dX10_splits_94.2.2.2.2.2.2.2.2.2.2.2.2.2.2.2
theorem da9_dX10_splits_124 : (decode cX10_splits 124 = .ok (.aload_n 0, 1)) ∧ (decode cX10_splits 125 = .ok (.getfield 175, 3)) ∧ (decode cX10_splits 128 = .ok (.iload_n 3, 1)) ∧ (decode cX10_splits 129 = .ok (.invokestatic 178, 3)) ∧ (decode cX10_splits 132 = .ok (.ifCond .eq 13, 3)) ∧ (decode cX10_splits 135 = .ok (.aload_n 0, 1)) ∧ (decode cX10_splits 136 = .ok (.iload_n 2, 1)) ∧ (decode cX10_splits 137 = .ok (.iload 4, 2)) ∧ (decode cX10_splits 139 = .ok (.invokevirtual 184, 3)) ∧ (decode cX10_splits 142 = .ok (.goto 23, 3)) ∧ (decode cX10_splits 145 = .ok (.iload_n 3, 1)) ∧ (decode cX10_splits 146 = .ok (.invokestatic 181, 3)) ∧ (decode cX10_splits 149 = .ok (.ifCond .eq 8, 3)) ∧ (decode cX10_splits 152 = .ok (.bipush 50, 2)) ∧ (decode cX10_splits 154 = .ok (.goto 11, 3)) ∧ (decode cX10_splits 157 = .ok (.bipush 100, 2)) := by decide +kernel
theorem dX10_splits_124 : decode cX10_splits 124 = .ok (.aload_n 0, 1) := da9_dX10_splits_124.1
theorem dX10_splits_125 : decode cX10_splits 125 = .ok (.getfield 175, 3) := da9_dX10_splits_124.2.1
theorem dX10_splits_128 : decode cX10_splits 128 = .ok (.iload_n 3, 1) := da9_dX10_splits_124.2.2.1
theorem dX10_splits_129 : decode cX10_splits 129 = .ok (.invokestatic 178, 3) := da9_dX10_splits_124.2.2.2.1
theorem dX10_splits_132 : decode cX10_splits 132 = .ok (.ifCond .eq 13, 3) := da9_dX10_splits_124.2.2.2.2.1
theorem dX10_splits_135 : decode cX10_splits 135 = .ok (.aload_n 0, 1) := da9_dX10_splits_124.2.2.2.2.2.1
theorem dX10_splits_136 : decode cX10_splits 136 = .ok (.iload_n 2, 1) := da9_dX10_splits_124.2.2.2.2.2.2.1
theorem dX10_splits_137 : decode cX10_splits 137 = .ok (.iload 4, 2) := da9_dX10_splits_124.2.2.2.2.2.2.2.1
theorem dX10_splits_139 : decode cX10_splits 139 = .ok (.invokevirtual 184, 3) := da9_dX10_splits_124.2.2.2.2.2.2.2.2.1
theorem dX10_splits_142 : decode cX10_splits 142 = .ok (.goto 23, 3) := da9_dX10_splits_124.2.2.2.2.2.2.2.2.2.1
theorem dX10_splits_145 : decode cX10_splits 145 = .ok (.iload_n 3, 1) := da9_dX10_splits_124.2.2.2.2.2.2.2.2.2.2.1
theorem dX10_splits_146 : decode cX10_splits 146 = .ok (.invokestatic 181, 3) := da9_dX10_splits_124.2.2.2.2.2.2.2.2.2.2.2.1
theorem dX10_splits_149 : decode cX10_splits 149 = .ok (.ifCond .eq 8, 3) := da9_dX10_splits_124.2.2.2.2.2.2.2.2.2.2.2.2.1
theorem dX10_splits_152 : decode cX10_splits 152 = .ok (.bipush 50, 2) := da9_dX10_splits_124.2.2.2.2.2.2.2.2.2.2.2.2.2.1
theorem dX10_splits_154 : decode cX10_splits 154 = .ok (.goto 11, 3) := da9_dX10_splits_124.2.2.2.2.2.2.2.2.2.2.2.2.2.2.1
theorem dX10_splits_157 : decode cX10_splits 157 = .ok (.bipush 100, 2) := da9_dX10_splits_124.2.2.2.2.2.2.2.2.2.2.2.2.2.2.2
theorem da9_dX10_splits_159 : (decode cX10_splits 159 = .ok (.iload_n 3, 1)) ∧ (decode cX10_splits 160 = .ok (.sipush 255, 3)) ∧ (decode cX10_splits 163 = .ok (.iand, 1)) ∧ (decode cX10_splits 164 = .ok (.iadd, 1)) ∧ (decode cX10_splits 165 = .ok (.iastore, 1)) ∧ (decode cX10_splits 166 = .ok (.iload_n 2, 1)) ∧ (decode cX10_splits 167 = .ok (.istore 5, 2)) ∧ (decode cX10_splits 169 = .ok (.iload 5, 2)) ∧ (decode cX10_splits 171 = .ok (.iload 4, 2)) ∧ (decode cX10_splits 173 = .ok (.if_icmp .ge 74, 3)) ∧ (decode cX10_splits 176 = .ok (.iload_n 3, 1)) ∧ (decode cX10_splits 177 = .ok (.invokestatic 181, 3)) ∧ (decode cX10_splits 180 = .ok (.ifCond .eq 67, 3)) ∧ (decode cX10_splits 183 = .ok (.aload_n 0, 1)) ∧ (decode cX10_splits 184 = .ok (.getfield 57, 3)) ∧ (decode cX10_splits 187 = .ok (.aload_n 0, 1)) := by decide +kernel
theorem dX10_splits_159 : decode cX10_splits 159 = .ok (.iload_n 3, 1) := da9_dX10_splits_159.1
theorem dX10_splits_160 : decode cX10_splits 160 = .ok (.sipush 255, 3) := da9_dX10_splits_159.2.1
theorem dX10_splits_163 : decode cX10_splits 163 = .ok (.iand, 1) := da9_dX10_splits_159.2.2.1
theorem dX10_splits_164 : decode cX10_splits 164 = .ok (.iadd, 1) := da9_dX10_splits_159.2.2.2.1
theorem dX10_splits_165 : decode cX10_splits 165 = .ok (.iastore, 1) := da9_dX10_splits_159.2.2.2.2.1
theorem dX10_splits_166 : decode cX10_splits 166 = .ok (.iload_n 2, 1) := da9_dX10_splits_159.2.2.2.2.2.1
theorem dX10_splits_167 : decode cX10_splits 167 = .ok (.istore 5, 2) := da9_dX10_splits_159.2.2.2.2.2.2.1
theorem dX10_splits_169 : decode cX10_splits 169 = .ok (.iload 5, 2) := da9_dX10_splits_159.2.2.2.2.2.2.2.1
theorem dX10_splits_171 : decode cX10_splits 171 = .ok (.iload 4, 2) := da9_dX10_splits_159.2.2.2.2.2.2.2.2.1
theorem dX10_splits_173 : decode cX10_splits 173 = .ok (.if_icmp .ge 74, 3) := da9_dX10_splits_159.2.2.2.2.2.2.2.2.2.1
theorem dX10_splits_176 : decode cX10_splits 176 = .ok (.iload_n 3, 1) := da9_dX10_splits_159.2.2.2.2.2.2.2.2.2.2.1
theorem dX10_splits_177 : decode cX10_splits 177 = .ok (.invokestatic 181, 3) := da9_dX10_splits_159.2.2.2.2.2.2.2.2.2.2.2.1
theorem dX10_splits_180 : decode cX10_splits 180 = .ok (.ifCond .eq 67, 3) := da9_dX10_splits_159.2.2.2.2.2.2.2.2.2.2.2.2.1
theorem dX10_splits_183 : decode cX10_splits 183 = .ok (.aload_n 0, 1) := da9_dX10_splits_159.2.2.2.2.2.2.2.2.2.2.2.2.2.1
theorem dX10_splits_184 : decode cX10_splits 184 = .ok (.getfield 57, 3) := da9_dX10_splits_159.2.2.2.2.2.2.2.2.2.2.2.2.2.2.1
theorem dX10_splits_187 : decode cX10_splits 187 = .ok (.aload_n 0, 1) := da9_dX10_splits_159.2.2.2.2.2.2.2.2.2.2.2.2.2.2.2
theorem da9_dX10_splits_188 : (decode cX10_splits 188 = .ok (.getfield 175, 3)) ∧ (decode cX10_splits 191 = .ok (.aload_n 0, 1)) ∧ (decode cX10_splits 192 = .ok (.getfield 57, 3)) ∧ (decode cX10_splits 195 = .ok (.aload_n 0, 1)) ∧ (decode cX10_splits 196 = .ok (.getfield 175, 3)) ∧ (decode cX10_splits 199 = .ok (.iaload, 1)) ∧ (decode cX10_splits 200 = .ok (.ldc 188, 2)) ∧ (decode cX10_splits 202 = .ok (.if_icmp .le 15, 3)) ∧ (decode cX10_splits 205 = .ok (.aload_n 0, 1)) ∧ (decode cX10_splits 206 = .ok (.getfield 57, 3)) ∧ (decode cX10_splits 209 = .ok (.aload_n 0, 1)) ∧ (decode cX10_splits 210 = .ok (.getfield 175, 3)) ∧ (decode cX10_splits 213 = .ok (.iaload, 1)) ∧ (decode cX10_splits 214 = .ok (.goto 26, 3)) ∧ (decode cX10_splits 217 = .ok (.bipush 10, 2)) ∧ (decode cX10_splits 219 = .ok (.aload_n 0, 1)) := by decide +kernel
theorem dX10_splits_188 : decode cX10_splits 188 = .ok (.getfield 175, 3) := da9_dX10_splits_188.1
theorem dX10_splits_191 : decode cX10_splits 191 = .ok (.aload_n 0, 1) := da9_dX10_splits_188.2.1
theorem dX10_splits_192 : decode cX10_splits 192 = .ok (.getfield 57, 3) := da9_dX10_splits_188.2.2.1
theorem dX10_splits_195 : decode cX10_splits 195 = .ok (.aload_n 0, 1) := da9_dX10_splits_188.2.2.2.1
theorem dX10_splits_196 : decode cX10_splits 196 = .ok (.getfield 175, 3) := da9_dX10_splits_188.2.2.2.2.1
theorem dX10_splits_199 : decode cX10_splits 199 = .ok (.iaload, 1) := da9_dX10_splits_188.2.2.2.2.2.1
theorem dX10_splits_200 : decode cX10_splits 200 = .ok (.ldc 188, 2) := da9_dX10_splits_188.2.2.2.2.2.2.1
theorem dX10_splits_202 : decode cX10_splits 202 = .ok (.if_icmp .le 15, 3) := da9_dX10_splits_188.2.2.2.2.2.2.2.1
theorem dX10_splits_205 : decode cX10_splits 205 = .ok (.aload_n 0, 1) := da9_dX10_splits_188.2.2.2.2.2.2.2.2.1
theorem dX10_splits_206 : decode cX10_splits 206 = .ok (.getfield 57, 3) := da9_dX10_splits_188.2.2.2.2.2.2.2.2.2.1
theorem dX10_splits_209 : decode cX10_splits 209 = .ok (.aload_n 0, 1) := da9_dX10_splits_188.2.2.2.2.2.2.2.2.2.2.1
theorem dX10_splits_210 : decode cX10_splits 210 = .ok (.getfield 175, 3) := da9_dX10_splits_188.2.2.2.2.2.2.2.2.2.2.2.1
theorem dX10_splits_213 : decode cX10_splits 213 = .ok (.iaload, 1) := da9_dX10_splits_188.2.2.2.2.2.2.2.2.2.2.2.2.1
theorem dX10_splits_214 : decode cX10_splits 214 = .ok (.goto 26, 3) := da9_dX10_splits_188.2.2.2.2.2.2.2.2.2.2.2.2.2.1
theorem dX10_splits_217 : decode cX10_splits 217 = .ok (.bipush 10, 2) := da9_dX10_splits_188.2.2.2.2.2.2.2.2.2.2.2.2.2.2.1
theorem dX10_splits_219 : decode cX10_splits 219 = .ok (.aload_n 0, 1) := da9_dX10_splits_188.2.2.2.2.2.2.2.2.2.2.2.2.2.2.2
theorem da9_dX10_splits_220 : (decode cX10_splits 220 = .ok (.getfield 57, 3)) ∧ (decode cX10_splits 223 = .ok (.aload_n 0, 1)) ∧ (decode cX10_splits 224 = .ok (.getfield 175, 3)) ∧ (decode cX10_splits 227 = .ok (.iaload, 1)) ∧ (decode cX10_splits 228 = .ok (.imul, 1)) ∧ (decode cX10_splits 229 = .ok (.aload_n 0, 1)) ∧ (decode cX10_splits 230 = .ok (.getfield 45, 3)) ∧ (decode cX10_splits 233 = .ok (.iload 5, 2)) ∧ (decode cX10_splits 235 = .ok (.baload, 1)) ∧ (decode cX10_splits 236 = .ok (.iadd, 1)) ∧ (decode cX10_splits 237 = .ok (.bipush 48, 2)) ∧ (decode cX10_splits 239 = .ok (.isub, 1)) ∧ (decode cX10_splits 240 = .ok (.iastore, 1)) ∧ (decode cX10_splits 241 = .ok (.iinc 5 1, 3)) ∧ (decode cX10_splits 244 = .ok (.goto (-75), 3)) ∧ (decode cX10_splits 247 = .ok (.aload_n 0, 1)) := by decide +kernel
theorem dX10_splits_220 : decode cX10_splits 220 = .ok (.getfield 57, 3) := da9_dX10_splits_220.1
theorem dX10_splits_223 : decode cX10_splits 223 = .ok (.aload_n 0, 1) := da9_dX10_splits_220.2.1
theorem dX10_splits_224 : decode cX10_splits 224 = .ok (.getfield 175, 3) := da9_dX10_splits_220.2.2.1
theorem dX10_splits_227 : decode cX10_splits 227 = .ok (.iaload, 1) := da9_dX10_splits_220.2.2.2.1
theorem dX10_splits_228 : decode cX10_splits 228 = .ok (.imul, 1) := da9_dX10_splits_220.2.2.2.2.1
theorem dX10_splits_229 : decode cX10_splits 229 = .ok (.aload_n 0, 1) := da9_dX10_splits_220.2.2.2.2.2.1
theorem dX10_splits_230 : decode cX10_splits 230 = .ok (.getfield 45, 3) := da9_dX10_splits_220.2.2.2.2.2.2.1
theorem dX10_splits_233 : decode cX10_splits 233 = .ok (.iload 5, 2) := da9_dX10_splits_220.2.2.2.2.2.2.2.1
theorem dX10_splits_235 : decode cX10_splits 235 = .ok (.baload, 1) := da9_dX10_splits_220.2.2.2.2.2.2.2.2.1
theorem dX10_splits_236 : decode cX10_splits 236 = .ok (.iadd, 1) := da9_dX10_splits_220.2.2.2.2.2.2.2.2.2.1
theorem dX10_splits_237 : decode cX10_splits 237 = .ok (.bipush 48, 2) := da9_dX10_splits_220.2.2.2.2.2.2.2.2.2.2.1
theorem dX10_splits_239 : decode cX10_splits 239 = .ok (.isub, 1) := da9_dX10_splits_220.2.2.2.2.2.2.2.2.2.2.2.1
theorem dX10_splits_240 : decode cX10_splits 240 = .ok (.iastore, 1) := da9_dX10_splits_220.2.2.2.2.2.2.2.2.2.2.2.2.1
theorem dX10_splits_241 : decode cX10_splits 241 = .ok (.iinc 5 1, 3) := da9_dX10_splits_220.2.2.2.2.2.2.2.2.2.2.2.2.2.1
theorem dX10_splits_244 : decode cX10_splits 244 = .ok (.goto (-75), 3) := da9_dX10_splits_220.2.2.2.2.2.2.2.2.2.2.2.2.2.2.1
theorem dX10_splits_247 : decode cX10_splits 247 = .ok (.aload_n 0, 1) := da9_dX10_splits_220.2.2.2.2.2.2.2.2.2.2.2.2.2.2.2
theorem da9_dX10_splits_248 : (decode cX10_splits 248 = .ok (.dup, 1)) ∧ (decode cX10_splits 249 = .ok (.getfield 175, 3)) ∧ (decode cX10_splits 252 = .ok (.iconst 1, 1)) ∧ (decode cX10_splits 253 = .ok (.iadd, 1)) ∧ (decode cX10_splits 254 = .ok (.putfield 175, 3)) ∧ (decode cX10_splits 257 = .ok (.iload 4, 2)) ∧ (decode cX10_splits 259 = .ok (.istore_n 2, 1)) ∧ (decode cX10_splits 260 = .ok (.goto (-253), 3)) ∧ (decode cX10_splits 263 = .ok (.aload_n 0, 1)) ∧ (decode cX10_splits 264 = .ok (.getfield 60, 3)) ∧ (decode cX10_splits 267 = .ok (.aload_n 0, 1)) ∧ (decode cX10_splits 268 = .ok (.getfield 175, 3)) ∧ (decode cX10_splits 271 = .ok (.iload_n 1, 1)) ∧ (decode cX10_splits 272 = .ok (.iastore, 1)) ∧ (decode cX10_splits 273 = .ok (.aload_n 0, 1)) ∧ (decode cX10_splits 274 = .ok (.getfield 54, 3)) := by decide +kernel
theorem dX10_splits_248 : decode cX10_splits 248 = .ok (.dup, 1) := da9_dX10_splits_248.1
theorem dX10_splits_249 : decode cX10_splits 249 = .ok (.getfield 175, 3) := da9_dX10_splits_248.2.1
theorem dX10_splits_252 : decode cX10_splits 252 = .ok (.iconst 1, 1) := da9_dX10_splits_248.2.2.1
theorem dX10_splits_253 : decode cX10_splits 253 = .ok (.iadd, 1) := da9_dX10_splits_248.2.2.2.1
theorem dX10_splits_254 : decode cX10_splits 254 = .ok (.putfield 175, 3) := da9_dX10_splits_248.2.2.2.2.1
theorem dX10_splits_257 : decode cX10_splits 257 = .ok (.iload 4, 2) := da9_dX10_splits_248.2.2.2.2.2.1
theorem dX10_splits_259 : decode cX10_splits 259 = .ok (.istore_n 2, 1) := da9_dX10_splits_248.2.2.2.2.2.2.1
theorem dX10_splits_260 : decode cX10_splits 260 = .ok (.goto (-253), 3) := da9_dX10_splits_248.2.2.2.2.2.2.2.1
theorem dX10_splits_263 : decode cX10_splits 263 = .ok (.aload_n 0, 1) := da9_dX10_splits_248.2.2.2.2.2.2.2.2.1
theorem dX10_splits_264 : decode cX10_splits 264 = .ok (.getfield 60, 3) := da9_dX10_splits_248.2.2.2.2.2.2.2.2.2.1
theorem dX10_splits_267 : decode cX10_splits 267 = .ok (.aload_n 0, 1) := da9_dX10_splits_248.2.2.2.2.2.2.2.2.2.2.1
theorem dX10_splits_268 : decode cX10_splits 268 = .ok (.getfield 175, 3) := da9_dX10_splits_248.2.2.2.2.2.2.2.2.2.2.2.1
theorem dX10_splits_271 : decode cX10_splits 271 = .ok (.iload_n 1, 1) := da9_dX10_splits_248.2.2.2.2.2.2.2.2.2.2.2.2.1
theorem dX10_splits_272 : decode cX10_splits 272 = .ok (.iastore, 1) := da9_dX10_splits_248.2.2.2.2.2.2.2.2.2.2.2.2.2.1
theorem dX10_splits_273 : decode cX10_splits 273 = .ok (.aload_n 0, 1) := da9_dX10_splits_248.2.2.2.2.2.2.2.2.2.2.2.2.2.2.1
theorem dX10_splits_274 : decode cX10_splits 274 = .ok (.getfield 54, 3) := da9_dX10_splits_248.2.2.2.2.2.2.2.2.2.2.2.2.2.2.2
theorem da9_dX10_splits_277 : (decode cX10_splits 277 = .ok (.aload_n 0, 1)) ∧ (decode cX10_splits 278 = .ok (.getfield 175, 3)) ∧ (decode cX10_splits 281 = .ok (.iconst 0, 1)) ∧ (decode cX10_splits 282 = .ok (.iastore, 1)) ∧ (decode cX10_splits 283 = .ok (.aload_n 0, 1)) ∧ (decode cX10_splits 284 = .ok (.getfield 57, 3)) ∧ (decode cX10_splits 287 = .ok (.aload_n 0, 1)) ∧ (decode cX10_splits 288 = .ok (.getfield 175, 3)) ∧ (decode cX10_splits 291 = .ok (.iconst 0, 1)) ∧ (decode cX10_splits 292 = .ok (.iastore, 1)) ∧ (decode cX10_splits 293 = .ok (.return_, 1)) := by decide +kernel
theorem dX10_splits_277 : decode cX10_splits 277 = .ok (.aload_n 0, 1) := da9_dX10_splits_277.1
theorem dX10_splits_278 : decode cX10_splits 278 = .ok (.getfield 175, 3) := da9_dX10_splits_277.2.1
theorem dX10_splits_281 : decode cX10_splits 281 = .ok (.iconst 0, 1) := da9_dX10_splits_277.2.2.1
theorem dX10_splits_282 : decode cX10_splits 282 = .ok (.iastore, 1) := da9_dX10_splits_277.2.2.2.1
theorem dX10_splits_283 : decode cX10_splits 283 = .ok (.aload_n 0, 1) := da9_dX10_splits_277.2.2.2.2.1
theorem dX10_splits_284 : decode cX10_splits 284 = .ok (.getfield 57, 3) := da9_dX10_splits_277.2.2.2.2.2.1
theorem dX10_splits_287 : decode cX10_splits 287 = .ok (.aload_n 0, 1) := da9_dX10_splits_277.2.2.2.2.2.2.1
theorem dX10_splits_288 : decode cX10_splits 288 = .ok (.getfield 175, 3) := da9_dX10_splits_277.2.2.2.2.2.2.2.1
theorem dX10_splits_291 : decode cX10_splits 291 = .ok (.iconst 0, 1) := da9_dX10_splits_277.2.2.2.2.2.2.2.2.1
theorem dX10_splits_292 : decode cX10_splits 292 = .ok (.iastore, 1) := da9_dX10_splits_277.2.2.2.2.2.2.2.2.2.1
theorem dX10_splits_293 : decode cX10_splits 293 = .ok (.return_, 1) := da9_dX10_splits_277.2.2.2.2.2.2.2.2.2.2
theorem da9_dX10_fine_0 : (decode cX10_fine 0 = .ok (.aload_n 0, 1)) ∧ (decode cX10_fine 1 = .ok (.getfield 189, 3)) ∧ (decode cX10_fine 4 = .ok (.iconst (-1), 1)) ∧ (decode cX10_fine 5 = .ok (.if_icmp .ne 7, 3)) ∧ (decode cX10_fine 8 = .ok (.iconst 1, 1)) ∧ (decode cX10_fine 9 = .ok (.goto 4, 3)) ∧ (decode cX10_fine 12 = .ok (.iconst 0, 1)) ∧ (decode cX10_fine 13 = .ok (.ireturn, 1)) := by decide +kernel
theorem dX10_fine_0 : decode cX10_fine 0 = .ok (.aload_n 0, 1) := da9_dX10_fine_0.1
theorem dX10_fine_1 : decode cX10_fine 1 = .ok (.getfield 189, 3) := da9_dX10_fine_0.2.1
theorem dX10_fine_4 : decode cX10_fine 4 = .ok (.iconst (-1), 1) := da9_dX10_fine_0.2.2.1
theorem dX10_fine_5 : decode cX10_fine 5 = .ok (.if_icmp .ne 7, 3) := da9_dX10_fine_0.2.2.2.1
theorem dX10_fine_8 : decode cX10_fine 8 = .ok (.iconst 1, 1) := da9_dX10_fine_0.2.2.2.2.1
theorem dX10_fine_9 : decode cX10_fine 9 = .ok (.goto 4, 3) := da9_dX10_fine_0.2.2.2.2.2.1
theorem dX10_fine_12 : decode cX10_fine 12 = .ok (.iconst 0, 1) := da9_dX10_fine_0.2.2.2.2.2.2.1
theorem dX10_fine_13 : decode cX10_fine 13 = .ok (.ireturn, 1) := da9_dX10_fine_0.2.2.2.2.2.2.2
set_option maxRecDepth 20000 in
theorem ggX10_faults_X10_fine : GoodIn wsX10_faults wsX10_fine := wd_c vW10_ok mvW10_199
set_option maxRecDepth 20000 in
theorem gX10_faults_X10_fine : GoodIn wsX10_faults (wsV RX10 192 RX10 yX10_fine wsX10_fine) := goodIn_app (wd_l vW10_ok _ pvW10_160) ggX10_faults_X10_fine
theorem da9_dX10_faults_0 : (decode cX10_faults 0 = .ok (.aload_n 0, 1)) ∧ (decode cX10_faults 1 = .ok (.invokevirtual 192, 3)) ∧ (decode cX10_faults 4 = .ok (.ifCond .eq 16, 3)) ∧ (decode cX10_faults 7 = .ok (.aload_n 0, 1)) ∧ (decode cX10_faults 8 = .ok (.aload_n 0, 1)) ∧ (decode cX10_faults 9 = .ok (.getfield 60, 3)) ∧ (decode cX10_faults 12 = .ok (.aload_n 0, 1)) ∧ (decode cX10_faults 13 = .ok (.getfield 196, 3)) ∧ (decode cX10_faults 16 = .ok (.iaload, 1)) ∧ (decode cX10_faults 17 = .ok (.putfield 189, 3)) ∧ (decode cX10_faults 20 = .ok (.return_, 1)) := by decide +kernel
theorem dX10_faults_0 : decode cX10_faults 0 = .ok (.aload_n 0, 1) := da9_dX10_faults_0.1
theorem dX10_faults_1 : decode cX10_faults 1 = .ok (.invokevirtual 192, 3) := da9_dX10_faults_0.2.1
theorem dX10_faults_4 : decode cX10_faults 4 = .ok (.ifCond .eq 16, 3) := da9_dX10_faults_0.2.2.1
theorem dX10_faults_7 : decode cX10_faults 7 = .ok (.aload_n 0, 1) := da9_dX10_faults_0.2.2.2.1
theorem dX10_faults_8 : decode cX10_faults 8 = .ok (.aload_n 0, 1) := da9_dX10_faults_0.2.2.2.2.1
theorem dX10_faults_9 : decode cX10_faults 9 = .ok (.getfield 60, 3) := da9_dX10_faults_0.2.2.2.2.2.1
theorem dX10_faults_12 : decode cX10_faults 12 = .ok (.aload_n 0, 1) := da9_dX10_faults_0.2.2.2.2.2.2.1
theorem dX10_faults_13 : decode cX10_faults 13 = .ok (.getfield 196, 3) := da9_dX10_faults_0.2.2.2.2.2.2.2.1
theorem dX10_faults_16 : decode cX10_faults 16 = .ok (.iaload, 1) := da9_dX10_faults_0.2.2.2.2.2.2.2.2.1
theorem dX10_faults_17 : decode cX10_faults 17 = .ok (.putfield 189, 3) := da9_dX10_faults_0.2.2.2.2.2.2.2.2.2.1
theorem dX10_faults_20 : decode cX10_faults 20 = .ok (.return_, 1) := da9_dX10_faults_0.2.2.2.2.2.2.2.2.2.2
set_option maxRecDepth 20000 in
theorem ggX10_takes0_X10_fine : GoodIn wsX10_takes0 wsX10_fine := wd_c vW10_ok mvW10_199
set_option maxRecDepth 20000 in
theorem gX10_takes0_X10_fine : GoodIn wsX10_takes0 (wsV RX10 192 RX10 yX10_fine wsX10_fine) := goodIn_app (wd_l vW10_ok _ pvW10_160) ggX10_takes0_X10_fine
theorem da9_dX10_takes0_0 : (decode cX10_takes0 0 = .ok (.aload_n 0, 1)) ∧ (decode cX10_takes0 1 = .ok (.invokevirtual 192, 3)) ∧ (decode cX10_takes0 4 = .ok (.ifCond .eq 20, 3)) ∧ (decode cX10_takes0 7 = .ok (.aload_n 0, 1)) ∧ (decode cX10_takes0 8 = .ok (.getfield 54, 3)) ∧ (decode cX10_takes0 11 = .ok (.aload_n 0, 1)) ∧ (decode cX10_takes0 12 = .ok (.getfield 196, 3)) ∧ (decode cX10_takes0 15 = .ok (.iaload, 1)) ∧ (decode cX10_takes0 16 = .ok (.iload_n 1, 1)) ∧ (decode cX10_takes0 17 = .ok (.if_icmp .ne 7, 3)) ∧ (decode cX10_takes0 20 = .ok (.iconst 1, 1)) ∧ (decode cX10_takes0 21 = .ok (.goto 4, 3)) ∧ (decode cX10_takes0 24 = .ok (.iconst 0, 1)) ∧ (decode cX10_takes0 25 = .ok (.istore_n 2, 1)) ∧ (decode cX10_takes0 26 = .ok (.iload_n 2, 1)) ∧ (decode cX10_takes0 27 = .ok (.ifCond .eq 13, 3)) := by decide +kernel
theorem dX10_takes0_0 : decode cX10_takes0 0 = .ok (.aload_n 0, 1) := da9_dX10_takes0_0.1
theorem dX10_takes0_1 : decode cX10_takes0 1 = .ok (.invokevirtual 192, 3) := da9_dX10_takes0_0.2.1
theorem dX10_takes0_4 : decode cX10_takes0 4 = .ok (.ifCond .eq 20, 3) := da9_dX10_takes0_0.2.2.1
theorem dX10_takes0_7 : decode cX10_takes0 7 = .ok (.aload_n 0, 1) := da9_dX10_takes0_0.2.2.2.1
theorem dX10_takes0_8 : decode cX10_takes0 8 = .ok (.getfield 54, 3) := da9_dX10_takes0_0.2.2.2.2.1
theorem dX10_takes0_11 : decode cX10_takes0 11 = .ok (.aload_n 0, 1) := da9_dX10_takes0_0.2.2.2.2.2.1
theorem dX10_takes0_12 : decode cX10_takes0 12 = .ok (.getfield 196, 3) := da9_dX10_takes0_0.2.2.2.2.2.2.1
theorem dX10_takes0_15 : decode cX10_takes0 15 = .ok (.iaload, 1) := da9_dX10_takes0_0.2.2.2.2.2.2.2.1
theorem dX10_takes0_16 : decode cX10_takes0 16 = .ok (.iload_n 1, 1) := da9_dX10_takes0_0.2.2.2.2.2.2.2.2.1
theorem dX10_takes0_17 : decode cX10_takes0 17 = .ok (.if_icmp .ne 7, 3) := da9_dX10_takes0_0.2.2.2.2.2.2.2.2.2.1
theorem dX10_takes0_20 : decode cX10_takes0 20 = .ok (.iconst 1, 1) := da9_dX10_takes0_0.2.2.2.2.2.2.2.2.2.2.1
theorem dX10_takes0_21 : decode cX10_takes0 21 = .ok (.goto 4, 3) := da9_dX10_takes0_0.2.2.2.2.2.2.2.2.2.2.2.1
theorem dX10_takes0_24 : decode cX10_takes0 24 = .ok (.iconst 0, 1) := da9_dX10_takes0_0.2.2.2.2.2.2.2.2.2.2.2.2.1
theorem dX10_takes0_25 : decode cX10_takes0 25 = .ok (.istore_n 2, 1) := da9_dX10_takes0_0.2.2.2.2.2.2.2.2.2.2.2.2.2.1
theorem dX10_takes0_26 : decode cX10_takes0 26 = .ok (.iload_n 2, 1) := da9_dX10_takes0_0.2.2.2.2.2.2.2.2.2.2.2.2.2.2.1
theorem dX10_takes0_27 : decode cX10_takes0 27 = .ok (.ifCond .eq 13, 3) := da9_dX10_takes0_0.2.2.2.2.2.2.2.2.2.2.2.2.2.2.2
theorem da9_dX10_takes0_30 : (decode cX10_takes0 30 = .ok (.aload_n 0, 1)) ∧ (decode cX10_takes0 31 = .ok (.dup, 1)) ∧ (decode cX10_takes0 32 = .ok (.getfield 196, 3)) ∧ (decode cX10_takes0 35 = .ok (.iconst 1, 1)) ∧ (decode cX10_takes0 36 = .ok (.iadd, 1)) ∧ (decode cX10_takes0 37 = .ok (.putfield 196, 3)) ∧ (decode cX10_takes0 40 = .ok (.iload_n 2, 1)) ∧ (decode cX10_takes0 41 = .ok (.ireturn, 1)) := by decide +kernel
theorem dX10_takes0_30 : decode cX10_takes0 30 = .ok (.aload_n 0, 1) := da9_dX10_takes0_30.1
theorem dX10_takes0_31 : decode cX10_takes0 31 = .ok (.dup, 1) := da9_dX10_takes0_30.2.1
theorem dX10_takes0_32 : decode cX10_takes0 32 = .ok (.getfield 196, 3) := da9_dX10_takes0_30.2.2.1
theorem dX10_takes0_35 : decode cX10_takes0 35 = .ok (.iconst 1, 1) := da9_dX10_takes0_30.2.2.2.1
theorem dX10_takes0_36 : decode cX10_takes0 36 = .ok (.iadd, 1) := da9_dX10_takes0_30.2.2.2.2.1
theorem dX10_takes0_37 : decode cX10_takes0 37 = .ok (.putfield 196, 3) := da9_dX10_takes0_30.2.2.2.2.2.1
theorem dX10_takes0_40 : decode cX10_takes0 40 = .ok (.iload_n 2, 1) := da9_dX10_takes0_30.2.2.2.2.2.2.1
theorem dX10_takes0_41 : decode cX10_takes0 41 = .ok (.ireturn, 1) := da9_dX10_takes0_30.2.2.2.2.2.2.2
set_option maxRecDepth 20000 in
theorem ggX10_must_X10_takes0 : GoodIn wsX10_must wsX10_takes0 := wd_c vW10_ok mvW10_195
set_option maxRecDepth 20000 in
theorem gX10_must_X10_takes0 : GoodIn wsX10_must (wsV RX10 199 RX10 yX10_takes0 wsX10_takes0) := goodIn_app (wd_l vW10_ok _ pvW10_161) ggX10_must_X10_takes0
set_option maxRecDepth 20000 in
theorem ggX10_must_X10_faults : GoodIn wsX10_must wsX10_faults := wd_c vW10_ok mvW10_211
set_option maxRecDepth 20000 in
theorem gX10_must_X10_faults : GoodIn wsX10_must (wsV RX10 202 RX10 yX10_faults wsX10_faults) := goodIn_app (wd_l vW10_ok _ pvW10_162) ggX10_must_X10_faults
theorem da9_dX10_must_0 : (decode cX10_must 0 = .ok (.aload_n 0, 1)) ∧ (decode cX10_must 1 = .ok (.iload_n 1, 1)) ∧ (decode cX10_must 2 = .ok (.invokevirtual 199, 3)) ∧ (decode cX10_must 5 = .ok (.ifCond .ne 7, 3)) ∧ (decode cX10_must 8 = .ok (.aload_n 0, 1)) ∧ (decode cX10_must 9 = .ok (.invokevirtual 202, 3)) ∧ (decode cX10_must 12 = .ok (.return_, 1)) := by decide +kernel
theorem dX10_must_0 : decode cX10_must 0 = .ok (.aload_n 0, 1) := da9_dX10_must_0.1
theorem dX10_must_1 : decode cX10_must 1 = .ok (.iload_n 1, 1) := da9_dX10_must_0.2.1
theorem dX10_must_2 : decode cX10_must 2 = .ok (.invokevirtual 199, 3) := da9_dX10_must_0.2.2.1
theorem dX10_must_5 : decode cX10_must 5 = .ok (.ifCond .ne 7, 3) := da9_dX10_must_0.2.2.2.1
theorem dX10_must_8 : decode cX10_must 8 = .ok (.aload_n 0, 1) := da9_dX10_must_0.2.2.2.2.1
theorem dX10_must_9 : decode cX10_must 9 = .ok (.invokevirtual 202, 3) := da9_dX10_must_0.2.2.2.2.2.1
theorem dX10_must_12 : decode cX10_must 12 = .ok (.return_, 1) := da9_dX10_must_0.2.2.2.2.2.2
set_option maxRecDepth 20000 in
theorem ggX10_leaf_X10_faults : GoodIn wsX10_leaf wsX10_faults := wd_c vW10_ok mvW10_211
set_option maxRecDepth 20000 in
theorem gX10_leaf_X10_faults : GoodIn wsX10_leaf (wsV RX10 202 RX10 yX10_faults wsX10_faults) := goodIn_app (wd_l vW10_ok _ pvW10_162) ggX10_leaf_X10_faults
set_option maxRecDepth 20000 in
theorem ggX10_leaf_X10_fine : GoodIn wsX10_leaf wsX10_fine := wd_c vW10_ok mvW10_199
set_option maxRecDepth 20000 in
theorem gX10_leaf_X10_fine : GoodIn wsX10_leaf (wsV RX10 192 RX10 yX10_fine wsX10_fine) := goodIn_app (wd_l vW10_ok _ pvW10_160) ggX10_leaf_X10_fine
theorem da9_dX10_leaf_0 : (decode cX10_leaf 0 = .ok (.aload_n 0, 1)) ∧ (decode cX10_leaf 1 = .ok (.getfield 205, 3)) ∧ (decode cX10_leaf 4 = .ok (.bipush 50, 2)) ∧ (decode cX10_leaf 6 = .ok (.if_icmp .ne 7, 3)) ∧ (decode cX10_leaf 9 = .ok (.aload_n 0, 1)) ∧ (decode cX10_leaf 10 = .ok (.invokevirtual 202, 3)) ∧ (decode cX10_leaf 13 = .ok (.aload_n 0, 1)) ∧ (decode cX10_leaf 14 = .ok (.dup, 1)) ∧ (decode cX10_leaf 15 = .ok (.getfield 205, 3)) ∧ (decode cX10_leaf 18 = .ok (.iconst 1, 1)) ∧ (decode cX10_leaf 19 = .ok (.iadd, 1)) ∧ (decode cX10_leaf 20 = .ok (.putfield 205, 3)) ∧ (decode cX10_leaf 23 = .ok (.aload_n 0, 1)) ∧ (decode cX10_leaf 24 = .ok (.invokevirtual 192, 3)) ∧ (decode cX10_leaf 27 = .ok (.ifCond .eq 13, 3)) ∧ (decode cX10_leaf 30 = .ok (.aload_n 0, 1)) := by decide +kernel
theorem dX10_leaf_0 : decode cX10_leaf 0 = .ok (.aload_n 0, 1) := da9_dX10_leaf_0.1
theorem dX10_leaf_1 : decode cX10_leaf 1 = .ok (.getfield 205, 3) := da9_dX10_leaf_0.2.1
theorem dX10_leaf_4 : decode cX10_leaf 4 = .ok (.bipush 50, 2) := da9_dX10_leaf_0.2.2.1
theorem dX10_leaf_6 : decode cX10_leaf 6 = .ok (.if_icmp .ne 7, 3) := da9_dX10_leaf_0.2.2.2.1
theorem dX10_leaf_9 : decode cX10_leaf 9 = .ok (.aload_n 0, 1) := da9_dX10_leaf_0.2.2.2.2.1
theorem dX10_leaf_10 : decode cX10_leaf 10 = .ok (.invokevirtual 202, 3) := da9_dX10_leaf_0.2.2.2.2.2.1
theorem dX10_leaf_13 : decode cX10_leaf 13 = .ok (.aload_n 0, 1) := da9_dX10_leaf_0.2.2.2.2.2.2.1
theorem dX10_leaf_14 : decode cX10_leaf 14 = .ok (.dup, 1) := da9_dX10_leaf_0.2.2.2.2.2.2.2.1
theorem dX10_leaf_15 : decode cX10_leaf 15 = .ok (.getfield 205, 3) := da9_dX10_leaf_0.2.2.2.2.2.2.2.2.1
theorem dX10_leaf_18 : decode cX10_leaf 18 = .ok (.iconst 1, 1) := da9_dX10_leaf_0.2.2.2.2.2.2.2.2.2.1
theorem dX10_leaf_19 : decode cX10_leaf 19 = .ok (.iadd, 1) := da9_dX10_leaf_0.2.2.2.2.2.2.2.2.2.2.1
theorem dX10_leaf_20 : decode cX10_leaf 20 = .ok (.putfield 205, 3) := da9_dX10_leaf_0.2.2.2.2.2.2.2.2.2.2.2.1
theorem dX10_leaf_23 : decode cX10_leaf 23 = .ok (.aload_n 0, 1) := da9_dX10_leaf_0.2.2.2.2.2.2.2.2.2.2.2.2.1
theorem dX10_leaf_24 : decode cX10_leaf 24 = .ok (.invokevirtual 192, 3) := da9_dX10_leaf_0.2.2.2.2.2.2.2.2.2.2.2.2.2.1
theorem dX10_leaf_27 : decode cX10_leaf 27 = .ok (.ifCond .eq 13, 3) := da9_dX10_leaf_0.2.2.2.2.2.2.2.2.2.2.2.2.2.2.1
theorem dX10_leaf_30 : decode cX10_leaf 30 = .ok (.aload_n 0, 1) := da9_dX10_leaf_0.2.2.2.2.2.2.2.2.2.2.2.2.2.2.2
theorem da9_dX10_leaf_31 : (decode cX10_leaf 31 = .ok (.dup, 1)) ∧ (decode cX10_leaf 32 = .ok (.getfield 196, 3)) ∧ (decode cX10_leaf 35 = .ok (.iconst 1, 1)) ∧ (decode cX10_leaf 36 = .ok (.iadd, 1)) ∧ (decode cX10_leaf 37 = .ok (.putfield 196, 3)) ∧ (decode cX10_leaf 40 = .ok (.return_, 1)) := by decide +kernel
theorem dX10_leaf_31 : decode cX10_leaf 31 = .ok (.dup, 1) := da9_dX10_leaf_31.1
theorem dX10_leaf_32 : decode cX10_leaf 32 = .ok (.getfield 196, 3) := da9_dX10_leaf_31.2.1
theorem dX10_leaf_35 : decode cX10_leaf 35 = .ok (.iconst 1, 1) := da9_dX10_leaf_31.2.2.1
theorem dX10_leaf_36 : decode cX10_leaf 36 = .ok (.iadd, 1) := da9_dX10_leaf_31.2.2.2.1
theorem dX10_leaf_37 : decode cX10_leaf 37 = .ok (.putfield 196, 3) := da9_dX10_leaf_31.2.2.2.2.1
theorem dX10_leaf_40 : decode cX10_leaf 40 = .ok (.return_, 1) := da9_dX10_leaf_31.2.2.2.2.2
set_option maxRecDepth 20000 in
theorem ggX10_mustNumber_X10_fine : GoodIn wsX10_mustNumber wsX10_fine := wd_c vW10_ok mvW10_199
set_option maxRecDepth 20000 in
theorem gX10_mustNumber_X10_fine : GoodIn wsX10_mustNumber (wsV RX10 192 RX10 yX10_fine wsX10_fine) := goodIn_app (wd_l vW10_ok _ pvW10_160) ggX10_mustNumber_X10_fine
set_option maxRecDepth 20000 in
theorem ggX10_mustNumber_X10_lies : GoodIn wsX10_mustNumber wsX10_lies := wd_c vW10_ok mvW10_6
set_option maxRecDepth 20000 in
theorem gX10_mustNumber_X10_lies : GoodIn wsX10_mustNumber (va_wsS RX10 18 yX10_lies wsX10_lies) := goodIn_app (wd_l vW10_ok _ pvW10_141) ggX10_mustNumber_X10_lies
set_option maxRecDepth 20000 in
theorem ggX10_mustNumber_X10_faults : GoodIn wsX10_mustNumber wsX10_faults := wd_c vW10_ok mvW10_211
set_option maxRecDepth 20000 in
theorem gX10_mustNumber_X10_faults : GoodIn wsX10_mustNumber (wsV RX10 202 RX10 yX10_faults wsX10_faults) := goodIn_app (wd_l vW10_ok _ pvW10_162) ggX10_mustNumber_X10_faults
theorem da9_dX10_mustNumber_0 : (decode cX10_mustNumber 0 = .ok (.aload_n 0, 1)) ∧ (decode cX10_mustNumber 1 = .ok (.invokevirtual 192, 3)) ∧ (decode cX10_mustNumber 4 = .ok (.ifCond .eq 38, 3)) ∧ (decode cX10_mustNumber 7 = .ok (.aload_n 0, 1)) ∧ (decode cX10_mustNumber 8 = .ok (.getfield 54, 3)) ∧ (decode cX10_mustNumber 11 = .ok (.aload_n 0, 1)) ∧ (decode cX10_mustNumber 12 = .ok (.getfield 196, 3)) ∧ (decode cX10_mustNumber 15 = .ok (.iaload, 1)) ∧ (decode cX10_mustNumber 16 = .ok (.bipush 50, 2)) ∧ (decode cX10_mustNumber 18 = .ok (.if_icmp .ne 20, 3)) ∧ (decode cX10_mustNumber 21 = .ok (.aload_n 0, 1)) ∧ (decode cX10_mustNumber 22 = .ok (.getfield 57, 3)) ∧ (decode cX10_mustNumber 25 = .ok (.aload_n 0, 1)) ∧ (decode cX10_mustNumber 26 = .ok (.getfield 196, 3)) ∧ (decode cX10_mustNumber 29 = .ok (.iaload, 1)) ∧ (decode cX10_mustNumber 30 = .ok (.iload_n 1, 1)) := by decide +kernel
theorem dX10_mustNumber_0 : decode cX10_mustNumber 0 = .ok (.aload_n 0, 1) := da9_dX10_mustNumber_0.1
theorem dX10_mustNumber_1 : decode cX10_mustNumber 1 = .ok (.invokevirtual 192, 3) := da9_dX10_mustNumber_0.2.1
theorem dX10_mustNumber_4 : decode cX10_mustNumber 4 = .ok (.ifCond .eq 38, 3) := da9_dX10_mustNumber_0.2.2.1
theorem dX10_mustNumber_7 : decode cX10_mustNumber 7 = .ok (.aload_n 0, 1) := da9_dX10_mustNumber_0.2.2.2.1
theorem dX10_mustNumber_8 : decode cX10_mustNumber 8 = .ok (.getfield 54, 3) := da9_dX10_mustNumber_0.2.2.2.2.1
theorem dX10_mustNumber_11 : decode cX10_mustNumber 11 = .ok (.aload_n 0, 1) := da9_dX10_mustNumber_0.2.2.2.2.2.1
theorem dX10_mustNumber_12 : decode cX10_mustNumber 12 = .ok (.getfield 196, 3) := da9_dX10_mustNumber_0.2.2.2.2.2.2.1
theorem dX10_mustNumber_15 : decode cX10_mustNumber 15 = .ok (.iaload, 1) := da9_dX10_mustNumber_0.2.2.2.2.2.2.2.1
theorem dX10_mustNumber_16 : decode cX10_mustNumber 16 = .ok (.bipush 50, 2) := da9_dX10_mustNumber_0.2.2.2.2.2.2.2.2.1
theorem dX10_mustNumber_18 : decode cX10_mustNumber 18 = .ok (.if_icmp .ne 20, 3) := da9_dX10_mustNumber_0.2.2.2.2.2.2.2.2.2.1
theorem dX10_mustNumber_21 : decode cX10_mustNumber 21 = .ok (.aload_n 0, 1) := da9_dX10_mustNumber_0.2.2.2.2.2.2.2.2.2.2.1
theorem dX10_mustNumber_22 : decode cX10_mustNumber 22 = .ok (.getfield 57, 3) := da9_dX10_mustNumber_0.2.2.2.2.2.2.2.2.2.2.2.1
theorem dX10_mustNumber_25 : decode cX10_mustNumber 25 = .ok (.aload_n 0, 1) := da9_dX10_mustNumber_0.2.2.2.2.2.2.2.2.2.2.2.2.1
theorem dX10_mustNumber_26 : decode cX10_mustNumber 26 = .ok (.getfield 196, 3) := da9_dX10_mustNumber_0.2.2.2.2.2.2.2.2.2.2.2.2.2.1
theorem dX10_mustNumber_29 : decode cX10_mustNumber 29 = .ok (.iaload, 1) := da9_dX10_mustNumber_0.2.2.2.2.2.2.2.2.2.2.2.2.2.2.1
theorem dX10_mustNumber_30 : decode cX10_mustNumber 30 = .ok (.iload_n 1, 1) := da9_dX10_mustNumber_0.2.2.2.2.2.2.2.2.2.2.2.2.2.2.2
theorem da9_dX10_mustNumber_31 : (decode cX10_mustNumber 31 = .ok (.iload_n 2, 1)) ∧ (decode cX10_mustNumber 32 = .ok (.invokestatic 18, 3)) ∧ (decode cX10_mustNumber 35 = .ok (.ifCond .ne 7, 3)) ∧ (decode cX10_mustNumber 38 = .ok (.aload_n 0, 1)) ∧ (decode cX10_mustNumber 39 = .ok (.invokevirtual 202, 3)) ∧ (decode cX10_mustNumber 42 = .ok (.aload_n 0, 1)) ∧ (decode cX10_mustNumber 43 = .ok (.invokevirtual 192, 3)) ∧ (decode cX10_mustNumber 46 = .ok (.ifCond .eq 13, 3)) ∧ (decode cX10_mustNumber 49 = .ok (.aload_n 0, 1)) ∧ (decode cX10_mustNumber 50 = .ok (.dup, 1)) ∧ (decode cX10_mustNumber 51 = .ok (.getfield 196, 3)) ∧ (decode cX10_mustNumber 54 = .ok (.iconst 1, 1)) ∧ (decode cX10_mustNumber 55 = .ok (.iadd, 1)) ∧ (decode cX10_mustNumber 56 = .ok (.putfield 196, 3)) ∧ (decode cX10_mustNumber 59 = .ok (.return_, 1)) := by decide +kernel
theorem dX10_mustNumber_31 : decode cX10_mustNumber 31 = .ok (.iload_n 2, 1) := da9_dX10_mustNumber_31.1
theorem dX10_mustNumber_32 : decode cX10_mustNumber 32 = .ok (.invokestatic 18, 3) := da9_dX10_mustNumber_31.2.1
theorem dX10_mustNumber_35 : decode cX10_mustNumber 35 = .ok (.ifCond .ne 7, 3) := da9_dX10_mustNumber_31.2.2.1
theorem dX10_mustNumber_38 : decode cX10_mustNumber 38 = .ok (.aload_n 0, 1) := da9_dX10_mustNumber_31.2.2.2.1
theorem dX10_mustNumber_39 : decode cX10_mustNumber 39 = .ok (.invokevirtual 202, 3) := da9_dX10_mustNumber_31.2.2.2.2.1
theorem dX10_mustNumber_42 : decode cX10_mustNumber 42 = .ok (.aload_n 0, 1) := da9_dX10_mustNumber_31.2.2.2.2.2.1
theorem dX10_mustNumber_43 : decode cX10_mustNumber 43 = .ok (.invokevirtual 192, 3) := da9_dX10_mustNumber_31.2.2.2.2.2.2.1
theorem dX10_mustNumber_46 : decode cX10_mustNumber 46 = .ok (.ifCond .eq 13, 3) := da9_dX10_mustNumber_31.2.2.2.2.2.2.2.1
theorem dX10_mustNumber_49 : decode cX10_mustNumber 49 = .ok (.aload_n 0, 1) := da9_dX10_mustNumber_31.2.2.2.2.2.2.2.2.1
theorem dX10_mustNumber_50 : decode cX10_mustNumber 50 = .ok (.dup, 1) := da9_dX10_mustNumber_31.2.2.2.2.2.2.2.2.2.1
theorem dX10_mustNumber_51 : decode cX10_mustNumber 51 = .ok (.getfield 196, 3) := da9_dX10_mustNumber_31.2.2.2.2.2.2.2.2.2.2.1
theorem dX10_mustNumber_54 : decode cX10_mustNumber 54 = .ok (.iconst 1, 1) := da9_dX10_mustNumber_31.2.2.2.2.2.2.2.2.2.2.2.1
theorem dX10_mustNumber_55 : decode cX10_mustNumber 55 = .ok (.iadd, 1) := da9_dX10_mustNumber_31.2.2.2.2.2.2.2.2.2.2.2.2.1
theorem dX10_mustNumber_56 : decode cX10_mustNumber 56 = .ok (.putfield 196, 3) := da9_dX10_mustNumber_31.2.2.2.2.2.2.2.2.2.2.2.2.2.1
theorem dX10_mustNumber_59 : decode cX10_mustNumber 59 = .ok (.return_, 1) := da9_dX10_mustNumber_31.2.2.2.2.2.2.2.2.2.2.2.2.2.2
end
