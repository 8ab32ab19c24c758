theorem f9_wsX10_look_258 : (Cond.constant RX10 188 1000000) ∈ wsX10_look := by decide +kernel
theorem u9_wsX10_few_X10 : ∀ w ∈ u_ws RX10 TX10 56, w ∈ wsX10_few := by
  first | exact fun w h => List.mem_cons_of_mem _ (List.mem_append_right _ h) | decide +kernel
theorem f9_wsX10_few_260 : (Cond.fieldLink RX10 106 "TurnedFloorsModel" "shares" "[J") ∈ wsX10_few := by decide +kernel
theorem f9_wsX10_few_261 : (Cond.fieldLink RX10 28 "TurnedFloorsModel" "kept" "[I") ∈ wsX10_few := by decide +kernel
theorem f9_wsX10_few_262 : (Cond.constantLong RX10 470 10) ∈ wsX10_few := by decide +kernel
theorem f9_wsX10_few_263 : (Cond.constantLong RX10 468 1000000000000) ∈ wsX10_few := by decide +kernel
theorem f9_wsX10_few_264 : (Cond.constantLong RX10 466 (-1)) ∈ wsX10_few := by decide +kernel
theorem u9_wsX10_stopped_X10 : ∀ w ∈ u_ws RX10 TX10 56, w ∈ wsX10_stopped := by
  first | exact fun w h => List.mem_cons_of_mem _ (List.mem_append_right _ h) | decide +kernel
theorem f9_wsX10_stopped_266 : (Cond.fieldLink RX10 110 "TurnedFloorsModel" "stopped0" "I") ∈ wsX10_stopped := by decide +kernel
theorem u9_wsX10_goesAlong_X10 : ∀ w ∈ u_ws RX10 TX10 56, w ∈ wsX10_goesAlong := by
  first | exact fun w h => List.mem_cons_of_mem _ (List.mem_append_right _ h) | decide +kernel
theorem f9_wsX10_goesAlong_268 : (Cond.fieldLink RX10 497 "TurnedFloorsModel" "testIs" "Z") ∈ wsX10_goesAlong := by decide +kernel
theorem f9_wsX10_goesAlong_269 : (Cond.fieldLink RX10 278 "TurnedFloorsModel" "go" "I") ∈ wsX10_goesAlong := by decide +kernel
theorem f9_wsX10_goesAlong_270 : (Cond.fieldLink RX10 288 "TurnedFloorsModel" "broken" "Z") ∈ wsX10_goesAlong := by decide +kernel
theorem f9_wsX10_goesAlong_271 : (Cond.fieldLink RX10 491 "TurnedFloorsModel" "sumsAre" "Z") ∈ wsX10_goesAlong := by decide +kernel
theorem f9_wsX10_goesAlong_272 : (Cond.fieldLink RX10 494 "TurnedFloorsModel" "howOften" "I") ∈ wsX10_goesAlong := by decide +kernel
theorem f9_wsX10_goesAlong_273 : (Cond.fieldLink RX10 28 "TurnedFloorsModel" "kept" "[I") ∈ wsX10_goesAlong := by decide +kernel
theorem f9_wsX10_goesAlong_274 : (Cond.fieldLink RX10 487 "TurnedFloorsModel" "sumNow" "J") ∈ wsX10_goesAlong := by decide +kernel
theorem f9_wsX10_goesAlong_275 : (Cond.fieldLink RX10 308 "TurnedFloorsModel" "inOrders" "Z") ∈ wsX10_goesAlong := by decide +kernel
theorem f9_wsX10_goesAlong_276 : (Cond.fieldLink RX10 275 "TurnedFloorsModel" "goEnd" "I") ∈ wsX10_goesAlong := by decide +kernel
theorem f9_wsX10_goesAlong_277 : (Cond.fieldLink RX10 475 "TurnedFloorsModel" "orderAt" "I") ∈ wsX10_goesAlong := by decide +kernel
theorem f9_wsX10_goesAlong_278 : (Cond.fieldLink RX10 484 "TurnedFloorsModel" "head" "I") ∈ wsX10_goesAlong := by decide +kernel
theorem f9_wsX10_small_279 : (Cond.constantLong RX10 500 1000000) ∈ wsX10_small := by decide +kernel
theorem u9_wsX10_obeys_X10 : ∀ w ∈ u_ws RX10 TX10 56, w ∈ wsX10_obeys := by
  first | exact fun w h => List.mem_cons_of_mem _ (List.mem_append_right _ h) | decide +kernel
theorem f9_wsX10_obeys_281 : (Cond.fieldLink RX10 317 "TurnedFloorsModel" "orderLatest" "I") ∈ wsX10_obeys := by decide +kernel
theorem f9_wsX10_obeys_282 : (Cond.fieldLink RX10 484 "TurnedFloorsModel" "head" "I") ∈ wsX10_obeys := by decide +kernel
theorem f9_wsX10_obeys_283 : (Cond.fieldLink RX10 487 "TurnedFloorsModel" "sumNow" "J") ∈ wsX10_obeys := by decide +kernel
theorem u9_wsX10_runs_X10 : ∀ w ∈ u_ws RX10 TX10 56, w ∈ wsX10_runs := by
  first | exact fun w h => List.mem_cons_of_mem _ (List.mem_append_right _ h) | decide +kernel
theorem f9_wsX10_runs_285 : (Cond.fieldLink RX10 475 "TurnedFloorsModel" "orderAt" "I") ∈ wsX10_runs := by decide +kernel
theorem f9_wsX10_runs_286 : (Cond.fieldLink RX10 497 "TurnedFloorsModel" "testIs" "Z") ∈ wsX10_runs := by decide +kernel
theorem f9_wsX10_runs_287 : (Cond.fieldLink RX10 491 "TurnedFloorsModel" "sumsAre" "Z") ∈ wsX10_runs := by decide +kernel
theorem f9_wsX10_runs_288 : (Cond.fieldLink RX10 314 "TurnedFloorsModel" "orderDone" "I") ∈ wsX10_runs := by decide +kernel
theorem f9_wsX10_runs_289 : (Cond.fieldLink RX10 494 "TurnedFloorsModel" "howOften" "I") ∈ wsX10_runs := by decide +kernel
theorem f9_wsX10_runs_290 : (Cond.fieldLink RX10 278 "TurnedFloorsModel" "go" "I") ∈ wsX10_runs := by decide +kernel
set_option maxHeartbeats 4000000 in
set_option maxRecDepth 100000 in
theorem WX10_look_85 {p : Program} {l : Launch} {e : Env} {s : State} {m : MethodId} {args : Array Value} {below : List Frame} {meth : Method} {c : Code} {D : va_G} {ty : Nat → ClassId} {eo : Nat → Nat} {A : Nat → Prop} {ad : Nat → Nat} {o1 : Int32} {o2 : dS} (C : dc_C p s m args meth c cX10_look (some .int) 7 RX10 wsX10_look D ty eo A)   (q : dS) (y0 : Int32) (H : Heap) (locs : List Loc) (ls : Array Slot) (h : zX10_look_85  q y0 = some (o1, o2)) (hP : va_P D vwCl (w10 ty ad q) H) (hD : va_D A (w10 ty ad q)) (hS : va_S A s.heap H locs) (hl : lv_has ls 7 []) : W p l e ({ frames := 90, cells := 0, slots := 0, locals := 2289 } : Room) s m args below meth c H locs 0 0 (MQ below (va_Qi (fun (r : Int32) (u : va_W) => o1 = r ∧ w10 ty ad o2 = u) (kz_B D ty A) A) args s 0 0 A) (F0 m 85 ls [.int y0]) := by
  have C0 := C
  obtain ⟨hx, hb, hr, hts, hown, hlocks, hml, hK, hN, hE, hA⟩ := C
  unfold zX10_look_85 at h
  cases h
  exact kz_iret hx hb hr hlocks hP hK hD hS dX10_look_85 ⟨rfl, rfl⟩
set_option maxHeartbeats 4000000 in
set_option maxRecDepth 100000 in
theorem WX10_look_79 {p : Program} {l : Launch} {e : Env} {s : State} {m : MethodId} {args : Array Value} {below : List Frame} {meth : Method} {c : Code} {D : va_G} {ty : Nat → ClassId} {eo : Nat → Nat} {A : Nat → Prop} {ad : Nat → Nat} {o1 : Int32} {o2 : dS} (C : dc_C p s m args meth c cX10_look (some .int) 7 RX10 wsX10_look D ty eo A)   (q : dS) (x3 : Int32) (H : Heap) (locs : List Loc) (ls : Array Slot) (h : zX10_look_79  q x3 = some (o1, o2)) (hP : va_P D vwCl (w10 ty ad q) H) (hD : va_D A (w10 ty ad q)) (hS : va_S A s.heap H locs) (hl : lv_has ls 7 [(3, .int x3)]) : W p l e ({ frames := 90, cells := 0, slots := 0, locals := 2289 } : Room) s m args below meth c H locs 0 0 (MQ below (va_Qi (fun (r : Int32) (u : va_W) => o1 = r ∧ w10 ty ad o2 = u) (kz_B D ty A) A) args s 0 0 A) (F0 m 79 ls []) := by
  have C0 := C
  obtain ⟨hx, hb, hr, hts, hown, hlocks, hml, hK, hN, hE, hA⟩ := C
  unfold zX10_look_79 at h
  refine lv_iload_n hx hb dX10_look_79 rfl (lv_at hl 0 rfl) ?_
  refine lv_goto (tgt := 85) hx hb dX10_look_80 (by decide) ?_
  exact WX10_look_85 C0  _ _ _ _ _ h hP hD hS (lv_sub hl [] rfl)
set_option maxHeartbeats 4000000 in
set_option maxRecDepth 100000 in
theorem WX10_look_70 {p : Program} {l : Launch} {e : Env} {s : State} {m : MethodId} {args : Array Value} {below : List Frame} {meth : Method} {c : Code} {D : va_G} {ty : Nat → ClassId} {eo : Nat → Nat} {A : Nat → Prop} {ad : Nat → Nat} {o1 : Int32} {o2 : dS} (C : dc_C p s m args meth c cX10_look (some .int) 7 RX10 wsX10_look D ty eo A)   (q : dS) (x1 : Int32) (x3 : Int32) (x4 : Int32) (H : Heap) (locs : List Loc) (ls : Array Slot) (h : zX10_look_70  q x1 x3 x4 = some (o1, o2)) (hP : va_P D vwCl (w10 ty ad q) H) (hD : va_D A (w10 ty ad q)) (hS : va_S A s.heap H locs) (hl : lv_has ls 7 [(1, .int x1), (3, .int x3), (4, .int x4)]) : W p l e ({ frames := 90, cells := 0, slots := 0, locals := 2289 } : Room) s m args below meth c H locs 0 0 (MQ below (va_Qi (fun (r : Int32) (u : va_W) => o1 = r ∧ w10 ty ad o2 = u) (kz_B D ty A) A) args s 0 0 A) (F0 m 70 ls []) := by
  have C0 := C
  obtain ⟨hx, hb, hr, hts, hown, hlocks, hml, hK, hN, hE, hA⟩ := C
  unfold zX10_look_70 at h
  refine lv_iload_n hx hb dX10_look_70 rfl (lv_at hl 1 rfl) ?_
  refine lv_iconst (v := (-1)) hx hb dX10_look_71 (by decide) ?_
  refine lv_icmp_eq (tgt := 79) hx hb dX10_look_72 (by decide) (fun c9 => ?_) (fun c9 => ?_)
  · rw [if_pos c9] at h
    exact WX10_look_79 C0  _ _ _ _ _ h hP hD hS (lv_sub hl [1] rfl)
  · rw [if_neg c9] at h
    refine lv_iload_n hx hb dX10_look_75 rfl (lv_at hl 0 rfl) ?_
    refine lv_if_ne (tgt := 83) hx hb dX10_look_76 (by decide) (fun c9 => ?_) (fun c9 => ?_)
    · rw [if_neg c9] at h
      refine lv_iload hx hb dX10_look_83 (lv_at hl 2 rfl) ?_
      exact WX10_look_85 C0  _ _ _ _ _ h hP hD hS (lv_sub hl [] rfl)
    · rw [if_pos c9] at h
      exact WX10_look_79 C0  _ _ _ _ _ h hP hD hS (lv_sub hl [1] rfl)
set_option maxHeartbeats 4000000 in
set_option maxRecDepth 100000 in
theorem WX10_look_64 {p : Program} {l : Launch} {e : Env} {s : State} {m : MethodId} {args : Array Value} {below : List Frame} {meth : Method} {c : Code} {D : va_G} {ty : Nat → ClassId} {eo : Nat → Nat} {A : Nat → Prop} {ad : Nat → Nat} {o1 : Int32} {o2 : dS} (C : dc_C p s m args meth c cX10_look (some .int) 7 RX10 wsX10_look D ty eo A) {k25 : dS → Int32 → Int32 → Int32 → Int32 → Int32 → Option (Int32 × dS)} (hk25 : ∀ (q : dS) (x1 : Int32) (x2 : Int32) (x3 : Int32) (x4 : Int32) (x5 : Int32) (H : Heap) (locs : List Loc) (ls : Array Slot), k25 q x1 x2 x3 x4 x5 = some (o1, o2) → va_P D vwCl (w10 ty ad q) H → va_D A (w10 ty ad q) → va_S A s.heap H locs → lv_has ls 7 [(0, .ref (ad 0)), (1, .int x1), (2, .int x2), (3, .int x3), (4, .int x4), (5, .int x5)] → W p l e ({ frames := 90, cells := 0, slots := 0, locals := 2289 } : Room) s m args below meth c H locs 0 0 (MQ below (va_Qi (fun (r : Int32) (u : va_W) => o1 = r ∧ w10 ty ad o2 = u) (kz_B D ty A) A) args s 0 0 A) (F0 m 25 ls [])) (q : dS) (x1 : Int32) (x2 : Int32) (x3 : Int32) (x4 : Int32) (x5 : Int32) (H : Heap) (locs : List Loc) (ls : Array Slot) (h : zX10_look_64 k25 q x1 x2 x3 x4 x5 = some (o1, o2)) (hP : va_P D vwCl (w10 ty ad q) H) (hD : va_D A (w10 ty ad q)) (hS : va_S A s.heap H locs) (hl : lv_has ls 7 [(0, .ref (ad 0)), (1, .int x1), (2, .int x2), (3, .int x3), (4, .int x4), (5, .int x5)]) : W p l e ({ frames := 90, cells := 0, slots := 0, locals := 2289 } : Room) s m args below meth c H locs 0 0 (MQ below (va_Qi (fun (r : Int32) (u : va_W) => o1 = r ∧ w10 ty ad o2 = u) (kz_B D ty A) A) args s 0 0 A) (F0 m 64 ls []) := by
  have C0 := C
  obtain ⟨hx, hb, hr, hts, hown, hlocks, hml, hK, hN, hE, hA⟩ := C
  unfold zX10_look_64 at h
  refine lv_iinc (v := x5 + 1) (lv' := [(5, .int (x5 + 1)), (0, .ref (ad 0)), (1, .int x1), (2, .int x2), (3, .int x3), (4, .int x4)]) hx hb dX10_look_64 hl (k := 5) rfl rfl (by decide) rfl (fun ls hl => ?_)
  refine lv_goto (tgt := 25) hx hb dX10_look_67 (by decide) ?_
  exact hk25 _ _ _ _ _ _ _ _ _ h hP hD hS (lv_sub hl [1, 2, 3, 4, 5, 0] rfl)
set_option maxHeartbeats 4000000 in
set_option maxRecDepth 100000 in
theorem WX10_look_25b {p : Program} {l : Launch} {e : Env} {s : State} {m : MethodId} {args : Array Value} {below : List Frame} {meth : Method} {c : Code} {D : va_G} {ty : Nat → ClassId} {eo : Nat → Nat} {A : Nat → Prop} {ad : Nat → Nat} {o1 : Int32} {o2 : dS} (C : dc_C p s m args meth c cX10_look (some .int) 7 RX10 wsX10_look D ty eo A) {k25 : dS → Int32 → Int32 → Int32 → Int32 → Int32 → Option (Int32 × dS)} (hk25 : ∀ (q : dS) (x1 : Int32) (x2 : Int32) (x3 : Int32) (x4 : Int32) (x5 : Int32) (H : Heap) (locs : List Loc) (ls : Array Slot), k25 q x1 x2 x3 x4 x5 = some (o1, o2) → va_P D vwCl (w10 ty ad q) H → va_D A (w10 ty ad q) → va_S A s.heap H locs → lv_has ls 7 [(0, .ref (ad 0)), (1, .int x1), (2, .int x2), (3, .int x3), (4, .int x4), (5, .int x5)] → W p l e ({ frames := 90, cells := 0, slots := 0, locals := 2289 } : Room) s m args below meth c H locs 0 0 (MQ below (va_Qi (fun (r : Int32) (u : va_W) => o1 = r ∧ w10 ty ad o2 = u) (kz_B D ty A) A) args s 0 0 A) (F0 m 25 ls [])) (q : dS) (x1 : Int32) (x2 : Int32) (x3 : Int32) (x4 : Int32) (x5 : Int32) (H : Heap) (locs : List Loc) (ls : Array Slot) (h : zX10_look_25b k25 q x1 x2 x3 x4 x5 = some (o1, o2)) (hP : va_P D vwCl (w10 ty ad q) H) (hD : va_D A (w10 ty ad q)) (hS : va_S A s.heap H locs) (hl : lv_has ls 7 [(0, .ref (ad 0)), (1, .int x1), (2, .int x2), (3, .int x3), (4, .int x4), (5, .int x5)]) : W p l e ({ frames := 90, cells := 0, slots := 0, locals := 2289 } : Room) s m args below meth c H locs 0 0 (MQ below (va_Qi (fun (r : Int32) (u : va_W) => o1 = r ∧ w10 ty ad o2 = u) (kz_B D ty A) A) args s 0 0 A) (F0 m 25 ls []) := by
  have C0 := C
  obtain ⟨hx, hb, hr, hts, hown, hlocks, hml, hK, hN, hE, hA⟩ := C
  unfold zX10_look_25b at h
  refine lv_iload hx hb dX10_look_25 (lv_at hl 5 rfl) ?_
  refine lv_aload_n hx hb dX10_look_27 rfl (lv_at hl 0 rfl) ?_
  obtain ⟨r1, q3, h2, h⟩ := dB_some h
  refine dw_ki (va_runV (As := []) (rest := [.int x5]) ⟨hx, hb, hml, hown, hts⟩ (qX10_size l D ty eo _ ad q  r1 q3 h2) (cwV 0 hts gX10_look_X10_size rfl rfl rfl (by decide +kernel) ⟨Nat.le_of_ble_eq_true rfl, Nat.le_of_ble_eq_true rfl⟩) (dw_preV (ci := 10) (q0 := 0) hK hN hE hP hD hS hA rfl rfl) rfl rfl hl.1 rfl (lv_room (Nat.le_of_ble_eq_true rfl)) dX10_look_28 ⟨Nat.le_of_ble_eq_true rfl, Nat.le_of_ble_eq_true rfl⟩) hD hS hA (fun r9 u9 H locs hw hp hd hs => ?_)
  clear hP hD hS
  obtain ⟨rfl, rfl⟩ := hw
  have hP := hp; have hD := hd; have hS := hs; clear hp hd hs
  refine lv_icmp_ge (tgt := 70) hx hb dX10_look_31 (by decide) (fun c9 => ?_) (fun c9 => ?_)
  · rw [if_pos c9] at h
    exact WX10_look_70 C0  _ _ _ _ _ _ _ h hP hD hS (lv_sub hl [1, 3, 4] rfl)
  · rw [if_neg c9] at h
    refine lv_iload_n hx hb dX10_look_34 rfl (lv_at hl 2 rfl) ?_
    refine lv_if_eq (tgt := 70) hx hb dX10_look_35 (by decide) (fun c9 => ?_) (fun c9 => ?_)
    · rw [if_pos c9] at h
      exact WX10_look_70 C0  _ _ _ _ _ _ _ h hP hD hS (lv_sub hl [1, 3, 4] rfl)
    · rw [if_neg c9] at h
      refine lv_aload_n hx hb dX10_look_38 rfl (lv_at hl 0 rfl) ?_
      refine lv_iload_n hx hb dX10_look_39 rfl (lv_at hl 2 rfl) ?_
      refine lv_iload hx hb dX10_look_40 (lv_at hl 5 rfl) ?_
      obtain ⟨r4, q6, h5, h⟩ := dB_some h
      refine dw_ki (va_runV (As := [.int x2, .int x5]) (rest := []) ⟨hx, hb, hml, hown, hts⟩ (qX10_mostAlike l D ty eo _ ad q3 x2 x5 r4 q6 h5) (cwV 2 hts gX10_look_X10_mostAlike rfl rfl rfl (by decide +kernel) ⟨Nat.le_of_ble_eq_true rfl, Nat.le_of_ble_eq_true rfl⟩) (dw_preV (ci := 10) (q0 := 0) hK hN hE hP hD hS hA rfl rfl) rfl rfl hl.1 rfl (lv_room (Nat.le_of_ble_eq_true rfl)) dX10_look_42 ⟨Nat.le_of_ble_eq_true rfl, Nat.le_of_ble_eq_true rfl⟩) hD hS hA (fun r9 u9 H locs hw hp hd hs => ?_)
      clear hP hD hS
      obtain ⟨rfl, rfl⟩ := hw
      have hP := hp; have hD := hd; have hS := hs; clear hp hd hs
      refine lv_istore (lv' := [(6, .int r4), (0, .ref (ad 0)), (1, .int x1), (2, .int x2), (3, .int x3), (4, .int x4), (5, .int x5)]) hx hb dX10_look_45 hl (by decide) rfl (fun ls hl => ?_)
      refine lv_iload hx hb dX10_look_47 (lv_at hl 0 rfl) ?_
      refine lv_iload hx hb dX10_look_49 (lv_at hl 5 rfl) ?_
      refine lv_icmp_lt (tgt := 57) hx hb dX10_look_51 (by decide) (fun c9 => ?_) (fun c9 => ?_)
      · rw [if_pos c9] at h
        refine lv_iload hx hb dX10_look_57 (lv_at hl 0 rfl) ?_
        refine lv_istore (lv' := [(4, .int r4), (6, .int r4), (0, .ref (ad 0)), (1, .int x1), (2, .int x2), (3, .int x3), (5, .int x5)]) hx hb dX10_look_59 hl (by decide) rfl (fun ls hl => ?_)
        refine lv_iload hx hb dX10_look_61 (lv_at hl 6 rfl) ?_
        refine lv_istore_n (lv' := [(3, .int x5), (4, .int r4), (6, .int r4), (0, .ref (ad 0)), (1, .int x1), (2, .int x2), (5, .int x5)]) hx hb dX10_look_63 rfl hl (by decide) rfl (fun ls hl => ?_)
        exact WX10_look_64 C0 hk25 _ _ _ _ _ _ _ _ _ h hP hD hS (lv_sub hl [3, 4, 5, 0, 1, 6] rfl)
      · rw [if_neg c9] at h
        refine lv_goto (tgt := 64) hx hb dX10_look_54 (by decide) ?_
        exact WX10_look_64 C0 hk25 _ _ _ _ _ _ _ _ _ h hP hD hS (lv_sub hl [1, 2, 3, 4, 5, 6] rfl)
set_option maxHeartbeats 4000000 in
set_option maxRecDepth 100000 in
theorem WX10_look_25 {p : Program} {l : Launch} {e : Env} {s : State} {m : MethodId} {args : Array Value} {below : List Frame} {meth : Method} {c : Code} {D : va_G} {ty : Nat → ClassId} {eo : Nat → Nat} {A : Nat → Prop} {ad : Nat → Nat} {o1 : Int32} {o2 : dS} (C : dc_C p s m args meth c cX10_look (some .int) 7 RX10 wsX10_look D ty eo A)   (n : Nat) (q : dS) (x1 : Int32) (x2 : Int32) (x3 : Int32) (x4 : Int32) (x5 : Int32) (H : Heap) (locs : List Loc) (ls : Array Slot) (h : zX10_look_25  n q x1 x2 x3 x4 x5 = some (o1, o2)) (hP : va_P D vwCl (w10 ty ad q) H) (hD : va_D A (w10 ty ad q)) (hS : va_S A s.heap H locs) (hl : lv_has ls 7 [(0, .ref (ad 0)), (1, .int x1), (2, .int x2), (3, .int x3), (4, .int x4), (5, .int x5)]) : W p l e ({ frames := 90, cells := 0, slots := 0, locals := 2289 } : Room) s m args below meth c H locs 0 0 (MQ below (va_Qi (fun (r : Int32) (u : va_W) => o1 = r ∧ w10 ty ad o2 = u) (kz_B D ty A) A) args s 0 0 A) (F0 m 25 ls []) := by
  exact dFix_W (F := fun k (a : dS × Int32 × Int32 × Int32 × Int32 × Int32) => zX10_look_25b  (fun q x1 x2 x3 x4 x5 => k (q, x1, x2, x3, x4, x5)) a.1 a.2.1 a.2.2.1 a.2.2.2.1 a.2.2.2.2.1 a.2.2.2.2.2) (o := (o1, o2)) (P := fun (a : dS × Int32 × Int32 × Int32 × Int32 × Int32) H locs ls => va_P D vwCl (w10 ty ad a.1) H ∧ va_D A (w10 ty ad a.1) ∧ va_S A s.heap H locs ∧ lv_has ls 7 [(0, .ref (ad 0)), (1, .int a.2.1), (2, .int a.2.2.1), (3, .int a.2.2.2.1), (4, .int a.2.2.2.2.1), (5, .int a.2.2.2.2.2)]) (G := fun H locs ls => W p l e ({ frames := 90, cells := 0, slots := 0, locals := 2289 } : Room) s m args below meth c H locs 0 0 (MQ below (va_Qi (fun (r : Int32) (u : va_W) => o1 = r ∧ w10 ty ad o2 = u) (kz_B D ty A) A) args s 0 0 A) (F0 m 25 ls []))
    (fun k hk a H locs ls h hp => WX10_look_25b C  (fun q x1 x2 x3 x4 x5 H locs ls h h1 h2 h3 h4 => hk (q, x1, x2, x3, x4, x5) H locs ls h ⟨h1, h2, h3, h4⟩) a.1 a.2.1 a.2.2.1 a.2.2.2.1 a.2.2.2.2.1 a.2.2.2.2.2 H locs ls h hp.1 hp.2.1 hp.2.2.1 hp.2.2.2) n (q, x1, x2, x3, x4, x5) H locs ls h ⟨hP, hD, hS, hl⟩
set_option maxHeartbeats 4000000 in
set_option maxRecDepth 100000 in
theorem qX10_look (l : Launch) (D : va_G) (ty : Nat → ClassId) (eo : Nat → Nat) (sz : Nat) (ad : Nat → Nat) (q : dS) (p1 : Int32) (o1 : Int32) (o2 : dS) (h : zX10_look q p1 = some (o1, o2)) : Met l yX10_look wsX10_look ({ frames := 90, cells := 0, slots := 0, locals := 2289 } : Room) (va_Pc [.ref (ad 0), .int p1] (kz_pre D ty eo (w10 ty ad q) sz)) (va_Qi (fun (r : Int32) (u : va_W) => o1 = r ∧ w10 ty ad o2 = u) (kz_B D ty (va_A (w10 ty ad q) sz)) (va_A (w10 ty ad q) sz)) 0 0 (va_A (w10 ty ad q) sz) := by
  refine Met.ofW (cc := cX10_look) (maxL := 7) (ret := (some .int)) (by decide) rfl ?_
  intro p e s m args below meth c s₁ B hml hv
  obtain ⟨rfl, hsz, hP, hK, hD0, hN, hE⟩ := hv
  have hx := B.exec
  have hb := B.bytes
  have hr := B.returns
  have hts := atoms_spec (ws := wsX10_look) B.pre
  have hown : s.vm.findClass RX10 = some m.cls := findClass_of_methodNamed B.named
  have hlocks := B.notSynchronized
  subst hsz
  have hD := hD0.self (sz := s.heap.size)
  generalize hAe : va_A (w10 ty ad q) s.heap.size = A at hD hE ⊢
  have hA : ∀ q : Nat, s.heap.size ≤ q → A q := fun q h => by rw [← hAe]; exact Or.inr h
  clear hAe
  have hS : va_S A s.heap s.heap [] := va_S.rf
  have hl := lv_entry ([.ref (ad 0), .int p1]) (n := 7) (Nat.le_of_ble_eq_true rfl)
  rw [lg_entry_eq]
  generalize (lg_sl ([.ref (ad 0), .int p1]) ++ List.replicate (7 - (lg_sl ([.ref (ad 0), .int p1])).length) Slot.unset).toArray = ls at hl ⊢
  have hl : lv_has ls 7 [(0, .ref (ad 0)), (1, .int p1)] := hl
  have C : dc_C p s m _ meth c cX10_look (some .int) 7 RX10 wsX10_look D ty eo A := ⟨hx, hb, hr, hts, hown, hlocks, hml, hK, hN, hE, hA⟩
  unfold zX10_look at h
  refine lv_iload_n hx hb dX10_look_0 rfl (lv_at hl 1 rfl) ?_
  refine lv_iconst (v := 0) hx hb dX10_look_1 (by decide) ?_
  refine lv_iconst (v := 1) hx hb dX10_look_2 (by decide) ?_
  obtain ⟨r1, h2, h⟩ := dV_some h
  refine dw_ks (va_runS (As := [.int p1, .int 0, .int 1]) (rest := []) ⟨hx, hb, hml, hown, hts⟩ (qX10_lies l D ty eo _ p1 0 1 _ h2) (va_cwS 3 hts gX10_look_X10_lies rfl rfl rfl (by decide +kernel) ⟨Nat.le_of_ble_eq_true rfl, Nat.le_of_ble_eq_true rfl⟩) (kz_preS hK hN hE hP hD hS hA [] (by decide) rfl) rfl rfl hl.1 rfl (lv_room (Nat.le_of_ble_eq_true rfl)) dX10_look_3 ⟨Nat.le_of_ble_eq_true rfl, Nat.le_of_ble_eq_true rfl⟩) hP hD hS hA (fun _ _ h9 => h9.2.symm) (fun r9 u9 H locs hw hp hd hs => ?_)
  obtain ⟨rfl, -⟩ := hw
  clear hP hD hS
  have hP := hp; have hD := hd; have hS := hs; clear hp hd hs
  refine lv_if_ne (tgt := 11) hx hb dX10_look_6 (by decide) (fun c9 => ?_) (fun c9 => ?_)
  · rw [if_neg c9] at h
    refine lv_aload_n hx hb dX10_look_11 rfl (lv_at hl 0 rfl) ?_
    obtain ⟨r3, q5, h4, h⟩ := dB_some h
    refine dw_ki (va_runV (As := []) (rest := []) ⟨hx, hb, hml, hown, hts⟩ (qX10_was l D ty eo _ ad q  r3 q5 h4) (cwV 0 hts gX10_look_X10_was rfl rfl rfl (by decide +kernel) ⟨Nat.le_of_ble_eq_true rfl, Nat.le_of_ble_eq_true rfl⟩) (dw_preV (ci := 10) (q0 := 0) hK hN hE hP hD hS hA rfl rfl) rfl rfl hl.1 rfl (lv_room (Nat.le_of_ble_eq_true rfl)) dX10_look_12 ⟨Nat.le_of_ble_eq_true rfl, Nat.le_of_ble_eq_true rfl⟩) hD hS hA (fun r9 u9 H locs hw hp hd hs => ?_)
    clear hP hD hS
    obtain ⟨rfl, rfl⟩ := hw
    have hP := hp; have hD := hd; have hS := hs; clear hp hd hs
    refine lv_istore_n (lv' := [(2, .int r3), (0, .ref (ad 0)), (1, .int p1)]) hx hb dX10_look_15 rfl hl (by decide) rfl (fun ls hl => ?_)
    refine lv_iconst (v := (-1)) hx hb dX10_look_16 (by decide) ?_
    refine lv_istore_n (lv' := [(3, .int (-1)), (2, .int r3), (0, .ref (ad 0)), (1, .int p1)]) hx hb dX10_look_17 rfl hl (by decide) rfl (fun ls hl => ?_)
    refine lv_ldc (v := 1000000) hx hb hown (hts (.constant RX10 188 1000000) f9_wsX10_look_258) dX10_look_18 ?_
    refine lv_istore (lv' := [(4, .int 1000000), (3, .int (-1)), (2, .int r3), (0, .ref (ad 0)), (1, .int p1)]) hx hb dX10_look_20 hl (by decide) rfl (fun ls hl => ?_)
    refine lv_iconst (v := 0) hx hb dX10_look_22 (by decide) ?_
    refine lv_istore (lv' := [(5, .int 0), (4, .int 1000000), (3, .int (-1)), (2, .int r3), (0, .ref (ad 0)), (1, .int p1)]) hx hb dX10_look_23 hl (by decide) rfl (fun ls hl => ?_)
    exact WX10_look_25 C  _ _ _ _ _ _ _ _ _ _ h hP hD hS (lv_sub hl [4, 5, 3, 2, 1, 0] rfl)
  · rw [if_pos c9] at h
    refine lv_iconst (v := (-1)) hx hb dX10_look_9 (by decide) ?_
    cases h
    exact kz_iret hx hb hr hlocks hP hK hD hS dX10_look_10 ⟨rfl, rfl⟩

set_option maxHeartbeats 4000000 in
set_option maxRecDepth 100000 in
theorem WX10_few_151b {p : Program} {l : Launch} {e : Env} {s : State} {m : MethodId} {args : Array Value} {below : List Frame} {meth : Method} {c : Code} {D : va_G} {ty : Nat → ClassId} {eo : Nat → Nat} {A : Nat → Prop} {ad : Nat → Nat} {o1 : Int64} {o2 : dS} (C : dc_C p s m args meth c cX10_few (some .long) 6 RX10 wsX10_few D ty eo A) {k151 : dS → Int32 → Int64 → Int32 → Option (Int64 × dS)} (hk151 : ∀ (q : dS) (x1 : Int32) (x3 : Int64) (x5 : Int32) (H : Heap) (locs : List Loc) (ls : Array Slot), k151 q x1 x3 x5 = some (o1, o2) → va_P D vwCl (w10 ty ad q) H → va_D A (w10 ty ad q) → va_S A s.heap H locs → lv_has ls 6 [(0, .ref (ad 0)), (1, .int x1), (3, .long x3), (5, .int x5)] → W p l e ({ frames := 1, cells := 0, slots := 0, locals := 22 } : Room) s m args below meth c H locs 0 0 (MQ below (va_Ql (fun (r : Int64) (u : va_W) => o1 = r ∧ w10 ty ad o2 = u) (kz_B D ty A) A) args s 0 0 A) (F0 m 151 ls [])) (q : dS) (x1 : Int32) (x3 : Int64) (x5 : Int32) (H : Heap) (locs : List Loc) (ls : Array Slot) (h : zX10_few_151b k151 q x1 x3 x5 = some (o1, o2)) (hP : va_P D vwCl (w10 ty ad q) H) (hD : va_D A (w10 ty ad q)) (hS : va_S A s.heap H locs) (hl : lv_has ls 6 [(0, .ref (ad 0)), (1, .int x1), (3, .long x3), (5, .int x5)]) : W p l e ({ frames := 1, cells := 0, slots := 0, locals := 22 } : Room) s m args below meth c H locs 0 0 (MQ below (va_Ql (fun (r : Int64) (u : va_W) => o1 = r ∧ w10 ty ad o2 = u) (kz_B D ty A) A) args s 0 0 A) (F0 m 151 ls []) := by
  have C0 := C
  obtain ⟨hx, hb, hr, hts, hown, hlocks, hml, hK, hN, hE, hA⟩ := C
  unfold zX10_few_151b at h
  refine lv_iload hx hb dX10_few_151 (lv_at hl 3 rfl) ?_
  refine lv_iload_n hx hb dX10_few_153 rfl (lv_at hl 1 rfl) ?_
  refine lv_icmp_ge (tgt := 173) hx hb dX10_few_154 (by decide) (fun c9 => ?_) (fun c9 => ?_)
  · rw [if_pos c9] at h
    refine lv_lload_n hx hb dX10_few_173 rfl (lv_at hl 2 rfl) ?_
    cases h
    exact kz_lret hx hb hr hlocks hP hK hD hS dX10_few_174 ⟨rfl, rfl⟩
  · rw [if_neg c9] at h
    refine lv_lload_n hx hb dX10_few_157 rfl (lv_at hl 2 rfl) ?_
    refine lv_aload_n hx hb dX10_few_158 rfl (lv_at hl 0 rfl) ?_
    refine va_get (D := D) (ci := 10) (v := .ref (ad 26)) (C := RX10) (T := TX10) (N := 56) hx hb hts u9_wsX10_few_X10 hown hK hP 0 rfl rfl 45 (by decide) (hts (.fieldLink RX10 106 "TurnedFloorsModel" "shares" "[J") f9_wsX10_few_260) (fun _ h9 => h9) rfl dX10_few_159 ?_
    refine lv_iload hx hb dX10_few_162 (lv_at hl 3 rfl) ?_
    obtain ⟨g1, h⟩ := dG_some h
    refine va_lald hx hb hK hP 26 1 rfl rfl (dg_in g1) dX10_few_164 ?_
    obtain ⟨v2, ev2, h⟩ := dL_some h
    refine kz_topl v2 ev2 ?_
    refine lv_ladd hx hb dX10_few_165 ?_
    refine lv_lstore_n (lv' := [(3, .long (x3 + v2 : Int64)), (0, .ref (ad 0)), (1, .int x1), (5, .int x5)]) hx hb dX10_few_166 rfl hl (by decide) rfl (fun ls hl => ?_)
    refine lv_iinc (v := x5 + 1) (lv' := [(5, .int (x5 + 1)), (3, .long (x3 + v2 : Int64)), (0, .ref (ad 0)), (1, .int x1)]) hx hb dX10_few_167 hl (k := 3) rfl rfl (by decide) rfl (fun ls hl => ?_)
    refine lv_goto (tgt := 151) hx hb dX10_few_170 (by decide) ?_
    exact hk151 _ _ _ _ _ _ _ h hP hD hS (lv_sub hl [2, 3, 1, 0] rfl)
set_option maxHeartbeats 4000000 in
set_option maxRecDepth 100000 in
theorem WX10_few_151 {p : Program} {l : Launch} {e : Env} {s : State} {m : MethodId} {args : Array Value} {below : List Frame} {meth : Method} {c : Code} {D : va_G} {ty : Nat → ClassId} {eo : Nat → Nat} {A : Nat → Prop} {ad : Nat → Nat} {o1 : Int64} {o2 : dS} (C : dc_C p s m args meth c cX10_few (some .long) 6 RX10 wsX10_few D ty eo A)   (n : Nat) (q : dS) (x1 : Int32) (x3 : Int64) (x5 : Int32) (H : Heap) (locs : List Loc) (ls : Array Slot) (h : zX10_few_151  n q x1 x3 x5 = some (o1, o2)) (hP : va_P D vwCl (w10 ty ad q) H) (hD : va_D A (w10 ty ad q)) (hS : va_S A s.heap H locs) (hl : lv_has ls 6 [(0, .ref (ad 0)), (1, .int x1), (3, .long x3), (5, .int x5)]) : W p l e ({ frames := 1, cells := 0, slots := 0, locals := 22 } : Room) s m args below meth c H locs 0 0 (MQ below (va_Ql (fun (r : Int64) (u : va_W) => o1 = r ∧ w10 ty ad o2 = u) (kz_B D ty A) A) args s 0 0 A) (F0 m 151 ls []) := by
  exact dFix_W (F := fun k (a : dS × Int32 × Int64 × Int32) => zX10_few_151b  (fun q x1 x3 x5 => k (q, x1, x3, x5)) a.1 a.2.1 a.2.2.1 a.2.2.2) (o := (o1, o2)) (P := fun (a : dS × Int32 × Int64 × Int32) H locs ls => va_P D vwCl (w10 ty ad a.1) H ∧ va_D A (w10 ty ad a.1) ∧ va_S A s.heap H locs ∧ lv_has ls 6 [(0, .ref (ad 0)), (1, .int a.2.1), (3, .long a.2.2.1), (5, .int a.2.2.2)]) (G := fun H locs ls => W p l e ({ frames := 1, cells := 0, slots := 0, locals := 22 } : Room) s m args below meth c H locs 0 0 (MQ below (va_Ql (fun (r : Int64) (u : va_W) => o1 = r ∧ w10 ty ad o2 = u) (kz_B D ty A) A) args s 0 0 A) (F0 m 151 ls []))
    (fun k hk a H locs ls h hp => WX10_few_151b C  (fun q x1 x3 x5 H locs ls h h1 h2 h3 h4 => hk (q, x1, x3, x5) H locs ls h ⟨h1, h2, h3, h4⟩) a.1 a.2.1 a.2.2.1 a.2.2.2 H locs ls h hp.1 hp.2.1 hp.2.2.1 hp.2.2.2) n (q, x1, x3, x5) H locs ls h ⟨hP, hD, hS, hl⟩
set_option maxHeartbeats 4000000 in
set_option maxRecDepth 100000 in
theorem WX10_few_67b {p : Program} {l : Launch} {e : Env} {s : State} {m : MethodId} {args : Array Value} {below : List Frame} {meth : Method} {c : Code} {D : va_G} {ty : Nat → ClassId} {eo : Nat → Nat} {A : Nat → Prop} {ad : Nat → Nat} {o1 : Int64} {o2 : dS} (C : dc_C p s m args meth c cX10_few (some .long) 6 RX10 wsX10_few D ty eo A) {k57 : dS → Int32 → Int32 → Int32 → Option (Int64 × dS)} {k67 : dS → Int32 → Int32 → Int32 → Int32 → Option (Int64 × dS)} (hk57 : ∀ (q : dS) (x1 : Int32) (x2 : Int32) (x3 : Int32) (H : Heap) (locs : List Loc) (ls : Array Slot), k57 q x1 x2 x3 = some (o1, o2) → va_P D vwCl (w10 ty ad q) H → va_D A (w10 ty ad q) → va_S A s.heap H locs → lv_has ls 6 [(0, .ref (ad 0)), (1, .int x1), (2, .int x2), (3, .int x3)] → W p l e ({ frames := 1, cells := 0, slots := 0, locals := 22 } : Room) s m args below meth c H locs 0 0 (MQ below (va_Ql (fun (r : Int64) (u : va_W) => o1 = r ∧ w10 ty ad o2 = u) (kz_B D ty A) A) args s 0 0 A) (F0 m 57 ls [])) (hk67 : ∀ (q : dS) (x1 : Int32) (x2 : Int32) (x3 : Int32) (x4 : Int32) (H : Heap) (locs : List Loc) (ls : Array Slot), k67 q x1 x2 x3 x4 = some (o1, o2) → va_P D vwCl (w10 ty ad q) H → va_D A (w10 ty ad q) → va_S A s.heap H locs → lv_has ls 6 [(0, .ref (ad 0)), (1, .int x1), (2, .int x2), (3, .int x3), (4, .int x4)] → W p l e ({ frames := 1, cells := 0, slots := 0, locals := 22 } : Room) s m args below meth c H locs 0 0 (MQ below (va_Ql (fun (r : Int64) (u : va_W) => o1 = r ∧ w10 ty ad o2 = u) (kz_B D ty A) A) args s 0 0 A) (F0 m 67 ls [])) (q : dS) (x1 : Int32) (x2 : Int32) (x3 : Int32) (x4 : Int32) (H : Heap) (locs : List Loc) (ls : Array Slot) (h : zX10_few_67b k57 k67 q x1 x2 x3 x4 = some (o1, o2)) (hP : va_P D vwCl (w10 ty ad q) H) (hD : va_D A (w10 ty ad q)) (hS : va_S A s.heap H locs) (hl : lv_has ls 6 [(0, .ref (ad 0)), (1, .int x1), (2, .int x2), (3, .int x3), (4, .int x4)]) : W p l e ({ frames := 1, cells := 0, slots := 0, locals := 22 } : Room) s m args below meth c H locs 0 0 (MQ below (va_Ql (fun (r : Int64) (u : va_W) => o1 = r ∧ w10 ty ad o2 = u) (kz_B D ty A) A) args s 0 0 A) (F0 m 67 ls []) := by
  have C0 := C
  obtain ⟨hx, hb, hr, hts, hown, hlocks, hml, hK, hN, hE, hA⟩ := C
  unfold zX10_few_67b at h
  refine lv_iload hx hb dX10_few_67 (lv_at hl 4 rfl) ?_
  refine lv_if_lt (tgt := 140) hx hb dX10_few_69 (by decide) (fun c9 => ?_) (fun c9 => ?_)
  · rw [if_pos c9] at h
    refine lv_iinc (v := x3 + 1) (lv' := [(3, .int (x3 + 1)), (0, .ref (ad 0)), (1, .int x1), (2, .int x2), (4, .int x4)]) hx hb dX10_few_140 hl (k := 3) rfl rfl (by decide) rfl (fun ls hl => ?_)
    refine lv_goto (tgt := 57) hx hb dX10_few_143 (by decide) ?_
    exact hk57 _ _ _ _ _ _ _ h hP hD hS (lv_sub hl [1, 2, 3, 0] rfl)
  · rw [if_neg c9] at h
    refine lv_aload_n hx hb dX10_few_72 rfl (lv_at hl 0 rfl) ?_
    refine va_get (D := D) (ci := 10) (v := .ref (ad 26)) (C := RX10) (T := TX10) (N := 56) hx hb hts u9_wsX10_few_X10 hown hK hP 0 rfl rfl 45 (by decide) (hts (.fieldLink RX10 106 "TurnedFloorsModel" "shares" "[J") f9_wsX10_few_260) (fun _ h9 => h9) rfl dX10_few_73 ?_
    refine lv_iload hx hb dX10_few_76 (lv_at hl 4 rfl) ?_
    refine lv_iconst (v := 1) hx hb dX10_few_78 (by decide) ?_
    refine lv_iadd hx hb dX10_few_79 ?_
    refine lv_dup2_11 hx hb dX10_few_80 rfl rfl ?_
    obtain ⟨g1, h⟩ := dG_some h
    refine va_lald hx hb hK hP 26 1 rfl rfl (dg_in g1) dX10_few_81 ?_
    obtain ⟨v2, ev2, h⟩ := dL_some h
    refine kz_topl v2 ev2 ?_
    refine lv_aload_n hx hb dX10_few_82 rfl (lv_at hl 0 rfl) ?_
    refine va_get (D := D) (ci := 10) (v := .ref (ad 26)) (C := RX10) (T := TX10) (N := 56) hx hb hts u9_wsX10_few_X10 hown hK hP 0 rfl rfl 45 (by decide) (hts (.fieldLink RX10 106 "TurnedFloorsModel" "shares" "[J") f9_wsX10_few_260) (fun _ h9 => h9) rfl dX10_few_83 ?_
    refine lv_iload hx hb dX10_few_86 (lv_at hl 4 rfl) ?_
    obtain ⟨g3, h⟩ := dG_some h
    refine va_lald hx hb hK hP 26 1 rfl rfl (dg_in g3) dX10_few_88 ?_
    obtain ⟨v4, ev4, h⟩ := dL_some h
    refine kz_topl v4 ev4 ?_
    refine lv_aload_n hx hb dX10_few_89 rfl (lv_at hl 0 rfl) ?_
    refine va_get (D := D) (ci := 10) (v := .ref (ad 2)) (C := RX10) (T := TX10) (N := 56) hx hb hts u9_wsX10_few_X10 hown hK hP 0 rfl rfl 2 (by decide) (hts (.fieldLink RX10 28 "TurnedFloorsModel" "kept" "[I") f9_wsX10_few_261) (fun _ h9 => h9) rfl dX10_few_90 ?_
    refine lv_bipush (v := 26) hx hb dX10_few_93 (by decide) ?_
    refine va_iald hx hb hK hP 2 0 rfl rfl (by simp only [vp_in]; decide) dX10_few_95 ?_
    refine kz_topi (q.1 2 26) (congrArg (q.1 2) (by decide +kernel : Int32.toNatClampNeg 26 = 26)) ?_
    refine lv_i2l (v := Int32.toInt64 (q.1 2 26)) hx hb dX10_few_96 rfl ?_
    refine lv_lmul hx hb dX10_few_97 ?_
    refine lv_ldc2 (v := 10) hx hb hown (hts (.constantLong RX10 470 10) f9_wsX10_few_262) dX10_few_98 ?_
    refine lv_ldiv hx hb dX10_few_101 (by decide) ?_
    refine lv_ladd hx hb dX10_few_102 ?_
    obtain ⟨v5, ev5, h⟩ := dL_some h
    refine kz_topl v5 ev5 ?_
    obtain ⟨g6, h⟩ := dG_some h
    refine va_last hx hb hK hP hD hS 26 1 rfl rfl (dg_in g6) dX10_few_103 (fun H locs hp hd hs => ?_)
    obtain ⟨q7, eq7, h⟩ := dL_some h
    refine kz_re (w2 := w10 ty ad q7) hp hd hs (by rw [← eq7]; exact w10_a26 ty ad q (Int32.toNatClampNeg (x4 + 1 : Int32)) v5) ?_
    clear hp hd hs hP hD hS
    intro hP hD hS
    refine lv_aload_n hx hb dX10_few_104 rfl (lv_at hl 0 rfl) ?_
    refine va_get (D := D) (ci := 10) (v := .ref (ad 26)) (C := RX10) (T := TX10) (N := 56) hx hb hts u9_wsX10_few_X10 hown hK hP 0 rfl rfl 45 (by decide) (hts (.fieldLink RX10 106 "TurnedFloorsModel" "shares" "[J") f9_wsX10_few_260) (fun _ h9 => h9) rfl dX10_few_105 ?_
    refine lv_iload hx hb dX10_few_108 (lv_at hl 4 rfl) ?_
    refine lv_aload_n hx hb dX10_few_110 rfl (lv_at hl 0 rfl) ?_
    refine va_get (D := D) (ci := 10) (v := .ref (ad 26)) (C := RX10) (T := TX10) (N := 56) hx hb hts u9_wsX10_few_X10 hown hK hP 0 rfl rfl 45 (by decide) (hts (.fieldLink RX10 106 "TurnedFloorsModel" "shares" "[J") f9_wsX10_few_260) (fun _ h9 => h9) rfl dX10_few_111 ?_
    refine lv_iload hx hb dX10_few_114 (lv_at hl 4 rfl) ?_
    obtain ⟨g8, h⟩ := dG_some h
    refine va_lald hx hb hK hP 26 1 rfl rfl (dg_in g8) dX10_few_116 ?_
    obtain ⟨v9, ev9, h⟩ := dL_some h
    refine kz_topl v9 ev9 ?_
    refine lv_bipush (v := 10) hx hb dX10_few_117 (by decide) ?_
    refine lv_aload_n hx hb dX10_few_119 rfl (lv_at hl 0 rfl) ?_
    refine va_get (D := D) (ci := 10) (v := .ref (ad 2)) (C := RX10) (T := TX10) (N := 56) hx hb hts u9_wsX10_few_X10 hown hK hP 0 rfl rfl 2 (by decide) (hts (.fieldLink RX10 28 "TurnedFloorsModel" "kept" "[I") f9_wsX10_few_261) (fun _ h9 => h9) rfl dX10_few_120 ?_
    refine lv_bipush (v := 26) hx hb dX10_few_123 (by decide) ?_
    refine va_iald hx hb hK hP 2 0 rfl rfl (by simp only [vp_in]; decide) dX10_few_125 ?_
    refine kz_topi (q7.1 2 26) (congrArg (q7.1 2) (by decide +kernel : Int32.toNatClampNeg 26 = 26)) ?_
    refine lv_isub hx hb dX10_few_126 ?_
    refine lv_i2l (v := Int32.toInt64 (10 - (q7.1 2 26) : Int32)) hx hb dX10_few_127 rfl ?_
    refine lv_lmul hx hb dX10_few_128 ?_
    refine lv_ldc2 (v := 10) hx hb hown (hts (.constantLong RX10 470 10) f9_wsX10_few_262) dX10_few_129 ?_
    refine lv_ldiv hx hb dX10_few_132 (by decide) ?_
    obtain ⟨v10, ev10, h⟩ := dL_some h
    refine kz_topl v10 ev10 ?_
    obtain ⟨g11, h⟩ := dG_some h
    refine va_last hx hb hK hP hD hS 26 1 rfl rfl (dg_in g11) dX10_few_133 (fun H locs hp hd hs => ?_)
    obtain ⟨q12, eq12, h⟩ := dL_some h
    refine kz_re (w2 := w10 ty ad q12) hp hd hs (by rw [← eq12]; exact w10_a26 ty ad q7 (Int32.toNatClampNeg x4) v10) ?_
    clear hp hd hs hP hD hS
    intro hP hD hS
    refine lv_iinc (v := x4 + (-1)) (lv' := [(4, .int (x4 + (-1))), (0, .ref (ad 0)), (1, .int x1), (2, .int x2), (3, .int x3)]) hx hb dX10_few_134 hl (k := 4) rfl rfl (by decide) rfl (fun ls hl => ?_)
    refine lv_goto (tgt := 67) hx hb dX10_few_137 (by decide) ?_
    exact hk67 _ _ _ _ _ _ _ _ h hP hD hS (lv_sub hl [1, 2, 3, 4, 0] rfl)
set_option maxHeartbeats 4000000 in
set_option maxRecDepth 100000 in
theorem WX10_few_67 {p : Program} {l : Launch} {e : Env} {s : State} {m : MethodId} {args : Array Value} {below : List Frame} {meth : Method} {c : Code} {D : va_G} {ty : Nat → ClassId} {eo : Nat → Nat} {A : Nat → Prop} {ad : Nat → Nat} {o1 : Int64} {o2 : dS} (C : dc_C p s m args meth c cX10_few (some .long) 6 RX10 wsX10_few D ty eo A) {k57 : dS → Int32 → Int32 → Int32 → Option (Int64 × dS)} (hk57 : ∀ (q : dS) (x1 : Int32) (x2 : Int32) (x3 : Int32) (H : Heap) (locs : List Loc) (ls : Array Slot), k57 q x1 x2 x3 = some (o1, o2) → va_P D vwCl (w10 ty ad q) H → va_D A (w10 ty ad q) → va_S A s.heap H locs → lv_has ls 6 [(0, .ref (ad 0)), (1, .int x1), (2, .int x2), (3, .int x3)] → W p l e ({ frames := 1, cells := 0, slots := 0, locals := 22 } : Room) s m args below meth c H locs 0 0 (MQ below (va_Ql (fun (r : Int64) (u : va_W) => o1 = r ∧ w10 ty ad o2 = u) (kz_B D ty A) A) args s 0 0 A) (F0 m 57 ls [])) (n : Nat) (q : dS) (x1 : Int32) (x2 : Int32) (x3 : Int32) (x4 : Int32) (H : Heap) (locs : List Loc) (ls : Array Slot) (h : zX10_few_67 k57 n q x1 x2 x3 x4 = some (o1, o2)) (hP : va_P D vwCl (w10 ty ad q) H) (hD : va_D A (w10 ty ad q)) (hS : va_S A s.heap H locs) (hl : lv_has ls 6 [(0, .ref (ad 0)), (1, .int x1), (2, .int x2), (3, .int x3), (4, .int x4)]) : W p l e ({ frames := 1, cells := 0, slots := 0, locals := 22 } : Room) s m args below meth c H locs 0 0 (MQ below (va_Ql (fun (r : Int64) (u : va_W) => o1 = r ∧ w10 ty ad o2 = u) (kz_B D ty A) A) args s 0 0 A) (F0 m 67 ls []) := by
  exact dFix_W (F := fun k (a : dS × Int32 × Int32 × Int32 × Int32) => zX10_few_67b k57 (fun q x1 x2 x3 x4 => k (q, x1, x2, x3, x4)) a.1 a.2.1 a.2.2.1 a.2.2.2.1 a.2.2.2.2) (o := (o1, o2)) (P := fun (a : dS × Int32 × Int32 × Int32 × Int32) H locs ls => va_P D vwCl (w10 ty ad a.1) H ∧ va_D A (w10 ty ad a.1) ∧ va_S A s.heap H locs ∧ lv_has ls 6 [(0, .ref (ad 0)), (1, .int a.2.1), (2, .int a.2.2.1), (3, .int a.2.2.2.1), (4, .int a.2.2.2.2)]) (G := fun H locs ls => W p l e ({ frames := 1, cells := 0, slots := 0, locals := 22 } : Room) s m args below meth c H locs 0 0 (MQ below (va_Ql (fun (r : Int64) (u : va_W) => o1 = r ∧ w10 ty ad o2 = u) (kz_B D ty A) A) args s 0 0 A) (F0 m 67 ls []))
    (fun k hk a H locs ls h hp => WX10_few_67b C hk57 (fun q x1 x2 x3 x4 H locs ls h h1 h2 h3 h4 => hk (q, x1, x2, x3, x4) H locs ls h ⟨h1, h2, h3, h4⟩) a.1 a.2.1 a.2.2.1 a.2.2.2.1 a.2.2.2.2 H locs ls h hp.1 hp.2.1 hp.2.2.1 hp.2.2.2) n (q, x1, x2, x3, x4) H locs ls h ⟨hP, hD, hS, hl⟩
set_option maxHeartbeats 4000000 in
set_option maxRecDepth 100000 in
theorem WX10_few_57b {p : Program} {l : Launch} {e : Env} {s : State} {m : MethodId} {args : Array Value} {below : List Frame} {meth : Method} {c : Code} {D : va_G} {ty : Nat → ClassId} {eo : Nat → Nat} {A : Nat → Prop} {ad : Nat → Nat} {o1 : Int64} {o2 : dS} (C : dc_C p s m args meth c cX10_few (some .long) 6 RX10 wsX10_few D ty eo A) {k57 : dS → Int32 → Int32 → Int32 → Option (Int64 × dS)} (hk57 : ∀ (q : dS) (x1 : Int32) (x2 : Int32) (x3 : Int32) (H : Heap) (locs : List Loc) (ls : Array Slot), k57 q x1 x2 x3 = some (o1, o2) → va_P D vwCl (w10 ty ad q) H → va_D A (w10 ty ad q) → va_S A s.heap H locs → lv_has ls 6 [(0, .ref (ad 0)), (1, .int x1), (2, .int x2), (3, .int x3)] → W p l e ({ frames := 1, cells := 0, slots := 0, locals := 22 } : Room) s m args below meth c H locs 0 0 (MQ below (va_Ql (fun (r : Int64) (u : va_W) => o1 = r ∧ w10 ty ad o2 = u) (kz_B D ty A) A) args s 0 0 A) (F0 m 57 ls [])) (q : dS) (x1 : Int32) (x2 : Int32) (x3 : Int32) (H : Heap) (locs : List Loc) (ls : Array Slot) (h : zX10_few_57b k57 q x1 x2 x3 = some (o1, o2)) (hP : va_P D vwCl (w10 ty ad q) H) (hD : va_D A (w10 ty ad q)) (hS : va_S A s.heap H locs) (hl : lv_has ls 6 [(0, .ref (ad 0)), (1, .int x1), (2, .int x2), (3, .int x3)]) : W p l e ({ frames := 1, cells := 0, slots := 0, locals := 22 } : Room) s m args below meth c H locs 0 0 (MQ below (va_Ql (fun (r : Int64) (u : va_W) => o1 = r ∧ w10 ty ad o2 = u) (kz_B D ty A) A) args s 0 0 A) (F0 m 57 ls []) := by
  have C0 := C
  obtain ⟨hx, hb, hr, hts, hown, hlocks, hml, hK, hN, hE, hA⟩ := C
  unfold zX10_few_57b at h
  refine lv_iload_n hx hb dX10_few_57 rfl (lv_at hl 3 rfl) ?_
  refine lv_iload_n hx hb dX10_few_58 rfl (lv_at hl 2 rfl) ?_
  refine lv_icmp_ge (tgt := 146) hx hb dX10_few_59 (by decide) (fun c9 => ?_) (fun c9 => ?_)
  · rw [if_pos c9] at h
    refine lv_lconst (v := 0) hx hb dX10_few_146 (by decide) ?_
    refine lv_lstore_n (lv' := [(3, .long 0), (0, .ref (ad 0)), (1, .int x1), (2, .int x2)]) hx hb dX10_few_147 rfl hl (by decide) rfl (fun ls hl => ?_)
    refine lv_iconst (v := 0) hx hb dX10_few_148 (by decide) ?_
    refine lv_istore (lv' := [(5, .int 0), (3, .long 0), (0, .ref (ad 0)), (1, .int x1), (2, .int x2)]) hx hb dX10_few_149 hl (by decide) rfl (fun ls hl => ?_)
    exact WX10_few_151 C0  _ _ _ _ _ _ _ _ h hP hD hS (lv_sub hl [2, 3, 1, 0] rfl)
  · rw [if_neg c9] at h
    refine lv_iload_n hx hb dX10_few_62 rfl (lv_at hl 1 rfl) ?_
    refine lv_iconst (v := 1) hx hb dX10_few_63 (by decide) ?_
    refine lv_isub hx hb dX10_few_64 ?_
    refine lv_istore (lv' := [(4, .int (x1 - 1 : Int32)), (0, .ref (ad 0)), (1, .int x1), (2, .int x2), (3, .int x3)]) hx hb dX10_few_65 hl (by decide) rfl (fun ls hl => ?_)
    exact WX10_few_67 C0 hk57 _ _ _ _ _ _ _ _ _ h hP hD hS (lv_sub hl [1, 2, 3, 4, 0] rfl)
set_option maxHeartbeats 4000000 in
set_option maxRecDepth 100000 in
theorem WX10_few_57 {p : Program} {l : Launch} {e : Env} {s : State} {m : MethodId} {args : Array Value} {below : List Frame} {meth : Method} {c : Code} {D : va_G} {ty : Nat → ClassId} {eo : Nat → Nat} {A : Nat → Prop} {ad : Nat → Nat} {o1 : Int64} {o2 : dS} (C : dc_C p s m args meth c cX10_few (some .long) 6 RX10 wsX10_few D ty eo A)   (n : Nat) (q : dS) (x1 : Int32) (x2 : Int32) (x3 : Int32) (H : Heap) (locs : List Loc) (ls : Array Slot) (h : zX10_few_57  n q x1 x2 x3 = some (o1, o2)) (hP : va_P D vwCl (w10 ty ad q) H) (hD : va_D A (w10 ty ad q)) (hS : va_S A s.heap H locs) (hl : lv_has ls 6 [(0, .ref (ad 0)), (1, .int x1), (2, .int x2), (3, .int x3)]) : W p l e ({ frames := 1, cells := 0, slots := 0, locals := 22 } : Room) s m args below meth c H locs 0 0 (MQ below (va_Ql (fun (r : Int64) (u : va_W) => o1 = r ∧ w10 ty ad o2 = u) (kz_B D ty A) A) args s 0 0 A) (F0 m 57 ls []) := by
  exact dFix_W (F := fun k (a : dS × Int32 × Int32 × Int32) => zX10_few_57b  (fun q x1 x2 x3 => k (q, x1, x2, x3)) a.1 a.2.1 a.2.2.1 a.2.2.2) (o := (o1, o2)) (P := fun (a : dS × Int32 × Int32 × Int32) H locs ls => va_P D vwCl (w10 ty ad a.1) H ∧ va_D A (w10 ty ad a.1) ∧ va_S A s.heap H locs ∧ lv_has ls 6 [(0, .ref (ad 0)), (1, .int a.2.1), (2, .int a.2.2.1), (3, .int a.2.2.2)]) (G := fun H locs ls => W p l e ({ frames := 1, cells := 0, slots := 0, locals := 22 } : Room) s m args below meth c H locs 0 0 (MQ below (va_Ql (fun (r : Int64) (u : va_W) => o1 = r ∧ w10 ty ad o2 = u) (kz_B D ty A) A) args s 0 0 A) (F0 m 57 ls []))
    (fun k hk a H locs ls h hp => WX10_few_57b C  (fun q x1 x2 x3 H locs ls h h1 h2 h3 h4 => hk (q, x1, x2, x3) H locs ls h ⟨h1, h2, h3, h4⟩) a.1 a.2.1 a.2.2.1 a.2.2.2 H locs ls h hp.1 hp.2.1 hp.2.2.1 hp.2.2.2) n (q, x1, x2, x3) H locs ls h ⟨hP, hD, hS, hl⟩
set_option maxHeartbeats 4000000 in
set_option maxRecDepth 100000 in
theorem WX10_few_48 {p : Program} {l : Launch} {e : Env} {s : State} {m : MethodId} {args : Array Value} {below : List Frame} {meth : Method} {c : Code} {D : va_G} {ty : Nat → ClassId} {eo : Nat → Nat} {A : Nat → Prop} {ad : Nat → Nat} {o1 : Int64} {o2 : dS} (C : dc_C p s m args meth c cX10_few (some .long) 6 RX10 wsX10_few D ty eo A) {k26 : dS → Int32 → Int32 → Int32 → Option (Int64 × dS)} (hk26 : ∀ (q : dS) (x1 : Int32) (x2 : Int32) (x3 : Int32) (H : Heap) (locs : List Loc) (ls : Array Slot), k26 q x1 x2 x3 = some (o1, o2) → va_P D vwCl (w10 ty ad q) H → va_D A (w10 ty ad q) → va_S A s.heap H locs → lv_has ls 6 [(0, .ref (ad 0)), (1, .int x1), (2, .int x2), (3, .int x3)] → W p l e ({ frames := 1, cells := 0, slots := 0, locals := 22 } : Room) s m args below meth c H locs 0 0 (MQ below (va_Ql (fun (r : Int64) (u : va_W) => o1 = r ∧ w10 ty ad o2 = u) (kz_B D ty A) A) args s 0 0 A) (F0 m 26 ls [])) (q : dS) (x1 : Int32) (x2 : Int32) (x3 : Int32) (y0 : Int64) (y1 : Int32) (H : Heap) (locs : List Loc) (ls : Array Slot) (h : zX10_few_48 k26 q x1 x2 x3 y0 y1 = some (o1, o2)) (hP : va_P D vwCl (w10 ty ad q) H) (hD : va_D A (w10 ty ad q)) (hS : va_S A s.heap H locs) (hl : lv_has ls 6 [(0, .ref (ad 0)), (1, .int x1), (2, .int x2), (3, .int x3)]) : W p l e ({ frames := 1, cells := 0, slots := 0, locals := 22 } : Room) s m args below meth c H locs 0 0 (MQ below (va_Ql (fun (r : Int64) (u : va_W) => o1 = r ∧ w10 ty ad o2 = u) (kz_B D ty A) A) args s 0 0 A) (F0 m 48 ls [.long y0, .int y1, .ref (ad 26)]) := by
  have C0 := C
  obtain ⟨hx, hb, hr, hts, hown, hlocks, hml, hK, hN, hE, hA⟩ := C
  unfold zX10_few_48 at h
  obtain ⟨g1, h⟩ := dG_some h
  refine va_last hx hb hK hP hD hS 26 1 rfl rfl (dg_in g1) dX10_few_48 (fun H locs hp hd hs => ?_)
  obtain ⟨q2, eq2, h⟩ := dL_some h
  refine kz_re (w2 := w10 ty ad q2) hp hd hs (by rw [← eq2]; exact w10_a26 ty ad q (Int32.toNatClampNeg y1) y0) ?_
  clear hp hd hs hP hD hS
  intro hP hD hS
  refine lv_iinc (v := x3 + 1) (lv' := [(3, .int (x3 + 1)), (0, .ref (ad 0)), (1, .int x1), (2, .int x2)]) hx hb dX10_few_49 hl (k := 3) rfl rfl (by decide) rfl (fun ls hl => ?_)
  refine lv_goto (tgt := 26) hx hb dX10_few_52 (by decide) ?_
  exact hk26 _ _ _ _ _ _ _ h hP hD hS (lv_sub hl [1, 2, 3, 0] rfl)
set_option maxHeartbeats 4000000 in
set_option maxRecDepth 100000 in
theorem WX10_few_26b {p : Program} {l : Launch} {e : Env} {s : State} {m : MethodId} {args : Array Value} {below : List Frame} {meth : Method} {c : Code} {D : va_G} {ty : Nat → ClassId} {eo : Nat → Nat} {A : Nat → Prop} {ad : Nat → Nat} {o1 : Int64} {o2 : dS} (C : dc_C p s m args meth c cX10_few (some .long) 6 RX10 wsX10_few D ty eo A) {k26 : dS → Int32 → Int32 → Int32 → Option (Int64 × dS)} (hk26 : ∀ (q : dS) (x1 : Int32) (x2 : Int32) (x3 : Int32) (H : Heap) (locs : List Loc) (ls : Array Slot), k26 q x1 x2 x3 = some (o1, o2) → va_P D vwCl (w10 ty ad q) H → va_D A (w10 ty ad q) → va_S A s.heap H locs → lv_has ls 6 [(0, .ref (ad 0)), (1, .int x1), (2, .int x2), (3, .int x3)] → W p l e ({ frames := 1, cells := 0, slots := 0, locals := 22 } : Room) s m args below meth c H locs 0 0 (MQ below (va_Ql (fun (r : Int64) (u : va_W) => o1 = r ∧ w10 ty ad o2 = u) (kz_B D ty A) A) args s 0 0 A) (F0 m 26 ls [])) (q : dS) (x1 : Int32) (x2 : Int32) (x3 : Int32) (H : Heap) (locs : List Loc) (ls : Array Slot) (h : zX10_few_26b k26 q x1 x2 x3 = some (o1, o2)) (hP : va_P D vwCl (w10 ty ad q) H) (hD : va_D A (w10 ty ad q)) (hS : va_S A s.heap H locs) (hl : lv_has ls 6 [(0, .ref (ad 0)), (1, .int x1), (2, .int x2), (3, .int x3)]) : W p l e ({ frames := 1, cells := 0, slots := 0, locals := 22 } : Room) s m args below meth c H locs 0 0 (MQ below (va_Ql (fun (r : Int64) (u : va_W) => o1 = r ∧ w10 ty ad o2 = u) (kz_B D ty A) A) args s 0 0 A) (F0 m 26 ls []) := by
  have C0 := C
  obtain ⟨hx, hb, hr, hts, hown, hlocks, hml, hK, hN, hE, hA⟩ := C
  unfold zX10_few_26b at h
  refine lv_iload_n hx hb dX10_few_26 rfl (lv_at hl 3 rfl) ?_
  refine lv_bipush (v := 20) hx hb dX10_few_27 (by decide) ?_
  refine lv_icmp_gt (tgt := 55) hx hb dX10_few_29 (by decide) (fun c9 => ?_) (fun c9 => ?_)
  · rw [if_pos c9] at h
    refine lv_iconst (v := 0) hx hb dX10_few_55 (by decide) ?_
    refine lv_istore_n (lv' := [(3, .int 0), (0, .ref (ad 0)), (1, .int x1), (2, .int x2)]) hx hb dX10_few_56 rfl hl (by decide) rfl (fun ls hl => ?_)
    exact WX10_few_57 C0  _ _ _ _ _ _ _ _ h hP hD hS (lv_sub hl [1, 2, 3, 0] rfl)
  · rw [if_neg c9] at h
    refine lv_aload_n hx hb dX10_few_32 rfl (lv_at hl 0 rfl) ?_
    refine va_get (D := D) (ci := 10) (v := .ref (ad 26)) (C := RX10) (T := TX10) (N := 56) hx hb hts u9_wsX10_few_X10 hown hK hP 0 rfl rfl 45 (by decide) (hts (.fieldLink RX10 106 "TurnedFloorsModel" "shares" "[J") f9_wsX10_few_260) (fun _ h9 => h9) rfl dX10_few_33 ?_
    refine lv_iload_n hx hb dX10_few_36 rfl (lv_at hl 3 rfl) ?_
    refine lv_iload_n hx hb dX10_few_37 rfl (lv_at hl 3 rfl) ?_
    refine lv_if_ne (tgt := 47) hx hb dX10_few_38 (by decide) (fun c9 => ?_) (fun c9 => ?_)
    · rw [if_neg c9] at h
      refine lv_lconst (v := 0) hx hb dX10_few_47 (by decide) ?_
      exact WX10_few_48 C0 hk26 _ _ _ _ _ _ _ _ _ h hP hD hS (lv_sub hl [0, 1, 2, 3] rfl)
    · rw [if_pos c9] at h
      refine lv_ldc2 (v := 1000000000000) hx hb hown (hts (.constantLong RX10 468 1000000000000) f9_wsX10_few_263) dX10_few_41 ?_
      refine lv_goto (tgt := 48) hx hb dX10_few_44 (by decide) ?_
      exact WX10_few_48 C0 hk26 _ _ _ _ _ _ _ _ _ h hP hD hS (lv_sub hl [0, 1, 2, 3] rfl)
set_option maxHeartbeats 4000000 in
set_option maxRecDepth 100000 in
theorem WX10_few_26 {p : Program} {l : Launch} {e : Env} {s : State} {m : MethodId} {args : Array Value} {below : List Frame} {meth : Method} {c : Code} {D : va_G} {ty : Nat → ClassId} {eo : Nat → Nat} {A : Nat → Prop} {ad : Nat → Nat} {o1 : Int64} {o2 : dS} (C : dc_C p s m args meth c cX10_few (some .long) 6 RX10 wsX10_few D ty eo A)   (n : Nat) (q : dS) (x1 : Int32) (x2 : Int32) (x3 : Int32) (H : Heap) (locs : List Loc) (ls : Array Slot) (h : zX10_few_26  n q x1 x2 x3 = some (o1, o2)) (hP : va_P D vwCl (w10 ty ad q) H) (hD : va_D A (w10 ty ad q)) (hS : va_S A s.heap H locs) (hl : lv_has ls 6 [(0, .ref (ad 0)), (1, .int x1), (2, .int x2), (3, .int x3)]) : W p l e ({ frames := 1, cells := 0, slots := 0, locals := 22 } : Room) s m args below meth c H locs 0 0 (MQ below (va_Ql (fun (r : Int64) (u : va_W) => o1 = r ∧ w10 ty ad o2 = u) (kz_B D ty A) A) args s 0 0 A) (F0 m 26 ls []) := by
  exact dFix_W (F := fun k (a : dS × Int32 × Int32 × Int32) => zX10_few_26b  (fun q x1 x2 x3 => k (q, x1, x2, x3)) a.1 a.2.1 a.2.2.1 a.2.2.2) (o := (o1, o2)) (P := fun (a : dS × Int32 × Int32 × Int32) H locs ls => va_P D vwCl (w10 ty ad a.1) H ∧ va_D A (w10 ty ad a.1) ∧ va_S A s.heap H locs ∧ lv_has ls 6 [(0, .ref (ad 0)), (1, .int a.2.1), (2, .int a.2.2.1), (3, .int a.2.2.2)]) (G := fun H locs ls => W p l e ({ frames := 1, cells := 0, slots := 0, locals := 22 } : Room) s m args below meth c H locs 0 0 (MQ below (va_Ql (fun (r : Int64) (u : va_W) => o1 = r ∧ w10 ty ad o2 = u) (kz_B D ty A) A) args s 0 0 A) (F0 m 26 ls []))
    (fun k hk a H locs ls h hp => WX10_few_26b C  (fun q x1 x2 x3 H locs ls h h1 h2 h3 h4 => hk (q, x1, x2, x3) H locs ls h ⟨h1, h2, h3, h4⟩) a.1 a.2.1 a.2.2.1 a.2.2.2 H locs ls h hp.1 hp.2.1 hp.2.2.1 hp.2.2.2) n (q, x1, x2, x3) H locs ls h ⟨hP, hD, hS, hl⟩
set_option maxHeartbeats 4000000 in
set_option maxRecDepth 100000 in
theorem WX10_few_20 {p : Program} {l : Launch} {e : Env} {s : State} {m : MethodId} {args : Array Value} {below : List Frame} {meth : Method} {c : Code} {D : va_G} {ty : Nat → ClassId} {eo : Nat → Nat} {A : Nat → Prop} {ad : Nat → Nat} {o1 : Int64} {o2 : dS} (C : dc_C p s m args meth c cX10_few (some .long) 6 RX10 wsX10_few D ty eo A)   (q : dS)  (H : Heap) (locs : List Loc) (ls : Array Slot) (h : zX10_few_20  q = some (o1, o2)) (hP : va_P D vwCl (w10 ty ad q) H) (hD : va_D A (w10 ty ad q)) (hS : va_S A s.heap H locs) (hl : lv_has ls 6 []) : W p l e ({ frames := 1, cells := 0, slots := 0, locals := 22 } : Room) s m args below meth c H locs 0 0 (MQ below (va_Ql (fun (r : Int64) (u : va_W) => o1 = r ∧ w10 ty ad o2 = u) (kz_B D ty A) A) args s 0 0 A) (F0 m 20 ls []) := by
  have C0 := C
  obtain ⟨hx, hb, hr, hts, hown, hlocks, hml, hK, hN, hE, hA⟩ := C
  unfold zX10_few_20 at h
  refine lv_ldc2 (v := (-1)) hx hb hown (hts (.constantLong RX10 466 (-1)) f9_wsX10_few_264) dX10_few_20 ?_
  cases h
  exact kz_lret hx hb hr hlocks hP hK hD hS dX10_few_23 ⟨rfl, rfl⟩
set_option maxHeartbeats 4000000 in
set_option maxRecDepth 100000 in
theorem qX10_few (l : Launch) (D : va_G) (ty : Nat → ClassId) (eo : Nat → Nat) (sz : Nat) (ad : Nat → Nat) (q : dS) (p1 : Int32) (p2 : Int32) (o1 : Int64) (o2 : dS) (h : zX10_few q p1 p2 = some (o1, o2)) : Met l yX10_few wsX10_few ({ frames := 1, cells := 0, slots := 0, locals := 22 } : Room) (va_Pc [.ref (ad 0), .int p1, .int p2] (kz_pre D ty eo (w10 ty ad q) sz)) (va_Ql (fun (r : Int64) (u : va_W) => o1 = r ∧ w10 ty ad o2 = u) (kz_B D ty (va_A (w10 ty ad q) sz)) (va_A (w10 ty ad q) sz)) 0 0 (va_A (w10 ty ad q) sz) := by
  refine Met.ofW (cc := cX10_few) (maxL := 6) (ret := (some .long)) (by decide) rfl ?_
  intro p e s m args below meth c s₁ B hml hv
  obtain ⟨rfl, hsz, hP, hK, hD0, hN, hE⟩ := hv
  have hx := B.exec
  have hb := B.bytes
  have hr := B.returns
  have hts := atoms_spec (ws := wsX10_few) B.pre
  have hown : s.vm.findClass RX10 = some m.cls := findClass_of_methodNamed B.named
  have hlocks := B.notSynchronized
  subst hsz
  have hD := hD0.self (sz := s.heap.size)
  generalize hAe : va_A (w10 ty ad q) s.heap.size = A at hD hE ⊢
  have hA : ∀ q : Nat, s.heap.size ≤ q → A q := fun q h => by rw [← hAe]; exact Or.inr h
  clear hAe
  have hS : va_S A s.heap s.heap [] := va_S.rf
  have hl := lv_entry ([.ref (ad 0), .int p1, .int p2]) (n := 6) (Nat.le_of_ble_eq_true rfl)
  rw [lg_entry_eq]
  generalize (lg_sl ([.ref (ad 0), .int p1, .int p2]) ++ List.replicate (6 - (lg_sl ([.ref (ad 0), .int p1, .int p2])).length) Slot.unset).toArray = ls at hl ⊢
  have hl : lv_has ls 6 [(0, .ref (ad 0)), (1, .int p1), (2, .int p2)] := hl
  have C : dc_C p s m _ meth c cX10_few (some .long) 6 RX10 wsX10_few D ty eo A := ⟨hx, hb, hr, hts, hown, hlocks, hml, hK, hN, hE, hA⟩
  unfold zX10_few at h
  refine lv_iload_n hx hb dX10_few_0 rfl (lv_at hl 1 rfl) ?_
  refine lv_iconst (v := 1) hx hb dX10_few_1 (by decide) ?_
  refine lv_bipush (v := 20) hx hb dX10_few_2 (by decide) ?_
  obtain ⟨r1, h2, h⟩ := dV_some h
  refine dw_ks (va_runS (As := [.int p1, .int 1, .int 20]) (rest := []) ⟨hx, hb, hml, hown, hts⟩ (qX10_lies l D ty eo _ p1 1 20 _ h2) (va_cwS 3 hts gX10_few_X10_lies rfl rfl rfl (by decide +kernel) ⟨Nat.le_of_ble_eq_true rfl, Nat.le_of_ble_eq_true rfl⟩) (kz_preS hK hN hE hP hD hS hA [] (by decide) rfl) rfl rfl hl.1 rfl (lv_room (Nat.le_of_ble_eq_true rfl)) dX10_few_4 ⟨Nat.le_of_ble_eq_true rfl, Nat.le_of_ble_eq_true rfl⟩) hP hD hS hA (fun _ _ h9 => h9.2.symm) (fun r9 u9 H locs hw hp hd hs => ?_)
  obtain ⟨rfl, -⟩ := hw
  clear hP hD hS
  have hP := hp; have hD := hd; have hS := hs; clear hp hd hs
  refine lv_if_eq (tgt := 20) hx hb dX10_few_7 (by decide) (fun c9 => ?_) (fun c9 => ?_)
  · rw [if_pos c9] at h
    exact WX10_few_20 C  _ _ _ _ h hP hD hS (lv_sub hl [] rfl)
  · rw [if_neg c9] at h
    refine lv_iload_n hx hb dX10_few_10 rfl (lv_at hl 2 rfl) ?_
    refine lv_iconst (v := 0) hx hb dX10_few_11 (by decide) ?_
    refine lv_bipush (v := 99) hx hb dX10_few_12 (by decide) ?_
    obtain ⟨r3, h4, h⟩ := dV_some h
    refine dw_ks (va_runS (As := [.int p2, .int 0, .int 99]) (rest := []) ⟨hx, hb, hml, hown, hts⟩ (qX10_lies l D ty eo _ p2 0 99 _ h4) (va_cwS 3 hts gX10_few_X10_lies rfl rfl rfl (by decide +kernel) ⟨Nat.le_of_ble_eq_true rfl, Nat.le_of_ble_eq_true rfl⟩) (kz_preS hK hN hE hP hD hS hA [] (by decide) rfl) rfl rfl hl.1 rfl (lv_room (Nat.le_of_ble_eq_true rfl)) dX10_few_14 ⟨Nat.le_of_ble_eq_true rfl, Nat.le_of_ble_eq_true rfl⟩) hP hD hS hA (fun _ _ h9 => h9.2.symm) (fun r9 u9 H locs hw hp hd hs => ?_)
    obtain ⟨rfl, -⟩ := hw
    clear hP hD hS
    have hP := hp; have hD := hd; have hS := hs; clear hp hd hs
    refine lv_if_ne (tgt := 24) hx hb dX10_few_17 (by decide) (fun c9 => ?_) (fun c9 => ?_)
    · rw [if_neg c9] at h
      refine lv_iconst (v := 0) hx hb dX10_few_24 (by decide) ?_
      refine lv_istore_n (lv' := [(3, .int 0), (0, .ref (ad 0)), (1, .int p1), (2, .int p2)]) hx hb dX10_few_25 rfl hl (by decide) rfl (fun ls hl => ?_)
      exact WX10_few_26 C  _ _ _ _ _ _ _ _ h hP hD hS (lv_sub hl [1, 2, 3, 0] rfl)
    · rw [if_pos c9] at h
      exact WX10_few_20 C  _ _ _ _ h hP hD hS (lv_sub hl [] rfl)

set_option maxHeartbeats 4000000 in
set_option maxRecDepth 100000 in
theorem qX10_stopped (l : Launch) (D : va_G) (ty : Nat → ClassId) (eo : Nat → Nat) (sz : Nat) (ad : Nat → Nat) (q : dS)  (o1 : Int32) (o2 : dS) (h : zX10_stopped q = some (o1, o2)) : Met l yX10_stopped wsX10_stopped ({ frames := 0, cells := 0, slots := 0, locals := 0 } : Room) (va_Pc [.ref (ad 0)] (kz_pre D ty eo (w10 ty ad q) sz)) (va_Qi (fun (r : Int32) (u : va_W) => o1 = r ∧ w10 ty ad o2 = u) (kz_B D ty (va_A (w10 ty ad q) sz)) (va_A (w10 ty ad q) sz)) 0 0 (va_A (w10 ty ad q) sz) := by
  refine Met.ofW (cc := cX10_stopped) (maxL := 1) (ret := (some .int)) (by decide) rfl ?_
  intro p e s m args below meth c s₁ B hml hv
  obtain ⟨rfl, hsz, hP, hK, hD0, hN, hE⟩ := hv
  have hx := B.exec
  have hb := B.bytes
  have hr := B.returns
  have hts := atoms_spec (ws := wsX10_stopped) B.pre
  have hown : s.vm.findClass RX10 = some m.cls := findClass_of_methodNamed B.named
  have hlocks := B.notSynchronized
  subst hsz
  have hD := hD0.self (sz := s.heap.size)
  generalize hAe : va_A (w10 ty ad q) s.heap.size = A at hD hE ⊢
  have hA : ∀ q : Nat, s.heap.size ≤ q → A q := fun q h => by rw [← hAe]; exact Or.inr h
  clear hAe
  have hS : va_S A s.heap s.heap [] := va_S.rf
  have hl := lv_entry ([.ref (ad 0)]) (n := 1) (Nat.le_of_ble_eq_true rfl)
  rw [lg_entry_eq]
  generalize (lg_sl ([.ref (ad 0)]) ++ List.replicate (1 - (lg_sl ([.ref (ad 0)])).length) Slot.unset).toArray = ls at hl ⊢
  have hl : lv_has ls 1 [(0, .ref (ad 0))] := hl
  have C : dc_C p s m _ meth c cX10_stopped (some .int) 1 RX10 wsX10_stopped D ty eo A := ⟨hx, hb, hr, hts, hown, hlocks, hml, hK, hN, hE, hA⟩
  unfold zX10_stopped at h
  refine lv_aload_n hx hb dX10_stopped_0 rfl (lv_at hl 0 rfl) ?_
  refine va_get (D := D) (ci := 10) (v := .int (q.1 0 46)) (C := RX10) (T := TX10) (N := 56) hx hb hts u9_wsX10_stopped_X10 hown hK hP 0 rfl rfl 46 (by decide) (hts (.fieldLink RX10 110 "TurnedFloorsModel" "stopped0" "I") f9_wsX10_stopped_266) (fun _ h9 => h9) rfl dX10_stopped_1 ?_
  cases h
  exact kz_iret hx hb hr hlocks hP hK hD hS dX10_stopped_4 ⟨rfl, rfl⟩

set_option maxHeartbeats 4000000 in
set_option maxRecDepth 100000 in
theorem WX10_goesAlong_174 {p : Program} {l : Launch} {e : Env} {s : State} {m : MethodId} {args : Array Value} {below : List Frame} {meth : Method} {c : Code} {D : va_G} {ty : Nat → ClassId} {eo : Nat → Nat} {A : Nat → Prop} {ad : Nat → Nat} {o2 : dS} (C : dc_C p s m args meth c cX10_goesAlong none 3 RX10 wsX10_goesAlong D ty eo A)   (q : dS) (y0 : Int32) (H : Heap) (locs : List Loc) (ls : Array Slot) (h : zX10_goesAlong_174  q y0 = some o2) (hP : va_P D vwCl (w10 ty ad q) H) (hD : va_D A (w10 ty ad q)) (hS : va_S A s.heap H locs) (hl : lv_has ls 3 [(0, .ref (ad 0))]) : W p l e ({ frames := 85, cells := 0, slots := 0, locals := 2173 } : Room) s m args below meth c H locs 0 0 (MQ below (va_Qv (fun (u : va_W) => w10 ty ad o2 = u) (kz_B D ty A) A) args s 0 0 A) (F0 m 174 ls [.int y0, .ref (ad 0)]) := by
  have C0 := C
  obtain ⟨hx, hb, hr, hts, hown, hlocks, hml, hK, hN, hE, hA⟩ := C
  unfold zX10_goesAlong_174 at h
  obtain ⟨g1, h⟩ := dG_some h
  refine va_put (D := D) (ci := 10) (v := .int y0) (ty := .boolean) (C := RX10) (T := TX10) (N := 56) hx hb hts u9_wsX10_goesAlong_X10 tyX10 tyX10_ok nmX10 hown hK hP hD hS 0 rfl rfl 51 (by decide) (hts (.fieldLink RX10 497 "TurnedFloorsModel" "testIs" "Z") f9_wsX10_goesAlong_268) (fun _ h9 => h9) rfl (by decide +kernel) (dbl_nar g1) (dbl_fit g1) (Nat.le_of_ble_eq_true rfl) dX10_goesAlong_174 (fun H locs hp hd hs => ?_)
  obtain ⟨q2, eq2, h⟩ := dL_some h
  refine kz_re (w2 := w10 ty ad q2) hp hd hs (by rw [← eq2]; exact w10_f51 ty ad q y0) ?_
  clear hp hd hs hP hD hS
  intro hP hD hS
  refine lv_aload_n hx hb dX10_goesAlong_177 rfl (lv_at hl 0 rfl) ?_
  refine lv_dup hx hb dX10_goesAlong_178 rfl ?_
  refine va_get (D := D) (ci := 10) (v := .int (q2.1 0 22)) (C := RX10) (T := TX10) (N := 56) hx hb hts u9_wsX10_goesAlong_X10 hown hK hP 0 rfl rfl 22 (by decide) (hts (.fieldLink RX10 278 "TurnedFloorsModel" "go" "I") f9_wsX10_goesAlong_269) (fun _ h9 => h9) rfl dX10_goesAlong_179 ?_
  refine lv_iconst (v := 1) hx hb dX10_goesAlong_182 (by decide) ?_
  refine lv_iadd hx hb dX10_goesAlong_183 ?_
  refine va_put (D := D) (ci := 10) (v := .int ((q2.1 0 22) + 1 : Int32)) (ty := .int) (C := RX10) (T := TX10) (N := 56) hx hb hts u9_wsX10_goesAlong_X10 tyX10 tyX10_ok nmX10 hown hK hP hD hS 0 rfl rfl 22 (by decide) (hts (.fieldLink RX10 278 "TurnedFloorsModel" "go" "I") f9_wsX10_goesAlong_269) (fun _ h9 => h9) rfl (by decide +kernel) rfl rfl (Nat.le_of_ble_eq_true rfl) dX10_goesAlong_184 (fun H locs hp hd hs => ?_)
  obtain ⟨q3, eq3, h⟩ := dL_some h
  refine kz_re (w2 := w10 ty ad q3) hp hd hs (by rw [← eq3]; exact w10_f22 ty ad q2 ((q2.1 0 22) + 1 : Int32)) ?_
  clear hp hd hs hP hD hS
  intro hP hD hS
  cases h
  exact kz_vret hx hb hr hlocks hP hK hD hS dX10_goesAlong_187 rfl
set_option maxHeartbeats 4000000 in
set_option maxRecDepth 100000 in
theorem WX10_goesAlong_173 {p : Program} {l : Launch} {e : Env} {s : State} {m : MethodId} {args : Array Value} {below : List Frame} {meth : Method} {c : Code} {D : va_G} {ty : Nat → ClassId} {eo : Nat → Nat} {A : Nat → Prop} {ad : Nat → Nat} {o2 : dS} (C : dc_C p s m args meth c cX10_goesAlong none 3 RX10 wsX10_goesAlong D ty eo A)   (q : dS)  (H : Heap) (locs : List Loc) (ls : Array Slot) (h : zX10_goesAlong_173  q = some o2) (hP : va_P D vwCl (w10 ty ad q) H) (hD : va_D A (w10 ty ad q)) (hS : va_S A s.heap H locs) (hl : lv_has ls 3 [(0, .ref (ad 0))]) : W p l e ({ frames := 85, cells := 0, slots := 0, locals := 2173 } : Room) s m args below meth c H locs 0 0 (MQ below (va_Qv (fun (u : va_W) => w10 ty ad o2 = u) (kz_B D ty A) A) args s 0 0 A) (F0 m 173 ls [.ref (ad 0)]) := by
  have C0 := C
  obtain ⟨hx, hb, hr, hts, hown, hlocks, hml, hK, hN, hE, hA⟩ := C
  unfold zX10_goesAlong_173 at h
  refine lv_iconst (v := 0) hx hb dX10_goesAlong_173 (by decide) ?_
  exact WX10_goesAlong_174 C0  _ _ _ _ _ h hP hD hS (lv_sub hl [0] rfl)
set_option maxHeartbeats 4000000 in
set_option maxRecDepth 100000 in
theorem WX10_goesAlong_151 {p : Program} {l : Launch} {e : Env} {s : State} {m : MethodId} {args : Array Value} {below : List Frame} {meth : Method} {c : Code} {D : va_G} {ty : Nat → ClassId} {eo : Nat → Nat} {A : Nat → Prop} {ad : Nat → Nat} {o2 : dS} (C : dc_C p s m args meth c cX10_goesAlong none 3 RX10 wsX10_goesAlong D ty eo A)   (q : dS) (y0 : Int32) (H : Heap) (locs : List Loc) (ls : Array Slot) (h : zX10_goesAlong_151  q y0 = some o2) (hP : va_P D vwCl (w10 ty ad q) H) (hD : va_D A (w10 ty ad q)) (hS : va_S A s.heap H locs) (hl : lv_has ls 3 [(0, .ref (ad 0))]) : W p l e ({ frames := 85, cells := 0, slots := 0, locals := 2173 } : Room) s m args below meth c H locs 0 0 (MQ below (va_Qv (fun (u : va_W) => w10 ty ad o2 = u) (kz_B D ty A) A) args s 0 0 A) (F0 m 151 ls [.int y0, .ref (ad 0)]) := by
  have C0 := C
  obtain ⟨hx, hb, hr, hts, hown, hlocks, hml, hK, hN, hE, hA⟩ := C
  unfold zX10_goesAlong_151 at h
  obtain ⟨g1, h⟩ := dG_some h
  refine va_put (D := D) (ci := 10) (v := .int y0) (ty := .boolean) (C := RX10) (T := TX10) (N := 56) hx hb hts u9_wsX10_goesAlong_X10 tyX10 tyX10_ok nmX10 hown hK hP hD hS 0 rfl rfl 51 (by decide) (hts (.fieldLink RX10 497 "TurnedFloorsModel" "testIs" "Z") f9_wsX10_goesAlong_268) (fun _ h9 => h9) rfl (by decide +kernel) (dbl_nar g1) (dbl_fit g1) (Nat.le_of_ble_eq_true rfl) dX10_goesAlong_151 (fun H locs hp hd hs => ?_)
  obtain ⟨q2, eq2, h⟩ := dL_some h
  refine kz_re (w2 := w10 ty ad q2) hp hd hs (by rw [← eq2]; exact w10_f51 ty ad q y0) ?_
  clear hp hd hs hP hD hS
  intro hP hD hS
  refine lv_aload_n hx hb dX10_goesAlong_154 rfl (lv_at hl 0 rfl) ?_
  refine lv_aload_n hx hb dX10_goesAlong_155 rfl (lv_at hl 0 rfl) ?_
  refine va_get (D := D) (ci := 10) (v := .int (q2.1 0 51)) (C := RX10) (T := TX10) (N := 56) hx hb hts u9_wsX10_goesAlong_X10 hown hK hP 0 rfl rfl 51 (by decide) (hts (.fieldLink RX10 497 "TurnedFloorsModel" "testIs" "Z") f9_wsX10_goesAlong_268) (fun _ h9 => h9) rfl dX10_goesAlong_156 ?_
  refine lv_if_eq (tgt := 173) hx hb dX10_goesAlong_159 (by decide) (fun c9 => ?_) (fun c9 => ?_)
  · rw [if_pos c9] at h
    exact WX10_goesAlong_173 C0  _ _ _ _ h hP hD hS (lv_sub hl [0] rfl)
  · rw [if_neg c9] at h
    refine lv_aload_n hx hb dX10_goesAlong_162 rfl (lv_at hl 0 rfl) ?_
    refine va_get (D := D) (ci := 10) (v := .int (q2.1 0 24)) (C := RX10) (T := TX10) (N := 56) hx hb hts u9_wsX10_goesAlong_X10 hown hK hP 0 rfl rfl 24 (by decide) (hts (.fieldLink RX10 288 "TurnedFloorsModel" "broken" "Z") f9_wsX10_goesAlong_270) (fun _ h9 => h9) rfl dX10_goesAlong_163 ?_
    refine lv_if_ne (tgt := 173) hx hb dX10_goesAlong_166 (by decide) (fun c9 => ?_) (fun c9 => ?_)
    · rw [if_neg c9] at h
      exact WX10_goesAlong_173 C0  _ _ _ _ h hP hD hS (lv_sub hl [0] rfl)
    · rw [if_pos c9] at h
      refine lv_iconst (v := 1) hx hb dX10_goesAlong_169 (by decide) ?_
      refine lv_goto (tgt := 174) hx hb dX10_goesAlong_170 (by decide) ?_
      exact WX10_goesAlong_174 C0  _ _ _ _ _ h hP hD hS (lv_sub hl [0] rfl)
set_option maxHeartbeats 4000000 in
set_option maxRecDepth 100000 in
theorem WX10_goesAlong_146 {p : Program} {l : Launch} {e : Env} {s : State} {m : MethodId} {args : Array Value} {below : List Frame} {meth : Method} {c : Code} {D : va_G} {ty : Nat → ClassId} {eo : Nat → Nat} {A : Nat → Prop} {ad : Nat → Nat} {o2 : dS} (C : dc_C p s m args meth c cX10_goesAlong none 3 RX10 wsX10_goesAlong D ty eo A)   (q : dS)  (H : Heap) (locs : List Loc) (ls : Array Slot) (h : zX10_goesAlong_146  q = some o2) (hP : va_P D vwCl (w10 ty ad q) H) (hD : va_D A (w10 ty ad q)) (hS : va_S A s.heap H locs) (hl : lv_has ls 3 [(0, .ref (ad 0))]) : W p l e ({ frames := 85, cells := 0, slots := 0, locals := 2173 } : Room) s m args below meth c H locs 0 0 (MQ below (va_Qv (fun (u : va_W) => w10 ty ad o2 = u) (kz_B D ty A) A) args s 0 0 A) (F0 m 146 ls [.ref (ad 0)]) := by
  have C0 := C
  obtain ⟨hx, hb, hr, hts, hown, hlocks, hml, hK, hN, hE, hA⟩ := C
  unfold zX10_goesAlong_146 at h
  refine lv_iconst (v := 1) hx hb dX10_goesAlong_146 (by decide) ?_
  refine lv_goto (tgt := 151) hx hb dX10_goesAlong_147 (by decide) ?_
  exact WX10_goesAlong_151 C0  _ _ _ _ _ h hP hD hS (lv_sub hl [0] rfl)
set_option maxHeartbeats 4000000 in
set_option maxRecDepth 100000 in
theorem WX10_goesAlong_124 {p : Program} {l : Launch} {e : Env} {s : State} {m : MethodId} {args : Array Value} {below : List Frame} {meth : Method} {c : Code} {D : va_G} {ty : Nat → ClassId} {eo : Nat → Nat} {A : Nat → Prop} {ad : Nat → Nat} {o2 : dS} (C : dc_C p s m args meth c cX10_goesAlong none 3 RX10 wsX10_goesAlong D ty eo A)   (q : dS) (x2 : Int32) (H : Heap) (locs : List Loc) (ls : Array Slot) (h : zX10_goesAlong_124  q x2 = some o2) (hP : va_P D vwCl (w10 ty ad q) H) (hD : va_D A (w10 ty ad q)) (hS : va_S A s.heap H locs) (hl : lv_has ls 3 [(0, .ref (ad 0)), (2, .int x2)]) : W p l e ({ frames := 85, cells := 0, slots := 0, locals := 2173 } : Room) s m args below meth c H locs 0 0 (MQ below (va_Qv (fun (u : va_W) => w10 ty ad o2 = u) (kz_B D ty A) A) args s 0 0 A) (F0 m 124 ls []) := by
  have C0 := C
  obtain ⟨hx, hb, hr, hts, hown, hlocks, hml, hK, hN, hE, hA⟩ := C
  unfold zX10_goesAlong_124 at h
  refine lv_aload_n hx hb dX10_goesAlong_124 rfl (lv_at hl 0 rfl) ?_
  refine lv_iconst (v := 0) hx hb dX10_goesAlong_125 (by decide) ?_
  refine va_put (D := D) (ci := 10) (v := .int 0) (ty := .boolean) (C := RX10) (T := TX10) (N := 56) hx hb hts u9_wsX10_goesAlong_X10 tyX10 tyX10_ok nmX10 hown hK hP hD hS 0 rfl rfl 24 (by decide) (hts (.fieldLink RX10 288 "TurnedFloorsModel" "broken" "Z") f9_wsX10_goesAlong_270) (fun _ h9 => h9) rfl (by decide +kernel) rfl rfl (Nat.le_of_ble_eq_true rfl) dX10_goesAlong_126 (fun H locs hp hd hs => ?_)
  obtain ⟨q1, eq1, h⟩ := dL_some h
  refine kz_re (w2 := w10 ty ad q1) hp hd hs (by rw [← eq1]; exact w10_f24 ty ad q 0) ?_
  clear hp hd hs hP hD hS
  intro hP hD hS
  refine lv_aload_n hx hb dX10_goesAlong_129 rfl (lv_at hl 0 rfl) ?_
  refine lv_aload_n hx hb dX10_goesAlong_130 rfl (lv_at hl 0 rfl) ?_
  refine lv_iconst (v := 4) hx hb dX10_goesAlong_131 (by decide) ?_
  obtain ⟨r2, q4, h3, h⟩ := dB_some h
  refine dw_ki (va_runV (As := [.int 4]) (rest := [.ref (ad 0)]) ⟨hx, hb, hml, hown, hts⟩ (qX10_passes0 l D ty eo _ ad q1 4 r2 q4 h3) (cwV 1 hts gX10_goesAlong_X10_passes0 rfl rfl rfl (by decide +kernel) ⟨Nat.le_of_ble_eq_true rfl, Nat.le_of_ble_eq_true rfl⟩) (dw_preV (ci := 10) (q0 := 0) hK hN hE hP hD hS hA rfl rfl) rfl rfl hl.1 rfl (lv_room (Nat.le_of_ble_eq_true rfl)) dX10_goesAlong_132 ⟨Nat.le_of_ble_eq_true rfl, Nat.le_of_ble_eq_true rfl⟩) hD hS hA (fun r9 u9 H locs hw hp hd hs => ?_)
  clear hP hD hS
  obtain ⟨rfl, rfl⟩ := hw
  have hP := hp; have hD := hd; have hS := hs; clear hp hd hs
  refine lv_if_eq (tgt := 146) hx hb dX10_goesAlong_135 (by decide) (fun c9 => ?_) (fun c9 => ?_)
  · rw [if_pos c9] at h
    exact WX10_goesAlong_146 C0  _ _ _ _ h hP hD hS (lv_sub hl [0] rfl)
  · rw [if_neg c9] at h
    refine lv_aload_n hx hb dX10_goesAlong_138 rfl (lv_at hl 0 rfl) ?_
    refine lv_iload_n hx hb dX10_goesAlong_139 rfl (lv_at hl 1 rfl) ?_
    obtain ⟨r5, q7, h6, h⟩ := dB_some h
    refine dw_ki (va_runV (As := [.int x2]) (rest := [.ref (ad 0)]) ⟨hx, hb, hml, hown, hts⟩ (qX10_testOf l D ty eo _ ad 10 q4 x2 r5 q7 h6) (cwV 1 hts gX10_goesAlong_X10_testOf rfl rfl rfl (by decide +kernel) ⟨Nat.le_of_ble_eq_true rfl, Nat.le_of_ble_eq_true rfl⟩) (dw_preV (ci := 10) (q0 := 0) hK hN hE hP hD hS hA rfl rfl) rfl rfl hl.1 rfl (lv_room (Nat.le_of_ble_eq_true rfl)) dX10_goesAlong_140 ⟨Nat.le_of_ble_eq_true rfl, Nat.le_of_ble_eq_true rfl⟩) hD hS hA (fun r9 u9 H locs hw hp hd hs => ?_)
    clear hP hD hS
    obtain ⟨rfl, rfl⟩ := hw
    have hP := hp; have hD := hd; have hS := hs; clear hp hd hs
    refine lv_if_eq (tgt := 150) hx hb dX10_goesAlong_143 (by decide) (fun c9 => ?_) (fun c9 => ?_)
    · rw [if_pos c9] at h
      refine lv_iconst (v := 0) hx hb dX10_goesAlong_150 (by decide) ?_
      exact WX10_goesAlong_151 C0  _ _ _ _ _ h hP hD hS (lv_sub hl [0] rfl)
    · rw [if_neg c9] at h
      exact WX10_goesAlong_146 C0  _ _ _ _ h hP hD hS (lv_sub hl [0] rfl)
set_option maxHeartbeats 4000000 in
set_option maxRecDepth 100000 in
theorem WX10_goesAlong_80 {p : Program} {l : Launch} {e : Env} {s : State} {m : MethodId} {args : Array Value} {below : List Frame} {meth : Method} {c : Code} {D : va_G} {ty : Nat → ClassId} {eo : Nat → Nat} {A : Nat → Prop} {ad : Nat → Nat} {o2 : dS} (C : dc_C p s m args meth c cX10_goesAlong none 3 RX10 wsX10_goesAlong D ty eo A)   (q : dS) (x2 : Int32) (y0 : Int32) (H : Heap) (locs : List Loc) (ls : Array Slot) (h : zX10_goesAlong_80  q x2 y0 = some o2) (hP : va_P D vwCl (w10 ty ad q) H) (hD : va_D A (w10 ty ad q)) (hS : va_S A s.heap H locs) (hl : lv_has ls 3 [(0, .ref (ad 0)), (2, .int x2)]) : W p l e ({ frames := 85, cells := 0, slots := 0, locals := 2173 } : Room) s m args below meth c H locs 0 0 (MQ below (va_Qv (fun (u : va_W) => w10 ty ad o2 = u) (kz_B D ty A) A) args s 0 0 A) (F0 m 80 ls [.int y0, .ref (ad 0)]) := by
  have C0 := C
  obtain ⟨hx, hb, hr, hts, hown, hlocks, hml, hK, hN, hE, hA⟩ := C
  unfold zX10_goesAlong_80 at h
  obtain ⟨g1, h⟩ := dG_some h
  refine va_put (D := D) (ci := 10) (v := .int y0) (ty := .boolean) (C := RX10) (T := TX10) (N := 56) hx hb hts u9_wsX10_goesAlong_X10 tyX10 tyX10_ok nmX10 hown hK hP hD hS 0 rfl rfl 50 (by decide) (hts (.fieldLink RX10 491 "TurnedFloorsModel" "sumsAre" "Z") f9_wsX10_goesAlong_271) (fun _ h9 => h9) rfl (by decide +kernel) (dbl_nar g1) (dbl_fit g1) (Nat.le_of_ble_eq_true rfl) dX10_goesAlong_80 (fun H locs hp hd hs => ?_)
  obtain ⟨q2, eq2, h⟩ := dL_some h
  refine kz_re (w2 := w10 ty ad q2) hp hd hs (by rw [← eq2]; exact w10_f50 ty ad q y0) ?_
  clear hp hd hs hP hD hS
  intro hP hD hS
  refine lv_aload_n hx hb dX10_goesAlong_83 rfl (lv_at hl 0 rfl) ?_
  refine lv_iconst (v := 1) hx hb dX10_goesAlong_84 (by decide) ?_
  refine va_put (D := D) (ci := 10) (v := .int 1) (ty := .int) (C := RX10) (T := TX10) (N := 56) hx hb hts u9_wsX10_goesAlong_X10 tyX10 tyX10_ok nmX10 hown hK hP hD hS 0 rfl rfl 48 (by decide) (hts (.fieldLink RX10 494 "TurnedFloorsModel" "howOften" "I") f9_wsX10_goesAlong_272) (fun _ h9 => h9) rfl (by decide +kernel) rfl rfl (Nat.le_of_ble_eq_true rfl) dX10_goesAlong_85 (fun H locs hp hd hs => ?_)
  obtain ⟨q3, eq3, h⟩ := dL_some h
  refine kz_re (w2 := w10 ty ad q3) hp hd hs (by rw [← eq3]; exact w10_f48 ty ad q2 1) ?_
  clear hp hd hs hP hD hS
  intro hP hD hS
  refine lv_aload_n hx hb dX10_goesAlong_88 rfl (lv_at hl 0 rfl) ?_
  refine lv_bipush (v := 26) hx hb dX10_goesAlong_89 (by decide) ?_
  obtain ⟨r4, q6, h5, h⟩ := dB_some h
  refine dw_ki (va_runV (As := [.int 26]) (rest := []) ⟨hx, hb, hml, hown, hts⟩ (qX10_passes0 l D ty eo _ ad q3 26 r4 q6 h5) (cwV 1 hts gX10_goesAlong_X10_passes0 rfl rfl rfl (by decide +kernel) ⟨Nat.le_of_ble_eq_true rfl, Nat.le_of_ble_eq_true rfl⟩) (dw_preV (ci := 10) (q0 := 0) hK hN hE hP hD hS hA rfl rfl) rfl rfl hl.1 rfl (lv_room (Nat.le_of_ble_eq_true rfl)) dX10_goesAlong_91 ⟨Nat.le_of_ble_eq_true rfl, Nat.le_of_ble_eq_true rfl⟩) hD hS hA (fun r9 u9 H locs hw hp hd hs => ?_)
  clear hP hD hS
  obtain ⟨rfl, rfl⟩ := hw
  have hP := hp; have hD := hd; have hS := hs; clear hp hd hs
  refine lv_if_eq (tgt := 124) hx hb dX10_goesAlong_94 (by decide) (fun c9 => ?_) (fun c9 => ?_)
  · rw [if_pos c9] at h
    exact WX10_goesAlong_124 C0  _ _ _ _ _ h hP hD hS (lv_sub hl [0, 1] rfl)
  · rw [if_neg c9] at h
    refine lv_aload_n hx hb dX10_goesAlong_97 rfl (lv_at hl 0 rfl) ?_
    refine lv_aload_n hx hb dX10_goesAlong_98 rfl (lv_at hl 0 rfl) ?_
    refine va_get (D := D) (ci := 10) (v := .ref (ad 2)) (C := RX10) (T := TX10) (N := 56) hx hb hts u9_wsX10_goesAlong_X10 hown hK hP 0 rfl rfl 2 (by decide) (hts (.fieldLink RX10 28 "TurnedFloorsModel" "kept" "[I") f9_wsX10_goesAlong_273) (fun _ h9 => h9) rfl dX10_goesAlong_99 ?_
    refine lv_sipush (v := 2840) hx hb dX10_goesAlong_102 (by decide) ?_
    refine lv_aload_n hx hb dX10_goesAlong_105 rfl (lv_at hl 0 rfl) ?_
    refine va_get (D := D) (ci := 10) (v := .int (q6.1 0 22)) (C := RX10) (T := TX10) (N := 56) hx hb hts u9_wsX10_goesAlong_X10 hown hK hP 0 rfl rfl 22 (by decide) (hts (.fieldLink RX10 278 "TurnedFloorsModel" "go" "I") f9_wsX10_goesAlong_269) (fun _ h9 => h9) rfl dX10_goesAlong_106 ?_
    refine lv_iadd hx hb dX10_goesAlong_109 ?_
    obtain ⟨g7, h⟩ := dG_some h
    refine va_iald hx hb hK hP 2 0 rfl rfl (dg_in g7) dX10_goesAlong_110 ?_
    obtain ⟨v8, ev8, h⟩ := dL_some h
    refine kz_topi v8 ev8 ?_
    refine va_put (D := D) (ci := 10) (v := .int v8) (ty := .int) (C := RX10) (T := TX10) (N := 56) hx hb hts u9_wsX10_goesAlong_X10 tyX10 tyX10_ok nmX10 hown hK hP hD hS 0 rfl rfl 48 (by decide) (hts (.fieldLink RX10 494 "TurnedFloorsModel" "howOften" "I") f9_wsX10_goesAlong_272) (fun _ h9 => h9) rfl (by decide +kernel) rfl rfl (Nat.le_of_ble_eq_true rfl) dX10_goesAlong_111 (fun H locs hp hd hs => ?_)
    obtain ⟨q9, eq9, h⟩ := dL_some h
    refine kz_re (w2 := w10 ty ad q9) hp hd hs (by rw [← eq9]; exact w10_f48 ty ad q6 v8) ?_
    clear hp hd hs hP hD hS
    intro hP hD hS
    refine lv_aload_n hx hb dX10_goesAlong_114 rfl (lv_at hl 0 rfl) ?_
    refine lv_dup hx hb dX10_goesAlong_115 rfl ?_
    refine va_get (D := D) (ci := 10) (v := .int (q9.1 0 22)) (C := RX10) (T := TX10) (N := 56) hx hb hts u9_wsX10_goesAlong_X10 hown hK hP 0 rfl rfl 22 (by decide) (hts (.fieldLink RX10 278 "TurnedFloorsModel" "go" "I") f9_wsX10_goesAlong_269) (fun _ h9 => h9) rfl dX10_goesAlong_116 ?_
    refine lv_iconst (v := 1) hx hb dX10_goesAlong_119 (by decide) ?_
    refine lv_iadd hx hb dX10_goesAlong_120 ?_
    refine va_put (D := D) (ci := 10) (v := .int ((q9.1 0 22) + 1 : Int32)) (ty := .int) (C := RX10) (T := TX10) (N := 56) hx hb hts u9_wsX10_goesAlong_X10 tyX10 tyX10_ok nmX10 hown hK hP hD hS 0 rfl rfl 22 (by decide) (hts (.fieldLink RX10 278 "TurnedFloorsModel" "go" "I") f9_wsX10_goesAlong_269) (fun _ h9 => h9) rfl (by decide +kernel) rfl rfl (Nat.le_of_ble_eq_true rfl) dX10_goesAlong_121 (fun H locs hp hd hs => ?_)
    obtain ⟨q10, eq10, h⟩ := dL_some h
    refine kz_re (w2 := w10 ty ad q10) hp hd hs (by rw [← eq10]; exact w10_f22 ty ad q9 ((q9.1 0 22) + 1 : Int32)) ?_
    clear hp hd hs hP hD hS
    intro hP hD hS
    exact WX10_goesAlong_124 C0  _ _ _ _ _ h hP hD hS (lv_sub hl [0, 1] rfl)
set_option maxHeartbeats 4000000 in
set_option maxRecDepth 100000 in
theorem WX10_goesAlong_64 {p : Program} {l : Launch} {e : Env} {s : State} {m : MethodId} {args : Array Value} {below : List Frame} {meth : Method} {c : Code} {D : va_G} {ty : Nat → ClassId} {eo : Nat → Nat} {A : Nat → Prop} {ad : Nat → Nat} {o2 : dS} (C : dc_C p s m args meth c cX10_goesAlong none 3 RX10 wsX10_goesAlong D ty eo A)   (q : dS) (x2 : Int32) (y0 : Int64) (H : Heap) (locs : List Loc) (ls : Array Slot) (h : zX10_goesAlong_64  q x2 y0 = some o2) (hP : va_P D vwCl (w10 ty ad q) H) (hD : va_D A (w10 ty ad q)) (hS : va_S A s.heap H locs) (hl : lv_has ls 3 [(0, .ref (ad 0)), (2, .int x2)]) : W p l e ({ frames := 85, cells := 0, slots := 0, locals := 2173 } : Room) s m args below meth c H locs 0 0 (MQ below (va_Qv (fun (u : va_W) => w10 ty ad o2 = u) (kz_B D ty A) A) args s 0 0 A) (F0 m 64 ls [.long y0, .ref (ad 0)]) := by
  have C0 := C
  obtain ⟨hx, hb, hr, hts, hown, hlocks, hml, hK, hN, hE, hA⟩ := C
  unfold zX10_goesAlong_64 at h
  refine va_put (D := D) (ci := 10) (v := .long y0) (ty := .long) (C := RX10) (T := TX10) (N := 56) hx hb hts u9_wsX10_goesAlong_X10 tyX10 tyX10_ok nmX10 hown hK hP hD hS 0 rfl rfl 52 (by decide) (hts (.fieldLink RX10 487 "TurnedFloorsModel" "sumNow" "J") f9_wsX10_goesAlong_274) (fun _ h9 => h9) rfl (by decide +kernel) rfl rfl (Nat.le_of_ble_eq_true rfl) dX10_goesAlong_64 (fun H locs hp hd hs => ?_)
  obtain ⟨q1, eq1, h⟩ := dL_some h
  refine kz_re (w2 := w10 ty ad q1) hp hd hs (by rw [← eq1]; exact w10_f52 ty ad q y0) ?_
  clear hp hd hs hP hD hS
  intro hP hD hS
  refine lv_aload_n hx hb dX10_goesAlong_67 rfl (lv_at hl 0 rfl) ?_
  refine lv_aload_n hx hb dX10_goesAlong_68 rfl (lv_at hl 0 rfl) ?_
  refine va_get (D := D) (ci := 10) (v := .int (q1.1 0 24)) (C := RX10) (T := TX10) (N := 56) hx hb hts u9_wsX10_goesAlong_X10 hown hK hP 0 rfl rfl 24 (by decide) (hts (.fieldLink RX10 288 "TurnedFloorsModel" "broken" "Z") f9_wsX10_goesAlong_270) (fun _ h9 => h9) rfl dX10_goesAlong_69 ?_
  refine lv_if_ne (tgt := 79) hx hb dX10_goesAlong_72 (by decide) (fun c9 => ?_) (fun c9 => ?_)
  · rw [if_neg c9] at h
    refine lv_iconst (v := 0) hx hb dX10_goesAlong_79 (by decide) ?_
    exact WX10_goesAlong_80 C0  _ _ _ _ _ _ h hP hD hS (lv_sub hl [0, 1] rfl)
  · rw [if_pos c9] at h
    refine lv_iconst (v := 1) hx hb dX10_goesAlong_75 (by decide) ?_
    refine lv_goto (tgt := 80) hx hb dX10_goesAlong_76 (by decide) ?_
    exact WX10_goesAlong_80 C0  _ _ _ _ _ _ h hP hD hS (lv_sub hl [0, 1] rfl)
set_option maxHeartbeats 4000000 in
set_option maxRecDepth 100000 in
theorem qX10_goesAlong (l : Launch) (D : va_G) (ty : Nat → ClassId) (eo : Nat → Nat) (sz : Nat) (ad : Nat → Nat) (q : dS) (p1 : Int32) (p2 : Int32) (o2 : dS) (h : zX10_goesAlong q p1 p2 = some o2) : Met l yX10_goesAlong wsX10_goesAlong ({ frames := 85, cells := 0, slots := 0, locals := 2173 } : Room) (va_Pc [.ref (ad 0), .int p1, .int p2] (kz_pre D ty eo (w10 ty ad q) sz)) (va_Qv (fun (u : va_W) => w10 ty ad o2 = u) (kz_B D ty (va_A (w10 ty ad q) sz)) (va_A (w10 ty ad q) sz)) 0 0 (va_A (w10 ty ad q) sz) := by
  refine Met.ofW (cc := cX10_goesAlong) (maxL := 3) (ret := none) (by decide) rfl ?_
  intro p e s m args below meth c s₁ B hml hv
  obtain ⟨rfl, hsz, hP, hK, hD0, hN, hE⟩ := hv
  have hx := B.exec
  have hb := B.bytes
  have hr := B.returns
  have hts := atoms_spec (ws := wsX10_goesAlong) B.pre
  have hown : s.vm.findClass RX10 = some m.cls := findClass_of_methodNamed B.named
  have hlocks := B.notSynchronized
  subst hsz
  have hD := hD0.self (sz := s.heap.size)
  generalize hAe : va_A (w10 ty ad q) s.heap.size = A at hD hE ⊢
  have hA : ∀ q : Nat, s.heap.size ≤ q → A q := fun q h => by rw [← hAe]; exact Or.inr h
  clear hAe
  have hS : va_S A s.heap s.heap [] := va_S.rf
  have hl := lv_entry ([.ref (ad 0), .int p1, .int p2]) (n := 3) (Nat.le_of_ble_eq_true rfl)
  rw [lg_entry_eq]
  generalize (lg_sl ([.ref (ad 0), .int p1, .int p2]) ++ List.replicate (3 - (lg_sl ([.ref (ad 0), .int p1, .int p2])).length) Slot.unset).toArray = ls at hl ⊢
  have hl : lv_has ls 3 [(0, .ref (ad 0)), (1, .int p1), (2, .int p2)] := hl
  have C : dc_C p s m _ meth c cX10_goesAlong none 3 RX10 wsX10_goesAlong D ty eo A := ⟨hx, hb, hr, hts, hown, hlocks, hml, hK, hN, hE, hA⟩
  unfold zX10_goesAlong at h
  refine lv_aload_n hx hb dX10_goesAlong_0 rfl (lv_at hl 0 rfl) ?_
  refine lv_iconst (v := 1) hx hb dX10_goesAlong_1 (by decide) ?_
  refine va_put (D := D) (ci := 10) (v := .int 1) (ty := .boolean) (C := RX10) (T := TX10) (N := 56) hx hb hts u9_wsX10_goesAlong_X10 tyX10 tyX10_ok nmX10 hown hK hP hD hS 0 rfl rfl 25 (by decide) (hts (.fieldLink RX10 308 "TurnedFloorsModel" "inOrders" "Z") f9_wsX10_goesAlong_275) (fun _ h9 => h9) rfl (by decide +kernel) rfl rfl (Nat.le_of_ble_eq_true rfl) dX10_goesAlong_2 (fun H locs hp hd hs => ?_)
  obtain ⟨q1, eq1, h⟩ := dL_some h
  refine kz_re (w2 := w10 ty ad q1) hp hd hs (by rw [← eq1]; exact w10_f25 ty ad q 1) ?_
  clear hp hd hs hP hD hS
  intro hP hD hS
  refine lv_aload_n hx hb dX10_goesAlong_5 rfl (lv_at hl 0 rfl) ?_
  refine lv_iload_n hx hb dX10_goesAlong_6 rfl (lv_at hl 1 rfl) ?_
  refine va_put (D := D) (ci := 10) (v := .int p1) (ty := .int) (C := RX10) (T := TX10) (N := 56) hx hb hts u9_wsX10_goesAlong_X10 tyX10 tyX10_ok nmX10 hown hK hP hD hS 0 rfl rfl 23 (by decide) (hts (.fieldLink RX10 275 "TurnedFloorsModel" "goEnd" "I") f9_wsX10_goesAlong_276) (fun _ h9 => h9) rfl (by decide +kernel) rfl rfl (Nat.le_of_ble_eq_true rfl) dX10_goesAlong_7 (fun H locs hp hd hs => ?_)
  obtain ⟨q2, eq2, h⟩ := dL_some h
  refine kz_re (w2 := w10 ty ad q2) hp hd hs (by rw [← eq2]; exact w10_f23 ty ad q1 p1) ?_
  clear hp hd hs hP hD hS
  intro hP hD hS
  refine lv_aload_n hx hb dX10_goesAlong_10 rfl (lv_at hl 0 rfl) ?_
  refine lv_aload_n hx hb dX10_goesAlong_11 rfl (lv_at hl 0 rfl) ?_
  refine va_get (D := D) (ci := 10) (v := .int (q2.1 0 47)) (C := RX10) (T := TX10) (N := 56) hx hb hts u9_wsX10_goesAlong_X10 hown hK hP 0 rfl rfl 47 (by decide) (hts (.fieldLink RX10 475 "TurnedFloorsModel" "orderAt" "I") f9_wsX10_goesAlong_277) (fun _ h9 => h9) rfl dX10_goesAlong_12 ?_
  refine va_put (D := D) (ci := 10) (v := .int (q2.1 0 47)) (ty := .int) (C := RX10) (T := TX10) (N := 56) hx hb hts u9_wsX10_goesAlong_X10 tyX10 tyX10_ok nmX10 hown hK hP hD hS 0 rfl rfl 22 (by decide) (hts (.fieldLink RX10 278 "TurnedFloorsModel" "go" "I") f9_wsX10_goesAlong_269) (fun _ h9 => h9) rfl (by decide +kernel) rfl rfl (Nat.le_of_ble_eq_true rfl) dX10_goesAlong_15 (fun H locs hp hd hs => ?_)
  obtain ⟨q3, eq3, h⟩ := dL_some h
  refine kz_re (w2 := w10 ty ad q3) hp hd hs (by rw [← eq3]; exact w10_f22 ty ad q2 (q2.1 0 47)) ?_
  clear hp hd hs hP hD hS
  intro hP hD hS
  refine lv_aload_n hx hb dX10_goesAlong_18 rfl (lv_at hl 0 rfl) ?_
  refine lv_aload_n hx hb dX10_goesAlong_19 rfl (lv_at hl 0 rfl) ?_
  refine lv_aload_n hx hb dX10_goesAlong_20 rfl (lv_at hl 0 rfl) ?_
  refine va_get (D := D) (ci := 10) (v := .int (q3.1 0 22)) (C := RX10) (T := TX10) (N := 56) hx hb hts u9_wsX10_goesAlong_X10 hown hK hP 0 rfl rfl 22 (by decide) (hts (.fieldLink RX10 278 "TurnedFloorsModel" "go" "I") f9_wsX10_goesAlong_269) (fun _ h9 => h9) rfl dX10_goesAlong_21 ?_
  obtain ⟨r4, q6, h5, h⟩ := dB_some h
  refine dw_ki (va_runV (As := [.int (q3.1 0 22)]) (rest := [.ref (ad 0)]) ⟨hx, hb, hml, hown, hts⟩ (qX10_codeAt l D ty eo _ ad q3 (q3.1 0 22) r4 q6 h5) (cwV 1 hts gX10_goesAlong_X10_codeAt rfl rfl rfl (by decide +kernel) ⟨Nat.le_of_ble_eq_true rfl, Nat.le_of_ble_eq_true rfl⟩) (dw_preV (ci := 10) (q0 := 0) hK hN hE hP hD hS hA rfl rfl) rfl rfl hl.1 rfl (lv_room (Nat.le_of_ble_eq_true rfl)) dX10_goesAlong_24 ⟨Nat.le_of_ble_eq_true rfl, Nat.le_of_ble_eq_true rfl⟩) hD hS hA (fun r9 u9 H locs hw hp hd hs => ?_)
  clear hP hD hS
  obtain ⟨rfl, rfl⟩ := hw
  have hP := hp; have hD := hd; have hS := hs; clear hp hd hs
  refine va_put (D := D) (ci := 10) (v := .int r4) (ty := .int) (C := RX10) (T := TX10) (N := 56) hx hb hts u9_wsX10_goesAlong_X10 tyX10 tyX10_ok nmX10 hown hK hP hD hS 0 rfl rfl 49 (by decide) (hts (.fieldLink RX10 484 "TurnedFloorsModel" "head" "I") f9_wsX10_goesAlong_278) (fun _ h9 => h9) rfl (by decide +kernel) rfl rfl (Nat.le_of_ble_eq_true rfl) dX10_goesAlong_27 (fun H locs hp hd hs => ?_)
  obtain ⟨q7, eq7, h⟩ := dL_some h
  refine kz_re (w2 := w10 ty ad q7) hp hd hs (by rw [← eq7]; exact w10_f49 ty ad q6 r4) ?_
  clear hp hd hs hP hD hS
  intro hP hD hS
  refine lv_aload_n hx hb dX10_goesAlong_30 rfl (lv_at hl 0 rfl) ?_
  refine lv_dup hx hb dX10_goesAlong_31 rfl ?_
  refine va_get (D := D) (ci := 10) (v := .int (q7.1 0 22)) (C := RX10) (T := TX10) (N := 56) hx hb hts u9_wsX10_goesAlong_X10 hown hK hP 0 rfl rfl 22 (by decide) (hts (.fieldLink RX10 278 "TurnedFloorsModel" "go" "I") f9_wsX10_goesAlong_269) (fun _ h9 => h9) rfl dX10_goesAlong_32 ?_
  refine lv_iconst (v := 1) hx hb dX10_goesAlong_35 (by decide) ?_
  refine lv_iadd hx hb dX10_goesAlong_36 ?_
  refine va_put (D := D) (ci := 10) (v := .int ((q7.1 0 22) + 1 : Int32)) (ty := .int) (C := RX10) (T := TX10) (N := 56) hx hb hts u9_wsX10_goesAlong_X10 tyX10 tyX10_ok nmX10 hown hK hP hD hS 0 rfl rfl 22 (by decide) (hts (.fieldLink RX10 278 "TurnedFloorsModel" "go" "I") f9_wsX10_goesAlong_269) (fun _ h9 => h9) rfl (by decide +kernel) rfl rfl (Nat.le_of_ble_eq_true rfl) dX10_goesAlong_37 (fun H locs hp hd hs => ?_)
  obtain ⟨q8, eq8, h⟩ := dL_some h
  refine kz_re (w2 := w10 ty ad q8) hp hd hs (by rw [← eq8]; exact w10_f22 ty ad q7 ((q7.1 0 22) + 1 : Int32)) ?_
  clear hp hd hs hP hD hS
  intro hP hD hS
  refine lv_aload_n hx hb dX10_goesAlong_40 rfl (lv_at hl 0 rfl) ?_
  refine lv_iconst (v := 0) hx hb dX10_goesAlong_41 (by decide) ?_
  refine va_put (D := D) (ci := 10) (v := .int 0) (ty := .boolean) (C := RX10) (T := TX10) (N := 56) hx hb hts u9_wsX10_goesAlong_X10 tyX10 tyX10_ok nmX10 hown hK hP hD hS 0 rfl rfl 24 (by decide) (hts (.fieldLink RX10 288 "TurnedFloorsModel" "broken" "Z") f9_wsX10_goesAlong_270) (fun _ h9 => h9) rfl (by decide +kernel) rfl rfl (Nat.le_of_ble_eq_true rfl) dX10_goesAlong_42 (fun H locs hp hd hs => ?_)
  obtain ⟨q9, eq9, h⟩ := dL_some h
  refine kz_re (w2 := w10 ty ad q9) hp hd hs (by rw [← eq9]; exact w10_f24 ty ad q8 0) ?_
  clear hp hd hs hP hD hS
  intro hP hD hS
  refine lv_aload_n hx hb dX10_goesAlong_45 rfl (lv_at hl 0 rfl) ?_
  refine lv_aload_n hx hb dX10_goesAlong_46 rfl (lv_at hl 0 rfl) ?_
  refine va_get (D := D) (ci := 10) (v := .int (q9.1 0 49)) (C := RX10) (T := TX10) (N := 56) hx hb hts u9_wsX10_goesAlong_X10 hown hK hP 0 rfl rfl 49 (by decide) (hts (.fieldLink RX10 484 "TurnedFloorsModel" "head" "I") f9_wsX10_goesAlong_278) (fun _ h9 => h9) rfl dX10_goesAlong_47 ?_
  refine lv_bipush (v := 25) hx hb dX10_goesAlong_50 (by decide) ?_
  refine lv_icmp_ne (tgt := 59) hx hb dX10_goesAlong_52 (by decide) (fun c9 => ?_) (fun c9 => ?_)
  · rw [if_neg c9] at h
    refine lv_aload_n hx hb dX10_goesAlong_59 rfl (lv_at hl 0 rfl) ?_
    refine lv_iload_n hx hb dX10_goesAlong_60 rfl (lv_at hl 2 rfl) ?_
    obtain ⟨r10, q12, h11, h⟩ := dB_some h
    refine dw_kl (va_runV (As := [.int p2]) (rest := [.ref (ad 0)]) ⟨hx, hb, hml, hown, hts⟩ (qX10_sumOf l D ty eo _ ad 10 q9 p2 r10 q12 h11) (cwV 1 hts gX10_goesAlong_X10_sumOf rfl rfl rfl (by decide +kernel) ⟨Nat.le_of_ble_eq_true rfl, Nat.le_of_ble_eq_true rfl⟩) (dw_preV (ci := 10) (q0 := 0) hK hN hE hP hD hS hA rfl rfl) rfl rfl hl.1 rfl (lv_room (Nat.le_of_ble_eq_true rfl)) dX10_goesAlong_61 ⟨Nat.le_of_ble_eq_true rfl, Nat.le_of_ble_eq_true rfl⟩) hD hS hA (fun r9 u9 H locs hw hp hd hs => ?_)
    clear hP hD hS
    obtain ⟨rfl, rfl⟩ := hw
    have hP := hp; have hD := hd; have hS := hs; clear hp hd hs
    exact WX10_goesAlong_64 C  _ _ _ _ _ _ h hP hD hS (lv_sub hl [0, 2] rfl)
  · rw [if_pos c9] at h
    refine lv_lconst (v := 0) hx hb dX10_goesAlong_55 (by decide) ?_
    refine lv_goto (tgt := 64) hx hb dX10_goesAlong_56 (by decide) ?_
    exact WX10_goesAlong_64 C  _ _ _ _ _ _ h hP hD hS (lv_sub hl [0, 2] rfl)

set_option maxHeartbeats 4000000 in
set_option maxRecDepth 100000 in
theorem WX10_small_20 {p : Program} {l : Launch} {e : Env} {s : State} {m : MethodId} {args : Array Value} {below : List Frame} {meth : Method} {c : Code} {D : va_G} {ty : Nat → ClassId} {eo : Nat → Nat} {A : Nat → Prop} {o1 : Int32} (C : dc_C p s m args meth c cX10_small (some .int) 2 RX10 wsX10_small D ty eo A)   (y0 : Int32) (H : Heap) (locs : List Loc) (ls : Array Slot) (h : zX10_small_20  y0 = some o1) (hP : va_P D vwCl (([] : va_W)) H) (hD : va_D A (([] : va_W))) (hS : va_S A s.heap H locs) (hl : lv_has ls 2 []) : W p l e ({ frames := 0, cells := 0, slots := 0, locals := 0 } : Room) s m args below meth c H locs 0 0 (MQ below (va_Qi (fun (r : Int32) (u : va_W) => o1 = r ∧ ([] : va_W) = u) (kz_B D ty A) A) args s 0 0 A) (F0 m 20 ls [.int y0]) := by
  have C0 := C
  obtain ⟨hx, hb, hr, hts, hown, hlocks, hml, hK, hN, hE, hA⟩ := C
  unfold zX10_small_20 at h
  cases h
  exact kz_iret hx hb hr hlocks hP hK hD hS dX10_small_20 ⟨rfl, rfl⟩
set_option maxHeartbeats 4000000 in
set_option maxRecDepth 100000 in
theorem WX10_small_14 {p : Program} {l : Launch} {e : Env} {s : State} {m : MethodId} {args : Array Value} {below : List Frame} {meth : Method} {c : Code} {D : va_G} {ty : Nat → ClassId} {eo : Nat → Nat} {A : Nat → Prop} {o1 : Int32} (C : dc_C p s m args meth c cX10_small (some .int) 2 RX10 wsX10_small D ty eo A)    (H : Heap) (locs : List Loc) (ls : Array Slot) (h : zX10_small_14   = some o1) (hP : va_P D vwCl (([] : va_W)) H) (hD : va_D A (([] : va_W))) (hS : va_S A s.heap H locs) (hl : lv_has ls 2 []) : W p l e ({ frames := 0, cells := 0, slots := 0, locals := 0 } : Room) s m args below meth c H locs 0 0 (MQ below (va_Qi (fun (r : Int32) (u : va_W) => o1 = r ∧ ([] : va_W) = u) (kz_B D ty A) A) args s 0 0 A) (F0 m 14 ls []) := by
  have C0 := C
  obtain ⟨hx, hb, hr, hts, hown, hlocks, hml, hK, hN, hE, hA⟩ := C
  unfold zX10_small_14 at h
  refine lv_iconst (v := (-1)) hx hb dX10_small_14 (by decide) ?_
  refine lv_goto (tgt := 20) hx hb dX10_small_15 (by decide) ?_
  exact WX10_small_20 C0  _ _ _ _ h hP hD hS (lv_sub hl [] rfl)
set_option maxHeartbeats 4000000 in
set_option maxRecDepth 100000 in
theorem qX10_small (l : Launch) (D : va_G) (ty : Nat → ClassId) (eo : Nat → Nat) (sz : Nat) (p1 : Int64) (o1 : Int32) (h : zX10_small p1 = some o1) : Met l yX10_small wsX10_small ({ frames := 0, cells := 0, slots := 0, locals := 0 } : Room) (va_Pc [.long p1] (kz_pre D ty eo (([] : va_W)) sz)) (va_Qi (fun (r : Int32) (u : va_W) => o1 = r ∧ ([] : va_W) = u) (kz_B D ty (va_A (([] : va_W)) sz)) (va_A (([] : va_W)) sz)) 0 0 (va_A (([] : va_W)) sz) := by
  refine Met.ofW (cc := cX10_small) (maxL := 2) (ret := (some .int)) (by decide) rfl ?_
  intro p e s m args below meth c s₁ B hml hv
  obtain ⟨rfl, hsz, hP, hK, hD0, hN, hE⟩ := hv
  have hx := B.exec
  have hb := B.bytes
  have hr := B.returns
  have hts := atoms_spec (ws := wsX10_small) B.pre
  have hown : s.vm.findClass RX10 = some m.cls := findClass_of_methodNamed B.named
  have hlocks := B.notSynchronized
  subst hsz
  have hD := hD0.self (sz := s.heap.size)
  generalize hAe : va_A (([] : va_W)) s.heap.size = A at hD hE ⊢
  have hA : ∀ q : Nat, s.heap.size ≤ q → A q := fun q h => by rw [← hAe]; exact Or.inr h
  clear hAe
  have hS : va_S A s.heap s.heap [] := va_S.rf
  have hl := lv_entry ([.long p1]) (n := 2) (Nat.le_of_ble_eq_true rfl)
  rw [lg_entry_eq]
  generalize (lg_sl ([.long p1]) ++ List.replicate (2 - (lg_sl ([.long p1])).length) Slot.unset).toArray = ls at hl ⊢
  have hl : lv_has ls 2 [(0, .long p1)] := hl
  have C : dc_C p s m _ meth c cX10_small (some .int) 2 RX10 wsX10_small D ty eo A := ⟨hx, hb, hr, hts, hown, hlocks, hml, hK, hN, hE, hA⟩
  unfold zX10_small at h
  refine lv_lload_n hx hb dX10_small_0 rfl (lv_at hl 0 rfl) ?_
  refine lv_lconst (v := 0) hx hb dX10_small_1 (by decide) ?_
  refine W.lcmp hx hb dX10_small_2 ?_
  refine lv_if_lt (tgt := 14) hx hb dX10_small_3 (by decide) (fun c9 => ?_) (fun c9 => ?_)
  · rw [if_pos c9] at h
    exact WX10_small_14 C  _ _ _ h hP hD hS (lv_sub hl [] rfl)
  · rw [if_neg c9] at h
    refine lv_lload_n hx hb dX10_small_6 rfl (lv_at hl 0 rfl) ?_
    refine lv_ldc2 (v := 1000000) hx hb hown (hts (.constantLong RX10 500 1000000) f9_wsX10_small_279) dX10_small_7 ?_
    refine W.lcmp hx hb dX10_small_10 ?_
    refine lv_if_le (tgt := 18) hx hb dX10_small_11 (by decide) (fun c9 => ?_) (fun c9 => ?_)
    · rw [if_pos c9] at h
      refine lv_lload_n hx hb dX10_small_18 rfl (lv_at hl 0 rfl) ?_
      refine lv_l2i (v := Int64.toInt32 p1) hx hb dX10_small_19 rfl ?_
      exact WX10_small_20 C  _ _ _ _ h hP hD hS (lv_sub hl [] rfl)
    · rw [if_neg c9] at h
      exact WX10_small_14 C  _ _ _ h hP hD hS (lv_sub hl [] rfl)

set_option maxHeartbeats 4000000 in
set_option maxRecDepth 100000 in
theorem WX10_obeys_86 {p : Program} {l : Launch} {e : Env} {s : State} {m : MethodId} {args : Array Value} {below : List Frame} {meth : Method} {c : Code} {D : va_G} {ty : Nat → ClassId} {eo : Nat → Nat} {A : Nat → Prop} {ad : Nat → Nat} {o1 : Int32} {o2 : dS} (C : dc_C p s m args meth c cX10_obeys (some .int) 2 RX10 wsX10_obeys D ty eo A)   (q : dS) (x1 : Int32) (y0 : Int32) (H : Heap) (locs : List Loc) (ls : Array Slot) (h : zX10_obeys_86  q x1 y0 = some (o1, o2)) (hP : va_P D vwCl (w10 ty ad q) H) (hD : va_D A (w10 ty ad q)) (hS : va_S A s.heap H locs) (hl : lv_has ls 2 [(1, .int x1)]) : W p l e ({ frames := 90, cells := 0, slots := 0, locals := 2286 } : Room) s m args below meth c H locs 0 0 (MQ below (va_Qi (fun (r : Int32) (u : va_W) => o1 = r ∧ w10 ty ad o2 = u) (kz_B D ty A) A) args s 0 0 A) (F0 m 86 ls [.int y0, .ref (ad 0)]) := by
  have C0 := C
  obtain ⟨hx, hb, hr, hts, hown, hlocks, hml, hK, hN, hE, hA⟩ := C
  unfold zX10_obeys_86 at h
  refine va_put (D := D) (ci := 10) (v := .int y0) (ty := .int) (C := RX10) (T := TX10) (N := 56) hx hb hts u9_wsX10_obeys_X10 tyX10 tyX10_ok nmX10 hown hK hP hD hS 0 rfl rfl 28 (by decide) (hts (.fieldLink RX10 317 "TurnedFloorsModel" "orderLatest" "I") f9_wsX10_obeys_281) (fun _ h9 => h9) rfl (by decide +kernel) rfl rfl (Nat.le_of_ble_eq_true rfl) dX10_obeys_86 (fun H locs hp hd hs => ?_)
  obtain ⟨q1, eq1, h⟩ := dL_some h
  refine kz_re (w2 := w10 ty ad q1) hp hd hs (by rw [← eq1]; exact w10_f28 ty ad q y0) ?_
  clear hp hd hs hP hD hS
  intro hP hD hS
  refine lv_iload_n hx hb dX10_obeys_89 rfl (lv_at hl 0 rfl) ?_
  cases h
  exact kz_iret hx hb hr hlocks hP hK hD hS dX10_obeys_90 ⟨rfl, rfl⟩
set_option maxHeartbeats 4000000 in
set_option maxRecDepth 100000 in
theorem qX10_obeys (l : Launch) (D : va_G) (ty : Nat → ClassId) (eo : Nat → Nat) (sz : Nat) (ad : Nat → Nat) (q : dS)  (o1 : Int32) (o2 : dS) (h : zX10_obeys q = some (o1, o2)) : Met l yX10_obeys wsX10_obeys ({ frames := 90, cells := 0, slots := 0, locals := 2286 } : Room) (va_Pc [.ref (ad 0)] (kz_pre D ty eo (w10 ty ad q) sz)) (va_Qi (fun (r : Int32) (u : va_W) => o1 = r ∧ w10 ty ad o2 = u) (kz_B D ty (va_A (w10 ty ad q) sz)) (va_A (w10 ty ad q) sz)) 0 0 (va_A (w10 ty ad q) sz) := by
  refine Met.ofW (cc := cX10_obeys) (maxL := 2) (ret := (some .int)) (by decide) rfl ?_
  intro p e s m args below meth c s₁ B hml hv
  obtain ⟨rfl, hsz, hP, hK, hD0, hN, hE⟩ := hv
  have hx := B.exec
  have hb := B.bytes
  have hr := B.returns
  have hts := atoms_spec (ws := wsX10_obeys) B.pre
  have hown : s.vm.findClass RX10 = some m.cls := findClass_of_methodNamed B.named
  have hlocks := B.notSynchronized
  subst hsz
  have hD := hD0.self (sz := s.heap.size)
  generalize hAe : va_A (w10 ty ad q) s.heap.size = A at hD hE ⊢
  have hA : ∀ q : Nat, s.heap.size ≤ q → A q := fun q h => by rw [← hAe]; exact Or.inr h
  clear hAe
  have hS : va_S A s.heap s.heap [] := va_S.rf
  have hl := lv_entry ([.ref (ad 0)]) (n := 2) (Nat.le_of_ble_eq_true rfl)
  rw [lg_entry_eq]
  generalize (lg_sl ([.ref (ad 0)]) ++ List.replicate (2 - (lg_sl ([.ref (ad 0)])).length) Slot.unset).toArray = ls at hl ⊢
  have hl : lv_has ls 2 [(0, .ref (ad 0))] := hl
  have C : dc_C p s m _ meth c cX10_obeys (some .int) 2 RX10 wsX10_obeys D ty eo A := ⟨hx, hb, hr, hts, hown, hlocks, hml, hK, hN, hE, hA⟩
  unfold zX10_obeys at h
  refine lv_aload_n hx hb dX10_obeys_0 rfl (lv_at hl 0 rfl) ?_
  refine va_get (D := D) (ci := 10) (v := .int (q.1 0 49)) (C := RX10) (T := TX10) (N := 56) hx hb hts u9_wsX10_obeys_X10 hown hK hP 0 rfl rfl 49 (by decide) (hts (.fieldLink RX10 484 "TurnedFloorsModel" "head" "I") f9_wsX10_obeys_282) (fun _ h9 => h9) rfl dX10_obeys_1 ?_
  by_cases c1 : (q.1 0 49) = 23
  · rw [if_pos c1] at h
    refine lv_tableIn (off := 28) (tgt := 32) hx hb dX10_obeys_4 (by rw [c1]; decide) (by rw [c1]; decide) (by rw [c1]; decide) (by decide) ?_
    refine lv_aload_n hx hb dX10_obeys_32 rfl (lv_at hl 0 rfl) ?_
    refine lv_aload_n hx hb dX10_obeys_33 rfl (lv_at hl 0 rfl) ?_
    refine va_get (D := D) (ci := 10) (v := .long (q.2 0 52)) (C := RX10) (T := TX10) (N := 56) hx hb hts u9_wsX10_obeys_X10 hown hK hP 0 rfl rfl 52 (by decide) (hts (.fieldLink RX10 487 "TurnedFloorsModel" "sumNow" "J") f9_wsX10_obeys_283) (fun _ h9 => h9) rfl dX10_obeys_34 ?_
    obtain ⟨r2, h3, h⟩ := dV_some h
    refine dw_ks (va_runS (As := [.long (q.2 0 52)]) (rest := [.ref (ad 0)]) ⟨hx, hb, hml, hown, hts⟩ (qX10_small l D ty eo _ (q.2 0 52) _ h3) (va_cwS 1 hts gX10_obeys_X10_small rfl rfl rfl (by decide +kernel) ⟨Nat.le_of_ble_eq_true rfl, Nat.le_of_ble_eq_true rfl⟩) (kz_preS hK hN hE hP hD hS hA [] (by decide) rfl) rfl rfl hl.1 rfl (lv_room (Nat.le_of_ble_eq_true rfl)) dX10_obeys_37 ⟨Nat.le_of_ble_eq_true rfl, Nat.le_of_ble_eq_true rfl⟩) hP hD hS hA (fun _ _ h9 => h9.2.symm) (fun r9 u9 H locs hw hp hd hs => ?_)
    obtain ⟨rfl, -⟩ := hw
    clear hP hD hS
    have hP := hp; have hD := hd; have hS := hs; clear hp hd hs
    obtain ⟨r4, q6, h5, h⟩ := dB_some h
    refine dw_ki (va_runV (As := [.int r2]) (rest := []) ⟨hx, hb, hml, hown, hts⟩ (qX10_rightsKept l D ty eo _ ad q r2 r4 q6 h5) (cwV 1 hts gX10_obeys_X10_rightsKept rfl rfl rfl (by decide +kernel) ⟨Nat.le_of_ble_eq_true rfl, Nat.le_of_ble_eq_true rfl⟩) (dw_preV (ci := 10) (q0 := 0) hK hN hE hP hD hS hA rfl rfl) rfl rfl hl.1 rfl (lv_room (Nat.le_of_ble_eq_true rfl)) dX10_obeys_40 ⟨Nat.le_of_ble_eq_true rfl, Nat.le_of_ble_eq_true rfl⟩) hD hS hA (fun r9 u9 H locs hw hp hd hs => ?_)
    clear hP hD hS
    obtain ⟨rfl, rfl⟩ := hw
    have hP := hp; have hD := hd; have hS := hs; clear hp hd hs
    cases h
    exact kz_iret hx hb hr hlocks hP hK hD hS dX10_obeys_43 ⟨rfl, rfl⟩
  rw [if_neg c1] at h
  by_cases c7 : (q.1 0 49) = 24
  · rw [if_pos c7] at h
    refine lv_tableIn (off := 40) (tgt := 44) hx hb dX10_obeys_4 (by rw [c7]; decide) (by rw [c7]; decide) (by rw [c7]; decide) (by decide) ?_
    refine lv_aload_n hx hb dX10_obeys_44 rfl (lv_at hl 0 rfl) ?_
    refine lv_aload_n hx hb dX10_obeys_45 rfl (lv_at hl 0 rfl) ?_
    refine va_get (D := D) (ci := 10) (v := .long (q.2 0 52)) (C := RX10) (T := TX10) (N := 56) hx hb hts u9_wsX10_obeys_X10 hown hK hP 0 rfl rfl 52 (by decide) (hts (.fieldLink RX10 487 "TurnedFloorsModel" "sumNow" "J") f9_wsX10_obeys_283) (fun _ h9 => h9) rfl dX10_obeys_46 ?_
    obtain ⟨r8, h9, h⟩ := dV_some h
    refine dw_ks (va_runS (As := [.long (q.2 0 52)]) (rest := [.ref (ad 0)]) ⟨hx, hb, hml, hown, hts⟩ (qX10_small l D ty eo _ (q.2 0 52) _ h9) (va_cwS 1 hts gX10_obeys_X10_small rfl rfl rfl (by decide +kernel) ⟨Nat.le_of_ble_eq_true rfl, Nat.le_of_ble_eq_true rfl⟩) (kz_preS hK hN hE hP hD hS hA [] (by decide) rfl) rfl rfl hl.1 rfl (lv_room (Nat.le_of_ble_eq_true rfl)) dX10_obeys_49 ⟨Nat.le_of_ble_eq_true rfl, Nat.le_of_ble_eq_true rfl⟩) hP hD hS hA (fun _ _ h9 => h9.2.symm) (fun r9 u9 H locs hw hp hd hs => ?_)
    obtain ⟨rfl, -⟩ := hw
    clear hP hD hS
    have hP := hp; have hD := hd; have hS := hs; clear hp hd hs
    obtain ⟨r10, q12, h11, h⟩ := dB_some h
    refine dw_ki (va_runV (As := [.int r8]) (rest := []) ⟨hx, hb, hml, hown, hts⟩ (qX10_swapsKept l D ty eo _ ad q r8 r10 q12 h11) (cwV 1 hts gX10_obeys_X10_swapsKept rfl rfl rfl (by decide +kernel) ⟨Nat.le_of_ble_eq_true rfl, Nat.le_of_ble_eq_true rfl⟩) (dw_preV (ci := 10) (q0 := 0) hK hN hE hP hD hS hA rfl rfl) rfl rfl hl.1 rfl (lv_room (Nat.le_of_ble_eq_true rfl)) dX10_obeys_52 ⟨Nat.le_of_ble_eq_true rfl, Nat.le_of_ble_eq_true rfl⟩) hD hS hA (fun r9 u9 H locs hw hp hd hs => ?_)
    clear hP hD hS
    obtain ⟨rfl, rfl⟩ := hw
    have hP := hp; have hD := hd; have hS := hs; clear hp hd hs
    cases h
    exact kz_iret hx hb hr hlocks hP hK hD hS dX10_obeys_55 ⟨rfl, rfl⟩
  rw [if_neg c7] at h
  by_cases c13 : (q.1 0 49) = 25
  · rw [if_pos c13] at h
    refine lv_tableIn (off := 52) (tgt := 56) hx hb dX10_obeys_4 (by rw [c13]; decide) (by rw [c13]; decide) (by rw [c13]; decide) (by decide) ?_
    refine lv_aload_n hx hb dX10_obeys_56 rfl (lv_at hl 0 rfl) ?_
    obtain ⟨r14, q16, h15, h⟩ := dB_some h
    refine dw_ki (va_runV (As := []) (rest := []) ⟨hx, hb, hml, hown, hts⟩ (qX10_passesKept l D ty eo _ ad q  r14 q16 h15) (cwV 0 hts gX10_obeys_X10_passesKept rfl rfl rfl (by decide +kernel) ⟨Nat.le_of_ble_eq_true rfl, Nat.le_of_ble_eq_true rfl⟩) (dw_preV (ci := 10) (q0 := 0) hK hN hE hP hD hS hA rfl rfl) rfl rfl hl.1 rfl (lv_room (Nat.le_of_ble_eq_true rfl)) dX10_obeys_57 ⟨Nat.le_of_ble_eq_true rfl, Nat.le_of_ble_eq_true rfl⟩) hD hS hA (fun r9 u9 H locs hw hp hd hs => ?_)
    clear hP hD hS
    obtain ⟨rfl, rfl⟩ := hw
    have hP := hp; have hD := hd; have hS := hs; clear hp hd hs
    cases h
    exact kz_iret hx hb hr hlocks hP hK hD hS dX10_obeys_60 ⟨rfl, rfl⟩
  rw [if_neg c13] at h
  refine lv_tableOut (tgt := 61) hx hb dX10_obeys_4 (by simp only [← Int32.toInt_inj, Int32.reduceToInt] at c1 c7 c13; omega) (by decide) ?_
  refine lv_aload_n hx hb dX10_obeys_61 rfl (lv_at hl 0 rfl) ?_
  refine lv_aload_n hx hb dX10_obeys_62 rfl (lv_at hl 0 rfl) ?_
  refine va_get (D := D) (ci := 10) (v := .long (q.2 0 52)) (C := RX10) (T := TX10) (N := 56) hx hb hts u9_wsX10_obeys_X10 hown hK hP 0 rfl rfl 52 (by decide) (hts (.fieldLink RX10 487 "TurnedFloorsModel" "sumNow" "J") f9_wsX10_obeys_283) (fun _ h9 => h9) rfl dX10_obeys_63 ?_
  obtain ⟨r17, h18, h⟩ := dV_some h
  refine dw_ks (va_runS (As := [.long (q.2 0 52)]) (rest := [.ref (ad 0)]) ⟨hx, hb, hml, hown, hts⟩ (qX10_small l D ty eo _ (q.2 0 52) _ h18) (va_cwS 1 hts gX10_obeys_X10_small rfl rfl rfl (by decide +kernel) ⟨Nat.le_of_ble_eq_true rfl, Nat.le_of_ble_eq_true rfl⟩) (kz_preS hK hN hE hP hD hS hA [] (by decide) rfl) rfl rfl hl.1 rfl (lv_room (Nat.le_of_ble_eq_true rfl)) dX10_obeys_66 ⟨Nat.le_of_ble_eq_true rfl, Nat.le_of_ble_eq_true rfl⟩) hP hD hS hA (fun _ _ h9 => h9.2.symm) (fun r9 u9 H locs hw hp hd hs => ?_)
  obtain ⟨rfl, -⟩ := hw
  clear hP hD hS
  have hP := hp; have hD := hd; have hS := hs; clear hp hd hs
  obtain ⟨r19, q21, h20, h⟩ := dB_some h
  refine dw_ki (va_runV (As := [.int r17]) (rest := []) ⟨hx, hb, hml, hown, hts⟩ (qX10_turnsKept l D ty eo _ ad q r17 r19 q21 h20) (cwV 1 hts gX10_obeys_X10_turnsKept rfl rfl rfl (by decide +kernel) ⟨Nat.le_of_ble_eq_true rfl, Nat.le_of_ble_eq_true rfl⟩) (dw_preV (ci := 10) (q0 := 0) hK hN hE hP hD hS hA rfl rfl) rfl rfl hl.1 rfl (lv_room (Nat.le_of_ble_eq_true rfl)) dX10_obeys_69 ⟨Nat.le_of_ble_eq_true rfl, Nat.le_of_ble_eq_true rfl⟩) hD hS hA (fun r9 u9 H locs hw hp hd hs => ?_)
  clear hP hD hS
  obtain ⟨rfl, rfl⟩ := hw
  have hP := hp; have hD := hd; have hS := hs; clear hp hd hs
  refine lv_istore_n (lv' := [(1, .int r19), (0, .ref (ad 0))]) hx hb dX10_obeys_72 rfl hl (by decide) rfl (fun ls hl => ?_)
  refine lv_aload_n hx hb dX10_obeys_73 rfl (lv_at hl 1 rfl) ?_
  refine lv_iload_n hx hb dX10_obeys_74 rfl (lv_at hl 0 rfl) ?_
  refine lv_if_ge (tgt := 85) hx hb dX10_obeys_75 (by decide) (fun c9 => ?_) (fun c9 => ?_)
  · rw [if_pos c9] at h
    refine lv_iload_n hx hb dX10_obeys_85 rfl (lv_at hl 0 rfl) ?_
    exact WX10_obeys_86 C  _ _ _ _ _ _ h hP hD hS (lv_sub hl [0] rfl)
  · rw [if_neg c9] at h
    refine lv_aload_n hx hb dX10_obeys_78 rfl (lv_at hl 1 rfl) ?_
    refine va_get (D := D) (ci := 10) (v := .int (q21.1 0 28)) (C := RX10) (T := TX10) (N := 56) hx hb hts u9_wsX10_obeys_X10 hown hK hP 0 rfl rfl 28 (by decide) (hts (.fieldLink RX10 317 "TurnedFloorsModel" "orderLatest" "I") f9_wsX10_obeys_281) (fun _ h9 => h9) rfl dX10_obeys_79 ?_
    refine lv_goto (tgt := 86) hx hb dX10_obeys_82 (by decide) ?_
    exact WX10_obeys_86 C  _ _ _ _ _ _ h hP hD hS (lv_sub hl [0] rfl)

set_option maxHeartbeats 4000000 in
set_option maxRecDepth 100000 in
theorem WX10_runs_67 {p : Program} {l : Launch} {e : Env} {s : State} {m : MethodId} {args : Array Value} {below : List Frame} {meth : Method} {c : Code} {D : va_G} {ty : Nat → ClassId} {eo : Nat → Nat} {A : Nat → Prop} {ad : Nat → Nat} {o1 : Int32} {o2 : dS} (C : dc_C p s m args meth c cX10_runs (some .boolean) 5 RX10 wsX10_runs D ty eo A) {k19 : dS → Int32 → Int32 → Int32 → Int32 → Option (Int32 × dS)} (hk19 : ∀ (q : dS) (x1 : Int32) (x2 : Int32) (x3 : Int32) (x4 : Int32) (H : Heap) (locs : List Loc) (ls : Array Slot), k19 q x1 x2 x3 x4 = some (o1, o2) → va_P D vwCl (w10 ty ad q) H → va_D A (w10 ty ad q) → va_S A s.heap H locs → lv_has ls 5 [(0, .ref (ad 0)), (1, .int x1), (2, .int x2), (3, .int x3), (4, .int x4)] → W p l e ({ frames := 91, cells := 0, slots := 0, locals := 2307 } : Room) s m args below meth c H locs 0 0 (MQ below (va_Qi (fun (r : Int32) (u : va_W) => o1 = r ∧ w10 ty ad o2 = u) (kz_B D ty A) A) args s 0 0 A) (F0 m 19 ls [])) (q : dS) (x1 : Int32) (x2 : Int32) (x3 : Int32) (x4 : Int32) (H : Heap) (locs : List Loc) (ls : Array Slot) (h : zX10_runs_67 k19 q x1 x2 x3 x4 = some (o1, o2)) (hP : va_P D vwCl (w10 ty ad q) H) (hD : va_D A (w10 ty ad q)) (hS : va_S A s.heap H locs) (hl : lv_has ls 5 [(0, .ref (ad 0)), (1, .int x1), (2, .int x2), (3, .int x3), (4, .int x4)]) : W p l e ({ frames := 91, cells := 0, slots := 0, locals := 2307 } : Room) s m args below meth c H locs 0 0 (MQ below (va_Qi (fun (r : Int32) (u : va_W) => o1 = r ∧ w10 ty ad o2 = u) (kz_B D ty A) A) args s 0 0 A) (F0 m 67 ls []) := by
  have C0 := C
  obtain ⟨hx, hb, hr, hts, hown, hlocks, hml, hK, hN, hE, hA⟩ := C
  unfold zX10_runs_67 at h
  refine lv_iinc (v := x4 + 1) (lv' := [(4, .int (x4 + 1)), (0, .ref (ad 0)), (1, .int x1), (2, .int x2), (3, .int x3)]) hx hb dX10_runs_67 hl (k := 4) rfl rfl (by decide) rfl (fun ls hl => ?_)
  refine lv_goto (tgt := 19) hx hb dX10_runs_70 (by decide) ?_
  exact hk19 _ _ _ _ _ _ _ _ h hP hD hS (lv_sub hl [1, 2, 3, 4, 0] rfl)
set_option maxHeartbeats 4000000 in
set_option maxRecDepth 100000 in
theorem WX10_runs_55 {p : Program} {l : Launch} {e : Env} {s : State} {m : MethodId} {args : Array Value} {below : List Frame} {meth : Method} {c : Code} {D : va_G} {ty : Nat → ClassId} {eo : Nat → Nat} {A : Nat → Prop} {ad : Nat → Nat} {o1 : Int32} {o2 : dS} (C : dc_C p s m args meth c cX10_runs (some .boolean) 5 RX10 wsX10_runs D ty eo A)   (q : dS)  (H : Heap) (locs : List Loc) (ls : Array Slot) (h : zX10_runs_55  q = some (o1, o2)) (hP : va_P D vwCl (w10 ty ad q) H) (hD : va_D A (w10 ty ad q)) (hS : va_S A s.heap H locs) (hl : lv_has ls 5 []) : W p l e ({ frames := 91, cells := 0, slots := 0, locals := 2307 } : Room) s m args below meth c H locs 0 0 (MQ below (va_Qi (fun (r : Int32) (u : va_W) => o1 = r ∧ w10 ty ad o2 = u) (kz_B D ty A) A) args s 0 0 A) (F0 m 55 ls []) := by
  have C0 := C
  obtain ⟨hx, hb, hr, hts, hown, hlocks, hml, hK, hN, hE, hA⟩ := C
  unfold zX10_runs_55 at h
  refine lv_iconst (v := 0) hx hb dX10_runs_55 (by decide) ?_
  cases h
  exact kz_zret hx hb hr hlocks rfl hP hK hD hS dX10_runs_56 ⟨rfl, rfl⟩
set_option maxHeartbeats 4000000 in
set_option maxRecDepth 100000 in
theorem WX10_runs_19b {p : Program} {l : Launch} {e : Env} {s : State} {m : MethodId} {args : Array Value} {below : List Frame} {meth : Method} {c : Code} {D : va_G} {ty : Nat → ClassId} {eo : Nat → Nat} {A : Nat → Prop} {ad : Nat → Nat} {o1 : Int32} {o2 : dS} (C : dc_C p s m args meth c cX10_runs (some .boolean) 5 RX10 wsX10_runs D ty eo A) {k19 : dS → Int32 → Int32 → Int32 → Int32 → Option (Int32 × dS)} (hk19 : ∀ (q : dS) (x1 : Int32) (x2 : Int32) (x3 : Int32) (x4 : Int32) (H : Heap) (locs : List Loc) (ls : Array Slot), k19 q x1 x2 x3 x4 = some (o1, o2) → va_P D vwCl (w10 ty ad q) H → va_D A (w10 ty ad q) → va_S A s.heap H locs → lv_has ls 5 [(0, .ref (ad 0)), (1, .int x1), (2, .int x2), (3, .int x3), (4, .int x4)] → W p l e ({ frames := 91, cells := 0, slots := 0, locals := 2307 } : Room) s m args below meth c H locs 0 0 (MQ below (va_Qi (fun (r : Int32) (u : va_W) => o1 = r ∧ w10 ty ad o2 = u) (kz_B D ty A) A) args s 0 0 A) (F0 m 19 ls [])) (q : dS) (x1 : Int32) (x2 : Int32) (x3 : Int32) (x4 : Int32) (H : Heap) (locs : List Loc) (ls : Array Slot) (h : zX10_runs_19b k19 q x1 x2 x3 x4 = some (o1, o2)) (hP : va_P D vwCl (w10 ty ad q) H) (hD : va_D A (w10 ty ad q)) (hS : va_S A s.heap H locs) (hl : lv_has ls 5 [(0, .ref (ad 0)), (1, .int x1), (2, .int x2), (3, .int x3), (4, .int x4)]) : W p l e ({ frames := 91, cells := 0, slots := 0, locals := 2307 } : Room) s m args below meth c H locs 0 0 (MQ below (va_Qi (fun (r : Int32) (u : va_W) => o1 = r ∧ w10 ty ad o2 = u) (kz_B D ty A) A) args s 0 0 A) (F0 m 19 ls []) := by
  have C0 := C
  obtain ⟨hx, hb, hr, hts, hown, hlocks, hml, hK, hN, hE, hA⟩ := C
  unfold zX10_runs_19b at h
  refine lv_iload hx hb dX10_runs_19 (lv_at hl 4 rfl) ?_
  refine lv_iload_n hx hb dX10_runs_21 rfl (lv_at hl 2 rfl) ?_
  refine lv_icmp_ge (tgt := 73) hx hb dX10_runs_22 (by decide) (fun c9 => ?_) (fun c9 => ?_)
  · rw [if_pos c9] at h
    refine lv_aload_n hx hb dX10_runs_73 rfl (lv_at hl 0 rfl) ?_
    refine lv_iload_n hx hb dX10_runs_74 rfl (lv_at hl 3 rfl) ?_
    refine va_put (D := D) (ci := 10) (v := .int x3) (ty := .int) (C := RX10) (T := TX10) (N := 56) hx hb hts u9_wsX10_runs_X10 tyX10 tyX10_ok nmX10 hown hK hP hD hS 0 rfl rfl 47 (by decide) (hts (.fieldLink RX10 475 "TurnedFloorsModel" "orderAt" "I") f9_wsX10_runs_285) (fun _ h9 => h9) rfl (by decide +kernel) rfl rfl (Nat.le_of_ble_eq_true rfl) dX10_runs_75 (fun H locs hp hd hs => ?_)
    obtain ⟨q1, eq1, h⟩ := dL_some h
    refine kz_re (w2 := w10 ty ad q1) hp hd hs (by rw [← eq1]; exact w10_f47 ty ad q x3) ?_
    clear hp hd hs hP hD hS
    intro hP hD hS
    refine lv_iconst (v := 1) hx hb dX10_runs_78 (by decide) ?_
    cases h
    exact kz_zret hx hb hr hlocks rfl hP hK hD hS dX10_runs_79 ⟨rfl, rfl⟩
  · rw [if_neg c9] at h
    refine lv_aload_n hx hb dX10_runs_25 rfl (lv_at hl 0 rfl) ?_
    refine lv_iload_n hx hb dX10_runs_26 rfl (lv_at hl 1 rfl) ?_
    refine lv_iconst (v := 1) hx hb dX10_runs_27 (by decide) ?_
    obtain ⟨q4, h3, h⟩ := dV_some h
    refine dw_kv (va_runV (As := [.int x1, .int 1]) (rest := []) ⟨hx, hb, hml, hown, hts⟩ (qX10_goesAlong l D ty eo _ ad q x1 1 q4 h3) (cwV 2 hts gX10_runs_X10_goesAlong rfl rfl rfl (by decide +kernel) ⟨Nat.le_of_ble_eq_true rfl, Nat.le_of_ble_eq_true rfl⟩) (dw_preV (ci := 10) (q0 := 0) hK hN hE hP hD hS hA rfl rfl) rfl rfl hl.1 rfl (lv_room (Nat.le_of_ble_eq_true rfl)) dX10_runs_28 ⟨Nat.le_of_ble_eq_true rfl, Nat.le_of_ble_eq_true rfl⟩) hD hS hA (fun u9 H locs hw hp hd hs => ?_)
    clear hP hD hS
    obtain rfl := hw
    have hP := hp; have hD := hd; have hS := hs; clear hp hd hs
    refine lv_aload_n hx hb dX10_runs_31 rfl (lv_at hl 0 rfl) ?_
    refine va_get (D := D) (ci := 10) (v := .int (q4.1 0 51)) (C := RX10) (T := TX10) (N := 56) hx hb hts u9_wsX10_runs_X10 hown hK hP 0 rfl rfl 51 (by decide) (hts (.fieldLink RX10 497 "TurnedFloorsModel" "testIs" "Z") f9_wsX10_runs_286) (fun _ h9 => h9) rfl dX10_runs_32 ?_
    refine lv_if_ne (tgt := 41) hx hb dX10_runs_35 (by decide) (fun c9 => ?_) (fun c9 => ?_)
    · rw [if_neg c9] at h
      refine lv_aload_n hx hb dX10_runs_41 rfl (lv_at hl 0 rfl) ?_
      refine va_get (D := D) (ci := 10) (v := .int (q4.1 0 50)) (C := RX10) (T := TX10) (N := 56) hx hb hts u9_wsX10_runs_X10 hown hK hP 0 rfl rfl 50 (by decide) (hts (.fieldLink RX10 491 "TurnedFloorsModel" "sumsAre" "Z") f9_wsX10_runs_287) (fun _ h9 => h9) rfl dX10_runs_42 ?_
      refine lv_if_eq (tgt := 55) hx hb dX10_runs_45 (by decide) (fun c9 => ?_) (fun c9 => ?_)
      · rw [if_pos c9] at h
        exact WX10_runs_55 C0  _ _ _ _ h hP hD hS (lv_sub hl [] rfl)
      · rw [if_neg c9] at h
        refine lv_aload_n hx hb dX10_runs_48 rfl (lv_at hl 0 rfl) ?_
        obtain ⟨r5, q7, h6, h⟩ := dB_some h
        refine dw_ki (va_runV (As := []) (rest := []) ⟨hx, hb, hml, hown, hts⟩ (qX10_obeys l D ty eo _ ad q4  r5 q7 h6) (cwV 0 hts gX10_runs_X10_obeys rfl rfl rfl (by decide +kernel) ⟨Nat.le_of_ble_eq_true rfl, Nat.le_of_ble_eq_true rfl⟩) (dw_preV (ci := 10) (q0 := 0) hK hN hE hP hD hS hA rfl rfl) rfl rfl hl.1 rfl (lv_room (Nat.le_of_ble_eq_true rfl)) dX10_runs_49 ⟨Nat.le_of_ble_eq_true rfl, Nat.le_of_ble_eq_true rfl⟩) hD hS hA (fun r9 u9 H locs hw hp hd hs => ?_)
        clear hP hD hS
        obtain ⟨rfl, rfl⟩ := hw
        have hP := hp; have hD := hd; have hS := hs; clear hp hd hs
        refine lv_if_ge (tgt := 57) hx hb dX10_runs_52 (by decide) (fun c9 => ?_) (fun c9 => ?_)
        · rw [if_pos c9] at h
          refine lv_aload_n hx hb dX10_runs_57 rfl (lv_at hl 0 rfl) ?_
          refine lv_dup hx hb dX10_runs_58 rfl ?_
          refine va_get (D := D) (ci := 10) (v := .int (q7.1 0 27)) (C := RX10) (T := TX10) (N := 56) hx hb hts u9_wsX10_runs_X10 hown hK hP 0 rfl rfl 27 (by decide) (hts (.fieldLink RX10 314 "TurnedFloorsModel" "orderDone" "I") f9_wsX10_runs_288) (fun _ h9 => h9) rfl dX10_runs_59 ?_
          refine lv_iconst (v := 1) hx hb dX10_runs_62 (by decide) ?_
          refine lv_iadd hx hb dX10_runs_63 ?_
          refine va_put (D := D) (ci := 10) (v := .int ((q7.1 0 27) + 1 : Int32)) (ty := .int) (C := RX10) (T := TX10) (N := 56) hx hb hts u9_wsX10_runs_X10 tyX10 tyX10_ok nmX10 hown hK hP hD hS 0 rfl rfl 27 (by decide) (hts (.fieldLink RX10 314 "TurnedFloorsModel" "orderDone" "I") f9_wsX10_runs_288) (fun _ h9 => h9) rfl (by decide +kernel) rfl rfl (Nat.le_of_ble_eq_true rfl) dX10_runs_64 (fun H locs hp hd hs => ?_)
          obtain ⟨q8, eq8, h⟩ := dL_some h
          refine kz_re (w2 := w10 ty ad q8) hp hd hs (by rw [← eq8]; exact w10_f27 ty ad q7 ((q7.1 0 27) + 1 : Int32)) ?_
          clear hp hd hs hP hD hS
          intro hP hD hS
          exact WX10_runs_67 C0 hk19 _ _ _ _ _ _ _ _ h hP hD hS (lv_sub hl [0, 1, 2, 3, 4] rfl)
        · rw [if_neg c9] at h
          exact WX10_runs_55 C0  _ _ _ _ h hP hD hS (lv_sub hl [] rfl)
    · rw [if_pos c9] at h
      refine lv_goto (tgt := 67) hx hb dX10_runs_38 (by decide) ?_
      exact WX10_runs_67 C0 hk19 _ _ _ _ _ _ _ _ h hP hD hS (lv_sub hl [0, 1, 2, 3, 4] rfl)
set_option maxHeartbeats 4000000 in
set_option maxRecDepth 100000 in
theorem WX10_runs_19 {p : Program} {l : Launch} {e : Env} {s : State} {m : MethodId} {args : Array Value} {below : List Frame} {meth : Method} {c : Code} {D : va_G} {ty : Nat → ClassId} {eo : Nat → Nat} {A : Nat → Prop} {ad : Nat → Nat} {o1 : Int32} {o2 : dS} (C : dc_C p s m args meth c cX10_runs (some .boolean) 5 RX10 wsX10_runs D ty eo A)   (n : Nat) (q : dS) (x1 : Int32) (x2 : Int32) (x3 : Int32) (x4 : Int32) (H : Heap) (locs : List Loc) (ls : Array Slot) (h : zX10_runs_19  n q x1 x2 x3 x4 = some (o1, o2)) (hP : va_P D vwCl (w10 ty ad q) H) (hD : va_D A (w10 ty ad q)) (hS : va_S A s.heap H locs) (hl : lv_has ls 5 [(0, .ref (ad 0)), (1, .int x1), (2, .int x2), (3, .int x3), (4, .int x4)]) : W p l e ({ frames := 91, cells := 0, slots := 0, locals := 2307 } : Room) s m args below meth c H locs 0 0 (MQ below (va_Qi (fun (r : Int32) (u : va_W) => o1 = r ∧ w10 ty ad o2 = u) (kz_B D ty A) A) args s 0 0 A) (F0 m 19 ls []) := by
  exact dFix_W (F := fun k (a : dS × Int32 × Int32 × Int32 × Int32) => zX10_runs_19b  (fun q x1 x2 x3 x4 => k (q, x1, x2, x3, x4)) a.1 a.2.1 a.2.2.1 a.2.2.2.1 a.2.2.2.2) (o := (o1, o2)) (P := fun (a : dS × Int32 × Int32 × Int32 × Int32) H locs ls => va_P D vwCl (w10 ty ad a.1) H ∧ va_D A (w10 ty ad a.1) ∧ va_S A s.heap H locs ∧ lv_has ls 5 [(0, .ref (ad 0)), (1, .int a.2.1), (2, .int a.2.2.1), (3, .int a.2.2.2.1), (4, .int a.2.2.2.2)]) (G := fun H locs ls => W p l e ({ frames := 91, cells := 0, slots := 0, locals := 2307 } : Room) s m args below meth c H locs 0 0 (MQ below (va_Qi (fun (r : Int32) (u : va_W) => o1 = r ∧ w10 ty ad o2 = u) (kz_B D ty A) A) args s 0 0 A) (F0 m 19 ls []))
    (fun k hk a H locs ls h hp => WX10_runs_19b C  (fun q x1 x2 x3 x4 H locs ls h h1 h2 h3 h4 => hk (q, x1, x2, x3, x4) H locs ls h ⟨h1, h2, h3, h4⟩) a.1 a.2.1 a.2.2.1 a.2.2.2.1 a.2.2.2.2 H locs ls h hp.1 hp.2.1 hp.2.2.1 hp.2.2.2) n (q, x1, x2, x3, x4) H locs ls h ⟨hP, hD, hS, hl⟩
set_option maxHeartbeats 4000000 in
set_option maxRecDepth 100000 in
theorem qX10_runs (l : Launch) (D : va_G) (ty : Nat → ClassId) (eo : Nat → Nat) (sz : Nat) (ad : Nat → Nat) (q : dS) (p1 : Int32) (o1 : Int32) (o2 : dS) (h : zX10_runs q p1 = some (o1, o2)) : Met l yX10_runs wsX10_runs ({ frames := 91, cells := 0, slots := 0, locals := 2307 } : Room) (va_Pc [.ref (ad 0), .int p1] (kz_pre D ty eo (w10 ty ad q) sz)) (va_Qi (fun (r : Int32) (u : va_W) => o1 = r ∧ w10 ty ad o2 = u) (kz_B D ty (va_A (w10 ty ad q) sz)) (va_A (w10 ty ad q) sz)) 0 0 (va_A (w10 ty ad q) sz) := by
  refine Met.ofW (cc := cX10_runs) (maxL := 5) (ret := (some .boolean)) (by decide) rfl ?_
  intro p e s m args below meth c s₁ B hml hv
  obtain ⟨rfl, hsz, hP, hK, hD0, hN, hE⟩ := hv
  have hx := B.exec
  have hb := B.bytes
  have hr := B.returns
  have hts := atoms_spec (ws := wsX10_runs) B.pre
  have hown : s.vm.findClass RX10 = some m.cls := findClass_of_methodNamed B.named
  have hlocks := B.notSynchronized
  subst hsz
  have hD := hD0.self (sz := s.heap.size)
  generalize hAe : va_A (w10 ty ad q) s.heap.size = A at hD hE ⊢
  have hA : ∀ q : Nat, s.heap.size ≤ q → A q := fun q h => by rw [← hAe]; exact Or.inr h
  clear hAe
  have hS : va_S A s.heap s.heap [] := va_S.rf
  have hl := lv_entry ([.ref (ad 0), .int p1]) (n := 5) (Nat.le_of_ble_eq_true rfl)
  rw [lg_entry_eq]
  generalize (lg_sl ([.ref (ad 0), .int p1]) ++ List.replicate (5 - (lg_sl ([.ref (ad 0), .int p1])).length) Slot.unset).toArray = ls at hl ⊢
  have hl : lv_has ls 5 [(0, .ref (ad 0)), (1, .int p1)] := hl
  have C : dc_C p s m _ meth c cX10_runs (some .boolean) 5 RX10 wsX10_runs D ty eo A := ⟨hx, hb, hr, hts, hown, hlocks, hml, hK, hN, hE, hA⟩
  unfold zX10_runs at h
  refine lv_aload_n hx hb dX10_runs_0 rfl (lv_at hl 0 rfl) ?_
  refine lv_iload_n hx hb dX10_runs_1 rfl (lv_at hl 1 rfl) ?_
  refine lv_iconst (v := 0) hx hb dX10_runs_2 (by decide) ?_
  obtain ⟨q3, h2, h⟩ := dV_some h
  refine dw_kv (va_runV (As := [.int p1, .int 0]) (rest := []) ⟨hx, hb, hml, hown, hts⟩ (qX10_goesAlong l D ty eo _ ad q p1 0 q3 h2) (cwV 2 hts gX10_runs_X10_goesAlong rfl rfl rfl (by decide +kernel) ⟨Nat.le_of_ble_eq_true rfl, Nat.le_of_ble_eq_true rfl⟩) (dw_preV (ci := 10) (q0 := 0) hK hN hE hP hD hS hA rfl rfl) rfl rfl hl.1 rfl (lv_room (Nat.le_of_ble_eq_true rfl)) dX10_runs_3 ⟨Nat.le_of_ble_eq_true rfl, Nat.le_of_ble_eq_true rfl⟩) hD hS hA (fun u9 H locs hw hp hd hs => ?_)
  clear hP hD hS
  obtain rfl := hw
  have hP := hp; have hD := hd; have hS := hs; clear hp hd hs
  refine lv_aload_n hx hb dX10_runs_6 rfl (lv_at hl 0 rfl) ?_
  refine va_get (D := D) (ci := 10) (v := .int (q3.1 0 48)) (C := RX10) (T := TX10) (N := 56) hx hb hts u9_wsX10_runs_X10 hown hK hP 0 rfl rfl 48 (by decide) (hts (.fieldLink RX10 494 "TurnedFloorsModel" "howOften" "I") f9_wsX10_runs_289) (fun _ h9 => h9) rfl dX10_runs_7 ?_
  refine lv_istore_n (lv' := [(2, .int (q3.1 0 48)), (0, .ref (ad 0)), (1, .int p1)]) hx hb dX10_runs_10 rfl hl (by decide) rfl (fun ls hl => ?_)
  refine lv_aload_n hx hb dX10_runs_11 rfl (lv_at hl 1 rfl) ?_
  refine va_get (D := D) (ci := 10) (v := .int (q3.1 0 22)) (C := RX10) (T := TX10) (N := 56) hx hb hts u9_wsX10_runs_X10 hown hK hP 0 rfl rfl 22 (by decide) (hts (.fieldLink RX10 278 "TurnedFloorsModel" "go" "I") f9_wsX10_runs_290) (fun _ h9 => h9) rfl dX10_runs_12 ?_
  refine lv_istore_n (lv' := [(3, .int (q3.1 0 22)), (2, .int (q3.1 0 48)), (0, .ref (ad 0)), (1, .int p1)]) hx hb dX10_runs_15 rfl hl (by decide) rfl (fun ls hl => ?_)
  refine lv_iconst (v := 0) hx hb dX10_runs_16 (by decide) ?_
  refine lv_istore (lv' := [(4, .int 0), (3, .int (q3.1 0 22)), (2, .int (q3.1 0 48)), (0, .ref (ad 0)), (1, .int p1)]) hx hb dX10_runs_17 hl (by decide) rfl (fun ls hl => ?_)
  exact WX10_runs_19 C  _ _ _ _ _ _ _ _ _ h hP hD hS (lv_sub hl [3, 4, 2, 1, 0] rfl)
