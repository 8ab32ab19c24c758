theorem f9_wsX8_mostAlike_908 : (Cond.initialized RX9) ∈ wsX8_mostAlike := by decide +kernel
theorem u9_wsX8_mostAlike_X8 : ∀ w ∈ u_ws RX8 TX8 5, w ∈ wsX8_mostAlike := by
  first | exact fun w h => List.mem_cons_of_mem _ (List.mem_append_right _ h) | decide +kernel
theorem f9_wsX8_mostAlike_910 : (Cond.fieldLink RX8 18 "TurnedFloors$Tower" "floors" "I") ∈ wsX8_mostAlike := by decide +kernel
theorem f9_wsX8_mostAlike_911 : (Cond.methodLink RX8 88 Lib.Math.max.name) ∈ wsX8_mostAlike := by decide +kernel
theorem f9_wsX8_mostAlike_912 : (Cond.static Lib.Math.max.name) ∈ wsX8_mostAlike := by decide +kernel
theorem f9_wsX8_mostAlike_913 : (Cond.initialized "java/lang/Math") ∈ wsX8_mostAlike := by decide +kernel
theorem f9_wsX8_mostAlike_914 : (Cond.code Lib.Math.max.name Lib.Math.max.code 2 (some .int)) ∈ wsX8_mostAlike := by decide +kernel
theorem u9_wsX9_look_X9 : ∀ w ∈ u_ws RX9 TX9 19, w ∈ wsX9_look := by
  first | exact fun w h => List.mem_cons_of_mem _ (List.mem_append_right _ h) | decide +kernel
theorem u9_wsX9_look_X6 : ∀ w ∈ u_ws RX6 TX6 10, w ∈ wsX9_look := by
  first | exact fun w h => List.mem_cons_of_mem _ (List.mem_append_right _ h) | decide +kernel
theorem u9_wsX9_look_X8 : ∀ w ∈ u_ws RX8 TX8 5, w ∈ wsX9_look := by
  first | exact fun w h => List.mem_cons_of_mem _ (List.mem_append_right _ h) | decide +kernel
theorem f9_wsX9_look_918 : (Cond.fieldLink RX9 10 "TurnedFloors" "state" "LTurnedFloors$State;") ∈ wsX9_look := by decide +kernel
theorem u9_wsX9_few_X9 : ∀ w ∈ u_ws RX9 TX9 19, w ∈ wsX9_few := by
  first | exact fun w h => List.mem_cons_of_mem _ (List.mem_append_right _ h) | decide +kernel
theorem f9_wsX9_few_920 : (Cond.fieldLink RX9 101 "TurnedFloors" "chances" "[J") ∈ wsX9_few := by decide +kernel
theorem u9_wsX9_few_X6 : ∀ w ∈ u_ws RX6 TX6 10, w ∈ wsX9_few := by
  first | exact fun w h => List.mem_cons_of_mem _ (List.mem_append_right _ h) | decide +kernel
theorem f9_wsX9_few_922 : (Cond.fieldLink RX9 10 "TurnedFloors" "state" "LTurnedFloors$State;") ∈ wsX9_few := by decide +kernel
theorem f9_wsX9_few_923 : (Cond.constantLong RX9 304 10) ∈ wsX9_few := by decide +kernel
theorem f9_wsX9_few_924 : (Cond.constantLong RX9 291 (-1)) ∈ wsX9_few := by decide +kernel
theorem f9_wsX9_few_925 : (Cond.constantLong RX9 299 1000000000000) ∈ wsX9_few := by decide +kernel
theorem u9_wsX9_compare_X9 : ∀ w ∈ u_ws RX9 TX9 19, w ∈ wsX9_compare := by
  first | exact fun w h => List.mem_cons_of_mem _ (List.mem_append_right _ h) | decide +kernel
theorem u9_wsX9_compare_X6 : ∀ w ∈ u_ws RX6 TX6 10, w ∈ wsX9_compare := by
  first | exact fun w h => List.mem_cons_of_mem _ (List.mem_append_right _ h) | decide +kernel
theorem f9_wsX9_compare_928 : (Cond.fieldLink RX9 50 "TurnedFloors" "judge" "LTurnedFloors$Judge;") ∈ wsX9_compare := by decide +kernel
theorem f9_wsX9_compare_929 : (Cond.fieldLink RX9 10 "TurnedFloors" "state" "LTurnedFloors$State;") ∈ wsX9_compare := by decide +kernel
theorem f9_wsX9_compare_930 : (Cond.fieldLink RX9 80 "TurnedFloors" "paper" "LTurnedFloors$Paper;") ∈ wsX9_compare := by decide +kernel
set_option maxHeartbeats 4000000 in
set_option maxRecDepth 100000 in
theorem WX8_mostAlike_s2_56 {p : Program} {l : Launch} {e : Env} {s : State} {m : MethodId} {args : Array Value} {below : List Frame} {meth : Method} {c : Code} {D : va_G} {ty : Nat → ClassId} {eo : Nat → Nat} {A : Nat → Prop} {ad : Nat → Nat} {o1 : Int32} {o2 : dK} (C : dc_C p s m args meth c cX8_mostAlike (some .int) 7 RX8 wsX8_mostAlike D ty eo A) {k5 : dK → Int32 → Int32 → Int32 → Int32 → Option (Int32 × dK)} {k18 : dK → Int32 → Int32 → Int32 → Int32 → Int32 → Int32 → Option (Int32 × dK)} (hk5 : ∀ (q : dK) (x1 : Int32) (x2 : Int32) (x3 : Int32) (x4 : Int32) (H : Heap) (locs : List Loc) (ls : Array Slot), k5 q x1 x2 x3 x4 = some (o1, o2) → va_P D vwCl (wF ty ad q) H → va_D A (wF ty ad q) → va_S A s.heap H locs → lv_has ls 7 [(0, .ref (ad 2)), (1, .int x1), (2, .int x2), (3, .int x3), (4, .int x4)] → W p l e ({ frames := 2, cells := 0, slots := 0, locals := 44 } : Room) s m args below meth c H locs 0 0 (MQ below (va_Qi (fun (r : Int32) (u : va_W) => o1 = r ∧ wF ty ad o2 = u) (kz_B D ty A) A) args s 0 0 A) (F0 m 5 ls [])) (hk18 : ∀ (q : dK) (x1 : Int32) (x2 : Int32) (x3 : Int32) (x4 : Int32) (x5 : Int32) (x6 : Int32) (H : Heap) (locs : List Loc) (ls : Array Slot), k18 q x1 x2 x3 x4 x5 x6 = some (o1, o2) → va_P D vwCl (wF ty ad q) H → va_D A (wF ty ad q) → va_S A s.heap H locs → lv_has ls 7 [(0, .ref (ad 2)), (1, .int x1), (2, .int x2), (3, .int x3), (4, .int x4), (5, .int x5), (6, .int x6)] → W p l e ({ frames := 2, cells := 0, slots := 0, locals := 44 } : Room) s m args below meth c H locs 0 0 (MQ below (va_Qi (fun (r : Int32) (u : va_W) => o1 = r ∧ wF ty ad o2 = u) (kz_B D ty A) A) args s 0 0 A) (F0 m 18 ls [])) (q : dK) (x1 : Int32) (x2 : Int32) (x3 : Int32) (x4 : Int32) (x6 : Int32) (y0 : Int32) (y1 : Int32) (H : Heap) (locs : List Loc) (ls : Array Slot) (h : zX8_mostAlike_s2_56 k5 k18 q x1 x2 x3 x4 x6 y0 y1 = some (o1, o2)) (hP : va_P D vwCl (wF ty ad q) H) (hD : va_D A (wF ty ad q)) (hS : va_S A s.heap H locs) (hl : lv_has ls 7 [(0, .ref (ad 2)), (1, .int x1), (2, .int x2), (3, .int x3), (4, .int x4), (6, .int x6)]) : W p l e ({ frames := 2, cells := 0, slots := 0, locals := 44 } : Room) s m args below meth c H locs 0 0 (MQ below (va_Qi (fun (r : Int32) (u : va_W) => o1 = r ∧ wF ty ad o2 = u) (kz_B D ty A) A) args s 0 0 A) (F0 m 56 ls [.int y0, .int y1]) := by
  have C0 := C
  obtain ⟨hx, hb, hr, hts, hown, hlocks, hml, hK, hN, hE, hA⟩ := C
  unfold zX8_mostAlike_s2_56 at h
  obtain ⟨r1, h2, h⟩ := dV_some h
  refine dw_ks (va_runSN (As := [.int y0]) (rest := [.int y1]) ⟨hx, hb, hml, hown, hts⟩ (qX9_bit l D ty eo _ y0 _ h2) ⟨va_cnB 1 hts gX8_mostAlike_X9_bit_n79 rfl rfl rfl (hN.1 _ (by decide +kernel : (.methodLinkNest "TurnedFloors$Tower" 79 yX9_bit "TurnedFloors" : Cond) ∈ kzN1)) (hts (.initialized RX9) f9_wsX8_mostAlike_908) (by decide +kernel) ⟨Nat.le_of_ble_eq_true rfl, Nat.le_of_ble_eq_true rfl⟩, hts (.static yX9_bit) (by decide +kernel), trivial⟩ (kz_preS hK hN hE hP hD hS hA [] (by decide) rfl) rfl rfl hl.1 rfl (lv_room (Nat.le_of_ble_eq_true rfl)) dX8_mostAlike_56 ⟨Nat.le_of_ble_eq_true rfl, Nat.le_of_ble_eq_true rfl⟩) hP hD hS hA (fun _ _ h9 => h9.2.symm) (fun r9 u9 H locs hw hp hd hs => ?_)
  obtain ⟨rfl, -⟩ := hw
  clear hP hD hS
  have hP := hp; have hD := hd; have hS := hs; clear hp hd hs
  refine lv_iadd hx hb dX8_mostAlike_59 ?_
  refine lv_istore (lv' := [(5, .int (y1 + r1)), (0, .ref (ad 2)), (1, .int x1), (2, .int x2), (3, .int x3), (4, .int x4), (6, .int x6)]) hx hb dX8_mostAlike_60 hl (by decide) rfl (fun ls hl => ?_)
  refine lv_iinc (v := x6 + 1) (lv' := [(6, .int (x6 + 1)), (5, .int (y1 + r1)), (0, .ref (ad 2)), (1, .int x1), (2, .int x2), (3, .int x3), (4, .int x4)]) hx hb dX8_mostAlike_62 hl (k := 6) rfl rfl (by decide) rfl (fun ls hl => ?_)
  refine lv_goto (tgt := 18) hx hb dX8_mostAlike_65 (by decide) ?_
  exact hk18 _ _ _ _ _ _ _ _ _ _ h hP hD hS (lv_sub hl [2, 3, 4, 5, 6, 1, 0] rfl)
set_option maxHeartbeats 4000000 in
set_option maxRecDepth 100000 in
theorem WX8_mostAlike_s2_55 {p : Program} {l : Launch} {e : Env} {s : State} {m : MethodId} {args : Array Value} {below : List Frame} {meth : Method} {c : Code} {D : va_G} {ty : Nat → ClassId} {eo : Nat → Nat} {A : Nat → Prop} {ad : Nat → Nat} {o1 : Int32} {o2 : dK} (C : dc_C p s m args meth c cX8_mostAlike (some .int) 7 RX8 wsX8_mostAlike D ty eo A) {k5 : dK → Int32 → Int32 → Int32 → Int32 → Option (Int32 × dK)} {k18 : dK → Int32 → Int32 → Int32 → Int32 → Int32 → Int32 → Option (Int32 × dK)} (hk5 : ∀ (q : dK) (x1 : Int32) (x2 : Int32) (x3 : Int32) (x4 : Int32) (H : Heap) (locs : List Loc) (ls : Array Slot), k5 q x1 x2 x3 x4 = some (o1, o2) → va_P D vwCl (wF ty ad q) H → va_D A (wF ty ad q) → va_S A s.heap H locs → lv_has ls 7 [(0, .ref (ad 2)), (1, .int x1), (2, .int x2), (3, .int x3), (4, .int x4)] → W p l e ({ frames := 2, cells := 0, slots := 0, locals := 44 } : Room) s m args below meth c H locs 0 0 (MQ below (va_Qi (fun (r : Int32) (u : va_W) => o1 = r ∧ wF ty ad o2 = u) (kz_B D ty A) A) args s 0 0 A) (F0 m 5 ls [])) (hk18 : ∀ (q : dK) (x1 : Int32) (x2 : Int32) (x3 : Int32) (x4 : Int32) (x5 : Int32) (x6 : Int32) (H : Heap) (locs : List Loc) (ls : Array Slot), k18 q x1 x2 x3 x4 x5 x6 = some (o1, o2) → va_P D vwCl (wF ty ad q) H → va_D A (wF ty ad q) → va_S A s.heap H locs → lv_has ls 7 [(0, .ref (ad 2)), (1, .int x1), (2, .int x2), (3, .int x3), (4, .int x4), (5, .int x5), (6, .int x6)] → W p l e ({ frames := 2, cells := 0, slots := 0, locals := 44 } : Room) s m args below meth c H locs 0 0 (MQ below (va_Qi (fun (r : Int32) (u : va_W) => o1 = r ∧ wF ty ad o2 = u) (kz_B D ty A) A) args s 0 0 A) (F0 m 18 ls [])) (q : dK) (x1 : Int32) (x2 : Int32) (x3 : Int32) (x4 : Int32) (x6 : Int32) (y0 : Int32) (H : Heap) (locs : List Loc) (ls : Array Slot) (h : zX8_mostAlike_s2_55 k5 k18 q x1 x2 x3 x4 x6 y0 = some (o1, o2)) (hP : va_P D vwCl (wF ty ad q) H) (hD : va_D A (wF ty ad q)) (hS : va_S A s.heap H locs) (hl : lv_has ls 7 [(0, .ref (ad 2)), (1, .int x1), (2, .int x2), (3, .int x3), (4, .int x4), (6, .int x6)]) : W p l e ({ frames := 2, cells := 0, slots := 0, locals := 44 } : Room) s m args below meth c H locs 0 0 (MQ below (va_Qi (fun (r : Int32) (u : va_W) => o1 = r ∧ wF ty ad o2 = u) (kz_B D ty A) A) args s 0 0 A) (F0 m 55 ls [.int y0]) := by
  have C0 := C
  obtain ⟨hx, hb, hr, hts, hown, hlocks, hml, hK, hN, hE, hA⟩ := C
  unfold zX8_mostAlike_s2_55 at h
  refine lv_iconst (v := 0) hx hb dX8_mostAlike_55 (by decide) ?_
  exact WX8_mostAlike_s2_56 C0 hk5 hk18 _ _ _ _ _ _ _ _ _ _ _ h hP hD hS (lv_sub hl [0, 1, 2, 3, 4, 5] rfl)
set_option maxHeartbeats 4000000 in
set_option maxRecDepth 100000 in
theorem WX8_mostAlike_s2_18b {p : Program} {l : Launch} {e : Env} {s : State} {m : MethodId} {args : Array Value} {below : List Frame} {meth : Method} {c : Code} {D : va_G} {ty : Nat → ClassId} {eo : Nat → Nat} {A : Nat → Prop} {ad : Nat → Nat} {o1 : Int32} {o2 : dK} (C : dc_C p s m args meth c cX8_mostAlike (some .int) 7 RX8 wsX8_mostAlike D ty eo A) {k5 : dK → Int32 → Int32 → Int32 → Int32 → Option (Int32 × dK)} {k18 : dK → Int32 → Int32 → Int32 → Int32 → Int32 → Int32 → Option (Int32 × dK)} (hk5 : ∀ (q : dK) (x1 : Int32) (x2 : Int32) (x3 : Int32) (x4 : Int32) (H : Heap) (locs : List Loc) (ls : Array Slot), k5 q x1 x2 x3 x4 = some (o1, o2) → va_P D vwCl (wF ty ad q) H → va_D A (wF ty ad q) → va_S A s.heap H locs → lv_has ls 7 [(0, .ref (ad 2)), (1, .int x1), (2, .int x2), (3, .int x3), (4, .int x4)] → W p l e ({ frames := 2, cells := 0, slots := 0, locals := 44 } : Room) s m args below meth c H locs 0 0 (MQ below (va_Qi (fun (r : Int32) (u : va_W) => o1 = r ∧ wF ty ad o2 = u) (kz_B D ty A) A) args s 0 0 A) (F0 m 5 ls [])) (hk18 : ∀ (q : dK) (x1 : Int32) (x2 : Int32) (x3 : Int32) (x4 : Int32) (x5 : Int32) (x6 : Int32) (H : Heap) (locs : List Loc) (ls : Array Slot), k18 q x1 x2 x3 x4 x5 x6 = some (o1, o2) → va_P D vwCl (wF ty ad q) H → va_D A (wF ty ad q) → va_S A s.heap H locs → lv_has ls 7 [(0, .ref (ad 2)), (1, .int x1), (2, .int x2), (3, .int x3), (4, .int x4), (5, .int x5), (6, .int x6)] → W p l e ({ frames := 2, cells := 0, slots := 0, locals := 44 } : Room) s m args below meth c H locs 0 0 (MQ below (va_Qi (fun (r : Int32) (u : va_W) => o1 = r ∧ wF ty ad o2 = u) (kz_B D ty A) A) args s 0 0 A) (F0 m 18 ls [])) (q : dK) (x1 : Int32) (x2 : Int32) (x3 : Int32) (x4 : Int32) (x5 : Int32) (x6 : Int32) (H : Heap) (locs : List Loc) (ls : Array Slot) (h : zX8_mostAlike_s2_18b k5 k18 q x1 x2 x3 x4 x5 x6 = some (o1, o2)) (hP : va_P D vwCl (wF ty ad q) H) (hD : va_D A (wF ty ad q)) (hS : va_S A s.heap H locs) (hl : lv_has ls 7 [(0, .ref (ad 2)), (1, .int x1), (2, .int x2), (3, .int x3), (4, .int x4), (5, .int x5), (6, .int x6)]) : W p l e ({ frames := 2, cells := 0, slots := 0, locals := 44 } : Room) s m args below meth c H locs 0 0 (MQ below (va_Qi (fun (r : Int32) (u : va_W) => o1 = r ∧ wF ty ad o2 = u) (kz_B D ty A) A) args s 0 0 A) (F0 m 18 ls []) := by
  have C0 := C
  obtain ⟨hx, hb, hr, hts, hown, hlocks, hml, hK, hN, hE, hA⟩ := C
  unfold zX8_mostAlike_s2_18b at h
  refine lv_iload hx hb dX8_mostAlike_18 (lv_at hl 6 rfl) ?_
  refine lv_aload_n hx hb dX8_mostAlike_20 rfl (lv_at hl 0 rfl) ?_
  refine va_get (D := D) (ci := 8) (v := .int (q.1 2 2)) (C := RX8) (T := TX8) (N := 5) hx hb hts u9_wsX8_mostAlike_X8 hown hK hP 2 rfl rfl 2 (by decide) (hts (.fieldLink RX8 18 "TurnedFloors$Tower" "floors" "I") f9_wsX8_mostAlike_910) (fun _ h9 => h9) rfl dX8_mostAlike_21 ?_
  refine lv_icmp_gt (tgt := 68) hx hb dX8_mostAlike_24 (by decide) (fun c9 => ?_) (fun c9 => ?_)
  · rw [if_pos c9] at h
    refine lv_iload_n hx hb dX8_mostAlike_68 rfl (lv_at hl 3 rfl) ?_
    refine lv_iload hx hb dX8_mostAlike_69 (lv_at hl 5 rfl) ?_
    refine va_mmax hx hb (hml.trans hl.1.symm) hown (hts (.methodLink RX8 88 Lib.Math.max.name) f9_wsX8_mostAlike_911) (hts (.static Lib.Math.max.name) f9_wsX8_mostAlike_912) (hts (.initialized "java/lang/Math") f9_wsX8_mostAlike_913) (hts (.code Lib.Math.max.name Lib.Math.max.code 2 (some .int)) f9_wsX8_mostAlike_914) (Nat.le_of_ble_eq_true rfl) (Nat.le_of_ble_eq_true rfl) (Nat.le_of_ble_eq_true rfl) (Nat.le_of_ble_eq_true rfl) dX8_mostAlike_71 ?_
    refine kz_topi (mxI x3 x5) rfl ?_
    refine lv_istore_n (lv' := [(3, .int (mxI x3 x5)), (0, .ref (ad 2)), (1, .int x1), (2, .int x2), (4, .int x4), (5, .int x5), (6, .int x6)]) hx hb dX8_mostAlike_74 rfl hl (by decide) rfl (fun ls hl => ?_)
    refine lv_iinc (v := x4 + 1) (lv' := [(4, .int (x4 + 1)), (3, .int (mxI x3 x5)), (0, .ref (ad 2)), (1, .int x1), (2, .int x2), (5, .int x5), (6, .int x6)]) hx hb dX8_mostAlike_75 hl (k := 4) rfl rfl (by decide) rfl (fun ls hl => ?_)
    refine lv_goto (tgt := 5) hx hb dX8_mostAlike_78 (by decide) ?_
    exact hk5 _ _ _ _ _ _ _ _ h hP hD hS (lv_sub hl [2, 3, 4, 1, 0] rfl)
  · rw [if_neg c9] at h
    refine lv_iload hx hb dX8_mostAlike_27 (lv_at hl 5 rfl) ?_
    refine lv_iload_n hx hb dX8_mostAlike_29 rfl (lv_at hl 1 rfl) ?_
    refine lv_iload hx hb dX8_mostAlike_30 (lv_at hl 6 rfl) ?_
    refine lv_ishr hx hb dX8_mostAlike_32 ?_
    refine lv_iconst (v := 1) hx hb dX8_mostAlike_33 (by decide) ?_
    refine lv_iand hx hb dX8_mostAlike_34 ?_
    refine lv_iconst (v := 1) hx hb dX8_mostAlike_35 (by decide) ?_
    refine lv_icmp_ne (tgt := 55) hx hb dX8_mostAlike_36 (by decide) (fun c9 => ?_) (fun c9 => ?_)
    · rw [if_neg c9] at h
      exact WX8_mostAlike_s2_55 C0 hk5 hk18 _ _ _ _ _ _ _ _ _ _ h hP hD hS (lv_sub hl [0, 1, 2, 3, 4, 6] rfl)
    · rw [if_pos c9] at h
      refine lv_aload_n hx hb dX8_mostAlike_39 rfl (lv_at hl 0 rfl) ?_
      refine lv_iload hx hb dX8_mostAlike_40 (lv_at hl 6 rfl) ?_
      refine lv_iload_n hx hb dX8_mostAlike_42 rfl (lv_at hl 2 rfl) ?_
      obtain ⟨r1, q3, h2, h⟩ := dB_some h
      refine dw_ki (va_runV (As := [.int x6, .int x2]) (rest := [.int x5]) ⟨hx, hb, hml, hown, hts⟩ (qX8_rankBehindTurn_s2 l D ty eo _ ad q x6 x2 r1 q3 h2) (cwV 2 hts gX8_mostAlike_X8_rankBehindTurn rfl rfl rfl (by decide +kernel) ⟨Nat.le_of_ble_eq_true rfl, Nat.le_of_ble_eq_true rfl⟩) (dw_preV (ci := 8) (q0 := 2) hK hN hE hP hD hS hA rfl rfl) rfl rfl hl.1 rfl (lv_room (Nat.le_of_ble_eq_true rfl)) dX8_mostAlike_43 ⟨Nat.le_of_ble_eq_true rfl, Nat.le_of_ble_eq_true rfl⟩) hD hS hA (fun r9 u9 H locs hw hp hd hs => ?_)
      clear hP hD hS
      obtain ⟨rfl, rfl⟩ := hw
      have hP := hp; have hD := hd; have hS := hs; clear hp hd hs
      refine lv_iload hx hb dX8_mostAlike_46 (lv_at hl 4 rfl) ?_
      refine lv_icmp_ne (tgt := 55) hx hb dX8_mostAlike_48 (by decide) (fun c9 => ?_) (fun c9 => ?_)
      · rw [if_neg c9] at h
        exact WX8_mostAlike_s2_55 C0 hk5 hk18 _ _ _ _ _ _ _ _ _ _ h hP hD hS (lv_sub hl [0, 1, 2, 3, 4, 6] rfl)
      · rw [if_pos c9] at h
        refine lv_iconst (v := 1) hx hb dX8_mostAlike_51 (by decide) ?_
        refine lv_goto (tgt := 56) hx hb dX8_mostAlike_52 (by decide) ?_
        exact WX8_mostAlike_s2_56 C0 hk5 hk18 _ _ _ _ _ _ _ _ _ _ _ h hP hD hS (lv_sub hl [0, 1, 2, 3, 4, 6] rfl)
set_option maxHeartbeats 4000000 in
set_option maxRecDepth 100000 in
theorem WX8_mostAlike_s2_18 {p : Program} {l : Launch} {e : Env} {s : State} {m : MethodId} {args : Array Value} {below : List Frame} {meth : Method} {c : Code} {D : va_G} {ty : Nat → ClassId} {eo : Nat → Nat} {A : Nat → Prop} {ad : Nat → Nat} {o1 : Int32} {o2 : dK} (C : dc_C p s m args meth c cX8_mostAlike (some .int) 7 RX8 wsX8_mostAlike D ty eo A) {k5 : dK → Int32 → Int32 → Int32 → Int32 → Option (Int32 × dK)} (hk5 : ∀ (q : dK) (x1 : Int32) (x2 : Int32) (x3 : Int32) (x4 : Int32) (H : Heap) (locs : List Loc) (ls : Array Slot), k5 q x1 x2 x3 x4 = some (o1, o2) → va_P D vwCl (wF ty ad q) H → va_D A (wF ty ad q) → va_S A s.heap H locs → lv_has ls 7 [(0, .ref (ad 2)), (1, .int x1), (2, .int x2), (3, .int x3), (4, .int x4)] → W p l e ({ frames := 2, cells := 0, slots := 0, locals := 44 } : Room) s m args below meth c H locs 0 0 (MQ below (va_Qi (fun (r : Int32) (u : va_W) => o1 = r ∧ wF ty ad o2 = u) (kz_B D ty A) A) args s 0 0 A) (F0 m 5 ls [])) (n : Nat) (q : dK) (x1 : Int32) (x2 : Int32) (x3 : Int32) (x4 : Int32) (x5 : Int32) (x6 : Int32) (H : Heap) (locs : List Loc) (ls : Array Slot) (h : zX8_mostAlike_s2_18 k5 n q x1 x2 x3 x4 x5 x6 = some (o1, o2)) (hP : va_P D vwCl (wF ty ad q) H) (hD : va_D A (wF ty ad q)) (hS : va_S A s.heap H locs) (hl : lv_has ls 7 [(0, .ref (ad 2)), (1, .int x1), (2, .int x2), (3, .int x3), (4, .int x4), (5, .int x5), (6, .int x6)]) : W p l e ({ frames := 2, cells := 0, slots := 0, locals := 44 } : Room) s m args below meth c H locs 0 0 (MQ below (va_Qi (fun (r : Int32) (u : va_W) => o1 = r ∧ wF ty ad o2 = u) (kz_B D ty A) A) args s 0 0 A) (F0 m 18 ls []) := by
  exact dFix_W (F := fun k (a : dK × Int32 × Int32 × Int32 × Int32 × Int32 × Int32) => zX8_mostAlike_s2_18b k5 (fun q x1 x2 x3 x4 x5 x6 => k (q, x1, x2, x3, x4, x5, x6)) a.1 a.2.1 a.2.2.1 a.2.2.2.1 a.2.2.2.2.1 a.2.2.2.2.2.1 a.2.2.2.2.2.2) (o := (o1, o2)) (P := fun (a : dK × Int32 × Int32 × Int32 × Int32 × Int32 × Int32) H locs ls => va_P D vwCl (wF ty ad a.1) H ∧ va_D A (wF ty ad a.1) ∧ va_S A s.heap H locs ∧ lv_has ls 7 [(0, .ref (ad 2)), (1, .int a.2.1), (2, .int a.2.2.1), (3, .int a.2.2.2.1), (4, .int a.2.2.2.2.1), (5, .int a.2.2.2.2.2.1), (6, .int a.2.2.2.2.2.2)]) (G := fun H locs ls => W p l e ({ frames := 2, cells := 0, slots := 0, locals := 44 } : Room) s m args below meth c H locs 0 0 (MQ below (va_Qi (fun (r : Int32) (u : va_W) => o1 = r ∧ wF ty ad o2 = u) (kz_B D ty A) A) args s 0 0 A) (F0 m 18 ls []))
    (fun k hk a H locs ls h hp => WX8_mostAlike_s2_18b C hk5 (fun q x1 x2 x3 x4 x5 x6 H locs ls h h1 h2 h3 h4 => hk (q, x1, x2, x3, x4, x5, x6) H locs ls h ⟨h1, h2, h3, h4⟩) a.1 a.2.1 a.2.2.1 a.2.2.2.1 a.2.2.2.2.1 a.2.2.2.2.2.1 a.2.2.2.2.2.2 H locs ls h hp.1 hp.2.1 hp.2.2.1 hp.2.2.2) n (q, x1, x2, x3, x4, x5, x6) H locs ls h ⟨hP, hD, hS, hl⟩
set_option maxHeartbeats 4000000 in
set_option maxRecDepth 100000 in
theorem WX8_mostAlike_s2_5b {p : Program} {l : Launch} {e : Env} {s : State} {m : MethodId} {args : Array Value} {below : List Frame} {meth : Method} {c : Code} {D : va_G} {ty : Nat → ClassId} {eo : Nat → Nat} {A : Nat → Prop} {ad : Nat → Nat} {o1 : Int32} {o2 : dK} (C : dc_C p s m args meth c cX8_mostAlike (some .int) 7 RX8 wsX8_mostAlike D ty eo A) {k5 : dK → Int32 → Int32 → Int32 → Int32 → Option (Int32 × dK)} (hk5 : ∀ (q : dK) (x1 : Int32) (x2 : Int32) (x3 : Int32) (x4 : Int32) (H : Heap) (locs : List Loc) (ls : Array Slot), k5 q x1 x2 x3 x4 = some (o1, o2) → va_P D vwCl (wF ty ad q) H → va_D A (wF ty ad q) → va_S A s.heap H locs → lv_has ls 7 [(0, .ref (ad 2)), (1, .int x1), (2, .int x2), (3, .int x3), (4, .int x4)] → W p l e ({ frames := 2, cells := 0, slots := 0, locals := 44 } : Room) s m args below meth c H locs 0 0 (MQ below (va_Qi (fun (r : Int32) (u : va_W) => o1 = r ∧ wF ty ad o2 = u) (kz_B D ty A) A) args s 0 0 A) (F0 m 5 ls [])) (q : dK) (x1 : Int32) (x2 : Int32) (x3 : Int32) (x4 : Int32) (H : Heap) (locs : List Loc) (ls : Array Slot) (h : zX8_mostAlike_s2_5b k5 q x1 x2 x3 x4 = some (o1, o2)) (hP : va_P D vwCl (wF ty ad q) H) (hD : va_D A (wF ty ad q)) (hS : va_S A s.heap H locs) (hl : lv_has ls 7 [(0, .ref (ad 2)), (1, .int x1), (2, .int x2), (3, .int x3), (4, .int x4)]) : W p l e ({ frames := 2, cells := 0, slots := 0, locals := 44 } : Room) s m args below meth c H locs 0 0 (MQ below (va_Qi (fun (r : Int32) (u : va_W) => o1 = r ∧ wF ty ad o2 = u) (kz_B D ty A) A) args s 0 0 A) (F0 m 5 ls []) := by
  have C0 := C
  obtain ⟨hx, hb, hr, hts, hown, hlocks, hml, hK, hN, hE, hA⟩ := C
  unfold zX8_mostAlike_s2_5b at h
  refine lv_iload hx hb dX8_mostAlike_5 (lv_at hl 4 rfl) ?_
  refine lv_bipush (v := 6) hx hb dX8_mostAlike_7 (by decide) ?_
  refine lv_icmp_ge (tgt := 81) hx hb dX8_mostAlike_9 (by decide) (fun c9 => ?_) (fun c9 => ?_)
  · rw [if_pos c9] at h
    refine lv_iload_n hx hb dX8_mostAlike_81 rfl (lv_at hl 3 rfl) ?_
    cases h
    exact kz_iret hx hb hr hlocks hP hK hD hS dX8_mostAlike_82 ⟨rfl, rfl⟩
  · rw [if_neg c9] at h
    refine lv_iconst (v := 0) hx hb dX8_mostAlike_12 (by decide) ?_
    refine lv_istore (lv' := [(5, .int 0), (0, .ref (ad 2)), (1, .int x1), (2, .int x2), (3, .int x3), (4, .int x4)]) hx hb dX8_mostAlike_13 hl (by decide) rfl (fun ls hl => ?_)
    refine lv_iconst (v := 1) hx hb dX8_mostAlike_15 (by decide) ?_
    refine lv_istore (lv' := [(6, .int 1), (5, .int 0), (0, .ref (ad 2)), (1, .int x1), (2, .int x2), (3, .int x3), (4, .int x4)]) hx hb dX8_mostAlike_16 hl (by decide) rfl (fun ls hl => ?_)
    exact WX8_mostAlike_s2_18 C0 hk5 _ _ _ _ _ _ _ _ _ _ _ h hP hD hS (lv_sub hl [2, 3, 4, 5, 6, 1, 0] rfl)
set_option maxHeartbeats 4000000 in
set_option maxRecDepth 100000 in
theorem WX8_mostAlike_s2_5 {p : Program} {l : Launch} {e : Env} {s : State} {m : MethodId} {args : Array Value} {below : List Frame} {meth : Method} {c : Code} {D : va_G} {ty : Nat → ClassId} {eo : Nat → Nat} {A : Nat → Prop} {ad : Nat → Nat} {o1 : Int32} {o2 : dK} (C : dc_C p s m args meth c cX8_mostAlike (some .int) 7 RX8 wsX8_mostAlike D ty eo A)   (n : Nat) (q : dK) (x1 : Int32) (x2 : Int32) (x3 : Int32) (x4 : Int32) (H : Heap) (locs : List Loc) (ls : Array Slot) (h : zX8_mostAlike_s2_5  n q x1 x2 x3 x4 = some (o1, o2)) (hP : va_P D vwCl (wF ty ad q) H) (hD : va_D A (wF ty ad q)) (hS : va_S A s.heap H locs) (hl : lv_has ls 7 [(0, .ref (ad 2)), (1, .int x1), (2, .int x2), (3, .int x3), (4, .int x4)]) : W p l e ({ frames := 2, cells := 0, slots := 0, locals := 44 } : Room) s m args below meth c H locs 0 0 (MQ below (va_Qi (fun (r : Int32) (u : va_W) => o1 = r ∧ wF ty ad o2 = u) (kz_B D ty A) A) args s 0 0 A) (F0 m 5 ls []) := by
  exact dFix_W (F := fun k (a : dK × Int32 × Int32 × Int32 × Int32) => zX8_mostAlike_s2_5b  (fun q x1 x2 x3 x4 => k (q, x1, x2, x3, x4)) a.1 a.2.1 a.2.2.1 a.2.2.2.1 a.2.2.2.2) (o := (o1, o2)) (P := fun (a : dK × Int32 × Int32 × Int32 × Int32) H locs ls => va_P D vwCl (wF ty ad a.1) H ∧ va_D A (wF ty ad a.1) ∧ va_S A s.heap H locs ∧ lv_has ls 7 [(0, .ref (ad 2)), (1, .int a.2.1), (2, .int a.2.2.1), (3, .int a.2.2.2.1), (4, .int a.2.2.2.2)]) (G := fun H locs ls => W p l e ({ frames := 2, cells := 0, slots := 0, locals := 44 } : Room) s m args below meth c H locs 0 0 (MQ below (va_Qi (fun (r : Int32) (u : va_W) => o1 = r ∧ wF ty ad o2 = u) (kz_B D ty A) A) args s 0 0 A) (F0 m 5 ls []))
    (fun k hk a H locs ls h hp => WX8_mostAlike_s2_5b C  (fun q x1 x2 x3 x4 H locs ls h h1 h2 h3 h4 => hk (q, x1, x2, x3, x4) H locs ls h ⟨h1, h2, h3, h4⟩) a.1 a.2.1 a.2.2.1 a.2.2.2.1 a.2.2.2.2 H locs ls h hp.1 hp.2.1 hp.2.2.1 hp.2.2.2) n (q, x1, x2, x3, x4) H locs ls h ⟨hP, hD, hS, hl⟩
set_option maxHeartbeats 4000000 in
set_option maxRecDepth 100000 in
theorem qX8_mostAlike_s2 (l : Launch) (D : va_G) (ty : Nat → ClassId) (eo : Nat → Nat) (sz : Nat) (ad : Nat → Nat) (q : dK) (p1 : Int32) (p2 : Int32) (o1 : Int32) (o2 : dK) (h : zX8_mostAlike_s2 q p1 p2 = some (o1, o2)) : Met l yX8_mostAlike wsX8_mostAlike ({ frames := 2, cells := 0, slots := 0, locals := 44 } : Room) (va_Pc [.ref (ad 2), .int p1, .int p2] (kz_pre D ty eo (wF ty ad q) sz)) (va_Qi (fun (r : Int32) (u : va_W) => o1 = r ∧ wF ty ad o2 = u) (kz_B D ty (va_A (wF ty ad q) sz)) (va_A (wF ty ad q) sz)) 0 0 (va_A (wF ty ad q) sz) := by
  refine Met.ofW (cc := cX8_mostAlike) (maxL := 7) (ret := (some .int)) (by decide) rfl ?_
  intro p e s m args below meth c s₁ B hml hv
  obtain ⟨rfl, hsz, hP, hK, hD0, hN, hE⟩ := hv
  have hx := B.exec
  have hb := B.bytes
  have hr := B.returns
  have hts := atoms_spec (ws := wsX8_mostAlike) B.pre
  have hown : s.vm.findClass RX8 = some m.cls := findClass_of_methodNamed B.named
  have hlocks := B.notSynchronized
  subst hsz
  have hD := hD0.self (sz := s.heap.size)
  generalize hAe : va_A (wF ty ad q) s.heap.size = A at hD hE ⊢
  have hA : ∀ q : Nat, s.heap.size ≤ q → A q := fun q h => by rw [← hAe]; exact Or.inr h
  clear hAe
  have hS : va_S A s.heap s.heap [] := va_S.rf
  have hl := lv_entry ([.ref (ad 2), .int p1, .int p2]) (n := 7) (Nat.le_of_ble_eq_true rfl)
  rw [lg_entry_eq]
  generalize (lg_sl ([.ref (ad 2), .int p1, .int p2]) ++ List.replicate (7 - (lg_sl ([.ref (ad 2), .int p1, .int p2])).length) Slot.unset).toArray = ls at hl ⊢
  have hl : lv_has ls 7 [(0, .ref (ad 2)), (1, .int p1), (2, .int p2)] := hl
  have C : dc_C p s m _ meth c cX8_mostAlike (some .int) 7 RX8 wsX8_mostAlike D ty eo A := ⟨hx, hb, hr, hts, hown, hlocks, hml, hK, hN, hE, hA⟩
  unfold zX8_mostAlike_s2 at h
  refine lv_iconst (v := 0) hx hb dX8_mostAlike_0 (by decide) ?_
  refine lv_istore_n (lv' := [(3, .int 0), (0, .ref (ad 2)), (1, .int p1), (2, .int p2)]) hx hb dX8_mostAlike_1 rfl hl (by decide) rfl (fun ls hl => ?_)
  refine lv_iconst (v := 0) hx hb dX8_mostAlike_2 (by decide) ?_
  refine lv_istore (lv' := [(4, .int 0), (3, .int 0), (0, .ref (ad 2)), (1, .int p1), (2, .int p2)]) hx hb dX8_mostAlike_3 hl (by decide) rfl (fun ls hl => ?_)
  exact WX8_mostAlike_s2_5 C  _ _ _ _ _ _ _ _ _ h hP hD hS (lv_sub hl [2, 3, 4, 1, 0] rfl)

set_option maxHeartbeats 4000000 in
set_option maxRecDepth 100000 in
theorem WX9_look_s0_97 {p : Program} {l : Launch} {e : Env} {s : State} {m : MethodId} {args : Array Value} {below : List Frame} {meth : Method} {c : Code} {D : va_G} {ty : Nat → ClassId} {eo : Nat → Nat} {A : Nat → Prop} {ad : Nat → Nat} {o1 : Int32} {o2 : dK} (C : dc_C p s m args meth c cX9_look (some .int) 7 RX9 wsX9_look D ty eo A)   (q : dK) (y0 : Int32) (H : Heap) (locs : List Loc) (ls : Array Slot) (h : zX9_look_s0_97  q y0 = some (o1, o2)) (hP : va_P D vwCl (wF ty ad q) H) (hD : va_D A (wF ty ad q)) (hS : va_S A s.heap H locs) (hl : lv_has ls 7 []) : W p l e ({ frames := 5, cells := 0, slots := 0, locals := 126 } : Room) s m args below meth c H locs 0 0 (MQ below (va_Qi (fun (r : Int32) (u : va_W) => o1 = r ∧ wF ty ad o2 = u) (kz_B D ty A) A) args s 0 0 A) (F0 m 97 ls [.int y0]) := by
  have C0 := C
  obtain ⟨hx, hb, hr, hts, hown, hlocks, hml, hK, hN, hE, hA⟩ := C
  unfold zX9_look_s0_97 at h
  cases h
  exact kz_iret hx hb hr hlocks hP hK hD hS dX9_look_97 ⟨rfl, rfl⟩
set_option maxHeartbeats 4000000 in
set_option maxRecDepth 100000 in
theorem WX9_look_s0_81 {p : Program} {l : Launch} {e : Env} {s : State} {m : MethodId} {args : Array Value} {below : List Frame} {meth : Method} {c : Code} {D : va_G} {ty : Nat → ClassId} {eo : Nat → Nat} {A : Nat → Prop} {ad : Nat → Nat} {o1 : Int32} {o2 : dK} (C : dc_C p s m args meth c cX9_look (some .int) 7 RX9 wsX9_look D ty eo A) {k37 : dK → Int32 → Int32 → Int32 → Int32 → Int32 → Option (Int32 × dK)} (hk37 : ∀ (q : dK) (x1 : Int32) (x2 : Int32) (x3 : Int32) (x4 : Int32) (x5 : Int32) (H : Heap) (locs : List Loc) (ls : Array Slot), k37 q x1 x2 x3 x4 x5 = some (o1, o2) → va_P D vwCl (wF ty ad q) H → va_D A (wF ty ad q) → va_S A s.heap H locs → lv_has ls 7 [(0, .ref (ad 0)), (1, .int x1), (2, .int x2), (3, .int x3), (4, .int x4), (5, .int x5)] → W p l e ({ frames := 5, cells := 0, slots := 0, locals := 126 } : Room) s m args below meth c H locs 0 0 (MQ below (va_Qi (fun (r : Int32) (u : va_W) => o1 = r ∧ wF ty ad o2 = u) (kz_B D ty A) A) args s 0 0 A) (F0 m 37 ls [])) (q : dK) (x1 : Int32) (x2 : Int32) (x3 : Int32) (x4 : Int32) (x5 : Int32) (H : Heap) (locs : List Loc) (ls : Array Slot) (h : zX9_look_s0_81 k37 q x1 x2 x3 x4 x5 = some (o1, o2)) (hP : va_P D vwCl (wF ty ad q) H) (hD : va_D A (wF ty ad q)) (hS : va_S A s.heap H locs) (hl : lv_has ls 7 [(0, .ref (ad 0)), (1, .int x1), (2, .int x2), (3, .int x3), (4, .int x4), (5, .int x5)]) : W p l e ({ frames := 5, cells := 0, slots := 0, locals := 126 } : Room) s m args below meth c H locs 0 0 (MQ below (va_Qi (fun (r : Int32) (u : va_W) => o1 = r ∧ wF ty ad o2 = u) (kz_B D ty A) A) args s 0 0 A) (F0 m 81 ls []) := by
  have C0 := C
  obtain ⟨hx, hb, hr, hts, hown, hlocks, hml, hK, hN, hE, hA⟩ := C
  unfold zX9_look_s0_81 at h
  refine lv_iinc (v := x5 + 1) (lv' := [(5, .int (x5 + 1)), (0, .ref (ad 0)), (1, .int x1), (2, .int x2), (3, .int x3), (4, .int x4)]) hx hb dX9_look_81 hl (k := 5) rfl rfl (by decide) rfl (fun ls hl => ?_)
  refine lv_goto (tgt := 37) hx hb dX9_look_84 (by decide) ?_
  exact hk37 _ _ _ _ _ _ _ _ _ h hP hD hS (lv_sub hl [1, 2, 3, 4, 5, 0] rfl)
set_option maxHeartbeats 4000000 in
set_option maxRecDepth 100000 in
theorem WX9_look_s0_37b {p : Program} {l : Launch} {e : Env} {s : State} {m : MethodId} {args : Array Value} {below : List Frame} {meth : Method} {c : Code} {D : va_G} {ty : Nat → ClassId} {eo : Nat → Nat} {A : Nat → Prop} {ad : Nat → Nat} {o1 : Int32} {o2 : dK} (C : dc_C p s m args meth c cX9_look (some .int) 7 RX9 wsX9_look D ty eo A) {k37 : dK → Int32 → Int32 → Int32 → Int32 → Int32 → Option (Int32 × dK)} (hk37 : ∀ (q : dK) (x1 : Int32) (x2 : Int32) (x3 : Int32) (x4 : Int32) (x5 : Int32) (H : Heap) (locs : List Loc) (ls : Array Slot), k37 q x1 x2 x3 x4 x5 = some (o1, o2) → va_P D vwCl (wF ty ad q) H → va_D A (wF ty ad q) → va_S A s.heap H locs → lv_has ls 7 [(0, .ref (ad 0)), (1, .int x1), (2, .int x2), (3, .int x3), (4, .int x4), (5, .int x5)] → W p l e ({ frames := 5, cells := 0, slots := 0, locals := 126 } : Room) s m args below meth c H locs 0 0 (MQ below (va_Qi (fun (r : Int32) (u : va_W) => o1 = r ∧ wF ty ad o2 = u) (kz_B D ty A) A) args s 0 0 A) (F0 m 37 ls [])) (q : dK) (x1 : Int32) (x2 : Int32) (x3 : Int32) (x4 : Int32) (x5 : Int32) (H : Heap) (locs : List Loc) (ls : Array Slot) (h : zX9_look_s0_37b k37 q x1 x2 x3 x4 x5 = some (o1, o2)) (hP : va_P D vwCl (wF ty ad q) H) (hD : va_D A (wF ty ad q)) (hS : va_S A s.heap H locs) (hl : lv_has ls 7 [(0, .ref (ad 0)), (1, .int x1), (2, .int x2), (3, .int x3), (4, .int x4), (5, .int x5)]) : W p l e ({ frames := 5, cells := 0, slots := 0, locals := 126 } : Room) s m args below meth c H locs 0 0 (MQ below (va_Qi (fun (r : Int32) (u : va_W) => o1 = r ∧ wF ty ad o2 = u) (kz_B D ty A) A) args s 0 0 A) (F0 m 37 ls []) := by
  have C0 := C
  obtain ⟨hx, hb, hr, hts, hown, hlocks, hml, hK, hN, hE, hA⟩ := C
  unfold zX9_look_s0_37b at h
  refine lv_iload hx hb dX9_look_37 (lv_at hl 5 rfl) ?_
  refine lv_aload_n hx hb dX9_look_39 rfl (lv_at hl 0 rfl) ?_
  refine va_get (D := D) (ci := 9) (v := .ref (ad 1)) (C := RX9) (T := TX9) (N := 19) hx hb hts u9_wsX9_look_X9 hown hK hP 0 rfl rfl 0 (by decide) (hts (.fieldLink RX9 10 "TurnedFloors" "state" "LTurnedFloors$State;") f9_wsX9_look_918) (fun _ h9 => h9) rfl dX9_look_40 ?_
  refine va_getN (D := D) (ci := 6) (v := .ref (ad 2)) (C := RX6) (T := TX6) (N := 10) hx hb hts u9_wsX9_look_X6 hown hK hP 1 rfl rfl 0 (by decide) (hN.use (.fieldLinkNest "TurnedFloors" 122 "TurnedFloors$State" "tower" "LTurnedFloors$Tower;" "TurnedFloors") (by decide +kernel)) (fun _ h9 => h9) rfl dX9_look_43 ?_
  refine va_getN (D := D) (ci := 8) (v := .int (q.1 2 2)) (C := RX8) (T := TX8) (N := 5) hx hb hts u9_wsX9_look_X8 hown hK hP 2 rfl rfl 2 (by decide) (hN.use (.fieldLinkNest "TurnedFloors" 135 "TurnedFloors$Tower" "floors" "I" "TurnedFloors") (by decide +kernel)) (fun _ h9 => h9) rfl dX9_look_46 ?_
  refine lv_icmp_ge (tgt := 87) hx hb dX9_look_49 (by decide) (fun c9 => ?_) (fun c9 => ?_)
  · rw [if_pos c9] at h
    refine lv_iload_n hx hb dX9_look_87 rfl (lv_at hl 1 rfl) ?_
    refine lv_if_ne (tgt := 95) hx hb dX9_look_88 (by decide) (fun c9 => ?_) (fun c9 => ?_)
    · rw [if_neg c9] at h
      refine lv_iload hx hb dX9_look_95 (lv_at hl 4 rfl) ?_
      exact WX9_look_s0_97 C0  _ _ _ _ _ h hP hD hS (lv_sub hl [] rfl)
    · rw [if_pos c9] at h
      refine lv_iload_n hx hb dX9_look_91 rfl (lv_at hl 3 rfl) ?_
      refine lv_goto (tgt := 97) hx hb dX9_look_92 (by decide) ?_
      exact WX9_look_s0_97 C0  _ _ _ _ _ h hP hD hS (lv_sub hl [] rfl)
  · rw [if_neg c9] at h
    refine lv_aload_n hx hb dX9_look_52 rfl (lv_at hl 0 rfl) ?_
    refine va_get (D := D) (ci := 9) (v := .ref (ad 1)) (C := RX9) (T := TX9) (N := 19) hx hb hts u9_wsX9_look_X9 hown hK hP 0 rfl rfl 0 (by decide) (hts (.fieldLink RX9 10 "TurnedFloors" "state" "LTurnedFloors$State;") f9_wsX9_look_918) (fun _ h9 => h9) rfl dX9_look_53 ?_
    refine va_getN (D := D) (ci := 6) (v := .ref (ad 2)) (C := RX6) (T := TX6) (N := 10) hx hb hts u9_wsX9_look_X6 hown hK hP 1 rfl rfl 0 (by decide) (hN.use (.fieldLinkNest "TurnedFloors" 122 "TurnedFloors$State" "tower" "LTurnedFloors$Tower;" "TurnedFloors") (by decide +kernel)) (fun _ h9 => h9) rfl dX9_look_56 ?_
    refine lv_iload_n hx hb dX9_look_59 rfl (lv_at hl 2 rfl) ?_
    refine lv_iload hx hb dX9_look_60 (lv_at hl 5 rfl) ?_
    obtain ⟨r1, q3, h2, h⟩ := dB_some h
    refine dw_ki (va_runV (As := [.int x2, .int x5]) (rest := []) ⟨hx, hb, hml, hown, hts⟩ (qX8_mostAlike_s2 l D ty eo _ ad q x2 x5 r1 q3 h2) (cwV 2 hts gX9_look_X8_mostAlike rfl rfl rfl (by decide +kernel) ⟨Nat.le_of_ble_eq_true rfl, Nat.le_of_ble_eq_true rfl⟩) (dw_preV (ci := 8) (q0 := 2) hK hN hE hP hD hS hA rfl rfl) rfl rfl hl.1 rfl (lv_room (Nat.le_of_ble_eq_true rfl)) dX9_look_62 ⟨Nat.le_of_ble_eq_true rfl, Nat.le_of_ble_eq_true rfl⟩) hD hS hA (fun r9 u9 H locs hw hp hd hs => ?_)
    clear hP hD hS
    obtain ⟨rfl, rfl⟩ := hw
    have hP := hp; have hD := hd; have hS := hs; clear hp hd hs
    refine lv_istore (lv' := [(6, .int r1), (0, .ref (ad 0)), (1, .int x1), (2, .int x2), (3, .int x3), (4, .int x4), (5, .int x5)]) hx hb dX9_look_65 hl (by decide) rfl (fun ls hl => ?_)
    refine lv_iload hx hb dX9_look_67 (lv_at hl 0 rfl) ?_
    refine lv_iload hx hb dX9_look_69 (lv_at hl 5 rfl) ?_
    refine lv_icmp_ge (tgt := 81) hx hb dX9_look_71 (by decide) (fun c9 => ?_) (fun c9 => ?_)
    · rw [if_pos c9] at h
      exact WX9_look_s0_81 C0 hk37 _ _ _ _ _ _ _ _ _ h hP hD hS (lv_sub hl [1, 2, 3, 4, 5, 6] rfl)
    · rw [if_neg c9] at h
      refine lv_iload hx hb dX9_look_74 (lv_at hl 0 rfl) ?_
      refine lv_istore (lv' := [(4, .int r1), (6, .int r1), (0, .ref (ad 0)), (1, .int x1), (2, .int x2), (3, .int x3), (5, .int x5)]) hx hb dX9_look_76 hl (by decide) rfl (fun ls hl => ?_)
      refine lv_iload hx hb dX9_look_78 (lv_at hl 6 rfl) ?_
      refine lv_istore_n (lv' := [(3, .int x5), (4, .int r1), (6, .int r1), (0, .ref (ad 0)), (1, .int x1), (2, .int x2), (5, .int x5)]) hx hb dX9_look_80 rfl hl (by decide) rfl (fun ls hl => ?_)
      exact WX9_look_s0_81 C0 hk37 _ _ _ _ _ _ _ _ _ h hP hD hS (lv_sub hl [3, 4, 5, 0, 1, 6] rfl)
set_option maxHeartbeats 4000000 in
set_option maxRecDepth 100000 in
theorem WX9_look_s0_37 {p : Program} {l : Launch} {e : Env} {s : State} {m : MethodId} {args : Array Value} {below : List Frame} {meth : Method} {c : Code} {D : va_G} {ty : Nat → ClassId} {eo : Nat → Nat} {A : Nat → Prop} {ad : Nat → Nat} {o1 : Int32} {o2 : dK} (C : dc_C p s m args meth c cX9_look (some .int) 7 RX9 wsX9_look D ty eo A)   (n : Nat) (q : dK) (x1 : Int32) (x2 : Int32) (x3 : Int32) (x4 : Int32) (x5 : Int32) (H : Heap) (locs : List Loc) (ls : Array Slot) (h : zX9_look_s0_37  n q x1 x2 x3 x4 x5 = some (o1, o2)) (hP : va_P D vwCl (wF ty ad q) H) (hD : va_D A (wF ty ad q)) (hS : va_S A s.heap H locs) (hl : lv_has ls 7 [(0, .ref (ad 0)), (1, .int x1), (2, .int x2), (3, .int x3), (4, .int x4), (5, .int x5)]) : W p l e ({ frames := 5, cells := 0, slots := 0, locals := 126 } : Room) s m args below meth c H locs 0 0 (MQ below (va_Qi (fun (r : Int32) (u : va_W) => o1 = r ∧ wF ty ad o2 = u) (kz_B D ty A) A) args s 0 0 A) (F0 m 37 ls []) := by
  exact dFix_W (F := fun k (a : dK × Int32 × Int32 × Int32 × Int32 × Int32) => zX9_look_s0_37b  (fun q x1 x2 x3 x4 x5 => k (q, x1, x2, x3, x4, x5)) a.1 a.2.1 a.2.2.1 a.2.2.2.1 a.2.2.2.2.1 a.2.2.2.2.2) (o := (o1, o2)) (P := fun (a : dK × Int32 × Int32 × Int32 × Int32 × Int32) H locs ls => va_P D vwCl (wF ty ad a.1) H ∧ va_D A (wF ty ad a.1) ∧ va_S A s.heap H locs ∧ lv_has ls 7 [(0, .ref (ad 0)), (1, .int a.2.1), (2, .int a.2.2.1), (3, .int a.2.2.2.1), (4, .int a.2.2.2.2.1), (5, .int a.2.2.2.2.2)]) (G := fun H locs ls => W p l e ({ frames := 5, cells := 0, slots := 0, locals := 126 } : Room) s m args below meth c H locs 0 0 (MQ below (va_Qi (fun (r : Int32) (u : va_W) => o1 = r ∧ wF ty ad o2 = u) (kz_B D ty A) A) args s 0 0 A) (F0 m 37 ls []))
    (fun k hk a H locs ls h hp => WX9_look_s0_37b C  (fun q x1 x2 x3 x4 x5 H locs ls h h1 h2 h3 h4 => hk (q, x1, x2, x3, x4, x5) H locs ls h ⟨h1, h2, h3, h4⟩) a.1 a.2.1 a.2.2.1 a.2.2.2.1 a.2.2.2.2.1 a.2.2.2.2.2 H locs ls h hp.1 hp.2.1 hp.2.2.1 hp.2.2.2) n (q, x1, x2, x3, x4, x5) H locs ls h ⟨hP, hD, hS, hl⟩
set_option maxHeartbeats 4000000 in
set_option maxRecDepth 100000 in
theorem WX9_look_s0_16 {p : Program} {l : Launch} {e : Env} {s : State} {m : MethodId} {args : Array Value} {below : List Frame} {meth : Method} {c : Code} {D : va_G} {ty : Nat → ClassId} {eo : Nat → Nat} {A : Nat → Prop} {ad : Nat → Nat} {o1 : Int32} {o2 : dK} (C : dc_C p s m args meth c cX9_look (some .int) 7 RX9 wsX9_look D ty eo A)   (q : dK)  (H : Heap) (locs : List Loc) (ls : Array Slot) (h : zX9_look_s0_16  q = some (o1, o2)) (hP : va_P D vwCl (wF ty ad q) H) (hD : va_D A (wF ty ad q)) (hS : va_S A s.heap H locs) (hl : lv_has ls 7 []) : W p l e ({ frames := 5, cells := 0, slots := 0, locals := 126 } : Room) s m args below meth c H locs 0 0 (MQ below (va_Qi (fun (r : Int32) (u : va_W) => o1 = r ∧ wF ty ad o2 = u) (kz_B D ty A) A) args s 0 0 A) (F0 m 16 ls []) := by
  have C0 := C
  obtain ⟨hx, hb, hr, hts, hown, hlocks, hml, hK, hN, hE, hA⟩ := C
  unfold zX9_look_s0_16 at h
  refine lv_iconst (v := (-1)) hx hb dX9_look_16 (by decide) ?_
  cases h
  exact kz_iret hx hb hr hlocks hP hK hD hS dX9_look_17 ⟨rfl, rfl⟩
set_option maxHeartbeats 4000000 in
set_option maxRecDepth 100000 in
theorem qX9_look_s0 (l : Launch) (D : va_G) (ty : Nat → ClassId) (eo : Nat → Nat) (sz : Nat) (ad : Nat → Nat) (q : dK) (p1 : Int32) (o1 : Int32) (o2 : dK) (h : zX9_look_s0 q p1 = some (o1, o2)) : Met l yX9_look wsX9_look ({ frames := 5, cells := 0, slots := 0, locals := 126 } : Room) (va_Pc [.ref (ad 0), .int p1] (kz_pre D ty eo (wF ty ad q) sz)) (va_Qi (fun (r : Int32) (u : va_W) => o1 = r ∧ wF ty ad o2 = u) (kz_B D ty (va_A (wF ty ad q) sz)) (va_A (wF ty ad q) sz)) 0 0 (va_A (wF ty ad q) sz) := by
  refine Met.ofW (cc := cX9_look) (maxL := 7) (ret := (some .int)) (by decide) rfl ?_
  intro p e s m args below meth c s₁ B hml hv
  obtain ⟨rfl, hsz, hP, hK, hD0, hN, hE⟩ := hv
  have hx := B.exec
  have hb := B.bytes
  have hr := B.returns
  have hts := atoms_spec (ws := wsX9_look) B.pre
  have hown : s.vm.findClass RX9 = some m.cls := findClass_of_methodNamed B.named
  have hlocks := B.notSynchronized
  subst hsz
  have hD := hD0.self (sz := s.heap.size)
  generalize hAe : va_A (wF ty ad q) s.heap.size = A at hD hE ⊢
  have hA : ∀ q : Nat, s.heap.size ≤ q → A q := fun q h => by rw [← hAe]; exact Or.inr h
  clear hAe
  have hS : va_S A s.heap s.heap [] := va_S.rf
  have hl := lv_entry ([.ref (ad 0), .int p1]) (n := 7) (Nat.le_of_ble_eq_true rfl)
  rw [lg_entry_eq]
  generalize (lg_sl ([.ref (ad 0), .int p1]) ++ List.replicate (7 - (lg_sl ([.ref (ad 0), .int p1])).length) Slot.unset).toArray = ls at hl ⊢
  have hl : lv_has ls 7 [(0, .ref (ad 0)), (1, .int p1)] := hl
  have C : dc_C p s m _ meth c cX9_look (some .int) 7 RX9 wsX9_look D ty eo A := ⟨hx, hb, hr, hts, hown, hlocks, hml, hK, hN, hE, hA⟩
  unfold zX9_look_s0 at h
  refine lv_aload_n hx hb dX9_look_0 rfl (lv_at hl 0 rfl) ?_
  obtain ⟨r1, q3, h2, h⟩ := dB_some h
  refine dw_ki (va_runV (As := []) (rest := []) ⟨hx, hb, hml, hown, hts⟩ (qX9_was_s0 l D ty eo _ ad q  r1 q3 h2) (cwV 0 hts gX9_look_X9_was rfl rfl rfl (by decide +kernel) ⟨Nat.le_of_ble_eq_true rfl, Nat.le_of_ble_eq_true rfl⟩) (dw_preV (ci := 9) (q0 := 0) hK hN hE hP hD hS hA rfl rfl) rfl rfl hl.1 rfl (lv_room (Nat.le_of_ble_eq_true rfl)) dX9_look_1 ⟨Nat.le_of_ble_eq_true rfl, Nat.le_of_ble_eq_true rfl⟩) hD hS hA (fun r9 u9 H locs hw hp hd hs => ?_)
  clear hP hD hS
  obtain ⟨rfl, rfl⟩ := hw
  have hP := hp; have hD := hd; have hS := hs; clear hp hd hs
  refine lv_istore_n (lv' := [(2, .int r1), (0, .ref (ad 0)), (1, .int p1)]) hx hb dX9_look_4 rfl hl (by decide) rfl (fun ls hl => ?_)
  refine lv_iload_n hx hb dX9_look_5 rfl (lv_at hl 0 rfl) ?_
  refine lv_if_eq (tgt := 16) hx hb dX9_look_6 (by decide) (fun c9 => ?_) (fun c9 => ?_)
  · rw [if_pos c9] at h
    exact WX9_look_s0_16 C  _ _ _ _ h hP hD hS (lv_sub hl [] rfl)
  · rw [if_neg c9] at h
    refine lv_iload_n hx hb dX9_look_9 rfl (lv_at hl 2 rfl) ?_
    obtain ⟨r4, h5, h⟩ := dV_some h
    refine dw_ks (va_runS (As := [.int p1]) (rest := []) ⟨hx, hb, hml, hown, hts⟩ (qX9_isBit l D ty eo _ p1 _ h5) (va_cwS 1 hts gX9_look_X9_isBit rfl rfl rfl (by decide +kernel) ⟨Nat.le_of_ble_eq_true rfl, Nat.le_of_ble_eq_true rfl⟩) (kz_preS hK hN hE hP hD hS hA [] (by decide) rfl) rfl rfl hl.1 rfl (lv_room (Nat.le_of_ble_eq_true rfl)) dX9_look_10 ⟨Nat.le_of_ble_eq_true rfl, Nat.le_of_ble_eq_true rfl⟩) hP hD hS hA (fun _ _ h9 => h9.2.symm) (fun r9 u9 H locs hw hp hd hs => ?_)
    obtain ⟨rfl, -⟩ := hw
    clear hP hD hS
    have hP := hp; have hD := hd; have hS := hs; clear hp hd hs
    refine lv_if_ne (tgt := 18) hx hb dX9_look_13 (by decide) (fun c9 => ?_) (fun c9 => ?_)
    · rw [if_neg c9] at h
      refine lv_iconst (v := 0) hx hb dX9_look_18 (by decide) ?_
      refine lv_istore_n (lv' := [(3, .int 0), (2, .int r1), (0, .ref (ad 0)), (1, .int p1)]) hx hb dX9_look_19 rfl hl (by decide) rfl (fun ls hl => ?_)
      refine lv_aload_n hx hb dX9_look_20 rfl (lv_at hl 2 rfl) ?_
      refine va_get (D := D) (ci := 9) (v := .ref (ad 1)) (C := RX9) (T := TX9) (N := 19) hx hb hts u9_wsX9_look_X9 hown hK hP 0 rfl rfl 0 (by decide) (hts (.fieldLink RX9 10 "TurnedFloors" "state" "LTurnedFloors$State;") f9_wsX9_look_918) (fun _ h9 => h9) rfl dX9_look_21 ?_
      refine va_getN (D := D) (ci := 6) (v := .ref (ad 2)) (C := RX6) (T := TX6) (N := 10) hx hb hts u9_wsX9_look_X6 hown hK hP 1 rfl rfl 0 (by decide) (hN.use (.fieldLinkNest "TurnedFloors" 122 "TurnedFloors$State" "tower" "LTurnedFloors$Tower;" "TurnedFloors") (by decide +kernel)) (fun _ h9 => h9) rfl dX9_look_24 ?_
      refine lv_iload_n hx hb dX9_look_27 rfl (lv_at hl 1 rfl) ?_
      refine lv_iconst (v := 0) hx hb dX9_look_28 (by decide) ?_
      obtain ⟨r6, q8, h7, h⟩ := dB_some h
      refine dw_ki (va_runV (As := [.int r1, .int 0]) (rest := []) ⟨hx, hb, hml, hown, hts⟩ (qX8_mostAlike_s2 l D ty eo _ ad q3 r1 0 r6 q8 h7) (cwV 2 hts gX9_look_X8_mostAlike rfl rfl rfl (by decide +kernel) ⟨Nat.le_of_ble_eq_true rfl, Nat.le_of_ble_eq_true rfl⟩) (dw_preV (ci := 8) (q0 := 2) hK hN hE hP hD hS hA rfl rfl) rfl rfl hl.1 rfl (lv_room (Nat.le_of_ble_eq_true rfl)) dX9_look_29 ⟨Nat.le_of_ble_eq_true rfl, Nat.le_of_ble_eq_true rfl⟩) hD hS hA (fun r9 u9 H locs hw hp hd hs => ?_)
      clear hP hD hS
      obtain ⟨rfl, rfl⟩ := hw
      have hP := hp; have hD := hd; have hS := hs; clear hp hd hs
      refine lv_istore (lv' := [(4, .int r6), (3, .int 0), (2, .int r1), (0, .ref (ad 0)), (1, .int p1)]) hx hb dX9_look_32 hl (by decide) rfl (fun ls hl => ?_)
      refine lv_iconst (v := 1) hx hb dX9_look_34 (by decide) ?_
      refine lv_istore (lv' := [(5, .int 1), (4, .int r6), (3, .int 0), (2, .int r1), (0, .ref (ad 0)), (1, .int p1)]) hx hb dX9_look_35 hl (by decide) rfl (fun ls hl => ?_)
      exact WX9_look_s0_37 C  _ _ _ _ _ _ _ _ _ _ h hP hD hS (lv_sub hl [4, 5, 3, 2, 1, 0] rfl)
    · rw [if_pos c9] at h
      exact WX9_look_s0_16 C  _ _ _ _ h hP hD hS (lv_sub hl [] rfl)

set_option maxHeartbeats 4000000 in
set_option maxRecDepth 100000 in
theorem WX9_few_s0_146b {p : Program} {l : Launch} {e : Env} {s : State} {m : MethodId} {args : Array Value} {below : List Frame} {meth : Method} {c : Code} {D : va_G} {ty : Nat → ClassId} {eo : Nat → Nat} {A : Nat → Prop} {ad : Nat → Nat} {o1 : Int64} {o2 : dK} (C : dc_C p s m args meth c cX9_few (some .long) 9 RX9 wsX9_few D ty eo A) {k146 : dK → Int32 → Int64 → Int32 → Option (Int64 × dK)} (hk146 : ∀ (q : dK) (x1 : Int32) (x3 : Int64) (x5 : Int32) (H : Heap) (locs : List Loc) (ls : Array Slot), k146 q x1 x3 x5 = some (o1, o2) → va_P D vwCl (wF ty ad q) H → va_D A (wF ty ad q) → va_S A s.heap H locs → lv_has ls 9 [(0, .ref (ad 0)), (1, .int x1), (3, .long x3), (5, .int x5)] → W p l e ({ frames := 1, cells := 0, slots := 0, locals := 24 } : Room) s m args below meth c H locs 0 0 (MQ below (va_Ql (fun (r : Int64) (u : va_W) => o1 = r ∧ wF ty ad o2 = u) (kz_B D ty A) A) args s 0 0 A) (F0 m 146 ls [])) (q : dK) (x1 : Int32) (x3 : Int64) (x5 : Int32) (H : Heap) (locs : List Loc) (ls : Array Slot) (h : zX9_few_s0_146b k146 q x1 x3 x5 = some (o1, o2)) (hP : va_P D vwCl (wF ty ad q) H) (hD : va_D A (wF ty ad q)) (hS : va_S A s.heap H locs) (hl : lv_has ls 9 [(0, .ref (ad 0)), (1, .int x1), (3, .long x3), (5, .int x5)]) : W p l e ({ frames := 1, cells := 0, slots := 0, locals := 24 } : Room) s m args below meth c H locs 0 0 (MQ below (va_Ql (fun (r : Int64) (u : va_W) => o1 = r ∧ wF ty ad o2 = u) (kz_B D ty A) A) args s 0 0 A) (F0 m 146 ls []) := by
  have C0 := C
  obtain ⟨hx, hb, hr, hts, hown, hlocks, hml, hK, hN, hE, hA⟩ := C
  unfold zX9_few_s0_146b at h
  refine lv_iload hx hb dX9_few_146 (lv_at hl 3 rfl) ?_
  refine lv_iload_n hx hb dX9_few_148 rfl (lv_at hl 1 rfl) ?_
  refine lv_icmp_ge (tgt := 168) hx hb dX9_few_149 (by decide) (fun c9 => ?_) (fun c9 => ?_)
  · rw [if_pos c9] at h
    refine lv_lload_n hx hb dX9_few_168 rfl (lv_at hl 2 rfl) ?_
    cases h
    exact kz_lret hx hb hr hlocks hP hK hD hS dX9_few_169 ⟨rfl, rfl⟩
  · rw [if_neg c9] at h
    refine lv_lload_n hx hb dX9_few_152 rfl (lv_at hl 2 rfl) ?_
    refine lv_aload_n hx hb dX9_few_153 rfl (lv_at hl 0 rfl) ?_
    refine va_get (D := D) (ci := 9) (v := .ref (ad 47)) (C := RX9) (T := TX9) (N := 19) hx hb hts u9_wsX9_few_X9 hown hK hP 0 rfl rfl 16 (by decide) (hts (.fieldLink RX9 101 "TurnedFloors" "chances" "[J") f9_wsX9_few_920) (fun _ h9 => h9) rfl dX9_few_154 ?_
    refine lv_iload hx hb dX9_few_157 (lv_at hl 3 rfl) ?_
    obtain ⟨g1, h⟩ := dG_some h
    refine va_lald hx hb hK hP 47 1 rfl rfl (dg_in g1) dX9_few_159 ?_
    obtain ⟨v2, ev2, h⟩ := dL_some h
    refine kz_topl v2 ev2 ?_
    refine lv_ladd hx hb dX9_few_160 ?_
    refine lv_lstore_n (lv' := [(3, .long (x3 + v2 : Int64)), (0, .ref (ad 0)), (1, .int x1), (5, .int x5)]) hx hb dX9_few_161 rfl hl (by decide) rfl (fun ls hl => ?_)
    refine lv_iinc (v := x5 + 1) (lv' := [(5, .int (x5 + 1)), (3, .long (x3 + v2 : Int64)), (0, .ref (ad 0)), (1, .int x1)]) hx hb dX9_few_162 hl (k := 3) rfl rfl (by decide) rfl (fun ls hl => ?_)
    refine lv_goto (tgt := 146) hx hb dX9_few_165 (by decide) ?_
    exact hk146 _ _ _ _ _ _ _ h hP hD hS (lv_sub hl [2, 3, 1, 0] rfl)
set_option maxHeartbeats 4000000 in
set_option maxRecDepth 100000 in
theorem WX9_few_s0_146 {p : Program} {l : Launch} {e : Env} {s : State} {m : MethodId} {args : Array Value} {below : List Frame} {meth : Method} {c : Code} {D : va_G} {ty : Nat → ClassId} {eo : Nat → Nat} {A : Nat → Prop} {ad : Nat → Nat} {o1 : Int64} {o2 : dK} (C : dc_C p s m args meth c cX9_few (some .long) 9 RX9 wsX9_few D ty eo A)   (n : Nat) (q : dK) (x1 : Int32) (x3 : Int64) (x5 : Int32) (H : Heap) (locs : List Loc) (ls : Array Slot) (h : zX9_few_s0_146  n q x1 x3 x5 = some (o1, o2)) (hP : va_P D vwCl (wF ty ad q) H) (hD : va_D A (wF ty ad q)) (hS : va_S A s.heap H locs) (hl : lv_has ls 9 [(0, .ref (ad 0)), (1, .int x1), (3, .long x3), (5, .int x5)]) : W p l e ({ frames := 1, cells := 0, slots := 0, locals := 24 } : Room) s m args below meth c H locs 0 0 (MQ below (va_Ql (fun (r : Int64) (u : va_W) => o1 = r ∧ wF ty ad o2 = u) (kz_B D ty A) A) args s 0 0 A) (F0 m 146 ls []) := by
  exact dFix_W (F := fun k (a : dK × Int32 × Int64 × Int32) => zX9_few_s0_146b  (fun q x1 x3 x5 => k (q, x1, x3, x5)) a.1 a.2.1 a.2.2.1 a.2.2.2) (o := (o1, o2)) (P := fun (a : dK × Int32 × Int64 × Int32) H locs ls => va_P D vwCl (wF ty ad a.1) H ∧ va_D A (wF ty ad a.1) ∧ va_S A s.heap H locs ∧ lv_has ls 9 [(0, .ref (ad 0)), (1, .int a.2.1), (3, .long a.2.2.1), (5, .int a.2.2.2)]) (G := fun H locs ls => W p l e ({ frames := 1, cells := 0, slots := 0, locals := 24 } : Room) s m args below meth c H locs 0 0 (MQ below (va_Ql (fun (r : Int64) (u : va_W) => o1 = r ∧ wF ty ad o2 = u) (kz_B D ty A) A) args s 0 0 A) (F0 m 146 ls []))
    (fun k hk a H locs ls h hp => WX9_few_s0_146b C  (fun q x1 x3 x5 H locs ls h h1 h2 h3 h4 => hk (q, x1, x3, x5) H locs ls h ⟨h1, h2, h3, h4⟩) a.1 a.2.1 a.2.2.1 a.2.2.2 H locs ls h hp.1 hp.2.1 hp.2.2.1 hp.2.2.2) n (q, x1, x3, x5) H locs ls h ⟨hP, hD, hS, hl⟩
set_option maxHeartbeats 4000000 in
set_option maxRecDepth 100000 in
theorem WX9_few_s0_115 {p : Program} {l : Launch} {e : Env} {s : State} {m : MethodId} {args : Array Value} {below : List Frame} {meth : Method} {c : Code} {D : va_G} {ty : Nat → ClassId} {eo : Nat → Nat} {A : Nat → Prop} {ad : Nat → Nat} {o1 : Int64} {o2 : dK} (C : dc_C p s m args meth c cX9_few (some .long) 9 RX9 wsX9_few D ty eo A) {k44 : dK → Int32 → Int32 → Int32 → Option (Int64 × dK)} {k54 : dK → Int32 → Int32 → Int32 → Int32 → Option (Int64 × dK)} (hk44 : ∀ (q : dK) (x1 : Int32) (x2 : Int32) (x3 : Int32) (H : Heap) (locs : List Loc) (ls : Array Slot), k44 q x1 x2 x3 = some (o1, o2) → va_P D vwCl (wF ty ad q) H → va_D A (wF ty ad q) → va_S A s.heap H locs → lv_has ls 9 [(0, .ref (ad 0)), (1, .int x1), (2, .int x2), (3, .int x3)] → W p l e ({ frames := 1, cells := 0, slots := 0, locals := 24 } : Room) s m args below meth c H locs 0 0 (MQ below (va_Ql (fun (r : Int64) (u : va_W) => o1 = r ∧ wF ty ad o2 = u) (kz_B D ty A) A) args s 0 0 A) (F0 m 44 ls [])) (hk54 : ∀ (q : dK) (x1 : Int32) (x2 : Int32) (x3 : Int32) (x4 : Int32) (H : Heap) (locs : List Loc) (ls : Array Slot), k54 q x1 x2 x3 x4 = some (o1, o2) → va_P D vwCl (wF ty ad q) H → va_D A (wF ty ad q) → va_S A s.heap H locs → lv_has ls 9 [(0, .ref (ad 0)), (1, .int x1), (2, .int x2), (3, .int x3), (4, .int x4)] → W p l e ({ frames := 1, cells := 0, slots := 0, locals := 24 } : Room) s m args below meth c H locs 0 0 (MQ below (va_Ql (fun (r : Int64) (u : va_W) => o1 = r ∧ wF ty ad o2 = u) (kz_B D ty A) A) args s 0 0 A) (F0 m 54 ls [])) (q : dK) (x1 : Int32) (x2 : Int32) (x3 : Int32) (x4 : Int32) (x5 : Int64) (y0 : Int64) (H : Heap) (locs : List Loc) (ls : Array Slot) (h : zX9_few_s0_115 k44 k54 q x1 x2 x3 x4 x5 y0 = some (o1, o2)) (hP : va_P D vwCl (wF ty ad q) H) (hD : va_D A (wF ty ad q)) (hS : va_S A s.heap H locs) (hl : lv_has ls 9 [(0, .ref (ad 0)), (1, .int x1), (2, .int x2), (3, .int x3), (4, .int x4), (5, .long x5)]) : W p l e ({ frames := 1, cells := 0, slots := 0, locals := 24 } : Room) s m args below meth c H locs 0 0 (MQ below (va_Ql (fun (r : Int64) (u : va_W) => o1 = r ∧ wF ty ad o2 = u) (kz_B D ty A) A) args s 0 0 A) (F0 m 115 ls [.long y0]) := by
  have C0 := C
  obtain ⟨hx, hb, hr, hts, hown, hlocks, hml, hK, hN, hE, hA⟩ := C
  unfold zX9_few_s0_115 at h
  refine lv_lstore (lv' := [(7, .long y0), (0, .ref (ad 0)), (1, .int x1), (2, .int x2), (3, .int x3), (4, .int x4), (5, .long x5)]) hx hb dX9_few_115 hl (by decide) rfl (fun ls hl => ?_)
  refine lv_aload_n hx hb dX9_few_117 rfl (lv_at hl 1 rfl) ?_
  refine va_get (D := D) (ci := 9) (v := .ref (ad 47)) (C := RX9) (T := TX9) (N := 19) hx hb hts u9_wsX9_few_X9 hown hK hP 0 rfl rfl 16 (by decide) (hts (.fieldLink RX9 101 "TurnedFloors" "chances" "[J") f9_wsX9_few_920) (fun _ h9 => h9) rfl dX9_few_118 ?_
  refine lv_iload hx hb dX9_few_121 (lv_at hl 5 rfl) ?_
  refine lv_lload hx hb dX9_few_123 (lv_at hl 6 rfl) ?_
  refine lv_lload hx hb dX9_few_125 (lv_at hl 0 rfl) ?_
  refine lv_ladd hx hb dX9_few_127 ?_
  obtain ⟨g1, h⟩ := dG_some h
  refine va_last hx hb hK hP hD hS 47 1 rfl rfl (dg_in g1) dX9_few_128 (fun H locs hp hd hs => ?_)
  obtain ⟨q2, eq2, h⟩ := dL_some h
  refine kz_re (w2 := wF ty ad q2) hp hd hs (by rw [← eq2]; exact wF_a47 ty ad q (Int32.toNatClampNeg x4) (x5 + y0 : Int64)) ?_
  clear hp hd hs hP hD hS
  intro hP hD hS
  refine lv_iinc (v := x4 + (-1)) (lv' := [(4, .int (x4 + (-1))), (7, .long y0), (0, .ref (ad 0)), (1, .int x1), (2, .int x2), (3, .int x3), (5, .long x5)]) hx hb dX9_few_129 hl (k := 5) rfl rfl (by decide) rfl (fun ls hl => ?_)
  refine lv_goto (tgt := 54) hx hb dX9_few_132 (by decide) ?_
  exact hk54 _ _ _ _ _ _ _ _ h hP hD hS (lv_sub hl [2, 3, 4, 5, 0] rfl)
set_option maxHeartbeats 4000000 in
set_option maxRecDepth 100000 in
theorem WX9_few_s0_54b {p : Program} {l : Launch} {e : Env} {s : State} {m : MethodId} {args : Array Value} {below : List Frame} {meth : Method} {c : Code} {D : va_G} {ty : Nat → ClassId} {eo : Nat → Nat} {A : Nat → Prop} {ad : Nat → Nat} {o1 : Int64} {o2 : dK} (C : dc_C p s m args meth c cX9_few (some .long) 9 RX9 wsX9_few D ty eo A) {k44 : dK → Int32 → Int32 → Int32 → Option (Int64 × dK)} {k54 : dK → Int32 → Int32 → Int32 → Int32 → Option (Int64 × dK)} (hk44 : ∀ (q : dK) (x1 : Int32) (x2 : Int32) (x3 : Int32) (H : Heap) (locs : List Loc) (ls : Array Slot), k44 q x1 x2 x3 = some (o1, o2) → va_P D vwCl (wF ty ad q) H → va_D A (wF ty ad q) → va_S A s.heap H locs → lv_has ls 9 [(0, .ref (ad 0)), (1, .int x1), (2, .int x2), (3, .int x3)] → W p l e ({ frames := 1, cells := 0, slots := 0, locals := 24 } : Room) s m args below meth c H locs 0 0 (MQ below (va_Ql (fun (r : Int64) (u : va_W) => o1 = r ∧ wF ty ad o2 = u) (kz_B D ty A) A) args s 0 0 A) (F0 m 44 ls [])) (hk54 : ∀ (q : dK) (x1 : Int32) (x2 : Int32) (x3 : Int32) (x4 : Int32) (H : Heap) (locs : List Loc) (ls : Array Slot), k54 q x1 x2 x3 x4 = some (o1, o2) → va_P D vwCl (wF ty ad q) H → va_D A (wF ty ad q) → va_S A s.heap H locs → lv_has ls 9 [(0, .ref (ad 0)), (1, .int x1), (2, .int x2), (3, .int x3), (4, .int x4)] → W p l e ({ frames := 1, cells := 0, slots := 0, locals := 24 } : Room) s m args below meth c H locs 0 0 (MQ below (va_Ql (fun (r : Int64) (u : va_W) => o1 = r ∧ wF ty ad o2 = u) (kz_B D ty A) A) args s 0 0 A) (F0 m 54 ls [])) (q : dK) (x1 : Int32) (x2 : Int32) (x3 : Int32) (x4 : Int32) (H : Heap) (locs : List Loc) (ls : Array Slot) (h : zX9_few_s0_54b k44 k54 q x1 x2 x3 x4 = some (o1, o2)) (hP : va_P D vwCl (wF ty ad q) H) (hD : va_D A (wF ty ad q)) (hS : va_S A s.heap H locs) (hl : lv_has ls 9 [(0, .ref (ad 0)), (1, .int x1), (2, .int x2), (3, .int x3), (4, .int x4)]) : W p l e ({ frames := 1, cells := 0, slots := 0, locals := 24 } : Room) s m args below meth c H locs 0 0 (MQ below (va_Ql (fun (r : Int64) (u : va_W) => o1 = r ∧ wF ty ad o2 = u) (kz_B D ty A) A) args s 0 0 A) (F0 m 54 ls []) := by
  have C0 := C
  obtain ⟨hx, hb, hr, hts, hown, hlocks, hml, hK, hN, hE, hA⟩ := C
  unfold zX9_few_s0_54b at h
  refine lv_iload hx hb dX9_few_54 (lv_at hl 4 rfl) ?_
  refine lv_if_lt (tgt := 135) hx hb dX9_few_56 (by decide) (fun c9 => ?_) (fun c9 => ?_)
  · rw [if_pos c9] at h
    refine lv_iinc (v := x3 + 1) (lv' := [(3, .int (x3 + 1)), (0, .ref (ad 0)), (1, .int x1), (2, .int x2), (4, .int x4)]) hx hb dX9_few_135 hl (k := 3) rfl rfl (by decide) rfl (fun ls hl => ?_)
    refine lv_goto (tgt := 44) hx hb dX9_few_138 (by decide) ?_
    exact hk44 _ _ _ _ _ _ _ h hP hD hS (lv_sub hl [1, 2, 3, 0] rfl)
  · rw [if_neg c9] at h
    refine lv_aload_n hx hb dX9_few_59 rfl (lv_at hl 0 rfl) ?_
    refine va_get (D := D) (ci := 9) (v := .ref (ad 47)) (C := RX9) (T := TX9) (N := 19) hx hb hts u9_wsX9_few_X9 hown hK hP 0 rfl rfl 16 (by decide) (hts (.fieldLink RX9 101 "TurnedFloors" "chances" "[J") f9_wsX9_few_920) (fun _ h9 => h9) rfl dX9_few_60 ?_
    refine lv_iload hx hb dX9_few_63 (lv_at hl 4 rfl) ?_
    obtain ⟨g1, h⟩ := dG_some h
    refine va_lald hx hb hK hP 47 1 rfl rfl (dg_in g1) dX9_few_65 ?_
    obtain ⟨v2, ev2, h⟩ := dL_some h
    refine kz_topl v2 ev2 ?_
    refine lv_bipush (v := 10) hx hb dX9_few_66 (by decide) ?_
    refine lv_aload_n hx hb dX9_few_68 rfl (lv_at hl 0 rfl) ?_
    refine va_get (D := D) (ci := 9) (v := .ref (ad 1)) (C := RX9) (T := TX9) (N := 19) hx hb hts u9_wsX9_few_X9 hown hK hP 0 rfl rfl 0 (by decide) (hts (.fieldLink RX9 10 "TurnedFloors" "state" "LTurnedFloors$State;") f9_wsX9_few_922) (fun _ h9 => h9) rfl dX9_few_69 ?_
    refine va_getN (D := D) (ci := 6) (v := .int (q.1 1 1)) (C := RX6) (T := TX6) (N := 10) hx hb hts u9_wsX9_few_X6 hown hK hP 1 rfl rfl 1 (by decide) (hN.use (.fieldLinkNest "TurnedFloors" 301 "TurnedFloors$State" "slips" "I" "TurnedFloors") (by decide +kernel)) (fun _ h9 => h9) rfl dX9_few_72 ?_
    refine lv_isub hx hb dX9_few_75 ?_
    refine lv_i2l (v := Int32.toInt64 (10 - (q.1 1 1) : Int32)) hx hb dX9_few_76 rfl ?_
    refine lv_lmul hx hb dX9_few_77 ?_
    refine lv_ldc2 (v := 10) hx hb hown (hts (.constantLong RX9 304 10) f9_wsX9_few_923) dX9_few_78 ?_
    refine lv_ldiv hx hb dX9_few_81 (by decide) ?_
    obtain ⟨v3, ev3, h⟩ := dL_some h
    refine kz_topl v3 ev3 ?_
    refine lv_lstore (lv' := [(5, .long v3), (0, .ref (ad 0)), (1, .int x1), (2, .int x2), (3, .int x3), (4, .int x4)]) hx hb dX9_few_82 hl (by decide) rfl (fun ls hl => ?_)
    refine lv_iload hx hb dX9_few_84 (lv_at hl 5 rfl) ?_
    refine lv_if_ne (tgt := 93) hx hb dX9_few_86 (by decide) (fun c9 => ?_) (fun c9 => ?_)
    · rw [if_neg c9] at h
      refine lv_aload_n hx hb dX9_few_93 rfl (lv_at hl 1 rfl) ?_
      refine va_get (D := D) (ci := 9) (v := .ref (ad 47)) (C := RX9) (T := TX9) (N := 19) hx hb hts u9_wsX9_few_X9 hown hK hP 0 rfl rfl 16 (by decide) (hts (.fieldLink RX9 101 "TurnedFloors" "chances" "[J") f9_wsX9_few_920) (fun _ h9 => h9) rfl dX9_few_94 ?_
      refine lv_iload hx hb dX9_few_97 (lv_at hl 5 rfl) ?_
      refine lv_iconst (v := 1) hx hb dX9_few_99 (by decide) ?_
      refine lv_isub hx hb dX9_few_100 ?_
      obtain ⟨g4, h⟩ := dG_some h
      refine va_lald hx hb hK hP 47 1 rfl rfl (dg_in g4) dX9_few_101 ?_
      obtain ⟨v5, ev5, h⟩ := dL_some h
      refine kz_topl v5 ev5 ?_
      refine lv_aload_n hx hb dX9_few_102 rfl (lv_at hl 1 rfl) ?_
      refine va_get (D := D) (ci := 9) (v := .ref (ad 1)) (C := RX9) (T := TX9) (N := 19) hx hb hts u9_wsX9_few_X9 hown hK hP 0 rfl rfl 0 (by decide) (hts (.fieldLink RX9 10 "TurnedFloors" "state" "LTurnedFloors$State;") f9_wsX9_few_922) (fun _ h9 => h9) rfl dX9_few_103 ?_
      refine va_getN (D := D) (ci := 6) (v := .int (q.1 1 1)) (C := RX6) (T := TX6) (N := 10) hx hb hts u9_wsX9_few_X6 hown hK hP 1 rfl rfl 1 (by decide) (hN.use (.fieldLinkNest "TurnedFloors" 301 "TurnedFloors$State" "slips" "I" "TurnedFloors") (by decide +kernel)) (fun _ h9 => h9) rfl dX9_few_106 ?_
      refine lv_i2l (v := Int32.toInt64 (q.1 1 1)) hx hb dX9_few_109 rfl ?_
      refine lv_lmul hx hb dX9_few_110 ?_
      refine lv_ldc2 (v := 10) hx hb hown (hts (.constantLong RX9 304 10) f9_wsX9_few_923) dX9_few_111 ?_
      refine lv_ldiv hx hb dX9_few_114 (by decide) ?_
      exact WX9_few_s0_115 C0 hk44 hk54 _ _ _ _ _ _ _ _ _ _ h hP hD hS (lv_sub hl [1, 2, 3, 4, 5, 0] rfl)
    · rw [if_pos c9] at h
      refine lv_lconst (v := 0) hx hb dX9_few_89 (by decide) ?_
      refine lv_goto (tgt := 115) hx hb dX9_few_90 (by decide) ?_
      exact WX9_few_s0_115 C0 hk44 hk54 _ _ _ _ _ _ _ _ _ _ h hP hD hS (lv_sub hl [1, 2, 3, 4, 5, 0] rfl)
set_option maxHeartbeats 4000000 in
set_option maxRecDepth 100000 in
theorem WX9_few_s0_54 {p : Program} {l : Launch} {e : Env} {s : State} {m : MethodId} {args : Array Value} {below : List Frame} {meth : Method} {c : Code} {D : va_G} {ty : Nat → ClassId} {eo : Nat → Nat} {A : Nat → Prop} {ad : Nat → Nat} {o1 : Int64} {o2 : dK} (C : dc_C p s m args meth c cX9_few (some .long) 9 RX9 wsX9_few D ty eo A) {k44 : dK → Int32 → Int32 → Int32 → Option (Int64 × dK)} (hk44 : ∀ (q : dK) (x1 : Int32) (x2 : Int32) (x3 : Int32) (H : Heap) (locs : List Loc) (ls : Array Slot), k44 q x1 x2 x3 = some (o1, o2) → va_P D vwCl (wF ty ad q) H → va_D A (wF ty ad q) → va_S A s.heap H locs → lv_has ls 9 [(0, .ref (ad 0)), (1, .int x1), (2, .int x2), (3, .int x3)] → W p l e ({ frames := 1, cells := 0, slots := 0, locals := 24 } : Room) s m args below meth c H locs 0 0 (MQ below (va_Ql (fun (r : Int64) (u : va_W) => o1 = r ∧ wF ty ad o2 = u) (kz_B D ty A) A) args s 0 0 A) (F0 m 44 ls [])) (n : Nat) (q : dK) (x1 : Int32) (x2 : Int32) (x3 : Int32) (x4 : Int32) (H : Heap) (locs : List Loc) (ls : Array Slot) (h : zX9_few_s0_54 k44 n q x1 x2 x3 x4 = some (o1, o2)) (hP : va_P D vwCl (wF ty ad q) H) (hD : va_D A (wF ty ad q)) (hS : va_S A s.heap H locs) (hl : lv_has ls 9 [(0, .ref (ad 0)), (1, .int x1), (2, .int x2), (3, .int x3), (4, .int x4)]) : W p l e ({ frames := 1, cells := 0, slots := 0, locals := 24 } : Room) s m args below meth c H locs 0 0 (MQ below (va_Ql (fun (r : Int64) (u : va_W) => o1 = r ∧ wF ty ad o2 = u) (kz_B D ty A) A) args s 0 0 A) (F0 m 54 ls []) := by
  exact dFix_W (F := fun k (a : dK × Int32 × Int32 × Int32 × Int32) => zX9_few_s0_54b k44 (fun q x1 x2 x3 x4 => k (q, x1, x2, x3, x4)) a.1 a.2.1 a.2.2.1 a.2.2.2.1 a.2.2.2.2) (o := (o1, o2)) (P := fun (a : dK × Int32 × Int32 × Int32 × Int32) H locs ls => va_P D vwCl (wF ty ad a.1) H ∧ va_D A (wF ty ad a.1) ∧ va_S A s.heap H locs ∧ lv_has ls 9 [(0, .ref (ad 0)), (1, .int a.2.1), (2, .int a.2.2.1), (3, .int a.2.2.2.1), (4, .int a.2.2.2.2)]) (G := fun H locs ls => W p l e ({ frames := 1, cells := 0, slots := 0, locals := 24 } : Room) s m args below meth c H locs 0 0 (MQ below (va_Ql (fun (r : Int64) (u : va_W) => o1 = r ∧ wF ty ad o2 = u) (kz_B D ty A) A) args s 0 0 A) (F0 m 54 ls []))
    (fun k hk a H locs ls h hp => WX9_few_s0_54b C hk44 (fun q x1 x2 x3 x4 H locs ls h h1 h2 h3 h4 => hk (q, x1, x2, x3, x4) H locs ls h ⟨h1, h2, h3, h4⟩) a.1 a.2.1 a.2.2.1 a.2.2.2.1 a.2.2.2.2 H locs ls h hp.1 hp.2.1 hp.2.2.1 hp.2.2.2) n (q, x1, x2, x3, x4) H locs ls h ⟨hP, hD, hS, hl⟩
set_option maxHeartbeats 4000000 in
set_option maxRecDepth 100000 in
theorem WX9_few_s0_44b {p : Program} {l : Launch} {e : Env} {s : State} {m : MethodId} {args : Array Value} {below : List Frame} {meth : Method} {c : Code} {D : va_G} {ty : Nat → ClassId} {eo : Nat → Nat} {A : Nat → Prop} {ad : Nat → Nat} {o1 : Int64} {o2 : dK} (C : dc_C p s m args meth c cX9_few (some .long) 9 RX9 wsX9_few D ty eo A) {k44 : dK → Int32 → Int32 → Int32 → Option (Int64 × dK)} (hk44 : ∀ (q : dK) (x1 : Int32) (x2 : Int32) (x3 : Int32) (H : Heap) (locs : List Loc) (ls : Array Slot), k44 q x1 x2 x3 = some (o1, o2) → va_P D vwCl (wF ty ad q) H → va_D A (wF ty ad q) → va_S A s.heap H locs → lv_has ls 9 [(0, .ref (ad 0)), (1, .int x1), (2, .int x2), (3, .int x3)] → W p l e ({ frames := 1, cells := 0, slots := 0, locals := 24 } : Room) s m args below meth c H locs 0 0 (MQ below (va_Ql (fun (r : Int64) (u : va_W) => o1 = r ∧ wF ty ad o2 = u) (kz_B D ty A) A) args s 0 0 A) (F0 m 44 ls [])) (q : dK) (x1 : Int32) (x2 : Int32) (x3 : Int32) (H : Heap) (locs : List Loc) (ls : Array Slot) (h : zX9_few_s0_44b k44 q x1 x2 x3 = some (o1, o2)) (hP : va_P D vwCl (wF ty ad q) H) (hD : va_D A (wF ty ad q)) (hS : va_S A s.heap H locs) (hl : lv_has ls 9 [(0, .ref (ad 0)), (1, .int x1), (2, .int x2), (3, .int x3)]) : W p l e ({ frames := 1, cells := 0, slots := 0, locals := 24 } : Room) s m args below meth c H locs 0 0 (MQ below (va_Ql (fun (r : Int64) (u : va_W) => o1 = r ∧ wF ty ad o2 = u) (kz_B D ty A) A) args s 0 0 A) (F0 m 44 ls []) := by
  have C0 := C
  obtain ⟨hx, hb, hr, hts, hown, hlocks, hml, hK, hN, hE, hA⟩ := C
  unfold zX9_few_s0_44b at h
  refine lv_iload_n hx hb dX9_few_44 rfl (lv_at hl 3 rfl) ?_
  refine lv_iload_n hx hb dX9_few_45 rfl (lv_at hl 2 rfl) ?_
  refine lv_icmp_ge (tgt := 141) hx hb dX9_few_46 (by decide) (fun c9 => ?_) (fun c9 => ?_)
  · rw [if_pos c9] at h
    refine lv_lconst (v := 0) hx hb dX9_few_141 (by decide) ?_
    refine lv_lstore_n (lv' := [(3, .long 0), (0, .ref (ad 0)), (1, .int x1), (2, .int x2)]) hx hb dX9_few_142 rfl hl (by decide) rfl (fun ls hl => ?_)
    refine lv_iconst (v := 0) hx hb dX9_few_143 (by decide) ?_
    refine lv_istore (lv' := [(5, .int 0), (3, .long 0), (0, .ref (ad 0)), (1, .int x1), (2, .int x2)]) hx hb dX9_few_144 hl (by decide) rfl (fun ls hl => ?_)
    exact WX9_few_s0_146 C0  _ _ _ _ _ _ _ _ h hP hD hS (lv_sub hl [2, 3, 1, 0] rfl)
  · rw [if_neg c9] at h
    refine lv_iload_n hx hb dX9_few_49 rfl (lv_at hl 1 rfl) ?_
    refine lv_iconst (v := 1) hx hb dX9_few_50 (by decide) ?_
    refine lv_isub hx hb dX9_few_51 ?_
    refine lv_istore (lv' := [(4, .int (x1 - 1 : Int32)), (0, .ref (ad 0)), (1, .int x1), (2, .int x2), (3, .int x3)]) hx hb dX9_few_52 hl (by decide) rfl (fun ls hl => ?_)
    exact WX9_few_s0_54 C0 hk44 _ _ _ _ _ _ _ _ _ h hP hD hS (lv_sub hl [1, 2, 3, 4, 0] rfl)
set_option maxHeartbeats 4000000 in
set_option maxRecDepth 100000 in
theorem WX9_few_s0_44 {p : Program} {l : Launch} {e : Env} {s : State} {m : MethodId} {args : Array Value} {below : List Frame} {meth : Method} {c : Code} {D : va_G} {ty : Nat → ClassId} {eo : Nat → Nat} {A : Nat → Prop} {ad : Nat → Nat} {o1 : Int64} {o2 : dK} (C : dc_C p s m args meth c cX9_few (some .long) 9 RX9 wsX9_few D ty eo A)   (n : Nat) (q : dK) (x1 : Int32) (x2 : Int32) (x3 : Int32) (H : Heap) (locs : List Loc) (ls : Array Slot) (h : zX9_few_s0_44  n q x1 x2 x3 = some (o1, o2)) (hP : va_P D vwCl (wF ty ad q) H) (hD : va_D A (wF ty ad q)) (hS : va_S A s.heap H locs) (hl : lv_has ls 9 [(0, .ref (ad 0)), (1, .int x1), (2, .int x2), (3, .int x3)]) : W p l e ({ frames := 1, cells := 0, slots := 0, locals := 24 } : Room) s m args below meth c H locs 0 0 (MQ below (va_Ql (fun (r : Int64) (u : va_W) => o1 = r ∧ wF ty ad o2 = u) (kz_B D ty A) A) args s 0 0 A) (F0 m 44 ls []) := by
  exact dFix_W (F := fun k (a : dK × Int32 × Int32 × Int32) => zX9_few_s0_44b  (fun q x1 x2 x3 => k (q, x1, x2, x3)) a.1 a.2.1 a.2.2.1 a.2.2.2) (o := (o1, o2)) (P := fun (a : dK × Int32 × Int32 × Int32) H locs ls => va_P D vwCl (wF ty ad a.1) H ∧ va_D A (wF ty ad a.1) ∧ va_S A s.heap H locs ∧ lv_has ls 9 [(0, .ref (ad 0)), (1, .int a.2.1), (2, .int a.2.2.1), (3, .int a.2.2.2)]) (G := fun H locs ls => W p l e ({ frames := 1, cells := 0, slots := 0, locals := 24 } : Room) s m args below meth c H locs 0 0 (MQ below (va_Ql (fun (r : Int64) (u : va_W) => o1 = r ∧ wF ty ad o2 = u) (kz_B D ty A) A) args s 0 0 A) (F0 m 44 ls []))
    (fun k hk a H locs ls h hp => WX9_few_s0_44b C  (fun q x1 x2 x3 H locs ls h h1 h2 h3 h4 => hk (q, x1, x2, x3) H locs ls h ⟨h1, h2, h3, h4⟩) a.1 a.2.1 a.2.2.1 a.2.2.2 H locs ls h hp.1 hp.2.1 hp.2.2.1 hp.2.2.2) n (q, x1, x2, x3) H locs ls h ⟨hP, hD, hS, hl⟩
set_option maxHeartbeats 4000000 in
set_option maxRecDepth 100000 in
theorem WX9_few_s0_21 {p : Program} {l : Launch} {e : Env} {s : State} {m : MethodId} {args : Array Value} {below : List Frame} {meth : Method} {c : Code} {D : va_G} {ty : Nat → ClassId} {eo : Nat → Nat} {A : Nat → Prop} {ad : Nat → Nat} {o1 : Int64} {o2 : dK} (C : dc_C p s m args meth c cX9_few (some .long) 9 RX9 wsX9_few D ty eo A)   (q : dK)  (H : Heap) (locs : List Loc) (ls : Array Slot) (h : zX9_few_s0_21  q = some (o1, o2)) (hP : va_P D vwCl (wF ty ad q) H) (hD : va_D A (wF ty ad q)) (hS : va_S A s.heap H locs) (hl : lv_has ls 9 []) : W p l e ({ frames := 1, cells := 0, slots := 0, locals := 24 } : Room) s m args below meth c H locs 0 0 (MQ below (va_Ql (fun (r : Int64) (u : va_W) => o1 = r ∧ wF ty ad o2 = u) (kz_B D ty A) A) args s 0 0 A) (F0 m 21 ls []) := by
  have C0 := C
  obtain ⟨hx, hb, hr, hts, hown, hlocks, hml, hK, hN, hE, hA⟩ := C
  unfold zX9_few_s0_21 at h
  refine lv_ldc2 (v := (-1)) hx hb hown (hts (.constantLong RX9 291 (-1)) f9_wsX9_few_924) dX9_few_21 ?_
  cases h
  exact kz_lret hx hb hr hlocks hP hK hD hS dX9_few_24 ⟨rfl, rfl⟩
set_option maxHeartbeats 4000000 in
set_option maxRecDepth 100000 in
theorem qX9_few_s0 (l : Launch) (D : va_G) (ty : Nat → ClassId) (eo : Nat → Nat) (sz : Nat) (ad : Nat → Nat) (q : dK) (p1 : Int32) (p2 : Int32) (o1 : Int64) (o2 : dK) (h : zX9_few_s0 q p1 p2 = some (o1, o2)) : Met l yX9_few wsX9_few ({ frames := 1, cells := 0, slots := 0, locals := 24 } : Room) (va_Pc [.ref (ad 0), .int p1, .int p2] (kz_pre D ty eo (wF ty ad q) sz)) (va_Ql (fun (r : Int64) (u : va_W) => o1 = r ∧ wF ty ad o2 = u) (kz_B D ty (va_A (wF ty ad q) sz)) (va_A (wF ty ad q) sz)) 0 0 (va_A (wF ty ad q) sz) := by
  refine Met.ofW (cc := cX9_few) (maxL := 9) (ret := (some .long)) (by decide) rfl ?_
  intro p e s m args below meth c s₁ B hml hv
  obtain ⟨rfl, hsz, hP, hK, hD0, hN, hE⟩ := hv
  have hx := B.exec
  have hb := B.bytes
  have hr := B.returns
  have hts := atoms_spec (ws := wsX9_few) B.pre
  have hown : s.vm.findClass RX9 = some m.cls := findClass_of_methodNamed B.named
  have hlocks := B.notSynchronized
  subst hsz
  have hD := hD0.self (sz := s.heap.size)
  generalize hAe : va_A (wF ty ad q) s.heap.size = A at hD hE ⊢
  have hA : ∀ q : Nat, s.heap.size ≤ q → A q := fun q h => by rw [← hAe]; exact Or.inr h
  clear hAe
  have hS : va_S A s.heap s.heap [] := va_S.rf
  have hl := lv_entry ([.ref (ad 0), .int p1, .int p2]) (n := 9) (Nat.le_of_ble_eq_true rfl)
  rw [lg_entry_eq]
  generalize (lg_sl ([.ref (ad 0), .int p1, .int p2]) ++ List.replicate (9 - (lg_sl ([.ref (ad 0), .int p1, .int p2])).length) Slot.unset).toArray = ls at hl ⊢
  have hl : lv_has ls 9 [(0, .ref (ad 0)), (1, .int p1), (2, .int p2)] := hl
  have C : dc_C p s m _ meth c cX9_few (some .long) 9 RX9 wsX9_few D ty eo A := ⟨hx, hb, hr, hts, hown, hlocks, hml, hK, hN, hE, hA⟩
  unfold zX9_few_s0 at h
  refine lv_iload_n hx hb dX9_few_0 rfl (lv_at hl 1 rfl) ?_
  refine lv_iconst (v := 1) hx hb dX9_few_1 (by decide) ?_
  refine lv_icmp_lt (tgt := 21) hx hb dX9_few_2 (by decide) (fun c9 => ?_) (fun c9 => ?_)
  · rw [if_pos c9] at h
    exact WX9_few_s0_21 C  _ _ _ _ h hP hD hS (lv_sub hl [] rfl)
  · rw [if_neg c9] at h
    refine lv_iload_n hx hb dX9_few_5 rfl (lv_at hl 1 rfl) ?_
    refine lv_bipush (v := 20) hx hb dX9_few_6 (by decide) ?_
    refine lv_icmp_gt (tgt := 21) hx hb dX9_few_8 (by decide) (fun c9 => ?_) (fun c9 => ?_)
    · rw [if_pos c9] at h
      exact WX9_few_s0_21 C  _ _ _ _ h hP hD hS (lv_sub hl [] rfl)
    · rw [if_neg c9] at h
      refine lv_iload_n hx hb dX9_few_11 rfl (lv_at hl 2 rfl) ?_
      refine lv_if_lt (tgt := 21) hx hb dX9_few_12 (by decide) (fun c9 => ?_) (fun c9 => ?_)
      · rw [if_pos c9] at h
        exact WX9_few_s0_21 C  _ _ _ _ h hP hD hS (lv_sub hl [] rfl)
      · rw [if_neg c9] at h
        refine lv_iload_n hx hb dX9_few_15 rfl (lv_at hl 2 rfl) ?_
        refine lv_bipush (v := 99) hx hb dX9_few_16 (by decide) ?_
        refine lv_icmp_le (tgt := 25) hx hb dX9_few_18 (by decide) (fun c9 => ?_) (fun c9 => ?_)
        · rw [if_pos c9] at h
          refine lv_aload_n hx hb dX9_few_25 rfl (lv_at hl 0 rfl) ?_
          refine va_get (D := D) (ci := 9) (v := .ref (ad 47)) (C := RX9) (T := TX9) (N := 19) hx hb hts u9_wsX9_few_X9 hown hK hP 0 rfl rfl 16 (by decide) (hts (.fieldLink RX9 101 "TurnedFloors" "chances" "[J") f9_wsX9_few_920) (fun _ h9 => h9) rfl dX9_few_26 ?_
          refine lv_lconst (v := 0) hx hb dX9_few_29 (by decide) ?_
          refine dw_kv1 (j := 47) rfl (va_runS (As := [.ref (ad 47), .long 0]) (rest := []) ⟨hx, hb, hml, hown, hts⟩ (cJ7_fillL l D ty eo _ (ad 47) 20 _ 0 (by decide)) (va_cwS 2 hts gX9_few_J7_fill_d0a16 rfl rfl rfl (by decide +kernel) ⟨Nat.le_of_ble_eq_true rfl, Nat.le_of_ble_eq_true rfl⟩) (kz_preS hK hN hE hP hD hS hA [47] (by decide) rfl) rfl rfl hl.1 rfl (lv_room (Nat.le_of_ble_eq_true rfl)) dX9_few_30 ⟨Nat.le_of_ble_eq_true rfl, Nat.le_of_ble_eq_true rfl⟩) hP hD hS hA (fun u9 h9 => h9.symm) (fun H locs hp hd hs => ?_)
          obtain ⟨q1, eq1, h⟩ := dL_some h
          refine kz_re (w2 := wF ty ad q1) hp hd hs (by rw [← eq1]; exact rfl) ?_
          clear hp hd hs hP hD hS
          intro hP hD hS
          refine lv_aload_n hx hb dX9_few_33 rfl (lv_at hl 0 rfl) ?_
          refine va_get (D := D) (ci := 9) (v := .ref (ad 47)) (C := RX9) (T := TX9) (N := 19) hx hb hts u9_wsX9_few_X9 hown hK hP 0 rfl rfl 16 (by decide) (hts (.fieldLink RX9 101 "TurnedFloors" "chances" "[J") f9_wsX9_few_920) (fun _ h9 => h9) rfl dX9_few_34 ?_
          refine lv_iconst (v := 0) hx hb dX9_few_37 (by decide) ?_
          refine lv_ldc2 (v := 1000000000000) hx hb hown (hts (.constantLong RX9 299 1000000000000) f9_wsX9_few_925) dX9_few_38 ?_
          refine va_last hx hb hK hP hD hS 47 1 rfl rfl (by simp only [vp_in]; decide) dX9_few_41 (fun H locs hp hd hs => ?_)
          obtain ⟨q2, eq2, h⟩ := dL_some h
          refine kz_re (w2 := wF ty ad q2) hp hd hs (by rw [(by decide +kernel : Int32.toNatClampNeg 0 = 0), ← eq2]; exact wF_a47 ty ad q1 0 1000000000000) ?_
          clear hp hd hs hP hD hS
          intro hP hD hS
          refine lv_iconst (v := 0) hx hb dX9_few_42 (by decide) ?_
          refine lv_istore_n (lv' := [(3, .int 0), (0, .ref (ad 0)), (1, .int p1), (2, .int p2)]) hx hb dX9_few_43 rfl hl (by decide) rfl (fun ls hl => ?_)
          exact WX9_few_s0_44 C  _ _ _ _ _ _ _ _ h hP hD hS (lv_sub hl [1, 2, 3, 0] rfl)
        · rw [if_neg c9] at h
          exact WX9_few_s0_21 C  _ _ _ _ h hP hD hS (lv_sub hl [] rfl)

set_option maxHeartbeats 4000000 in
set_option maxRecDepth 100000 in
theorem WX9_compare_s0_18 {p : Program} {l : Launch} {e : Env} {s : State} {m : MethodId} {args : Array Value} {below : List Frame} {meth : Method} {c : Code} {D : va_G} {ty : Nat → ClassId} {eo : Nat → Nat} {A : Nat → Prop} {ad : Nat → Nat} {o1 : Int32} {o2 : dK} {nc ns : Nat} {ad0 : Nat → Nat} (hag : dAg ad0 ad) (C : dc_C p s m args meth c cX9_compare (some .int) 2 RX9 wsX9_compare D ty eo A)   (q : dK) (x1 : Int32) (H : Heap) (locs : List Loc) (ls : Array Slot) (h : zX9_compare_s0_18 nc ns  q x1 = some (o1, o2)) (hP : va_P D vwCl (wF ty ad q) H) (hD : va_D A (wF ty ad q)) (hS : va_S A s.heap H locs) (hl : lv_has ls 2 [(0, .ref (ad 0)), (1, .int x1)]) : W p l e ({ frames := 6, cells := nc, slots := ns, locals := 160 } : Room) s m args below meth c H locs 0 0 (MQ below (va_Qi (fun (r : Int32) (u : va_W) => o1 = r ∧ ∃ ad9 : Nat → Nat, dAg ad0 ad9 ∧ wF ty ad9 o2 = u) (kz_B D ty A) A) args s nc ns A) (F0 m 18 ls []) := by
  have C0 := C
  obtain ⟨hx, hb, hr, hts, hown, hlocks, hml, hK, hN, hE, hA⟩ := C
  unfold zX9_compare_s0_18 at h
  refine lv_aload_n hx hb dX9_compare_18 rfl (lv_at hl 0 rfl) ?_
  refine va_get (D := D) (ci := 9) (v := .ref (ad 20)) (C := RX9) (T := TX9) (N := 19) hx hb hts u9_wsX9_compare_X9 hown hK hP 0 rfl rfl 6 (by decide) (hts (.fieldLink RX9 50 "TurnedFloors" "judge" "LTurnedFloors$Judge;") f9_wsX9_compare_928) (fun _ h9 => h9) rfl dX9_compare_19 ?_
  refine lv_aload_n hx hb dX9_compare_22 rfl (lv_at hl 0 rfl) ?_
  refine va_get (D := D) (ci := 9) (v := .ref (ad 1)) (C := RX9) (T := TX9) (N := 19) hx hb hts u9_wsX9_compare_X9 hown hK hP 0 rfl rfl 0 (by decide) (hts (.fieldLink RX9 10 "TurnedFloors" "state" "LTurnedFloors$State;") f9_wsX9_compare_929) (fun _ h9 => h9) rfl dX9_compare_23 ?_
  refine lv_iload_n hx hb dX9_compare_26 rfl (lv_at hl 1 rfl) ?_
  obtain ⟨r1, q3, h2, h⟩ := dB_some h
  refine dw_kq (va_runV (As := [.int x1]) (rest := [.ref (ad 20)]) ⟨hx, hb, hml, hown, hts⟩ (qX6_lawAt_s1 l D ty eo _ ad q x1 r1 q3 h2) (cwV 1 hts gX9_compare_X6_lawAt rfl rfl rfl (by decide +kernel) ⟨Nat.le_of_ble_eq_true rfl, Nat.le_of_ble_eq_true rfl⟩) (dw_preV (ci := 6) (q0 := 1) hK hN hE hP hD hS hA rfl rfl) rfl rfl hl.1 rfl (lv_room (Nat.le_of_ble_eq_true rfl)) dX9_compare_27 ⟨Nat.zero_le _, Nat.zero_le _⟩) hP hD hS hA (fun r9 u9 H locs hw hp hd hs => ?_)
  clear hP hD hS
  obtain ⟨rfl, rfl⟩ := hw
  have hP := hp; have hD := hd; have hS := hs; clear hp hd hs
  by_cases c4 : r1 = 0
  · rw [if_pos c4] at h
    refine kz_topv (if_pos c4) ?_
    refine lv_aload_n hx hb dX9_compare_30 rfl (lv_at hl 0 rfl) ?_
    refine va_get (D := D) (ci := 9) (v := .ref (ad 1)) (C := RX9) (T := TX9) (N := 19) hx hb hts u9_wsX9_compare_X9 hown hK hP 0 rfl rfl 0 (by decide) (hts (.fieldLink RX9 10 "TurnedFloors" "state" "LTurnedFloors$State;") f9_wsX9_compare_929) (fun _ h9 => h9) rfl dX9_compare_31 ?_
    refine va_getN (D := D) (ci := 6) (v := .int (q3.1 1 2)) (C := RX6) (T := TX6) (N := 10) hx hb hts u9_wsX9_compare_X6 hown hK hP 1 rfl rfl 2 (by decide) (hN.use (.fieldLinkNest "TurnedFloors" 310 "TurnedFloors$State" "mood" "I" "TurnedFloors") (by decide +kernel)) (fun _ h9 => h9) rfl dX9_compare_34 ?_
    obtain ⟨q7, h6, h⟩ := dV_some h
    refine dw_kv (va_runV (As := [.null, .int (q3.1 1 2)]) (rest := []) ⟨hx, hb, hml, hown, hts⟩ (qX1_seat_s20_n l D ty eo _ ad q3 (q3.1 1 2) q7 h6) (cwV 2 hts gX9_compare_X1_seat rfl rfl rfl (by decide +kernel) ⟨Nat.le_of_ble_eq_true rfl, Nat.le_of_ble_eq_true rfl⟩) (dw_preV (ci := 1) (q0 := 20) hK hN hE hP hD hS hA rfl rfl) rfl rfl hl.1 rfl (lv_room (Nat.le_of_ble_eq_true rfl)) dX9_compare_37 ⟨Nat.zero_le _, Nat.zero_le _⟩) hD hS hA (fun u9 H locs hw hp hd hs => ?_)
    clear hP hD hS
    obtain rfl := hw
    have hP := hp; have hD := hd; have hS := hs; clear hp hd hs
    refine lv_aload_n hx hb dX9_compare_40 rfl (lv_at hl 0 rfl) ?_
    refine lv_aload_n hx hb dX9_compare_41 rfl (lv_at hl 0 rfl) ?_
    refine va_get (D := D) (ci := 9) (v := .ref (ad 20)) (C := RX9) (T := TX9) (N := 19) hx hb hts u9_wsX9_compare_X9 hown hK hP 0 rfl rfl 6 (by decide) (hts (.fieldLink RX9 50 "TurnedFloors" "judge" "LTurnedFloors$Judge;") f9_wsX9_compare_928) (fun _ h9 => h9) rfl dX9_compare_42 ?_
    obtain ⟨q10, h9, h⟩ := dV_some h
    refine dw_kv (va_runV (As := [.ref (ad 20)]) (rest := []) ⟨hx, hb, hml, hown, hts⟩ (qX9_spread_s0_s20 l D ty eo _ ad nc ns q7  q10 h9) (cwV 1 hts gX9_compare_X9_spread rfl rfl rfl (by decide +kernel) ⟨Nat.le_of_ble_eq_true rfl, Nat.le_of_ble_eq_true rfl⟩) (dw_preV (ci := 9) (q0 := 0) hK hN hE hP hD hS hA rfl rfl) rfl rfl hl.1 rfl (lv_room (Nat.le_of_ble_eq_true rfl)) dX9_compare_45 ⟨by show 0 + nc ≤ nc; omega, by show 0 + ns ≤ ns; omega⟩) hD hS hA (fun u9 H locs hw hp hd hs => ?_)
    clear hP hD hS
    obtain ⟨ad, hag1, rfl⟩ := hw
    replace hag := dAg_t hag hag1
    rw [dAg_s hag1 0 (by decide)] at hl
    clear hag1
    refine dw_up (c2 := nc) (s2 := ns) (by omega) (by omega) ?_
    have hP := hp; have hD := hd; have hS := hs; clear hp hd hs
    refine lv_aload_n hx hb dX9_compare_48 rfl (lv_at hl 0 rfl) ?_
    refine va_get (D := D) (ci := 9) (v := .ref (ad 32)) (C := RX9) (T := TX9) (N := 19) hx hb hts u9_wsX9_compare_X9 hown hK hP 0 rfl rfl 10 (by decide) (hts (.fieldLink RX9 80 "TurnedFloors" "paper" "LTurnedFloors$Paper;") f9_wsX9_compare_930) (fun _ h9 => h9) rfl dX9_compare_49 ?_
    obtain ⟨r11, q13, h12, h⟩ := dB_some h
    refine dw_ki (va_runV (As := []) (rest := []) ⟨hx, hb, hml, hown, hts⟩ (qX3_turnsToOrder_s32 l D ty eo _ ad q10  r11 q13 h12) (cwV 0 hts gX9_compare_X3_turnsToOrder rfl rfl rfl (by decide +kernel) ⟨Nat.le_of_ble_eq_true rfl, Nat.le_of_ble_eq_true rfl⟩) (dw_preV (ci := 3) (q0 := 32) hK hN hE hP hD hS hA rfl rfl) rfl rfl hl.1 rfl (lv_room (Nat.le_of_ble_eq_true rfl)) dX9_compare_52 ⟨Nat.le_refl _, Nat.le_refl _⟩) hD hS hA (fun r9 u9 H locs hw hp hd hs => ?_)
    clear hP hD hS
    obtain ⟨rfl, rfl⟩ := hw
    have hP := hp; have hD := hd; have hS := hs; clear hp hd hs
    cases h
    exact kz_iret hx hb hr hlocks hP hK hD hS dX9_compare_55 ⟨rfl, ad, hag, rfl⟩
  · rw [if_neg c4] at h
    refine kz_topv (if_neg c4) ?_
    refine lv_aload_n hx hb dX9_compare_30 rfl (lv_at hl 0 rfl) ?_
    refine va_get (D := D) (ci := 9) (v := .ref (ad 1)) (C := RX9) (T := TX9) (N := 19) hx hb hts u9_wsX9_compare_X9 hown hK hP 0 rfl rfl 0 (by decide) (hts (.fieldLink RX9 10 "TurnedFloors" "state" "LTurnedFloors$State;") f9_wsX9_compare_929) (fun _ h9 => h9) rfl dX9_compare_31 ?_
    refine va_getN (D := D) (ci := 6) (v := .int (q3.1 1 2)) (C := RX6) (T := TX6) (N := 10) hx hb hts u9_wsX9_compare_X6 hown hK hP 1 rfl rfl 2 (by decide) (hN.use (.fieldLinkNest "TurnedFloors" 310 "TurnedFloors$State" "mood" "I" "TurnedFloors") (by decide +kernel)) (fun _ h9 => h9) rfl dX9_compare_34 ?_
    obtain ⟨q16, h15, h⟩ := dV_some h
    refine dw_kv (va_runV (As := [.ref (ad (63 + 7 * dLi r1)), .int (q3.1 1 2)]) (rest := []) ⟨hx, hb, hml, hown, hts⟩ (qX1_seat_s20_l l D ty eo _ ad q3 r1 (q3.1 1 2) q16 h15) (cwV 2 hts gX9_compare_X1_seat rfl rfl rfl (by decide +kernel) ⟨Nat.le_of_ble_eq_true rfl, Nat.le_of_ble_eq_true rfl⟩) (dw_preV (ci := 1) (q0 := 20) hK hN hE hP hD hS hA rfl rfl) rfl rfl hl.1 rfl (lv_room (Nat.le_of_ble_eq_true rfl)) dX9_compare_37 ⟨Nat.zero_le _, Nat.zero_le _⟩) hD hS hA (fun u9 H locs hw hp hd hs => ?_)
    clear hP hD hS
    obtain rfl := hw
    have hP := hp; have hD := hd; have hS := hs; clear hp hd hs
    refine lv_aload_n hx hb dX9_compare_40 rfl (lv_at hl 0 rfl) ?_
    refine lv_aload_n hx hb dX9_compare_41 rfl (lv_at hl 0 rfl) ?_
    refine va_get (D := D) (ci := 9) (v := .ref (ad 20)) (C := RX9) (T := TX9) (N := 19) hx hb hts u9_wsX9_compare_X9 hown hK hP 0 rfl rfl 6 (by decide) (hts (.fieldLink RX9 50 "TurnedFloors" "judge" "LTurnedFloors$Judge;") f9_wsX9_compare_928) (fun _ h9 => h9) rfl dX9_compare_42 ?_
    obtain ⟨q19, h18, h⟩ := dV_some h
    refine dw_kv (va_runV (As := [.ref (ad 20)]) (rest := []) ⟨hx, hb, hml, hown, hts⟩ (qX9_spread_s0_s20 l D ty eo _ ad nc ns q16  q19 h18) (cwV 1 hts gX9_compare_X9_spread rfl rfl rfl (by decide +kernel) ⟨Nat.le_of_ble_eq_true rfl, Nat.le_of_ble_eq_true rfl⟩) (dw_preV (ci := 9) (q0 := 0) hK hN hE hP hD hS hA rfl rfl) rfl rfl hl.1 rfl (lv_room (Nat.le_of_ble_eq_true rfl)) dX9_compare_45 ⟨by show 0 + nc ≤ nc; omega, by show 0 + ns ≤ ns; omega⟩) hD hS hA (fun u9 H locs hw hp hd hs => ?_)
    clear hP hD hS
    obtain ⟨ad, hag1, rfl⟩ := hw
    replace hag := dAg_t hag hag1
    rw [dAg_s hag1 0 (by decide)] at hl
    clear hag1
    refine dw_up (c2 := nc) (s2 := ns) (by omega) (by omega) ?_
    have hP := hp; have hD := hd; have hS := hs; clear hp hd hs
    refine lv_aload_n hx hb dX9_compare_48 rfl (lv_at hl 0 rfl) ?_
    refine va_get (D := D) (ci := 9) (v := .ref (ad 32)) (C := RX9) (T := TX9) (N := 19) hx hb hts u9_wsX9_compare_X9 hown hK hP 0 rfl rfl 10 (by decide) (hts (.fieldLink RX9 80 "TurnedFloors" "paper" "LTurnedFloors$Paper;") f9_wsX9_compare_930) (fun _ h9 => h9) rfl dX9_compare_49 ?_
    obtain ⟨r20, q22, h21, h⟩ := dB_some h
    refine dw_ki (va_runV (As := []) (rest := []) ⟨hx, hb, hml, hown, hts⟩ (qX3_turnsToOrder_s32 l D ty eo _ ad q19  r20 q22 h21) (cwV 0 hts gX9_compare_X3_turnsToOrder rfl rfl rfl (by decide +kernel) ⟨Nat.le_of_ble_eq_true rfl, Nat.le_of_ble_eq_true rfl⟩) (dw_preV (ci := 3) (q0 := 32) hK hN hE hP hD hS hA rfl rfl) rfl rfl hl.1 rfl (lv_room (Nat.le_of_ble_eq_true rfl)) dX9_compare_52 ⟨Nat.le_refl _, Nat.le_refl _⟩) hD hS hA (fun r9 u9 H locs hw hp hd hs => ?_)
    clear hP hD hS
    obtain ⟨rfl, rfl⟩ := hw
    have hP := hp; have hD := hd; have hS := hs; clear hp hd hs
    cases h
    exact kz_iret hx hb hr hlocks hP hK hD hS dX9_compare_55 ⟨rfl, ad, hag, rfl⟩
set_option maxHeartbeats 4000000 in
set_option maxRecDepth 100000 in
theorem qX9_compare_s0 (l : Launch) (D : va_G) (ty : Nat → ClassId) (eo : Nat → Nat) (sz : Nat) (ad : Nat → Nat) (nc ns : Nat) (q : dK) (p1 : Int32) (o1 : Int32) (o2 : dK) (h : zX9_compare_s0 nc ns q p1 = some (o1, o2)) : Met l yX9_compare wsX9_compare ({ frames := 6, cells := nc, slots := ns, locals := 160 } : Room) (va_Pc [.ref (ad 0), .int p1] (kz_pre D ty eo (wF ty ad q) sz)) (va_Qi (fun (r : Int32) (u : va_W) => o1 = r ∧ ∃ ad9 : Nat → Nat, dAg ad ad9 ∧ wF ty ad9 o2 = u) (kz_B D ty (va_A (wF ty ad q) sz)) (va_A (wF ty ad q) sz)) nc ns (va_A (wF ty ad q) sz) := by
  have hag : dAg ad ad := fun _ _ => rfl
  refine Met.ofW (cc := cX9_compare) (maxL := 2) (ret := (some .int)) (by decide) rfl ?_
  intro p e s m args below meth c s₁ B hml hv
  obtain ⟨rfl, hsz, hP, hK, hD0, hN, hE⟩ := hv
  have hx := B.exec
  have hb := B.bytes
  have hr := B.returns
  have hts := atoms_spec (ws := wsX9_compare) B.pre
  have hown : s.vm.findClass RX9 = some m.cls := findClass_of_methodNamed B.named
  have hlocks := B.notSynchronized
  subst hsz
  have hD := hD0.self (sz := s.heap.size)
  generalize hAe : va_A (wF ty ad q) s.heap.size = A at hD hE ⊢
  have hA : ∀ q : Nat, s.heap.size ≤ q → A q := fun q h => by rw [← hAe]; exact Or.inr h
  clear hAe
  have hS : va_S A s.heap s.heap [] := va_S.rf
  have hl := lv_entry ([.ref (ad 0), .int p1]) (n := 2) (Nat.le_of_ble_eq_true rfl)
  rw [lg_entry_eq]
  generalize (lg_sl ([.ref (ad 0), .int p1]) ++ List.replicate (2 - (lg_sl ([.ref (ad 0), .int p1])).length) Slot.unset).toArray = ls at hl ⊢
  have hl : lv_has ls 2 [(0, .ref (ad 0)), (1, .int p1)] := hl
  have C : dc_C p s m _ meth c cX9_compare (some .int) 2 RX9 wsX9_compare D ty eo A := ⟨hx, hb, hr, hts, hown, hlocks, hml, hK, hN, hE, hA⟩
  unfold zX9_compare_s0 at h
  refine lv_iload_n hx hb dX9_compare_0 rfl (lv_at hl 1 rfl) ?_
  refine lv_iconst (v := (-1)) hx hb dX9_compare_1 (by decide) ?_
  refine lv_icmp_eq (tgt := 18) hx hb dX9_compare_2 (by decide) (fun c9 => ?_) (fun c9 => ?_)
  · rw [if_pos c9] at h
    exact WX9_compare_s0_18 hag C  _ _ _ _ _ h hP hD hS (lv_sub hl [0, 1] rfl)
  · rw [if_neg c9] at h
    refine lv_aload_n hx hb dX9_compare_5 rfl (lv_at hl 0 rfl) ?_
    refine va_get (D := D) (ci := 9) (v := .ref (ad 1)) (C := RX9) (T := TX9) (N := 19) hx hb hts u9_wsX9_compare_X9 hown hK hP 0 rfl rfl 0 (by decide) (hts (.fieldLink RX9 10 "TurnedFloors" "state" "LTurnedFloors$State;") f9_wsX9_compare_929) (fun _ h9 => h9) rfl dX9_compare_6 ?_
    refine lv_iload_n hx hb dX9_compare_9 rfl (lv_at hl 1 rfl) ?_
    obtain ⟨r1, q3, h2, h⟩ := dB_some h
    refine dw_ki (va_runV (As := [.int p1]) (rest := []) ⟨hx, hb, hml, hown, hts⟩ (qX6_isLaw_s1 l D ty eo _ ad q p1 r1 q3 h2) (cwV 1 hts gX9_compare_X6_isLaw rfl rfl rfl (by decide +kernel) ⟨Nat.le_of_ble_eq_true rfl, Nat.le_of_ble_eq_true rfl⟩) (dw_preV (ci := 6) (q0 := 1) hK hN hE hP hD hS hA rfl rfl) rfl rfl hl.1 rfl (lv_room (Nat.le_of_ble_eq_true rfl)) dX9_compare_10 ⟨Nat.zero_le _, Nat.zero_le _⟩) hD hS hA (fun r9 u9 H locs hw hp hd hs => ?_)
    clear hP hD hS
    obtain ⟨rfl, rfl⟩ := hw
    have hP := hp; have hD := hd; have hS := hs; clear hp hd hs
    refine lv_if_ne (tgt := 18) hx hb dX9_compare_13 (by decide) (fun c9 => ?_) (fun c9 => ?_)
    · rw [if_neg c9] at h
      exact WX9_compare_s0_18 hag C  _ _ _ _ _ h hP hD hS (lv_sub hl [0, 1] rfl)
    · rw [if_pos c9] at h
      refine lv_iconst (v := (-1)) hx hb dX9_compare_16 (by decide) ?_
      refine dw_up (c2 := nc) (s2 := ns) (Nat.zero_le _) (Nat.zero_le _) ?_
      cases h
      exact kz_iret hx hb hr hlocks hP hK hD hS dX9_compare_17 ⟨rfl, ad, hag, rfl⟩
