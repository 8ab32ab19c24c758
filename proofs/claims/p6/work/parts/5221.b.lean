theorem u9_wsX3_offerTurns_X3 : ∀ w ∈ u_ws RX3 TX3 20, w ∈ wsX3_offerTurns := by
  first | exact fun w h => List.mem_cons_of_mem _ (List.mem_append_right _ h) | decide +kernel
theorem f9_wsX3_offerTurns_833 : (Cond.fieldLink RX3 42 "TurnedFloors$Paper" "marks" "[I") ∈ wsX3_offerTurns := by decide +kernel
theorem f9_wsX3_offerTurns_834 : (Cond.fieldLink RX3 51 "TurnedFloors$Paper" "floors" "I") ∈ wsX3_offerTurns := by decide +kernel
theorem f9_wsX3_offerTurns_835 : (Cond.fieldLink RX3 21 "TurnedFloors$Paper" "pays" "[I") ∈ wsX3_offerTurns := by decide +kernel
theorem f9_wsX3_offerTurns_836 : (Cond.fieldLink RX3 18 "TurnedFloors$Paper" "barred" "[I") ∈ wsX3_offerTurns := by decide +kernel
theorem f9_wsX3_offerTurns_837 : (Cond.constant RX3 140 2000000000) ∈ wsX3_offerTurns := by decide +kernel
theorem u9_wsX3_leastPaid_X3 : ∀ w ∈ u_ws RX3 TX3 20, w ∈ wsX3_leastPaid := by
  first | exact fun w h => List.mem_cons_of_mem _ (List.mem_append_right _ h) | decide +kernel
theorem f9_wsX3_leastPaid_839 : (Cond.fieldLink RX3 55 "TurnedFloors$Paper" "size" "I") ∈ wsX3_leastPaid := by decide +kernel
theorem f9_wsX3_leastPaid_840 : (Cond.fieldLink RX3 27 "TurnedFloors$Paper" "buckets" "[I") ∈ wsX3_leastPaid := by decide +kernel
theorem f9_wsX3_leastPaid_841 : (Cond.fieldLink RX3 42 "TurnedFloors$Paper" "marks" "[I") ∈ wsX3_leastPaid := by decide +kernel
theorem f9_wsX3_leastPaid_842 : (Cond.constant RX3 140 2000000000) ∈ wsX3_leastPaid := by decide +kernel
theorem f9_wsX3_leastPaid_843 : (Cond.fieldLink RX3 58 "TurnedFloors$Paper" "start" "I") ∈ wsX3_leastPaid := by decide +kernel
theorem u9_wsX9_cheapest_X9 : ∀ w ∈ u_ws RX9 TX9 19, w ∈ wsX9_cheapest := by
  first | exact fun w h => List.mem_cons_of_mem _ (List.mem_append_right _ h) | decide +kernel
theorem u9_wsX9_cheapest_X6 : ∀ w ∈ u_ws RX6 TX6 10, w ∈ wsX9_cheapest := by
  first | exact fun w h => List.mem_cons_of_mem _ (List.mem_append_right _ h) | decide +kernel
theorem u9_wsX9_cheapest_X8 : ∀ w ∈ u_ws RX8 TX8 5, w ∈ wsX9_cheapest := by
  first | exact fun w h => List.mem_cons_of_mem _ (List.mem_append_right _ h) | decide +kernel
theorem f9_wsX9_cheapest_847 : (Cond.fieldLink RX9 80 "TurnedFloors" "paper" "LTurnedFloors$Paper;") ∈ wsX9_cheapest := by decide +kernel
theorem f9_wsX9_cheapest_848 : (Cond.fieldLink RX9 50 "TurnedFloors" "judge" "LTurnedFloors$Judge;") ∈ wsX9_cheapest := by decide +kernel
theorem f9_wsX9_cheapest_849 : (Cond.fieldLink RX9 10 "TurnedFloors" "state" "LTurnedFloors$State;") ∈ wsX9_cheapest := by decide +kernel
theorem f9_wsX3_worstTowers_850 : (Cond.initialized RX9) ∈ wsX3_worstTowers := by decide +kernel
theorem u9_wsX3_worstTowers_X3 : ∀ w ∈ u_ws RX3 TX3 20, w ∈ wsX3_worstTowers := by
  first | exact fun w h => List.mem_cons_of_mem _ (List.mem_append_right _ h) | decide +kernel
theorem f9_wsX3_worstTowers_852 : (Cond.fieldLink RX3 55 "TurnedFloors$Paper" "size" "I") ∈ wsX3_worstTowers := by decide +kernel
theorem f9_wsX3_worstTowers_853 : (Cond.fieldLink RX3 39 "TurnedFloors$Paper" "toOrder" "[I") ∈ wsX3_worstTowers := by decide +kernel
theorem u9_wsX9_worst_X9 : ∀ w ∈ u_ws RX9 TX9 19, w ∈ wsX9_worst := by
  first | exact fun w h => List.mem_cons_of_mem _ (List.mem_append_right _ h) | decide +kernel
theorem f9_wsX9_worst_855 : (Cond.fieldLink RX9 80 "TurnedFloors" "paper" "LTurnedFloors$Paper;") ∈ wsX9_worst := by decide +kernel
theorem u9_wsX3_fits_X3 : ∀ w ∈ u_ws RX3 TX3 20, w ∈ wsX3_fits := by
  first | exact fun w h => List.mem_cons_of_mem _ (List.mem_append_right _ h) | decide +kernel
theorem f9_wsX3_fits_857 : (Cond.fieldLink RX3 51 "TurnedFloors$Paper" "floors" "I") ∈ wsX3_fits := by decide +kernel
theorem f9_wsX3_fits_858 : (Cond.fieldLink RX3 30 "TurnedFloors$Paper" "orders" "[I") ∈ wsX3_fits := by decide +kernel
set_option maxHeartbeats 4000000 in
set_option maxRecDepth 100000 in
theorem WX3_offerTurns_s32_105 {p : Program} {l : Launch} {e : Env} {s : State} {m : MethodId} {args : Array Value} {below : List Frame} {meth : Method} {c : Code} {D : va_G} {ty : Nat → ClassId} {eo : Nat → Nat} {A : Nat → Prop} {ad : Nat → Nat} {o1 : Int32} {o2 : dK} (C : dc_C p s m args meth c cX3_offerTurns (some .int) 7 RX3 wsX3_offerTurns D ty eo A) {k4 : dK → Int32 → Int32 → Int32 → Option (Int32 × dK)} (hk4 : ∀ (q : dK) (x1 : Int32) (x2 : Int32) (x3 : Int32) (H : Heap) (locs : List Loc) (ls : Array Slot), k4 q x1 x2 x3 = some (o1, o2) → va_P D vwCl (wF ty ad q) H → va_D A (wF ty ad q) → va_S A s.heap H locs → lv_has ls 7 [(0, .ref (ad 32)), (1, .int x1), (2, .int x2), (3, .int x3)] → W p l e ({ frames := 2, cells := 0, slots := 0, locals := 47 } : Room) s m args below meth c H locs 0 0 (MQ below (va_Qi (fun (r : Int32) (u : va_W) => o1 = r ∧ wF ty ad o2 = u) (kz_B D ty A) A) args s 0 0 A) (F0 m 4 ls [])) (q : dK) (x1 : Int32) (x2 : Int32) (x3 : Int32) (H : Heap) (locs : List Loc) (ls : Array Slot) (h : zX3_offerTurns_s32_105 k4 q x1 x2 x3 = some (o1, o2)) (hP : va_P D vwCl (wF ty ad q) H) (hD : va_D A (wF ty ad q)) (hS : va_S A s.heap H locs) (hl : lv_has ls 7 [(0, .ref (ad 32)), (1, .int x1), (2, .int x2), (3, .int x3)]) : W p l e ({ frames := 2, cells := 0, slots := 0, locals := 47 } : Room) s m args below meth c H locs 0 0 (MQ below (va_Qi (fun (r : Int32) (u : va_W) => o1 = r ∧ wF ty ad o2 = u) (kz_B D ty A) A) args s 0 0 A) (F0 m 105 ls []) := by
  have C0 := C
  obtain ⟨hx, hb, hr, hts, hown, hlocks, hml, hK, hN, hE, hA⟩ := C
  unfold zX3_offerTurns_s32_105 at h
  refine lv_iinc (v := x3 + 1) (lv' := [(3, .int (x3 + 1)), (0, .ref (ad 32)), (1, .int x1), (2, .int x2)]) hx hb dX3_offerTurns_105 hl (k := 3) rfl rfl (by decide) rfl (fun ls hl => ?_)
  refine lv_goto (tgt := 4) hx hb dX3_offerTurns_108 (by decide) ?_
  exact hk4 _ _ _ _ _ _ _ h hP hD hS (lv_sub hl [1, 2, 3, 0] rfl)
set_option maxHeartbeats 4000000 in
set_option maxRecDepth 100000 in
theorem WX3_offerTurns_s32_90 {p : Program} {l : Launch} {e : Env} {s : State} {m : MethodId} {args : Array Value} {below : List Frame} {meth : Method} {c : Code} {D : va_G} {ty : Nat → ClassId} {eo : Nat → Nat} {A : Nat → Prop} {ad : Nat → Nat} {o1 : Int32} {o2 : dK} (C : dc_C p s m args meth c cX3_offerTurns (some .int) 7 RX3 wsX3_offerTurns D ty eo A) {k4 : dK → Int32 → Int32 → Int32 → Option (Int32 × dK)} (hk4 : ∀ (q : dK) (x1 : Int32) (x2 : Int32) (x3 : Int32) (H : Heap) (locs : List Loc) (ls : Array Slot), k4 q x1 x2 x3 = some (o1, o2) → va_P D vwCl (wF ty ad q) H → va_D A (wF ty ad q) → va_S A s.heap H locs → lv_has ls 7 [(0, .ref (ad 32)), (1, .int x1), (2, .int x2), (3, .int x3)] → W p l e ({ frames := 2, cells := 0, slots := 0, locals := 47 } : Room) s m args below meth c H locs 0 0 (MQ below (va_Qi (fun (r : Int32) (u : va_W) => o1 = r ∧ wF ty ad o2 = u) (kz_B D ty A) A) args s 0 0 A) (F0 m 4 ls [])) (q : dK) (x1 : Int32) (x2 : Int32) (x3 : Int32) (x4 : Int32) (x6 : Int32) (H : Heap) (locs : List Loc) (ls : Array Slot) (h : zX3_offerTurns_s32_90 k4 q x1 x2 x3 x4 x6 = some (o1, o2)) (hP : va_P D vwCl (wF ty ad q) H) (hD : va_D A (wF ty ad q)) (hS : va_S A s.heap H locs) (hl : lv_has ls 7 [(0, .ref (ad 32)), (1, .int x1), (2, .int x2), (3, .int x3), (4, .int x4), (6, .int x6)]) : W p l e ({ frames := 2, cells := 0, slots := 0, locals := 47 } : Room) s m args below meth c H locs 0 0 (MQ below (va_Qi (fun (r : Int32) (u : va_W) => o1 = r ∧ wF ty ad o2 = u) (kz_B D ty A) A) args s 0 0 A) (F0 m 90 ls []) := by
  have C0 := C
  obtain ⟨hx, hb, hr, hts, hown, hlocks, hml, hK, hN, hE, hA⟩ := C
  unfold zX3_offerTurns_s32_90 at h
  refine lv_aload_n hx hb dX3_offerTurns_90 rfl (lv_at hl 0 rfl) ?_
  refine va_get (D := D) (ci := 3) (v := .ref (ad 43)) (C := RX3) (T := TX3) (N := 20) hx hb hts u9_wsX3_offerTurns_X3 hown hK hP 32 rfl rfl 10 (by decide) (hts (.fieldLink RX3 42 "TurnedFloors$Paper" "marks" "[I") f9_wsX3_offerTurns_833) (fun _ h9 => h9) rfl dX3_offerTurns_91 ?_
  refine lv_iload hx hb dX3_offerTurns_94 (lv_at hl 4 rfl) ?_
  refine lv_iload hx hb dX3_offerTurns_96 (lv_at hl 5 rfl) ?_
  obtain ⟨g1, h⟩ := dG_some h
  refine va_iast hx hb hK hP hD hS 43 0 rfl rfl (dg_in g1) dX3_offerTurns_98 (fun H locs hp hd hs => ?_)
  obtain ⟨q2, eq2, h⟩ := dL_some h
  refine kz_re (w2 := wF ty ad q2) hp hd hs (by rw [← eq2]; exact wF_a43 ty ad q (Int32.toNatClampNeg x4) x6) ?_
  clear hp hd hs hP hD hS
  intro hP hD hS
  refine lv_aload_n hx hb dX3_offerTurns_99 rfl (lv_at hl 0 rfl) ?_
  refine lv_iload hx hb dX3_offerTurns_100 (lv_at hl 4 rfl) ?_
  obtain ⟨q5, h4, h⟩ := dV_some h
  refine dw_kv (va_runV (As := [.int x4]) (rest := []) ⟨hx, hb, hml, hown, hts⟩ (qX3_putInBucket_s32 l D ty eo _ ad q2 x4 q5 h4) (cwV 1 hts gX3_offerTurns_X3_putInBucket rfl rfl rfl (by decide +kernel) ⟨Nat.le_of_ble_eq_true rfl, Nat.le_of_ble_eq_true rfl⟩) (dw_preV (ci := 3) (q0 := 32) hK hN hE hP hD hS hA rfl rfl) rfl rfl hl.1 rfl (lv_room (Nat.le_of_ble_eq_true rfl)) dX3_offerTurns_102 ⟨Nat.le_of_ble_eq_true rfl, Nat.le_of_ble_eq_true rfl⟩) hD hS hA (fun u9 H locs hw hp hd hs => ?_)
  clear hP hD hS
  obtain rfl := hw
  have hP := hp; have hD := hd; have hS := hs; clear hp hd hs
  exact WX3_offerTurns_s32_105 C0 hk4 _ _ _ _ _ _ _ h hP hD hS (lv_sub hl [0, 1, 2, 3] rfl)
set_option maxHeartbeats 4000000 in
set_option maxRecDepth 100000 in
theorem WX3_offerTurns_s32_4b {p : Program} {l : Launch} {e : Env} {s : State} {m : MethodId} {args : Array Value} {below : List Frame} {meth : Method} {c : Code} {D : va_G} {ty : Nat → ClassId} {eo : Nat → Nat} {A : Nat → Prop} {ad : Nat → Nat} {o1 : Int32} {o2 : dK} (C : dc_C p s m args meth c cX3_offerTurns (some .int) 7 RX3 wsX3_offerTurns D ty eo A) {k4 : dK → Int32 → Int32 → Int32 → Option (Int32 × dK)} (hk4 : ∀ (q : dK) (x1 : Int32) (x2 : Int32) (x3 : Int32) (H : Heap) (locs : List Loc) (ls : Array Slot), k4 q x1 x2 x3 = some (o1, o2) → va_P D vwCl (wF ty ad q) H → va_D A (wF ty ad q) → va_S A s.heap H locs → lv_has ls 7 [(0, .ref (ad 32)), (1, .int x1), (2, .int x2), (3, .int x3)] → W p l e ({ frames := 2, cells := 0, slots := 0, locals := 47 } : Room) s m args below meth c H locs 0 0 (MQ below (va_Qi (fun (r : Int32) (u : va_W) => o1 = r ∧ wF ty ad o2 = u) (kz_B D ty A) A) args s 0 0 A) (F0 m 4 ls [])) (q : dK) (x1 : Int32) (x2 : Int32) (x3 : Int32) (H : Heap) (locs : List Loc) (ls : Array Slot) (h : zX3_offerTurns_s32_4b k4 q x1 x2 x3 = some (o1, o2)) (hP : va_P D vwCl (wF ty ad q) H) (hD : va_D A (wF ty ad q)) (hS : va_S A s.heap H locs) (hl : lv_has ls 7 [(0, .ref (ad 32)), (1, .int x1), (2, .int x2), (3, .int x3)]) : W p l e ({ frames := 2, cells := 0, slots := 0, locals := 47 } : Room) s m args below meth c H locs 0 0 (MQ below (va_Qi (fun (r : Int32) (u : va_W) => o1 = r ∧ wF ty ad o2 = u) (kz_B D ty A) A) args s 0 0 A) (F0 m 4 ls []) := by
  have C0 := C
  obtain ⟨hx, hb, hr, hts, hown, hlocks, hml, hK, hN, hE, hA⟩ := C
  unfold zX3_offerTurns_s32_4b at h
  refine lv_iload_n hx hb dX3_offerTurns_4 rfl (lv_at hl 3 rfl) ?_
  refine lv_aload_n hx hb dX3_offerTurns_5 rfl (lv_at hl 0 rfl) ?_
  refine va_get (D := D) (ci := 3) (v := .int (q.1 32 13)) (C := RX3) (T := TX3) (N := 20) hx hb hts u9_wsX3_offerTurns_X3 hown hK hP 32 rfl rfl 13 (by decide) (hts (.fieldLink RX3 51 "TurnedFloors$Paper" "floors" "I") f9_wsX3_offerTurns_834) (fun _ h9 => h9) rfl dX3_offerTurns_6 ?_
  refine lv_icmp_gt (tgt := 111) hx hb dX3_offerTurns_9 (by decide) (fun c9 => ?_) (fun c9 => ?_)
  · rw [if_pos c9] at h
    refine lv_iload_n hx hb dX3_offerTurns_111 rfl (lv_at hl 2 rfl) ?_
    cases h
    exact kz_iret hx hb hr hlocks hP hK hD hS dX3_offerTurns_112 ⟨rfl, rfl⟩
  · rw [if_neg c9] at h
    refine lv_aload_n hx hb dX3_offerTurns_12 rfl (lv_at hl 0 rfl) ?_
    refine lv_iload_n hx hb dX3_offerTurns_13 rfl (lv_at hl 1 rfl) ?_
    refine lv_iload_n hx hb dX3_offerTurns_14 rfl (lv_at hl 3 rfl) ?_
    obtain ⟨r1, q3, h2, h⟩ := dB_some h
    refine dw_ki (va_runV (As := [.int x1, .int x3]) (rest := []) ⟨hx, hb, hml, hown, hts⟩ (qX3_turned_s32 l D ty eo _ ad q x1 x3 r1 q3 h2) (cwV 2 hts gX3_offerTurns_X3_turned rfl rfl rfl (by decide +kernel) ⟨Nat.le_of_ble_eq_true rfl, Nat.le_of_ble_eq_true rfl⟩) (dw_preV (ci := 3) (q0 := 32) hK hN hE hP hD hS hA rfl rfl) rfl rfl hl.1 rfl (lv_room (Nat.le_of_ble_eq_true rfl)) dX3_offerTurns_15 ⟨Nat.le_of_ble_eq_true rfl, Nat.le_of_ble_eq_true rfl⟩) hD hS hA (fun r9 u9 H locs hw hp hd hs => ?_)
    clear hP hD hS
    obtain ⟨rfl, rfl⟩ := hw
    have hP := hp; have hD := hd; have hS := hs; clear hp hd hs
    refine lv_istore (lv' := [(4, .int r1), (0, .ref (ad 32)), (1, .int x1), (2, .int x2), (3, .int x3)]) hx hb dX3_offerTurns_18 hl (by decide) rfl (fun ls hl => ?_)
    refine lv_aload_n hx hb dX3_offerTurns_20 rfl (lv_at hl 1 rfl) ?_
    refine lv_iload_n hx hb dX3_offerTurns_21 rfl (lv_at hl 2 rfl) ?_
    refine lv_iload_n hx hb dX3_offerTurns_22 rfl (lv_at hl 4 rfl) ?_
    obtain ⟨r4, q6, h5, h⟩ := dB_some h
    refine dw_ki (va_runV (As := [.int x1, .int x3]) (rest := []) ⟨hx, hb, hml, hown, hts⟩ (qX3_caseOf_s32 l D ty eo _ ad q3 x1 x3 r4 q6 h5) (cwV 2 hts gX3_offerTurns_X3_caseOf rfl rfl rfl (by decide +kernel) ⟨Nat.le_of_ble_eq_true rfl, Nat.le_of_ble_eq_true rfl⟩) (dw_preV (ci := 3) (q0 := 32) hK hN hE hP hD hS hA rfl rfl) rfl rfl hl.1 rfl (lv_room (Nat.le_of_ble_eq_true rfl)) dX3_offerTurns_23 ⟨Nat.le_of_ble_eq_true rfl, Nat.le_of_ble_eq_true rfl⟩) hD hS hA (fun r9 u9 H locs hw hp hd hs => ?_)
    clear hP hD hS
    obtain ⟨rfl, rfl⟩ := hw
    have hP := hp; have hD := hd; have hS := hs; clear hp hd hs
    refine lv_istore (lv' := [(5, .int r4), (4, .int r1), (0, .ref (ad 32)), (1, .int x1), (2, .int x2), (3, .int x3)]) hx hb dX3_offerTurns_26 hl (by decide) rfl (fun ls hl => ?_)
    refine lv_aload_n hx hb dX3_offerTurns_28 rfl (lv_at hl 2 rfl) ?_
    refine va_get (D := D) (ci := 3) (v := .ref (ad 43)) (C := RX3) (T := TX3) (N := 20) hx hb hts u9_wsX3_offerTurns_X3 hown hK hP 32 rfl rfl 10 (by decide) (hts (.fieldLink RX3 42 "TurnedFloors$Paper" "marks" "[I") f9_wsX3_offerTurns_833) (fun _ h9 => h9) rfl dX3_offerTurns_29 ?_
    refine lv_iload_n hx hb dX3_offerTurns_32 rfl (lv_at hl 3 rfl) ?_
    obtain ⟨g7, h⟩ := dG_some h
    refine va_iald hx hb hK hP 43 0 rfl rfl (dg_in g7) dX3_offerTurns_33 ?_
    obtain ⟨v8, ev8, h⟩ := dL_some h
    refine kz_topi v8 ev8 ?_
    refine lv_aload_n hx hb dX3_offerTurns_34 rfl (lv_at hl 2 rfl) ?_
    refine va_get (D := D) (ci := 3) (v := .ref (ad 36)) (C := RX3) (T := TX3) (N := 20) hx hb hts u9_wsX3_offerTurns_X3 hown hK hP 32 rfl rfl 3 (by decide) (hts (.fieldLink RX3 21 "TurnedFloors$Paper" "pays" "[I") f9_wsX3_offerTurns_835) (fun _ h9 => h9) rfl dX3_offerTurns_35 ?_
    refine lv_iload hx hb dX3_offerTurns_38 (lv_at hl 0 rfl) ?_
    obtain ⟨g9, h⟩ := dG_some h
    refine va_iald hx hb hK hP 36 0 rfl rfl (dg_in g9) dX3_offerTurns_40 ?_
    obtain ⟨v10, ev10, h⟩ := dL_some h
    refine kz_topi v10 ev10 ?_
    refine lv_iadd hx hb dX3_offerTurns_41 ?_
    refine lv_istore (lv' := [(6, .int (v8 + v10)), (5, .int r4), (4, .int r1), (0, .ref (ad 32)), (1, .int x1), (2, .int x2), (3, .int x3)]) hx hb dX3_offerTurns_42 hl (by decide) rfl (fun ls hl => ?_)
    refine lv_aload_n hx hb dX3_offerTurns_44 rfl (lv_at hl 3 rfl) ?_
    refine va_get (D := D) (ci := 3) (v := .ref (ad 35)) (C := RX3) (T := TX3) (N := 20) hx hb hts u9_wsX3_offerTurns_X3 hown hK hP 32 rfl rfl 2 (by decide) (hts (.fieldLink RX3 18 "TurnedFloors$Paper" "barred" "[I") f9_wsX3_offerTurns_836) (fun _ h9 => h9) rfl dX3_offerTurns_45 ?_
    refine lv_iload hx hb dX3_offerTurns_48 (lv_at hl 1 rfl) ?_
    obtain ⟨g11, h⟩ := dG_some h
    refine va_iald hx hb hK hP 35 0 rfl rfl (dg_in g11) dX3_offerTurns_50 ?_
    obtain ⟨v12, ev12, h⟩ := dL_some h
    refine kz_topi v12 ev12 ?_
    refine lv_if_ne (tgt := 105) hx hb dX3_offerTurns_51 (by decide) (fun c9 => ?_) (fun c9 => ?_)
    · rw [if_neg c9] at h
      exact WX3_offerTurns_s32_105 C0 hk4 _ _ _ _ _ _ _ h hP hD hS (lv_sub hl [3, 4, 5, 6] rfl)
    · rw [if_pos c9] at h
      refine lv_iload hx hb dX3_offerTurns_54 (lv_at hl 0 rfl) ?_
      refine lv_aload_n hx hb dX3_offerTurns_56 rfl (lv_at hl 3 rfl) ?_
      refine va_get (D := D) (ci := 3) (v := .ref (ad 43)) (C := RX3) (T := TX3) (N := 20) hx hb hts u9_wsX3_offerTurns_X3 hown hK hP 32 rfl rfl 10 (by decide) (hts (.fieldLink RX3 42 "TurnedFloors$Paper" "marks" "[I") f9_wsX3_offerTurns_833) (fun _ h9 => h9) rfl dX3_offerTurns_57 ?_
      refine lv_iload hx hb dX3_offerTurns_60 (lv_at hl 2 rfl) ?_
      obtain ⟨g13, h⟩ := dG_some h
      refine va_iald hx hb hK hP 43 0 rfl rfl (dg_in g13) dX3_offerTurns_62 ?_
      obtain ⟨v14, ev14, h⟩ := dL_some h
      refine kz_topi v14 ev14 ?_
      refine lv_icmp_ge (tgt := 105) hx hb dX3_offerTurns_63 (by decide) (fun c9 => ?_) (fun c9 => ?_)
      · rw [if_pos c9] at h
        exact WX3_offerTurns_s32_105 C0 hk4 _ _ _ _ _ _ _ h hP hD hS (lv_sub hl [3, 4, 5, 6] rfl)
      · rw [if_neg c9] at h
        refine lv_aload_n hx hb dX3_offerTurns_66 rfl (lv_at hl 3 rfl) ?_
        refine va_get (D := D) (ci := 3) (v := .ref (ad 43)) (C := RX3) (T := TX3) (N := 20) hx hb hts u9_wsX3_offerTurns_X3 hown hK hP 32 rfl rfl 10 (by decide) (hts (.fieldLink RX3 42 "TurnedFloors$Paper" "marks" "[I") f9_wsX3_offerTurns_833) (fun _ h9 => h9) rfl dX3_offerTurns_67 ?_
        refine lv_iload hx hb dX3_offerTurns_70 (lv_at hl 2 rfl) ?_
        obtain ⟨g15, h⟩ := dG_some h
        refine va_iald hx hb hK hP 43 0 rfl rfl (dg_in g15) dX3_offerTurns_72 ?_
        obtain ⟨v16, ev16, h⟩ := dL_some h
        refine kz_topi v16 ev16 ?_
        refine lv_ldc (v := 2000000000) hx hb hown (hts (.constant RX3 140 2000000000) f9_wsX3_offerTurns_837) dX3_offerTurns_73 ?_
        refine lv_icmp_ne (tgt := 84) hx hb dX3_offerTurns_75 (by decide) (fun c9 => ?_) (fun c9 => ?_)
        · rw [if_neg c9] at h
          refine lv_aload_n hx hb dX3_offerTurns_84 rfl (lv_at hl 3 rfl) ?_
          refine lv_iload hx hb dX3_offerTurns_85 (lv_at hl 2 rfl) ?_
          obtain ⟨q19, h18, h⟩ := dV_some h
          refine dw_kv (va_runV (As := [.int r1]) (rest := []) ⟨hx, hb, hml, hown, hts⟩ (qX3_takeFromBucket_s32 l D ty eo _ ad q6 r1 q19 h18) (cwV 1 hts gX3_offerTurns_X3_takeFromBucket rfl rfl rfl (by decide +kernel) ⟨Nat.le_of_ble_eq_true rfl, Nat.le_of_ble_eq_true rfl⟩) (dw_preV (ci := 3) (q0 := 32) hK hN hE hP hD hS hA rfl rfl) rfl rfl hl.1 rfl (lv_room (Nat.le_of_ble_eq_true rfl)) dX3_offerTurns_87 ⟨Nat.le_of_ble_eq_true rfl, Nat.le_of_ble_eq_true rfl⟩) hD hS hA (fun u9 H locs hw hp hd hs => ?_)
          clear hP hD hS
          obtain rfl := hw
          have hP := hp; have hD := hd; have hS := hs; clear hp hd hs
          exact WX3_offerTurns_s32_90 C0 hk4 _ _ _ _ _ _ _ _ _ h hP hD hS (lv_sub hl [3, 4, 5, 6, 2, 0] rfl)
        · rw [if_pos c9] at h
          refine lv_iinc (v := x2 + 1) (lv' := [(2, .int (x2 + 1)), (6, .int (v8 + v10)), (5, .int r4), (4, .int r1), (0, .ref (ad 32)), (1, .int x1), (3, .int x3)]) hx hb dX3_offerTurns_78 hl (k := 5) rfl rfl (by decide) rfl (fun ls hl => ?_)
          refine lv_goto (tgt := 90) hx hb dX3_offerTurns_81 (by decide) ?_
          exact WX3_offerTurns_s32_90 C0 hk4 _ _ _ _ _ _ _ _ _ h hP hD hS (lv_sub hl [4, 5, 0, 6, 3, 1] rfl)
set_option maxHeartbeats 4000000 in
set_option maxRecDepth 100000 in
theorem WX3_offerTurns_s32_4 {p : Program} {l : Launch} {e : Env} {s : State} {m : MethodId} {args : Array Value} {below : List Frame} {meth : Method} {c : Code} {D : va_G} {ty : Nat → ClassId} {eo : Nat → Nat} {A : Nat → Prop} {ad : Nat → Nat} {o1 : Int32} {o2 : dK} (C : dc_C p s m args meth c cX3_offerTurns (some .int) 7 RX3 wsX3_offerTurns D ty eo A)   (n : Nat) (q : dK) (x1 : Int32) (x2 : Int32) (x3 : Int32) (H : Heap) (locs : List Loc) (ls : Array Slot) (h : zX3_offerTurns_s32_4  n q x1 x2 x3 = some (o1, o2)) (hP : va_P D vwCl (wF ty ad q) H) (hD : va_D A (wF ty ad q)) (hS : va_S A s.heap H locs) (hl : lv_has ls 7 [(0, .ref (ad 32)), (1, .int x1), (2, .int x2), (3, .int x3)]) : W p l e ({ frames := 2, cells := 0, slots := 0, locals := 47 } : Room) s m args below meth c H locs 0 0 (MQ below (va_Qi (fun (r : Int32) (u : va_W) => o1 = r ∧ wF ty ad o2 = u) (kz_B D ty A) A) args s 0 0 A) (F0 m 4 ls []) := by
  exact dFix_W (F := fun k (a : dK × Int32 × Int32 × Int32) => zX3_offerTurns_s32_4b  (fun q x1 x2 x3 => k (q, x1, x2, x3)) a.1 a.2.1 a.2.2.1 a.2.2.2) (o := (o1, o2)) (P := fun (a : dK × Int32 × Int32 × Int32) H locs ls => va_P D vwCl (wF ty ad a.1) H ∧ va_D A (wF ty ad a.1) ∧ va_S A s.heap H locs ∧ lv_has ls 7 [(0, .ref (ad 32)), (1, .int a.2.1), (2, .int a.2.2.1), (3, .int a.2.2.2)]) (G := fun H locs ls => W p l e ({ frames := 2, cells := 0, slots := 0, locals := 47 } : Room) s m args below meth c H locs 0 0 (MQ below (va_Qi (fun (r : Int32) (u : va_W) => o1 = r ∧ wF ty ad o2 = u) (kz_B D ty A) A) args s 0 0 A) (F0 m 4 ls []))
    (fun k hk a H locs ls h hp => WX3_offerTurns_s32_4b C  (fun q x1 x2 x3 H locs ls h h1 h2 h3 h4 => hk (q, x1, x2, x3) H locs ls h ⟨h1, h2, h3, h4⟩) a.1 a.2.1 a.2.2.1 a.2.2.2 H locs ls h hp.1 hp.2.1 hp.2.2.1 hp.2.2.2) n (q, x1, x2, x3) H locs ls h ⟨hP, hD, hS, hl⟩
set_option maxHeartbeats 4000000 in
set_option maxRecDepth 100000 in
theorem qX3_offerTurns_s32 (l : Launch) (D : va_G) (ty : Nat → ClassId) (eo : Nat → Nat) (sz : Nat) (ad : Nat → Nat) (q : dK) (p1 : Int32) (o1 : Int32) (o2 : dK) (h : zX3_offerTurns_s32 q p1 = some (o1, o2)) : Met l yX3_offerTurns wsX3_offerTurns ({ frames := 2, cells := 0, slots := 0, locals := 47 } : Room) (va_Pc [.ref (ad 32), .int p1] (kz_pre D ty eo (wF ty ad q) sz)) (va_Qi (fun (r : Int32) (u : va_W) => o1 = r ∧ wF ty ad o2 = u) (kz_B D ty (va_A (wF ty ad q) sz)) (va_A (wF ty ad q) sz)) 0 0 (va_A (wF ty ad q) sz) := by
  refine Met.ofW (cc := cX3_offerTurns) (maxL := 7) (ret := (some .int)) (by decide) rfl ?_
  intro p e s m args below meth c s₁ B hml hv
  obtain ⟨rfl, hsz, hP, hK, hD0, hN, hE⟩ := hv
  have hx := B.exec
  have hb := B.bytes
  have hr := B.returns
  have hts := atoms_spec (ws := wsX3_offerTurns) B.pre
  have hown : s.vm.findClass RX3 = some m.cls := findClass_of_methodNamed B.named
  have hlocks := B.notSynchronized
  subst hsz
  have hD := hD0.self (sz := s.heap.size)
  generalize hAe : va_A (wF ty ad q) s.heap.size = A at hD hE ⊢
  have hA : ∀ q : Nat, s.heap.size ≤ q → A q := fun q h => by rw [← hAe]; exact Or.inr h
  clear hAe
  have hS : va_S A s.heap s.heap [] := va_S.rf
  have hl := lv_entry ([.ref (ad 32), .int p1]) (n := 7) (Nat.le_of_ble_eq_true rfl)
  rw [lg_entry_eq]
  generalize (lg_sl ([.ref (ad 32), .int p1]) ++ List.replicate (7 - (lg_sl ([.ref (ad 32), .int p1])).length) Slot.unset).toArray = ls at hl ⊢
  have hl : lv_has ls 7 [(0, .ref (ad 32)), (1, .int p1)] := hl
  have C : dc_C p s m _ meth c cX3_offerTurns (some .int) 7 RX3 wsX3_offerTurns D ty eo A := ⟨hx, hb, hr, hts, hown, hlocks, hml, hK, hN, hE, hA⟩
  unfold zX3_offerTurns_s32 at h
  refine lv_iconst (v := 0) hx hb dX3_offerTurns_0 (by decide) ?_
  refine lv_istore_n (lv' := [(2, .int 0), (0, .ref (ad 32)), (1, .int p1)]) hx hb dX3_offerTurns_1 rfl hl (by decide) rfl (fun ls hl => ?_)
  refine lv_iconst (v := 1) hx hb dX3_offerTurns_2 (by decide) ?_
  refine lv_istore_n (lv' := [(3, .int 1), (2, .int 0), (0, .ref (ad 32)), (1, .int p1)]) hx hb dX3_offerTurns_3 rfl hl (by decide) rfl (fun ls hl => ?_)
  exact WX3_offerTurns_s32_4 C  _ _ _ _ _ _ _ _ h hP hD hS (lv_sub hl [2, 3, 1, 0] rfl)

set_option maxHeartbeats 4000000 in
set_option maxRecDepth 100000 in
theorem WX3_leastPaid_s32_s20_143 {p : Program} {l : Launch} {e : Env} {s : State} {m : MethodId} {args : Array Value} {below : List Frame} {meth : Method} {c : Code} {D : va_G} {ty : Nat → ClassId} {eo : Nat → Nat} {A : Nat → Prop} {ad : Nat → Nat} {o1 : Int32} {o2 : dK} (C : dc_C p s m args meth c cX3_leastPaid (some .int) 8 RX3 wsX3_leastPaid D ty eo A)   (q : dK)  (H : Heap) (locs : List Loc) (ls : Array Slot) (h : zX3_leastPaid_s32_s20_143  q = some (o1, o2)) (hP : va_P D vwCl (wF ty ad q) H) (hD : va_D A (wF ty ad q)) (hS : va_S A s.heap H locs) (hl : lv_has ls 8 []) : W p l e ({ frames := 4, cells := 0, slots := 0, locals := 113 } : Room) s m args below meth c H locs 0 0 (MQ below (va_Qi (fun (r : Int32) (u : va_W) => o1 = r ∧ wF ty ad o2 = u) (kz_B D ty A) A) args s 0 0 A) (F0 m 143 ls []) := by
  have C0 := C
  obtain ⟨hx, hb, hr, hts, hown, hlocks, hml, hK, hN, hE, hA⟩ := C
  unfold zX3_leastPaid_s32_s20_143 at h
  refine lv_iconst (v := (-1)) hx hb dX3_leastPaid_143 (by decide) ?_
  cases h
  exact kz_iret hx hb hr hlocks hP hK hD hS dX3_leastPaid_144 ⟨rfl, rfl⟩
set_option maxHeartbeats 4000000 in
set_option maxRecDepth 100000 in
theorem WX3_leastPaid_s32_s20_137 {p : Program} {l : Launch} {e : Env} {s : State} {m : MethodId} {args : Array Value} {below : List Frame} {meth : Method} {c : Code} {D : va_G} {ty : Nat → ClassId} {eo : Nat → Nat} {A : Nat → Prop} {ad : Nat → Nat} {o1 : Int32} {o2 : dK} (C : dc_C p s m args meth c cX3_leastPaid (some .int) 8 RX3 wsX3_leastPaid D ty eo A) {k47 : dK → Int32 → Int32 → Option (Int32 × dK)} (hk47 : ∀ (q : dK) (x3 : Int32) (x4 : Int32) (H : Heap) (locs : List Loc) (ls : Array Slot), k47 q x3 x4 = some (o1, o2) → va_P D vwCl (wF ty ad q) H → va_D A (wF ty ad q) → va_S A s.heap H locs → lv_has ls 8 [(0, .ref (ad 32)), (3, .int x3), (4, .int x4)] → W p l e ({ frames := 4, cells := 0, slots := 0, locals := 113 } : Room) s m args below meth c H locs 0 0 (MQ below (va_Qi (fun (r : Int32) (u : va_W) => o1 = r ∧ wF ty ad o2 = u) (kz_B D ty A) A) args s 0 0 A) (F0 m 47 ls [])) (q : dK) (x3 : Int32) (x4 : Int32) (H : Heap) (locs : List Loc) (ls : Array Slot) (h : zX3_leastPaid_s32_s20_137 k47 q x3 x4 = some (o1, o2)) (hP : va_P D vwCl (wF ty ad q) H) (hD : va_D A (wF ty ad q)) (hS : va_S A s.heap H locs) (hl : lv_has ls 8 [(0, .ref (ad 32)), (3, .int x3), (4, .int x4)]) : W p l e ({ frames := 4, cells := 0, slots := 0, locals := 113 } : Room) s m args below meth c H locs 0 0 (MQ below (va_Qi (fun (r : Int32) (u : va_W) => o1 = r ∧ wF ty ad o2 = u) (kz_B D ty A) A) args s 0 0 A) (F0 m 137 ls []) := by
  have C0 := C
  obtain ⟨hx, hb, hr, hts, hown, hlocks, hml, hK, hN, hE, hA⟩ := C
  unfold zX3_leastPaid_s32_s20_137 at h
  refine lv_iinc (v := x4 + 1) (lv' := [(4, .int (x4 + 1)), (0, .ref (ad 32)), (3, .int x3)]) hx hb dX3_leastPaid_137 hl (k := 2) rfl rfl (by decide) rfl (fun ls hl => ?_)
  refine lv_goto (tgt := 47) hx hb dX3_leastPaid_140 (by decide) ?_
  exact hk47 _ _ _ _ _ _ h hP hD hS (lv_sub hl [1, 2, 0] rfl)
set_option maxHeartbeats 4000000 in
set_option maxRecDepth 100000 in
theorem WX3_leastPaid_s32_s20_73b {p : Program} {l : Launch} {e : Env} {s : State} {m : MethodId} {args : Array Value} {below : List Frame} {meth : Method} {c : Code} {D : va_G} {ty : Nat → ClassId} {eo : Nat → Nat} {A : Nat → Prop} {ad : Nat → Nat} {o1 : Int32} {o2 : dK} (C : dc_C p s m args meth c cX3_leastPaid (some .int) 8 RX3 wsX3_leastPaid D ty eo A) {k47 : dK → Int32 → Int32 → Option (Int32 × dK)} {k73 : dK → Int32 → Int32 → Int32 → Int32 → Option (Int32 × dK)} (hk47 : ∀ (q : dK) (x3 : Int32) (x4 : Int32) (H : Heap) (locs : List Loc) (ls : Array Slot), k47 q x3 x4 = some (o1, o2) → va_P D vwCl (wF ty ad q) H → va_D A (wF ty ad q) → va_S A s.heap H locs → lv_has ls 8 [(0, .ref (ad 32)), (3, .int x3), (4, .int x4)] → W p l e ({ frames := 4, cells := 0, slots := 0, locals := 113 } : Room) s m args below meth c H locs 0 0 (MQ below (va_Qi (fun (r : Int32) (u : va_W) => o1 = r ∧ wF ty ad o2 = u) (kz_B D ty A) A) args s 0 0 A) (F0 m 47 ls [])) (hk73 : ∀ (q : dK) (x3 : Int32) (x4 : Int32) (x5 : Int32) (x6 : Int32) (H : Heap) (locs : List Loc) (ls : Array Slot), k73 q x3 x4 x5 x6 = some (o1, o2) → va_P D vwCl (wF ty ad q) H → va_D A (wF ty ad q) → va_S A s.heap H locs → lv_has ls 8 [(0, .ref (ad 32)), (3, .int x3), (4, .int x4), (5, .int x5), (6, .int x6)] → W p l e ({ frames := 4, cells := 0, slots := 0, locals := 113 } : Room) s m args below meth c H locs 0 0 (MQ below (va_Qi (fun (r : Int32) (u : va_W) => o1 = r ∧ wF ty ad o2 = u) (kz_B D ty A) A) args s 0 0 A) (F0 m 73 ls [])) (q : dK) (x3 : Int32) (x4 : Int32) (x5 : Int32) (x6 : Int32) (H : Heap) (locs : List Loc) (ls : Array Slot) (h : zX3_leastPaid_s32_s20_73b k47 k73 q x3 x4 x5 x6 = some (o1, o2)) (hP : va_P D vwCl (wF ty ad q) H) (hD : va_D A (wF ty ad q)) (hS : va_S A s.heap H locs) (hl : lv_has ls 8 [(0, .ref (ad 32)), (3, .int x3), (4, .int x4), (5, .int x5), (6, .int x6)]) : W p l e ({ frames := 4, cells := 0, slots := 0, locals := 113 } : Room) s m args below meth c H locs 0 0 (MQ below (va_Qi (fun (r : Int32) (u : va_W) => o1 = r ∧ wF ty ad o2 = u) (kz_B D ty A) A) args s 0 0 A) (F0 m 73 ls []) := by
  have C0 := C
  obtain ⟨hx, hb, hr, hts, hown, hlocks, hml, hK, hN, hE, hA⟩ := C
  unfold zX3_leastPaid_s32_s20_73b at h
  refine lv_iload hx hb dX3_leastPaid_73 (lv_at hl 4 rfl) ?_
  refine lv_aload_n hx hb dX3_leastPaid_75 rfl (lv_at hl 0 rfl) ?_
  refine va_get (D := D) (ci := 3) (v := .int (q.1 32 14)) (C := RX3) (T := TX3) (N := 20) hx hb hts u9_wsX3_leastPaid_X3 hown hK hP 32 rfl rfl 14 (by decide) (hts (.fieldLink RX3 55 "TurnedFloors$Paper" "size" "I") f9_wsX3_leastPaid_839) (fun _ h9 => h9) rfl dX3_leastPaid_76 ?_
  refine lv_icmp_ge (tgt := 137) hx hb dX3_leastPaid_79 (by decide) (fun c9 => ?_) (fun c9 => ?_)
  · rw [if_pos c9] at h
    exact WX3_leastPaid_s32_s20_137 C0 hk47 _ _ _ _ _ _ h hP hD hS (lv_sub hl [0, 1, 2] rfl)
  · rw [if_neg c9] at h
    refine lv_aload_n hx hb dX3_leastPaid_82 rfl (lv_at hl 0 rfl) ?_
    refine va_get (D := D) (ci := 3) (v := .ref (ad 38)) (C := RX3) (T := TX3) (N := 20) hx hb hts u9_wsX3_leastPaid_X3 hown hK hP 32 rfl rfl 5 (by decide) (hts (.fieldLink RX3 27 "TurnedFloors$Paper" "buckets" "[I") f9_wsX3_leastPaid_840) (fun _ h9 => h9) rfl dX3_leastPaid_83 ?_
    refine lv_iload hx hb dX3_leastPaid_86 (lv_at hl 3 rfl) ?_
    obtain ⟨g1, h⟩ := dG_some h
    refine va_iald hx hb hK hP 38 0 rfl rfl (dg_in g1) dX3_leastPaid_88 ?_
    obtain ⟨v2, ev2, h⟩ := dL_some h
    refine kz_topi v2 ev2 ?_
    refine lv_iconst (v := (-1)) hx hb dX3_leastPaid_89 (by decide) ?_
    refine lv_icmp_eq (tgt := 137) hx hb dX3_leastPaid_90 (by decide) (fun c9 => ?_) (fun c9 => ?_)
    · rw [if_pos c9] at h
      exact WX3_leastPaid_s32_s20_137 C0 hk47 _ _ _ _ _ _ h hP hD hS (lv_sub hl [0, 1, 2] rfl)
    · rw [if_neg c9] at h
      refine lv_aload_n hx hb dX3_leastPaid_93 rfl (lv_at hl 0 rfl) ?_
      refine va_get (D := D) (ci := 3) (v := .ref (ad 38)) (C := RX3) (T := TX3) (N := 20) hx hb hts u9_wsX3_leastPaid_X3 hown hK hP 32 rfl rfl 5 (by decide) (hts (.fieldLink RX3 27 "TurnedFloors$Paper" "buckets" "[I") f9_wsX3_leastPaid_840) (fun _ h9 => h9) rfl dX3_leastPaid_94 ?_
      refine lv_iload hx hb dX3_leastPaid_97 (lv_at hl 3 rfl) ?_
      obtain ⟨g3, h⟩ := dG_some h
      refine va_iald hx hb hK hP 38 0 rfl rfl (dg_in g3) dX3_leastPaid_99 ?_
      obtain ⟨v4, ev4, h⟩ := dL_some h
      refine kz_topi v4 ev4 ?_
      refine lv_istore (lv' := [(7, .int v4), (0, .ref (ad 32)), (3, .int x3), (4, .int x4), (5, .int x5), (6, .int x6)]) hx hb dX3_leastPaid_100 hl (by decide) rfl (fun ls hl => ?_)
      refine lv_aload_n hx hb dX3_leastPaid_102 rfl (lv_at hl 1 rfl) ?_
      refine lv_iload hx hb dX3_leastPaid_103 (lv_at hl 0 rfl) ?_
      obtain ⟨q7, h6, h⟩ := dV_some h
      refine dw_kv (va_runV (As := [.int v4]) (rest := []) ⟨hx, hb, hml, hown, hts⟩ (qX3_takeFromBucket_s32 l D ty eo _ ad q v4 q7 h6) (cwV 1 hts gX3_leastPaid_X3_takeFromBucket rfl rfl rfl (by decide +kernel) ⟨Nat.le_of_ble_eq_true rfl, Nat.le_of_ble_eq_true rfl⟩) (dw_preV (ci := 3) (q0 := 32) hK hN hE hP hD hS hA rfl rfl) rfl rfl hl.1 rfl (lv_room (Nat.le_of_ble_eq_true rfl)) dX3_leastPaid_105 ⟨Nat.le_of_ble_eq_true rfl, Nat.le_of_ble_eq_true rfl⟩) hD hS hA (fun u9 H locs hw hp hd hs => ?_)
      clear hP hD hS
      obtain rfl := hw
      have hP := hp; have hD := hd; have hS := hs; clear hp hd hs
      refine lv_aload_n hx hb dX3_leastPaid_108 rfl (lv_at hl 1 rfl) ?_
      refine lv_iload hx hb dX3_leastPaid_109 (lv_at hl 0 rfl) ?_
      obtain ⟨r8, q10, h9, h⟩ := dB_some h
      refine dw_ki (va_runV (As := [.int v4]) (rest := []) ⟨hx, hb, hml, hown, hts⟩ (qX3_isOrdered_s32 l D ty eo _ ad q7 v4 r8 q10 h9) (cwV 1 hts gX3_leastPaid_X3_isOrdered rfl rfl rfl (by decide +kernel) ⟨Nat.le_of_ble_eq_true rfl, Nat.le_of_ble_eq_true rfl⟩) (dw_preV (ci := 3) (q0 := 32) hK hN hE hP hD hS hA rfl rfl) rfl rfl hl.1 rfl (lv_room (Nat.le_of_ble_eq_true rfl)) dX3_leastPaid_111 ⟨Nat.le_of_ble_eq_true rfl, Nat.le_of_ble_eq_true rfl⟩) hD hS hA (fun r9 u9 H locs hw hp hd hs => ?_)
      clear hP hD hS
      obtain ⟨rfl, rfl⟩ := hw
      have hP := hp; have hD := hd; have hS := hs; clear hp hd hs
      refine lv_if_eq (tgt := 120) hx hb dX3_leastPaid_114 (by decide) (fun c9 => ?_) (fun c9 => ?_)
      · rw [if_pos c9] at h
        refine lv_iload_n hx hb dX3_leastPaid_120 rfl (lv_at hl 2 rfl) ?_
        refine lv_aload_n hx hb dX3_leastPaid_121 rfl (lv_at hl 1 rfl) ?_
        refine lv_iload hx hb dX3_leastPaid_122 (lv_at hl 0 rfl) ?_
        obtain ⟨r11, q13, h12, h⟩ := dB_some h
        refine dw_ki (va_runV (As := [.int v4]) (rest := [.int x3]) ⟨hx, hb, hml, hown, hts⟩ (qX3_offerTurns_s32 l D ty eo _ ad q10 v4 r11 q13 h12) (cwV 1 hts gX3_leastPaid_X3_offerTurns rfl rfl rfl (by decide +kernel) ⟨Nat.le_of_ble_eq_true rfl, Nat.le_of_ble_eq_true rfl⟩) (dw_preV (ci := 3) (q0 := 32) hK hN hE hP hD hS hA rfl rfl) rfl rfl hl.1 rfl (lv_room (Nat.le_of_ble_eq_true rfl)) dX3_leastPaid_124 ⟨Nat.le_of_ble_eq_true rfl, Nat.le_of_ble_eq_true rfl⟩) hD hS hA (fun r9 u9 H locs hw hp hd hs => ?_)
        clear hP hD hS
        obtain ⟨rfl, rfl⟩ := hw
        have hP := hp; have hD := hd; have hS := hs; clear hp hd hs
        refine lv_iconst (v := 1) hx hb dX3_leastPaid_127 (by decide) ?_
        refine lv_isub hx hb dX3_leastPaid_128 ?_
        refine lv_iadd hx hb dX3_leastPaid_129 ?_
        refine lv_istore_n (lv' := [(3, .int (x3 + (r11 - 1 : Int32))), (7, .int v4), (0, .ref (ad 32)), (4, .int x4), (5, .int x5), (6, .int x6)]) hx hb dX3_leastPaid_130 rfl hl (by decide) rfl (fun ls hl => ?_)
        refine lv_iinc (v := x6 + 1) (lv' := [(6, .int (x6 + 1)), (3, .int (x3 + (r11 - 1 : Int32))), (7, .int v4), (0, .ref (ad 32)), (4, .int x4), (5, .int x5)]) hx hb dX3_leastPaid_131 hl (k := 5) rfl rfl (by decide) rfl (fun ls hl => ?_)
        refine lv_goto (tgt := 73) hx hb dX3_leastPaid_134 (by decide) ?_
        exact hk73 _ _ _ _ _ _ _ _ h hP hD hS (lv_sub hl [3, 1, 4, 5, 0] rfl)
      · rw [if_neg c9] at h
        refine lv_iload hx hb dX3_leastPaid_117 (lv_at hl 3 rfl) ?_
        cases h
        exact kz_iret hx hb hr hlocks hP hK hD hS dX3_leastPaid_119 ⟨rfl, rfl⟩
set_option maxHeartbeats 4000000 in
set_option maxRecDepth 100000 in
theorem WX3_leastPaid_s32_s20_73 {p : Program} {l : Launch} {e : Env} {s : State} {m : MethodId} {args : Array Value} {below : List Frame} {meth : Method} {c : Code} {D : va_G} {ty : Nat → ClassId} {eo : Nat → Nat} {A : Nat → Prop} {ad : Nat → Nat} {o1 : Int32} {o2 : dK} (C : dc_C p s m args meth c cX3_leastPaid (some .int) 8 RX3 wsX3_leastPaid D ty eo A) {k47 : dK → Int32 → Int32 → Option (Int32 × dK)} (hk47 : ∀ (q : dK) (x3 : Int32) (x4 : Int32) (H : Heap) (locs : List Loc) (ls : Array Slot), k47 q x3 x4 = some (o1, o2) → va_P D vwCl (wF ty ad q) H → va_D A (wF ty ad q) → va_S A s.heap H locs → lv_has ls 8 [(0, .ref (ad 32)), (3, .int x3), (4, .int x4)] → W p l e ({ frames := 4, cells := 0, slots := 0, locals := 113 } : Room) s m args below meth c H locs 0 0 (MQ below (va_Qi (fun (r : Int32) (u : va_W) => o1 = r ∧ wF ty ad o2 = u) (kz_B D ty A) A) args s 0 0 A) (F0 m 47 ls [])) (n : Nat) (q : dK) (x3 : Int32) (x4 : Int32) (x5 : Int32) (x6 : Int32) (H : Heap) (locs : List Loc) (ls : Array Slot) (h : zX3_leastPaid_s32_s20_73 k47 n q x3 x4 x5 x6 = some (o1, o2)) (hP : va_P D vwCl (wF ty ad q) H) (hD : va_D A (wF ty ad q)) (hS : va_S A s.heap H locs) (hl : lv_has ls 8 [(0, .ref (ad 32)), (3, .int x3), (4, .int x4), (5, .int x5), (6, .int x6)]) : W p l e ({ frames := 4, cells := 0, slots := 0, locals := 113 } : Room) s m args below meth c H locs 0 0 (MQ below (va_Qi (fun (r : Int32) (u : va_W) => o1 = r ∧ wF ty ad o2 = u) (kz_B D ty A) A) args s 0 0 A) (F0 m 73 ls []) := by
  exact dFix_W (F := fun k (a : dK × Int32 × Int32 × Int32 × Int32) => zX3_leastPaid_s32_s20_73b k47 (fun q x3 x4 x5 x6 => k (q, x3, x4, x5, x6)) a.1 a.2.1 a.2.2.1 a.2.2.2.1 a.2.2.2.2) (o := (o1, o2)) (P := fun (a : dK × Int32 × Int32 × Int32 × Int32) H locs ls => va_P D vwCl (wF ty ad a.1) H ∧ va_D A (wF ty ad a.1) ∧ va_S A s.heap H locs ∧ lv_has ls 8 [(0, .ref (ad 32)), (3, .int a.2.1), (4, .int a.2.2.1), (5, .int a.2.2.2.1), (6, .int a.2.2.2.2)]) (G := fun H locs ls => W p l e ({ frames := 4, cells := 0, slots := 0, locals := 113 } : Room) s m args below meth c H locs 0 0 (MQ below (va_Qi (fun (r : Int32) (u : va_W) => o1 = r ∧ wF ty ad o2 = u) (kz_B D ty A) A) args s 0 0 A) (F0 m 73 ls []))
    (fun k hk a H locs ls h hp => WX3_leastPaid_s32_s20_73b C hk47 (fun q x3 x4 x5 x6 H locs ls h h1 h2 h3 h4 => hk (q, x3, x4, x5, x6) H locs ls h ⟨h1, h2, h3, h4⟩) a.1 a.2.1 a.2.2.1 a.2.2.2.1 a.2.2.2.2 H locs ls h hp.1 hp.2.1 hp.2.2.1 hp.2.2.2) n (q, x3, x4, x5, x6) H locs ls h ⟨hP, hD, hS, hl⟩
set_option maxHeartbeats 4000000 in
set_option maxRecDepth 100000 in
theorem WX3_leastPaid_s32_s20_47b {p : Program} {l : Launch} {e : Env} {s : State} {m : MethodId} {args : Array Value} {below : List Frame} {meth : Method} {c : Code} {D : va_G} {ty : Nat → ClassId} {eo : Nat → Nat} {A : Nat → Prop} {ad : Nat → Nat} {o1 : Int32} {o2 : dK} (C : dc_C p s m args meth c cX3_leastPaid (some .int) 8 RX3 wsX3_leastPaid D ty eo A) {k47 : dK → Int32 → Int32 → Option (Int32 × dK)} (hk47 : ∀ (q : dK) (x3 : Int32) (x4 : Int32) (H : Heap) (locs : List Loc) (ls : Array Slot), k47 q x3 x4 = some (o1, o2) → va_P D vwCl (wF ty ad q) H → va_D A (wF ty ad q) → va_S A s.heap H locs → lv_has ls 8 [(0, .ref (ad 32)), (3, .int x3), (4, .int x4)] → W p l e ({ frames := 4, cells := 0, slots := 0, locals := 113 } : Room) s m args below meth c H locs 0 0 (MQ below (va_Qi (fun (r : Int32) (u : va_W) => o1 = r ∧ wF ty ad o2 = u) (kz_B D ty A) A) args s 0 0 A) (F0 m 47 ls [])) (q : dK) (x3 : Int32) (x4 : Int32) (H : Heap) (locs : List Loc) (ls : Array Slot) (h : zX3_leastPaid_s32_s20_47b k47 q x3 x4 = some (o1, o2)) (hP : va_P D vwCl (wF ty ad q) H) (hD : va_D A (wF ty ad q)) (hS : va_S A s.heap H locs) (hl : lv_has ls 8 [(0, .ref (ad 32)), (3, .int x3), (4, .int x4)]) : W p l e ({ frames := 4, cells := 0, slots := 0, locals := 113 } : Room) s m args below meth c H locs 0 0 (MQ below (va_Qi (fun (r : Int32) (u : va_W) => o1 = r ∧ wF ty ad o2 = u) (kz_B D ty A) A) args s 0 0 A) (F0 m 47 ls []) := by
  have C0 := C
  obtain ⟨hx, hb, hr, hts, hown, hlocks, hml, hK, hN, hE, hA⟩ := C
  unfold zX3_leastPaid_s32_s20_47b at h
  refine lv_iload hx hb dX3_leastPaid_47 (lv_at hl 2 rfl) ?_
  refine lv_bipush (v := 99) hx hb dX3_leastPaid_49 (by decide) ?_
  refine lv_aload_n hx hb dX3_leastPaid_51 rfl (lv_at hl 0 rfl) ?_
  refine va_get (D := D) (ci := 3) (v := .int (q.1 32 14)) (C := RX3) (T := TX3) (N := 20) hx hb hts u9_wsX3_leastPaid_X3 hown hK hP 32 rfl rfl 14 (by decide) (hts (.fieldLink RX3 55 "TurnedFloors$Paper" "size" "I") f9_wsX3_leastPaid_839) (fun _ h9 => h9) rfl dX3_leastPaid_52 ?_
  refine lv_imul hx hb dX3_leastPaid_55 ?_
  refine lv_icmp_gt (tgt := 143) hx hb dX3_leastPaid_56 (by decide) (fun c9 => ?_) (fun c9 => ?_)
  · rw [if_pos c9] at h
    exact WX3_leastPaid_s32_s20_143 C0  _ _ _ _ h hP hD hS (lv_sub hl [] rfl)
  · rw [if_neg c9] at h
    refine lv_iload_n hx hb dX3_leastPaid_59 rfl (lv_at hl 1 rfl) ?_
    refine lv_if_le (tgt := 143) hx hb dX3_leastPaid_60 (by decide) (fun c9 => ?_) (fun c9 => ?_)
    · rw [if_pos c9] at h
      exact WX3_leastPaid_s32_s20_143 C0  _ _ _ _ h hP hD hS (lv_sub hl [] rfl)
    · rw [if_neg c9] at h
      refine lv_iload hx hb dX3_leastPaid_63 (lv_at hl 2 rfl) ?_
      refine lv_bipush (v := 100) hx hb dX3_leastPaid_65 (by decide) ?_
      refine lv_irem hx hb dX3_leastPaid_67 (by decide) ?_
      refine lv_istore (lv' := [(5, .int (x4 - x4 / 100 * 100 : Int32)), (0, .ref (ad 32)), (3, .int x3), (4, .int x4)]) hx hb dX3_leastPaid_68 hl (by decide) rfl (fun ls hl => ?_)
      refine lv_iconst (v := 0) hx hb dX3_leastPaid_70 (by decide) ?_
      refine lv_istore (lv' := [(6, .int 0), (5, .int (x4 - x4 / 100 * 100 : Int32)), (0, .ref (ad 32)), (3, .int x3), (4, .int x4)]) hx hb dX3_leastPaid_71 hl (by decide) rfl (fun ls hl => ?_)
      exact WX3_leastPaid_s32_s20_73 C0 hk47 _ _ _ _ _ _ _ _ _ h hP hD hS (lv_sub hl [2, 3, 4, 1, 0] rfl)
set_option maxHeartbeats 4000000 in
set_option maxRecDepth 100000 in
theorem WX3_leastPaid_s32_s20_47 {p : Program} {l : Launch} {e : Env} {s : State} {m : MethodId} {args : Array Value} {below : List Frame} {meth : Method} {c : Code} {D : va_G} {ty : Nat → ClassId} {eo : Nat → Nat} {A : Nat → Prop} {ad : Nat → Nat} {o1 : Int32} {o2 : dK} (C : dc_C p s m args meth c cX3_leastPaid (some .int) 8 RX3 wsX3_leastPaid D ty eo A)   (n : Nat) (q : dK) (x3 : Int32) (x4 : Int32) (H : Heap) (locs : List Loc) (ls : Array Slot) (h : zX3_leastPaid_s32_s20_47  n q x3 x4 = some (o1, o2)) (hP : va_P D vwCl (wF ty ad q) H) (hD : va_D A (wF ty ad q)) (hS : va_S A s.heap H locs) (hl : lv_has ls 8 [(0, .ref (ad 32)), (3, .int x3), (4, .int x4)]) : W p l e ({ frames := 4, cells := 0, slots := 0, locals := 113 } : Room) s m args below meth c H locs 0 0 (MQ below (va_Qi (fun (r : Int32) (u : va_W) => o1 = r ∧ wF ty ad o2 = u) (kz_B D ty A) A) args s 0 0 A) (F0 m 47 ls []) := by
  exact dFix_W (F := fun k (a : dK × Int32 × Int32) => zX3_leastPaid_s32_s20_47b  (fun q x3 x4 => k (q, x3, x4)) a.1 a.2.1 a.2.2) (o := (o1, o2)) (P := fun (a : dK × Int32 × Int32) H locs ls => va_P D vwCl (wF ty ad a.1) H ∧ va_D A (wF ty ad a.1) ∧ va_S A s.heap H locs ∧ lv_has ls 8 [(0, .ref (ad 32)), (3, .int a.2.1), (4, .int a.2.2)]) (G := fun H locs ls => W p l e ({ frames := 4, cells := 0, slots := 0, locals := 113 } : Room) s m args below meth c H locs 0 0 (MQ below (va_Qi (fun (r : Int32) (u : va_W) => o1 = r ∧ wF ty ad o2 = u) (kz_B D ty A) A) args s 0 0 A) (F0 m 47 ls []))
    (fun k hk a H locs ls h hp => WX3_leastPaid_s32_s20_47b C  (fun q x3 x4 H locs ls h h1 h2 h3 h4 => hk (q, x3, x4) H locs ls h ⟨h1, h2, h3, h4⟩) a.1 a.2.1 a.2.2 H locs ls h hp.1 hp.2.1 hp.2.2.1 hp.2.2.2) n (q, x3, x4) H locs ls h ⟨hP, hD, hS, hl⟩
set_option maxHeartbeats 4000000 in
set_option maxRecDepth 100000 in
theorem qX3_leastPaid_s32_s20 (l : Launch) (D : va_G) (ty : Nat → ClassId) (eo : Nat → Nat) (sz : Nat) (ad : Nat → Nat) (q : dK) (p2 : Int32) (o1 : Int32) (o2 : dK) (h : zX3_leastPaid_s32_s20 q p2 = some (o1, o2)) : Met l yX3_leastPaid wsX3_leastPaid ({ frames := 4, cells := 0, slots := 0, locals := 113 } : Room) (va_Pc [.ref (ad 32), .ref (ad 20), .int p2] (kz_pre D ty eo (wF ty ad q) sz)) (va_Qi (fun (r : Int32) (u : va_W) => o1 = r ∧ wF ty ad o2 = u) (kz_B D ty (va_A (wF ty ad q) sz)) (va_A (wF ty ad q) sz)) 0 0 (va_A (wF ty ad q) sz) := by
  refine Met.ofW (cc := cX3_leastPaid) (maxL := 8) (ret := (some .int)) (by decide) rfl ?_
  intro p e s m args below meth c s₁ B hml hv
  obtain ⟨rfl, hsz, hP, hK, hD0, hN, hE⟩ := hv
  have hx := B.exec
  have hb := B.bytes
  have hr := B.returns
  have hts := atoms_spec (ws := wsX3_leastPaid) B.pre
  have hown : s.vm.findClass RX3 = some m.cls := findClass_of_methodNamed B.named
  have hlocks := B.notSynchronized
  subst hsz
  have hD := hD0.self (sz := s.heap.size)
  generalize hAe : va_A (wF ty ad q) s.heap.size = A at hD hE ⊢
  have hA : ∀ q : Nat, s.heap.size ≤ q → A q := fun q h => by rw [← hAe]; exact Or.inr h
  clear hAe
  have hS : va_S A s.heap s.heap [] := va_S.rf
  have hl := lv_entry ([.ref (ad 32), .ref (ad 20), .int p2]) (n := 8) (Nat.le_of_ble_eq_true rfl)
  rw [lg_entry_eq]
  generalize (lg_sl ([.ref (ad 32), .ref (ad 20), .int p2]) ++ List.replicate (8 - (lg_sl ([.ref (ad 32), .ref (ad 20), .int p2])).length) Slot.unset).toArray = ls at hl ⊢
  have hl : lv_has ls 8 [(0, .ref (ad 32)), (1, .ref (ad 20)), (2, .int p2)] := hl
  have C : dc_C p s m _ meth c cX3_leastPaid (some .int) 8 RX3 wsX3_leastPaid D ty eo A := ⟨hx, hb, hr, hts, hown, hlocks, hml, hK, hN, hE, hA⟩
  unfold zX3_leastPaid_s32_s20 at h
  refine lv_aload_n hx hb dX3_leastPaid_0 rfl (lv_at hl 0 rfl) ?_
  refine lv_aload_n hx hb dX3_leastPaid_1 rfl (lv_at hl 1 rfl) ?_
  refine lv_iload_n hx hb dX3_leastPaid_2 rfl (lv_at hl 2 rfl) ?_
  refine lv_iconst (v := 0) hx hb dX3_leastPaid_3 (by decide) ?_
  obtain ⟨q3, h2, h⟩ := dV_some h
  refine dw_kv (va_runV (As := [.ref (ad 20), .int p2, .int 0]) (rest := []) ⟨hx, hb, hml, hown, hts⟩ (qX3_askCases_s32_s20_c0 l D ty eo _ ad q p2 q3 h2) (cwV 3 hts gX3_leastPaid_X3_askCases rfl rfl rfl (by decide +kernel) ⟨Nat.le_of_ble_eq_true rfl, Nat.le_of_ble_eq_true rfl⟩) (dw_preV (ci := 3) (q0 := 32) hK hN hE hP hD hS hA rfl rfl) rfl rfl hl.1 rfl (lv_room (Nat.le_of_ble_eq_true rfl)) dX3_leastPaid_4 ⟨Nat.le_of_ble_eq_true rfl, Nat.le_of_ble_eq_true rfl⟩) hD hS hA (fun u9 H locs hw hp hd hs => ?_)
  clear hP hD hS
  obtain rfl := hw
  have hP := hp; have hD := hd; have hS := hs; clear hp hd hs
  refine lv_aload_n hx hb dX3_leastPaid_7 rfl (lv_at hl 0 rfl) ?_
  refine va_get (D := D) (ci := 3) (v := .ref (ad 43)) (C := RX3) (T := TX3) (N := 20) hx hb hts u9_wsX3_leastPaid_X3 hown hK hP 32 rfl rfl 10 (by decide) (hts (.fieldLink RX3 42 "TurnedFloors$Paper" "marks" "[I") f9_wsX3_leastPaid_841) (fun _ h9 => h9) rfl dX3_leastPaid_8 ?_
  refine lv_ldc (v := 2000000000) hx hb hown (hts (.constant RX3 140 2000000000) f9_wsX3_leastPaid_842) dX3_leastPaid_11 ?_
  refine dw_kv1 (j := 43) rfl (va_runS (As := [.ref (ad 43), .int 2000000000]) (rest := []) ⟨hx, hb, hml, hown, hts⟩ (cJ7_fillI l D ty eo _ (ad 43) (Int32.toNatClampNeg (q3.1 32 104)) _ 2000000000 (cl_lt _)) (va_cwS 2 hts gX3_leastPaid_J7_fill_53178 rfl rfl rfl (by decide +kernel) ⟨Nat.le_of_ble_eq_true rfl, Nat.le_of_ble_eq_true rfl⟩) (kz_preS hK hN hE hP hD hS hA [43] (by decide) rfl) rfl rfl hl.1 rfl (lv_room (Nat.le_of_ble_eq_true rfl)) dX3_leastPaid_13 ⟨Nat.le_of_ble_eq_true rfl, Nat.le_of_ble_eq_true rfl⟩) hP hD hS hA (fun u9 h9 => h9.symm) (fun H locs hp hd hs => ?_)
  obtain ⟨q4, eq4, h⟩ := dL_some h
  refine kz_re (w2 := wF ty ad q4) hp hd hs (by rw [← eq4]; exact rfl) ?_
  clear hp hd hs hP hD hS
  intro hP hD hS
  refine lv_aload_n hx hb dX3_leastPaid_16 rfl (lv_at hl 0 rfl) ?_
  refine va_get (D := D) (ci := 3) (v := .ref (ad 38)) (C := RX3) (T := TX3) (N := 20) hx hb hts u9_wsX3_leastPaid_X3 hown hK hP 32 rfl rfl 5 (by decide) (hts (.fieldLink RX3 27 "TurnedFloors$Paper" "buckets" "[I") f9_wsX3_leastPaid_840) (fun _ h9 => h9) rfl dX3_leastPaid_17 ?_
  refine lv_iconst (v := (-1)) hx hb dX3_leastPaid_20 (by decide) ?_
  refine dw_kv1 (j := 38) rfl (va_runS (As := [.ref (ad 38), .int (-1)]) (rest := []) ⟨hx, hb, hml, hown, hts⟩ (cJ7_fillI l D ty eo _ (ad 38) 100 _ (-1) (by decide)) (va_cwS 2 hts gX3_leastPaid_J7_fill_53178 rfl rfl rfl (by decide +kernel) ⟨Nat.le_of_ble_eq_true rfl, Nat.le_of_ble_eq_true rfl⟩) (kz_preS hK hN hE hP hD hS hA [38] (by decide) rfl) rfl rfl hl.1 rfl (lv_room (Nat.le_of_ble_eq_true rfl)) dX3_leastPaid_21 ⟨Nat.le_of_ble_eq_true rfl, Nat.le_of_ble_eq_true rfl⟩) hP hD hS hA (fun u9 h9 => h9.symm) (fun H locs hp hd hs => ?_)
  obtain ⟨q5, eq5, h⟩ := dL_some h
  refine kz_re (w2 := wF ty ad q5) hp hd hs (by rw [← eq5]; exact rfl) ?_
  clear hp hd hs hP hD hS
  intro hP hD hS
  refine lv_aload_n hx hb dX3_leastPaid_24 rfl (lv_at hl 0 rfl) ?_
  refine va_get (D := D) (ci := 3) (v := .ref (ad 43)) (C := RX3) (T := TX3) (N := 20) hx hb hts u9_wsX3_leastPaid_X3 hown hK hP 32 rfl rfl 10 (by decide) (hts (.fieldLink RX3 42 "TurnedFloors$Paper" "marks" "[I") f9_wsX3_leastPaid_841) (fun _ h9 => h9) rfl dX3_leastPaid_25 ?_
  refine lv_aload_n hx hb dX3_leastPaid_28 rfl (lv_at hl 0 rfl) ?_
  refine va_get (D := D) (ci := 3) (v := .int (q5.1 32 15)) (C := RX3) (T := TX3) (N := 20) hx hb hts u9_wsX3_leastPaid_X3 hown hK hP 32 rfl rfl 15 (by decide) (hts (.fieldLink RX3 58 "TurnedFloors$Paper" "start" "I") f9_wsX3_leastPaid_843) (fun _ h9 => h9) rfl dX3_leastPaid_29 ?_
  refine lv_iconst (v := 0) hx hb dX3_leastPaid_32 (by decide) ?_
  obtain ⟨g6, h⟩ := dG_some h
  refine va_iast hx hb hK hP hD hS 43 0 rfl rfl (dg_in g6) dX3_leastPaid_33 (fun H locs hp hd hs => ?_)
  obtain ⟨q7, eq7, h⟩ := dL_some h
  refine kz_re (w2 := wF ty ad q7) hp hd hs (by rw [← eq7]; exact wF_a43 ty ad q5 (Int32.toNatClampNeg (q5.1 32 15)) 0) ?_
  clear hp hd hs hP hD hS
  intro hP hD hS
  refine lv_aload_n hx hb dX3_leastPaid_34 rfl (lv_at hl 0 rfl) ?_
  refine lv_aload_n hx hb dX3_leastPaid_35 rfl (lv_at hl 0 rfl) ?_
  refine va_get (D := D) (ci := 3) (v := .int (q7.1 32 15)) (C := RX3) (T := TX3) (N := 20) hx hb hts u9_wsX3_leastPaid_X3 hown hK hP 32 rfl rfl 15 (by decide) (hts (.fieldLink RX3 58 "TurnedFloors$Paper" "start" "I") f9_wsX3_leastPaid_843) (fun _ h9 => h9) rfl dX3_leastPaid_36 ?_
  obtain ⟨q10, h9, h⟩ := dV_some h
  refine dw_kv (va_runV (As := [.int (q7.1 32 15)]) (rest := []) ⟨hx, hb, hml, hown, hts⟩ (qX3_putInBucket_s32 l D ty eo _ ad q7 (q7.1 32 15) q10 h9) (cwV 1 hts gX3_leastPaid_X3_putInBucket rfl rfl rfl (by decide +kernel) ⟨Nat.le_of_ble_eq_true rfl, Nat.le_of_ble_eq_true rfl⟩) (dw_preV (ci := 3) (q0 := 32) hK hN hE hP hD hS hA rfl rfl) rfl rfl hl.1 rfl (lv_room (Nat.le_of_ble_eq_true rfl)) dX3_leastPaid_39 ⟨Nat.le_of_ble_eq_true rfl, Nat.le_of_ble_eq_true rfl⟩) hD hS hA (fun u9 H locs hw hp hd hs => ?_)
  clear hP hD hS
  obtain rfl := hw
  have hP := hp; have hD := hd; have hS := hs; clear hp hd hs
  refine lv_iconst (v := 1) hx hb dX3_leastPaid_42 (by decide) ?_
  refine lv_istore_n (lv' := [(3, .int 1), (0, .ref (ad 32)), (1, .ref (ad 20)), (2, .int p2)]) hx hb dX3_leastPaid_43 rfl hl (by decide) rfl (fun ls hl => ?_)
  refine lv_iconst (v := 0) hx hb dX3_leastPaid_44 (by decide) ?_
  refine lv_istore (lv' := [(4, .int 0), (3, .int 1), (0, .ref (ad 32)), (1, .ref (ad 20)), (2, .int p2)]) hx hb dX3_leastPaid_45 hl (by decide) rfl (fun ls hl => ?_)
  exact WX3_leastPaid_s32_s20_47 C  _ _ _ _ _ _ _ h hP hD hS (lv_sub hl [2, 1, 0] rfl)

set_option maxHeartbeats 4000000 in
set_option maxRecDepth 100000 in
theorem qX9_cheapest_s0 (l : Launch) (D : va_G) (ty : Nat → ClassId) (eo : Nat → Nat) (sz : Nat) (ad : Nat → Nat) (nc ns : Nat) (q : dK)  (o1 : Int32) (o2 : dK) (h : zX9_cheapest_s0 nc ns q = some (o1, o2)) : Met l yX9_cheapest wsX9_cheapest ({ frames := 6, cells := nc, slots := ns, locals := 160 } : Room) (va_Pc [.ref (ad 0)] (kz_pre D ty eo (wF ty ad q) sz)) (va_Qi (fun (r : Int32) (u : va_W) => o1 = r ∧ ∃ ad9 : Nat → Nat, dAg ad ad9 ∧ wF ty ad9 o2 = u) (kz_B D ty (va_A (wF ty ad q) sz)) (va_A (wF ty ad q) sz)) nc ns (va_A (wF ty ad q) sz) := by
  have hag : dAg ad ad := fun _ _ => rfl
  refine Met.ofW (cc := cX9_cheapest) (maxL := 1) (ret := (some .int)) (by decide) rfl ?_
  intro p e s m args below meth c s₁ B hml hv
  obtain ⟨rfl, hsz, hP, hK, hD0, hN, hE⟩ := hv
  have hx := B.exec
  have hb := B.bytes
  have hr := B.returns
  have hts := atoms_spec (ws := wsX9_cheapest) B.pre
  have hown : s.vm.findClass RX9 = some m.cls := findClass_of_methodNamed B.named
  have hlocks := B.notSynchronized
  subst hsz
  have hD := hD0.self (sz := s.heap.size)
  generalize hAe : va_A (wF ty ad q) s.heap.size = A at hD hE ⊢
  have hA : ∀ q : Nat, s.heap.size ≤ q → A q := fun q h => by rw [← hAe]; exact Or.inr h
  clear hAe
  have hS : va_S A s.heap s.heap [] := va_S.rf
  have hl := lv_entry ([.ref (ad 0)]) (n := 1) (Nat.le_of_ble_eq_true rfl)
  rw [lg_entry_eq]
  generalize (lg_sl ([.ref (ad 0)]) ++ List.replicate (1 - (lg_sl ([.ref (ad 0)])).length) Slot.unset).toArray = ls at hl ⊢
  have hl : lv_has ls 1 [(0, .ref (ad 0))] := hl
  have C : dc_C p s m _ meth c cX9_cheapest (some .int) 1 RX9 wsX9_cheapest D ty eo A := ⟨hx, hb, hr, hts, hown, hlocks, hml, hK, hN, hE, hA⟩
  unfold zX9_cheapest_s0 at h
  refine lv_aload_n hx hb dX9_cheapest_0 rfl (lv_at hl 0 rfl) ?_
  refine lv_aload_n hx hb dX9_cheapest_1 rfl (lv_at hl 0 rfl) ?_
  obtain ⟨q3, h2, h⟩ := dV_some h
  refine dw_kq (va_runV (As := []) (rest := [.ref (ad 0)]) ⟨hx, hb, hml, hown, hts⟩ (qX9_seated_s0 l D ty eo _ ad q  q3 h2) (cwV 0 hts gX9_cheapest_X9_seated rfl rfl rfl (by decide +kernel) ⟨Nat.le_of_ble_eq_true rfl, Nat.le_of_ble_eq_true rfl⟩) (dw_preV (ci := 9) (q0 := 0) hK hN hE hP hD hS hA rfl rfl) rfl rfl hl.1 rfl (lv_room (Nat.le_of_ble_eq_true rfl)) dX9_cheapest_2 ⟨Nat.zero_le _, Nat.zero_le _⟩) hP hD hS hA (fun r9 u9 H locs hw hp hd hs => ?_)
  clear hP hD hS
  obtain ⟨rfl, rfl⟩ := hw
  have hP := hp; have hD := hd; have hS := hs; clear hp hd hs
  obtain ⟨q6, h5, h⟩ := dV_some h
  refine dw_kv (va_runV (As := [.ref (ad 20)]) (rest := []) ⟨hx, hb, hml, hown, hts⟩ (qX9_spread_s0_s20 l D ty eo _ ad nc ns q3  q6 h5) (cwV 1 hts gX9_cheapest_X9_spread rfl rfl rfl (by decide +kernel) ⟨Nat.le_of_ble_eq_true rfl, Nat.le_of_ble_eq_true rfl⟩) (dw_preV (ci := 9) (q0 := 0) hK hN hE hP hD hS hA rfl rfl) rfl rfl hl.1 rfl (lv_room (Nat.le_of_ble_eq_true rfl)) dX9_cheapest_5 ⟨by show 0 + nc ≤ nc; omega, by show 0 + ns ≤ ns; omega⟩) hD hS hA (fun u9 H locs hw hp hd hs => ?_)
  clear hP hD hS
  obtain ⟨ad, hag1, rfl⟩ := hw
  replace hag := dAg_t hag hag1
  rw [dAg_s hag1 0 (by decide)] at hl
  clear hag1
  refine dw_up (c2 := nc) (s2 := ns) (by omega) (by omega) ?_
  have hP := hp; have hD := hd; have hS := hs; clear hp hd hs
  refine lv_aload_n hx hb dX9_cheapest_8 rfl (lv_at hl 0 rfl) ?_
  refine va_get (D := D) (ci := 9) (v := .ref (ad 32)) (C := RX9) (T := TX9) (N := 19) hx hb hts u9_wsX9_cheapest_X9 hown hK hP 0 rfl rfl 10 (by decide) (hts (.fieldLink RX9 80 "TurnedFloors" "paper" "LTurnedFloors$Paper;") f9_wsX9_cheapest_847) (fun _ h9 => h9) rfl dX9_cheapest_9 ?_
  refine lv_aload_n hx hb dX9_cheapest_12 rfl (lv_at hl 0 rfl) ?_
  refine va_get (D := D) (ci := 9) (v := .ref (ad 20)) (C := RX9) (T := TX9) (N := 19) hx hb hts u9_wsX9_cheapest_X9 hown hK hP 0 rfl rfl 6 (by decide) (hts (.fieldLink RX9 50 "TurnedFloors" "judge" "LTurnedFloors$Judge;") f9_wsX9_cheapest_848) (fun _ h9 => h9) rfl dX9_cheapest_13 ?_
  refine lv_aload_n hx hb dX9_cheapest_16 rfl (lv_at hl 0 rfl) ?_
  refine va_get (D := D) (ci := 9) (v := .ref (ad 1)) (C := RX9) (T := TX9) (N := 19) hx hb hts u9_wsX9_cheapest_X9 hown hK hP 0 rfl rfl 0 (by decide) (hts (.fieldLink RX9 10 "TurnedFloors" "state" "LTurnedFloors$State;") f9_wsX9_cheapest_849) (fun _ h9 => h9) rfl dX9_cheapest_17 ?_
  refine va_getN (D := D) (ci := 6) (v := .ref (ad 2)) (C := RX6) (T := TX6) (N := 10) hx hb hts u9_wsX9_cheapest_X6 hown hK hP 1 rfl rfl 0 (by decide) (hN.use (.fieldLinkNest "TurnedFloors" 122 "TurnedFloors$State" "tower" "LTurnedFloors$Tower;" "TurnedFloors") (by decide +kernel)) (fun _ h9 => h9) rfl dX9_cheapest_20 ?_
  refine va_getN (D := D) (ci := 8) (v := .int (q6.1 2 4)) (C := RX8) (T := TX8) (N := 5) hx hb hts u9_wsX9_cheapest_X8 hown hK hP 2 rfl rfl 4 (by decide) (hN.use (.fieldLinkNest "TurnedFloors" 240 "TurnedFloors$Tower" "year" "I" "TurnedFloors") (by decide +kernel)) (fun _ h9 => h9) rfl dX9_cheapest_23 ?_
  obtain ⟨r7, q9, h8, h⟩ := dB_some h
  refine dw_ki (va_runV (As := [.ref (ad 20), .int (q6.1 2 4)]) (rest := []) ⟨hx, hb, hml, hown, hts⟩ (qX3_leastPaid_s32_s20 l D ty eo _ ad q6 (q6.1 2 4) r7 q9 h8) (cwV 2 hts gX9_cheapest_X3_leastPaid rfl rfl rfl (by decide +kernel) ⟨Nat.le_of_ble_eq_true rfl, Nat.le_of_ble_eq_true rfl⟩) (dw_preV (ci := 3) (q0 := 32) hK hN hE hP hD hS hA rfl rfl) rfl rfl hl.1 rfl (lv_room (Nat.le_of_ble_eq_true rfl)) dX9_cheapest_26 ⟨Nat.le_refl _, Nat.le_refl _⟩) hD hS hA (fun r9 u9 H locs hw hp hd hs => ?_)
  clear hP hD hS
  obtain ⟨rfl, rfl⟩ := hw
  have hP := hp; have hD := hd; have hS := hs; clear hp hd hs
  cases h
  exact kz_iret hx hb hr hlocks hP hK hD hS dX9_cheapest_29 ⟨rfl, ad, hag, rfl⟩

set_option maxHeartbeats 4000000 in
set_option maxRecDepth 100000 in
theorem WX3_worstTowers_s32_102 {p : Program} {l : Launch} {e : Env} {s : State} {m : MethodId} {args : Array Value} {below : List Frame} {meth : Method} {c : Code} {D : va_G} {ty : Nat → ClassId} {eo : Nat → Nat} {A : Nat → Prop} {ad : Nat → Nat} {o1 : Int32} {o2 : dK} (C : dc_C p s m args meth c cX3_worstTowers (some .int) 7 RX3 wsX3_worstTowers D ty eo A)   (q : dK) (y0 : Int32) (H : Heap) (locs : List Loc) (ls : Array Slot) (h : zX3_worstTowers_s32_102  q y0 = some (o1, o2)) (hP : va_P D vwCl (wF ty ad q) H) (hD : va_D A (wF ty ad q)) (hS : va_S A s.heap H locs) (hl : lv_has ls 7 []) : W p l e ({ frames := 3, cells := 0, slots := 0, locals := 72 } : Room) s m args below meth c H locs 0 0 (MQ below (va_Qi (fun (r : Int32) (u : va_W) => o1 = r ∧ wF ty ad o2 = u) (kz_B D ty A) A) args s 0 0 A) (F0 m 102 ls [.int y0]) := by
  have C0 := C
  obtain ⟨hx, hb, hr, hts, hown, hlocks, hml, hK, hN, hE, hA⟩ := C
  unfold zX3_worstTowers_s32_102 at h
  cases h
  exact kz_iret hx hb hr hlocks hP hK hD hS dX3_worstTowers_102 ⟨rfl, rfl⟩
set_option maxHeartbeats 4000000 in
set_option maxRecDepth 100000 in
theorem WX3_worstTowers_s32_73 {p : Program} {l : Launch} {e : Env} {s : State} {m : MethodId} {args : Array Value} {below : List Frame} {meth : Method} {c : Code} {D : va_G} {ty : Nat → ClassId} {eo : Nat → Nat} {A : Nat → Prop} {ad : Nat → Nat} {o1 : Int32} {o2 : dK} (C : dc_C p s m args meth c cX3_worstTowers (some .int) 7 RX3 wsX3_worstTowers D ty eo A) {k14 : dK → Int32 → Int32 → Int32 → Int32 → Int32 → Option (Int32 × dK)} (hk14 : ∀ (q : dK) (x1 : Int32) (x2 : Int32) (x3 : Int32) (x4 : Int32) (x5 : Int32) (H : Heap) (locs : List Loc) (ls : Array Slot), k14 q x1 x2 x3 x4 x5 = some (o1, o2) → va_P D vwCl (wF ty ad q) H → va_D A (wF ty ad q) → va_S A s.heap H locs → lv_has ls 7 [(0, .ref (ad 32)), (1, .int x1), (2, .int x2), (3, .int x3), (4, .int x4), (5, .int x5)] → W p l e ({ frames := 3, cells := 0, slots := 0, locals := 72 } : Room) s m args below meth c H locs 0 0 (MQ below (va_Qi (fun (r : Int32) (u : va_W) => o1 = r ∧ wF ty ad o2 = u) (kz_B D ty A) A) args s 0 0 A) (F0 m 14 ls [])) (q : dK) (x1 : Int32) (x2 : Int32) (x3 : Int32) (x5 : Int32) (y0 : Int32) (y1 : Int32) (H : Heap) (locs : List Loc) (ls : Array Slot) (h : zX3_worstTowers_s32_73 k14 q x1 x2 x3 x5 y0 y1 = some (o1, o2)) (hP : va_P D vwCl (wF ty ad q) H) (hD : va_D A (wF ty ad q)) (hS : va_S A s.heap H locs) (hl : lv_has ls 7 [(0, .ref (ad 32)), (1, .int x1), (2, .int x2), (3, .int x3), (5, .int x5)]) : W p l e ({ frames := 3, cells := 0, slots := 0, locals := 72 } : Room) s m args below meth c H locs 0 0 (MQ below (va_Qi (fun (r : Int32) (u : va_W) => o1 = r ∧ wF ty ad o2 = u) (kz_B D ty A) A) args s 0 0 A) (F0 m 73 ls [.int y0, .int y1]) := by
  have C0 := C
  obtain ⟨hx, hb, hr, hts, hown, hlocks, hml, hK, hN, hE, hA⟩ := C
  unfold zX3_worstTowers_s32_73 at h
  obtain ⟨r1, h2, h⟩ := dV_some h
  refine dw_ks (va_runSN (As := [.int y0]) (rest := [.int y1]) ⟨hx, hb, hml, hown, hts⟩ (qX9_bit l D ty eo _ y0 _ h2) ⟨va_cnB 1 hts gX3_worstTowers_X9_bit_n133 rfl rfl rfl (hN.1 _ (by decide +kernel : (.methodLinkNest "TurnedFloors$Paper" 133 yX9_bit "TurnedFloors" : Cond) ∈ kzN1)) (hts (.initialized RX9) f9_wsX3_worstTowers_850) (by decide +kernel) ⟨Nat.le_of_ble_eq_true rfl, Nat.le_of_ble_eq_true rfl⟩, hts (.static yX9_bit) (by decide +kernel), trivial⟩ (kz_preS hK hN hE hP hD hS hA [] (by decide) rfl) rfl rfl hl.1 rfl (lv_room (Nat.le_of_ble_eq_true rfl)) dX3_worstTowers_73 ⟨Nat.le_of_ble_eq_true rfl, Nat.le_of_ble_eq_true rfl⟩) hP hD hS hA (fun _ _ h9 => h9.2.symm) (fun r9 u9 H locs hw hp hd hs => ?_)
  obtain ⟨rfl, -⟩ := hw
  clear hP hD hS
  have hP := hp; have hD := hd; have hS := hs; clear hp hd hs
  refine lv_iadd hx hb dX3_worstTowers_76 ?_
  refine lv_istore (lv' := [(4, .int (y1 + r1)), (0, .ref (ad 32)), (1, .int x1), (2, .int x2), (3, .int x3), (5, .int x5)]) hx hb dX3_worstTowers_77 hl (by decide) rfl (fun ls hl => ?_)
  refine lv_iinc (v := x5 + 1) (lv' := [(5, .int (x5 + 1)), (4, .int (y1 + r1)), (0, .ref (ad 32)), (1, .int x1), (2, .int x2), (3, .int x3)]) hx hb dX3_worstTowers_79 hl (k := 5) rfl rfl (by decide) rfl (fun ls hl => ?_)
  refine lv_goto (tgt := 14) hx hb dX3_worstTowers_82 (by decide) ?_
  exact hk14 _ _ _ _ _ _ _ _ _ h hP hD hS (lv_sub hl [2, 3, 4, 5, 1, 0] rfl)
set_option maxHeartbeats 4000000 in
set_option maxRecDepth 100000 in
theorem WX3_worstTowers_s32_55 {p : Program} {l : Launch} {e : Env} {s : State} {m : MethodId} {args : Array Value} {below : List Frame} {meth : Method} {c : Code} {D : va_G} {ty : Nat → ClassId} {eo : Nat → Nat} {A : Nat → Prop} {ad : Nat → Nat} {o1 : Int32} {o2 : dK} (C : dc_C p s m args meth c cX3_worstTowers (some .int) 7 RX3 wsX3_worstTowers D ty eo A) {k14 : dK → Int32 → Int32 → Int32 → Int32 → Int32 → Option (Int32 × dK)} (hk14 : ∀ (q : dK) (x1 : Int32) (x2 : Int32) (x3 : Int32) (x4 : Int32) (x5 : Int32) (H : Heap) (locs : List Loc) (ls : Array Slot), k14 q x1 x2 x3 x4 x5 = some (o1, o2) → va_P D vwCl (wF ty ad q) H → va_D A (wF ty ad q) → va_S A s.heap H locs → lv_has ls 7 [(0, .ref (ad 32)), (1, .int x1), (2, .int x2), (3, .int x3), (4, .int x4), (5, .int x5)] → W p l e ({ frames := 3, cells := 0, slots := 0, locals := 72 } : Room) s m args below meth c H locs 0 0 (MQ below (va_Qi (fun (r : Int32) (u : va_W) => o1 = r ∧ wF ty ad o2 = u) (kz_B D ty A) A) args s 0 0 A) (F0 m 14 ls [])) (q : dK) (x1 : Int32) (x2 : Int32) (x4 : Int32) (x5 : Int32) (x6 : Int32) (y0 : Int32) (y1 : Int32) (H : Heap) (locs : List Loc) (ls : Array Slot) (h : zX3_worstTowers_s32_55 k14 q x1 x2 x4 x5 x6 y0 y1 = some (o1, o2)) (hP : va_P D vwCl (wF ty ad q) H) (hD : va_D A (wF ty ad q)) (hS : va_S A s.heap H locs) (hl : lv_has ls 7 [(0, .ref (ad 32)), (1, .int x1), (2, .int x2), (4, .int x4), (5, .int x5), (6, .int x6)]) : W p l e ({ frames := 3, cells := 0, slots := 0, locals := 72 } : Room) s m args below meth c H locs 0 0 (MQ below (va_Qi (fun (r : Int32) (u : va_W) => o1 = r ∧ wF ty ad o2 = u) (kz_B D ty A) A) args s 0 0 A) (F0 m 55 ls [.int y0, .int y1]) := by
  have C0 := C
  obtain ⟨hx, hb, hr, hts, hown, hlocks, hml, hK, hN, hE, hA⟩ := C
  unfold zX3_worstTowers_s32_55 at h
  obtain ⟨r1, h2, h⟩ := dV_some h
  refine dw_ks (va_runSN (As := [.int y0]) (rest := [.int y1]) ⟨hx, hb, hml, hown, hts⟩ (qX9_bit l D ty eo _ y0 _ h2) ⟨va_cnB 1 hts gX3_worstTowers_X9_bit_n133 rfl rfl rfl (hN.1 _ (by decide +kernel : (.methodLinkNest "TurnedFloors$Paper" 133 yX9_bit "TurnedFloors" : Cond) ∈ kzN1)) (hts (.initialized RX9) f9_wsX3_worstTowers_850) (by decide +kernel) ⟨Nat.le_of_ble_eq_true rfl, Nat.le_of_ble_eq_true rfl⟩, hts (.static yX9_bit) (by decide +kernel), trivial⟩ (kz_preS hK hN hE hP hD hS hA [] (by decide) rfl) rfl rfl hl.1 rfl (lv_room (Nat.le_of_ble_eq_true rfl)) dX3_worstTowers_55 ⟨Nat.le_of_ble_eq_true rfl, Nat.le_of_ble_eq_true rfl⟩) hP hD hS hA (fun _ _ h9 => h9.2.symm) (fun r9 u9 H locs hw hp hd hs => ?_)
  obtain ⟨rfl, -⟩ := hw
  clear hP hD hS
  have hP := hp; have hD := hd; have hS := hs; clear hp hd hs
  refine lv_iadd hx hb dX3_worstTowers_58 ?_
  refine lv_istore_n (lv' := [(3, .int (y1 + r1)), (0, .ref (ad 32)), (1, .int x1), (2, .int x2), (4, .int x4), (5, .int x5), (6, .int x6)]) hx hb dX3_worstTowers_59 rfl hl (by decide) rfl (fun ls hl => ?_)
  refine lv_iload hx hb dX3_worstTowers_60 (lv_at hl 4 rfl) ?_
  refine lv_iload hx hb dX3_worstTowers_62 (lv_at hl 6 rfl) ?_
  refine lv_iconst (v := (-1)) hx hb dX3_worstTowers_64 (by decide) ?_
  refine lv_icmp_eq (tgt := 72) hx hb dX3_worstTowers_65 (by decide) (fun c9 => ?_) (fun c9 => ?_)
  · rw [if_pos c9] at h
    refine lv_iconst (v := 0) hx hb dX3_worstTowers_72 (by decide) ?_
    exact WX3_worstTowers_s32_73 C0 hk14 _ _ _ _ _ _ _ _ _ _ h hP hD hS (lv_sub hl [1, 2, 3, 0, 5] rfl)
  · rw [if_neg c9] at h
    refine lv_iconst (v := 1) hx hb dX3_worstTowers_68 (by decide) ?_
    refine lv_goto (tgt := 73) hx hb dX3_worstTowers_69 (by decide) ?_
    exact WX3_worstTowers_s32_73 C0 hk14 _ _ _ _ _ _ _ _ _ _ h hP hD hS (lv_sub hl [1, 2, 3, 0, 5] rfl)
set_option maxHeartbeats 4000000 in
set_option maxRecDepth 100000 in
theorem WX3_worstTowers_s32_43 {p : Program} {l : Launch} {e : Env} {s : State} {m : MethodId} {args : Array Value} {below : List Frame} {meth : Method} {c : Code} {D : va_G} {ty : Nat → ClassId} {eo : Nat → Nat} {A : Nat → Prop} {ad : Nat → Nat} {o1 : Int32} {o2 : dK} (C : dc_C p s m args meth c cX3_worstTowers (some .int) 7 RX3 wsX3_worstTowers D ty eo A) {k14 : dK → Int32 → Int32 → Int32 → Int32 → Int32 → Option (Int32 × dK)} (hk14 : ∀ (q : dK) (x1 : Int32) (x2 : Int32) (x3 : Int32) (x4 : Int32) (x5 : Int32) (H : Heap) (locs : List Loc) (ls : Array Slot), k14 q x1 x2 x3 x4 x5 = some (o1, o2) → va_P D vwCl (wF ty ad q) H → va_D A (wF ty ad q) → va_S A s.heap H locs → lv_has ls 7 [(0, .ref (ad 32)), (1, .int x1), (2, .int x2), (3, .int x3), (4, .int x4), (5, .int x5)] → W p l e ({ frames := 3, cells := 0, slots := 0, locals := 72 } : Room) s m args below meth c H locs 0 0 (MQ below (va_Qi (fun (r : Int32) (u : va_W) => o1 = r ∧ wF ty ad o2 = u) (kz_B D ty A) A) args s 0 0 A) (F0 m 14 ls [])) (q : dK) (x1 : Int32) (x2 : Int32) (x3 : Int32) (x4 : Int32) (x5 : Int32) (x6 : Int32) (H : Heap) (locs : List Loc) (ls : Array Slot) (h : zX3_worstTowers_s32_43 k14 q x1 x2 x3 x4 x5 x6 = some (o1, o2)) (hP : va_P D vwCl (wF ty ad q) H) (hD : va_D A (wF ty ad q)) (hS : va_S A s.heap H locs) (hl : lv_has ls 7 [(0, .ref (ad 32)), (1, .int x1), (2, .int x2), (3, .int x3), (4, .int x4), (5, .int x5), (6, .int x6)]) : W p l e ({ frames := 3, cells := 0, slots := 0, locals := 72 } : Room) s m args below meth c H locs 0 0 (MQ below (va_Qi (fun (r : Int32) (u : va_W) => o1 = r ∧ wF ty ad o2 = u) (kz_B D ty A) A) args s 0 0 A) (F0 m 43 ls []) := by
  have C0 := C
  obtain ⟨hx, hb, hr, hts, hown, hlocks, hml, hK, hN, hE, hA⟩ := C
  unfold zX3_worstTowers_s32_43 at h
  refine lv_iload_n hx hb dX3_worstTowers_43 rfl (lv_at hl 3 rfl) ?_
  refine lv_iload hx hb dX3_worstTowers_44 (lv_at hl 6 rfl) ?_
  refine lv_iload_n hx hb dX3_worstTowers_46 rfl (lv_at hl 2 rfl) ?_
  refine lv_icmp_ne (tgt := 54) hx hb dX3_worstTowers_47 (by decide) (fun c9 => ?_) (fun c9 => ?_)
  · rw [if_neg c9] at h
    refine lv_iconst (v := 0) hx hb dX3_worstTowers_54 (by decide) ?_
    exact WX3_worstTowers_s32_55 C0 hk14 _ _ _ _ _ _ _ _ _ _ _ h hP hD hS (lv_sub hl [0, 1, 2, 4, 5, 6] rfl)
  · rw [if_pos c9] at h
    refine lv_iconst (v := 1) hx hb dX3_worstTowers_50 (by decide) ?_
    refine lv_goto (tgt := 55) hx hb dX3_worstTowers_51 (by decide) ?_
    exact WX3_worstTowers_s32_55 C0 hk14 _ _ _ _ _ _ _ _ _ _ _ h hP hD hS (lv_sub hl [0, 1, 2, 4, 5, 6] rfl)
set_option maxHeartbeats 4000000 in
set_option maxRecDepth 100000 in
theorem WX3_worstTowers_s32_14b {p : Program} {l : Launch} {e : Env} {s : State} {m : MethodId} {args : Array Value} {below : List Frame} {meth : Method} {c : Code} {D : va_G} {ty : Nat → ClassId} {eo : Nat → Nat} {A : Nat → Prop} {ad : Nat → Nat} {o1 : Int32} {o2 : dK} (C : dc_C p s m args meth c cX3_worstTowers (some .int) 7 RX3 wsX3_worstTowers D ty eo A) {k14 : dK → Int32 → Int32 → Int32 → Int32 → Int32 → Option (Int32 × dK)} (hk14 : ∀ (q : dK) (x1 : Int32) (x2 : Int32) (x3 : Int32) (x4 : Int32) (x5 : Int32) (H : Heap) (locs : List Loc) (ls : Array Slot), k14 q x1 x2 x3 x4 x5 = some (o1, o2) → va_P D vwCl (wF ty ad q) H → va_D A (wF ty ad q) → va_S A s.heap H locs → lv_has ls 7 [(0, .ref (ad 32)), (1, .int x1), (2, .int x2), (3, .int x3), (4, .int x4), (5, .int x5)] → W p l e ({ frames := 3, cells := 0, slots := 0, locals := 72 } : Room) s m args below meth c H locs 0 0 (MQ below (va_Qi (fun (r : Int32) (u : va_W) => o1 = r ∧ wF ty ad o2 = u) (kz_B D ty A) A) args s 0 0 A) (F0 m 14 ls [])) (q : dK) (x1 : Int32) (x2 : Int32) (x3 : Int32) (x4 : Int32) (x5 : Int32) (H : Heap) (locs : List Loc) (ls : Array Slot) (h : zX3_worstTowers_s32_14b k14 q x1 x2 x3 x4 x5 = some (o1, o2)) (hP : va_P D vwCl (wF ty ad q) H) (hD : va_D A (wF ty ad q)) (hS : va_S A s.heap H locs) (hl : lv_has ls 7 [(0, .ref (ad 32)), (1, .int x1), (2, .int x2), (3, .int x3), (4, .int x4), (5, .int x5)]) : W p l e ({ frames := 3, cells := 0, slots := 0, locals := 72 } : Room) s m args below meth c H locs 0 0 (MQ below (va_Qi (fun (r : Int32) (u : va_W) => o1 = r ∧ wF ty ad o2 = u) (kz_B D ty A) A) args s 0 0 A) (F0 m 14 ls []) := by
  have C0 := C
  obtain ⟨hx, hb, hr, hts, hown, hlocks, hml, hK, hN, hE, hA⟩ := C
  unfold zX3_worstTowers_s32_14b at h
  refine lv_iload hx hb dX3_worstTowers_14 (lv_at hl 5 rfl) ?_
  refine lv_aload_n hx hb dX3_worstTowers_16 rfl (lv_at hl 0 rfl) ?_
  refine va_get (D := D) (ci := 3) (v := .int (q.1 32 14)) (C := RX3) (T := TX3) (N := 20) hx hb hts u9_wsX3_worstTowers_X3 hown hK hP 32 rfl rfl 14 (by decide) (hts (.fieldLink RX3 55 "TurnedFloors$Paper" "size" "I") f9_wsX3_worstTowers_852) (fun _ h9 => h9) rfl dX3_worstTowers_17 ?_
  refine lv_icmp_ge (tgt := 85) hx hb dX3_worstTowers_20 (by decide) (fun c9 => ?_) (fun c9 => ?_)
  · rw [if_pos c9] at h
    refine lv_iload_n hx hb dX3_worstTowers_85 rfl (lv_at hl 1 rfl) ?_
    refine lv_if_ne (tgt := 91) hx hb dX3_worstTowers_86 (by decide) (fun c9 => ?_) (fun c9 => ?_)
    · rw [if_neg c9] at h
      refine lv_iload_n hx hb dX3_worstTowers_91 rfl (lv_at hl 1 rfl) ?_
      refine lv_iconst (v := 1) hx hb dX3_worstTowers_92 (by decide) ?_
      refine lv_icmp_ne (tgt := 100) hx hb dX3_worstTowers_93 (by decide) (fun c9 => ?_) (fun c9 => ?_)
      · rw [if_neg c9] at h
        refine lv_iload hx hb dX3_worstTowers_100 (lv_at hl 4 rfl) ?_
        exact WX3_worstTowers_s32_102 C0  _ _ _ _ _ h hP hD hS (lv_sub hl [] rfl)
      · rw [if_pos c9] at h
        refine lv_iload_n hx hb dX3_worstTowers_96 rfl (lv_at hl 3 rfl) ?_
        refine lv_goto (tgt := 102) hx hb dX3_worstTowers_97 (by decide) ?_
        exact WX3_worstTowers_s32_102 C0  _ _ _ _ _ h hP hD hS (lv_sub hl [] rfl)
    · rw [if_pos c9] at h
      refine lv_iload_n hx hb dX3_worstTowers_89 rfl (lv_at hl 2 rfl) ?_
      cases h
      exact kz_iret hx hb hr hlocks hP hK hD hS dX3_worstTowers_90 ⟨rfl, rfl⟩
  · rw [if_neg c9] at h
    refine lv_aload_n hx hb dX3_worstTowers_23 rfl (lv_at hl 0 rfl) ?_
    refine va_get (D := D) (ci := 3) (v := .ref (ad 42)) (C := RX3) (T := TX3) (N := 20) hx hb hts u9_wsX3_worstTowers_X3 hown hK hP 32 rfl rfl 9 (by decide) (hts (.fieldLink RX3 39 "TurnedFloors$Paper" "toOrder" "[I") f9_wsX3_worstTowers_853) (fun _ h9 => h9) rfl dX3_worstTowers_24 ?_
    refine lv_iload hx hb dX3_worstTowers_27 (lv_at hl 5 rfl) ?_
    obtain ⟨g1, h⟩ := dG_some h
    refine va_iald hx hb hK hP 42 0 rfl rfl (dg_in g1) dX3_worstTowers_29 ?_
    obtain ⟨v2, ev2, h⟩ := dL_some h
    refine kz_topi v2 ev2 ?_
    refine lv_istore (lv' := [(6, .int v2), (0, .ref (ad 32)), (1, .int x1), (2, .int x2), (3, .int x3), (4, .int x4), (5, .int x5)]) hx hb dX3_worstTowers_30 hl (by decide) rfl (fun ls hl => ?_)
    refine lv_iload hx hb dX3_worstTowers_32 (lv_at hl 0 rfl) ?_
    refine lv_iload_n hx hb dX3_worstTowers_34 rfl (lv_at hl 3 rfl) ?_
    refine lv_icmp_le (tgt := 43) hx hb dX3_worstTowers_35 (by decide) (fun c9 => ?_) (fun c9 => ?_)
    · rw [if_pos c9] at h
      exact WX3_worstTowers_s32_43 C0 hk14 _ _ _ _ _ _ _ _ _ _ h hP hD hS (lv_sub hl [1, 2, 3, 4, 5, 6, 0] rfl)
    · rw [if_neg c9] at h
      refine lv_iload hx hb dX3_worstTowers_38 (lv_at hl 0 rfl) ?_
      refine lv_istore_n (lv' := [(2, .int v2), (6, .int v2), (0, .ref (ad 32)), (1, .int x1), (3, .int x3), (4, .int x4), (5, .int x5)]) hx hb dX3_worstTowers_40 rfl hl (by decide) rfl (fun ls hl => ?_)
      refine lv_iconst (v := 0) hx hb dX3_worstTowers_41 (by decide) ?_
      refine lv_istore_n (lv' := [(3, .int 0), (2, .int v2), (6, .int v2), (0, .ref (ad 32)), (1, .int x1), (4, .int x4), (5, .int x5)]) hx hb dX3_worstTowers_42 rfl hl (by decide) rfl (fun ls hl => ?_)
      exact WX3_worstTowers_s32_43 C0 hk14 _ _ _ _ _ _ _ _ _ _ h hP hD hS (lv_sub hl [3, 4, 1, 0, 5, 6, 2] rfl)
set_option maxHeartbeats 4000000 in
set_option maxRecDepth 100000 in
theorem WX3_worstTowers_s32_14 {p : Program} {l : Launch} {e : Env} {s : State} {m : MethodId} {args : Array Value} {below : List Frame} {meth : Method} {c : Code} {D : va_G} {ty : Nat → ClassId} {eo : Nat → Nat} {A : Nat → Prop} {ad : Nat → Nat} {o1 : Int32} {o2 : dK} (C : dc_C p s m args meth c cX3_worstTowers (some .int) 7 RX3 wsX3_worstTowers D ty eo A)   (n : Nat) (q : dK) (x1 : Int32) (x2 : Int32) (x3 : Int32) (x4 : Int32) (x5 : Int32) (H : Heap) (locs : List Loc) (ls : Array Slot) (h : zX3_worstTowers_s32_14  n q x1 x2 x3 x4 x5 = some (o1, o2)) (hP : va_P D vwCl (wF ty ad q) H) (hD : va_D A (wF ty ad q)) (hS : va_S A s.heap H locs) (hl : lv_has ls 7 [(0, .ref (ad 32)), (1, .int x1), (2, .int x2), (3, .int x3), (4, .int x4), (5, .int x5)]) : W p l e ({ frames := 3, cells := 0, slots := 0, locals := 72 } : Room) s m args below meth c H locs 0 0 (MQ below (va_Qi (fun (r : Int32) (u : va_W) => o1 = r ∧ wF ty ad o2 = u) (kz_B D ty A) A) args s 0 0 A) (F0 m 14 ls []) := by
  exact dFix_W (F := fun k (a : dK × Int32 × Int32 × Int32 × Int32 × Int32) => zX3_worstTowers_s32_14b  (fun q x1 x2 x3 x4 x5 => k (q, x1, x2, x3, x4, x5)) a.1 a.2.1 a.2.2.1 a.2.2.2.1 a.2.2.2.2.1 a.2.2.2.2.2) (o := (o1, o2)) (P := fun (a : dK × Int32 × Int32 × Int32 × Int32 × Int32) H locs ls => va_P D vwCl (wF ty ad a.1) H ∧ va_D A (wF ty ad a.1) ∧ va_S A s.heap H locs ∧ lv_has ls 7 [(0, .ref (ad 32)), (1, .int a.2.1), (2, .int a.2.2.1), (3, .int a.2.2.2.1), (4, .int a.2.2.2.2.1), (5, .int a.2.2.2.2.2)]) (G := fun H locs ls => W p l e ({ frames := 3, cells := 0, slots := 0, locals := 72 } : Room) s m args below meth c H locs 0 0 (MQ below (va_Qi (fun (r : Int32) (u : va_W) => o1 = r ∧ wF ty ad o2 = u) (kz_B D ty A) A) args s 0 0 A) (F0 m 14 ls []))
    (fun k hk a H locs ls h hp => WX3_worstTowers_s32_14b C  (fun q x1 x2 x3 x4 x5 H locs ls h h1 h2 h3 h4 => hk (q, x1, x2, x3, x4, x5) H locs ls h ⟨h1, h2, h3, h4⟩) a.1 a.2.1 a.2.2.1 a.2.2.2.1 a.2.2.2.2.1 a.2.2.2.2.2 H locs ls h hp.1 hp.2.1 hp.2.2.1 hp.2.2.2) n (q, x1, x2, x3, x4, x5) H locs ls h ⟨hP, hD, hS, hl⟩
set_option maxHeartbeats 4000000 in
set_option maxRecDepth 100000 in
theorem qX3_worstTowers_s32 (l : Launch) (D : va_G) (ty : Nat → ClassId) (eo : Nat → Nat) (sz : Nat) (ad : Nat → Nat) (q : dK) (p1 : Int32) (o1 : Int32) (o2 : dK) (h : zX3_worstTowers_s32 q p1 = some (o1, o2)) : Met l yX3_worstTowers wsX3_worstTowers ({ frames := 3, cells := 0, slots := 0, locals := 72 } : Room) (va_Pc [.ref (ad 32), .int p1] (kz_pre D ty eo (wF ty ad q) sz)) (va_Qi (fun (r : Int32) (u : va_W) => o1 = r ∧ wF ty ad o2 = u) (kz_B D ty (va_A (wF ty ad q) sz)) (va_A (wF ty ad q) sz)) 0 0 (va_A (wF ty ad q) sz) := by
  refine Met.ofW (cc := cX3_worstTowers) (maxL := 7) (ret := (some .int)) (by decide) rfl ?_
  intro p e s m args below meth c s₁ B hml hv
  obtain ⟨rfl, hsz, hP, hK, hD0, hN, hE⟩ := hv
  have hx := B.exec
  have hb := B.bytes
  have hr := B.returns
  have hts := atoms_spec (ws := wsX3_worstTowers) B.pre
  have hown : s.vm.findClass RX3 = some m.cls := findClass_of_methodNamed B.named
  have hlocks := B.notSynchronized
  subst hsz
  have hD := hD0.self (sz := s.heap.size)
  generalize hAe : va_A (wF ty ad q) s.heap.size = A at hD hE ⊢
  have hA : ∀ q : Nat, s.heap.size ≤ q → A q := fun q h => by rw [← hAe]; exact Or.inr h
  clear hAe
  have hS : va_S A s.heap s.heap [] := va_S.rf
  have hl := lv_entry ([.ref (ad 32), .int p1]) (n := 7) (Nat.le_of_ble_eq_true rfl)
  rw [lg_entry_eq]
  generalize (lg_sl ([.ref (ad 32), .int p1]) ++ List.replicate (7 - (lg_sl ([.ref (ad 32), .int p1])).length) Slot.unset).toArray = ls at hl ⊢
  have hl : lv_has ls 7 [(0, .ref (ad 32)), (1, .int p1)] := hl
  have C : dc_C p s m _ meth c cX3_worstTowers (some .int) 7 RX3 wsX3_worstTowers D ty eo A := ⟨hx, hb, hr, hts, hown, hlocks, hml, hK, hN, hE, hA⟩
  unfold zX3_worstTowers_s32 at h
  refine lv_aload_n hx hb dX3_worstTowers_0 rfl (lv_at hl 0 rfl) ?_
  obtain ⟨q3, h2, h⟩ := dV_some h
  refine dw_kv (va_runV (As := []) (rest := []) ⟨hx, hb, hml, hown, hts⟩ (qX3_measure_s32 l D ty eo _ ad q  q3 h2) (cwV 0 hts gX3_worstTowers_X3_measure rfl rfl rfl (by decide +kernel) ⟨Nat.le_of_ble_eq_true rfl, Nat.le_of_ble_eq_true rfl⟩) (dw_preV (ci := 3) (q0 := 32) hK hN hE hP hD hS hA rfl rfl) rfl rfl hl.1 rfl (lv_room (Nat.le_of_ble_eq_true rfl)) dX3_worstTowers_1 ⟨Nat.le_of_ble_eq_true rfl, Nat.le_of_ble_eq_true rfl⟩) hD hS hA (fun u9 H locs hw hp hd hs => ?_)
  clear hP hD hS
  obtain rfl := hw
  have hP := hp; have hD := hd; have hS := hs; clear hp hd hs
  refine lv_iconst (v := 0) hx hb dX3_worstTowers_4 (by decide) ?_
  refine lv_istore_n (lv' := [(2, .int 0), (0, .ref (ad 32)), (1, .int p1)]) hx hb dX3_worstTowers_5 rfl hl (by decide) rfl (fun ls hl => ?_)
  refine lv_iconst (v := 0) hx hb dX3_worstTowers_6 (by decide) ?_
  refine lv_istore_n (lv' := [(3, .int 0), (2, .int 0), (0, .ref (ad 32)), (1, .int p1)]) hx hb dX3_worstTowers_7 rfl hl (by decide) rfl (fun ls hl => ?_)
  refine lv_iconst (v := 0) hx hb dX3_worstTowers_8 (by decide) ?_
  refine lv_istore (lv' := [(4, .int 0), (3, .int 0), (2, .int 0), (0, .ref (ad 32)), (1, .int p1)]) hx hb dX3_worstTowers_9 hl (by decide) rfl (fun ls hl => ?_)
  refine lv_iconst (v := 0) hx hb dX3_worstTowers_11 (by decide) ?_
  refine lv_istore (lv' := [(5, .int 0), (4, .int 0), (3, .int 0), (2, .int 0), (0, .ref (ad 32)), (1, .int p1)]) hx hb dX3_worstTowers_12 hl (by decide) rfl (fun ls hl => ?_)
  exact WX3_worstTowers_s32_14 C  _ _ _ _ _ _ _ _ _ _ h hP hD hS (lv_sub hl [4, 5, 3, 2, 1, 0] rfl)

set_option maxHeartbeats 4000000 in
set_option maxRecDepth 100000 in
theorem WX9_worst_s0_9 {p : Program} {l : Launch} {e : Env} {s : State} {m : MethodId} {args : Array Value} {below : List Frame} {meth : Method} {c : Code} {D : va_G} {ty : Nat → ClassId} {eo : Nat → Nat} {A : Nat → Prop} {ad : Nat → Nat} {o1 : Int32} {o2 : dK} {nc ns : Nat} {ad0 : Nat → Nat} (hag : dAg ad0 ad) (C : dc_C p s m args meth c cX9_worst (some .int) 2 RX9 wsX9_worst D ty eo A)   (q : dK)  (H : Heap) (locs : List Loc) (ls : Array Slot) (h : zX9_worst_s0_9 nc ns  q = some (o1, o2)) (hP : va_P D vwCl (wF ty ad q) H) (hD : va_D A (wF ty ad q)) (hS : va_S A s.heap H locs) (hl : lv_has ls 2 []) : W p l e ({ frames := 6, cells := nc, slots := ns, locals := 160 } : Room) s m args below meth c H locs 0 0 (MQ below (va_Qi (fun (r : Int32) (u : va_W) => o1 = r ∧ ∃ ad9 : Nat → Nat, dAg ad0 ad9 ∧ wF ty ad9 o2 = u) (kz_B D ty A) A) args s nc ns A) (F0 m 9 ls []) := by
  have C0 := C
  obtain ⟨hx, hb, hr, hts, hown, hlocks, hml, hK, hN, hE, hA⟩ := C
  unfold zX9_worst_s0_9 at h
  refine lv_iconst (v := (-1)) hx hb dX9_worst_9 (by decide) ?_
  refine dw_up (c2 := nc) (s2 := ns) (Nat.zero_le _) (Nat.zero_le _) ?_
  cases h
  exact kz_iret hx hb hr hlocks hP hK hD hS dX9_worst_10 ⟨rfl, ad, hag, rfl⟩
set_option maxHeartbeats 4000000 in
set_option maxRecDepth 100000 in
theorem qX9_worst_s0 (l : Launch) (D : va_G) (ty : Nat → ClassId) (eo : Nat → Nat) (sz : Nat) (ad : Nat → Nat) (nc ns : Nat) (q : dK) (p1 : Int32) (o1 : Int32) (o2 : dK) (h : zX9_worst_s0 nc ns q p1 = some (o1, o2)) : Met l yX9_worst wsX9_worst ({ frames := 6, cells := nc, slots := ns, locals := 160 } : Room) (va_Pc [.ref (ad 0), .int p1] (kz_pre D ty eo (wF ty ad q) sz)) (va_Qi (fun (r : Int32) (u : va_W) => o1 = r ∧ ∃ ad9 : Nat → Nat, dAg ad ad9 ∧ wF ty ad9 o2 = u) (kz_B D ty (va_A (wF ty ad q) sz)) (va_A (wF ty ad q) sz)) nc ns (va_A (wF ty ad q) sz) := by
  have hag : dAg ad ad := fun _ _ => rfl
  refine Met.ofW (cc := cX9_worst) (maxL := 2) (ret := (some .int)) (by decide) rfl ?_
  intro p e s m args below meth c s₁ B hml hv
  obtain ⟨rfl, hsz, hP, hK, hD0, hN, hE⟩ := hv
  have hx := B.exec
  have hb := B.bytes
  have hr := B.returns
  have hts := atoms_spec (ws := wsX9_worst) B.pre
  have hown : s.vm.findClass RX9 = some m.cls := findClass_of_methodNamed B.named
  have hlocks := B.notSynchronized
  subst hsz
  have hD := hD0.self (sz := s.heap.size)
  generalize hAe : va_A (wF ty ad q) s.heap.size = A at hD hE ⊢
  have hA : ∀ q : Nat, s.heap.size ≤ q → A q := fun q h => by rw [← hAe]; exact Or.inr h
  clear hAe
  have hS : va_S A s.heap s.heap [] := va_S.rf
  have hl := lv_entry ([.ref (ad 0), .int p1]) (n := 2) (Nat.le_of_ble_eq_true rfl)
  rw [lg_entry_eq]
  generalize (lg_sl ([.ref (ad 0), .int p1]) ++ List.replicate (2 - (lg_sl ([.ref (ad 0), .int p1])).length) Slot.unset).toArray = ls at hl ⊢
  have hl : lv_has ls 2 [(0, .ref (ad 0)), (1, .int p1)] := hl
  have C : dc_C p s m _ meth c cX9_worst (some .int) 2 RX9 wsX9_worst D ty eo A := ⟨hx, hb, hr, hts, hown, hlocks, hml, hK, hN, hE, hA⟩
  unfold zX9_worst_s0 at h
  refine lv_iload_n hx hb dX9_worst_0 rfl (lv_at hl 1 rfl) ?_
  refine lv_if_lt (tgt := 9) hx hb dX9_worst_1 (by decide) (fun c9 => ?_) (fun c9 => ?_)
  · rw [if_pos c9] at h
    exact WX9_worst_s0_9 hag C  _ _ _ _ h hP hD hS (lv_sub hl [] rfl)
  · rw [if_neg c9] at h
    refine lv_iload_n hx hb dX9_worst_4 rfl (lv_at hl 1 rfl) ?_
    refine lv_iconst (v := 2) hx hb dX9_worst_5 (by decide) ?_
    refine lv_icmp_le (tgt := 11) hx hb dX9_worst_6 (by decide) (fun c9 => ?_) (fun c9 => ?_)
    · rw [if_pos c9] at h
      refine lv_aload_n hx hb dX9_worst_11 rfl (lv_at hl 0 rfl) ?_
      refine lv_aload_n hx hb dX9_worst_12 rfl (lv_at hl 0 rfl) ?_
      obtain ⟨q3, h2, h⟩ := dV_some h
      refine dw_kq (va_runV (As := []) (rest := [.ref (ad 0)]) ⟨hx, hb, hml, hown, hts⟩ (qX9_seated_s0 l D ty eo _ ad q  q3 h2) (cwV 0 hts gX9_worst_X9_seated rfl rfl rfl (by decide +kernel) ⟨Nat.le_of_ble_eq_true rfl, Nat.le_of_ble_eq_true rfl⟩) (dw_preV (ci := 9) (q0 := 0) hK hN hE hP hD hS hA rfl rfl) rfl rfl hl.1 rfl (lv_room (Nat.le_of_ble_eq_true rfl)) dX9_worst_13 ⟨Nat.zero_le _, Nat.zero_le _⟩) hP hD hS hA (fun r9 u9 H locs hw hp hd hs => ?_)
      clear hP hD hS
      obtain ⟨rfl, rfl⟩ := hw
      have hP := hp; have hD := hd; have hS := hs; clear hp hd hs
      obtain ⟨q6, h5, h⟩ := dV_some h
      refine dw_kv (va_runV (As := [.ref (ad 20)]) (rest := []) ⟨hx, hb, hml, hown, hts⟩ (qX9_spread_s0_s20 l D ty eo _ ad nc ns q3  q6 h5) (cwV 1 hts gX9_worst_X9_spread rfl rfl rfl (by decide +kernel) ⟨Nat.le_of_ble_eq_true rfl, Nat.le_of_ble_eq_true rfl⟩) (dw_preV (ci := 9) (q0 := 0) hK hN hE hP hD hS hA rfl rfl) rfl rfl hl.1 rfl (lv_room (Nat.le_of_ble_eq_true rfl)) dX9_worst_16 ⟨by show 0 + nc ≤ nc; omega, by show 0 + ns ≤ ns; omega⟩) hD hS hA (fun u9 H locs hw hp hd hs => ?_)
      clear hP hD hS
      obtain ⟨ad, hag1, rfl⟩ := hw
      replace hag := dAg_t hag hag1
      rw [dAg_s hag1 0 (by decide)] at hl
      clear hag1
      refine dw_up (c2 := nc) (s2 := ns) (by omega) (by omega) ?_
      have hP := hp; have hD := hd; have hS := hs; clear hp hd hs
      refine lv_aload_n hx hb dX9_worst_19 rfl (lv_at hl 0 rfl) ?_
      refine va_get (D := D) (ci := 9) (v := .ref (ad 32)) (C := RX9) (T := TX9) (N := 19) hx hb hts u9_wsX9_worst_X9 hown hK hP 0 rfl rfl 10 (by decide) (hts (.fieldLink RX9 80 "TurnedFloors" "paper" "LTurnedFloors$Paper;") f9_wsX9_worst_855) (fun _ h9 => h9) rfl dX9_worst_20 ?_
      refine lv_iload_n hx hb dX9_worst_23 rfl (lv_at hl 1 rfl) ?_
      obtain ⟨r7, q9, h8, h⟩ := dB_some h
      refine dw_ki (va_runV (As := [.int p1]) (rest := []) ⟨hx, hb, hml, hown, hts⟩ (qX3_worstTowers_s32 l D ty eo _ ad q6 p1 r7 q9 h8) (cwV 1 hts gX9_worst_X3_worstTowers rfl rfl rfl (by decide +kernel) ⟨Nat.le_of_ble_eq_true rfl, Nat.le_of_ble_eq_true rfl⟩) (dw_preV (ci := 3) (q0 := 32) hK hN hE hP hD hS hA rfl rfl) rfl rfl hl.1 rfl (lv_room (Nat.le_of_ble_eq_true rfl)) dX9_worst_24 ⟨Nat.le_refl _, Nat.le_refl _⟩) hD hS hA (fun r9 u9 H locs hw hp hd hs => ?_)
      clear hP hD hS
      obtain ⟨rfl, rfl⟩ := hw
      have hP := hp; have hD := hd; have hS := hs; clear hp hd hs
      cases h
      exact kz_iret hx hb hr hlocks hP hK hD hS dX9_worst_27 ⟨rfl, ad, hag, rfl⟩
    · rw [if_neg c9] at h
      exact WX9_worst_s0_9 hag C  _ _ _ _ h hP hD hS (lv_sub hl [] rfl)

set_option maxHeartbeats 4000000 in
set_option maxRecDepth 100000 in
theorem WX3_fits_s32_49 {p : Program} {l : Launch} {e : Env} {s : State} {m : MethodId} {args : Array Value} {below : List Frame} {meth : Method} {c : Code} {D : va_G} {ty : Nat → ClassId} {eo : Nat → Nat} {A : Nat → Prop} {ad : Nat → Nat} {o1 : Int32} {o2 : dK} (C : dc_C p s m args meth c cX3_fits (some .boolean) 5 RX3 wsX3_fits D ty eo A)   (q : dK) (y0 : Int32) (H : Heap) (locs : List Loc) (ls : Array Slot) (h : zX3_fits_s32_49  q y0 = some (o1, o2)) (hP : va_P D vwCl (wF ty ad q) H) (hD : va_D A (wF ty ad q)) (hS : va_S A s.heap H locs) (hl : lv_has ls 5 []) : W p l e ({ frames := 0, cells := 0, slots := 0, locals := 0 } : Room) s m args below meth c H locs 0 0 (MQ below (va_Qi (fun (r : Int32) (u : va_W) => o1 = r ∧ wF ty ad o2 = u) (kz_B D ty A) A) args s 0 0 A) (F0 m 49 ls [.int y0]) := by
  have C0 := C
  obtain ⟨hx, hb, hr, hts, hown, hlocks, hml, hK, hN, hE, hA⟩ := C
  unfold zX3_fits_s32_49 at h
  obtain ⟨g1, h⟩ := dG_some h
  cases h
  exact kz_zret hx hb hr hlocks (dbl_nar g1) hP hK hD hS dX3_fits_49 ⟨rfl, rfl⟩
set_option maxHeartbeats 4000000 in
set_option maxRecDepth 100000 in
theorem WX3_fits_s32_48 {p : Program} {l : Launch} {e : Env} {s : State} {m : MethodId} {args : Array Value} {below : List Frame} {meth : Method} {c : Code} {D : va_G} {ty : Nat → ClassId} {eo : Nat → Nat} {A : Nat → Prop} {ad : Nat → Nat} {o1 : Int32} {o2 : dK} (C : dc_C p s m args meth c cX3_fits (some .boolean) 5 RX3 wsX3_fits D ty eo A)   (q : dK)  (H : Heap) (locs : List Loc) (ls : Array Slot) (h : zX3_fits_s32_48  q = some (o1, o2)) (hP : va_P D vwCl (wF ty ad q) H) (hD : va_D A (wF ty ad q)) (hS : va_S A s.heap H locs) (hl : lv_has ls 5 []) : W p l e ({ frames := 0, cells := 0, slots := 0, locals := 0 } : Room) s m args below meth c H locs 0 0 (MQ below (va_Qi (fun (r : Int32) (u : va_W) => o1 = r ∧ wF ty ad o2 = u) (kz_B D ty A) A) args s 0 0 A) (F0 m 48 ls []) := by
  have C0 := C
  obtain ⟨hx, hb, hr, hts, hown, hlocks, hml, hK, hN, hE, hA⟩ := C
  unfold zX3_fits_s32_48 at h
  refine lv_iconst (v := 0) hx hb dX3_fits_48 (by decide) ?_
  exact WX3_fits_s32_49 C0  _ _ _ _ _ h hP hD hS (lv_sub hl [] rfl)
set_option maxHeartbeats 4000000 in
set_option maxRecDepth 100000 in
theorem WX3_fits_s32_24 {p : Program} {l : Launch} {e : Env} {s : State} {m : MethodId} {args : Array Value} {below : List Frame} {meth : Method} {c : Code} {D : va_G} {ty : Nat → ClassId} {eo : Nat → Nat} {A : Nat → Prop} {ad : Nat → Nat} {o1 : Int32} {o2 : dK} (C : dc_C p s m args meth c cX3_fits (some .boolean) 5 RX3 wsX3_fits D ty eo A)   (q : dK) (y0 : Int32) (H : Heap) (locs : List Loc) (ls : Array Slot) (h : zX3_fits_s32_24  q y0 = some (o1, o2)) (hP : va_P D vwCl (wF ty ad q) H) (hD : va_D A (wF ty ad q)) (hS : va_S A s.heap H locs) (hl : lv_has ls 5 []) : W p l e ({ frames := 0, cells := 0, slots := 0, locals := 0 } : Room) s m args below meth c H locs 0 0 (MQ below (va_Qi (fun (r : Int32) (u : va_W) => o1 = r ∧ wF ty ad o2 = u) (kz_B D ty A) A) args s 0 0 A) (F0 m 24 ls [.int y0]) := by
  have C0 := C
  obtain ⟨hx, hb, hr, hts, hown, hlocks, hml, hK, hN, hE, hA⟩ := C
  unfold zX3_fits_s32_24 at h
  obtain ⟨g1, h⟩ := dG_some h
  cases h
  exact kz_zret hx hb hr hlocks (dbl_nar g1) hP hK hD hS dX3_fits_24 ⟨rfl, rfl⟩
set_option maxHeartbeats 4000000 in
set_option maxRecDepth 100000 in
theorem qX3_fits_s32 (l : Launch) (D : va_G) (ty : Nat → ClassId) (eo : Nat → Nat) (sz : Nat) (ad : Nat → Nat) (q : dK) (p1 : Int32) (p2 : Int32) (p3 : Int32) (o1 : Int32) (o2 : dK) (h : zX3_fits_s32 q p1 p2 p3 = some (o1, o2)) : Met l yX3_fits wsX3_fits ({ frames := 0, cells := 0, slots := 0, locals := 0 } : Room) (va_Pc [.ref (ad 32), .int p1, .int p2, .int p3] (kz_pre D ty eo (wF ty ad q) sz)) (va_Qi (fun (r : Int32) (u : va_W) => o1 = r ∧ wF ty ad o2 = u) (kz_B D ty (va_A (wF ty ad q) sz)) (va_A (wF ty ad q) sz)) 0 0 (va_A (wF ty ad q) sz) := by
  refine Met.ofW (cc := cX3_fits) (maxL := 5) (ret := (some .boolean)) (by decide) rfl ?_
  intro p e s m args below meth c s₁ B hml hv
  obtain ⟨rfl, hsz, hP, hK, hD0, hN, hE⟩ := hv
  have hx := B.exec
  have hb := B.bytes
  have hr := B.returns
  have hts := atoms_spec (ws := wsX3_fits) B.pre
  have hown : s.vm.findClass RX3 = some m.cls := findClass_of_methodNamed B.named
  have hlocks := B.notSynchronized
  subst hsz
  have hD := hD0.self (sz := s.heap.size)
  generalize hAe : va_A (wF ty ad q) s.heap.size = A at hD hE ⊢
  have hA : ∀ q : Nat, s.heap.size ≤ q → A q := fun q h => by rw [← hAe]; exact Or.inr h
  clear hAe
  have hS : va_S A s.heap s.heap [] := va_S.rf
  have hl := lv_entry ([.ref (ad 32), .int p1, .int p2, .int p3]) (n := 5) (Nat.le_of_ble_eq_true rfl)
  rw [lg_entry_eq]
  generalize (lg_sl ([.ref (ad 32), .int p1, .int p2, .int p3]) ++ List.replicate (5 - (lg_sl ([.ref (ad 32), .int p1, .int p2, .int p3])).length) Slot.unset).toArray = ls at hl ⊢
  have hl : lv_has ls 5 [(0, .ref (ad 32)), (1, .int p1), (2, .int p2), (3, .int p3)] := hl
  have C : dc_C p s m _ meth c cX3_fits (some .boolean) 5 RX3 wsX3_fits D ty eo A := ⟨hx, hb, hr, hts, hown, hlocks, hml, hK, hN, hE, hA⟩
  unfold zX3_fits_s32 at h
  refine lv_iload_n hx hb dX3_fits_0 rfl (lv_at hl 1 rfl) ?_
  refine lv_aload_n hx hb dX3_fits_1 rfl (lv_at hl 0 rfl) ?_
  refine va_get (D := D) (ci := 3) (v := .int (q.1 32 13)) (C := RX3) (T := TX3) (N := 20) hx hb hts u9_wsX3_fits_X3 hown hK hP 32 rfl rfl 13 (by decide) (hts (.fieldLink RX3 51 "TurnedFloors$Paper" "floors" "I") f9_wsX3_fits_857) (fun _ h9 => h9) rfl dX3_fits_2 ?_
  refine lv_ishr hx hb dX3_fits_5 ?_
  refine lv_istore (lv' := [(4, .int (p1 >>> ((q.1 32 13 : Int32) &&& 31))), (0, .ref (ad 32)), (1, .int p1), (2, .int p2), (3, .int p3)]) hx hb dX3_fits_6 hl (by decide) rfl (fun ls hl => ?_)
  refine lv_iload_n hx hb dX3_fits_8 rfl (lv_at hl 3 rfl) ?_
  refine lv_iconst (v := 1) hx hb dX3_fits_9 (by decide) ?_
  refine lv_icmp_ne (tgt := 25) hx hb dX3_fits_10 (by decide) (fun c9 => ?_) (fun c9 => ?_)
  · rw [if_neg c9] at h
    refine lv_iload_n hx hb dX3_fits_25 rfl (lv_at hl 3 rfl) ?_
    refine lv_iconst (v := 2) hx hb dX3_fits_26 (by decide) ?_
    refine lv_icmp_ne (tgt := 48) hx hb dX3_fits_27 (by decide) (fun c9 => ?_) (fun c9 => ?_)
    · rw [if_neg c9] at h
      exact WX3_fits_s32_48 C  _ _ _ _ h hP hD hS (lv_sub hl [] rfl)
    · rw [if_pos c9] at h
      refine lv_aload_n hx hb dX3_fits_30 rfl (lv_at hl 1 rfl) ?_
      refine va_get (D := D) (ci := 3) (v := .ref (ad 39)) (C := RX3) (T := TX3) (N := 20) hx hb hts u9_wsX3_fits_X3 hown hK hP 32 rfl rfl 6 (by decide) (hts (.fieldLink RX3 30 "TurnedFloors$Paper" "orders" "[I") f9_wsX3_fits_858) (fun _ h9 => h9) rfl dX3_fits_31 ?_
      refine lv_iload hx hb dX3_fits_34 (lv_at hl 0 rfl) ?_
      obtain ⟨g1, h⟩ := dG_some h
      refine va_iald hx hb hK hP 39 0 rfl rfl (dg_in g1) dX3_fits_36 ?_
      obtain ⟨v2, ev2, h⟩ := dL_some h
      refine kz_topi v2 ev2 ?_
      refine lv_bipush (v := 7) hx hb dX3_fits_37 (by decide) ?_
      refine lv_iand hx hb dX3_fits_39 ?_
      refine lv_iload_n hx hb dX3_fits_40 rfl (lv_at hl 4 rfl) ?_
      refine lv_icmp_ne (tgt := 48) hx hb dX3_fits_41 (by decide) (fun c9 => ?_) (fun c9 => ?_)
      · rw [if_neg c9] at h
        exact WX3_fits_s32_48 C  _ _ _ _ h hP hD hS (lv_sub hl [] rfl)
      · rw [if_pos c9] at h
        refine lv_iconst (v := 1) hx hb dX3_fits_44 (by decide) ?_
        refine lv_goto (tgt := 49) hx hb dX3_fits_45 (by decide) ?_
        exact WX3_fits_s32_49 C  _ _ _ _ _ h hP hD hS (lv_sub hl [] rfl)
  · rw [if_pos c9] at h
    refine lv_iload hx hb dX3_fits_13 (lv_at hl 0 rfl) ?_
    refine lv_iload_n hx hb dX3_fits_15 rfl (lv_at hl 4 rfl) ?_
    refine lv_icmp_ne (tgt := 23) hx hb dX3_fits_16 (by decide) (fun c9 => ?_) (fun c9 => ?_)
    · rw [if_neg c9] at h
      refine lv_iconst (v := 0) hx hb dX3_fits_23 (by decide) ?_
      exact WX3_fits_s32_24 C  _ _ _ _ _ h hP hD hS (lv_sub hl [] rfl)
    · rw [if_pos c9] at h
      refine lv_iconst (v := 1) hx hb dX3_fits_19 (by decide) ?_
      refine lv_goto (tgt := 24) hx hb dX3_fits_20 (by decide) ?_
      exact WX3_fits_s32_24 C  _ _ _ _ _ h hP hD hS (lv_sub hl [] rfl)
