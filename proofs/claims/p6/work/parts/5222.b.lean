theorem u9_wsX3_nearest_X3 : ∀ w ∈ u_ws RX3 TX3 20, w ∈ wsX3_nearest := by
  first | exact fun w h => List.mem_cons_of_mem _ (List.mem_append_right _ h) | decide +kernel
theorem f9_wsX3_nearest_860 : (Cond.fieldLink RX3 51 "TurnedFloors$Paper" "floors" "I") ∈ wsX3_nearest := by decide +kernel
theorem f9_wsX3_nearest_861 : (Cond.fieldLink RX3 42 "TurnedFloors$Paper" "marks" "[I") ∈ wsX3_nearest := by decide +kernel
theorem f9_wsX3_nearest_862 : (Cond.fieldLink RX3 18 "TurnedFloors$Paper" "barred" "[I") ∈ wsX3_nearest := by decide +kernel
theorem f9_wsX3_nearest_863 : (Cond.fieldLink RX3 70 "TurnedFloors$Paper" "visited" "I") ∈ wsX3_nearest := by decide +kernel
theorem f9_wsX3_nearest_864 : (Cond.fieldLink RX3 55 "TurnedFloors$Paper" "size" "I") ∈ wsX3_nearest := by decide +kernel
theorem f9_wsX3_nearest_865 : (Cond.fieldLink RX3 45 "TurnedFloors$Paper" "line" "[I") ∈ wsX3_nearest := by decide +kernel
theorem f9_wsX3_nearest_866 : (Cond.fieldLink RX3 58 "TurnedFloors$Paper" "start" "I") ∈ wsX3_nearest := by decide +kernel
theorem u9_wsX3_towersReached_X3 : ∀ w ∈ u_ws RX3 TX3 20, w ∈ wsX3_towersReached := by
  first | exact fun w h => List.mem_cons_of_mem _ (List.mem_append_right _ h) | decide +kernel
theorem f9_wsX3_towersReached_868 : (Cond.fieldLink RX3 70 "TurnedFloors$Paper" "visited" "I") ∈ wsX3_towersReached := by decide +kernel
theorem u9_wsX9_reach_X9 : ∀ w ∈ u_ws RX9 TX9 19, w ∈ wsX9_reach := by
  first | exact fun w h => List.mem_cons_of_mem _ (List.mem_append_right _ h) | decide +kernel
theorem f9_wsX9_reach_870 : (Cond.fieldLink RX9 80 "TurnedFloors" "paper" "LTurnedFloors$Paper;") ∈ wsX9_reach := by decide +kernel
theorem u9_wsX9_gaps_X9 : ∀ w ∈ u_ws RX9 TX9 19, w ∈ wsX9_gaps := by
  first | exact fun w h => List.mem_cons_of_mem _ (List.mem_append_right _ h) | decide +kernel
theorem u9_wsX9_gaps_X6 : ∀ w ∈ u_ws RX6 TX6 10, w ∈ wsX9_gaps := by
  first | exact fun w h => List.mem_cons_of_mem _ (List.mem_append_right _ h) | decide +kernel
theorem f9_wsX9_gaps_873 : (Cond.fieldLink RX9 10 "TurnedFloors" "state" "LTurnedFloors$State;") ∈ wsX9_gaps := by decide +kernel
theorem u9_wsX3_turnsToNumber_X3 : ∀ w ∈ u_ws RX3 TX3 20, w ∈ wsX3_turnsToNumber := by
  first | exact fun w h => List.mem_cons_of_mem _ (List.mem_append_right _ h) | decide +kernel
theorem f9_wsX3_turnsToNumber_875 : (Cond.fieldLink RX3 51 "TurnedFloors$Paper" "floors" "I") ∈ wsX3_turnsToNumber := by decide +kernel
theorem f9_wsX3_turnsToNumber_876 : (Cond.fieldLink RX3 15 "TurnedFloors$Paper" "digits" "[I") ∈ wsX3_turnsToNumber := by decide +kernel
theorem u9_wsX9_comes_X9 : ∀ w ∈ u_ws RX9 TX9 19, w ∈ wsX9_comes := by
  first | exact fun w h => List.mem_cons_of_mem _ (List.mem_append_right _ h) | decide +kernel
theorem f9_wsX9_comes_878 : (Cond.fieldLink RX9 80 "TurnedFloors" "paper" "LTurnedFloors$Paper;") ∈ wsX9_comes := by decide +kernel
theorem u9_wsX9_view_X9 : ∀ w ∈ u_ws RX9 TX9 19, w ∈ wsX9_view := by
  first | exact fun w h => List.mem_cons_of_mem _ (List.mem_append_right _ h) | decide +kernel
theorem u9_wsX9_view_X6 : ∀ w ∈ u_ws RX6 TX6 10, w ∈ wsX9_view := by
  first | exact fun w h => List.mem_cons_of_mem _ (List.mem_append_right _ h) | decide +kernel
theorem f9_wsX9_view_881 : (Cond.fieldLink RX9 10 "TurnedFloors" "state" "LTurnedFloors$State;") ∈ wsX9_view := by decide +kernel
theorem f9_wsX9_view_882 : (Cond.fieldLink RX9 80 "TurnedFloors" "paper" "LTurnedFloors$Paper;") ∈ wsX9_view := by decide +kernel
set_option maxHeartbeats 4000000 in
set_option maxRecDepth 100000 in
theorem WX3_nearest_s32_187 {p : Program} {l : Launch} {e : Env} {s : State} {m : MethodId} {args : Array Value} {below : List Frame} {meth : Method} {c : Code} {D : va_G} {ty : Nat → ClassId} {eo : Nat → Nat} {A : Nat → Prop} {ad : Nat → Nat} {o1 : Int32} {o2 : dK} (C : dc_C p s m args meth c cX3_nearest (some .int) 7 RX3 wsX3_nearest D ty eo A)   (q : dK)  (H : Heap) (locs : List Loc) (ls : Array Slot) (h : zX3_nearest_s32_187  q = some (o1, o2)) (hP : va_P D vwCl (wF ty ad q) H) (hD : va_D A (wF ty ad q)) (hS : va_S A s.heap H locs) (hl : lv_has ls 7 []) : W p l e ({ frames := 2, cells := 0, slots := 0, locals := 47 } : Room) s m args below meth c H locs 0 0 (MQ below (va_Qi (fun (r : Int32) (u : va_W) => o1 = r ∧ wF ty ad o2 = u) (kz_B D ty A) A) args s 0 0 A) (F0 m 187 ls []) := by
  have C0 := C
  obtain ⟨hx, hb, hr, hts, hown, hlocks, hml, hK, hN, hE, hA⟩ := C
  unfold zX3_nearest_s32_187 at h
  refine lv_iconst (v := (-1)) hx hb dX3_nearest_187 (by decide) ?_
  cases h
  exact kz_iret hx hb hr hlocks hP hK hD hS dX3_nearest_188 ⟨rfl, rfl⟩
set_option maxHeartbeats 4000000 in
set_option maxRecDepth 100000 in
theorem WX3_nearest_s32_175 {p : Program} {l : Launch} {e : Env} {s : State} {m : MethodId} {args : Array Value} {below : List Frame} {meth : Method} {c : Code} {D : va_G} {ty : Nat → ClassId} {eo : Nat → Nat} {A : Nat → Prop} {ad : Nat → Nat} {o1 : Int32} {o2 : dK} (C : dc_C p s m args meth c cX3_nearest (some .int) 7 RX3 wsX3_nearest D ty eo A) {k35 : dK → Int32 → Int32 → Int32 → Option (Int32 × dK)} {k81 : dK → Int32 → Int32 → Int32 → Int32 → Int32 → Option (Int32 × dK)} (hk35 : ∀ (q : dK) (x1 : Int32) (x2 : Int32) (x3 : Int32) (H : Heap) (locs : List Loc) (ls : Array Slot), k35 q x1 x2 x3 = some (o1, o2) → va_P D vwCl (wF ty ad q) H → va_D A (wF ty ad q) → va_S A s.heap H locs → lv_has ls 7 [(0, .ref (ad 32)), (1, .int x1), (2, .int x2), (3, .int x3)] → W p l e ({ frames := 2, cells := 0, slots := 0, locals := 47 } : Room) s m args below meth c H locs 0 0 (MQ below (va_Qi (fun (r : Int32) (u : va_W) => o1 = r ∧ wF ty ad o2 = u) (kz_B D ty A) A) args s 0 0 A) (F0 m 35 ls [])) (hk81 : ∀ (q : dK) (x1 : Int32) (x2 : Int32) (x3 : Int32) (x4 : Int32) (x5 : Int32) (H : Heap) (locs : List Loc) (ls : Array Slot), k81 q x1 x2 x3 x4 x5 = some (o1, o2) → va_P D vwCl (wF ty ad q) H → va_D A (wF ty ad q) → va_S A s.heap H locs → lv_has ls 7 [(0, .ref (ad 32)), (1, .int x1), (2, .int x2), (3, .int x3), (4, .int x4), (5, .int x5)] → W p l e ({ frames := 2, cells := 0, slots := 0, locals := 47 } : Room) s m args below meth c H locs 0 0 (MQ below (va_Qi (fun (r : Int32) (u : va_W) => o1 = r ∧ wF ty ad o2 = u) (kz_B D ty A) A) args s 0 0 A) (F0 m 81 ls [])) (q : dK) (x1 : Int32) (x2 : Int32) (x3 : Int32) (x4 : Int32) (x5 : Int32) (H : Heap) (locs : List Loc) (ls : Array Slot) (h : zX3_nearest_s32_175 k35 k81 q x1 x2 x3 x4 x5 = some (o1, o2)) (hP : va_P D vwCl (wF ty ad q) H) (hD : va_D A (wF ty ad q)) (hS : va_S A s.heap H locs) (hl : lv_has ls 7 [(0, .ref (ad 32)), (1, .int x1), (2, .int x2), (3, .int x3), (4, .int x4), (5, .int x5)]) : W p l e ({ frames := 2, cells := 0, slots := 0, locals := 47 } : Room) s m args below meth c H locs 0 0 (MQ below (va_Qi (fun (r : Int32) (u : va_W) => o1 = r ∧ wF ty ad o2 = u) (kz_B D ty A) A) args s 0 0 A) (F0 m 175 ls []) := by
  have C0 := C
  obtain ⟨hx, hb, hr, hts, hown, hlocks, hml, hK, hN, hE, hA⟩ := C
  unfold zX3_nearest_s32_175 at h
  refine lv_iinc (v := x5 + 1) (lv' := [(5, .int (x5 + 1)), (0, .ref (ad 32)), (1, .int x1), (2, .int x2), (3, .int x3), (4, .int x4)]) hx hb dX3_nearest_175 hl (k := 5) rfl rfl (by decide) rfl (fun ls hl => ?_)
  refine lv_goto (tgt := 81) hx hb dX3_nearest_178 (by decide) ?_
  exact hk81 _ _ _ _ _ _ _ _ _ h hP hD hS (lv_sub hl [1, 2, 3, 4, 5, 0] rfl)
set_option maxHeartbeats 4000000 in
set_option maxRecDepth 100000 in
theorem WX3_nearest_s32_81b {p : Program} {l : Launch} {e : Env} {s : State} {m : MethodId} {args : Array Value} {below : List Frame} {meth : Method} {c : Code} {D : va_G} {ty : Nat → ClassId} {eo : Nat → Nat} {A : Nat → Prop} {ad : Nat → Nat} {o1 : Int32} {o2 : dK} (C : dc_C p s m args meth c cX3_nearest (some .int) 7 RX3 wsX3_nearest D ty eo A) {k35 : dK → Int32 → Int32 → Int32 → Option (Int32 × dK)} {k81 : dK → Int32 → Int32 → Int32 → Int32 → Int32 → Option (Int32 × dK)} (hk35 : ∀ (q : dK) (x1 : Int32) (x2 : Int32) (x3 : Int32) (H : Heap) (locs : List Loc) (ls : Array Slot), k35 q x1 x2 x3 = some (o1, o2) → va_P D vwCl (wF ty ad q) H → va_D A (wF ty ad q) → va_S A s.heap H locs → lv_has ls 7 [(0, .ref (ad 32)), (1, .int x1), (2, .int x2), (3, .int x3)] → W p l e ({ frames := 2, cells := 0, slots := 0, locals := 47 } : Room) s m args below meth c H locs 0 0 (MQ below (va_Qi (fun (r : Int32) (u : va_W) => o1 = r ∧ wF ty ad o2 = u) (kz_B D ty A) A) args s 0 0 A) (F0 m 35 ls [])) (hk81 : ∀ (q : dK) (x1 : Int32) (x2 : Int32) (x3 : Int32) (x4 : Int32) (x5 : Int32) (H : Heap) (locs : List Loc) (ls : Array Slot), k81 q x1 x2 x3 x4 x5 = some (o1, o2) → va_P D vwCl (wF ty ad q) H → va_D A (wF ty ad q) → va_S A s.heap H locs → lv_has ls 7 [(0, .ref (ad 32)), (1, .int x1), (2, .int x2), (3, .int x3), (4, .int x4), (5, .int x5)] → W p l e ({ frames := 2, cells := 0, slots := 0, locals := 47 } : Room) s m args below meth c H locs 0 0 (MQ below (va_Qi (fun (r : Int32) (u : va_W) => o1 = r ∧ wF ty ad o2 = u) (kz_B D ty A) A) args s 0 0 A) (F0 m 81 ls [])) (q : dK) (x1 : Int32) (x2 : Int32) (x3 : Int32) (x4 : Int32) (x5 : Int32) (H : Heap) (locs : List Loc) (ls : Array Slot) (h : zX3_nearest_s32_81b k35 k81 q x1 x2 x3 x4 x5 = some (o1, o2)) (hP : va_P D vwCl (wF ty ad q) H) (hD : va_D A (wF ty ad q)) (hS : va_S A s.heap H locs) (hl : lv_has ls 7 [(0, .ref (ad 32)), (1, .int x1), (2, .int x2), (3, .int x3), (4, .int x4), (5, .int x5)]) : W p l e ({ frames := 2, cells := 0, slots := 0, locals := 47 } : Room) s m args below meth c H locs 0 0 (MQ below (va_Qi (fun (r : Int32) (u : va_W) => o1 = r ∧ wF ty ad o2 = u) (kz_B D ty A) A) args s 0 0 A) (F0 m 81 ls []) := by
  have C0 := C
  obtain ⟨hx, hb, hr, hts, hown, hlocks, hml, hK, hN, hE, hA⟩ := C
  unfold zX3_nearest_s32_81b at h
  refine lv_iload hx hb dX3_nearest_81 (lv_at hl 5 rfl) ?_
  refine lv_aload_n hx hb dX3_nearest_83 rfl (lv_at hl 0 rfl) ?_
  refine va_get (D := D) (ci := 3) (v := .int (q.1 32 13)) (C := RX3) (T := TX3) (N := 20) hx hb hts u9_wsX3_nearest_X3 hown hK hP 32 rfl rfl 13 (by decide) (hts (.fieldLink RX3 51 "TurnedFloors$Paper" "floors" "I") f9_wsX3_nearest_860) (fun _ h9 => h9) rfl dX3_nearest_84 ?_
  refine lv_icmp_gt (tgt := 181) hx hb dX3_nearest_87 (by decide) (fun c9 => ?_) (fun c9 => ?_)
  · rw [if_pos c9] at h
    refine lv_iinc (v := x3 + 1) (lv' := [(3, .int (x3 + 1)), (0, .ref (ad 32)), (1, .int x1), (2, .int x2), (4, .int x4), (5, .int x5)]) hx hb dX3_nearest_181 hl (k := 3) rfl rfl (by decide) rfl (fun ls hl => ?_)
    refine lv_goto (tgt := 35) hx hb dX3_nearest_184 (by decide) ?_
    exact hk35 _ _ _ _ _ _ _ h hP hD hS (lv_sub hl [1, 2, 3, 0] rfl)
  · rw [if_neg c9] at h
    refine lv_aload_n hx hb dX3_nearest_90 rfl (lv_at hl 0 rfl) ?_
    refine lv_iload hx hb dX3_nearest_91 (lv_at hl 4 rfl) ?_
    refine lv_iload hx hb dX3_nearest_93 (lv_at hl 5 rfl) ?_
    obtain ⟨r1, q3, h2, h⟩ := dB_some h
    refine dw_ki (va_runV (As := [.int x4, .int x5]) (rest := []) ⟨hx, hb, hml, hown, hts⟩ (qX3_turned_s32 l D ty eo _ ad q x4 x5 r1 q3 h2) (cwV 2 hts gX3_nearest_X3_turned rfl rfl rfl (by decide +kernel) ⟨Nat.le_of_ble_eq_true rfl, Nat.le_of_ble_eq_true rfl⟩) (dw_preV (ci := 3) (q0 := 32) hK hN hE hP hD hS hA rfl rfl) rfl rfl hl.1 rfl (lv_room (Nat.le_of_ble_eq_true rfl)) dX3_nearest_95 ⟨Nat.le_of_ble_eq_true rfl, Nat.le_of_ble_eq_true rfl⟩) hD hS hA (fun r9 u9 H locs hw hp hd hs => ?_)
    clear hP hD hS
    obtain ⟨rfl, rfl⟩ := hw
    have hP := hp; have hD := hd; have hS := hs; clear hp hd hs
    refine lv_istore (lv' := [(6, .int r1), (0, .ref (ad 32)), (1, .int x1), (2, .int x2), (3, .int x3), (4, .int x4), (5, .int x5)]) hx hb dX3_nearest_98 hl (by decide) rfl (fun ls hl => ?_)
    refine lv_aload_n hx hb dX3_nearest_100 rfl (lv_at hl 1 rfl) ?_
    refine va_get (D := D) (ci := 3) (v := .ref (ad 43)) (C := RX3) (T := TX3) (N := 20) hx hb hts u9_wsX3_nearest_X3 hown hK hP 32 rfl rfl 10 (by decide) (hts (.fieldLink RX3 42 "TurnedFloors$Paper" "marks" "[I") f9_wsX3_nearest_861) (fun _ h9 => h9) rfl dX3_nearest_101 ?_
    refine lv_iload hx hb dX3_nearest_104 (lv_at hl 0 rfl) ?_
    obtain ⟨g4, h⟩ := dG_some h
    refine va_iald hx hb hK hP 43 0 rfl rfl (dg_in g4) dX3_nearest_106 ?_
    obtain ⟨v5, ev5, h⟩ := dL_some h
    refine kz_topi v5 ev5 ?_
    refine lv_iconst (v := (-1)) hx hb dX3_nearest_107 (by decide) ?_
    refine lv_icmp_ne (tgt := 175) hx hb dX3_nearest_108 (by decide) (fun c9 => ?_) (fun c9 => ?_)
    · rw [if_neg c9] at h
      exact WX3_nearest_s32_175 C0 hk35 hk81 _ _ _ _ _ _ _ _ _ h hP hD hS (lv_sub hl [1, 2, 3, 4, 5, 6] rfl)
    · rw [if_pos c9] at h
      refine lv_aload_n hx hb dX3_nearest_111 rfl (lv_at hl 1 rfl) ?_
      refine va_get (D := D) (ci := 3) (v := .ref (ad 35)) (C := RX3) (T := TX3) (N := 20) hx hb hts u9_wsX3_nearest_X3 hown hK hP 32 rfl rfl 2 (by decide) (hts (.fieldLink RX3 18 "TurnedFloors$Paper" "barred" "[I") f9_wsX3_nearest_862) (fun _ h9 => h9) rfl dX3_nearest_112 ?_
      refine lv_aload_n hx hb dX3_nearest_115 rfl (lv_at hl 1 rfl) ?_
      refine lv_iload hx hb dX3_nearest_116 (lv_at hl 5 rfl) ?_
      refine lv_iload hx hb dX3_nearest_118 (lv_at hl 6 rfl) ?_
      obtain ⟨r6, q8, h7, h⟩ := dB_some h
      refine dw_ki (va_runV (As := [.int x4, .int x5]) (rest := [.ref (ad 35)]) ⟨hx, hb, hml, hown, hts⟩ (qX3_caseOf_s32 l D ty eo _ ad q3 x4 x5 r6 q8 h7) (cwV 2 hts gX3_nearest_X3_caseOf rfl rfl rfl (by decide +kernel) ⟨Nat.le_of_ble_eq_true rfl, Nat.le_of_ble_eq_true rfl⟩) (dw_preV (ci := 3) (q0 := 32) hK hN hE hP hD hS hA rfl rfl) rfl rfl hl.1 rfl (lv_room (Nat.le_of_ble_eq_true rfl)) dX3_nearest_120 ⟨Nat.le_of_ble_eq_true rfl, Nat.le_of_ble_eq_true rfl⟩) hD hS hA (fun r9 u9 H locs hw hp hd hs => ?_)
      clear hP hD hS
      obtain ⟨rfl, rfl⟩ := hw
      have hP := hp; have hD := hd; have hS := hs; clear hp hd hs
      obtain ⟨g9, h⟩ := dG_some h
      refine va_iald hx hb hK hP 35 0 rfl rfl (dg_in g9) dX3_nearest_123 ?_
      obtain ⟨v10, ev10, h⟩ := dL_some h
      refine kz_topi v10 ev10 ?_
      refine lv_if_ne (tgt := 175) hx hb dX3_nearest_124 (by decide) (fun c9 => ?_) (fun c9 => ?_)
      · rw [if_neg c9] at h
        exact WX3_nearest_s32_175 C0 hk35 hk81 _ _ _ _ _ _ _ _ _ h hP hD hS (lv_sub hl [1, 2, 3, 4, 5, 6] rfl)
      · rw [if_pos c9] at h
        refine lv_aload_n hx hb dX3_nearest_127 rfl (lv_at hl 1 rfl) ?_
        refine va_get (D := D) (ci := 3) (v := .int (q8.1 32 19)) (C := RX3) (T := TX3) (N := 20) hx hb hts u9_wsX3_nearest_X3 hown hK hP 32 rfl rfl 19 (by decide) (hts (.fieldLink RX3 70 "TurnedFloors$Paper" "visited" "I") f9_wsX3_nearest_863) (fun _ h9 => h9) rfl dX3_nearest_128 ?_
        refine lv_aload_n hx hb dX3_nearest_131 rfl (lv_at hl 1 rfl) ?_
        refine va_get (D := D) (ci := 3) (v := .int (q8.1 32 14)) (C := RX3) (T := TX3) (N := 20) hx hb hts u9_wsX3_nearest_X3 hown hK hP 32 rfl rfl 14 (by decide) (hts (.fieldLink RX3 55 "TurnedFloors$Paper" "size" "I") f9_wsX3_nearest_864) (fun _ h9 => h9) rfl dX3_nearest_132 ?_
        refine lv_icmp_ge (tgt := 175) hx hb dX3_nearest_135 (by decide) (fun c9 => ?_) (fun c9 => ?_)
        · rw [if_pos c9] at h
          exact WX3_nearest_s32_175 C0 hk35 hk81 _ _ _ _ _ _ _ _ _ h hP hD hS (lv_sub hl [1, 2, 3, 4, 5, 6] rfl)
        · rw [if_neg c9] at h
          refine lv_aload_n hx hb dX3_nearest_138 rfl (lv_at hl 1 rfl) ?_
          refine va_get (D := D) (ci := 3) (v := .ref (ad 43)) (C := RX3) (T := TX3) (N := 20) hx hb hts u9_wsX3_nearest_X3 hown hK hP 32 rfl rfl 10 (by decide) (hts (.fieldLink RX3 42 "TurnedFloors$Paper" "marks" "[I") f9_wsX3_nearest_861) (fun _ h9 => h9) rfl dX3_nearest_139 ?_
          refine lv_iload hx hb dX3_nearest_142 (lv_at hl 0 rfl) ?_
          refine lv_aload_n hx hb dX3_nearest_144 rfl (lv_at hl 1 rfl) ?_
          refine va_get (D := D) (ci := 3) (v := .ref (ad 43)) (C := RX3) (T := TX3) (N := 20) hx hb hts u9_wsX3_nearest_X3 hown hK hP 32 rfl rfl 10 (by decide) (hts (.fieldLink RX3 42 "TurnedFloors$Paper" "marks" "[I") f9_wsX3_nearest_861) (fun _ h9 => h9) rfl dX3_nearest_145 ?_
          refine lv_iload hx hb dX3_nearest_148 (lv_at hl 5 rfl) ?_
          obtain ⟨g11, h⟩ := dG_some h
          refine va_iald hx hb hK hP 43 0 rfl rfl (dg_in g11) dX3_nearest_150 ?_
          obtain ⟨v12, ev12, h⟩ := dL_some h
          refine kz_topi v12 ev12 ?_
          refine lv_iconst (v := 1) hx hb dX3_nearest_151 (by decide) ?_
          refine lv_iadd hx hb dX3_nearest_152 ?_
          obtain ⟨g13, h⟩ := dG_some h
          refine va_iast hx hb hK hP hD hS 43 0 rfl rfl (dg_in g13) dX3_nearest_153 (fun H locs hp hd hs => ?_)
          obtain ⟨q14, eq14, h⟩ := dL_some h
          refine kz_re (w2 := wF ty ad q14) hp hd hs (by rw [← eq14]; exact wF_a43 ty ad q8 (Int32.toNatClampNeg r1) (v12 + 1 : Int32)) ?_
          clear hp hd hs hP hD hS
          intro hP hD hS
          refine lv_aload_n hx hb dX3_nearest_154 rfl (lv_at hl 1 rfl) ?_
          refine va_get (D := D) (ci := 3) (v := .ref (ad 44)) (C := RX3) (T := TX3) (N := 20) hx hb hts u9_wsX3_nearest_X3 hown hK hP 32 rfl rfl 11 (by decide) (hts (.fieldLink RX3 45 "TurnedFloors$Paper" "line" "[I") f9_wsX3_nearest_865) (fun _ h9 => h9) rfl dX3_nearest_155 ?_
          refine lv_aload_n hx hb dX3_nearest_158 rfl (lv_at hl 1 rfl) ?_
          refine va_get (D := D) (ci := 3) (v := .int (q14.1 32 19)) (C := RX3) (T := TX3) (N := 20) hx hb hts u9_wsX3_nearest_X3 hown hK hP 32 rfl rfl 19 (by decide) (hts (.fieldLink RX3 70 "TurnedFloors$Paper" "visited" "I") f9_wsX3_nearest_863) (fun _ h9 => h9) rfl dX3_nearest_159 ?_
          refine lv_iload hx hb dX3_nearest_162 (lv_at hl 0 rfl) ?_
          obtain ⟨g15, h⟩ := dG_some h
          refine va_iast hx hb hK hP hD hS 44 0 rfl rfl (dg_in g15) dX3_nearest_164 (fun H locs hp hd hs => ?_)
          obtain ⟨q16, eq16, h⟩ := dL_some h
          refine kz_re (w2 := wF ty ad q16) hp hd hs (by rw [← eq16]; exact wF_a44 ty ad q14 (Int32.toNatClampNeg (q14.1 32 19)) r1) ?_
          clear hp hd hs hP hD hS
          intro hP hD hS
          refine lv_aload_n hx hb dX3_nearest_165 rfl (lv_at hl 1 rfl) ?_
          refine lv_dup hx hb dX3_nearest_166 rfl ?_
          refine va_get (D := D) (ci := 3) (v := .int (q16.1 32 19)) (C := RX3) (T := TX3) (N := 20) hx hb hts u9_wsX3_nearest_X3 hown hK hP 32 rfl rfl 19 (by decide) (hts (.fieldLink RX3 70 "TurnedFloors$Paper" "visited" "I") f9_wsX3_nearest_863) (fun _ h9 => h9) rfl dX3_nearest_167 ?_
          refine lv_iconst (v := 1) hx hb dX3_nearest_170 (by decide) ?_
          refine lv_iadd hx hb dX3_nearest_171 ?_
          refine va_put (D := D) (ci := 3) (v := .int ((q16.1 32 19) + 1 : Int32)) (ty := .int) (C := RX3) (T := TX3) (N := 20) hx hb hts u9_wsX3_nearest_X3 tyX3 tyX3_ok nmX3 hown hK hP hD hS 32 rfl rfl 19 (by decide) (hts (.fieldLink RX3 70 "TurnedFloors$Paper" "visited" "I") f9_wsX3_nearest_863) (fun _ h9 => h9) rfl (by decide +kernel) rfl rfl (Nat.le_of_ble_eq_true rfl) dX3_nearest_172 (fun H locs hp hd hs => ?_)
          obtain ⟨q17, eq17, h⟩ := dL_some h
          refine kz_re (w2 := wF ty ad q17) hp hd hs (by rw [← eq17]; exact wF_f32_19 ty ad q16 ((q16.1 32 19) + 1 : Int32)) ?_
          clear hp hd hs hP hD hS
          intro hP hD hS
          exact WX3_nearest_s32_175 C0 hk35 hk81 _ _ _ _ _ _ _ _ _ h hP hD hS (lv_sub hl [1, 2, 3, 4, 5, 6] rfl)
set_option maxHeartbeats 4000000 in
set_option maxRecDepth 100000 in
theorem WX3_nearest_s32_81 {p : Program} {l : Launch} {e : Env} {s : State} {m : MethodId} {args : Array Value} {below : List Frame} {meth : Method} {c : Code} {D : va_G} {ty : Nat → ClassId} {eo : Nat → Nat} {A : Nat → Prop} {ad : Nat → Nat} {o1 : Int32} {o2 : dK} (C : dc_C p s m args meth c cX3_nearest (some .int) 7 RX3 wsX3_nearest D ty eo A) {k35 : dK → Int32 → Int32 → Int32 → Option (Int32 × dK)} (hk35 : ∀ (q : dK) (x1 : Int32) (x2 : Int32) (x3 : Int32) (H : Heap) (locs : List Loc) (ls : Array Slot), k35 q x1 x2 x3 = some (o1, o2) → va_P D vwCl (wF ty ad q) H → va_D A (wF ty ad q) → va_S A s.heap H locs → lv_has ls 7 [(0, .ref (ad 32)), (1, .int x1), (2, .int x2), (3, .int x3)] → W p l e ({ frames := 2, cells := 0, slots := 0, locals := 47 } : Room) s m args below meth c H locs 0 0 (MQ below (va_Qi (fun (r : Int32) (u : va_W) => o1 = r ∧ wF ty ad o2 = u) (kz_B D ty A) A) args s 0 0 A) (F0 m 35 ls [])) (n : Nat) (q : dK) (x1 : Int32) (x2 : Int32) (x3 : Int32) (x4 : Int32) (x5 : Int32) (H : Heap) (locs : List Loc) (ls : Array Slot) (h : zX3_nearest_s32_81 k35 n q x1 x2 x3 x4 x5 = some (o1, o2)) (hP : va_P D vwCl (wF ty ad q) H) (hD : va_D A (wF ty ad q)) (hS : va_S A s.heap H locs) (hl : lv_has ls 7 [(0, .ref (ad 32)), (1, .int x1), (2, .int x2), (3, .int x3), (4, .int x4), (5, .int x5)]) : W p l e ({ frames := 2, cells := 0, slots := 0, locals := 47 } : Room) s m args below meth c H locs 0 0 (MQ below (va_Qi (fun (r : Int32) (u : va_W) => o1 = r ∧ wF ty ad o2 = u) (kz_B D ty A) A) args s 0 0 A) (F0 m 81 ls []) := by
  exact dFix_W (F := fun k (a : dK × Int32 × Int32 × Int32 × Int32 × Int32) => zX3_nearest_s32_81b k35 (fun q x1 x2 x3 x4 x5 => k (q, x1, x2, x3, x4, x5)) a.1 a.2.1 a.2.2.1 a.2.2.2.1 a.2.2.2.2.1 a.2.2.2.2.2) (o := (o1, o2)) (P := fun (a : dK × Int32 × Int32 × Int32 × Int32 × Int32) H locs ls => va_P D vwCl (wF ty ad a.1) H ∧ va_D A (wF ty ad a.1) ∧ va_S A s.heap H locs ∧ lv_has ls 7 [(0, .ref (ad 32)), (1, .int a.2.1), (2, .int a.2.2.1), (3, .int a.2.2.2.1), (4, .int a.2.2.2.2.1), (5, .int a.2.2.2.2.2)]) (G := fun H locs ls => W p l e ({ frames := 2, cells := 0, slots := 0, locals := 47 } : Room) s m args below meth c H locs 0 0 (MQ below (va_Qi (fun (r : Int32) (u : va_W) => o1 = r ∧ wF ty ad o2 = u) (kz_B D ty A) A) args s 0 0 A) (F0 m 81 ls []))
    (fun k hk a H locs ls h hp => WX3_nearest_s32_81b C hk35 (fun q x1 x2 x3 x4 x5 H locs ls h h1 h2 h3 h4 => hk (q, x1, x2, x3, x4, x5) H locs ls h ⟨h1, h2, h3, h4⟩) a.1 a.2.1 a.2.2.1 a.2.2.2.1 a.2.2.2.2.1 a.2.2.2.2.2 H locs ls h hp.1 hp.2.1 hp.2.2.1 hp.2.2.2) n (q, x1, x2, x3, x4, x5) H locs ls h ⟨hP, hD, hS, hl⟩
set_option maxHeartbeats 4000000 in
set_option maxRecDepth 100000 in
theorem WX3_nearest_s32_35b {p : Program} {l : Launch} {e : Env} {s : State} {m : MethodId} {args : Array Value} {below : List Frame} {meth : Method} {c : Code} {D : va_G} {ty : Nat → ClassId} {eo : Nat → Nat} {A : Nat → Prop} {ad : Nat → Nat} {o1 : Int32} {o2 : dK} (C : dc_C p s m args meth c cX3_nearest (some .int) 7 RX3 wsX3_nearest D ty eo A) {k35 : dK → Int32 → Int32 → Int32 → Option (Int32 × dK)} (hk35 : ∀ (q : dK) (x1 : Int32) (x2 : Int32) (x3 : Int32) (H : Heap) (locs : List Loc) (ls : Array Slot), k35 q x1 x2 x3 = some (o1, o2) → va_P D vwCl (wF ty ad q) H → va_D A (wF ty ad q) → va_S A s.heap H locs → lv_has ls 7 [(0, .ref (ad 32)), (1, .int x1), (2, .int x2), (3, .int x3)] → W p l e ({ frames := 2, cells := 0, slots := 0, locals := 47 } : Room) s m args below meth c H locs 0 0 (MQ below (va_Qi (fun (r : Int32) (u : va_W) => o1 = r ∧ wF ty ad o2 = u) (kz_B D ty A) A) args s 0 0 A) (F0 m 35 ls [])) (q : dK) (x1 : Int32) (x2 : Int32) (x3 : Int32) (H : Heap) (locs : List Loc) (ls : Array Slot) (h : zX3_nearest_s32_35b k35 q x1 x2 x3 = some (o1, o2)) (hP : va_P D vwCl (wF ty ad q) H) (hD : va_D A (wF ty ad q)) (hS : va_S A s.heap H locs) (hl : lv_has ls 7 [(0, .ref (ad 32)), (1, .int x1), (2, .int x2), (3, .int x3)]) : W p l e ({ frames := 2, cells := 0, slots := 0, locals := 47 } : Room) s m args below meth c H locs 0 0 (MQ below (va_Qi (fun (r : Int32) (u : va_W) => o1 = r ∧ wF ty ad o2 = u) (kz_B D ty A) A) args s 0 0 A) (F0 m 35 ls []) := by
  have C0 := C
  obtain ⟨hx, hb, hr, hts, hown, hlocks, hml, hK, hN, hE, hA⟩ := C
  unfold zX3_nearest_s32_35b at h
  refine lv_iload_n hx hb dX3_nearest_35 rfl (lv_at hl 3 rfl) ?_
  refine lv_aload_n hx hb dX3_nearest_36 rfl (lv_at hl 0 rfl) ?_
  refine va_get (D := D) (ci := 3) (v := .int (q.1 32 14)) (C := RX3) (T := TX3) (N := 20) hx hb hts u9_wsX3_nearest_X3 hown hK hP 32 rfl rfl 14 (by decide) (hts (.fieldLink RX3 55 "TurnedFloors$Paper" "size" "I") f9_wsX3_nearest_864) (fun _ h9 => h9) rfl dX3_nearest_37 ?_
  refine lv_icmp_ge (tgt := 187) hx hb dX3_nearest_40 (by decide) (fun c9 => ?_) (fun c9 => ?_)
  · rw [if_pos c9] at h
    exact WX3_nearest_s32_187 C0  _ _ _ _ h hP hD hS (lv_sub hl [] rfl)
  · rw [if_neg c9] at h
    refine lv_iload_n hx hb dX3_nearest_43 rfl (lv_at hl 3 rfl) ?_
    refine lv_aload_n hx hb dX3_nearest_44 rfl (lv_at hl 0 rfl) ?_
    refine va_get (D := D) (ci := 3) (v := .int (q.1 32 19)) (C := RX3) (T := TX3) (N := 20) hx hb hts u9_wsX3_nearest_X3 hown hK hP 32 rfl rfl 19 (by decide) (hts (.fieldLink RX3 70 "TurnedFloors$Paper" "visited" "I") f9_wsX3_nearest_863) (fun _ h9 => h9) rfl dX3_nearest_45 ?_
    refine lv_icmp_ge (tgt := 187) hx hb dX3_nearest_48 (by decide) (fun c9 => ?_) (fun c9 => ?_)
    · rw [if_pos c9] at h
      exact WX3_nearest_s32_187 C0  _ _ _ _ h hP hD hS (lv_sub hl [] rfl)
    · rw [if_neg c9] at h
      refine lv_aload_n hx hb dX3_nearest_51 rfl (lv_at hl 0 rfl) ?_
      refine va_get (D := D) (ci := 3) (v := .ref (ad 44)) (C := RX3) (T := TX3) (N := 20) hx hb hts u9_wsX3_nearest_X3 hown hK hP 32 rfl rfl 11 (by decide) (hts (.fieldLink RX3 45 "TurnedFloors$Paper" "line" "[I") f9_wsX3_nearest_865) (fun _ h9 => h9) rfl dX3_nearest_52 ?_
      refine lv_iload_n hx hb dX3_nearest_55 rfl (lv_at hl 3 rfl) ?_
      obtain ⟨g1, h⟩ := dG_some h
      refine va_iald hx hb hK hP 44 0 rfl rfl (dg_in g1) dX3_nearest_56 ?_
      obtain ⟨v2, ev2, h⟩ := dL_some h
      refine kz_topi v2 ev2 ?_
      refine lv_istore (lv' := [(4, .int v2), (0, .ref (ad 32)), (1, .int x1), (2, .int x2), (3, .int x3)]) hx hb dX3_nearest_57 hl (by decide) rfl (fun ls hl => ?_)
      refine lv_aload_n hx hb dX3_nearest_59 rfl (lv_at hl 1 rfl) ?_
      refine lv_iload hx hb dX3_nearest_60 (lv_at hl 0 rfl) ?_
      refine lv_iload_n hx hb dX3_nearest_62 rfl (lv_at hl 2 rfl) ?_
      refine lv_iload_n hx hb dX3_nearest_63 rfl (lv_at hl 3 rfl) ?_
      obtain ⟨r3, q5, h4, h⟩ := dB_some h
      refine dw_ki (va_runV (As := [.int v2, .int x1, .int x2]) (rest := []) ⟨hx, hb, hml, hown, hts⟩ (qX3_fits_s32 l D ty eo _ ad q v2 x1 x2 r3 q5 h4) (cwV 3 hts gX3_nearest_X3_fits rfl rfl rfl (by decide +kernel) ⟨Nat.le_of_ble_eq_true rfl, Nat.le_of_ble_eq_true rfl⟩) (dw_preV (ci := 3) (q0 := 32) hK hN hE hP hD hS hA rfl rfl) rfl rfl hl.1 rfl (lv_room (Nat.le_of_ble_eq_true rfl)) dX3_nearest_64 ⟨Nat.le_of_ble_eq_true rfl, Nat.le_of_ble_eq_true rfl⟩) hD hS hA (fun r9 u9 H locs hw hp hd hs => ?_)
      clear hP hD hS
      obtain ⟨rfl, rfl⟩ := hw
      have hP := hp; have hD := hd; have hS := hs; clear hp hd hs
      refine lv_if_eq (tgt := 78) hx hb dX3_nearest_67 (by decide) (fun c9 => ?_) (fun c9 => ?_)
      · rw [if_pos c9] at h
        refine lv_iconst (v := 1) hx hb dX3_nearest_78 (by decide) ?_
        refine lv_istore (lv' := [(5, .int 1), (4, .int v2), (0, .ref (ad 32)), (1, .int x1), (2, .int x2), (3, .int x3)]) hx hb dX3_nearest_79 hl (by decide) rfl (fun ls hl => ?_)
        exact WX3_nearest_s32_81 C0 hk35 _ _ _ _ _ _ _ _ _ _ h hP hD hS (lv_sub hl [2, 3, 4, 5, 1, 0] rfl)
      · rw [if_neg c9] at h
        refine lv_aload_n hx hb dX3_nearest_70 rfl (lv_at hl 1 rfl) ?_
        refine va_get (D := D) (ci := 3) (v := .ref (ad 43)) (C := RX3) (T := TX3) (N := 20) hx hb hts u9_wsX3_nearest_X3 hown hK hP 32 rfl rfl 10 (by decide) (hts (.fieldLink RX3 42 "TurnedFloors$Paper" "marks" "[I") f9_wsX3_nearest_861) (fun _ h9 => h9) rfl dX3_nearest_71 ?_
        refine lv_iload hx hb dX3_nearest_74 (lv_at hl 0 rfl) ?_
        obtain ⟨g6, h⟩ := dG_some h
        refine va_iald hx hb hK hP 43 0 rfl rfl (dg_in g6) dX3_nearest_76 ?_
        obtain ⟨v7, ev7, h⟩ := dL_some h
        refine kz_topi v7 ev7 ?_
        cases h
        exact kz_iret hx hb hr hlocks hP hK hD hS dX3_nearest_77 ⟨rfl, rfl⟩
set_option maxHeartbeats 4000000 in
set_option maxRecDepth 100000 in
theorem WX3_nearest_s32_35 {p : Program} {l : Launch} {e : Env} {s : State} {m : MethodId} {args : Array Value} {below : List Frame} {meth : Method} {c : Code} {D : va_G} {ty : Nat → ClassId} {eo : Nat → Nat} {A : Nat → Prop} {ad : Nat → Nat} {o1 : Int32} {o2 : dK} (C : dc_C p s m args meth c cX3_nearest (some .int) 7 RX3 wsX3_nearest D ty eo A)   (n : Nat) (q : dK) (x1 : Int32) (x2 : Int32) (x3 : Int32) (H : Heap) (locs : List Loc) (ls : Array Slot) (h : zX3_nearest_s32_35  n q x1 x2 x3 = some (o1, o2)) (hP : va_P D vwCl (wF ty ad q) H) (hD : va_D A (wF ty ad q)) (hS : va_S A s.heap H locs) (hl : lv_has ls 7 [(0, .ref (ad 32)), (1, .int x1), (2, .int x2), (3, .int x3)]) : W p l e ({ frames := 2, cells := 0, slots := 0, locals := 47 } : Room) s m args below meth c H locs 0 0 (MQ below (va_Qi (fun (r : Int32) (u : va_W) => o1 = r ∧ wF ty ad o2 = u) (kz_B D ty A) A) args s 0 0 A) (F0 m 35 ls []) := by
  exact dFix_W (F := fun k (a : dK × Int32 × Int32 × Int32) => zX3_nearest_s32_35b  (fun q x1 x2 x3 => k (q, x1, x2, x3)) a.1 a.2.1 a.2.2.1 a.2.2.2) (o := (o1, o2)) (P := fun (a : dK × Int32 × Int32 × Int32) H locs ls => va_P D vwCl (wF ty ad a.1) H ∧ va_D A (wF ty ad a.1) ∧ va_S A s.heap H locs ∧ lv_has ls 7 [(0, .ref (ad 32)), (1, .int a.2.1), (2, .int a.2.2.1), (3, .int a.2.2.2)]) (G := fun H locs ls => W p l e ({ frames := 2, cells := 0, slots := 0, locals := 47 } : Room) s m args below meth c H locs 0 0 (MQ below (va_Qi (fun (r : Int32) (u : va_W) => o1 = r ∧ wF ty ad o2 = u) (kz_B D ty A) A) args s 0 0 A) (F0 m 35 ls []))
    (fun k hk a H locs ls h hp => WX3_nearest_s32_35b C  (fun q x1 x2 x3 H locs ls h h1 h2 h3 h4 => hk (q, x1, x2, x3) H locs ls h ⟨h1, h2, h3, h4⟩) a.1 a.2.1 a.2.2.1 a.2.2.2 H locs ls h hp.1 hp.2.1 hp.2.2.1 hp.2.2.2) n (q, x1, x2, x3) H locs ls h ⟨hP, hD, hS, hl⟩
set_option maxHeartbeats 4000000 in
set_option maxRecDepth 100000 in
theorem qX3_nearest_s32 (l : Launch) (D : va_G) (ty : Nat → ClassId) (eo : Nat → Nat) (sz : Nat) (ad : Nat → Nat) (q : dK) (p1 : Int32) (p2 : Int32) (o1 : Int32) (o2 : dK) (h : zX3_nearest_s32 q p1 p2 = some (o1, o2)) : Met l yX3_nearest wsX3_nearest ({ frames := 2, cells := 0, slots := 0, locals := 47 } : Room) (va_Pc [.ref (ad 32), .int p1, .int p2] (kz_pre D ty eo (wF ty ad q) sz)) (va_Qi (fun (r : Int32) (u : va_W) => o1 = r ∧ wF ty ad o2 = u) (kz_B D ty (va_A (wF ty ad q) sz)) (va_A (wF ty ad q) sz)) 0 0 (va_A (wF ty ad q) sz) := by
  refine Met.ofW (cc := cX3_nearest) (maxL := 7) (ret := (some .int)) (by decide) rfl ?_
  intro p e s m args below meth c s₁ B hml hv
  obtain ⟨rfl, hsz, hP, hK, hD0, hN, hE⟩ := hv
  have hx := B.exec
  have hb := B.bytes
  have hr := B.returns
  have hts := atoms_spec (ws := wsX3_nearest) B.pre
  have hown : s.vm.findClass RX3 = some m.cls := findClass_of_methodNamed B.named
  have hlocks := B.notSynchronized
  subst hsz
  have hD := hD0.self (sz := s.heap.size)
  generalize hAe : va_A (wF ty ad q) s.heap.size = A at hD hE ⊢
  have hA : ∀ q : Nat, s.heap.size ≤ q → A q := fun q h => by rw [← hAe]; exact Or.inr h
  clear hAe
  have hS : va_S A s.heap s.heap [] := va_S.rf
  have hl := lv_entry ([.ref (ad 32), .int p1, .int p2]) (n := 7) (Nat.le_of_ble_eq_true rfl)
  rw [lg_entry_eq]
  generalize (lg_sl ([.ref (ad 32), .int p1, .int p2]) ++ List.replicate (7 - (lg_sl ([.ref (ad 32), .int p1, .int p2])).length) Slot.unset).toArray = ls at hl ⊢
  have hl : lv_has ls 7 [(0, .ref (ad 32)), (1, .int p1), (2, .int p2)] := hl
  have C : dc_C p s m _ meth c cX3_nearest (some .int) 7 RX3 wsX3_nearest D ty eo A := ⟨hx, hb, hr, hts, hown, hlocks, hml, hK, hN, hE, hA⟩
  unfold zX3_nearest_s32 at h
  refine lv_aload_n hx hb dX3_nearest_0 rfl (lv_at hl 0 rfl) ?_
  refine va_get (D := D) (ci := 3) (v := .ref (ad 43)) (C := RX3) (T := TX3) (N := 20) hx hb hts u9_wsX3_nearest_X3 hown hK hP 32 rfl rfl 10 (by decide) (hts (.fieldLink RX3 42 "TurnedFloors$Paper" "marks" "[I") f9_wsX3_nearest_861) (fun _ h9 => h9) rfl dX3_nearest_1 ?_
  refine lv_iconst (v := (-1)) hx hb dX3_nearest_4 (by decide) ?_
  refine dw_kv1 (j := 43) rfl (va_runS (As := [.ref (ad 43), .int (-1)]) (rest := []) ⟨hx, hb, hml, hown, hts⟩ (cJ7_fillI l D ty eo _ (ad 43) (Int32.toNatClampNeg (q.1 32 104)) _ (-1) (cl_lt _)) (va_cwS 2 hts gX3_nearest_J7_fill_53178 rfl rfl rfl (by decide +kernel) ⟨Nat.le_of_ble_eq_true rfl, Nat.le_of_ble_eq_true rfl⟩) (kz_preS hK hN hE hP hD hS hA [43] (by decide) rfl) rfl rfl hl.1 rfl (lv_room (Nat.le_of_ble_eq_true rfl)) dX3_nearest_5 ⟨Nat.le_of_ble_eq_true rfl, Nat.le_of_ble_eq_true rfl⟩) hP hD hS hA (fun u9 h9 => h9.symm) (fun H locs hp hd hs => ?_)
  obtain ⟨q1, eq1, h⟩ := dL_some h
  refine kz_re (w2 := wF ty ad q1) hp hd hs (by rw [← eq1]; exact rfl) ?_
  clear hp hd hs hP hD hS
  intro hP hD hS
  refine lv_aload_n hx hb dX3_nearest_8 rfl (lv_at hl 0 rfl) ?_
  refine va_get (D := D) (ci := 3) (v := .ref (ad 43)) (C := RX3) (T := TX3) (N := 20) hx hb hts u9_wsX3_nearest_X3 hown hK hP 32 rfl rfl 10 (by decide) (hts (.fieldLink RX3 42 "TurnedFloors$Paper" "marks" "[I") f9_wsX3_nearest_861) (fun _ h9 => h9) rfl dX3_nearest_9 ?_
  refine lv_aload_n hx hb dX3_nearest_12 rfl (lv_at hl 0 rfl) ?_
  refine va_get (D := D) (ci := 3) (v := .int (q1.1 32 15)) (C := RX3) (T := TX3) (N := 20) hx hb hts u9_wsX3_nearest_X3 hown hK hP 32 rfl rfl 15 (by decide) (hts (.fieldLink RX3 58 "TurnedFloors$Paper" "start" "I") f9_wsX3_nearest_866) (fun _ h9 => h9) rfl dX3_nearest_13 ?_
  refine lv_iconst (v := 0) hx hb dX3_nearest_16 (by decide) ?_
  obtain ⟨g2, h⟩ := dG_some h
  refine va_iast hx hb hK hP hD hS 43 0 rfl rfl (dg_in g2) dX3_nearest_17 (fun H locs hp hd hs => ?_)
  obtain ⟨q3, eq3, h⟩ := dL_some h
  refine kz_re (w2 := wF ty ad q3) hp hd hs (by rw [← eq3]; exact wF_a43 ty ad q1 (Int32.toNatClampNeg (q1.1 32 15)) 0) ?_
  clear hp hd hs hP hD hS
  intro hP hD hS
  refine lv_aload_n hx hb dX3_nearest_18 rfl (lv_at hl 0 rfl) ?_
  refine va_get (D := D) (ci := 3) (v := .ref (ad 44)) (C := RX3) (T := TX3) (N := 20) hx hb hts u9_wsX3_nearest_X3 hown hK hP 32 rfl rfl 11 (by decide) (hts (.fieldLink RX3 45 "TurnedFloors$Paper" "line" "[I") f9_wsX3_nearest_865) (fun _ h9 => h9) rfl dX3_nearest_19 ?_
  refine lv_iconst (v := 0) hx hb dX3_nearest_22 (by decide) ?_
  refine lv_aload_n hx hb dX3_nearest_23 rfl (lv_at hl 0 rfl) ?_
  refine va_get (D := D) (ci := 3) (v := .int (q3.1 32 15)) (C := RX3) (T := TX3) (N := 20) hx hb hts u9_wsX3_nearest_X3 hown hK hP 32 rfl rfl 15 (by decide) (hts (.fieldLink RX3 58 "TurnedFloors$Paper" "start" "I") f9_wsX3_nearest_866) (fun _ h9 => h9) rfl dX3_nearest_24 ?_
  obtain ⟨g4, h⟩ := dG_some h
  refine va_iast hx hb hK hP hD hS 44 0 rfl rfl (dg_in g4) dX3_nearest_27 (fun H locs hp hd hs => ?_)
  obtain ⟨q5, eq5, h⟩ := dL_some h
  refine kz_re (w2 := wF ty ad q5) hp hd hs (by rw [(by decide +kernel : Int32.toNatClampNeg 0 = 0), ← eq5]; exact wF_a44 ty ad q3 0 (q3.1 32 15)) ?_
  clear hp hd hs hP hD hS
  intro hP hD hS
  refine lv_aload_n hx hb dX3_nearest_28 rfl (lv_at hl 0 rfl) ?_
  refine lv_iconst (v := 1) hx hb dX3_nearest_29 (by decide) ?_
  refine va_put (D := D) (ci := 3) (v := .int 1) (ty := .int) (C := RX3) (T := TX3) (N := 20) hx hb hts u9_wsX3_nearest_X3 tyX3 tyX3_ok nmX3 hown hK hP hD hS 32 rfl rfl 19 (by decide) (hts (.fieldLink RX3 70 "TurnedFloors$Paper" "visited" "I") f9_wsX3_nearest_863) (fun _ h9 => h9) rfl (by decide +kernel) rfl rfl (Nat.le_of_ble_eq_true rfl) dX3_nearest_30 (fun H locs hp hd hs => ?_)
  obtain ⟨q6, eq6, h⟩ := dL_some h
  refine kz_re (w2 := wF ty ad q6) hp hd hs (by rw [← eq6]; exact wF_f32_19 ty ad q5 1) ?_
  clear hp hd hs hP hD hS
  intro hP hD hS
  refine lv_iconst (v := 0) hx hb dX3_nearest_33 (by decide) ?_
  refine lv_istore_n (lv' := [(3, .int 0), (0, .ref (ad 32)), (1, .int p1), (2, .int p2)]) hx hb dX3_nearest_34 rfl hl (by decide) rfl (fun ls hl => ?_)
  exact WX3_nearest_s32_35 C  _ _ _ _ _ _ _ _ h hP hD hS (lv_sub hl [1, 2, 3, 0] rfl)

set_option maxHeartbeats 4000000 in
set_option maxRecDepth 100000 in
theorem qX3_towersReached_s32 (l : Launch) (D : va_G) (ty : Nat → ClassId) (eo : Nat → Nat) (sz : Nat) (ad : Nat → Nat) (q : dK)  (o1 : Int32) (o2 : dK) (h : zX3_towersReached_s32 q = some (o1, o2)) : Met l yX3_towersReached wsX3_towersReached ({ frames := 3, cells := 0, slots := 0, locals := 73 } : Room) (va_Pc [.ref (ad 32)] (kz_pre D ty eo (wF ty ad q) sz)) (va_Qi (fun (r : Int32) (u : va_W) => o1 = r ∧ wF ty ad o2 = u) (kz_B D ty (va_A (wF ty ad q) sz)) (va_A (wF ty ad q) sz)) 0 0 (va_A (wF ty ad q) sz) := by
  refine Met.ofW (cc := cX3_towersReached) (maxL := 1) (ret := (some .int)) (by decide) rfl ?_
  intro p e s m args below meth c s₁ B hml hv
  obtain ⟨rfl, hsz, hP, hK, hD0, hN, hE⟩ := hv
  have hx := B.exec
  have hb := B.bytes
  have hr := B.returns
  have hts := atoms_spec (ws := wsX3_towersReached) B.pre
  have hown : s.vm.findClass RX3 = some m.cls := findClass_of_methodNamed B.named
  have hlocks := B.notSynchronized
  subst hsz
  have hD := hD0.self (sz := s.heap.size)
  generalize hAe : va_A (wF ty ad q) s.heap.size = A at hD hE ⊢
  have hA : ∀ q : Nat, s.heap.size ≤ q → A q := fun q h => by rw [← hAe]; exact Or.inr h
  clear hAe
  have hS : va_S A s.heap s.heap [] := va_S.rf
  have hl := lv_entry ([.ref (ad 32)]) (n := 1) (Nat.le_of_ble_eq_true rfl)
  rw [lg_entry_eq]
  generalize (lg_sl ([.ref (ad 32)]) ++ List.replicate (1 - (lg_sl ([.ref (ad 32)])).length) Slot.unset).toArray = ls at hl ⊢
  have hl : lv_has ls 1 [(0, .ref (ad 32))] := hl
  have C : dc_C p s m _ meth c cX3_towersReached (some .int) 1 RX3 wsX3_towersReached D ty eo A := ⟨hx, hb, hr, hts, hown, hlocks, hml, hK, hN, hE, hA⟩
  unfold zX3_towersReached_s32 at h
  refine lv_aload_n hx hb dX3_towersReached_0 rfl (lv_at hl 0 rfl) ?_
  refine lv_iconst (v := 0) hx hb dX3_towersReached_1 (by decide) ?_
  refine lv_iconst (v := 0) hx hb dX3_towersReached_2 (by decide) ?_
  obtain ⟨r1, q3, h2, h⟩ := dB_some h
  refine dw_ki (va_runV (As := [.int 0, .int 0]) (rest := []) ⟨hx, hb, hml, hown, hts⟩ (qX3_nearest_s32 l D ty eo _ ad q 0 0 r1 q3 h2) (cwV 2 hts gX3_towersReached_X3_nearest rfl rfl rfl (by decide +kernel) ⟨Nat.le_of_ble_eq_true rfl, Nat.le_of_ble_eq_true rfl⟩) (dw_preV (ci := 3) (q0 := 32) hK hN hE hP hD hS hA rfl rfl) rfl rfl hl.1 rfl (lv_room (Nat.le_of_ble_eq_true rfl)) dX3_towersReached_3 ⟨Nat.le_of_ble_eq_true rfl, Nat.le_of_ble_eq_true rfl⟩) hD hS hA (fun r9 u9 H locs hw hp hd hs => ?_)
  clear hP hD hS
  obtain ⟨rfl, rfl⟩ := hw
  have hP := hp; have hD := hd; have hS := hs; clear hp hd hs
  refine lv_pop hx hb dX3_towersReached_6 rfl ?_
  refine lv_aload_n hx hb dX3_towersReached_7 rfl (lv_at hl 0 rfl) ?_
  refine va_get (D := D) (ci := 3) (v := .int (q3.1 32 19)) (C := RX3) (T := TX3) (N := 20) hx hb hts u9_wsX3_towersReached_X3 hown hK hP 32 rfl rfl 19 (by decide) (hts (.fieldLink RX3 70 "TurnedFloors$Paper" "visited" "I") f9_wsX3_towersReached_868) (fun _ h9 => h9) rfl dX3_towersReached_8 ?_
  cases h
  exact kz_iret hx hb hr hlocks hP hK hD hS dX3_towersReached_11 ⟨rfl, rfl⟩

set_option maxHeartbeats 4000000 in
set_option maxRecDepth 100000 in
theorem qX9_reach_s0 (l : Launch) (D : va_G) (ty : Nat → ClassId) (eo : Nat → Nat) (sz : Nat) (ad : Nat → Nat) (nc ns : Nat) (q : dK)  (o1 : Int32) (o2 : dK) (h : zX9_reach_s0 nc ns q = some (o1, o2)) : Met l yX9_reach wsX9_reach ({ frames := 6, cells := nc, slots := ns, locals := 160 } : Room) (va_Pc [.ref (ad 0)] (kz_pre D ty eo (wF ty ad q) sz)) (va_Qi (fun (r : Int32) (u : va_W) => o1 = r ∧ ∃ ad9 : Nat → Nat, dAg ad ad9 ∧ wF ty ad9 o2 = u) (kz_B D ty (va_A (wF ty ad q) sz)) (va_A (wF ty ad q) sz)) nc ns (va_A (wF ty ad q) sz) := by
  have hag : dAg ad ad := fun _ _ => rfl
  refine Met.ofW (cc := cX9_reach) (maxL := 1) (ret := (some .int)) (by decide) rfl ?_
  intro p e s m args below meth c s₁ B hml hv
  obtain ⟨rfl, hsz, hP, hK, hD0, hN, hE⟩ := hv
  have hx := B.exec
  have hb := B.bytes
  have hr := B.returns
  have hts := atoms_spec (ws := wsX9_reach) B.pre
  have hown : s.vm.findClass RX9 = some m.cls := findClass_of_methodNamed B.named
  have hlocks := B.notSynchronized
  subst hsz
  have hD := hD0.self (sz := s.heap.size)
  generalize hAe : va_A (wF ty ad q) s.heap.size = A at hD hE ⊢
  have hA : ∀ q : Nat, s.heap.size ≤ q → A q := fun q h => by rw [← hAe]; exact Or.inr h
  clear hAe
  have hS : va_S A s.heap s.heap [] := va_S.rf
  have hl := lv_entry ([.ref (ad 0)]) (n := 1) (Nat.le_of_ble_eq_true rfl)
  rw [lg_entry_eq]
  generalize (lg_sl ([.ref (ad 0)]) ++ List.replicate (1 - (lg_sl ([.ref (ad 0)])).length) Slot.unset).toArray = ls at hl ⊢
  have hl : lv_has ls 1 [(0, .ref (ad 0))] := hl
  have C : dc_C p s m _ meth c cX9_reach (some .int) 1 RX9 wsX9_reach D ty eo A := ⟨hx, hb, hr, hts, hown, hlocks, hml, hK, hN, hE, hA⟩
  unfold zX9_reach_s0 at h
  refine lv_aload_n hx hb dX9_reach_0 rfl (lv_at hl 0 rfl) ?_
  refine lv_aload_n hx hb dX9_reach_1 rfl (lv_at hl 0 rfl) ?_
  obtain ⟨q3, h2, h⟩ := dV_some h
  refine dw_kq (va_runV (As := []) (rest := [.ref (ad 0)]) ⟨hx, hb, hml, hown, hts⟩ (qX9_seated_s0 l D ty eo _ ad q  q3 h2) (cwV 0 hts gX9_reach_X9_seated rfl rfl rfl (by decide +kernel) ⟨Nat.le_of_ble_eq_true rfl, Nat.le_of_ble_eq_true rfl⟩) (dw_preV (ci := 9) (q0 := 0) hK hN hE hP hD hS hA rfl rfl) rfl rfl hl.1 rfl (lv_room (Nat.le_of_ble_eq_true rfl)) dX9_reach_2 ⟨Nat.zero_le _, Nat.zero_le _⟩) hP hD hS hA (fun r9 u9 H locs hw hp hd hs => ?_)
  clear hP hD hS
  obtain ⟨rfl, rfl⟩ := hw
  have hP := hp; have hD := hd; have hS := hs; clear hp hd hs
  obtain ⟨q6, h5, h⟩ := dV_some h
  refine dw_kv (va_runV (As := [.ref (ad 20)]) (rest := []) ⟨hx, hb, hml, hown, hts⟩ (qX9_spread_s0_s20 l D ty eo _ ad nc ns q3  q6 h5) (cwV 1 hts gX9_reach_X9_spread rfl rfl rfl (by decide +kernel) ⟨Nat.le_of_ble_eq_true rfl, Nat.le_of_ble_eq_true rfl⟩) (dw_preV (ci := 9) (q0 := 0) hK hN hE hP hD hS hA rfl rfl) rfl rfl hl.1 rfl (lv_room (Nat.le_of_ble_eq_true rfl)) dX9_reach_5 ⟨by show 0 + nc ≤ nc; omega, by show 0 + ns ≤ ns; omega⟩) hD hS hA (fun u9 H locs hw hp hd hs => ?_)
  clear hP hD hS
  obtain ⟨ad, hag1, rfl⟩ := hw
  replace hag := dAg_t hag hag1
  rw [dAg_s hag1 0 (by decide)] at hl
  clear hag1
  refine dw_up (c2 := nc) (s2 := ns) (by omega) (by omega) ?_
  have hP := hp; have hD := hd; have hS := hs; clear hp hd hs
  refine lv_aload_n hx hb dX9_reach_8 rfl (lv_at hl 0 rfl) ?_
  refine va_get (D := D) (ci := 9) (v := .ref (ad 32)) (C := RX9) (T := TX9) (N := 19) hx hb hts u9_wsX9_reach_X9 hown hK hP 0 rfl rfl 10 (by decide) (hts (.fieldLink RX9 80 "TurnedFloors" "paper" "LTurnedFloors$Paper;") f9_wsX9_reach_870) (fun _ h9 => h9) rfl dX9_reach_9 ?_
  obtain ⟨r7, q9, h8, h⟩ := dB_some h
  refine dw_ki (va_runV (As := []) (rest := []) ⟨hx, hb, hml, hown, hts⟩ (qX3_towersReached_s32 l D ty eo _ ad q6  r7 q9 h8) (cwV 0 hts gX9_reach_X3_towersReached rfl rfl rfl (by decide +kernel) ⟨Nat.le_of_ble_eq_true rfl, Nat.le_of_ble_eq_true rfl⟩) (dw_preV (ci := 3) (q0 := 32) hK hN hE hP hD hS hA rfl rfl) rfl rfl hl.1 rfl (lv_room (Nat.le_of_ble_eq_true rfl)) dX9_reach_12 ⟨Nat.le_refl _, Nat.le_refl _⟩) hD hS hA (fun r9 u9 H locs hw hp hd hs => ?_)
  clear hP hD hS
  obtain ⟨rfl, rfl⟩ := hw
  have hP := hp; have hD := hd; have hS := hs; clear hp hd hs
  cases h
  exact kz_iret hx hb hr hlocks hP hK hD hS dX9_reach_15 ⟨rfl, ad, hag, rfl⟩

set_option maxHeartbeats 4000000 in
set_option maxRecDepth 100000 in
theorem qX9_gaps_s0 (l : Launch) (D : va_G) (ty : Nat → ClassId) (eo : Nat → Nat) (sz : Nat) (ad : Nat → Nat) (q : dK)  (o1 : Int32) (o2 : dK) (h : zX9_gaps_s0 q = some (o1, o2)) : Met l yX9_gaps wsX9_gaps ({ frames := 2, cells := 0, slots := 0, locals := 45 } : Room) (va_Pc [.ref (ad 0)] (kz_pre D ty eo (wF ty ad q) sz)) (va_Qi (fun (r : Int32) (u : va_W) => o1 = r ∧ wF ty ad o2 = u) (kz_B D ty (va_A (wF ty ad q) sz)) (va_A (wF ty ad q) sz)) 0 0 (va_A (wF ty ad q) sz) := by
  refine Met.ofW (cc := cX9_gaps) (maxL := 1) (ret := (some .int)) (by decide) rfl ?_
  intro p e s m args below meth c s₁ B hml hv
  obtain ⟨rfl, hsz, hP, hK, hD0, hN, hE⟩ := hv
  have hx := B.exec
  have hb := B.bytes
  have hr := B.returns
  have hts := atoms_spec (ws := wsX9_gaps) B.pre
  have hown : s.vm.findClass RX9 = some m.cls := findClass_of_methodNamed B.named
  have hlocks := B.notSynchronized
  subst hsz
  have hD := hD0.self (sz := s.heap.size)
  generalize hAe : va_A (wF ty ad q) s.heap.size = A at hD hE ⊢
  have hA : ∀ q : Nat, s.heap.size ≤ q → A q := fun q h => by rw [← hAe]; exact Or.inr h
  clear hAe
  have hS : va_S A s.heap s.heap [] := va_S.rf
  have hl := lv_entry ([.ref (ad 0)]) (n := 1) (Nat.le_of_ble_eq_true rfl)
  rw [lg_entry_eq]
  generalize (lg_sl ([.ref (ad 0)]) ++ List.replicate (1 - (lg_sl ([.ref (ad 0)])).length) Slot.unset).toArray = ls at hl ⊢
  have hl : lv_has ls 1 [(0, .ref (ad 0))] := hl
  have C : dc_C p s m _ meth c cX9_gaps (some .int) 1 RX9 wsX9_gaps D ty eo A := ⟨hx, hb, hr, hts, hown, hlocks, hml, hK, hN, hE, hA⟩
  unfold zX9_gaps_s0 at h
  refine lv_aload_n hx hb dX9_gaps_0 rfl (lv_at hl 0 rfl) ?_
  refine va_get (D := D) (ci := 9) (v := .ref (ad 1)) (C := RX9) (T := TX9) (N := 19) hx hb hts u9_wsX9_gaps_X9 hown hK hP 0 rfl rfl 0 (by decide) (hts (.fieldLink RX9 10 "TurnedFloors" "state" "LTurnedFloors$State;") f9_wsX9_gaps_873) (fun _ h9 => h9) rfl dX9_gaps_1 ?_
  refine va_getN (D := D) (ci := 6) (v := .ref (ad 2)) (C := RX6) (T := TX6) (N := 10) hx hb hts u9_wsX9_gaps_X6 hown hK hP 1 rfl rfl 0 (by decide) (hN.use (.fieldLinkNest "TurnedFloors" 122 "TurnedFloors$State" "tower" "LTurnedFloors$Tower;" "TurnedFloors") (by decide +kernel)) (fun _ h9 => h9) rfl dX9_gaps_4 ?_
  obtain ⟨r1, q3, h2, h⟩ := dB_some h
  refine dw_ki (va_runV (As := []) (rest := []) ⟨hx, hb, hml, hown, hts⟩ (qX8_gapCount_s2 l D ty eo _ ad q  r1 q3 h2) (cwV 0 hts gX9_gaps_X8_gapCount rfl rfl rfl (by decide +kernel) ⟨Nat.le_of_ble_eq_true rfl, Nat.le_of_ble_eq_true rfl⟩) (dw_preV (ci := 8) (q0 := 2) hK hN hE hP hD hS hA rfl rfl) rfl rfl hl.1 rfl (lv_room (Nat.le_of_ble_eq_true rfl)) dX9_gaps_7 ⟨Nat.le_of_ble_eq_true rfl, Nat.le_of_ble_eq_true rfl⟩) hD hS hA (fun r9 u9 H locs hw hp hd hs => ?_)
  clear hP hD hS
  obtain ⟨rfl, rfl⟩ := hw
  have hP := hp; have hD := hd; have hS := hs; clear hp hd hs
  cases h
  exact kz_iret hx hb hr hlocks hP hK hD hS dX9_gaps_10 ⟨rfl, rfl⟩

set_option maxHeartbeats 4000000 in
set_option maxRecDepth 100000 in
theorem WX3_turnsToNumber_s32_105 {p : Program} {l : Launch} {e : Env} {s : State} {m : MethodId} {args : Array Value} {below : List Frame} {meth : Method} {c : Code} {D : va_G} {ty : Nat → ClassId} {eo : Nat → Nat} {A : Nat → Prop} {ad : Nat → Nat} {o1 : Int32} {o2 : dK} (C : dc_C p s m args meth c cX3_turnsToNumber (some .int) 5 RX3 wsX3_turnsToNumber D ty eo A)   (q : dK)  (H : Heap) (locs : List Loc) (ls : Array Slot) (h : zX3_turnsToNumber_s32_105  q = some (o1, o2)) (hP : va_P D vwCl (wF ty ad q) H) (hD : va_D A (wF ty ad q)) (hS : va_S A s.heap H locs) (hl : lv_has ls 5 []) : W p l e ({ frames := 3, cells := 0, slots := 0, locals := 73 } : Room) s m args below meth c H locs 0 0 (MQ below (va_Qi (fun (r : Int32) (u : va_W) => o1 = r ∧ wF ty ad o2 = u) (kz_B D ty A) A) args s 0 0 A) (F0 m 105 ls []) := by
  have C0 := C
  obtain ⟨hx, hb, hr, hts, hown, hlocks, hml, hK, hN, hE, hA⟩ := C
  unfold zX3_turnsToNumber_s32_105 at h
  refine lv_iconst (v := (-1)) hx hb dX3_turnsToNumber_105 (by decide) ?_
  cases h
  exact kz_iret hx hb hr hlocks hP hK hD hS dX3_turnsToNumber_106 ⟨rfl, rfl⟩
set_option maxHeartbeats 4000000 in
set_option maxRecDepth 100000 in
theorem WX3_turnsToNumber_s32_83 {p : Program} {l : Launch} {e : Env} {s : State} {m : MethodId} {args : Array Value} {below : List Frame} {meth : Method} {c : Code} {D : va_G} {ty : Nat → ClassId} {eo : Nat → Nat} {A : Nat → Prop} {ad : Nat → Nat} {o1 : Int32} {o2 : dK} (C : dc_C p s m args meth c cX3_turnsToNumber (some .int) 5 RX3 wsX3_turnsToNumber D ty eo A) {k13 : dK → Int32 → Int32 → Int32 → Option (Int32 × dK)} (hk13 : ∀ (q : dK) (x2 : Int32) (x3 : Int32) (x4 : Int32) (H : Heap) (locs : List Loc) (ls : Array Slot), k13 q x2 x3 x4 = some (o1, o2) → va_P D vwCl (wF ty ad q) H → va_D A (wF ty ad q) → va_S A s.heap H locs → lv_has ls 5 [(0, .ref (ad 32)), (2, .int x2), (3, .int x3), (4, .int x4)] → W p l e ({ frames := 3, cells := 0, slots := 0, locals := 73 } : Room) s m args below meth c H locs 0 0 (MQ below (va_Qi (fun (r : Int32) (u : va_W) => o1 = r ∧ wF ty ad o2 = u) (kz_B D ty A) A) args s 0 0 A) (F0 m 13 ls [])) (q : dK) (x2 : Int32) (x3 : Int32) (x4 : Int32) (H : Heap) (locs : List Loc) (ls : Array Slot) (h : zX3_turnsToNumber_s32_83 k13 q x2 x3 x4 = some (o1, o2)) (hP : va_P D vwCl (wF ty ad q) H) (hD : va_D A (wF ty ad q)) (hS : va_S A s.heap H locs) (hl : lv_has ls 5 [(0, .ref (ad 32)), (2, .int x2), (3, .int x3), (4, .int x4)]) : W p l e ({ frames := 3, cells := 0, slots := 0, locals := 73 } : Room) s m args below meth c H locs 0 0 (MQ below (va_Qi (fun (r : Int32) (u : va_W) => o1 = r ∧ wF ty ad o2 = u) (kz_B D ty A) A) args s 0 0 A) (F0 m 83 ls []) := by
  have C0 := C
  obtain ⟨hx, hb, hr, hts, hown, hlocks, hml, hK, hN, hE, hA⟩ := C
  unfold zX3_turnsToNumber_s32_83 at h
  refine lv_iinc (v := x4 + (-1)) (lv' := [(4, .int (x4 + (-1))), (0, .ref (ad 32)), (2, .int x2), (3, .int x3)]) hx hb dX3_turnsToNumber_83 hl (k := 3) rfl rfl (by decide) rfl (fun ls hl => ?_)
  refine lv_goto (tgt := 13) hx hb dX3_turnsToNumber_86 (by decide) ?_
  exact hk13 _ _ _ _ _ _ _ h hP hD hS (lv_sub hl [1, 2, 3, 0] rfl)
set_option maxHeartbeats 4000000 in
set_option maxRecDepth 100000 in
theorem WX3_turnsToNumber_s32_81 {p : Program} {l : Launch} {e : Env} {s : State} {m : MethodId} {args : Array Value} {below : List Frame} {meth : Method} {c : Code} {D : va_G} {ty : Nat → ClassId} {eo : Nat → Nat} {A : Nat → Prop} {ad : Nat → Nat} {o1 : Int32} {o2 : dK} (C : dc_C p s m args meth c cX3_turnsToNumber (some .int) 5 RX3 wsX3_turnsToNumber D ty eo A) {k13 : dK → Int32 → Int32 → Int32 → Option (Int32 × dK)} (hk13 : ∀ (q : dK) (x2 : Int32) (x3 : Int32) (x4 : Int32) (H : Heap) (locs : List Loc) (ls : Array Slot), k13 q x2 x3 x4 = some (o1, o2) → va_P D vwCl (wF ty ad q) H → va_D A (wF ty ad q) → va_S A s.heap H locs → lv_has ls 5 [(0, .ref (ad 32)), (2, .int x2), (3, .int x3), (4, .int x4)] → W p l e ({ frames := 3, cells := 0, slots := 0, locals := 73 } : Room) s m args below meth c H locs 0 0 (MQ below (va_Qi (fun (r : Int32) (u : va_W) => o1 = r ∧ wF ty ad o2 = u) (kz_B D ty A) A) args s 0 0 A) (F0 m 13 ls [])) (q : dK) (x2 : Int32) (x4 : Int32) (y0 : Int32) (y1 : Int32) (H : Heap) (locs : List Loc) (ls : Array Slot) (h : zX3_turnsToNumber_s32_81 k13 q x2 x4 y0 y1 = some (o1, o2)) (hP : va_P D vwCl (wF ty ad q) H) (hD : va_D A (wF ty ad q)) (hS : va_S A s.heap H locs) (hl : lv_has ls 5 [(0, .ref (ad 32)), (2, .int x2), (4, .int x4)]) : W p l e ({ frames := 3, cells := 0, slots := 0, locals := 73 } : Room) s m args below meth c H locs 0 0 (MQ below (va_Qi (fun (r : Int32) (u : va_W) => o1 = r ∧ wF ty ad o2 = u) (kz_B D ty A) A) args s 0 0 A) (F0 m 81 ls [.int y0, .int y1]) := by
  have C0 := C
  obtain ⟨hx, hb, hr, hts, hown, hlocks, hml, hK, hN, hE, hA⟩ := C
  unfold zX3_turnsToNumber_s32_81 at h
  refine lv_ior hx hb dX3_turnsToNumber_81 ?_
  refine lv_istore_n (lv' := [(3, .int (y1 ||| y0)), (0, .ref (ad 32)), (2, .int x2), (4, .int x4)]) hx hb dX3_turnsToNumber_82 rfl hl (by decide) rfl (fun ls hl => ?_)
  exact WX3_turnsToNumber_s32_83 C0 hk13 _ _ _ _ _ _ _ h hP hD hS (lv_sub hl [1, 2, 0, 3] rfl)
set_option maxHeartbeats 4000000 in
set_option maxRecDepth 100000 in
theorem WX3_turnsToNumber_s32_13b {p : Program} {l : Launch} {e : Env} {s : State} {m : MethodId} {args : Array Value} {below : List Frame} {meth : Method} {c : Code} {D : va_G} {ty : Nat → ClassId} {eo : Nat → Nat} {A : Nat → Prop} {ad : Nat → Nat} {o1 : Int32} {o2 : dK} (C : dc_C p s m args meth c cX3_turnsToNumber (some .int) 5 RX3 wsX3_turnsToNumber D ty eo A) {k13 : dK → Int32 → Int32 → Int32 → Option (Int32 × dK)} (hk13 : ∀ (q : dK) (x2 : Int32) (x3 : Int32) (x4 : Int32) (H : Heap) (locs : List Loc) (ls : Array Slot), k13 q x2 x3 x4 = some (o1, o2) → va_P D vwCl (wF ty ad q) H → va_D A (wF ty ad q) → va_S A s.heap H locs → lv_has ls 5 [(0, .ref (ad 32)), (2, .int x2), (3, .int x3), (4, .int x4)] → W p l e ({ frames := 3, cells := 0, slots := 0, locals := 73 } : Room) s m args below meth c H locs 0 0 (MQ below (va_Qi (fun (r : Int32) (u : va_W) => o1 = r ∧ wF ty ad o2 = u) (kz_B D ty A) A) args s 0 0 A) (F0 m 13 ls [])) (q : dK) (x2 : Int32) (x3 : Int32) (x4 : Int32) (H : Heap) (locs : List Loc) (ls : Array Slot) (h : zX3_turnsToNumber_s32_13b k13 q x2 x3 x4 = some (o1, o2)) (hP : va_P D vwCl (wF ty ad q) H) (hD : va_D A (wF ty ad q)) (hS : va_S A s.heap H locs) (hl : lv_has ls 5 [(0, .ref (ad 32)), (2, .int x2), (3, .int x3), (4, .int x4)]) : W p l e ({ frames := 3, cells := 0, slots := 0, locals := 73 } : Room) s m args below meth c H locs 0 0 (MQ below (va_Qi (fun (r : Int32) (u : va_W) => o1 = r ∧ wF ty ad o2 = u) (kz_B D ty A) A) args s 0 0 A) (F0 m 13 ls []) := by
  have C0 := C
  obtain ⟨hx, hb, hr, hts, hown, hlocks, hml, hK, hN, hE, hA⟩ := C
  unfold zX3_turnsToNumber_s32_13b at h
  refine lv_iload hx hb dX3_turnsToNumber_13 (lv_at hl 3 rfl) ?_
  refine lv_if_lt (tgt := 89) hx hb dX3_turnsToNumber_15 (by decide) (fun c9 => ?_) (fun c9 => ?_)
  · rw [if_pos c9] at h
    refine lv_iload_n hx hb dX3_turnsToNumber_89 rfl (lv_at hl 1 rfl) ?_
    refine lv_if_ne (tgt := 105) hx hb dX3_turnsToNumber_90 (by decide) (fun c9 => ?_) (fun c9 => ?_)
    · rw [if_neg c9] at h
      exact WX3_turnsToNumber_s32_105 C0  _ _ _ _ h hP hD hS (lv_sub hl [] rfl)
    · rw [if_pos c9] at h
      refine lv_iload_n hx hb dX3_turnsToNumber_93 rfl (lv_at hl 2 rfl) ?_
      refine lv_iconst (v := 1) hx hb dX3_turnsToNumber_94 (by decide) ?_
      refine lv_aload_n hx hb dX3_turnsToNumber_95 rfl (lv_at hl 0 rfl) ?_
      refine va_get (D := D) (ci := 3) (v := .int (q.1 32 13)) (C := RX3) (T := TX3) (N := 20) hx hb hts u9_wsX3_turnsToNumber_X3 hown hK hP 32 rfl rfl 13 (by decide) (hts (.fieldLink RX3 51 "TurnedFloors$Paper" "floors" "I") f9_wsX3_turnsToNumber_875) (fun _ h9 => h9) rfl dX3_turnsToNumber_96 ?_
      refine lv_ishl hx hb dX3_turnsToNumber_99 ?_
      refine lv_iconst (v := 1) hx hb dX3_turnsToNumber_100 (by decide) ?_
      refine lv_isub hx hb dX3_turnsToNumber_101 ?_
      refine lv_icmp_eq (tgt := 107) hx hb dX3_turnsToNumber_102 (by decide) (fun c9 => ?_) (fun c9 => ?_)
      · rw [if_pos c9] at h
        refine lv_aload_n hx hb dX3_turnsToNumber_107 rfl (lv_at hl 0 rfl) ?_
        refine lv_iconst (v := 1) hx hb dX3_turnsToNumber_108 (by decide) ?_
        refine lv_aload_n hx hb dX3_turnsToNumber_109 rfl (lv_at hl 0 rfl) ?_
        obtain ⟨r1, q3, h2, h⟩ := dB_some h
        refine dw_ki (va_runV (As := []) (rest := [.int 1, .ref (ad 32)]) ⟨hx, hb, hml, hown, hts⟩ (qX3_numberOfOrder_s32 l D ty eo _ ad q  r1 q3 h2) (cwV 0 hts gX3_turnsToNumber_X3_numberOfOrder rfl rfl rfl (by decide +kernel) ⟨Nat.le_of_ble_eq_true rfl, Nat.le_of_ble_eq_true rfl⟩) (dw_preV (ci := 3) (q0 := 32) hK hN hE hP hD hS hA rfl rfl) rfl rfl hl.1 rfl (lv_room (Nat.le_of_ble_eq_true rfl)) dX3_turnsToNumber_110 ⟨Nat.le_of_ble_eq_true rfl, Nat.le_of_ble_eq_true rfl⟩) hD hS hA (fun r9 u9 H locs hw hp hd hs => ?_)
        clear hP hD hS
        obtain ⟨rfl, rfl⟩ := hw
        have hP := hp; have hD := hd; have hS := hs; clear hp hd hs
        obtain ⟨r4, q6, h5, h⟩ := dB_some h
        refine dw_ki (va_runV (As := [.int 1, .int r1]) (rest := []) ⟨hx, hb, hml, hown, hts⟩ (qX3_nearest_s32 l D ty eo _ ad q3 1 r1 r4 q6 h5) (cwV 2 hts gX3_turnsToNumber_X3_nearest rfl rfl rfl (by decide +kernel) ⟨Nat.le_of_ble_eq_true rfl, Nat.le_of_ble_eq_true rfl⟩) (dw_preV (ci := 3) (q0 := 32) hK hN hE hP hD hS hA rfl rfl) rfl rfl hl.1 rfl (lv_room (Nat.le_of_ble_eq_true rfl)) dX3_turnsToNumber_113 ⟨Nat.le_of_ble_eq_true rfl, Nat.le_of_ble_eq_true rfl⟩) hD hS hA (fun r9 u9 H locs hw hp hd hs => ?_)
        clear hP hD hS
        obtain ⟨rfl, rfl⟩ := hw
        have hP := hp; have hD := hd; have hS := hs; clear hp hd hs
        cases h
        exact kz_iret hx hb hr hlocks hP hK hD hS dX3_turnsToNumber_116 ⟨rfl, rfl⟩
      · rw [if_neg c9] at h
        exact WX3_turnsToNumber_s32_105 C0  _ _ _ _ h hP hD hS (lv_sub hl [] rfl)
  · rw [if_neg c9] at h
    refine lv_aload_n hx hb dX3_turnsToNumber_18 rfl (lv_at hl 0 rfl) ?_
    refine va_get (D := D) (ci := 3) (v := .ref (ad 34)) (C := RX3) (T := TX3) (N := 20) hx hb hts u9_wsX3_turnsToNumber_X3 hown hK hP 32 rfl rfl 1 (by decide) (hts (.fieldLink RX3 15 "TurnedFloors$Paper" "digits" "[I") f9_wsX3_turnsToNumber_876) (fun _ h9 => h9) rfl dX3_turnsToNumber_19 ?_
    refine lv_iload hx hb dX3_turnsToNumber_22 (lv_at hl 3 rfl) ?_
    refine lv_iload hx hb dX3_turnsToNumber_24 (lv_at hl 3 rfl) ?_
    obtain ⟨g7, h⟩ := dG_some h
    refine va_iast hx hb hK hP hD hS 34 0 rfl rfl (dg_in g7) dX3_turnsToNumber_26 (fun H locs hp hd hs => ?_)
    obtain ⟨q8, eq8, h⟩ := dL_some h
    refine kz_re (w2 := wF ty ad q8) hp hd hs (by rw [← eq8]; exact wF_a34 ty ad q (Int32.toNatClampNeg x4) x4) ?_
    clear hp hd hs hP hD hS
    intro hP hD hS
    refine lv_iload hx hb dX3_turnsToNumber_27 (lv_at hl 3 rfl) ?_
    refine lv_aload_n hx hb dX3_turnsToNumber_29 rfl (lv_at hl 0 rfl) ?_
    refine va_get (D := D) (ci := 3) (v := .int (q8.1 32 13)) (C := RX3) (T := TX3) (N := 20) hx hb hts u9_wsX3_turnsToNumber_X3 hown hK hP 32 rfl rfl 13 (by decide) (hts (.fieldLink RX3 51 "TurnedFloors$Paper" "floors" "I") f9_wsX3_turnsToNumber_875) (fun _ h9 => h9) rfl dX3_turnsToNumber_30 ?_
    refine lv_icmp_ge (tgt := 83) hx hb dX3_turnsToNumber_33 (by decide) (fun c9 => ?_) (fun c9 => ?_)
    · rw [if_pos c9] at h
      exact WX3_turnsToNumber_s32_83 C0 hk13 _ _ _ _ _ _ _ h hP hD hS (lv_sub hl [0, 1, 2, 3] rfl)
    · rw [if_neg c9] at h
      refine lv_aload_n hx hb dX3_turnsToNumber_36 rfl (lv_at hl 0 rfl) ?_
      refine va_get (D := D) (ci := 3) (v := .ref (ad 34)) (C := RX3) (T := TX3) (N := 20) hx hb hts u9_wsX3_turnsToNumber_X3 hown hK hP 32 rfl rfl 1 (by decide) (hts (.fieldLink RX3 15 "TurnedFloors$Paper" "digits" "[I") f9_wsX3_turnsToNumber_876) (fun _ h9 => h9) rfl dX3_turnsToNumber_37 ?_
      refine lv_iload hx hb dX3_turnsToNumber_40 (lv_at hl 3 rfl) ?_
      refine lv_aload_n hx hb dX3_turnsToNumber_42 rfl (lv_at hl 0 rfl) ?_
      refine lv_iload_n hx hb dX3_turnsToNumber_43 rfl (lv_at hl 1 rfl) ?_
      refine lv_bipush (v := 10) hx hb dX3_turnsToNumber_44 (by decide) ?_
      refine lv_irem hx hb dX3_turnsToNumber_46 (by decide) ?_
      obtain ⟨r9, q11, h10, h⟩ := dB_some h
      refine dw_ki (va_runV (As := [.int (x2 - x2 / 10 * 10 : Int32)]) (rest := [.int x4, .ref (ad 34)]) ⟨hx, hb, hml, hown, hts⟩ (qX3_indexOfRank_s32 l D ty eo _ ad q8 (x2 - x2 / 10 * 10 : Int32) r9 q11 h10) (cwV 1 hts gX3_turnsToNumber_X3_indexOfRank rfl rfl rfl (by decide +kernel) ⟨Nat.le_of_ble_eq_true rfl, Nat.le_of_ble_eq_true rfl⟩) (dw_preV (ci := 3) (q0 := 32) hK hN hE hP hD hS hA rfl rfl) rfl rfl hl.1 rfl (lv_room (Nat.le_of_ble_eq_true rfl)) dX3_turnsToNumber_47 ⟨Nat.le_of_ble_eq_true rfl, Nat.le_of_ble_eq_true rfl⟩) hD hS hA (fun r9 u9 H locs hw hp hd hs => ?_)
      clear hP hD hS
      obtain ⟨rfl, rfl⟩ := hw
      have hP := hp; have hD := hd; have hS := hs; clear hp hd hs
      obtain ⟨g12, h⟩ := dG_some h
      refine va_iast hx hb hK hP hD hS 34 0 rfl rfl (dg_in g12) dX3_turnsToNumber_50 (fun H locs hp hd hs => ?_)
      obtain ⟨q13, eq13, h⟩ := dL_some h
      refine kz_re (w2 := wF ty ad q13) hp hd hs (by rw [← eq13]; exact wF_a34 ty ad q11 (Int32.toNatClampNeg x4) r9) ?_
      clear hp hd hs hP hD hS
      intro hP hD hS
      refine lv_iload_n hx hb dX3_turnsToNumber_51 rfl (lv_at hl 1 rfl) ?_
      refine lv_bipush (v := 10) hx hb dX3_turnsToNumber_52 (by decide) ?_
      refine lv_idiv hx hb dX3_turnsToNumber_54 (by decide) ?_
      refine lv_istore_n (lv' := [(2, .int (x2 / 10 : Int32)), (0, .ref (ad 32)), (3, .int x3), (4, .int x4)]) hx hb dX3_turnsToNumber_55 rfl hl (by decide) rfl (fun ls hl => ?_)
      refine lv_iload_n hx hb dX3_turnsToNumber_56 rfl (lv_at hl 2 rfl) ?_
      refine lv_aload_n hx hb dX3_turnsToNumber_57 rfl (lv_at hl 1 rfl) ?_
      refine va_get (D := D) (ci := 3) (v := .ref (ad 34)) (C := RX3) (T := TX3) (N := 20) hx hb hts u9_wsX3_turnsToNumber_X3 hown hK hP 32 rfl rfl 1 (by decide) (hts (.fieldLink RX3 15 "TurnedFloors$Paper" "digits" "[I") f9_wsX3_turnsToNumber_876) (fun _ h9 => h9) rfl dX3_turnsToNumber_58 ?_
      refine lv_iload hx hb dX3_turnsToNumber_61 (lv_at hl 3 rfl) ?_
      obtain ⟨g14, h⟩ := dG_some h
      refine va_iald hx hb hK hP 34 0 rfl rfl (dg_in g14) dX3_turnsToNumber_63 ?_
      obtain ⟨v15, ev15, h⟩ := dL_some h
      refine kz_topi v15 ev15 ?_
      refine lv_iconst (v := (-1)) hx hb dX3_turnsToNumber_64 (by decide) ?_
      refine lv_icmp_ne (tgt := 72) hx hb dX3_turnsToNumber_65 (by decide) (fun c9 => ?_) (fun c9 => ?_)
      · rw [if_neg c9] at h
        refine lv_iconst (v := 1) hx hb dX3_turnsToNumber_72 (by decide) ?_
        refine lv_aload_n hx hb dX3_turnsToNumber_73 rfl (lv_at hl 1 rfl) ?_
        refine va_get (D := D) (ci := 3) (v := .ref (ad 34)) (C := RX3) (T := TX3) (N := 20) hx hb hts u9_wsX3_turnsToNumber_X3 hown hK hP 32 rfl rfl 1 (by decide) (hts (.fieldLink RX3 15 "TurnedFloors$Paper" "digits" "[I") f9_wsX3_turnsToNumber_876) (fun _ h9 => h9) rfl dX3_turnsToNumber_74 ?_
        refine lv_iload hx hb dX3_turnsToNumber_77 (lv_at hl 3 rfl) ?_
        obtain ⟨g16, h⟩ := dG_some h
        refine va_iald hx hb hK hP 34 0 rfl rfl (dg_in g16) dX3_turnsToNumber_79 ?_
        obtain ⟨v17, ev17, h⟩ := dL_some h
        refine kz_topi v17 ev17 ?_
        refine lv_ishl hx hb dX3_turnsToNumber_80 ?_
        exact WX3_turnsToNumber_s32_81 C0 hk13 _ _ _ _ _ _ _ _ h hP hD hS (lv_sub hl [1, 0, 3] rfl)
      · rw [if_pos c9] at h
        refine lv_iconst (v := 0) hx hb dX3_turnsToNumber_68 (by decide) ?_
        refine lv_goto (tgt := 81) hx hb dX3_turnsToNumber_69 (by decide) ?_
        exact WX3_turnsToNumber_s32_81 C0 hk13 _ _ _ _ _ _ _ _ h hP hD hS (lv_sub hl [1, 0, 3] rfl)
set_option maxHeartbeats 4000000 in
set_option maxRecDepth 100000 in
theorem WX3_turnsToNumber_s32_13 {p : Program} {l : Launch} {e : Env} {s : State} {m : MethodId} {args : Array Value} {below : List Frame} {meth : Method} {c : Code} {D : va_G} {ty : Nat → ClassId} {eo : Nat → Nat} {A : Nat → Prop} {ad : Nat → Nat} {o1 : Int32} {o2 : dK} (C : dc_C p s m args meth c cX3_turnsToNumber (some .int) 5 RX3 wsX3_turnsToNumber D ty eo A)   (n : Nat) (q : dK) (x2 : Int32) (x3 : Int32) (x4 : Int32) (H : Heap) (locs : List Loc) (ls : Array Slot) (h : zX3_turnsToNumber_s32_13  n q x2 x3 x4 = some (o1, o2)) (hP : va_P D vwCl (wF ty ad q) H) (hD : va_D A (wF ty ad q)) (hS : va_S A s.heap H locs) (hl : lv_has ls 5 [(0, .ref (ad 32)), (2, .int x2), (3, .int x3), (4, .int x4)]) : W p l e ({ frames := 3, cells := 0, slots := 0, locals := 73 } : Room) s m args below meth c H locs 0 0 (MQ below (va_Qi (fun (r : Int32) (u : va_W) => o1 = r ∧ wF ty ad o2 = u) (kz_B D ty A) A) args s 0 0 A) (F0 m 13 ls []) := by
  exact dFix_W (F := fun k (a : dK × Int32 × Int32 × Int32) => zX3_turnsToNumber_s32_13b  (fun q x2 x3 x4 => k (q, x2, x3, x4)) a.1 a.2.1 a.2.2.1 a.2.2.2) (o := (o1, o2)) (P := fun (a : dK × Int32 × Int32 × Int32) H locs ls => va_P D vwCl (wF ty ad a.1) H ∧ va_D A (wF ty ad a.1) ∧ va_S A s.heap H locs ∧ lv_has ls 5 [(0, .ref (ad 32)), (2, .int a.2.1), (3, .int a.2.2.1), (4, .int a.2.2.2)]) (G := fun H locs ls => W p l e ({ frames := 3, cells := 0, slots := 0, locals := 73 } : Room) s m args below meth c H locs 0 0 (MQ below (va_Qi (fun (r : Int32) (u : va_W) => o1 = r ∧ wF ty ad o2 = u) (kz_B D ty A) A) args s 0 0 A) (F0 m 13 ls []))
    (fun k hk a H locs ls h hp => WX3_turnsToNumber_s32_13b C  (fun q x2 x3 x4 H locs ls h h1 h2 h3 h4 => hk (q, x2, x3, x4) H locs ls h ⟨h1, h2, h3, h4⟩) a.1 a.2.1 a.2.2.1 a.2.2.2 H locs ls h hp.1 hp.2.1 hp.2.2.1 hp.2.2.2) n (q, x2, x3, x4) H locs ls h ⟨hP, hD, hS, hl⟩
set_option maxHeartbeats 4000000 in
set_option maxRecDepth 100000 in
theorem qX3_turnsToNumber_s32 (l : Launch) (D : va_G) (ty : Nat → ClassId) (eo : Nat → Nat) (sz : Nat) (ad : Nat → Nat) (q : dK) (p1 : Int32) (o1 : Int32) (o2 : dK) (h : zX3_turnsToNumber_s32 q p1 = some (o1, o2)) : Met l yX3_turnsToNumber wsX3_turnsToNumber ({ frames := 3, cells := 0, slots := 0, locals := 73 } : Room) (va_Pc [.ref (ad 32), .int p1] (kz_pre D ty eo (wF ty ad q) sz)) (va_Qi (fun (r : Int32) (u : va_W) => o1 = r ∧ wF ty ad o2 = u) (kz_B D ty (va_A (wF ty ad q) sz)) (va_A (wF ty ad q) sz)) 0 0 (va_A (wF ty ad q) sz) := by
  refine Met.ofW (cc := cX3_turnsToNumber) (maxL := 5) (ret := (some .int)) (by decide) rfl ?_
  intro p e s m args below meth c s₁ B hml hv
  obtain ⟨rfl, hsz, hP, hK, hD0, hN, hE⟩ := hv
  have hx := B.exec
  have hb := B.bytes
  have hr := B.returns
  have hts := atoms_spec (ws := wsX3_turnsToNumber) B.pre
  have hown : s.vm.findClass RX3 = some m.cls := findClass_of_methodNamed B.named
  have hlocks := B.notSynchronized
  subst hsz
  have hD := hD0.self (sz := s.heap.size)
  generalize hAe : va_A (wF ty ad q) s.heap.size = A at hD hE ⊢
  have hA : ∀ q : Nat, s.heap.size ≤ q → A q := fun q h => by rw [← hAe]; exact Or.inr h
  clear hAe
  have hS : va_S A s.heap s.heap [] := va_S.rf
  have hl := lv_entry ([.ref (ad 32), .int p1]) (n := 5) (Nat.le_of_ble_eq_true rfl)
  rw [lg_entry_eq]
  generalize (lg_sl ([.ref (ad 32), .int p1]) ++ List.replicate (5 - (lg_sl ([.ref (ad 32), .int p1])).length) Slot.unset).toArray = ls at hl ⊢
  have hl : lv_has ls 5 [(0, .ref (ad 32)), (1, .int p1)] := hl
  have C : dc_C p s m _ meth c cX3_turnsToNumber (some .int) 5 RX3 wsX3_turnsToNumber D ty eo A := ⟨hx, hb, hr, hts, hown, hlocks, hml, hK, hN, hE, hA⟩
  unfold zX3_turnsToNumber_s32 at h
  refine lv_iload_n hx hb dX3_turnsToNumber_0 rfl (lv_at hl 1 rfl) ?_
  refine lv_if_ge (tgt := 6) hx hb dX3_turnsToNumber_1 (by decide) (fun c9 => ?_) (fun c9 => ?_)
  · rw [if_pos c9] at h
    refine lv_iload_n hx hb dX3_turnsToNumber_6 rfl (lv_at hl 1 rfl) ?_
    refine lv_istore_n (lv' := [(2, .int p1), (0, .ref (ad 32)), (1, .int p1)]) hx hb dX3_turnsToNumber_7 rfl hl (by decide) rfl (fun ls hl => ?_)
    refine lv_iconst (v := 0) hx hb dX3_turnsToNumber_8 (by decide) ?_
    refine lv_istore_n (lv' := [(3, .int 0), (2, .int p1), (0, .ref (ad 32)), (1, .int p1)]) hx hb dX3_turnsToNumber_9 rfl hl (by decide) rfl (fun ls hl => ?_)
    refine lv_iconst (v := 5) hx hb dX3_turnsToNumber_10 (by decide) ?_
    refine lv_istore (lv' := [(4, .int 5), (3, .int 0), (2, .int p1), (0, .ref (ad 32)), (1, .int p1)]) hx hb dX3_turnsToNumber_11 hl (by decide) rfl (fun ls hl => ?_)
    exact WX3_turnsToNumber_s32_13 C  _ _ _ _ _ _ _ _ h hP hD hS (lv_sub hl [3, 2, 1, 0] rfl)
  · rw [if_neg c9] at h
    refine lv_iconst (v := (-1)) hx hb dX3_turnsToNumber_4 (by decide) ?_
    cases h
    exact kz_iret hx hb hr hlocks hP hK hD hS dX3_turnsToNumber_5 ⟨rfl, rfl⟩

set_option maxHeartbeats 4000000 in
set_option maxRecDepth 100000 in
theorem qX9_comes_s0 (l : Launch) (D : va_G) (ty : Nat → ClassId) (eo : Nat → Nat) (sz : Nat) (ad : Nat → Nat) (nc ns : Nat) (q : dK) (p1 : Int32) (o1 : Int32) (o2 : dK) (h : zX9_comes_s0 nc ns q p1 = some (o1, o2)) : Met l yX9_comes wsX9_comes ({ frames := 6, cells := nc, slots := ns, locals := 160 } : Room) (va_Pc [.ref (ad 0), .int p1] (kz_pre D ty eo (wF ty ad q) sz)) (va_Qi (fun (r : Int32) (u : va_W) => o1 = r ∧ ∃ ad9 : Nat → Nat, dAg ad ad9 ∧ wF ty ad9 o2 = u) (kz_B D ty (va_A (wF ty ad q) sz)) (va_A (wF ty ad q) sz)) nc ns (va_A (wF ty ad q) sz) := by
  have hag : dAg ad ad := fun _ _ => rfl
  refine Met.ofW (cc := cX9_comes) (maxL := 2) (ret := (some .int)) (by decide) rfl ?_
  intro p e s m args below meth c s₁ B hml hv
  obtain ⟨rfl, hsz, hP, hK, hD0, hN, hE⟩ := hv
  have hx := B.exec
  have hb := B.bytes
  have hr := B.returns
  have hts := atoms_spec (ws := wsX9_comes) B.pre
  have hown : s.vm.findClass RX9 = some m.cls := findClass_of_methodNamed B.named
  have hlocks := B.notSynchronized
  subst hsz
  have hD := hD0.self (sz := s.heap.size)
  generalize hAe : va_A (wF ty ad q) s.heap.size = A at hD hE ⊢
  have hA : ∀ q : Nat, s.heap.size ≤ q → A q := fun q h => by rw [← hAe]; exact Or.inr h
  clear hAe
  have hS : va_S A s.heap s.heap [] := va_S.rf
  have hl := lv_entry ([.ref (ad 0), .int p1]) (n := 2) (Nat.le_of_ble_eq_true rfl)
  rw [lg_entry_eq]
  generalize (lg_sl ([.ref (ad 0), .int p1]) ++ List.replicate (2 - (lg_sl ([.ref (ad 0), .int p1])).length) Slot.unset).toArray = ls at hl ⊢
  have hl : lv_has ls 2 [(0, .ref (ad 0)), (1, .int p1)] := hl
  have C : dc_C p s m _ meth c cX9_comes (some .int) 2 RX9 wsX9_comes D ty eo A := ⟨hx, hb, hr, hts, hown, hlocks, hml, hK, hN, hE, hA⟩
  unfold zX9_comes_s0 at h
  refine lv_aload_n hx hb dX9_comes_0 rfl (lv_at hl 0 rfl) ?_
  refine lv_aload_n hx hb dX9_comes_1 rfl (lv_at hl 0 rfl) ?_
  obtain ⟨q3, h2, h⟩ := dV_some h
  refine dw_kq (va_runV (As := []) (rest := [.ref (ad 0)]) ⟨hx, hb, hml, hown, hts⟩ (qX9_seated_s0 l D ty eo _ ad q  q3 h2) (cwV 0 hts gX9_comes_X9_seated rfl rfl rfl (by decide +kernel) ⟨Nat.le_of_ble_eq_true rfl, Nat.le_of_ble_eq_true rfl⟩) (dw_preV (ci := 9) (q0 := 0) hK hN hE hP hD hS hA rfl rfl) rfl rfl hl.1 rfl (lv_room (Nat.le_of_ble_eq_true rfl)) dX9_comes_2 ⟨Nat.zero_le _, Nat.zero_le _⟩) hP hD hS hA (fun r9 u9 H locs hw hp hd hs => ?_)
  clear hP hD hS
  obtain ⟨rfl, rfl⟩ := hw
  have hP := hp; have hD := hd; have hS := hs; clear hp hd hs
  obtain ⟨q6, h5, h⟩ := dV_some h
  refine dw_kv (va_runV (As := [.ref (ad 20)]) (rest := []) ⟨hx, hb, hml, hown, hts⟩ (qX9_spread_s0_s20 l D ty eo _ ad nc ns q3  q6 h5) (cwV 1 hts gX9_comes_X9_spread rfl rfl rfl (by decide +kernel) ⟨Nat.le_of_ble_eq_true rfl, Nat.le_of_ble_eq_true rfl⟩) (dw_preV (ci := 9) (q0 := 0) hK hN hE hP hD hS hA rfl rfl) rfl rfl hl.1 rfl (lv_room (Nat.le_of_ble_eq_true rfl)) dX9_comes_5 ⟨by show 0 + nc ≤ nc; omega, by show 0 + ns ≤ ns; omega⟩) hD hS hA (fun u9 H locs hw hp hd hs => ?_)
  clear hP hD hS
  obtain ⟨ad, hag1, rfl⟩ := hw
  replace hag := dAg_t hag hag1
  rw [dAg_s hag1 0 (by decide)] at hl
  clear hag1
  refine dw_up (c2 := nc) (s2 := ns) (by omega) (by omega) ?_
  have hP := hp; have hD := hd; have hS := hs; clear hp hd hs
  refine lv_aload_n hx hb dX9_comes_8 rfl (lv_at hl 0 rfl) ?_
  refine va_get (D := D) (ci := 9) (v := .ref (ad 32)) (C := RX9) (T := TX9) (N := 19) hx hb hts u9_wsX9_comes_X9 hown hK hP 0 rfl rfl 10 (by decide) (hts (.fieldLink RX9 80 "TurnedFloors" "paper" "LTurnedFloors$Paper;") f9_wsX9_comes_878) (fun _ h9 => h9) rfl dX9_comes_9 ?_
  refine lv_iload_n hx hb dX9_comes_12 rfl (lv_at hl 1 rfl) ?_
  obtain ⟨r7, q9, h8, h⟩ := dB_some h
  refine dw_ki (va_runV (As := [.int p1]) (rest := []) ⟨hx, hb, hml, hown, hts⟩ (qX3_turnsToNumber_s32 l D ty eo _ ad q6 p1 r7 q9 h8) (cwV 1 hts gX9_comes_X3_turnsToNumber rfl rfl rfl (by decide +kernel) ⟨Nat.le_of_ble_eq_true rfl, Nat.le_of_ble_eq_true rfl⟩) (dw_preV (ci := 3) (q0 := 32) hK hN hE hP hD hS hA rfl rfl) rfl rfl hl.1 rfl (lv_room (Nat.le_of_ble_eq_true rfl)) dX9_comes_13 ⟨Nat.le_refl _, Nat.le_refl _⟩) hD hS hA (fun r9 u9 H locs hw hp hd hs => ?_)
  clear hP hD hS
  obtain ⟨rfl, rfl⟩ := hw
  have hP := hp; have hD := hd; have hS := hs; clear hp hd hs
  cases h
  exact kz_iret hx hb hr hlocks hP hK hD hS dX9_comes_16 ⟨rfl, ad, hag, rfl⟩

set_option maxHeartbeats 4000000 in
set_option maxRecDepth 100000 in
theorem qX3_turnsToTop_s32 (l : Launch) (D : va_G) (ty : Nat → ClassId) (eo : Nat → Nat) (sz : Nat) (ad : Nat → Nat) (q : dK) (p1 : Int32) (o1 : Int32) (o2 : dK) (h : zX3_turnsToTop_s32 q p1 = some (o1, o2)) : Met l yX3_turnsToTop wsX3_turnsToTop ({ frames := 3, cells := 0, slots := 0, locals := 73 } : Room) (va_Pc [.ref (ad 32), .int p1] (kz_pre D ty eo (wF ty ad q) sz)) (va_Qi (fun (r : Int32) (u : va_W) => o1 = r ∧ wF ty ad o2 = u) (kz_B D ty (va_A (wF ty ad q) sz)) (va_A (wF ty ad q) sz)) 0 0 (va_A (wF ty ad q) sz) := by
  refine Met.ofW (cc := cX3_turnsToTop) (maxL := 2) (ret := (some .int)) (by decide) rfl ?_
  intro p e s m args below meth c s₁ B hml hv
  obtain ⟨rfl, hsz, hP, hK, hD0, hN, hE⟩ := hv
  have hx := B.exec
  have hb := B.bytes
  have hr := B.returns
  have hts := atoms_spec (ws := wsX3_turnsToTop) B.pre
  have hown : s.vm.findClass RX3 = some m.cls := findClass_of_methodNamed B.named
  have hlocks := B.notSynchronized
  subst hsz
  have hD := hD0.self (sz := s.heap.size)
  generalize hAe : va_A (wF ty ad q) s.heap.size = A at hD hE ⊢
  have hA : ∀ q : Nat, s.heap.size ≤ q → A q := fun q h => by rw [← hAe]; exact Or.inr h
  clear hAe
  have hS : va_S A s.heap s.heap [] := va_S.rf
  have hl := lv_entry ([.ref (ad 32), .int p1]) (n := 2) (Nat.le_of_ble_eq_true rfl)
  rw [lg_entry_eq]
  generalize (lg_sl ([.ref (ad 32), .int p1]) ++ List.replicate (2 - (lg_sl ([.ref (ad 32), .int p1])).length) Slot.unset).toArray = ls at hl ⊢
  have hl : lv_has ls 2 [(0, .ref (ad 32)), (1, .int p1)] := hl
  have C : dc_C p s m _ meth c cX3_turnsToTop (some .int) 2 RX3 wsX3_turnsToTop D ty eo A := ⟨hx, hb, hr, hts, hown, hlocks, hml, hK, hN, hE, hA⟩
  unfold zX3_turnsToTop_s32 at h
  refine lv_aload_n hx hb dX3_turnsToTop_0 rfl (lv_at hl 0 rfl) ?_
  refine lv_iconst (v := 2) hx hb dX3_turnsToTop_1 (by decide) ?_
  refine lv_aload_n hx hb dX3_turnsToTop_2 rfl (lv_at hl 0 rfl) ?_
  refine lv_iload_n hx hb dX3_turnsToTop_3 rfl (lv_at hl 1 rfl) ?_
  obtain ⟨r1, q3, h2, h⟩ := dB_some h
  refine dw_ki (va_runV (As := [.int p1]) (rest := [.int 2, .ref (ad 32)]) ⟨hx, hb, hml, hown, hts⟩ (qX3_indexOfRank_s32 l D ty eo _ ad q p1 r1 q3 h2) (cwV 1 hts gX3_turnsToTop_X3_indexOfRank rfl rfl rfl (by decide +kernel) ⟨Nat.le_of_ble_eq_true rfl, Nat.le_of_ble_eq_true rfl⟩) (dw_preV (ci := 3) (q0 := 32) hK hN hE hP hD hS hA rfl rfl) rfl rfl hl.1 rfl (lv_room (Nat.le_of_ble_eq_true rfl)) dX3_turnsToTop_4 ⟨Nat.le_of_ble_eq_true rfl, Nat.le_of_ble_eq_true rfl⟩) hD hS hA (fun r9 u9 H locs hw hp hd hs => ?_)
  clear hP hD hS
  obtain ⟨rfl, rfl⟩ := hw
  have hP := hp; have hD := hd; have hS := hs; clear hp hd hs
  obtain ⟨r4, q6, h5, h⟩ := dB_some h
  refine dw_ki (va_runV (As := [.int 2, .int r1]) (rest := []) ⟨hx, hb, hml, hown, hts⟩ (qX3_nearest_s32 l D ty eo _ ad q3 2 r1 r4 q6 h5) (cwV 2 hts gX3_turnsToTop_X3_nearest rfl rfl rfl (by decide +kernel) ⟨Nat.le_of_ble_eq_true rfl, Nat.le_of_ble_eq_true rfl⟩) (dw_preV (ci := 3) (q0 := 32) hK hN hE hP hD hS hA rfl rfl) rfl rfl hl.1 rfl (lv_room (Nat.le_of_ble_eq_true rfl)) dX3_turnsToTop_7 ⟨Nat.le_of_ble_eq_true rfl, Nat.le_of_ble_eq_true rfl⟩) hD hS hA (fun r9 u9 H locs hw hp hd hs => ?_)
  clear hP hD hS
  obtain ⟨rfl, rfl⟩ := hw
  have hP := hp; have hD := hd; have hS := hs; clear hp hd hs
  cases h
  exact kz_iret hx hb hr hlocks hP hK hD hS dX3_turnsToTop_10 ⟨rfl, rfl⟩

set_option maxHeartbeats 4000000 in
set_option maxRecDepth 100000 in
theorem qX9_view_s0 (l : Launch) (D : va_G) (ty : Nat → ClassId) (eo : Nat → Nat) (sz : Nat) (ad : Nat → Nat) (nc ns : Nat) (q : dK) (p1 : Int32) (o1 : Int32) (o2 : dK) (h : zX9_view_s0 nc ns q p1 = some (o1, o2)) : Met l yX9_view wsX9_view ({ frames := 6, cells := nc, slots := ns, locals := 160 } : Room) (va_Pc [.ref (ad 0), .int p1] (kz_pre D ty eo (wF ty ad q) sz)) (va_Qi (fun (r : Int32) (u : va_W) => o1 = r ∧ ∃ ad9 : Nat → Nat, dAg ad ad9 ∧ wF ty ad9 o2 = u) (kz_B D ty (va_A (wF ty ad q) sz)) (va_A (wF ty ad q) sz)) nc ns (va_A (wF ty ad q) sz) := by
  have hag : dAg ad ad := fun _ _ => rfl
  refine Met.ofW (cc := cX9_view) (maxL := 2) (ret := (some .int)) (by decide) rfl ?_
  intro p e s m args below meth c s₁ B hml hv
  obtain ⟨rfl, hsz, hP, hK, hD0, hN, hE⟩ := hv
  have hx := B.exec
  have hb := B.bytes
  have hr := B.returns
  have hts := atoms_spec (ws := wsX9_view) B.pre
  have hown : s.vm.findClass RX9 = some m.cls := findClass_of_methodNamed B.named
  have hlocks := B.notSynchronized
  subst hsz
  have hD := hD0.self (sz := s.heap.size)
  generalize hAe : va_A (wF ty ad q) s.heap.size = A at hD hE ⊢
  have hA : ∀ q : Nat, s.heap.size ≤ q → A q := fun q h => by rw [← hAe]; exact Or.inr h
  clear hAe
  have hS : va_S A s.heap s.heap [] := va_S.rf
  have hl := lv_entry ([.ref (ad 0), .int p1]) (n := 2) (Nat.le_of_ble_eq_true rfl)
  rw [lg_entry_eq]
  generalize (lg_sl ([.ref (ad 0), .int p1]) ++ List.replicate (2 - (lg_sl ([.ref (ad 0), .int p1])).length) Slot.unset).toArray = ls at hl ⊢
  have hl : lv_has ls 2 [(0, .ref (ad 0)), (1, .int p1)] := hl
  have C : dc_C p s m _ meth c cX9_view (some .int) 2 RX9 wsX9_view D ty eo A := ⟨hx, hb, hr, hts, hown, hlocks, hml, hK, hN, hE, hA⟩
  unfold zX9_view_s0 at h
  refine lv_aload_n hx hb dX9_view_0 rfl (lv_at hl 0 rfl) ?_
  refine va_get (D := D) (ci := 9) (v := .ref (ad 1)) (C := RX9) (T := TX9) (N := 19) hx hb hts u9_wsX9_view_X9 hown hK hP 0 rfl rfl 0 (by decide) (hts (.fieldLink RX9 10 "TurnedFloors" "state" "LTurnedFloors$State;") f9_wsX9_view_881) (fun _ h9 => h9) rfl dX9_view_1 ?_
  refine va_getN (D := D) (ci := 6) (v := .ref (ad 2)) (C := RX6) (T := TX6) (N := 10) hx hb hts u9_wsX9_view_X6 hown hK hP 1 rfl rfl 0 (by decide) (hN.use (.fieldLinkNest "TurnedFloors" 122 "TurnedFloors$State" "tower" "LTurnedFloors$Tower;" "TurnedFloors") (by decide +kernel)) (fun _ h9 => h9) rfl dX9_view_4 ?_
  refine lv_iload_n hx hb dX9_view_7 rfl (lv_at hl 1 rfl) ?_
  obtain ⟨r1, q3, h2, h⟩ := dB_some h
  refine dw_ki (va_runV (As := [.int p1]) (rest := []) ⟨hx, hb, hml, hown, hts⟩ (qX8_has_s2 l D ty eo _ ad q p1 r1 q3 h2) (cwV 1 hts gX9_view_X8_has rfl rfl rfl (by decide +kernel) ⟨Nat.le_of_ble_eq_true rfl, Nat.le_of_ble_eq_true rfl⟩) (dw_preV (ci := 8) (q0 := 2) hK hN hE hP hD hS hA rfl rfl) rfl rfl hl.1 rfl (lv_room (Nat.le_of_ble_eq_true rfl)) dX9_view_8 ⟨Nat.zero_le _, Nat.zero_le _⟩) hD hS hA (fun r9 u9 H locs hw hp hd hs => ?_)
  clear hP hD hS
  obtain ⟨rfl, rfl⟩ := hw
  have hP := hp; have hD := hd; have hS := hs; clear hp hd hs
  refine lv_if_ne (tgt := 16) hx hb dX9_view_11 (by decide) (fun c9 => ?_) (fun c9 => ?_)
  · rw [if_neg c9] at h
    refine lv_aload_n hx hb dX9_view_16 rfl (lv_at hl 0 rfl) ?_
    refine lv_aload_n hx hb dX9_view_17 rfl (lv_at hl 0 rfl) ?_
    obtain ⟨q6, h5, h⟩ := dV_some h
    refine dw_kq (va_runV (As := []) (rest := [.ref (ad 0)]) ⟨hx, hb, hml, hown, hts⟩ (qX9_seated_s0 l D ty eo _ ad q3  q6 h5) (cwV 0 hts gX9_view_X9_seated rfl rfl rfl (by decide +kernel) ⟨Nat.le_of_ble_eq_true rfl, Nat.le_of_ble_eq_true rfl⟩) (dw_preV (ci := 9) (q0 := 0) hK hN hE hP hD hS hA rfl rfl) rfl rfl hl.1 rfl (lv_room (Nat.le_of_ble_eq_true rfl)) dX9_view_18 ⟨Nat.zero_le _, Nat.zero_le _⟩) hP hD hS hA (fun r9 u9 H locs hw hp hd hs => ?_)
    clear hP hD hS
    obtain ⟨rfl, rfl⟩ := hw
    have hP := hp; have hD := hd; have hS := hs; clear hp hd hs
    obtain ⟨q9, h8, h⟩ := dV_some h
    refine dw_kv (va_runV (As := [.ref (ad 20)]) (rest := []) ⟨hx, hb, hml, hown, hts⟩ (qX9_spread_s0_s20 l D ty eo _ ad nc ns q6  q9 h8) (cwV 1 hts gX9_view_X9_spread rfl rfl rfl (by decide +kernel) ⟨Nat.le_of_ble_eq_true rfl, Nat.le_of_ble_eq_true rfl⟩) (dw_preV (ci := 9) (q0 := 0) hK hN hE hP hD hS hA rfl rfl) rfl rfl hl.1 rfl (lv_room (Nat.le_of_ble_eq_true rfl)) dX9_view_21 ⟨by show 0 + nc ≤ nc; omega, by show 0 + ns ≤ ns; omega⟩) hD hS hA (fun u9 H locs hw hp hd hs => ?_)
    clear hP hD hS
    obtain ⟨ad, hag1, rfl⟩ := hw
    replace hag := dAg_t hag hag1
    rw [dAg_s hag1 0 (by decide)] at hl
    clear hag1
    refine dw_up (c2 := nc) (s2 := ns) (by omega) (by omega) ?_
    have hP := hp; have hD := hd; have hS := hs; clear hp hd hs
    refine lv_aload_n hx hb dX9_view_24 rfl (lv_at hl 0 rfl) ?_
    refine va_get (D := D) (ci := 9) (v := .ref (ad 32)) (C := RX9) (T := TX9) (N := 19) hx hb hts u9_wsX9_view_X9 hown hK hP 0 rfl rfl 10 (by decide) (hts (.fieldLink RX9 80 "TurnedFloors" "paper" "LTurnedFloors$Paper;") f9_wsX9_view_882) (fun _ h9 => h9) rfl dX9_view_25 ?_
    refine lv_iload_n hx hb dX9_view_28 rfl (lv_at hl 1 rfl) ?_
    obtain ⟨r10, q12, h11, h⟩ := dB_some h
    refine dw_ki (va_runV (As := [.int p1]) (rest := []) ⟨hx, hb, hml, hown, hts⟩ (qX3_turnsToTop_s32 l D ty eo _ ad q9 p1 r10 q12 h11) (cwV 1 hts gX9_view_X3_turnsToTop rfl rfl rfl (by decide +kernel) ⟨Nat.le_of_ble_eq_true rfl, Nat.le_of_ble_eq_true rfl⟩) (dw_preV (ci := 3) (q0 := 32) hK hN hE hP hD hS hA rfl rfl) rfl rfl hl.1 rfl (lv_room (Nat.le_of_ble_eq_true rfl)) dX9_view_29 ⟨Nat.le_refl _, Nat.le_refl _⟩) hD hS hA (fun r9 u9 H locs hw hp hd hs => ?_)
    clear hP hD hS
    obtain ⟨rfl, rfl⟩ := hw
    have hP := hp; have hD := hd; have hS := hs; clear hp hd hs
    cases h
    exact kz_iret hx hb hr hlocks hP hK hD hS dX9_view_32 ⟨rfl, ad, hag, rfl⟩
  · rw [if_pos c9] at h
    refine lv_iconst (v := (-1)) hx hb dX9_view_14 (by decide) ?_
    refine dw_up (c2 := nc) (s2 := ns) (Nat.zero_le _) (Nat.zero_le _) ?_
    cases h
    exact kz_iret hx hb hr hlocks hP hK hD hS dX9_view_15 ⟨rfl, ad, hag, rfl⟩
