section
theorem u9_wsX3_nearest_X3 : ∀ w ∈ u_ws RX3 TX3 20, w ∈ wsX3_nearest := fun w h => List.mem_cons_of_mem _ (vW9_wsX30 w h)
theorem f9_wsX3_nearest_860 : (Cond.fieldLink RX3 51 "TurnedFloors$Paper" "floors" "I") ∈ wsX3_nearest := List.mem_cons_of_mem _ mvW9_463
theorem f9_wsX3_nearest_861 : (Cond.fieldLink RX3 42 "TurnedFloors$Paper" "marks" "[I") ∈ wsX3_nearest := List.mem_cons_of_mem _ mvW9_476
theorem f9_wsX3_nearest_862 : (Cond.fieldLink RX3 18 "TurnedFloors$Paper" "barred" "[I") ∈ wsX3_nearest := List.mem_cons_of_mem _ mvW9_507
theorem f9_wsX3_nearest_863 : (Cond.fieldLink RX3 70 "TurnedFloors$Paper" "visited" "I") ∈ wsX3_nearest := List.mem_cons_of_mem _ mvW9_590
theorem f9_wsX3_nearest_864 : (Cond.fieldLink RX3 55 "TurnedFloors$Paper" "size" "I") ∈ wsX3_nearest := List.mem_cons_of_mem _ mvW9_466
theorem f9_wsX3_nearest_865 : (Cond.fieldLink RX3 45 "TurnedFloors$Paper" "line" "[I") ∈ wsX3_nearest := List.mem_cons_of_mem _ mvW9_477
theorem f9_wsX3_nearest_866 : (Cond.fieldLink RX3 58 "TurnedFloors$Paper" "start" "I") ∈ wsX3_nearest := List.mem_cons_of_mem _ mvW9_471
theorem u9_wsX3_towersReached_X3 : ∀ w ∈ u_ws RX3 TX3 20, w ∈ wsX3_towersReached := fun w h => List.mem_cons_of_mem _ (vW9_wsX30 w h)
theorem f9_wsX3_towersReached_868 : (Cond.fieldLink RX3 70 "TurnedFloors$Paper" "visited" "I") ∈ wsX3_towersReached := List.mem_cons_of_mem _ mvW9_590
theorem u9_wsX9_reach_X9 : ∀ w ∈ u_ws RX9 TX9 19, w ∈ wsX9_reach := fun w h => List.mem_cons_of_mem _ (vW9_wsX90 w h)
theorem f9_wsX9_reach_870 : (Cond.fieldLink RX9 80 "TurnedFloors" "paper" "LTurnedFloors$Paper;") ∈ wsX9_reach := List.mem_cons_of_mem _ mvW9_453
theorem u9_wsX9_gaps_X9 : ∀ w ∈ u_ws RX9 TX9 19, w ∈ wsX9_gaps := fun w h => List.mem_cons_of_mem _ (vW9_wsX90 w h)
theorem u9_wsX9_gaps_X6 : ∀ w ∈ u_ws RX6 TX6 10, w ∈ wsX9_gaps := fun w h => List.mem_cons_of_mem _ (vW9_wsX60 w h)
theorem f9_wsX9_gaps_873 : (Cond.fieldLink RX9 10 "TurnedFloors" "state" "LTurnedFloors$State;") ∈ wsX9_gaps := List.mem_cons_of_mem _ mvW9_0
theorem u9_wsX3_turnsToNumber_X3 : ∀ w ∈ u_ws RX3 TX3 20, w ∈ wsX3_turnsToNumber := fun w h => List.mem_cons_of_mem _ (vW9_wsX30 w h)
theorem f9_wsX3_turnsToNumber_875 : (Cond.fieldLink RX3 51 "TurnedFloors$Paper" "floors" "I") ∈ wsX3_turnsToNumber := List.mem_cons_of_mem _ mvW9_463
theorem f9_wsX3_turnsToNumber_876 : (Cond.fieldLink RX3 15 "TurnedFloors$Paper" "digits" "[I") ∈ wsX3_turnsToNumber := List.mem_cons_of_mem _ mvW9_469
theorem u9_wsX9_comes_X9 : ∀ w ∈ u_ws RX9 TX9 19, w ∈ wsX9_comes := fun w h => List.mem_cons_of_mem _ (vW9_wsX90 w h)
theorem f9_wsX9_comes_878 : (Cond.fieldLink RX9 80 "TurnedFloors" "paper" "LTurnedFloors$Paper;") ∈ wsX9_comes := List.mem_cons_of_mem _ mvW9_453
theorem u9_wsX9_view_X9 : ∀ w ∈ u_ws RX9 TX9 19, w ∈ wsX9_view := fun w h => List.mem_cons_of_mem _ (vW9_wsX90 w h)
theorem u9_wsX9_view_X6 : ∀ w ∈ u_ws RX6 TX6 10, w ∈ wsX9_view := fun w h => List.mem_cons_of_mem _ (vW9_wsX60 w h)
theorem f9_wsX9_view_881 : (Cond.fieldLink RX9 10 "TurnedFloors" "state" "LTurnedFloors$State;") ∈ wsX9_view := List.mem_cons_of_mem _ mvW9_0
theorem f9_wsX9_view_882 : (Cond.fieldLink RX9 80 "TurnedFloors" "paper" "LTurnedFloors$Paper;") ∈ wsX9_view := List.mem_cons_of_mem _ mvW9_453
set_option maxHeartbeats 4000000 in
set_option maxRecDepth 100000 in
theorem WX3_nearest_s32_187 {p : Program} {l : Launch} {e : Env} {s : State} {m : MethodId} {args : Array Value} {below : List Frame} {meth : Method} {c : Code} {D : va_G} {ty : Nat → ClassId} {eo : Nat → Nat} {A : Nat → Prop} {ad : Nat → Nat} {o1 : Int32} {o2 : dK} (C : dc_C p s m args meth c cX3_nearest (some .int) 7 RX3 wsX3_nearest D ty eo A)   (q : dK)  (H : Heap) (locs : List Loc) (ls : Array Slot) (h : zX3_nearest_s32_187  q = some (o1, o2)) (hP : va_P D vwCl (wF ty ad q) H) (hD : va_D A (wF ty ad q)) (hS : va_S A s.heap H locs) (hl : lv_has ls 7 []) : W p l e ({ frames := 2, cells := 0, slots := 0, locals := 47 } : Room) s m args below meth c H locs 0 0 (MQ below (va_Qi (fun (r : Int32) (u : va_W) => o1 = r ∧ wF ty ad o2 = u) (kz_B D ty A) A) args s 0 0 A) (F0 m 187 ls []) := by
  have C0 := C
  obtain ⟨hx, hb, hr, hts, hown, hlocks, hml, hK, hN, hE, hA⟩ := C
  unfold zX3_nearest_s32_187 at h
  refine lv_iconst (v := (-1)) hx hb dX3_nearest_187 (by decide) ?_
  cases h
  exact kz_iret hx hb hr hlocks hP hK hD hS dX3_nearest_188 ⟨rfl, rfl⟩
set_option maxHeartbeats 4000000 in
set_option maxRecDepth 100000 in
theorem WX3_nearest_s32_175 {p : Program} {l : Launch} {e : Env} {s : State} {m : MethodId} {args : Array Value} {below : List Frame} {meth : Method} {c : Code} {D : va_G} {ty : Nat → ClassId} {eo : Nat → Nat} {A : Nat → Prop} {ad : Nat → Nat} {o1 : Int32} {o2 : dK} (C : dc_C p s m args meth c cX3_nearest (some .int) 7 RX3 wsX3_nearest D ty eo A) {k35 : dK → Int32 → Int32 → Int32 → Option (Int32 × dK)} {k81 : dK → Int32 → Int32 → Int32 → Int32 → Int32 → Option (Int32 × dK)} (hk35 : ∀ (q : dK) (x1 : Int32) (x2 : Int32) (x3 : Int32) (H : Heap) (locs : List Loc) (ls : Array Slot), k35 q x1 x2 x3 = some (o1, o2) → va_P D vwCl (wF ty ad q) H → va_D A (wF ty ad q) → va_S A s.heap H locs → lv_has ls 7 [(0, .ref (ad 32)), (1, .int x1), (2, .int x2), (3, .int x3)] → W p l e ({ frames := 2, cells := 0, slots := 0, locals := 47 } : Room) s m args below meth c H locs 0 0 (MQ below (va_Qi (fun (r : Int32) (u : va_W) => o1 = r ∧ wF ty ad o2 = u) (kz_B D ty A) A) args s 0 0 A) (F0 m 35 ls [])) (hk81 : ∀ (q : dK) (x1 : Int32) (x2 : Int32) (x3 : Int32) (x4 : Int32) (x5 : Int32) (H : Heap) (locs : List Loc) (ls : Array Slot), k81 q x1 x2 x3 x4 x5 = some (o1, o2) → va_P D vwCl (wF ty ad q) H → va_D A (wF ty ad q) → va_S A s.heap H locs → lv_has ls 7 [(0, .ref (ad 32)), (1, .int x1), (2, .int x2), (3, .int x3), (4, .int x4), (5, .int x5)] → W p l e ({ frames := 2, cells := 0, slots := 0, locals := 47 } : Room) s m args below meth c H locs 0 0 (MQ below (va_Qi (fun (r : Int32) (u : va_W) => o1 = r ∧ wF ty ad o2 = u) (kz_B D ty A) A) args s 0 0 A) (F0 m 81 ls [])) (q : dK) (x1 : Int32) (x2 : Int32) (x3 : Int32) (x4 : Int32) (x5 : Int32) (H : Heap) (locs : List Loc) (ls : Array Slot) (h : zX3_nearest_s32_175 k35 k81 q x1 x2 x3 x4 x5 = some (o1, o2)) (hP : va_P D vwCl (wF ty ad q) H) (hD : va_D A (wF ty ad q)) (hS : va_S A s.heap H locs) (hl : lv_has ls 7 [(0, .ref (ad 32)), (1, .int x1), (2, .int x2), (3, .int x3), (4, .int x4), (5, .int x5)]) : W p l e ({ frames := 2, cells := 0, slots := 0, locals := 47 } : Room) s m args below meth c H locs 0 0 (MQ below (va_Qi (fun (r : Int32) (u : va_W) => o1 = r ∧ wF ty ad o2 = u) (kz_B D ty A) A) args s 0 0 A) (F0 m 175 ls []) := by
  have C0 := C
  obtain ⟨hx, hb, hr, hts, hown, hlocks, hml, hK, hN, hE, hA⟩ := C
  unfold zX3_nearest_s32_175 at h
  refine lv_iinc (v := x5 + 1) (lv' := [(5, .int (x5 + 1)), (0, .ref (ad 32)), (1, .int x1), (2, .int x2), (3, .int x3), (4, .int x4)]) hx hb dX3_nearest_175 hl (k := 5) rfl rfl (by decide) rfl (fun ls hl => ?_)
  refine lv_goto (tgt := 81) hx hb dX3_nearest_178 (by decide) ?_
  exact hk81 _ _ _ _ _ _ _ _ _ h hP hD hS (lv_sub hl [1, 2, 3, 4, 5, 0] rfl)
set_option maxHeartbeats 4000000 in
set_option maxRecDepth 100000 in
theorem WX3_nearest_s32_81b {p : Program} {l : Launch} {e : Env} {s : State} {m : MethodId} {args : Array Value} {below : List Frame} {meth : Method} {c : Code} {D : va_G} {ty : Nat → ClassId} {eo : Nat → Nat} {A : Nat → Prop} {ad : Nat → Nat} {o1 : Int32} {o2 : dK} (C : dc_C p s m args meth c cX3_nearest (some .int) 7 RX3 wsX3_nearest D ty eo A) {k35 : dK → Int32 → Int32 → Int32 → Option (Int32 × dK)} {k81 : dK → Int32 → Int32 → Int32 → Int32 → Int32 → Option (Int32 × dK)} (hk35 : ∀ (q : dK) (x1 : Int32) (x2 : Int32) (x3 : Int32) (H : Heap) (locs : List Loc) (ls : Array Slot), k35 q x1 x2 x3 = some (o1, o2) → va_P D vwCl (wF ty ad q) H → va_D A (wF ty ad q) → va_S A s.heap H locs → lv_has ls 7 [(0, .ref (ad 32)), (1, .int x1), (2, .int x2), (3, .int x3)] → W p l e ({ frames := 2, cells := 0, slots := 0, locals := 47 } : Room) s m args below meth c H locs 0 0 (MQ below (va_Qi (fun (r : Int32) (u : va_W) => o1 = r ∧ wF ty ad o2 = u) (kz_B D ty A) A) args s 0 0 A) (F0 m 35 ls [])) (hk81 : ∀ (q : dK) (x1 : Int32) (x2 : Int32) (x3 : Int32) (x4 : Int32) (x5 : Int32) (H : Heap) (locs : List Loc) (ls : Array Slot), k81 q x1 x2 x3 x4 x5 = some (o1, o2) → va_P D vwCl (wF ty ad q) H → va_D A (wF ty ad q) → va_S A s.heap H locs → lv_has ls 7 [(0, .ref (ad 32)), (1, .int x1), (2, .int x2), (3, .int x3), (4, .int x4), (5, .int x5)] → W p l e ({ frames := 2, cells := 0, slots := 0, locals := 47 } : Room) s m args below meth c H locs 0 0 (MQ below (va_Qi (fun (r : Int32) (u : va_W) => o1 = r ∧ wF ty ad o2 = u) (kz_B D ty A) A) args s 0 0 A) (F0 m 81 ls [])) (q : dK) (x1 : Int32) (x2 : Int32) (x3 : Int32) (x4 : Int32) (x5 : Int32) (H : Heap) (locs : List Loc) (ls : Array Slot) (h : zX3_nearest_s32_81b k35 k81 q x1 x2 x3 x4 x5 = some (o1, o2)) (hP : va_P D vwCl (wF ty ad q) H) (hD : va_D A (wF ty ad q)) (hS : va_S A s.heap H locs) (hl : lv_has ls 7 [(0, .ref (ad 32)), (1, .int x1), (2, .int x2), (3, .int x3), (4, .int x4), (5, .int x5)]) : W p l e ({ frames := 2, cells := 0, slots := 0, locals := 47 } : Room) s m args below meth c H locs 0 0 (MQ below (va_Qi (fun (r : Int32) (u : va_W) => o1 = r ∧ wF ty ad o2 = u) (kz_B D ty A) A) args s 0 0 A) (F0 m 81 ls []) := by
  have C0 := C
  obtain ⟨hx, hb, hr, hts, hown, hlocks, hml, hK, hN, hE, hA⟩ := C
  unfold zX3_nearest_s32_81b at h
  refine lv_iload hx hb dX3_nearest_81 (lv_at hl 5 rfl) ?_
  refine lv_aload_n hx hb dX3_nearest_83 rfl (lv_at hl 0 rfl) ?_
  refine va_get (D := D) (ci := 3) (v := .int (q.1 32 13)) (C := RX3) (T := TX3) (N := 20) hx hb hts u9_wsX3_nearest_X3 hown hK hP 32 rfl rfl 13 (by decide) (hts (.fieldLink RX3 51 "TurnedFloors$Paper" "floors" "I") f9_wsX3_nearest_860) (fun _ h9 => h9) rfl dX3_nearest_84 ?_
  refine lv_icmp_gt (tgt := 181) hx hb dX3_nearest_87 (by decide) (fun c9 => ?_) (fun c9 => ?_)
  · rw [if_pos c9] at h
    refine lv_iinc (v := x3 + 1) (lv' := [(3, .int (x3 + 1)), (0, .ref (ad 32)), (1, .int x1), (2, .int x2), (4, .int x4), (5, .int x5)]) hx hb dX3_nearest_181 hl (k := 3) rfl rfl (by decide) rfl (fun ls hl => ?_)
    refine lv_goto (tgt := 35) hx hb dX3_nearest_184 (by decide) ?_
    exact hk35 _ _ _ _ _ _ _ h hP hD hS (lv_sub hl [1, 2, 3, 0] rfl)
  · rw [if_neg c9] at h
    refine lv_aload_n hx hb dX3_nearest_90 rfl (lv_at hl 0 rfl) ?_
    refine lv_iload hx hb dX3_nearest_91 (lv_at hl 4 rfl) ?_
    refine lv_iload hx hb dX3_nearest_93 (lv_at hl 5 rfl) ?_
    obtain ⟨r1, q3, h2, h⟩ := dB_some h
    refine dw_ki (va_runV (As := [.int x4, .int x5]) (rest := []) ⟨hx, hb, hml, hown, hts⟩ (qX3_turned_s32 l D ty eo _ ad q x4 x5 r1 q3 h2) (cwV 2 hts gX3_nearest_X3_turned rfl rfl rfl hd_X3_turned_v ⟨Nat.le_of_ble_eq_true rfl, Nat.le_of_ble_eq_true rfl⟩) (pvF_3_32 hK hN hE hP hD hS hA) rfl rfl hl.1 rfl (lv_room (Nat.le_of_ble_eq_true rfl)) dX3_nearest_95 ⟨Nat.le_of_ble_eq_true rfl, Nat.le_of_ble_eq_true rfl⟩) hD hS hA (fun r9 u9 H locs hw hp hd hs => ?_)
    clear hP hD hS
    obtain ⟨rfl, rfl⟩ := hw
    have hP := hp; have hD := hd; have hS := hs; clear hp hd hs
    refine lv_istore (lv' := [(6, .int r1), (0, .ref (ad 32)), (1, .int x1), (2, .int x2), (3, .int x3), (4, .int x4), (5, .int x5)]) hx hb dX3_nearest_98 hl (by decide) rfl (fun ls hl => ?_)
    refine lv_aload_n hx hb dX3_nearest_100 rfl (lv_at hl 1 rfl) ?_
    refine va_get (D := D) (ci := 3) (v := .ref (ad 43)) (C := RX3) (T := TX3) (N := 20) hx hb hts u9_wsX3_nearest_X3 hown hK hP 32 rfl rfl 10 (by decide) (hts (.fieldLink RX3 42 "TurnedFloors$Paper" "marks" "[I") f9_wsX3_nearest_861) (fun _ h9 => h9) rfl dX3_nearest_101 ?_
    refine lv_iload hx hb dX3_nearest_104 (lv_at hl 0 rfl) ?_
    obtain ⟨g4, h⟩ := dG_some h
    refine va_iald hx hb hK hP 43 0 rfl rfl (dg_in g4) dX3_nearest_106 ?_
    obtain ⟨v5, ev5, h⟩ := dL_some h
    refine kz_topi v5 ev5 ?_
    refine lv_iconst (v := (-1)) hx hb dX3_nearest_107 (by decide) ?_
    refine lv_icmp_ne (tgt := 175) hx hb dX3_nearest_108 (by decide) (fun c9 => ?_) (fun c9 => ?_)
    · rw [if_neg c9] at h
      exact WX3_nearest_s32_175 C0 hk35 hk81 _ _ _ _ _ _ _ _ _ h hP hD hS (lv_sub hl [1, 2, 3, 4, 5, 6] rfl)
    · rw [if_pos c9] at h
      refine lv_aload_n hx hb dX3_nearest_111 rfl (lv_at hl 1 rfl) ?_
      refine va_get (D := D) (ci := 3) (v := .ref (ad 35)) (C := RX3) (T := TX3) (N := 20) hx hb hts u9_wsX3_nearest_X3 hown hK hP 32 rfl rfl 2 (by decide) (hts (.fieldLink RX3 18 "TurnedFloors$Paper" "barred" "[I") f9_wsX3_nearest_862) (fun _ h9 => h9) rfl dX3_nearest_112 ?_
      refine lv_aload_n hx hb dX3_nearest_115 rfl (lv_at hl 1 rfl) ?_
      refine lv_iload hx hb dX3_nearest_116 (lv_at hl 5 rfl) ?_
      refine lv_iload hx hb dX3_nearest_118 (lv_at hl 6 rfl) ?_
      obtain ⟨r6, q8, h7, h⟩ := dB_some h
      refine dw_ki (va_runV (As := [.int x4, .int x5]) (rest := [.ref (ad 35)]) ⟨hx, hb, hml, hown, hts⟩ (qX3_caseOf_s32 l D ty eo _ ad q3 x4 x5 r6 q8 h7) (cwV 2 hts gX3_nearest_X3_caseOf rfl rfl rfl hd_X3_caseOf_v ⟨Nat.le_of_ble_eq_true rfl, Nat.le_of_ble_eq_true rfl⟩) (pvF_3_32 hK hN hE hP hD hS hA) rfl rfl hl.1 rfl (lv_room (Nat.le_of_ble_eq_true rfl)) dX3_nearest_120 ⟨Nat.le_of_ble_eq_true rfl, Nat.le_of_ble_eq_true rfl⟩) hD hS hA (fun r9 u9 H locs hw hp hd hs => ?_)
      clear hP hD hS
      obtain ⟨rfl, rfl⟩ := hw
      have hP := hp; have hD := hd; have hS := hs; clear hp hd hs
      obtain ⟨g9, h⟩ := dG_some h
      refine va_iald hx hb hK hP 35 0 rfl rfl (dg_in g9) dX3_nearest_123 ?_
      obtain ⟨v10, ev10, h⟩ := dL_some h
      refine kz_topi v10 ev10 ?_
      refine lv_if_ne (tgt := 175) hx hb dX3_nearest_124 (by decide) (fun c9 => ?_) (fun c9 => ?_)
      · rw [if_neg c9] at h
        exact WX3_nearest_s32_175 C0 hk35 hk81 _ _ _ _ _ _ _ _ _ h hP hD hS (lv_sub hl [1, 2, 3, 4, 5, 6] rfl)
      · rw [if_pos c9] at h
        refine lv_aload_n hx hb dX3_nearest_127 rfl (lv_at hl 1 rfl) ?_
        refine va_get (D := D) (ci := 3) (v := .int (q8.1 32 19)) (C := RX3) (T := TX3) (N := 20) hx hb hts u9_wsX3_nearest_X3 hown hK hP 32 rfl rfl 19 (by decide) (hts (.fieldLink RX3 70 "TurnedFloors$Paper" "visited" "I") f9_wsX3_nearest_863) (fun _ h9 => h9) rfl dX3_nearest_128 ?_
        refine lv_aload_n hx hb dX3_nearest_131 rfl (lv_at hl 1 rfl) ?_
        refine va_get (D := D) (ci := 3) (v := .int (q8.1 32 14)) (C := RX3) (T := TX3) (N := 20) hx hb hts u9_wsX3_nearest_X3 hown hK hP 32 rfl rfl 14 (by decide) (hts (.fieldLink RX3 55 "TurnedFloors$Paper" "size" "I") f9_wsX3_nearest_864) (fun _ h9 => h9) rfl dX3_nearest_132 ?_
        refine lv_icmp_ge (tgt := 175) hx hb dX3_nearest_135 (by decide) (fun c9 => ?_) (fun c9 => ?_)
        · rw [if_pos c9] at h
          exact WX3_nearest_s32_175 C0 hk35 hk81 _ _ _ _ _ _ _ _ _ h hP hD hS (lv_sub hl [1, 2, 3, 4, 5, 6] rfl)
        · rw [if_neg c9] at h
          refine lv_aload_n hx hb dX3_nearest_138 rfl (lv_at hl 1 rfl) ?_
          refine va_get (D := D) (ci := 3) (v := .ref (ad 43)) (C := RX3) (T := TX3) (N := 20) hx hb hts u9_wsX3_nearest_X3 hown hK hP 32 rfl rfl 10 (by decide) (hts (.fieldLink RX3 42 "TurnedFloors$Paper" "marks" "[I") f9_wsX3_nearest_861) (fun _ h9 => h9) rfl dX3_nearest_139 ?_
          refine lv_iload hx hb dX3_nearest_142 (lv_at hl 0 rfl) ?_
          refine lv_aload_n hx hb dX3_nearest_144 rfl (lv_at hl 1 rfl) ?_
          refine va_get (D := D) (ci := 3) (v := .ref (ad 43)) (C := RX3) (T := TX3) (N := 20) hx hb hts u9_wsX3_nearest_X3 hown hK hP 32 rfl rfl 10 (by decide) (hts (.fieldLink RX3 42 "TurnedFloors$Paper" "marks" "[I") f9_wsX3_nearest_861) (fun _ h9 => h9) rfl dX3_nearest_145 ?_
          refine lv_iload hx hb dX3_nearest_148 (lv_at hl 5 rfl) ?_
          obtain ⟨g11, h⟩ := dG_some h
          refine va_iald hx hb hK hP 43 0 rfl rfl (dg_in g11) dX3_nearest_150 ?_
          obtain ⟨v12, ev12, h⟩ := dL_some h
          refine kz_topi v12 ev12 ?_
          refine lv_iconst (v := 1) hx hb dX3_nearest_151 (by decide) ?_
          refine lv_iadd hx hb dX3_nearest_152 ?_
          obtain ⟨g13, h⟩ := dG_some h
          refine va_iast hx hb hK hP hD hS 43 0 rfl rfl (dg_in g13) dX3_nearest_153 (fun H locs hp hd hs => ?_)
          obtain ⟨q14, eq14, h⟩ := dL_some h
          refine kz_re (w2 := wF ty ad q14) hp hd hs (by rw [← eq14]; exact wF_a43 ty ad q8 (Int32.toNatClampNeg r1) (v12 + 1 : Int32)) ?_
          clear hp hd hs hP hD hS
          intro hP hD hS
          refine lv_aload_n hx hb dX3_nearest_154 rfl (lv_at hl 1 rfl) ?_
          refine va_get (D := D) (ci := 3) (v := .ref (ad 44)) (C := RX3) (T := TX3) (N := 20) hx hb hts u9_wsX3_nearest_X3 hown hK hP 32 rfl rfl 11 (by decide) (hts (.fieldLink RX3 45 "TurnedFloors$Paper" "line" "[I") f9_wsX3_nearest_865) (fun _ h9 => h9) rfl dX3_nearest_155 ?_
          refine lv_aload_n hx hb dX3_nearest_158 rfl (lv_at hl 1 rfl) ?_
          refine va_get (D := D) (ci := 3) (v := .int (q14.1 32 19)) (C := RX3) (T := TX3) (N := 20) hx hb hts u9_wsX3_nearest_X3 hown hK hP 32 rfl rfl 19 (by decide) (hts (.fieldLink RX3 70 "TurnedFloors$Paper" "visited" "I") f9_wsX3_nearest_863) (fun _ h9 => h9) rfl dX3_nearest_159 ?_
          refine lv_iload hx hb dX3_nearest_162 (lv_at hl 0 rfl) ?_
          obtain ⟨g15, h⟩ := dG_some h
          refine va_iast hx hb hK hP hD hS 44 0 rfl rfl (dg_in g15) dX3_nearest_164 (fun H locs hp hd hs => ?_)
          obtain ⟨q16, eq16, h⟩ := dL_some h
          refine kz_re (w2 := wF ty ad q16) hp hd hs (by rw [← eq16]; exact wF_a44 ty ad q14 (Int32.toNatClampNeg (q14.1 32 19)) r1) ?_
          clear hp hd hs hP hD hS
          intro hP hD hS
          refine lv_aload_n hx hb dX3_nearest_165 rfl (lv_at hl 1 rfl) ?_
          refine lv_dup hx hb dX3_nearest_166 rfl ?_
          refine va_get (D := D) (ci := 3) (v := .int (q16.1 32 19)) (C := RX3) (T := TX3) (N := 20) hx hb hts u9_wsX3_nearest_X3 hown hK hP 32 rfl rfl 19 (by decide) (hts (.fieldLink RX3 70 "TurnedFloors$Paper" "visited" "I") f9_wsX3_nearest_863) (fun _ h9 => h9) rfl dX3_nearest_167 ?_
          refine lv_iconst (v := 1) hx hb dX3_nearest_170 (by decide) ?_
          refine lv_iadd hx hb dX3_nearest_171 ?_
          refine va_put (D := D) (ci := 3) (v := .int ((q16.1 32 19) + 1 : Int32)) (ty := .int) (C := RX3) (T := TX3) (N := 20) hx hb hts u9_wsX3_nearest_X3 tyX3 tyX3_ok nmX3 hown hK hP hD hS 32 rfl rfl 19 (by decide) (hts (.fieldLink RX3 70 "TurnedFloors$Paper" "visited" "I") f9_wsX3_nearest_863) (fun _ h9 => h9) rfl (by decide +kernel) rfl rfl (Nat.le_of_ble_eq_true rfl) dX3_nearest_172 (fun H locs hp hd hs => ?_)
          obtain ⟨q17, eq17, h⟩ := dL_some h
          refine kz_re (w2 := wF ty ad q17) hp hd hs (by rw [← eq17]; exact wF_f32_19 ty ad q16 ((q16.1 32 19) + 1 : Int32)) ?_
          clear hp hd hs hP hD hS
          intro hP hD hS
          exact WX3_nearest_s32_175 C0 hk35 hk81 _ _ _ _ _ _ _ _ _ h hP hD hS (lv_sub hl [1, 2, 3, 4, 5, 6] rfl)
set_option maxHeartbeats 4000000 in
set_option maxRecDepth 100000 in
theorem WX3_nearest_s32_81 {p : Program} {l : Launch} {e : Env} {s : State} {m : MethodId} {args : Array Value} {below : List Frame} {meth : Method} {c : Code} {D : va_G} {ty : Nat → ClassId} {eo : Nat → Nat} {A : Nat → Prop} {ad : Nat → Nat} {o1 : Int32} {o2 : dK} (C : dc_C p s m args meth c cX3_nearest (some .int) 7 RX3 wsX3_nearest D ty eo A) {k35 : dK → Int32 → Int32 → Int32 → Option (Int32 × dK)} (hk35 : ∀ (q : dK) (x1 : Int32) (x2 : Int32) (x3 : Int32) (H : Heap) (locs : List Loc) (ls : Array Slot), k35 q x1 x2 x3 = some (o1, o2) → va_P D vwCl (wF ty ad q) H → va_D A (wF ty ad q) → va_S A s.heap H locs → lv_has ls 7 [(0, .ref (ad 32)), (1, .int x1), (2, .int x2), (3, .int x3)] → W p l e ({ frames := 2, cells := 0, slots := 0, locals := 47 } : Room) s m args below meth c H locs 0 0 (MQ below (va_Qi (fun (r : Int32) (u : va_W) => o1 = r ∧ wF ty ad o2 = u) (kz_B D ty A) A) args s 0 0 A) (F0 m 35 ls [])) (n : Nat) (q : dK) (x1 : Int32) (x2 : Int32) (x3 : Int32) (x4 : Int32) (x5 : Int32) (H : Heap) (locs : List Loc) (ls : Array Slot) (h : zX3_nearest_s32_81 k35 n q x1 x2 x3 x4 x5 = some (o1, o2)) (hP : va_P D vwCl (wF ty ad q) H) (hD : va_D A (wF ty ad q)) (hS : va_S A s.heap H locs) (hl : lv_has ls 7 [(0, .ref (ad 32)), (1, .int x1), (2, .int x2), (3, .int x3), (4, .int x4), (5, .int x5)]) : W p l e ({ frames := 2, cells := 0, slots := 0, locals := 47 } : Room) s m args below meth c H locs 0 0 (MQ below (va_Qi (fun (r : Int32) (u : va_W) => o1 = r ∧ wF ty ad o2 = u) (kz_B D ty A) A) args s 0 0 A) (F0 m 81 ls []) := by
  exact dFix_W (F := fun k (a : dK × Int32 × Int32 × Int32 × Int32 × Int32) => zX3_nearest_s32_81b k35 (fun q x1 x2 x3 x4 x5 => k (q, x1, x2, x3, x4, x5)) a.1 a.2.1 a.2.2.1 a.2.2.2.1 a.2.2.2.2.1 a.2.2.2.2.2) (o := (o1, o2)) (P := fun (a : dK × Int32 × Int32 × Int32 × Int32 × Int32) H locs ls => va_P D vwCl (wF ty ad a.1) H ∧ va_D A (wF ty ad a.1) ∧ va_S A s.heap H locs ∧ lv_has ls 7 [(0, .ref (ad 32)), (1, .int a.2.1), (2, .int a.2.2.1), (3, .int a.2.2.2.1), (4, .int a.2.2.2.2.1), (5, .int a.2.2.2.2.2)]) (G := fun H locs ls => W p l e ({ frames := 2, cells := 0, slots := 0, locals := 47 } : Room) s m args below meth c H locs 0 0 (MQ below (va_Qi (fun (r : Int32) (u : va_W) => o1 = r ∧ wF ty ad o2 = u) (kz_B D ty A) A) args s 0 0 A) (F0 m 81 ls []))
    (fun k hk a H locs ls h hp => WX3_nearest_s32_81b C hk35 (fun q x1 x2 x3 x4 x5 H locs ls h h1 h2 h3 h4 => hk (q, x1, x2, x3, x4, x5) H locs ls h ⟨h1, h2, h3, h4⟩) a.1 a.2.1 a.2.2.1 a.2.2.2.1 a.2.2.2.2.1 a.2.2.2.2.2 H locs ls h hp.1 hp.2.1 hp.2.2.1 hp.2.2.2) n (q, x1, x2, x3, x4, x5) H locs ls h ⟨hP, hD, hS, hl⟩
set_option maxHeartbeats 4000000 in
set_option maxRecDepth 100000 in
theorem WX3_nearest_s32_35b {p : Program} {l : Launch} {e : Env} {s : State} {m : MethodId} {args : Array Value} {below : List Frame} {meth : Method} {c : Code} {D : va_G} {ty : Nat → ClassId} {eo : Nat → Nat} {A : Nat → Prop} {ad : Nat → Nat} {o1 : Int32} {o2 : dK} (C : dc_C p s m args meth c cX3_nearest (some .int) 7 RX3 wsX3_nearest D ty eo A) {k35 : dK → Int32 → Int32 → Int32 → Option (Int32 × dK)} (hk35 : ∀ (q : dK) (x1 : Int32) (x2 : Int32) (x3 : Int32) (H : Heap) (locs : List Loc) (ls : Array Slot), k35 q x1 x2 x3 = some (o1, o2) → va_P D vwCl (wF ty ad q) H → va_D A (wF ty ad q) → va_S A s.heap H locs → lv_has ls 7 [(0, .ref (ad 32)), (1, .int x1), (2, .int x2), (3, .int x3)] → W p l e ({ frames := 2, cells := 0, slots := 0, locals := 47 } : Room) s m args below meth c H locs 0 0 (MQ below (va_Qi (fun (r : Int32) (u : va_W) => o1 = r ∧ wF ty ad o2 = u) (kz_B D ty A) A) args s 0 0 A) (F0 m 35 ls [])) (q : dK) (x1 : Int32) (x2 : Int32) (x3 : Int32) (H : Heap) (locs : List Loc) (ls : Array Slot) (h : zX3_nearest_s32_35b k35 q x1 x2 x3 = some (o1, o2)) (hP : va_P D vwCl (wF ty ad q) H) (hD : va_D A (wF ty ad q)) (hS : va_S A s.heap H locs) (hl : lv_has ls 7 [(0, .ref (ad 32)), (1, .int x1), (2, .int x2), (3, .int x3)]) : W p l e ({ frames := 2, cells := 0, slots := 0, locals := 47 } : Room) s m args below meth c H locs 0 0 (MQ below (va_Qi (fun (r : Int32) (u : va_W) => o1 = r ∧ wF ty ad o2 = u) (kz_B D ty A) A) args s 0 0 A) (F0 m 35 ls []) := by
  have C0 := C
  obtain ⟨hx, hb, hr, hts, hown, hlocks, hml, hK, hN, hE, hA⟩ := C
  unfold zX3_nearest_s32_35b at h
  refine lv_iload_n hx hb dX3_nearest_35 rfl (lv_at hl 3 rfl) ?_
  refine lv_aload_n hx hb dX3_nearest_36 rfl (lv_at hl 0 rfl) ?_
  refine va_get (D := D) (ci := 3) (v := .int (q.1 32 14)) (C := RX3) (T := TX3) (N := 20) hx hb hts u9_wsX3_nearest_X3 hown hK hP 32 rfl rfl 14 (by decide) (hts (.fieldLink RX3 55 "TurnedFloors$Paper" "size" "I") f9_wsX3_nearest_864) (fun _ h9 => h9) rfl dX3_nearest_37 ?_
  refine lv_icmp_ge (tgt := 187) hx hb dX3_nearest_40 (by decide) (fun c9 => ?_) (fun c9 => ?_)
  · rw [if_pos c9] at h
    exact WX3_nearest_s32_187 C0  _ _ _ _ h hP hD hS (lv_sub hl [] rfl)
  · rw [if_neg c9] at h
    refine lv_iload_n hx hb dX3_nearest_43 rfl (lv_at hl 3 rfl) ?_
    refine lv_aload_n hx hb dX3_nearest_44 rfl (lv_at hl 0 rfl) ?_
    refine va_get (D := D) (ci := 3) (v := .int (q.1 32 19)) (C := RX3) (T := TX3) (N := 20) hx hb hts u9_wsX3_nearest_X3 hown hK hP 32 rfl rfl 19 (by decide) (hts (.fieldLink RX3 70 "TurnedFloors$Paper" "visited" "I") f9_wsX3_nearest_863) (fun _ h9 => h9) rfl dX3_nearest_45 ?_
    refine lv_icmp_ge (tgt := 187) hx hb dX3_nearest_48 (by decide) (fun c9 => ?_) (fun c9 => ?_)
    · rw [if_pos c9] at h
      exact WX3_nearest_s32_187 C0  _ _ _ _ h hP hD hS (lv_sub hl [] rfl)
    · rw [if_neg c9] at h
      refine lv_aload_n hx hb dX3_nearest_51 rfl (lv_at hl 0 rfl) ?_
      refine va_get (D := D) (ci := 3) (v := .ref (ad 44)) (C := RX3) (T := TX3) (N := 20) hx hb hts u9_wsX3_nearest_X3 hown hK hP 32 rfl rfl 11 (by decide) (hts (.fieldLink RX3 45 "TurnedFloors$Paper" "line" "[I") f9_wsX3_nearest_865) (fun _ h9 => h9) rfl dX3_nearest_52 ?_
      refine lv_iload_n hx hb dX3_nearest_55 rfl (lv_at hl 3 rfl) ?_
      obtain ⟨g1, h⟩ := dG_some h
      refine va_iald hx hb hK hP 44 0 rfl rfl (dg_in g1) dX3_nearest_56 ?_
      obtain ⟨v2, ev2, h⟩ := dL_some h
      refine kz_topi v2 ev2 ?_
      refine lv_istore (lv' := [(4, .int v2), (0, .ref (ad 32)), (1, .int x1), (2, .int x2), (3, .int x3)]) hx hb dX3_nearest_57 hl (by decide) rfl (fun ls hl => ?_)
      refine lv_aload_n hx hb dX3_nearest_59 rfl (lv_at hl 1 rfl) ?_
      refine lv_iload hx hb dX3_nearest_60 (lv_at hl 0 rfl) ?_
      refine lv_iload_n hx hb dX3_nearest_62 rfl (lv_at hl 2 rfl) ?_
      refine lv_iload_n hx hb dX3_nearest_63 rfl (lv_at hl 3 rfl) ?_
      obtain ⟨r3, q5, h4, h⟩ := dB_some h
      refine dw_ki (va_runV (As := [.int v2, .int x1, .int x2]) (rest := []) ⟨hx, hb, hml, hown, hts⟩ (qX3_fits_s32 l D ty eo _ ad q v2 x1 x2 r3 q5 h4) (cwV 3 hts gX3_nearest_X3_fits rfl rfl rfl hd_X3_fits_v ⟨Nat.le_of_ble_eq_true rfl, Nat.le_of_ble_eq_true rfl⟩) (pvF_3_32 hK hN hE hP hD hS hA) rfl rfl hl.1 rfl (lv_room (Nat.le_of_ble_eq_true rfl)) dX3_nearest_64 ⟨Nat.le_of_ble_eq_true rfl, Nat.le_of_ble_eq_true rfl⟩) hD hS hA (fun r9 u9 H locs hw hp hd hs => ?_)
      clear hP hD hS
      obtain ⟨rfl, rfl⟩ := hw
      have hP := hp; have hD := hd; have hS := hs; clear hp hd hs
      refine lv_if_eq (tgt := 78) hx hb dX3_nearest_67 (by decide) (fun c9 => ?_) (fun c9 => ?_)
      · rw [if_pos c9] at h
        refine lv_iconst (v := 1) hx hb dX3_nearest_78 (by decide) ?_
        refine lv_istore (lv' := [(5, .int 1), (4, .int v2), (0, .ref (ad 32)), (1, .int x1), (2, .int x2), (3, .int x3)]) hx hb dX3_nearest_79 hl (by decide) rfl (fun ls hl => ?_)
        exact WX3_nearest_s32_81 C0 hk35 _ _ _ _ _ _ _ _ _ _ h hP hD hS (lv_sub hl [2, 3, 4, 5, 1, 0] rfl)
      · rw [if_neg c9] at h
        refine lv_aload_n hx hb dX3_nearest_70 rfl (lv_at hl 1 rfl) ?_
        refine va_get (D := D) (ci := 3) (v := .ref (ad 43)) (C := RX3) (T := TX3) (N := 20) hx hb hts u9_wsX3_nearest_X3 hown hK hP 32 rfl rfl 10 (by decide) (hts (.fieldLink RX3 42 "TurnedFloors$Paper" "marks" "[I") f9_wsX3_nearest_861) (fun _ h9 => h9) rfl dX3_nearest_71 ?_
        refine lv_iload hx hb dX3_nearest_74 (lv_at hl 0 rfl) ?_
        obtain ⟨g6, h⟩ := dG_some h
        refine va_iald hx hb hK hP 43 0 rfl rfl (dg_in g6) dX3_nearest_76 ?_
        obtain ⟨v7, ev7, h⟩ := dL_some h
        refine kz_topi v7 ev7 ?_
        cases h
        exact kz_iret hx hb hr hlocks hP hK hD hS dX3_nearest_77 ⟨rfl, rfl⟩
set_option maxHeartbeats 4000000 in
set_option maxRecDepth 100000 in
theorem WX3_nearest_s32_35 {p : Program} {l : Launch} {e : Env} {s : State} {m : MethodId} {args : Array Value} {below : List Frame} {meth : Method} {c : Code} {D : va_G} {ty : Nat → ClassId} {eo : Nat → Nat} {A : Nat → Prop} {ad : Nat → Nat} {o1 : Int32} {o2 : dK} (C : dc_C p s m args meth c cX3_nearest (some .int) 7 RX3 wsX3_nearest D ty eo A)   (n : Nat) (q : dK) (x1 : Int32) (x2 : Int32) (x3 : Int32) (H : Heap) (locs : List Loc) (ls : Array Slot) (h : zX3_nearest_s32_35  n q x1 x2 x3 = some (o1, o2)) (hP : va_P D vwCl (wF ty ad q) H) (hD : va_D A (wF ty ad q)) (hS : va_S A s.heap H locs) (hl : lv_has ls 7 [(0, .ref (ad 32)), (1, .int x1), (2, .int x2), (3, .int x3)]) : W p l e ({ frames := 2, cells := 0, slots := 0, locals := 47 } : Room) s m args below meth c H locs 0 0 (MQ below (va_Qi (fun (r : Int32) (u : va_W) => o1 = r ∧ wF ty ad o2 = u) (kz_B D ty A) A) args s 0 0 A) (F0 m 35 ls []) := by
  exact dFix_W (F := fun k (a : dK × Int32 × Int32 × Int32) => zX3_nearest_s32_35b  (fun q x1 x2 x3 => k (q, x1, x2, x3)) a.1 a.2.1 a.2.2.1 a.2.2.2) (o := (o1, o2)) (P := fun (a : dK × Int32 × Int32 × Int32) H locs ls => va_P D vwCl (wF ty ad a.1) H ∧ va_D A (wF ty ad a.1) ∧ va_S A s.heap H locs ∧ lv_has ls 7 [(0, .ref (ad 32)), (1, .int a.2.1), (2, .int a.2.2.1), (3, .int a.2.2.2)]) (G := fun H locs ls => W p l e ({ frames := 2, cells := 0, slots := 0, locals := 47 } : Room) s m args below meth c H locs 0 0 (MQ below (va_Qi (fun (r : Int32) (u : va_W) => o1 = r ∧ wF ty ad o2 = u) (kz_B D ty A) A) args s 0 0 A) (F0 m 35 ls []))
    (fun k hk a H locs ls h hp => WX3_nearest_s32_35b C  (fun q x1 x2 x3 H locs ls h h1 h2 h3 h4 => hk (q, x1, x2, x3) H locs ls h ⟨h1, h2, h3, h4⟩) a.1 a.2.1 a.2.2.1 a.2.2.2 H locs ls h hp.1 hp.2.1 hp.2.2.1 hp.2.2.2) n (q, x1, x2, x3) H locs ls h ⟨hP, hD, hS, hl⟩
set_option maxHeartbeats 4000000 in
set_option maxRecDepth 100000 in
theorem qX3_nearest_s32 (l : Launch) (D : va_G) (ty : Nat → ClassId) (eo : Nat → Nat) (sz : Nat) (ad : Nat → Nat) (q : dK) (p1 : Int32) (p2 : Int32) (o1 : Int32) (o2 : dK) (h : zX3_nearest_s32 q p1 p2 = some (o1, o2)) : Met l yX3_nearest wsX3_nearest ({ frames := 2, cells := 0, slots := 0, locals := 47 } : Room) (va_Pc [.ref (ad 32), .int p1, .int p2] (kz_pre D ty eo (wF ty ad q) sz)) (va_Qi (fun (r : Int32) (u : va_W) => o1 = r ∧ wF ty ad o2 = u) (kz_B D ty (va_A (wF ty ad q) sz)) (va_A (wF ty ad q) sz)) 0 0 (va_A (wF ty ad q) sz) := by
  refine Met.ofW (cc := cX3_nearest) (maxL := 7) (ret := (some .int)) (by decide) rfl ?_
  intro p e s m args below meth c s₁ B hml hv
  obtain ⟨rfl, hsz, hP, hK, hD0, hN, hE⟩ := hv
  have hx := B.exec
  have hb := B.bytes
  have hr := B.returns
  have hts := atoms_spec (ws := wsX3_nearest) B.pre
  have hown : s.vm.findClass RX3 = some m.cls := findClass_of_methodNamed B.named
  have hlocks := B.notSynchronized
  subst hsz
  have hD := hD0.self (sz := s.heap.size)
  generalize hAe : va_A (wF ty ad q) s.heap.size = A at hD hE ⊢
  have hA : ∀ q : Nat, s.heap.size ≤ q → A q := fun q h => by rw [← hAe]; exact Or.inr h
  clear hAe
  have hS : va_S A s.heap s.heap [] := va_S.rf
  have hl := lv_entry ([.ref (ad 32), .int p1, .int p2]) (n := 7) (Nat.le_of_ble_eq_true rfl)
  rw [lg_entry_eq]
  generalize (lg_sl ([.ref (ad 32), .int p1, .int p2]) ++ List.replicate (7 - (lg_sl ([.ref (ad 32), .int p1, .int p2])).length) Slot.unset).toArray = ls at hl ⊢
  have hl : lv_has ls 7 [(0, .ref (ad 32)), (1, .int p1), (2, .int p2)] := hl
  have C : dc_C p s m _ meth c cX3_nearest (some .int) 7 RX3 wsX3_nearest D ty eo A := ⟨hx, hb, hr, hts, hown, hlocks, hml, hK, hN, hE, hA⟩
  unfold zX3_nearest_s32 at h
  refine lv_aload_n hx hb dX3_nearest_0 rfl (lv_at hl 0 rfl) ?_
  refine va_get (D := D) (ci := 3) (v := .ref (ad 43)) (C := RX3) (T := TX3) (N := 20) hx hb hts u9_wsX3_nearest_X3 hown hK hP 32 rfl rfl 10 (by decide) (hts (.fieldLink RX3 42 "TurnedFloors$Paper" "marks" "[I") f9_wsX3_nearest_861) (fun _ h9 => h9) rfl dX3_nearest_1 ?_
  refine lv_iconst (v := (-1)) hx hb dX3_nearest_4 (by decide) ?_
  refine dw_kv1 (j := 43) rfl (va_runS (As := [.ref (ad 43), .int (-1)]) (rest := []) ⟨hx, hb, hml, hown, hts⟩ (cJ7_fillI l D ty eo _ (ad 43) (Int32.toNatClampNeg (q.1 32 104)) _ (-1) (cl_lt _)) (va_cwS 2 hts gX3_nearest_J7_fill_53178 rfl rfl rfl hd_J7_fill_53178 ⟨Nat.le_of_ble_eq_true rfl, Nat.le_of_ble_eq_true rfl⟩) (kz_preS hK hN hE hP hD hS hA [43] (by decide) rfl) rfl rfl hl.1 rfl (lv_room (Nat.le_of_ble_eq_true rfl)) dX3_nearest_5 ⟨Nat.le_of_ble_eq_true rfl, Nat.le_of_ble_eq_true rfl⟩) hP hD hS hA (fun u9 h9 => h9.symm) (fun H locs hp hd hs => ?_)
  obtain ⟨q1, eq1, h⟩ := dL_some h
  refine kz_re (w2 := wF ty ad q1) hp hd hs (by rw [← eq1]; exact rfl) ?_
  clear hp hd hs hP hD hS
  intro hP hD hS
  refine lv_aload_n hx hb dX3_nearest_8 rfl (lv_at hl 0 rfl) ?_
  refine va_get (D := D) (ci := 3) (v := .ref (ad 43)) (C := RX3) (T := TX3) (N := 20) hx hb hts u9_wsX3_nearest_X3 hown hK hP 32 rfl rfl 10 (by decide) (hts (.fieldLink RX3 42 "TurnedFloors$Paper" "marks" "[I") f9_wsX3_nearest_861) (fun _ h9 => h9) rfl dX3_nearest_9 ?_
  refine lv_aload_n hx hb dX3_nearest_12 rfl (lv_at hl 0 rfl) ?_
  refine va_get (D := D) (ci := 3) (v := .int (q1.1 32 15)) (C := RX3) (T := TX3) (N := 20) hx hb hts u9_wsX3_nearest_X3 hown hK hP 32 rfl rfl 15 (by decide) (hts (.fieldLink RX3 58 "TurnedFloors$Paper" "start" "I") f9_wsX3_nearest_866) (fun _ h9 => h9) rfl dX3_nearest_13 ?_
  refine lv_iconst (v := 0) hx hb dX3_nearest_16 (by decide) ?_
  obtain ⟨g2, h⟩ := dG_some h
  refine va_iast hx hb hK hP hD hS 43 0 rfl rfl (dg_in g2) dX3_nearest_17 (fun H locs hp hd hs => ?_)
  obtain ⟨q3, eq3, h⟩ := dL_some h
  refine kz_re (w2 := wF ty ad q3) hp hd hs (by rw [← eq3]; exact wF_a43 ty ad q1 (Int32.toNatClampNeg (q1.1 32 15)) 0) ?_
  clear hp hd hs hP hD hS
  intro hP hD hS
  refine lv_aload_n hx hb dX3_nearest_18 rfl (lv_at hl 0 rfl) ?_
  refine va_get (D := D) (ci := 3) (v := .ref (ad 44)) (C := RX3) (T := TX3) (N := 20) hx hb hts u9_wsX3_nearest_X3 hown hK hP 32 rfl rfl 11 (by decide) (hts (.fieldLink RX3 45 "TurnedFloors$Paper" "line" "[I") f9_wsX3_nearest_865) (fun _ h9 => h9) rfl dX3_nearest_19 ?_
  refine lv_iconst (v := 0) hx hb dX3_nearest_22 (by decide) ?_
  refine lv_aload_n hx hb dX3_nearest_23 rfl (lv_at hl 0 rfl) ?_
  refine va_get (D := D) (ci := 3) (v := .int (q3.1 32 15)) (C := RX3) (T := TX3) (N := 20) hx hb hts u9_wsX3_nearest_X3 hown hK hP 32 rfl rfl 15 (by decide) (hts (.fieldLink RX3 58 "TurnedFloors$Paper" "start" "I") f9_wsX3_nearest_866) (fun _ h9 => h9) rfl dX3_nearest_24 ?_
  obtain ⟨g4, h⟩ := dG_some h
  refine va_iast hx hb hK hP hD hS 44 0 rfl rfl (dg_in g4) dX3_nearest_27 (fun H locs hp hd hs => ?_)
  obtain ⟨q5, eq5, h⟩ := dL_some h
  refine kz_re (w2 := wF ty ad q5) hp hd hs (by rw [(by decide +kernel : Int32.toNatClampNeg 0 = 0), ← eq5]; exact wF_a44 ty ad q3 0 (q3.1 32 15)) ?_
  clear hp hd hs hP hD hS
  intro hP hD hS
  refine lv_aload_n hx hb dX3_nearest_28 rfl (lv_at hl 0 rfl) ?_
  refine lv_iconst (v := 1) hx hb dX3_nearest_29 (by decide) ?_
  refine va_put (D := D) (ci := 3) (v := .int 1) (ty := .int) (C := RX3) (T := TX3) (N := 20) hx hb hts u9_wsX3_nearest_X3 tyX3 tyX3_ok nmX3 hown hK hP hD hS 32 rfl rfl 19 (by decide) (hts (.fieldLink RX3 70 "TurnedFloors$Paper" "visited" "I") f9_wsX3_nearest_863) (fun _ h9 => h9) rfl (by decide +kernel) rfl rfl (Nat.le_of_ble_eq_true rfl) dX3_nearest_30 (fun H locs hp hd hs => ?_)
  obtain ⟨q6, eq6, h⟩ := dL_some h
  refine kz_re (w2 := wF ty ad q6) hp hd hs (by rw [← eq6]; exact wF_f32_19 ty ad q5 1) ?_
  clear hp hd hs hP hD hS
  intro hP hD hS
  refine lv_iconst (v := 0) hx hb dX3_nearest_33 (by decide) ?_
  refine lv_istore_n (lv' := [(3, .int 0), (0, .ref (ad 32)), (1, .int p1), (2, .int p2)]) hx hb dX3_nearest_34 rfl hl (by decide) rfl (fun ls hl => ?_)
  exact WX3_nearest_s32_35 C  _ _ _ _ _ _ _ _ h hP hD hS (lv_sub hl [1, 2, 3, 0] rfl)

set_option maxHeartbeats 4000000 in
set_option maxRecDepth 100000 in
theorem qX3_towersReached_s32 (l : Launch) (D : va_G) (ty : Nat → ClassId) (eo : Nat → Nat) (sz : Nat) (ad : Nat → Nat) (q : dK)  (o1 : Int32) (o2 : dK) (h : zX3_towersReached_s32 q = some (o1, o2)) : Met l yX3_towersReached wsX3_towersReached ({ frames := 3, cells := 0, slots := 0, locals := 73 } : Room) (va_Pc [.ref (ad 32)] (kz_pre D ty eo (wF ty ad q) sz)) (va_Qi (fun (r : Int32) (u : va_W) => o1 = r ∧ wF ty ad o2 = u) (kz_B D ty (va_A (wF ty ad q) sz)) (va_A (wF ty ad q) sz)) 0 0 (va_A (wF ty ad q) sz) := by
  refine Met.ofW (cc := cX3_towersReached) (maxL := 1) (ret := (some .int)) (by decide) rfl ?_
  intro p e s m args below meth c s₁ B hml hv
  obtain ⟨rfl, hsz, hP, hK, hD0, hN, hE⟩ := hv
  have hx := B.exec
  have hb := B.bytes
  have hr := B.returns
  have hts := atoms_spec (ws := wsX3_towersReached) B.pre
  have hown : s.vm.findClass RX3 = some m.cls := findClass_of_methodNamed B.named
  have hlocks := B.notSynchronized
  subst hsz
  have hD := hD0.self (sz := s.heap.size)
  generalize hAe : va_A (wF ty ad q) s.heap.size = A at hD hE ⊢
  have hA : ∀ q : Nat, s.heap.size ≤ q → A q := fun q h => by rw [← hAe]; exact Or.inr h
  clear hAe
  have hS : va_S A s.heap s.heap [] := va_S.rf
  have hl := lv_entry ([.ref (ad 32)]) (n := 1) (Nat.le_of_ble_eq_true rfl)
  rw [lg_entry_eq]
  generalize (lg_sl ([.ref (ad 32)]) ++ List.replicate (1 - (lg_sl ([.ref (ad 32)])).length) Slot.unset).toArray = ls at hl ⊢
  have hl : lv_has ls 1 [(0, .ref (ad 32))] := hl
  have C : dc_C p s m _ meth c cX3_towersReached (some .int) 1 RX3 wsX3_towersReached D ty eo A := ⟨hx, hb, hr, hts, hown, hlocks, hml, hK, hN, hE, hA⟩
  unfold zX3_towersReached_s32 at h
  refine lv_aload_n hx hb dX3_towersReached_0 rfl (lv_at hl 0 rfl) ?_
  refine lv_iconst (v := 0) hx hb dX3_towersReached_1 (by decide) ?_
  refine lv_iconst (v := 0) hx hb dX3_towersReached_2 (by decide) ?_
  obtain ⟨r1, q3, h2, h⟩ := dB_some h
  refine dw_ki (va_runV (As := [.int 0, .int 0]) (rest := []) ⟨hx, hb, hml, hown, hts⟩ (qX3_nearest_s32 l D ty eo _ ad q 0 0 r1 q3 h2) (cwV 2 hts gX3_towersReached_X3_nearest rfl rfl rfl hd_X3_nearest_v ⟨Nat.le_of_ble_eq_true rfl, Nat.le_of_ble_eq_true rfl⟩) (pvF_3_32 hK hN hE hP hD hS hA) rfl rfl hl.1 rfl (lv_room (Nat.le_of_ble_eq_true rfl)) dX3_towersReached_3 ⟨Nat.le_of_ble_eq_true rfl, Nat.le_of_ble_eq_true rfl⟩) hD hS hA (fun r9 u9 H locs hw hp hd hs => ?_)
  clear hP hD hS
  obtain ⟨rfl, rfl⟩ := hw
  have hP := hp; have hD := hd; have hS := hs; clear hp hd hs
  refine lv_pop hx hb dX3_towersReached_6 rfl ?_
  refine lv_aload_n hx hb dX3_towersReached_7 rfl (lv_at hl 0 rfl) ?_
  refine va_get (D := D) (ci := 3) (v := .int (q3.1 32 19)) (C := RX3) (T := TX3) (N := 20) hx hb hts u9_wsX3_towersReached_X3 hown hK hP 32 rfl rfl 19 (by decide) (hts (.fieldLink RX3 70 "TurnedFloors$Paper" "visited" "I") f9_wsX3_towersReached_868) (fun _ h9 => h9) rfl dX3_towersReached_8 ?_
  cases h
  exact kz_iret hx hb hr hlocks hP hK hD hS dX3_towersReached_11 ⟨rfl, rfl⟩

set_option maxHeartbeats 4000000 in
set_option maxRecDepth 100000 in
theorem qX9_reach_s0 (l : Launch) (D : va_G) (ty : Nat → ClassId) (eo : Nat → Nat) (sz : Nat) (ad : Nat → Nat) (nc ns : Nat) (q : dK)  (o1 : Int32) (o2 : dK) (h : zX9_reach_s0 nc ns q = some (o1, o2)) : Met l yX9_reach wsX9_reach ({ frames := 6, cells := nc, slots := ns, locals := 160 } : Room) (va_Pc [.ref (ad 0)] (kz_pre D ty eo (wF ty ad q) sz)) (va_Qi (fun (r : Int32) (u : va_W) => o1 = r ∧ ∃ ad9 : Nat → Nat, dAg ad ad9 ∧ wF ty ad9 o2 = u) (kz_B D ty (va_A (wF ty ad q) sz)) (va_A (wF ty ad q) sz)) nc ns (va_A (wF ty ad q) sz) := by
  have hag : dAg ad ad := fun _ _ => rfl
  refine Met.ofW (cc := cX9_reach) (maxL := 1) (ret := (some .int)) (by decide) rfl ?_
  intro p e s m args below meth c s₁ B hml hv
  obtain ⟨rfl, hsz, hP, hK, hD0, hN, hE⟩ := hv
  have hx := B.exec
  have hb := B.bytes
  have hr := B.returns
  have hts := atoms_spec (ws := wsX9_reach) B.pre
  have hown : s.vm.findClass RX9 = some m.cls := findClass_of_methodNamed B.named
  have hlocks := B.notSynchronized
  subst hsz
  have hD := hD0.self (sz := s.heap.size)
  generalize hAe : va_A (wF ty ad q) s.heap.size = A at hD hE ⊢
  have hA : ∀ q : Nat, s.heap.size ≤ q → A q := fun q h => by rw [← hAe]; exact Or.inr h
  clear hAe
  have hS : va_S A s.heap s.heap [] := va_S.rf
  have hl := lv_entry ([.ref (ad 0)]) (n := 1) (Nat.le_of_ble_eq_true rfl)
  rw [lg_entry_eq]
  generalize (lg_sl ([.ref (ad 0)]) ++ List.replicate (1 - (lg_sl ([.ref (ad 0)])).length) Slot.unset).toArray = ls at hl ⊢
  have hl : lv_has ls 1 [(0, .ref (ad 0))] := hl
  have C : dc_C p s m _ meth c cX9_reach (some .int) 1 RX9 wsX9_reach D ty eo A := ⟨hx, hb, hr, hts, hown, hlocks, hml, hK, hN, hE, hA⟩
  unfold zX9_reach_s0 at h
  refine lv_aload_n hx hb dX9_reach_0 rfl (lv_at hl 0 rfl) ?_
  refine lv_aload_n hx hb dX9_reach_1 rfl (lv_at hl 0 rfl) ?_
  obtain ⟨q3, h2, h⟩ := dV_some h
  refine dw_kq (va_runV (As := []) (rest := [.ref (ad 0)]) ⟨hx, hb, hml, hown, hts⟩ (qX9_seated_s0 l D ty eo _ ad q  q3 h2) (cwV 0 hts gX9_reach_X9_seated rfl rfl rfl hd_X9_seated_v ⟨Nat.le_of_ble_eq_true rfl, Nat.le_of_ble_eq_true rfl⟩) (pvF_9_0 hK hN hE hP hD hS hA) rfl rfl hl.1 rfl (lv_room (Nat.le_of_ble_eq_true rfl)) dX9_reach_2 ⟨Nat.zero_le _, Nat.zero_le _⟩) hP hD hS hA (fun r9 u9 H locs hw hp hd hs => ?_)
  clear hP hD hS
  obtain ⟨rfl, rfl⟩ := hw
  have hP := hp; have hD := hd; have hS := hs; clear hp hd hs
  obtain ⟨q6, h5, h⟩ := dV_some h
  refine dw_kv (va_runV (As := [.ref (ad 20)]) (rest := []) ⟨hx, hb, hml, hown, hts⟩ (qX9_spread_s0_s20 l D ty eo _ ad nc ns q3  q6 h5) (cwV 1 hts gX9_reach_X9_spread rfl rfl rfl hd_X9_spread_v ⟨Nat.le_of_ble_eq_true rfl, Nat.le_of_ble_eq_true rfl⟩) (pvF_9_0 hK hN hE hP hD hS hA) rfl rfl hl.1 rfl (lv_room (Nat.le_of_ble_eq_true rfl)) dX9_reach_5 ⟨by show 0 + nc ≤ nc; omega, by show 0 + ns ≤ ns; omega⟩) hD hS hA (fun u9 H locs hw hp hd hs => ?_)
  clear hP hD hS
  obtain ⟨ad, hag1, rfl⟩ := hw
  replace hag := dAg_t hag hag1
  rw [dAg_s hag1 0 (by decide)] at hl
  clear hag1
  refine dw_up (c2 := nc) (s2 := ns) (by omega) (by omega) ?_
  have hP := hp; have hD := hd; have hS := hs; clear hp hd hs
  refine lv_aload_n hx hb dX9_reach_8 rfl (lv_at hl 0 rfl) ?_
  refine va_get (D := D) (ci := 9) (v := .ref (ad 32)) (C := RX9) (T := TX9) (N := 19) hx hb hts u9_wsX9_reach_X9 hown hK hP 0 rfl rfl 10 (by decide) (hts (.fieldLink RX9 80 "TurnedFloors" "paper" "LTurnedFloors$Paper;") f9_wsX9_reach_870) (fun _ h9 => h9) rfl dX9_reach_9 ?_
  obtain ⟨r7, q9, h8, h⟩ := dB_some h
  refine dw_ki (va_runV (As := []) (rest := []) ⟨hx, hb, hml, hown, hts⟩ (qX3_towersReached_s32 l D ty eo _ ad q6  r7 q9 h8) (cwV 0 hts gX9_reach_X3_towersReached rfl rfl rfl hd_X3_towersReached_v ⟨Nat.le_of_ble_eq_true rfl, Nat.le_of_ble_eq_true rfl⟩) (pvF_3_32 hK hN hE hP hD hS hA) rfl rfl hl.1 rfl (lv_room (Nat.le_of_ble_eq_true rfl)) dX9_reach_12 ⟨Nat.le_refl _, Nat.le_refl _⟩) hD hS hA (fun r9 u9 H locs hw hp hd hs => ?_)
  clear hP hD hS
  obtain ⟨rfl, rfl⟩ := hw
  have hP := hp; have hD := hd; have hS := hs; clear hp hd hs
  cases h
  exact kz_iret hx hb hr hlocks hP hK hD hS dX9_reach_15 ⟨rfl, ad, hag, rfl⟩

set_option maxHeartbeats 4000000 in
set_option maxRecDepth 100000 in
theorem qX9_gaps_s0 (l : Launch) (D : va_G) (ty : Nat → ClassId) (eo : Nat → Nat) (sz : Nat) (ad : Nat → Nat) (q : dK)  (o1 : Int32) (o2 : dK) (h : zX9_gaps_s0 q = some (o1, o2)) : Met l yX9_gaps wsX9_gaps ({ frames := 2, cells := 0, slots := 0, locals := 45 } : Room) (va_Pc [.ref (ad 0)] (kz_pre D ty eo (wF ty ad q) sz)) (va_Qi (fun (r : Int32) (u : va_W) => o1 = r ∧ wF ty ad o2 = u) (kz_B D ty (va_A (wF ty ad q) sz)) (va_A (wF ty ad q) sz)) 0 0 (va_A (wF ty ad q) sz) := by
  refine Met.ofW (cc := cX9_gaps) (maxL := 1) (ret := (some .int)) (by decide) rfl ?_
  intro p e s m args below meth c s₁ B hml hv
  obtain ⟨rfl, hsz, hP, hK, hD0, hN, hE⟩ := hv
  have hx := B.exec
  have hb := B.bytes
  have hr := B.returns
  have hts := atoms_spec (ws := wsX9_gaps) B.pre
  have hown : s.vm.findClass RX9 = some m.cls := findClass_of_methodNamed B.named
  have hlocks := B.notSynchronized
  subst hsz
  have hD := hD0.self (sz := s.heap.size)
  generalize hAe : va_A (wF ty ad q) s.heap.size = A at hD hE ⊢
  have hA : ∀ q : Nat, s.heap.size ≤ q → A q := fun q h => by rw [← hAe]; exact Or.inr h
  clear hAe
  have hS : va_S A s.heap s.heap [] := va_S.rf
  have hl := lv_entry ([.ref (ad 0)]) (n := 1) (Nat.le_of_ble_eq_true rfl)
  rw [lg_entry_eq]
  generalize (lg_sl ([.ref (ad 0)]) ++ List.replicate (1 - (lg_sl ([.ref (ad 0)])).length) Slot.unset).toArray = ls at hl ⊢
  have hl : lv_has ls 1 [(0, .ref (ad 0))] := hl
  have C : dc_C p s m _ meth c cX9_gaps (some .int) 1 RX9 wsX9_gaps D ty eo A := ⟨hx, hb, hr, hts, hown, hlocks, hml, hK, hN, hE, hA⟩
  unfold zX9_gaps_s0 at h
  refine lv_aload_n hx hb dX9_gaps_0 rfl (lv_at hl 0 rfl) ?_
  refine va_get (D := D) (ci := 9) (v := .ref (ad 1)) (C := RX9) (T := TX9) (N := 19) hx hb hts u9_wsX9_gaps_X9 hown hK hP 0 rfl rfl 0 (by decide) (hts (.fieldLink RX9 10 "TurnedFloors" "state" "LTurnedFloors$State;") f9_wsX9_gaps_873) (fun _ h9 => h9) rfl dX9_gaps_1 ?_
  refine va_getN (D := D) (ci := 6) (v := .ref (ad 2)) (C := RX6) (T := TX6) (N := 10) hx hb hts u9_wsX9_gaps_X6 hown hK hP 1 rfl rfl 0 (by decide) (hN.use (.fieldLinkNest "TurnedFloors" 122 "TurnedFloors$State" "tower" "LTurnedFloors$Tower;" "TurnedFloors") nn9_0) (fun _ h9 => h9) rfl dX9_gaps_4 ?_
  obtain ⟨r1, q3, h2, h⟩ := dB_some h
  refine dw_ki (va_runV (As := []) (rest := []) ⟨hx, hb, hml, hown, hts⟩ (qX8_gapCount_s2 l D ty eo _ ad q  r1 q3 h2) (cwV 0 hts gX9_gaps_X8_gapCount rfl rfl rfl hd_X8_gapCount_v ⟨Nat.le_of_ble_eq_true rfl, Nat.le_of_ble_eq_true rfl⟩) (pvF_8_2 hK hN hE hP hD hS hA) rfl rfl hl.1 rfl (lv_room (Nat.le_of_ble_eq_true rfl)) dX9_gaps_7 ⟨Nat.le_of_ble_eq_true rfl, Nat.le_of_ble_eq_true rfl⟩) hD hS hA (fun r9 u9 H locs hw hp hd hs => ?_)
  clear hP hD hS
  obtain ⟨rfl, rfl⟩ := hw
  have hP := hp; have hD := hd; have hS := hs; clear hp hd hs
  cases h
  exact kz_iret hx hb hr hlocks hP hK hD hS dX9_gaps_10 ⟨rfl, rfl⟩

set_option maxHeartbeats 4000000 in
set_option maxRecDepth 100000 in
theorem WX3_turnsToNumber_s32_105 {p : Program} {l : Launch} {e : Env} {s : State} {m : MethodId} {args : Array Value} {below : List Frame} {meth : Method} {c : Code} {D : va_G} {ty : Nat → ClassId} {eo : Nat → Nat} {A : Nat → Prop} {ad : Nat → Nat} {o1 : Int32} {o2 : dK} (C : dc_C p s m args meth c cX3_turnsToNumber (some .int) 5 RX3 wsX3_turnsToNumber D ty eo A)   (q : dK)  (H : Heap) (locs : List Loc) (ls : Array Slot) (h : zX3_turnsToNumber_s32_105  q = some (o1, o2)) (hP : va_P D vwCl (wF ty ad q) H) (hD : va_D A (wF ty ad q)) (hS : va_S A s.heap H locs) (hl : lv_has ls 5 []) : W p l e ({ frames := 3, cells := 0, slots := 0, locals := 73 } : Room) s m args below meth c H locs 0 0 (MQ below (va_Qi (fun (r : Int32) (u : va_W) => o1 = r ∧ wF ty ad o2 = u) (kz_B D ty A) A) args s 0 0 A) (F0 m 105 ls []) := by
  have C0 := C
  obtain ⟨hx, hb, hr, hts, hown, hlocks, hml, hK, hN, hE, hA⟩ := C
  unfold zX3_turnsToNumber_s32_105 at h
  refine lv_iconst (v := (-1)) hx hb dX3_turnsToNumber_105 (by decide) ?_
  cases h
  exact kz_iret hx hb hr hlocks hP hK hD hS dX3_turnsToNumber_106 ⟨rfl, rfl⟩
set_option maxHeartbeats 4000000 in
set_option maxRecDepth 100000 in
theorem WX3_turnsToNumber_s32_83 {p : Program} {l : Launch} {e : Env} {s : State} {m : MethodId} {args : Array Value} {below : List Frame} {meth : Method} {c : Code} {D : va_G} {ty : Nat → ClassId} {eo : Nat → Nat} {A : Nat → Prop} {ad : Nat → Nat} {o1 : Int32} {o2 : dK} (C : dc_C p s m args meth c cX3_turnsToNumber (some .int) 5 RX3 wsX3_turnsToNumber D ty eo A) {k13 : dK → Int32 → Int32 → Int32 → Option (Int32 × dK)} (hk13 : ∀ (q : dK) (x2 : Int32) (x3 : Int32) (x4 : Int32) (H : Heap) (locs : List Loc) (ls : Array Slot), k13 q x2 x3 x4 = some (o1, o2) → va_P D vwCl (wF ty ad q) H → va_D A (wF ty ad q) → va_S A s.heap H locs → lv_has ls 5 [(0, .ref (ad 32)), (2, .int x2), (3, .int x3), (4, .int x4)] → W p l e ({ frames := 3, cells := 0, slots := 0, locals := 73 } : Room) s m args below meth c H locs 0 0 (MQ below (va_Qi (fun (r : Int32) (u : va_W) => o1 = r ∧ wF ty ad o2 = u) (kz_B D ty A) A) args s 0 0 A) (F0 m 13 ls [])) (q : dK) (x2 : Int32) (x3 : Int32) (x4 : Int32) (H : Heap) (locs : List Loc) (ls : Array Slot) (h : zX3_turnsToNumber_s32_83 k13 q x2 x3 x4 = some (o1, o2)) (hP : va_P D vwCl (wF ty ad q) H) (hD : va_D A (wF ty ad q)) (hS : va_S A s.heap H locs) (hl : lv_has ls 5 [(0, .ref (ad 32)), (2, .int x2), (3, .int x3), (4, .int x4)]) : W p l e ({ frames := 3, cells := 0, slots := 0, locals := 73 } : Room) s m args below meth c H locs 0 0 (MQ below (va_Qi (fun (r : Int32) (u : va_W) => o1 = r ∧ wF ty ad o2 = u) (kz_B D ty A) A) args s 0 0 A) (F0 m 83 ls []) := by
  have C0 := C
  obtain ⟨hx, hb, hr, hts, hown, hlocks, hml, hK, hN, hE, hA⟩ := C
  unfold zX3_turnsToNumber_s32_83 at h
  refine lv_iinc (v := x4 + (-1)) (lv' := [(4, .int (x4 + (-1))), (0, .ref (ad 32)), (2, .int x2), (3, .int x3)]) hx hb dX3_turnsToNumber_83 hl (k := 3) rfl rfl (by decide) rfl (fun ls hl => ?_)
  refine lv_goto (tgt := 13) hx hb dX3_turnsToNumber_86 (by decide) ?_
  exact hk13 _ _ _ _ _ _ _ h hP hD hS (lv_sub hl [1, 2, 3, 0] rfl)
set_option maxHeartbeats 4000000 in
set_option maxRecDepth 100000 in
theorem WX3_turnsToNumber_s32_81 {p : Program} {l : Launch} {e : Env} {s : State} {m : MethodId} {args : Array Value} {below : List Frame} {meth : Method} {c : Code} {D : va_G} {ty : Nat → ClassId} {eo : Nat → Nat} {A : Nat → Prop} {ad : Nat → Nat} {o1 : Int32} {o2 : dK} (C : dc_C p s m args meth c cX3_turnsToNumber (some .int) 5 RX3 wsX3_turnsToNumber D ty eo A) {k13 : dK → Int32 → Int32 → Int32 → Option (Int32 × dK)} (hk13 : ∀ (q : dK) (x2 : Int32) (x3 : Int32) (x4 : Int32) (H : Heap) (locs : List Loc) (ls : Array Slot), k13 q x2 x3 x4 = some (o1, o2) → va_P D vwCl (wF ty ad q) H → va_D A (wF ty ad q) → va_S A s.heap H locs → lv_has ls 5 [(0, .ref (ad 32)), (2, .int x2), (3, .int x3), (4, .int x4)] → W p l e ({ frames := 3, cells := 0, slots := 0, locals := 73 } : Room) s m args below meth c H locs 0 0 (MQ below (va_Qi (fun (r : Int32) (u : va_W) => o1 = r ∧ wF ty ad o2 = u) (kz_B D ty A) A) args s 0 0 A) (F0 m 13 ls [])) (q : dK) (x2 : Int32) (x4 : Int32) (y0 : Int32) (y1 : Int32) (H : Heap) (locs : List Loc) (ls : Array Slot) (h : zX3_turnsToNumber_s32_81 k13 q x2 x4 y0 y1 = some (o1, o2)) (hP : va_P D vwCl (wF ty ad q) H) (hD : va_D A (wF ty ad q)) (hS : va_S A s.heap H locs) (hl : lv_has ls 5 [(0, .ref (ad 32)), (2, .int x2), (4, .int x4)]) : W p l e ({ frames := 3, cells := 0, slots := 0, locals := 73 } : Room) s m args below meth c H locs 0 0 (MQ below (va_Qi (fun (r : Int32) (u : va_W) => o1 = r ∧ wF ty ad o2 = u) (kz_B D ty A) A) args s 0 0 A) (F0 m 81 ls [.int y0, .int y1]) := by
  have C0 := C
  obtain ⟨hx, hb, hr, hts, hown, hlocks, hml, hK, hN, hE, hA⟩ := C
  unfold zX3_turnsToNumber_s32_81 at h
  refine lv_ior hx hb dX3_turnsToNumber_81 ?_
  refine lv_istore_n (lv' := [(3, .int (y1 ||| y0)), (0, .ref (ad 32)), (2, .int x2), (4, .int x4)]) hx hb dX3_turnsToNumber_82 rfl hl (by decide) rfl (fun ls hl => ?_)
  exact WX3_turnsToNumber_s32_83 C0 hk13 _ _ _ _ _ _ _ h hP hD hS (lv_sub hl [1, 2, 0, 3] rfl)
set_option maxHeartbeats 4000000 in
set_option maxRecDepth 100000 in
theorem WX3_turnsToNumber_s32_13b {p : Program} {l : Launch} {e : Env} {s : State} {m : MethodId} {args : Array Value} {below : List Frame} {meth : Method} {c : Code} {D : va_G} {ty : Nat → ClassId} {eo : Nat → Nat} {A : Nat → Prop} {ad : Nat → Nat} {o1 : Int32} {o2 : dK} (C : dc_C p s m args meth c cX3_turnsToNumber (some .int) 5 RX3 wsX3_turnsToNumber D ty eo A) {k13 : dK → Int32 → Int32 → Int32 → Option (Int32 × dK)} (hk13 : ∀ (q : dK) (x2 : Int32) (x3 : Int32) (x4 : Int32) (H : Heap) (locs : List Loc) (ls : Array Slot), k13 q x2 x3 x4 = some (o1, o2) → va_P D vwCl (wF ty ad q) H → va_D A (wF ty ad q) → va_S A s.heap H locs → lv_has ls 5 [(0, .ref (ad 32)), (2, .int x2), (3, .int x3), (4, .int x4)] → W p l e ({ frames := 3, cells := 0, slots := 0, locals := 73 } : Room) s m args below meth c H locs 0 0 (MQ below (va_Qi (fun (r : Int32) (u : va_W) => o1 = r ∧ wF ty ad o2 = u) (kz_B D ty A) A) args s 0 0 A) (F0 m 13 ls [])) (q : dK) (x2 : Int32) (x3 : Int32) (x4 : Int32) (H : Heap) (locs : List Loc) (ls : Array Slot) (h : zX3_turnsToNumber_s32_13b k13 q x2 x3 x4 = some (o1, o2)) (hP : va_P D vwCl (wF ty ad q) H) (hD : va_D A (wF ty ad q)) (hS : va_S A s.heap H locs) (hl : lv_has ls 5 [(0, .ref (ad 32)), (2, .int x2), (3, .int x3), (4, .int x4)]) : W p l e ({ frames := 3, cells := 0, slots := 0, locals := 73 } : Room) s m args below meth c H locs 0 0 (MQ below (va_Qi (fun (r : Int32) (u : va_W) => o1 = r ∧ wF ty ad o2 = u) (kz_B D ty A) A) args s 0 0 A) (F0 m 13 ls []) := by
  have C0 := C
  obtain ⟨hx, hb, hr, hts, hown, hlocks, hml, hK, hN, hE, hA⟩ := C
  unfold zX3_turnsToNumber_s32_13b at h
  refine lv_iload hx hb dX3_turnsToNumber_13 (lv_at hl 3 rfl) ?_
  refine lv_if_lt (tgt := 89) hx hb dX3_turnsToNumber_15 (by decide) (fun c9 => ?_) (fun c9 => ?_)
  · rw [if_pos c9] at h
    refine lv_iload_n hx hb dX3_turnsToNumber_89 rfl (lv_at hl 1 rfl) ?_
    refine lv_if_ne (tgt := 105) hx hb dX3_turnsToNumber_90 (by decide) (fun c9 => ?_) (fun c9 => ?_)
    · rw [if_neg c9] at h
      exact WX3_turnsToNumber_s32_105 C0  _ _ _ _ h hP hD hS (lv_sub hl [] rfl)
    · rw [if_pos c9] at h
      refine lv_iload_n hx hb dX3_turnsToNumber_93 rfl (lv_at hl 2 rfl) ?_
      refine lv_iconst (v := 1) hx hb dX3_turnsToNumber_94 (by decide) ?_
      refine lv_aload_n hx hb dX3_turnsToNumber_95 rfl (lv_at hl 0 rfl) ?_
      refine va_get (D := D) (ci := 3) (v := .int (q.1 32 13)) (C := RX3) (T := TX3) (N := 20) hx hb hts u9_wsX3_turnsToNumber_X3 hown hK hP 32 rfl rfl 13 (by decide) (hts (.fieldLink RX3 51 "TurnedFloors$Paper" "floors" "I") f9_wsX3_turnsToNumber_875) (fun _ h9 => h9) rfl dX3_turnsToNumber_96 ?_
      refine lv_ishl hx hb dX3_turnsToNumber_99 ?_
      refine lv_iconst (v := 1) hx hb dX3_turnsToNumber_100 (by decide) ?_
      refine lv_isub hx hb dX3_turnsToNumber_101 ?_
      refine lv_icmp_eq (tgt := 107) hx hb dX3_turnsToNumber_102 (by decide) (fun c9 => ?_) (fun c9 => ?_)
      · rw [if_pos c9] at h
        refine lv_aload_n hx hb dX3_turnsToNumber_107 rfl (lv_at hl 0 rfl) ?_
        refine lv_iconst (v := 1) hx hb dX3_turnsToNumber_108 (by decide) ?_
        refine lv_aload_n hx hb dX3_turnsToNumber_109 rfl (lv_at hl 0 rfl) ?_
        obtain ⟨r1, q3, h2, h⟩ := dB_some h
        refine dw_ki (va_runV (As := []) (rest := [.int 1, .ref (ad 32)]) ⟨hx, hb, hml, hown, hts⟩ (qX3_numberOfOrder_s32 l D ty eo _ ad q  r1 q3 h2) (cwV 0 hts gX3_turnsToNumber_X3_numberOfOrder rfl rfl rfl hd_X3_numberOfOrder_v ⟨Nat.le_of_ble_eq_true rfl, Nat.le_of_ble_eq_true rfl⟩) (pvF_3_32 hK hN hE hP hD hS hA) rfl rfl hl.1 rfl (lv_room (Nat.le_of_ble_eq_true rfl)) dX3_turnsToNumber_110 ⟨Nat.le_of_ble_eq_true rfl, Nat.le_of_ble_eq_true rfl⟩) hD hS hA (fun r9 u9 H locs hw hp hd hs => ?_)
        clear hP hD hS
        obtain ⟨rfl, rfl⟩ := hw
        have hP := hp; have hD := hd; have hS := hs; clear hp hd hs
        obtain ⟨r4, q6, h5, h⟩ := dB_some h
        refine dw_ki (va_runV (As := [.int 1, .int r1]) (rest := []) ⟨hx, hb, hml, hown, hts⟩ (qX3_nearest_s32 l D ty eo _ ad q3 1 r1 r4 q6 h5) (cwV 2 hts gX3_turnsToNumber_X3_nearest rfl rfl rfl hd_X3_nearest_v ⟨Nat.le_of_ble_eq_true rfl, Nat.le_of_ble_eq_true rfl⟩) (pvF_3_32 hK hN hE hP hD hS hA) rfl rfl hl.1 rfl (lv_room (Nat.le_of_ble_eq_true rfl)) dX3_turnsToNumber_113 ⟨Nat.le_of_ble_eq_true rfl, Nat.le_of_ble_eq_true rfl⟩) hD hS hA (fun r9 u9 H locs hw hp hd hs => ?_)
        clear hP hD hS
        obtain ⟨rfl, rfl⟩ := hw
        have hP := hp; have hD := hd; have hS := hs; clear hp hd hs
        cases h
        exact kz_iret hx hb hr hlocks hP hK hD hS dX3_turnsToNumber_116 ⟨rfl, rfl⟩
      · rw [if_neg c9] at h
        exact WX3_turnsToNumber_s32_105 C0  _ _ _ _ h hP hD hS (lv_sub hl [] rfl)
  · rw [if_neg c9] at h
    refine lv_aload_n hx hb dX3_turnsToNumber_18 rfl (lv_at hl 0 rfl) ?_
    refine va_get (D := D) (ci := 3) (v := .ref (ad 34)) (C := RX3) (T := TX3) (N := 20) hx hb hts u9_wsX3_turnsToNumber_X3 hown hK hP 32 rfl rfl 1 (by decide) (hts (.fieldLink RX3 15 "TurnedFloors$Paper" "digits" "[I") f9_wsX3_turnsToNumber_876) (fun _ h9 => h9) rfl dX3_turnsToNumber_19 ?_
    refine lv_iload hx hb dX3_turnsToNumber_22 (lv_at hl 3 rfl) ?_
    refine lv_iload hx hb dX3_turnsToNumber_24 (lv_at hl 3 rfl) ?_
    obtain ⟨g7, h⟩ := dG_some h
    refine va_iast hx hb hK hP hD hS 34 0 rfl rfl (dg_in g7) dX3_turnsToNumber_26 (fun H locs hp hd hs => ?_)
    obtain ⟨q8, eq8, h⟩ := dL_some h
    refine kz_re (w2 := wF ty ad q8) hp hd hs (by rw [← eq8]; exact wF_a34 ty ad q (Int32.toNatClampNeg x4) x4) ?_
    clear hp hd hs hP hD hS
    intro hP hD hS
    refine lv_iload hx hb dX3_turnsToNumber_27 (lv_at hl 3 rfl) ?_
    refine lv_aload_n hx hb dX3_turnsToNumber_29 rfl (lv_at hl 0 rfl) ?_
    refine va_get (D := D) (ci := 3) (v := .int (q8.1 32 13)) (C := RX3) (T := TX3) (N := 20) hx hb hts u9_wsX3_turnsToNumber_X3 hown hK hP 32 rfl rfl 13 (by decide) (hts (.fieldLink RX3 51 "TurnedFloors$Paper" "floors" "I") f9_wsX3_turnsToNumber_875) (fun _ h9 => h9) rfl dX3_turnsToNumber_30 ?_
    refine lv_icmp_ge (tgt := 83) hx hb dX3_turnsToNumber_33 (by decide) (fun c9 => ?_) (fun c9 => ?_)
    · rw [if_pos c9] at h
      exact WX3_turnsToNumber_s32_83 C0 hk13 _ _ _ _ _ _ _ h hP hD hS (lv_sub hl [0, 1, 2, 3] rfl)
    · rw [if_neg c9] at h
      refine lv_aload_n hx hb dX3_turnsToNumber_36 rfl (lv_at hl 0 rfl) ?_
      refine va_get (D := D) (ci := 3) (v := .ref (ad 34)) (C := RX3) (T := TX3) (N := 20) hx hb hts u9_wsX3_turnsToNumber_X3 hown hK hP 32 rfl rfl 1 (by decide) (hts (.fieldLink RX3 15 "TurnedFloors$Paper" "digits" "[I") f9_wsX3_turnsToNumber_876) (fun _ h9 => h9) rfl dX3_turnsToNumber_37 ?_
      refine lv_iload hx hb dX3_turnsToNumber_40 (lv_at hl 3 rfl) ?_
      refine lv_aload_n hx hb dX3_turnsToNumber_42 rfl (lv_at hl 0 rfl) ?_
      refine lv_iload_n hx hb dX3_turnsToNumber_43 rfl (lv_at hl 1 rfl) ?_
      refine lv_bipush (v := 10) hx hb dX3_turnsToNumber_44 (by decide) ?_
      refine lv_irem hx hb dX3_turnsToNumber_46 (by decide) ?_
      obtain ⟨r9, q11, h10, h⟩ := dB_some h
      refine dw_ki (va_runV (As := [.int (x2 - x2 / 10 * 10 : Int32)]) (rest := [.int x4, .ref (ad 34)]) ⟨hx, hb, hml, hown, hts⟩ (qX3_indexOfRank_s32 l D ty eo _ ad q8 (x2 - x2 / 10 * 10 : Int32) r9 q11 h10) (cwV 1 hts gX3_turnsToNumber_X3_indexOfRank rfl rfl rfl hd_X3_indexOfRank_v ⟨Nat.le_of_ble_eq_true rfl, Nat.le_of_ble_eq_true rfl⟩) (pvF_3_32 hK hN hE hP hD hS hA) rfl rfl hl.1 rfl (lv_room (Nat.le_of_ble_eq_true rfl)) dX3_turnsToNumber_47 ⟨Nat.le_of_ble_eq_true rfl, Nat.le_of_ble_eq_true rfl⟩) hD hS hA (fun r9 u9 H locs hw hp hd hs => ?_)
      clear hP hD hS
      obtain ⟨rfl, rfl⟩ := hw
      have hP := hp; have hD := hd; have hS := hs; clear hp hd hs
      obtain ⟨g12, h⟩ := dG_some h
      refine va_iast hx hb hK hP hD hS 34 0 rfl rfl (dg_in g12) dX3_turnsToNumber_50 (fun H locs hp hd hs => ?_)
      obtain ⟨q13, eq13, h⟩ := dL_some h
      refine kz_re (w2 := wF ty ad q13) hp hd hs (by rw [← eq13]; exact wF_a34 ty ad q11 (Int32.toNatClampNeg x4) r9) ?_
      clear hp hd hs hP hD hS
      intro hP hD hS
      refine lv_iload_n hx hb dX3_turnsToNumber_51 rfl (lv_at hl 1 rfl) ?_
      refine lv_bipush (v := 10) hx hb dX3_turnsToNumber_52 (by decide) ?_
      refine lv_idiv hx hb dX3_turnsToNumber_54 (by decide) ?_
      refine lv_istore_n (lv' := [(2, .int (x2 / 10 : Int32)), (0, .ref (ad 32)), (3, .int x3), (4, .int x4)]) hx hb dX3_turnsToNumber_55 rfl hl (by decide) rfl (fun ls hl => ?_)
      refine lv_iload_n hx hb dX3_turnsToNumber_56 rfl (lv_at hl 2 rfl) ?_
      refine lv_aload_n hx hb dX3_turnsToNumber_57 rfl (lv_at hl 1 rfl) ?_
      refine va_get (D := D) (ci := 3) (v := .ref (ad 34)) (C := RX3) (T := TX3) (N := 20) hx hb hts u9_wsX3_turnsToNumber_X3 hown hK hP 32 rfl rfl 1 (by decide) (hts (.fieldLink RX3 15 "TurnedFloors$Paper" "digits" "[I") f9_wsX3_turnsToNumber_876) (fun _ h9 => h9) rfl dX3_turnsToNumber_58 ?_
      refine lv_iload hx hb dX3_turnsToNumber_61 (lv_at hl 3 rfl) ?_
      obtain ⟨g14, h⟩ := dG_some h
      refine va_iald hx hb hK hP 34 0 rfl rfl (dg_in g14) dX3_turnsToNumber_63 ?_
      obtain ⟨v15, ev15, h⟩ := dL_some h
      refine kz_topi v15 ev15 ?_
      refine lv_iconst (v := (-1)) hx hb dX3_turnsToNumber_64 (by decide) ?_
      refine lv_icmp_ne (tgt := 72) hx hb dX3_turnsToNumber_65 (by decide) (fun c9 => ?_) (fun c9 => ?_)
      · rw [if_neg c9] at h
        refine lv_iconst (v := 1) hx hb dX3_turnsToNumber_72 (by decide) ?_
        refine lv_aload_n hx hb dX3_turnsToNumber_73 rfl (lv_at hl 1 rfl) ?_
        refine va_get (D := D) (ci := 3) (v := .ref (ad 34)) (C := RX3) (T := TX3) (N := 20) hx hb hts u9_wsX3_turnsToNumber_X3 hown hK hP 32 rfl rfl 1 (by decide) (hts (.fieldLink RX3 15 "TurnedFloors$Paper" "digits" "[I") f9_wsX3_turnsToNumber_876) (fun _ h9 => h9) rfl dX3_turnsToNumber_74 ?_
        refine lv_iload hx hb dX3_turnsToNumber_77 (lv_at hl 3 rfl) ?_
        obtain ⟨g16, h⟩ := dG_some h
        refine va_iald hx hb hK hP 34 0 rfl rfl (dg_in g16) dX3_turnsToNumber_79 ?_
        obtain ⟨v17, ev17, h⟩ := dL_some h
        refine kz_topi v17 ev17 ?_
        refine lv_ishl hx hb dX3_turnsToNumber_80 ?_
        exact WX3_turnsToNumber_s32_81 C0 hk13 _ _ _ _ _ _ _ _ h hP hD hS (lv_sub hl [1, 0, 3] rfl)
      · rw [if_pos c9] at h
        refine lv_iconst (v := 0) hx hb dX3_turnsToNumber_68 (by decide) ?_
        refine lv_goto (tgt := 81) hx hb dX3_turnsToNumber_69 (by decide) ?_
        exact WX3_turnsToNumber_s32_81 C0 hk13 _ _ _ _ _ _ _ _ h hP hD hS (lv_sub hl [1, 0, 3] rfl)
set_option maxHeartbeats 4000000 in
set_option maxRecDepth 100000 in
theorem WX3_turnsToNumber_s32_13 {p : Program} {l : Launch} {e : Env} {s : State} {m : MethodId} {args : Array Value} {below : List Frame} {meth : Method} {c : Code} {D : va_G} {ty : Nat → ClassId} {eo : Nat → Nat} {A : Nat → Prop} {ad : Nat → Nat} {o1 : Int32} {o2 : dK} (C : dc_C p s m args meth c cX3_turnsToNumber (some .int) 5 RX3 wsX3_turnsToNumber D ty eo A)   (n : Nat) (q : dK) (x2 : Int32) (x3 : Int32) (x4 : Int32) (H : Heap) (locs : List Loc) (ls : Array Slot) (h : zX3_turnsToNumber_s32_13  n q x2 x3 x4 = some (o1, o2)) (hP : va_P D vwCl (wF ty ad q) H) (hD : va_D A (wF ty ad q)) (hS : va_S A s.heap H locs) (hl : lv_has ls 5 [(0, .ref (ad 32)), (2, .int x2), (3, .int x3), (4, .int x4)]) : W p l e ({ frames := 3, cells := 0, slots := 0, locals := 73 } : Room) s m args below meth c H locs 0 0 (MQ below (va_Qi (fun (r : Int32) (u : va_W) => o1 = r ∧ wF ty ad o2 = u) (kz_B D ty A) A) args s 0 0 A) (F0 m 13 ls []) := by
  exact dFix_W (F := fun k (a : dK × Int32 × Int32 × Int32) => zX3_turnsToNumber_s32_13b  (fun q x2 x3 x4 => k (q, x2, x3, x4)) a.1 a.2.1 a.2.2.1 a.2.2.2) (o := (o1, o2)) (P := fun (a : dK × Int32 × Int32 × Int32) H locs ls => va_P D vwCl (wF ty ad a.1) H ∧ va_D A (wF ty ad a.1) ∧ va_S A s.heap H locs ∧ lv_has ls 5 [(0, .ref (ad 32)), (2, .int a.2.1), (3, .int a.2.2.1), (4, .int a.2.2.2)]) (G := fun H locs ls => W p l e ({ frames := 3, cells := 0, slots := 0, locals := 73 } : Room) s m args below meth c H locs 0 0 (MQ below (va_Qi (fun (r : Int32) (u : va_W) => o1 = r ∧ wF ty ad o2 = u) (kz_B D ty A) A) args s 0 0 A) (F0 m 13 ls []))
    (fun k hk a H locs ls h hp => WX3_turnsToNumber_s32_13b C  (fun q x2 x3 x4 H locs ls h h1 h2 h3 h4 => hk (q, x2, x3, x4) H locs ls h ⟨h1, h2, h3, h4⟩) a.1 a.2.1 a.2.2.1 a.2.2.2 H locs ls h hp.1 hp.2.1 hp.2.2.1 hp.2.2.2) n (q, x2, x3, x4) H locs ls h ⟨hP, hD, hS, hl⟩
set_option maxHeartbeats 4000000 in
set_option maxRecDepth 100000 in
theorem qX3_turnsToNumber_s32 (l : Launch) (D : va_G) (ty : Nat → ClassId) (eo : Nat → Nat) (sz : Nat) (ad : Nat → Nat) (q : dK) (p1 : Int32) (o1 : Int32) (o2 : dK) (h : zX3_turnsToNumber_s32 q p1 = some (o1, o2)) : Met l yX3_turnsToNumber wsX3_turnsToNumber ({ frames := 3, cells := 0, slots := 0, locals := 73 } : Room) (va_Pc [.ref (ad 32), .int p1] (kz_pre D ty eo (wF ty ad q) sz)) (va_Qi (fun (r : Int32) (u : va_W) => o1 = r ∧ wF ty ad o2 = u) (kz_B D ty (va_A (wF ty ad q) sz)) (va_A (wF ty ad q) sz)) 0 0 (va_A (wF ty ad q) sz) := by
  refine Met.ofW (cc := cX3_turnsToNumber) (maxL := 5) (ret := (some .int)) (by decide) rfl ?_
  intro p e s m args below meth c s₁ B hml hv
  obtain ⟨rfl, hsz, hP, hK, hD0, hN, hE⟩ := hv
  have hx := B.exec
  have hb := B.bytes
  have hr := B.returns
  have hts := atoms_spec (ws := wsX3_turnsToNumber) B.pre
  have hown : s.vm.findClass RX3 = some m.cls := findClass_of_methodNamed B.named
  have hlocks := B.notSynchronized
  subst hsz
  have hD := hD0.self (sz := s.heap.size)
  generalize hAe : va_A (wF ty ad q) s.heap.size = A at hD hE ⊢
  have hA : ∀ q : Nat, s.heap.size ≤ q → A q := fun q h => by rw [← hAe]; exact Or.inr h
  clear hAe
  have hS : va_S A s.heap s.heap [] := va_S.rf
  have hl := lv_entry ([.ref (ad 32), .int p1]) (n := 5) (Nat.le_of_ble_eq_true rfl)
  rw [lg_entry_eq]
  generalize (lg_sl ([.ref (ad 32), .int p1]) ++ List.replicate (5 - (lg_sl ([.ref (ad 32), .int p1])).length) Slot.unset).toArray = ls at hl ⊢
  have hl : lv_has ls 5 [(0, .ref (ad 32)), (1, .int p1)] := hl
  have C : dc_C p s m _ meth c cX3_turnsToNumber (some .int) 5 RX3 wsX3_turnsToNumber D ty eo A := ⟨hx, hb, hr, hts, hown, hlocks, hml, hK, hN, hE, hA⟩
  unfold zX3_turnsToNumber_s32 at h
  refine lv_iload_n hx hb dX3_turnsToNumber_0 rfl (lv_at hl 1 rfl) ?_
  refine lv_if_ge (tgt := 6) hx hb dX3_turnsToNumber_1 (by decide) (fun c9 => ?_) (fun c9 => ?_)
  · rw [if_pos c9] at h
    refine lv_iload_n hx hb dX3_turnsToNumber_6 rfl (lv_at hl 1 rfl) ?_
    refine lv_istore_n (lv' := [(2, .int p1), (0, .ref (ad 32)), (1, .int p1)]) hx hb dX3_turnsToNumber_7 rfl hl (by decide) rfl (fun ls hl => ?_)
    refine lv_iconst (v := 0) hx hb dX3_turnsToNumber_8 (by decide) ?_
    refine lv_istore_n (lv' := [(3, .int 0), (2, .int p1), (0, .ref (ad 32)), (1, .int p1)]) hx hb dX3_turnsToNumber_9 rfl hl (by decide) rfl (fun ls hl => ?_)
    refine lv_iconst (v := 5) hx hb dX3_turnsToNumber_10 (by decide) ?_
    refine lv_istore (lv' := [(4, .int 5), (3, .int 0), (2, .int p1), (0, .ref (ad 32)), (1, .int p1)]) hx hb dX3_turnsToNumber_11 hl (by decide) rfl (fun ls hl => ?_)
    exact WX3_turnsToNumber_s32_13 C  _ _ _ _ _ _ _ _ h hP hD hS (lv_sub hl [3, 2, 1, 0] rfl)
  · rw [if_neg c9] at h
    refine lv_iconst (v := (-1)) hx hb dX3_turnsToNumber_4 (by decide) ?_
    cases h
    exact kz_iret hx hb hr hlocks hP hK hD hS dX3_turnsToNumber_5 ⟨rfl, rfl⟩

set_option maxHeartbeats 4000000 in
set_option maxRecDepth 100000 in
theorem qX9_comes_s0 (l : Launch) (D : va_G) (ty : Nat → ClassId) (eo : Nat → Nat) (sz : Nat) (ad : Nat → Nat) (nc ns : Nat) (q : dK) (p1 : Int32) (o1 : Int32) (o2 : dK) (h : zX9_comes_s0 nc ns q p1 = some (o1, o2)) : Met l yX9_comes wsX9_comes ({ frames := 6, cells := nc, slots := ns, locals := 160 } : Room) (va_Pc [.ref (ad 0), .int p1] (kz_pre D ty eo (wF ty ad q) sz)) (va_Qi (fun (r : Int32) (u : va_W) => o1 = r ∧ ∃ ad9 : Nat → Nat, dAg ad ad9 ∧ wF ty ad9 o2 = u) (kz_B D ty (va_A (wF ty ad q) sz)) (va_A (wF ty ad q) sz)) nc ns (va_A (wF ty ad q) sz) := by
  have hag : dAg ad ad := fun _ _ => rfl
  refine Met.ofW (cc := cX9_comes) (maxL := 2) (ret := (some .int)) (by decide) rfl ?_
  intro p e s m args below meth c s₁ B hml hv
  obtain ⟨rfl, hsz, hP, hK, hD0, hN, hE⟩ := hv
  have hx := B.exec
  have hb := B.bytes
  have hr := B.returns
  have hts := atoms_spec (ws := wsX9_comes) B.pre
  have hown : s.vm.findClass RX9 = some m.cls := findClass_of_methodNamed B.named
  have hlocks := B.notSynchronized
  subst hsz
  have hD := hD0.self (sz := s.heap.size)
  generalize hAe : va_A (wF ty ad q) s.heap.size = A at hD hE ⊢
  have hA : ∀ q : Nat, s.heap.size ≤ q → A q := fun q h => by rw [← hAe]; exact Or.inr h
  clear hAe
  have hS : va_S A s.heap s.heap [] := va_S.rf
  have hl := lv_entry ([.ref (ad 0), .int p1]) (n := 2) (Nat.le_of_ble_eq_true rfl)
  rw [lg_entry_eq]
  generalize (lg_sl ([.ref (ad 0), .int p1]) ++ List.replicate (2 - (lg_sl ([.ref (ad 0), .int p1])).length) Slot.unset).toArray = ls at hl ⊢
  have hl : lv_has ls 2 [(0, .ref (ad 0)), (1, .int p1)] := hl
  have C : dc_C p s m _ meth c cX9_comes (some .int) 2 RX9 wsX9_comes D ty eo A := ⟨hx, hb, hr, hts, hown, hlocks, hml, hK, hN, hE, hA⟩
  unfold zX9_comes_s0 at h
  refine lv_aload_n hx hb dX9_comes_0 rfl (lv_at hl 0 rfl) ?_
  refine lv_aload_n hx hb dX9_comes_1 rfl (lv_at hl 0 rfl) ?_
  obtain ⟨q3, h2, h⟩ := dV_some h
  refine dw_kq (va_runV (As := []) (rest := [.ref (ad 0)]) ⟨hx, hb, hml, hown, hts⟩ (qX9_seated_s0 l D ty eo _ ad q  q3 h2) (cwV 0 hts gX9_comes_X9_seated rfl rfl rfl hd_X9_seated_v ⟨Nat.le_of_ble_eq_true rfl, Nat.le_of_ble_eq_true rfl⟩) (pvF_9_0 hK hN hE hP hD hS hA) rfl rfl hl.1 rfl (lv_room (Nat.le_of_ble_eq_true rfl)) dX9_comes_2 ⟨Nat.zero_le _, Nat.zero_le _⟩) hP hD hS hA (fun r9 u9 H locs hw hp hd hs => ?_)
  clear hP hD hS
  obtain ⟨rfl, rfl⟩ := hw
  have hP := hp; have hD := hd; have hS := hs; clear hp hd hs
  obtain ⟨q6, h5, h⟩ := dV_some h
  refine dw_kv (va_runV (As := [.ref (ad 20)]) (rest := []) ⟨hx, hb, hml, hown, hts⟩ (qX9_spread_s0_s20 l D ty eo _ ad nc ns q3  q6 h5) (cwV 1 hts gX9_comes_X9_spread rfl rfl rfl hd_X9_spread_v ⟨Nat.le_of_ble_eq_true rfl, Nat.le_of_ble_eq_true rfl⟩) (pvF_9_0 hK hN hE hP hD hS hA) rfl rfl hl.1 rfl (lv_room (Nat.le_of_ble_eq_true rfl)) dX9_comes_5 ⟨by show 0 + nc ≤ nc; omega, by show 0 + ns ≤ ns; omega⟩) hD hS hA (fun u9 H locs hw hp hd hs => ?_)
  clear hP hD hS
  obtain ⟨ad, hag1, rfl⟩ := hw
  replace hag := dAg_t hag hag1
  rw [dAg_s hag1 0 (by decide)] at hl
  clear hag1
  refine dw_up (c2 := nc) (s2 := ns) (by omega) (by omega) ?_
  have hP := hp; have hD := hd; have hS := hs; clear hp hd hs
  refine lv_aload_n hx hb dX9_comes_8 rfl (lv_at hl 0 rfl) ?_
  refine va_get (D := D) (ci := 9) (v := .ref (ad 32)) (C := RX9) (T := TX9) (N := 19) hx hb hts u9_wsX9_comes_X9 hown hK hP 0 rfl rfl 10 (by decide) (hts (.fieldLink RX9 80 "TurnedFloors" "paper" "LTurnedFloors$Paper;") f9_wsX9_comes_878) (fun _ h9 => h9) rfl dX9_comes_9 ?_
  refine lv_iload_n hx hb dX9_comes_12 rfl (lv_at hl 1 rfl) ?_
  obtain ⟨r7, q9, h8, h⟩ := dB_some h
  refine dw_ki (va_runV (As := [.int p1]) (rest := []) ⟨hx, hb, hml, hown, hts⟩ (qX3_turnsToNumber_s32 l D ty eo _ ad q6 p1 r7 q9 h8) (cwV 1 hts gX9_comes_X3_turnsToNumber rfl rfl rfl hd_X3_turnsToNumber_v ⟨Nat.le_of_ble_eq_true rfl, Nat.le_of_ble_eq_true rfl⟩) (pvF_3_32 hK hN hE hP hD hS hA) rfl rfl hl.1 rfl (lv_room (Nat.le_of_ble_eq_true rfl)) dX9_comes_13 ⟨Nat.le_refl _, Nat.le_refl _⟩) hD hS hA (fun r9 u9 H locs hw hp hd hs => ?_)
  clear hP hD hS
  obtain ⟨rfl, rfl⟩ := hw
  have hP := hp; have hD := hd; have hS := hs; clear hp hd hs
  cases h
  exact kz_iret hx hb hr hlocks hP hK hD hS dX9_comes_16 ⟨rfl, ad, hag, rfl⟩

set_option maxHeartbeats 4000000 in
set_option maxRecDepth 100000 in
theorem qX3_turnsToTop_s32 (l : Launch) (D : va_G) (ty : Nat → ClassId) (eo : Nat → Nat) (sz : Nat) (ad : Nat → Nat) (q : dK) (p1 : Int32) (o1 : Int32) (o2 : dK) (h : zX3_turnsToTop_s32 q p1 = some (o1, o2)) : Met l yX3_turnsToTop wsX3_turnsToTop ({ frames := 3, cells := 0, slots := 0, locals := 73 } : Room) (va_Pc [.ref (ad 32), .int p1] (kz_pre D ty eo (wF ty ad q) sz)) (va_Qi (fun (r : Int32) (u : va_W) => o1 = r ∧ wF ty ad o2 = u) (kz_B D ty (va_A (wF ty ad q) sz)) (va_A (wF ty ad q) sz)) 0 0 (va_A (wF ty ad q) sz) := by
  refine Met.ofW (cc := cX3_turnsToTop) (maxL := 2) (ret := (some .int)) (by decide) rfl ?_
  intro p e s m args below meth c s₁ B hml hv
  obtain ⟨rfl, hsz, hP, hK, hD0, hN, hE⟩ := hv
  have hx := B.exec
  have hb := B.bytes
  have hr := B.returns
  have hts := atoms_spec (ws := wsX3_turnsToTop) B.pre
  have hown : s.vm.findClass RX3 = some m.cls := findClass_of_methodNamed B.named
  have hlocks := B.notSynchronized
  subst hsz
  have hD := hD0.self (sz := s.heap.size)
  generalize hAe : va_A (wF ty ad q) s.heap.size = A at hD hE ⊢
  have hA : ∀ q : Nat, s.heap.size ≤ q → A q := fun q h => by rw [← hAe]; exact Or.inr h
  clear hAe
  have hS : va_S A s.heap s.heap [] := va_S.rf
  have hl := lv_entry ([.ref (ad 32), .int p1]) (n := 2) (Nat.le_of_ble_eq_true rfl)
  rw [lg_entry_eq]
  generalize (lg_sl ([.ref (ad 32), .int p1]) ++ List.replicate (2 - (lg_sl ([.ref (ad 32), .int p1])).length) Slot.unset).toArray = ls at hl ⊢
  have hl : lv_has ls 2 [(0, .ref (ad 32)), (1, .int p1)] := hl
  have C : dc_C p s m _ meth c cX3_turnsToTop (some .int) 2 RX3 wsX3_turnsToTop D ty eo A := ⟨hx, hb, hr, hts, hown, hlocks, hml, hK, hN, hE, hA⟩
  unfold zX3_turnsToTop_s32 at h
  refine lv_aload_n hx hb dX3_turnsToTop_0 rfl (lv_at hl 0 rfl) ?_
  refine lv_iconst (v := 2) hx hb dX3_turnsToTop_1 (by decide) ?_
  refine lv_aload_n hx hb dX3_turnsToTop_2 rfl (lv_at hl 0 rfl) ?_
  refine lv_iload_n hx hb dX3_turnsToTop_3 rfl (lv_at hl 1 rfl) ?_
  obtain ⟨r1, q3, h2, h⟩ := dB_some h
  refine dw_ki (va_runV (As := [.int p1]) (rest := [.int 2, .ref (ad 32)]) ⟨hx, hb, hml, hown, hts⟩ (qX3_indexOfRank_s32 l D ty eo _ ad q p1 r1 q3 h2) (cwV 1 hts gX3_turnsToTop_X3_indexOfRank rfl rfl rfl hd_X3_indexOfRank_v ⟨Nat.le_of_ble_eq_true rfl, Nat.le_of_ble_eq_true rfl⟩) (pvF_3_32 hK hN hE hP hD hS hA) rfl rfl hl.1 rfl (lv_room (Nat.le_of_ble_eq_true rfl)) dX3_turnsToTop_4 ⟨Nat.le_of_ble_eq_true rfl, Nat.le_of_ble_eq_true rfl⟩) hD hS hA (fun r9 u9 H locs hw hp hd hs => ?_)
  clear hP hD hS
  obtain ⟨rfl, rfl⟩ := hw
  have hP := hp; have hD := hd; have hS := hs; clear hp hd hs
  obtain ⟨r4, q6, h5, h⟩ := dB_some h
  refine dw_ki (va_runV (As := [.int 2, .int r1]) (rest := []) ⟨hx, hb, hml, hown, hts⟩ (qX3_nearest_s32 l D ty eo _ ad q3 2 r1 r4 q6 h5) (cwV 2 hts gX3_turnsToTop_X3_nearest rfl rfl rfl hd_X3_nearest_v ⟨Nat.le_of_ble_eq_true rfl, Nat.le_of_ble_eq_true rfl⟩) (pvF_3_32 hK hN hE hP hD hS hA) rfl rfl hl.1 rfl (lv_room (Nat.le_of_ble_eq_true rfl)) dX3_turnsToTop_7 ⟨Nat.le_of_ble_eq_true rfl, Nat.le_of_ble_eq_true rfl⟩) hD hS hA (fun r9 u9 H locs hw hp hd hs => ?_)
  clear hP hD hS
  obtain ⟨rfl, rfl⟩ := hw
  have hP := hp; have hD := hd; have hS := hs; clear hp hd hs
  cases h
  exact kz_iret hx hb hr hlocks hP hK hD hS dX3_turnsToTop_10 ⟨rfl, rfl⟩

set_option maxHeartbeats 4000000 in
set_option maxRecDepth 100000 in
theorem qX9_view_s0 (l : Launch) (D : va_G) (ty : Nat → ClassId) (eo : Nat → Nat) (sz : Nat) (ad : Nat → Nat) (nc ns : Nat) (q : dK) (p1 : Int32) (o1 : Int32) (o2 : dK) (h : zX9_view_s0 nc ns q p1 = some (o1, o2)) : Met l yX9_view wsX9_view ({ frames := 6, cells := nc, slots := ns, locals := 160 } : Room) (va_Pc [.ref (ad 0), .int p1] (kz_pre D ty eo (wF ty ad q) sz)) (va_Qi (fun (r : Int32) (u : va_W) => o1 = r ∧ ∃ ad9 : Nat → Nat, dAg ad ad9 ∧ wF ty ad9 o2 = u) (kz_B D ty (va_A (wF ty ad q) sz)) (va_A (wF ty ad q) sz)) nc ns (va_A (wF ty ad q) sz) := by
  have hag : dAg ad ad := fun _ _ => rfl
  refine Met.ofW (cc := cX9_view) (maxL := 2) (ret := (some .int)) (by decide) rfl ?_
  intro p e s m args below meth c s₁ B hml hv
  obtain ⟨rfl, hsz, hP, hK, hD0, hN, hE⟩ := hv
  have hx := B.exec
  have hb := B.bytes
  have hr := B.returns
  have hts := atoms_spec (ws := wsX9_view) B.pre
  have hown : s.vm.findClass RX9 = some m.cls := findClass_of_methodNamed B.named
  have hlocks := B.notSynchronized
  subst hsz
  have hD := hD0.self (sz := s.heap.size)
  generalize hAe : va_A (wF ty ad q) s.heap.size = A at hD hE ⊢
  have hA : ∀ q : Nat, s.heap.size ≤ q → A q := fun q h => by rw [← hAe]; exact Or.inr h
  clear hAe
  have hS : va_S A s.heap s.heap [] := va_S.rf
  have hl := lv_entry ([.ref (ad 0), .int p1]) (n := 2) (Nat.le_of_ble_eq_true rfl)
  rw [lg_entry_eq]
  generalize (lg_sl ([.ref (ad 0), .int p1]) ++ List.replicate (2 - (lg_sl ([.ref (ad 0), .int p1])).length) Slot.unset).toArray = ls at hl ⊢
  have hl : lv_has ls 2 [(0, .ref (ad 0)), (1, .int p1)] := hl
  have C : dc_C p s m _ meth c cX9_view (some .int) 2 RX9 wsX9_view D ty eo A := ⟨hx, hb, hr, hts, hown, hlocks, hml, hK, hN, hE, hA⟩
  unfold zX9_view_s0 at h
  refine lv_aload_n hx hb dX9_view_0 rfl (lv_at hl 0 rfl) ?_
  refine va_get (D := D) (ci := 9) (v := .ref (ad 1)) (C := RX9) (T := TX9) (N := 19) hx hb hts u9_wsX9_view_X9 hown hK hP 0 rfl rfl 0 (by decide) (hts (.fieldLink RX9 10 "TurnedFloors" "state" "LTurnedFloors$State;") f9_wsX9_view_881) (fun _ h9 => h9) rfl dX9_view_1 ?_
  refine va_getN (D := D) (ci := 6) (v := .ref (ad 2)) (C := RX6) (T := TX6) (N := 10) hx hb hts u9_wsX9_view_X6 hown hK hP 1 rfl rfl 0 (by decide) (hN.use (.fieldLinkNest "TurnedFloors" 122 "TurnedFloors$State" "tower" "LTurnedFloors$Tower;" "TurnedFloors") nn9_0) (fun _ h9 => h9) rfl dX9_view_4 ?_
  refine lv_iload_n hx hb dX9_view_7 rfl (lv_at hl 1 rfl) ?_
  obtain ⟨r1, q3, h2, h⟩ := dB_some h
  refine dw_ki (va_runV (As := [.int p1]) (rest := []) ⟨hx, hb, hml, hown, hts⟩ (qX8_has_s2 l D ty eo _ ad q p1 r1 q3 h2) (cwV 1 hts gX9_view_X8_has rfl rfl rfl hd_X8_has_v ⟨Nat.le_of_ble_eq_true rfl, Nat.le_of_ble_eq_true rfl⟩) (pvF_8_2 hK hN hE hP hD hS hA) rfl rfl hl.1 rfl (lv_room (Nat.le_of_ble_eq_true rfl)) dX9_view_8 ⟨Nat.zero_le _, Nat.zero_le _⟩) hD hS hA (fun r9 u9 H locs hw hp hd hs => ?_)
  clear hP hD hS
  obtain ⟨rfl, rfl⟩ := hw
  have hP := hp; have hD := hd; have hS := hs; clear hp hd hs
  refine lv_if_ne (tgt := 16) hx hb dX9_view_11 (by decide) (fun c9 => ?_) (fun c9 => ?_)
  · rw [if_neg c9] at h
    refine lv_aload_n hx hb dX9_view_16 rfl (lv_at hl 0 rfl) ?_
    refine lv_aload_n hx hb dX9_view_17 rfl (lv_at hl 0 rfl) ?_
    obtain ⟨q6, h5, h⟩ := dV_some h
    refine dw_kq (va_runV (As := []) (rest := [.ref (ad 0)]) ⟨hx, hb, hml, hown, hts⟩ (qX9_seated_s0 l D ty eo _ ad q3  q6 h5) (cwV 0 hts gX9_view_X9_seated rfl rfl rfl hd_X9_seated_v ⟨Nat.le_of_ble_eq_true rfl, Nat.le_of_ble_eq_true rfl⟩) (pvF_9_0 hK hN hE hP hD hS hA) rfl rfl hl.1 rfl (lv_room (Nat.le_of_ble_eq_true rfl)) dX9_view_18 ⟨Nat.zero_le _, Nat.zero_le _⟩) hP hD hS hA (fun r9 u9 H locs hw hp hd hs => ?_)
    clear hP hD hS
    obtain ⟨rfl, rfl⟩ := hw
    have hP := hp; have hD := hd; have hS := hs; clear hp hd hs
    obtain ⟨q9, h8, h⟩ := dV_some h
    refine dw_kv (va_runV (As := [.ref (ad 20)]) (rest := []) ⟨hx, hb, hml, hown, hts⟩ (qX9_spread_s0_s20 l D ty eo _ ad nc ns q6  q9 h8) (cwV 1 hts gX9_view_X9_spread rfl rfl rfl hd_X9_spread_v ⟨Nat.le_of_ble_eq_true rfl, Nat.le_of_ble_eq_true rfl⟩) (pvF_9_0 hK hN hE hP hD hS hA) rfl rfl hl.1 rfl (lv_room (Nat.le_of_ble_eq_true rfl)) dX9_view_21 ⟨by show 0 + nc ≤ nc; omega, by show 0 + ns ≤ ns; omega⟩) hD hS hA (fun u9 H locs hw hp hd hs => ?_)
    clear hP hD hS
    obtain ⟨ad, hag1, rfl⟩ := hw
    replace hag := dAg_t hag hag1
    rw [dAg_s hag1 0 (by decide)] at hl
    clear hag1
    refine dw_up (c2 := nc) (s2 := ns) (by omega) (by omega) ?_
    have hP := hp; have hD := hd; have hS := hs; clear hp hd hs
    refine lv_aload_n hx hb dX9_view_24 rfl (lv_at hl 0 rfl) ?_
    refine va_get (D := D) (ci := 9) (v := .ref (ad 32)) (C := RX9) (T := TX9) (N := 19) hx hb hts u9_wsX9_view_X9 hown hK hP 0 rfl rfl 10 (by decide) (hts (.fieldLink RX9 80 "TurnedFloors" "paper" "LTurnedFloors$Paper;") f9_wsX9_view_882) (fun _ h9 => h9) rfl dX9_view_25 ?_
    refine lv_iload_n hx hb dX9_view_28 rfl (lv_at hl 1 rfl) ?_
    obtain ⟨r10, q12, h11, h⟩ := dB_some h
    refine dw_ki (va_runV (As := [.int p1]) (rest := []) ⟨hx, hb, hml, hown, hts⟩ (qX3_turnsToTop_s32 l D ty eo _ ad q9 p1 r10 q12 h11) (cwV 1 hts gX9_view_X3_turnsToTop rfl rfl rfl hd_X3_turnsToTop_v ⟨Nat.le_of_ble_eq_true rfl, Nat.le_of_ble_eq_true rfl⟩) (pvF_3_32 hK hN hE hP hD hS hA) rfl rfl hl.1 rfl (lv_room (Nat.le_of_ble_eq_true rfl)) dX9_view_29 ⟨Nat.le_refl _, Nat.le_refl _⟩) hD hS hA (fun r9 u9 H locs hw hp hd hs => ?_)
    clear hP hD hS
    obtain ⟨rfl, rfl⟩ := hw
    have hP := hp; have hD := hd; have hS := hs; clear hp hd hs
    cases h
    exact kz_iret hx hb hr hlocks hP hK hD hS dX9_view_32 ⟨rfl, ad, hag, rfl⟩
  · rw [if_pos c9] at h
    refine lv_iconst (v := (-1)) hx hb dX9_view_14 (by decide) ?_
    refine dw_up (c2 := nc) (s2 := ns) (Nat.zero_le _) (Nat.zero_le _) ?_
    cases h
    exact kz_iret hx hb hr hlocks hP hK hD hS dX9_view_15 ⟨rfl, ad, hag, rfl⟩
end
section
set_option maxRecDepth 20000 in
theorem ggX6_agrees_X8_rankBehindTurn : GoodIn wsX6_agrees wsX8_rankBehindTurn := wd_c vW9_ok mvW9_623
set_option maxRecDepth 20000 in
theorem gX6_agrees_X8_rankBehindTurn : GoodIn wsX6_agrees (wsV RX6 65 RX8 yX8_rankBehindTurn wsX8_rankBehindTurn) := goodIn_app (wd_l vW9_ok _ pvW9_76) ggX6_agrees_X8_rankBehindTurn
theorem da9_dX6_agrees_0 : (decode cX6_agrees 0 = .ok (.iconst 0, 1)) ∧ (decode cX6_agrees 1 = .ok (.istore_n 2, 1)) ∧ (decode cX6_agrees 2 = .ok (.iload_n 2, 1)) ∧ (decode cX6_agrees 3 = .ok (.aload_n 0, 1)) ∧ (decode cX6_agrees 4 = .ok (.getfield 35, 3)) ∧ (decode cX6_agrees 7 = .ok (.if_icmp .ge 34, 3)) ∧ (decode cX6_agrees 10 = .ok (.aload_n 0, 1)) ∧ (decode cX6_agrees 11 = .ok (.getfield 12, 3)) ∧ (decode cX6_agrees 14 = .ok (.iload_n 1, 1)) ∧ (decode cX6_agrees 15 = .ok (.aload_n 0, 1)) ∧ (decode cX6_agrees 16 = .ok (.getfield 28, 3)) ∧ (decode cX6_agrees 19 = .ok (.iload_n 2, 1)) ∧ (decode cX6_agrees 20 = .ok (.iaload, 1)) ∧ (decode cX6_agrees 21 = .ok (.invokevirtual 65, 3)) ∧ (decode cX6_agrees 24 = .ok (.aload_n 0, 1)) ∧ (decode cX6_agrees 25 = .ok (.getfield 32, 3)) := by decide +kernel
theorem dX6_agrees_0 : decode cX6_agrees 0 = .ok (.iconst 0, 1) := da9_dX6_agrees_0.1
theorem dX6_agrees_1 : decode cX6_agrees 1 = .ok (.istore_n 2, 1) := da9_dX6_agrees_0.2.1
theorem dX6_agrees_2 : decode cX6_agrees 2 = .ok (.iload_n 2, 1) := da9_dX6_agrees_0.2.2.1
theorem dX6_agrees_3 : decode cX6_agrees 3 = .ok (.aload_n 0, 1) := da9_dX6_agrees_0.2.2.2.1
theorem dX6_agrees_4 : decode cX6_agrees 4 = .ok (.getfield 35, 3) := da9_dX6_agrees_0.2.2.2.2.1
theorem dX6_agrees_7 : decode cX6_agrees 7 = .ok (.if_icmp .ge 34, 3) := da9_dX6_agrees_0.2.2.2.2.2.1
theorem dX6_agrees_10 : decode cX6_agrees 10 = .ok (.aload_n 0, 1) := da9_dX6_agrees_0.2.2.2.2.2.2.1
theorem dX6_agrees_11 : decode cX6_agrees 11 = .ok (.getfield 12, 3) := da9_dX6_agrees_0.2.2.2.2.2.2.2.1
theorem dX6_agrees_14 : decode cX6_agrees 14 = .ok (.iload_n 1, 1) := da9_dX6_agrees_0.2.2.2.2.2.2.2.2.1
theorem dX6_agrees_15 : decode cX6_agrees 15 = .ok (.aload_n 0, 1) := da9_dX6_agrees_0.2.2.2.2.2.2.2.2.2.1
theorem dX6_agrees_16 : decode cX6_agrees 16 = .ok (.getfield 28, 3) := da9_dX6_agrees_0.2.2.2.2.2.2.2.2.2.2.1
theorem dX6_agrees_19 : decode cX6_agrees 19 = .ok (.iload_n 2, 1) := da9_dX6_agrees_0.2.2.2.2.2.2.2.2.2.2.2.1
theorem dX6_agrees_20 : decode cX6_agrees 20 = .ok (.iaload, 1) := da9_dX6_agrees_0.2.2.2.2.2.2.2.2.2.2.2.2.1
theorem dX6_agrees_21 : decode cX6_agrees 21 = .ok (.invokevirtual 65, 3) := da9_dX6_agrees_0.2.2.2.2.2.2.2.2.2.2.2.2.2.1
theorem dX6_agrees_24 : decode cX6_agrees 24 = .ok (.aload_n 0, 1) := da9_dX6_agrees_0.2.2.2.2.2.2.2.2.2.2.2.2.2.2.1
theorem dX6_agrees_25 : decode cX6_agrees 25 = .ok (.getfield 32, 3) := da9_dX6_agrees_0.2.2.2.2.2.2.2.2.2.2.2.2.2.2.2
theorem da9_dX6_agrees_28 : (decode cX6_agrees 28 = .ok (.iload_n 2, 1)) ∧ (decode cX6_agrees 29 = .ok (.iaload, 1)) ∧ (decode cX6_agrees 30 = .ok (.if_icmp .eq 5, 3)) ∧ (decode cX6_agrees 33 = .ok (.iconst 0, 1)) ∧ (decode cX6_agrees 34 = .ok (.ireturn, 1)) ∧ (decode cX6_agrees 35 = .ok (.iinc 2 1, 3)) ∧ (decode cX6_agrees 38 = .ok (.goto (-36), 3)) ∧ (decode cX6_agrees 41 = .ok (.iconst 1, 1)) ∧ (decode cX6_agrees 42 = .ok (.ireturn, 1)) := by decide +kernel
theorem dX6_agrees_28 : decode cX6_agrees 28 = .ok (.iload_n 2, 1) := da9_dX6_agrees_28.1
theorem dX6_agrees_29 : decode cX6_agrees 29 = .ok (.iaload, 1) := da9_dX6_agrees_28.2.1
theorem dX6_agrees_30 : decode cX6_agrees 30 = .ok (.if_icmp .eq 5, 3) := da9_dX6_agrees_28.2.2.1
theorem dX6_agrees_33 : decode cX6_agrees 33 = .ok (.iconst 0, 1) := da9_dX6_agrees_28.2.2.2.1
theorem dX6_agrees_34 : decode cX6_agrees 34 = .ok (.ireturn, 1) := da9_dX6_agrees_28.2.2.2.2.1
theorem dX6_agrees_35 : decode cX6_agrees 35 = .ok (.iinc 2 1, 3) := da9_dX6_agrees_28.2.2.2.2.2.1
theorem dX6_agrees_38 : decode cX6_agrees 38 = .ok (.goto (-36), 3) := da9_dX6_agrees_28.2.2.2.2.2.2.1
theorem dX6_agrees_41 : decode cX6_agrees 41 = .ok (.iconst 1, 1) := da9_dX6_agrees_28.2.2.2.2.2.2.2.1
theorem dX6_agrees_42 : decode cX6_agrees 42 = .ok (.ireturn, 1) := da9_dX6_agrees_28.2.2.2.2.2.2.2.2
theorem da9_dX8_rises_0 : (decode cX8_rises 0 = .ok (.iconst (-1), 1)) ∧ (decode cX8_rises 1 = .ok (.istore_n 3, 1)) ∧ (decode cX8_rises 2 = .ok (.iconst 0, 1)) ∧ (decode cX8_rises 3 = .ok (.istore 4, 2)) ∧ (decode cX8_rises 5 = .ok (.iload 4, 2)) ∧ (decode cX8_rises 7 = .ok (.aload_n 0, 1)) ∧ (decode cX8_rises 8 = .ok (.getfield 18, 3)) ∧ (decode cX8_rises 11 = .ok (.if_icmp .ge 56, 3)) ∧ (decode cX8_rises 14 = .ok (.iload_n 1, 1)) ∧ (decode cX8_rises 15 = .ok (.iload 4, 2)) ∧ (decode cX8_rises 17 = .ok (.ishr, 1)) ∧ (decode cX8_rises 18 = .ok (.iconst 1, 1)) ∧ (decode cX8_rises 19 = .ok (.iand, 1)) ∧ (decode cX8_rises 20 = .ok (.iconst 1, 1)) ∧ (decode cX8_rises 21 = .ok (.if_icmp .ne 40, 3)) ∧ (decode cX8_rises 24 = .ok (.aload_n 0, 1)) := by decide +kernel
theorem dX8_rises_0 : decode cX8_rises 0 = .ok (.iconst (-1), 1) := da9_dX8_rises_0.1
theorem dX8_rises_1 : decode cX8_rises 1 = .ok (.istore_n 3, 1) := da9_dX8_rises_0.2.1
theorem dX8_rises_2 : decode cX8_rises 2 = .ok (.iconst 0, 1) := da9_dX8_rises_0.2.2.1
theorem dX8_rises_3 : decode cX8_rises 3 = .ok (.istore 4, 2) := da9_dX8_rises_0.2.2.2.1
theorem dX8_rises_5 : decode cX8_rises 5 = .ok (.iload 4, 2) := da9_dX8_rises_0.2.2.2.2.1
theorem dX8_rises_7 : decode cX8_rises 7 = .ok (.aload_n 0, 1) := da9_dX8_rises_0.2.2.2.2.2.1
theorem dX8_rises_8 : decode cX8_rises 8 = .ok (.getfield 18, 3) := da9_dX8_rises_0.2.2.2.2.2.2.1
theorem dX8_rises_11 : decode cX8_rises 11 = .ok (.if_icmp .ge 56, 3) := da9_dX8_rises_0.2.2.2.2.2.2.2.1
theorem dX8_rises_14 : decode cX8_rises 14 = .ok (.iload_n 1, 1) := da9_dX8_rises_0.2.2.2.2.2.2.2.2.1
theorem dX8_rises_15 : decode cX8_rises 15 = .ok (.iload 4, 2) := da9_dX8_rises_0.2.2.2.2.2.2.2.2.2.1
theorem dX8_rises_17 : decode cX8_rises 17 = .ok (.ishr, 1) := da9_dX8_rises_0.2.2.2.2.2.2.2.2.2.2.1
theorem dX8_rises_18 : decode cX8_rises 18 = .ok (.iconst 1, 1) := da9_dX8_rises_0.2.2.2.2.2.2.2.2.2.2.2.1
theorem dX8_rises_19 : decode cX8_rises 19 = .ok (.iand, 1) := da9_dX8_rises_0.2.2.2.2.2.2.2.2.2.2.2.2.1
theorem dX8_rises_20 : decode cX8_rises 20 = .ok (.iconst 1, 1) := da9_dX8_rises_0.2.2.2.2.2.2.2.2.2.2.2.2.2.1
theorem dX8_rises_21 : decode cX8_rises 21 = .ok (.if_icmp .ne 40, 3) := da9_dX8_rises_0.2.2.2.2.2.2.2.2.2.2.2.2.2.2.1
theorem dX8_rises_24 : decode cX8_rises 24 = .ok (.aload_n 0, 1) := da9_dX8_rises_0.2.2.2.2.2.2.2.2.2.2.2.2.2.2.2
theorem da9_dX8_rises_25 : (decode cX8_rises 25 = .ok (.getfield 9, 3)) ∧ (decode cX8_rises 28 = .ok (.iload 4, 2)) ∧ (decode cX8_rises 30 = .ok (.iaload, 1)) ∧ (decode cX8_rises 31 = .ok (.iload_n 3, 1)) ∧ (decode cX8_rises 32 = .ok (.if_icmp .lt 19, 3)) ∧ (decode cX8_rises 35 = .ok (.iload_n 2, 1)) ∧ (decode cX8_rises 36 = .ok (.iconst 1, 1)) ∧ (decode cX8_rises 37 = .ok (.if_icmp .ne 16, 3)) ∧ (decode cX8_rises 40 = .ok (.aload_n 0, 1)) ∧ (decode cX8_rises 41 = .ok (.getfield 15, 3)) ∧ (decode cX8_rises 44 = .ok (.iload 4, 2)) ∧ (decode cX8_rises 46 = .ok (.iaload, 1)) ∧ (decode cX8_rises 47 = .ok (.iconst 1, 1)) ∧ (decode cX8_rises 48 = .ok (.if_icmp .ne 5, 3)) ∧ (decode cX8_rises 51 = .ok (.iconst 0, 1)) ∧ (decode cX8_rises 52 = .ok (.ireturn, 1)) := by decide +kernel
theorem dX8_rises_25 : decode cX8_rises 25 = .ok (.getfield 9, 3) := da9_dX8_rises_25.1
theorem dX8_rises_28 : decode cX8_rises 28 = .ok (.iload 4, 2) := da9_dX8_rises_25.2.1
theorem dX8_rises_30 : decode cX8_rises 30 = .ok (.iaload, 1) := da9_dX8_rises_25.2.2.1
theorem dX8_rises_31 : decode cX8_rises 31 = .ok (.iload_n 3, 1) := da9_dX8_rises_25.2.2.2.1
theorem dX8_rises_32 : decode cX8_rises 32 = .ok (.if_icmp .lt 19, 3) := da9_dX8_rises_25.2.2.2.2.1
theorem dX8_rises_35 : decode cX8_rises 35 = .ok (.iload_n 2, 1) := da9_dX8_rises_25.2.2.2.2.2.1
theorem dX8_rises_36 : decode cX8_rises 36 = .ok (.iconst 1, 1) := da9_dX8_rises_25.2.2.2.2.2.2.1
theorem dX8_rises_37 : decode cX8_rises 37 = .ok (.if_icmp .ne 16, 3) := da9_dX8_rises_25.2.2.2.2.2.2.2.1
theorem dX8_rises_40 : decode cX8_rises 40 = .ok (.aload_n 0, 1) := da9_dX8_rises_25.2.2.2.2.2.2.2.2.1
theorem dX8_rises_41 : decode cX8_rises 41 = .ok (.getfield 15, 3) := da9_dX8_rises_25.2.2.2.2.2.2.2.2.2.1
theorem dX8_rises_44 : decode cX8_rises 44 = .ok (.iload 4, 2) := da9_dX8_rises_25.2.2.2.2.2.2.2.2.2.2.1
theorem dX8_rises_46 : decode cX8_rises 46 = .ok (.iaload, 1) := da9_dX8_rises_25.2.2.2.2.2.2.2.2.2.2.2.1
theorem dX8_rises_47 : decode cX8_rises 47 = .ok (.iconst 1, 1) := da9_dX8_rises_25.2.2.2.2.2.2.2.2.2.2.2.2.1
theorem dX8_rises_48 : decode cX8_rises 48 = .ok (.if_icmp .ne 5, 3) := da9_dX8_rises_25.2.2.2.2.2.2.2.2.2.2.2.2.2.1
theorem dX8_rises_51 : decode cX8_rises 51 = .ok (.iconst 0, 1) := da9_dX8_rises_25.2.2.2.2.2.2.2.2.2.2.2.2.2.2.1
theorem dX8_rises_52 : decode cX8_rises 52 = .ok (.ireturn, 1) := da9_dX8_rises_25.2.2.2.2.2.2.2.2.2.2.2.2.2.2.2
theorem da9_dX8_rises_53 : (decode cX8_rises 53 = .ok (.aload_n 0, 1)) ∧ (decode cX8_rises 54 = .ok (.getfield 9, 3)) ∧ (decode cX8_rises 57 = .ok (.iload 4, 2)) ∧ (decode cX8_rises 59 = .ok (.iaload, 1)) ∧ (decode cX8_rises 60 = .ok (.istore_n 3, 1)) ∧ (decode cX8_rises 61 = .ok (.iinc 4 1, 3)) ∧ (decode cX8_rises 64 = .ok (.goto (-59), 3)) ∧ (decode cX8_rises 67 = .ok (.iconst 1, 1)) ∧ (decode cX8_rises 68 = .ok (.ireturn, 1)) := by decide +kernel
theorem dX8_rises_53 : decode cX8_rises 53 = .ok (.aload_n 0, 1) := da9_dX8_rises_53.1
theorem dX8_rises_54 : decode cX8_rises 54 = .ok (.getfield 9, 3) := da9_dX8_rises_53.2.1
theorem dX8_rises_57 : decode cX8_rises 57 = .ok (.iload 4, 2) := da9_dX8_rises_53.2.2.1
theorem dX8_rises_59 : decode cX8_rises 59 = .ok (.iaload, 1) := da9_dX8_rises_53.2.2.2.1
theorem dX8_rises_60 : decode cX8_rises 60 = .ok (.istore_n 3, 1) := da9_dX8_rises_53.2.2.2.2.1
theorem dX8_rises_61 : decode cX8_rises 61 = .ok (.iinc 4 1, 3) := da9_dX8_rises_53.2.2.2.2.2.1
theorem dX8_rises_64 : decode cX8_rises 64 = .ok (.goto (-59), 3) := da9_dX8_rises_53.2.2.2.2.2.2.1
theorem dX8_rises_67 : decode cX8_rises 67 = .ok (.iconst 1, 1) := da9_dX8_rises_53.2.2.2.2.2.2.2.1
theorem dX8_rises_68 : decode cX8_rises 68 = .ok (.ireturn, 1) := da9_dX8_rises_53.2.2.2.2.2.2.2.2
set_option maxRecDepth 20000 in
theorem ggX8_rankBehindTurn_X8_isFloor : GoodIn wsX8_rankBehindTurn wsX8_isFloor := wd_c vW9_ok mvW9_40
set_option maxRecDepth 20000 in
theorem gX8_rankBehindTurn_X8_isFloor : GoodIn wsX8_rankBehindTurn (wsV RX8 28 RX8 yX8_isFloor wsX8_isFloor) := goodIn_app (wd_l vW9_ok _ pvW9_77) ggX8_rankBehindTurn_X8_isFloor
theorem da9_dX8_rankBehindTurn_0 : (decode cX8_rankBehindTurn 0 = .ok (.iload_n 2, 1)) ∧ (decode cX8_rankBehindTurn 1 = .ok (.iload_n 1, 1)) ∧ (decode cX8_rankBehindTurn 2 = .ok (.if_icmp .ge 11, 3)) ∧ (decode cX8_rankBehindTurn 5 = .ok (.iload_n 1, 1)) ∧ (decode cX8_rankBehindTurn 6 = .ok (.iconst 1, 1)) ∧ (decode cX8_rankBehindTurn 7 = .ok (.isub, 1)) ∧ (decode cX8_rankBehindTurn 8 = .ok (.iload_n 2, 1)) ∧ (decode cX8_rankBehindTurn 9 = .ok (.isub, 1)) ∧ (decode cX8_rankBehindTurn 10 = .ok (.goto 4, 3)) ∧ (decode cX8_rankBehindTurn 13 = .ok (.iload_n 2, 1)) ∧ (decode cX8_rankBehindTurn 14 = .ok (.istore_n 3, 1)) ∧ (decode cX8_rankBehindTurn 15 = .ok (.aload_n 0, 1)) ∧ (decode cX8_rankBehindTurn 16 = .ok (.iload_n 3, 1)) ∧ (decode cX8_rankBehindTurn 17 = .ok (.invokevirtual 28, 3)) ∧ (decode cX8_rankBehindTurn 20 = .ok (.ifCond .eq 12, 3)) ∧ (decode cX8_rankBehindTurn 23 = .ok (.aload_n 0, 1)) := by decide +kernel
theorem dX8_rankBehindTurn_0 : decode cX8_rankBehindTurn 0 = .ok (.iload_n 2, 1) := da9_dX8_rankBehindTurn_0.1
theorem dX8_rankBehindTurn_1 : decode cX8_rankBehindTurn 1 = .ok (.iload_n 1, 1) := da9_dX8_rankBehindTurn_0.2.1
theorem dX8_rankBehindTurn_2 : decode cX8_rankBehindTurn 2 = .ok (.if_icmp .ge 11, 3) := da9_dX8_rankBehindTurn_0.2.2.1
theorem dX8_rankBehindTurn_5 : decode cX8_rankBehindTurn 5 = .ok (.iload_n 1, 1) := da9_dX8_rankBehindTurn_0.2.2.2.1
theorem dX8_rankBehindTurn_6 : decode cX8_rankBehindTurn 6 = .ok (.iconst 1, 1) := da9_dX8_rankBehindTurn_0.2.2.2.2.1
theorem dX8_rankBehindTurn_7 : decode cX8_rankBehindTurn 7 = .ok (.isub, 1) := da9_dX8_rankBehindTurn_0.2.2.2.2.2.1
theorem dX8_rankBehindTurn_8 : decode cX8_rankBehindTurn 8 = .ok (.iload_n 2, 1) := da9_dX8_rankBehindTurn_0.2.2.2.2.2.2.1
theorem dX8_rankBehindTurn_9 : decode cX8_rankBehindTurn 9 = .ok (.isub, 1) := da9_dX8_rankBehindTurn_0.2.2.2.2.2.2.2.1
theorem dX8_rankBehindTurn_10 : decode cX8_rankBehindTurn 10 = .ok (.goto 4, 3) := da9_dX8_rankBehindTurn_0.2.2.2.2.2.2.2.2.1
theorem dX8_rankBehindTurn_13 : decode cX8_rankBehindTurn 13 = .ok (.iload_n 2, 1) := da9_dX8_rankBehindTurn_0.2.2.2.2.2.2.2.2.2.1
theorem dX8_rankBehindTurn_14 : decode cX8_rankBehindTurn 14 = .ok (.istore_n 3, 1) := da9_dX8_rankBehindTurn_0.2.2.2.2.2.2.2.2.2.2.1
theorem dX8_rankBehindTurn_15 : decode cX8_rankBehindTurn 15 = .ok (.aload_n 0, 1) := da9_dX8_rankBehindTurn_0.2.2.2.2.2.2.2.2.2.2.2.1
theorem dX8_rankBehindTurn_16 : decode cX8_rankBehindTurn 16 = .ok (.iload_n 3, 1) := da9_dX8_rankBehindTurn_0.2.2.2.2.2.2.2.2.2.2.2.2.1
theorem dX8_rankBehindTurn_17 : decode cX8_rankBehindTurn 17 = .ok (.invokevirtual 28, 3) := da9_dX8_rankBehindTurn_0.2.2.2.2.2.2.2.2.2.2.2.2.2.1
theorem dX8_rankBehindTurn_20 : decode cX8_rankBehindTurn 20 = .ok (.ifCond .eq 12, 3) := da9_dX8_rankBehindTurn_0.2.2.2.2.2.2.2.2.2.2.2.2.2.2.1
theorem dX8_rankBehindTurn_23 : decode cX8_rankBehindTurn 23 = .ok (.aload_n 0, 1) := da9_dX8_rankBehindTurn_0.2.2.2.2.2.2.2.2.2.2.2.2.2.2.2
theorem da9_dX8_rankBehindTurn_24 : (decode cX8_rankBehindTurn 24 = .ok (.getfield 9, 3)) ∧ (decode cX8_rankBehindTurn 27 = .ok (.iload_n 3, 1)) ∧ (decode cX8_rankBehindTurn 28 = .ok (.iaload, 1)) ∧ (decode cX8_rankBehindTurn 29 = .ok (.goto 4, 3)) ∧ (decode cX8_rankBehindTurn 32 = .ok (.iconst (-1), 1)) ∧ (decode cX8_rankBehindTurn 33 = .ok (.ireturn, 1)) := by decide +kernel
theorem dX8_rankBehindTurn_24 : decode cX8_rankBehindTurn 24 = .ok (.getfield 9, 3) := da9_dX8_rankBehindTurn_24.1
theorem dX8_rankBehindTurn_27 : decode cX8_rankBehindTurn 27 = .ok (.iload_n 3, 1) := da9_dX8_rankBehindTurn_24.2.1
theorem dX8_rankBehindTurn_28 : decode cX8_rankBehindTurn 28 = .ok (.iaload, 1) := da9_dX8_rankBehindTurn_24.2.2.1
theorem dX8_rankBehindTurn_29 : decode cX8_rankBehindTurn 29 = .ok (.goto 4, 3) := da9_dX8_rankBehindTurn_24.2.2.2.1
theorem dX8_rankBehindTurn_32 : decode cX8_rankBehindTurn 32 = .ok (.iconst (-1), 1) := da9_dX8_rankBehindTurn_24.2.2.2.2.1
theorem dX8_rankBehindTurn_33 : decode cX8_rankBehindTurn 33 = .ok (.ireturn, 1) := da9_dX8_rankBehindTurn_24.2.2.2.2.2
set_option maxRecDepth 20000 in
theorem ggX9_stays_X9_isBit : GoodIn wsX9_stays wsX9_isBit := wd_c vW9_ok mvW9_8
set_option maxRecDepth 20000 in
theorem gX9_stays_X9_isBit : GoodIn wsX9_stays (va_wsS RX9 115 yX9_isBit wsX9_isBit) := goodIn_app (wd_l vW9_ok _ pvW9_90) ggX9_stays_X9_isBit
set_option maxRecDepth 20000 in
theorem ggX9_stays_J6_bitCount_0f7a4 : GoodIn wsX9_stays wsJ6_bitCount_0f7a4 := wd_l vW9_ok _ (List.forall_mem_cons.mpr ⟨mvW9_425, (List.forall_mem_cons.mpr ⟨mvW9_426, (List.forall_mem_cons.mpr ⟨mvW9_427, (List.forall_mem_cons.mpr ⟨mvW9_428, (fun _ h => absurd h List.not_mem_nil)⟩)⟩)⟩)⟩)
set_option maxRecDepth 20000 in
theorem gX9_stays_J6_bitCount_0f7a4 : GoodIn wsX9_stays (va_wsS RX9 262 yJ6_bitCount_0f7a4 wsJ6_bitCount_0f7a4) := goodIn_app (wd_l vW9_ok _ pvW9_124) ggX9_stays_J6_bitCount_0f7a4
set_option maxRecDepth 20000 in
theorem ggX9_stays_X8_rises : GoodIn wsX9_stays wsX8_rises := wd_c vW9_ok mvW9_612
set_option maxRecDepth 20000 in
theorem gX9_stays_X8_rises : GoodIn wsX9_stays (wsV RX9 270 RX8 yX8_rises wsX8_rises) := goodIn_app (wd_l vW9_ok _ pvW9_125) ggX9_stays_X8_rises
theorem da9_dX9_stays_0 : (decode cX9_stays 0 = .ok (.iload_n 1, 1)) ∧ (decode cX9_stays 1 = .ok (.invokestatic 115, 3)) ∧ (decode cX9_stays 4 = .ok (.ifCond .ne 5, 3)) ∧ (decode cX9_stays 7 = .ok (.iconst (-1), 1)) ∧ (decode cX9_stays 8 = .ok (.ireturn, 1)) ∧ (decode cX9_stays 9 = .ok (.iconst 0, 1)) ∧ (decode cX9_stays 10 = .ok (.istore_n 2, 1)) ∧ (decode cX9_stays 11 = .ok (.iconst 1, 1)) ∧ (decode cX9_stays 12 = .ok (.istore_n 3, 1)) ∧ (decode cX9_stays 13 = .ok (.iload_n 3, 1)) ∧ (decode cX9_stays 14 = .ok (.iconst 1, 1)) ∧ (decode cX9_stays 15 = .ok (.aload_n 0, 1)) ∧ (decode cX9_stays 16 = .ok (.getfield 10, 3)) ∧ (decode cX9_stays 19 = .ok (.getfield 122, 3)) ∧ (decode cX9_stays 22 = .ok (.getfield 135, 3)) ∧ (decode cX9_stays 25 = .ok (.ishl, 1)) := by decide +kernel
theorem dX9_stays_0 : decode cX9_stays 0 = .ok (.iload_n 1, 1) := da9_dX9_stays_0.1
theorem dX9_stays_1 : decode cX9_stays 1 = .ok (.invokestatic 115, 3) := da9_dX9_stays_0.2.1
theorem dX9_stays_4 : decode cX9_stays 4 = .ok (.ifCond .ne 5, 3) := da9_dX9_stays_0.2.2.1
theorem dX9_stays_7 : decode cX9_stays 7 = .ok (.iconst (-1), 1) := da9_dX9_stays_0.2.2.2.1
theorem dX9_stays_8 : decode cX9_stays 8 = .ok (.ireturn, 1) := da9_dX9_stays_0.2.2.2.2.1
theorem dX9_stays_9 : decode cX9_stays 9 = .ok (.iconst 0, 1) := da9_dX9_stays_0.2.2.2.2.2.1
theorem dX9_stays_10 : decode cX9_stays 10 = .ok (.istore_n 2, 1) := da9_dX9_stays_0.2.2.2.2.2.2.1
theorem dX9_stays_11 : decode cX9_stays 11 = .ok (.iconst 1, 1) := da9_dX9_stays_0.2.2.2.2.2.2.2.1
theorem dX9_stays_12 : decode cX9_stays 12 = .ok (.istore_n 3, 1) := da9_dX9_stays_0.2.2.2.2.2.2.2.2.1
theorem dX9_stays_13 : decode cX9_stays 13 = .ok (.iload_n 3, 1) := da9_dX9_stays_0.2.2.2.2.2.2.2.2.2.1
theorem dX9_stays_14 : decode cX9_stays 14 = .ok (.iconst 1, 1) := da9_dX9_stays_0.2.2.2.2.2.2.2.2.2.2.1
theorem dX9_stays_15 : decode cX9_stays 15 = .ok (.aload_n 0, 1) := da9_dX9_stays_0.2.2.2.2.2.2.2.2.2.2.2.1
theorem dX9_stays_16 : decode cX9_stays 16 = .ok (.getfield 10, 3) := da9_dX9_stays_0.2.2.2.2.2.2.2.2.2.2.2.2.1
theorem dX9_stays_19 : decode cX9_stays 19 = .ok (.getfield 122, 3) := da9_dX9_stays_0.2.2.2.2.2.2.2.2.2.2.2.2.2.1
theorem dX9_stays_22 : decode cX9_stays 22 = .ok (.getfield 135, 3) := da9_dX9_stays_0.2.2.2.2.2.2.2.2.2.2.2.2.2.2.1
theorem dX9_stays_25 : decode cX9_stays 25 = .ok (.ishl, 1) := da9_dX9_stays_0.2.2.2.2.2.2.2.2.2.2.2.2.2.2.2
theorem da9_dX9_stays_26 : (decode cX9_stays 26 = .ok (.if_icmp .ge 43, 3)) ∧ (decode cX9_stays 29 = .ok (.iload_n 3, 1)) ∧ (decode cX9_stays 30 = .ok (.invokestatic 262, 3)) ∧ (decode cX9_stays 33 = .ok (.iload_n 2, 1)) ∧ (decode cX9_stays 34 = .ok (.invokestatic 262, 3)) ∧ (decode cX9_stays 37 = .ok (.if_icmp .le 26, 3)) ∧ (decode cX9_stays 40 = .ok (.aload_n 0, 1)) ∧ (decode cX9_stays 41 = .ok (.getfield 10, 3)) ∧ (decode cX9_stays 44 = .ok (.getfield 122, 3)) ∧ (decode cX9_stays 47 = .ok (.iload_n 3, 1)) ∧ (decode cX9_stays 48 = .ok (.aload_n 0, 1)) ∧ (decode cX9_stays 49 = .ok (.getfield 10, 3)) ∧ (decode cX9_stays 52 = .ok (.getfield 267, 3)) ∧ (decode cX9_stays 55 = .ok (.invokevirtual 270, 3)) ∧ (decode cX9_stays 58 = .ok (.ifCond .eq 5, 3)) ∧ (decode cX9_stays 61 = .ok (.iload_n 3, 1)) := by decide +kernel
theorem dX9_stays_26 : decode cX9_stays 26 = .ok (.if_icmp .ge 43, 3) := da9_dX9_stays_26.1
theorem dX9_stays_29 : decode cX9_stays 29 = .ok (.iload_n 3, 1) := da9_dX9_stays_26.2.1
theorem dX9_stays_30 : decode cX9_stays 30 = .ok (.invokestatic 262, 3) := da9_dX9_stays_26.2.2.1
theorem dX9_stays_33 : decode cX9_stays 33 = .ok (.iload_n 2, 1) := da9_dX9_stays_26.2.2.2.1
theorem dX9_stays_34 : decode cX9_stays 34 = .ok (.invokestatic 262, 3) := da9_dX9_stays_26.2.2.2.2.1
theorem dX9_stays_37 : decode cX9_stays 37 = .ok (.if_icmp .le 26, 3) := da9_dX9_stays_26.2.2.2.2.2.1
theorem dX9_stays_40 : decode cX9_stays 40 = .ok (.aload_n 0, 1) := da9_dX9_stays_26.2.2.2.2.2.2.1
theorem dX9_stays_41 : decode cX9_stays 41 = .ok (.getfield 10, 3) := da9_dX9_stays_26.2.2.2.2.2.2.2.1
theorem dX9_stays_44 : decode cX9_stays 44 = .ok (.getfield 122, 3) := da9_dX9_stays_26.2.2.2.2.2.2.2.2.1
theorem dX9_stays_47 : decode cX9_stays 47 = .ok (.iload_n 3, 1) := da9_dX9_stays_26.2.2.2.2.2.2.2.2.2.1
theorem dX9_stays_48 : decode cX9_stays 48 = .ok (.aload_n 0, 1) := da9_dX9_stays_26.2.2.2.2.2.2.2.2.2.2.1
theorem dX9_stays_49 : decode cX9_stays 49 = .ok (.getfield 10, 3) := da9_dX9_stays_26.2.2.2.2.2.2.2.2.2.2.2.1
theorem dX9_stays_52 : decode cX9_stays 52 = .ok (.getfield 267, 3) := da9_dX9_stays_26.2.2.2.2.2.2.2.2.2.2.2.2.1
theorem dX9_stays_55 : decode cX9_stays 55 = .ok (.invokevirtual 270, 3) := da9_dX9_stays_26.2.2.2.2.2.2.2.2.2.2.2.2.2.1
theorem dX9_stays_58 : decode cX9_stays 58 = .ok (.ifCond .eq 5, 3) := da9_dX9_stays_26.2.2.2.2.2.2.2.2.2.2.2.2.2.2.1
theorem dX9_stays_61 : decode cX9_stays 61 = .ok (.iload_n 3, 1) := da9_dX9_stays_26.2.2.2.2.2.2.2.2.2.2.2.2.2.2.2
theorem da9_dX9_stays_62 : (decode cX9_stays 62 = .ok (.istore_n 2, 1)) ∧ (decode cX9_stays 63 = .ok (.iinc 3 1, 3)) ∧ (decode cX9_stays 66 = .ok (.goto (-53), 3)) ∧ (decode cX9_stays 69 = .ok (.iload_n 1, 1)) ∧ (decode cX9_stays 70 = .ok (.ifCond .ne 10, 3)) ∧ (decode cX9_stays 73 = .ok (.iload_n 2, 1)) ∧ (decode cX9_stays 74 = .ok (.invokestatic 262, 3)) ∧ (decode cX9_stays 77 = .ok (.goto 4, 3)) ∧ (decode cX9_stays 80 = .ok (.iload_n 2, 1)) ∧ (decode cX9_stays 81 = .ok (.ireturn, 1)) := by decide +kernel
theorem dX9_stays_62 : decode cX9_stays 62 = .ok (.istore_n 2, 1) := da9_dX9_stays_62.1
theorem dX9_stays_63 : decode cX9_stays 63 = .ok (.iinc 3 1, 3) := da9_dX9_stays_62.2.1
theorem dX9_stays_66 : decode cX9_stays 66 = .ok (.goto (-53), 3) := da9_dX9_stays_62.2.2.1
theorem dX9_stays_69 : decode cX9_stays 69 = .ok (.iload_n 1, 1) := da9_dX9_stays_62.2.2.2.1
theorem dX9_stays_70 : decode cX9_stays 70 = .ok (.ifCond .ne 10, 3) := da9_dX9_stays_62.2.2.2.2.1
theorem dX9_stays_73 : decode cX9_stays 73 = .ok (.iload_n 2, 1) := da9_dX9_stays_62.2.2.2.2.2.1
theorem dX9_stays_74 : decode cX9_stays 74 = .ok (.invokestatic 262, 3) := da9_dX9_stays_62.2.2.2.2.2.2.1
theorem dX9_stays_77 : decode cX9_stays 77 = .ok (.goto 4, 3) := da9_dX9_stays_62.2.2.2.2.2.2.2.1
theorem dX9_stays_80 : decode cX9_stays 80 = .ok (.iload_n 2, 1) := da9_dX9_stays_62.2.2.2.2.2.2.2.2.1
theorem dX9_stays_81 : decode cX9_stays 81 = .ok (.ireturn, 1) := da9_dX9_stays_62.2.2.2.2.2.2.2.2.2
set_option maxRecDepth 20000 in
theorem ggX9_seen_X9_isRank : GoodIn wsX9_seen wsX9_isRank := wd_c vW9_ok mvW9_5
set_option maxRecDepth 20000 in
theorem gX9_seen_X9_isRank : GoodIn wsX9_seen (va_wsS RX9 111 yX9_isRank wsX9_isRank) := goodIn_app (wd_l vW9_ok _ pvW9_89) ggX9_seen_X9_isRank
set_option maxRecDepth 20000 in
theorem ggX9_seen_X9_refuse : GoodIn wsX9_seen wsX9_refuse := wd_c vW9_ok mvW9_12
set_option maxRecDepth 20000 in
theorem gX9_seen_X9_refuse : GoodIn wsX9_seen (wsV RX9 118 RX9 yX9_refuse wsX9_refuse) := goodIn_app (wd_l vW9_ok _ pvW9_91) ggX9_seen_X9_refuse
set_option maxRecDepth 20000 in
theorem ggX9_seen_X9_accept : GoodIn wsX9_seen wsX9_accept := wd_c vW9_ok mvW9_36
set_option maxRecDepth 20000 in
theorem gX9_seen_X9_accept : GoodIn wsX9_seen (wsV RX9 138 RX9 yX9_accept wsX9_accept) := goodIn_app (wd_l vW9_ok _ pvW9_95) ggX9_seen_X9_accept
theorem da9_dX9_seen_0 : (decode cX9_seen 0 = .ok (.iload_n 1, 1)) ∧ (decode cX9_seen 1 = .ok (.ifCond .lt 16, 3)) ∧ (decode cX9_seen 4 = .ok (.iload_n 1, 1)) ∧ (decode cX9_seen 5 = .ok (.bipush 6, 2)) ∧ (decode cX9_seen 7 = .ok (.if_icmp .ge 10, 3)) ∧ (decode cX9_seen 10 = .ok (.iload_n 2, 1)) ∧ (decode cX9_seen 11 = .ok (.invokestatic 111, 3)) ∧ (decode cX9_seen 14 = .ok (.ifCond .ne 9, 3)) ∧ (decode cX9_seen 17 = .ok (.aload_n 0, 1)) ∧ (decode cX9_seen 18 = .ok (.iconst (-1), 1)) ∧ (decode cX9_seen 19 = .ok (.invokevirtual 118, 3)) ∧ (decode cX9_seen 22 = .ok (.ireturn, 1)) ∧ (decode cX9_seen 23 = .ok (.aload_n 0, 1)) ∧ (decode cX9_seen 24 = .ok (.getfield 10, 3)) ∧ (decode cX9_seen 27 = .ok (.getfield 273, 3)) ∧ (decode cX9_seen 30 = .ok (.bipush 6, 2)) := by decide +kernel
theorem dX9_seen_0 : decode cX9_seen 0 = .ok (.iload_n 1, 1) := da9_dX9_seen_0.1
theorem dX9_seen_1 : decode cX9_seen 1 = .ok (.ifCond .lt 16, 3) := da9_dX9_seen_0.2.1
theorem dX9_seen_4 : decode cX9_seen 4 = .ok (.iload_n 1, 1) := da9_dX9_seen_0.2.2.1
theorem dX9_seen_5 : decode cX9_seen 5 = .ok (.bipush 6, 2) := da9_dX9_seen_0.2.2.2.1
theorem dX9_seen_7 : decode cX9_seen 7 = .ok (.if_icmp .ge 10, 3) := da9_dX9_seen_0.2.2.2.2.1
theorem dX9_seen_10 : decode cX9_seen 10 = .ok (.iload_n 2, 1) := da9_dX9_seen_0.2.2.2.2.2.1
theorem dX9_seen_11 : decode cX9_seen 11 = .ok (.invokestatic 111, 3) := da9_dX9_seen_0.2.2.2.2.2.2.1
theorem dX9_seen_14 : decode cX9_seen 14 = .ok (.ifCond .ne 9, 3) := da9_dX9_seen_0.2.2.2.2.2.2.2.1
theorem dX9_seen_17 : decode cX9_seen 17 = .ok (.aload_n 0, 1) := da9_dX9_seen_0.2.2.2.2.2.2.2.2.1
theorem dX9_seen_18 : decode cX9_seen 18 = .ok (.iconst (-1), 1) := da9_dX9_seen_0.2.2.2.2.2.2.2.2.2.1
theorem dX9_seen_19 : decode cX9_seen 19 = .ok (.invokevirtual 118, 3) := da9_dX9_seen_0.2.2.2.2.2.2.2.2.2.2.1
theorem dX9_seen_22 : decode cX9_seen 22 = .ok (.ireturn, 1) := da9_dX9_seen_0.2.2.2.2.2.2.2.2.2.2.2.1
theorem dX9_seen_23 : decode cX9_seen 23 = .ok (.aload_n 0, 1) := da9_dX9_seen_0.2.2.2.2.2.2.2.2.2.2.2.2.1
theorem dX9_seen_24 : decode cX9_seen 24 = .ok (.getfield 10, 3) := da9_dX9_seen_0.2.2.2.2.2.2.2.2.2.2.2.2.2.1
theorem dX9_seen_27 : decode cX9_seen 27 = .ok (.getfield 273, 3) := da9_dX9_seen_0.2.2.2.2.2.2.2.2.2.2.2.2.2.2.1
theorem dX9_seen_30 : decode cX9_seen 30 = .ok (.bipush 6, 2) := da9_dX9_seen_0.2.2.2.2.2.2.2.2.2.2.2.2.2.2.2
theorem da9_dX9_seen_32 : (decode cX9_seen 32 = .ok (.if_icmp .lt 10, 3)) ∧ (decode cX9_seen 35 = .ok (.aload_n 0, 1)) ∧ (decode cX9_seen 36 = .ok (.bipush (-5), 2)) ∧ (decode cX9_seen 38 = .ok (.invokevirtual 118, 3)) ∧ (decode cX9_seen 41 = .ok (.ireturn, 1)) ∧ (decode cX9_seen 42 = .ok (.aload_n 0, 1)) ∧ (decode cX9_seen 43 = .ok (.getfield 10, 3)) ∧ (decode cX9_seen 46 = .ok (.getfield 276, 3)) ∧ (decode cX9_seen 49 = .ok (.aload_n 0, 1)) ∧ (decode cX9_seen 50 = .ok (.getfield 10, 3)) ∧ (decode cX9_seen 53 = .ok (.getfield 273, 3)) ∧ (decode cX9_seen 56 = .ok (.iload_n 1, 1)) ∧ (decode cX9_seen 57 = .ok (.iastore, 1)) ∧ (decode cX9_seen 58 = .ok (.aload_n 0, 1)) ∧ (decode cX9_seen 59 = .ok (.getfield 10, 3)) ∧ (decode cX9_seen 62 = .ok (.getfield 279, 3)) := by decide +kernel
theorem dX9_seen_32 : decode cX9_seen 32 = .ok (.if_icmp .lt 10, 3) := da9_dX9_seen_32.1
theorem dX9_seen_35 : decode cX9_seen 35 = .ok (.aload_n 0, 1) := da9_dX9_seen_32.2.1
theorem dX9_seen_36 : decode cX9_seen 36 = .ok (.bipush (-5), 2) := da9_dX9_seen_32.2.2.1
theorem dX9_seen_38 : decode cX9_seen 38 = .ok (.invokevirtual 118, 3) := da9_dX9_seen_32.2.2.2.1
theorem dX9_seen_41 : decode cX9_seen 41 = .ok (.ireturn, 1) := da9_dX9_seen_32.2.2.2.2.1
theorem dX9_seen_42 : decode cX9_seen 42 = .ok (.aload_n 0, 1) := da9_dX9_seen_32.2.2.2.2.2.1
theorem dX9_seen_43 : decode cX9_seen 43 = .ok (.getfield 10, 3) := da9_dX9_seen_32.2.2.2.2.2.2.1
theorem dX9_seen_46 : decode cX9_seen 46 = .ok (.getfield 276, 3) := da9_dX9_seen_32.2.2.2.2.2.2.2.1
theorem dX9_seen_49 : decode cX9_seen 49 = .ok (.aload_n 0, 1) := da9_dX9_seen_32.2.2.2.2.2.2.2.2.1
theorem dX9_seen_50 : decode cX9_seen 50 = .ok (.getfield 10, 3) := da9_dX9_seen_32.2.2.2.2.2.2.2.2.2.1
theorem dX9_seen_53 : decode cX9_seen 53 = .ok (.getfield 273, 3) := da9_dX9_seen_32.2.2.2.2.2.2.2.2.2.2.1
theorem dX9_seen_56 : decode cX9_seen 56 = .ok (.iload_n 1, 1) := da9_dX9_seen_32.2.2.2.2.2.2.2.2.2.2.2.1
theorem dX9_seen_57 : decode cX9_seen 57 = .ok (.iastore, 1) := da9_dX9_seen_32.2.2.2.2.2.2.2.2.2.2.2.2.1
theorem dX9_seen_58 : decode cX9_seen 58 = .ok (.aload_n 0, 1) := da9_dX9_seen_32.2.2.2.2.2.2.2.2.2.2.2.2.2.1
theorem dX9_seen_59 : decode cX9_seen 59 = .ok (.getfield 10, 3) := da9_dX9_seen_32.2.2.2.2.2.2.2.2.2.2.2.2.2.2.1
theorem dX9_seen_62 : decode cX9_seen 62 = .ok (.getfield 279, 3) := da9_dX9_seen_32.2.2.2.2.2.2.2.2.2.2.2.2.2.2.2
theorem da9_dX9_seen_65 : (decode cX9_seen 65 = .ok (.aload_n 0, 1)) ∧ (decode cX9_seen 66 = .ok (.getfield 10, 3)) ∧ (decode cX9_seen 69 = .ok (.getfield 273, 3)) ∧ (decode cX9_seen 72 = .ok (.iload_n 2, 1)) ∧ (decode cX9_seen 73 = .ok (.iastore, 1)) ∧ (decode cX9_seen 74 = .ok (.aload_n 0, 1)) ∧ (decode cX9_seen 75 = .ok (.getfield 10, 3)) ∧ (decode cX9_seen 78 = .ok (.dup, 1)) ∧ (decode cX9_seen 79 = .ok (.getfield 273, 3)) ∧ (decode cX9_seen 82 = .ok (.iconst 1, 1)) ∧ (decode cX9_seen 83 = .ok (.iadd, 1)) ∧ (decode cX9_seen 84 = .ok (.putfield 273, 3)) ∧ (decode cX9_seen 87 = .ok (.aload_n 0, 1)) ∧ (decode cX9_seen 88 = .ok (.aload_n 0, 1)) ∧ (decode cX9_seen 89 = .ok (.getfield 10, 3)) ∧ (decode cX9_seen 92 = .ok (.getfield 273, 3)) := by decide +kernel
theorem dX9_seen_65 : decode cX9_seen 65 = .ok (.aload_n 0, 1) := da9_dX9_seen_65.1
theorem dX9_seen_66 : decode cX9_seen 66 = .ok (.getfield 10, 3) := da9_dX9_seen_65.2.1
theorem dX9_seen_69 : decode cX9_seen 69 = .ok (.getfield 273, 3) := da9_dX9_seen_65.2.2.1
theorem dX9_seen_72 : decode cX9_seen 72 = .ok (.iload_n 2, 1) := da9_dX9_seen_65.2.2.2.1
theorem dX9_seen_73 : decode cX9_seen 73 = .ok (.iastore, 1) := da9_dX9_seen_65.2.2.2.2.1
theorem dX9_seen_74 : decode cX9_seen 74 = .ok (.aload_n 0, 1) := da9_dX9_seen_65.2.2.2.2.2.1
theorem dX9_seen_75 : decode cX9_seen 75 = .ok (.getfield 10, 3) := da9_dX9_seen_65.2.2.2.2.2.2.1
theorem dX9_seen_78 : decode cX9_seen 78 = .ok (.dup, 1) := da9_dX9_seen_65.2.2.2.2.2.2.2.1
theorem dX9_seen_79 : decode cX9_seen 79 = .ok (.getfield 273, 3) := da9_dX9_seen_65.2.2.2.2.2.2.2.2.1
theorem dX9_seen_82 : decode cX9_seen 82 = .ok (.iconst 1, 1) := da9_dX9_seen_65.2.2.2.2.2.2.2.2.2.1
theorem dX9_seen_83 : decode cX9_seen 83 = .ok (.iadd, 1) := da9_dX9_seen_65.2.2.2.2.2.2.2.2.2.2.1
theorem dX9_seen_84 : decode cX9_seen 84 = .ok (.putfield 273, 3) := da9_dX9_seen_65.2.2.2.2.2.2.2.2.2.2.2.1
theorem dX9_seen_87 : decode cX9_seen 87 = .ok (.aload_n 0, 1) := da9_dX9_seen_65.2.2.2.2.2.2.2.2.2.2.2.2.1
theorem dX9_seen_88 : decode cX9_seen 88 = .ok (.aload_n 0, 1) := da9_dX9_seen_65.2.2.2.2.2.2.2.2.2.2.2.2.2.1
theorem dX9_seen_89 : decode cX9_seen 89 = .ok (.getfield 10, 3) := da9_dX9_seen_65.2.2.2.2.2.2.2.2.2.2.2.2.2.2.1
theorem dX9_seen_92 : decode cX9_seen 92 = .ok (.getfield 273, 3) := da9_dX9_seen_65.2.2.2.2.2.2.2.2.2.2.2.2.2.2.2
theorem da9_dX9_seen_95 : (decode cX9_seen 95 = .ok (.invokevirtual 138, 3)) ∧ (decode cX9_seen 98 = .ok (.ireturn, 1)) := by decide +kernel
theorem dX9_seen_95 : decode cX9_seen 95 = .ok (.invokevirtual 138, 3) := da9_dX9_seen_95.1
theorem dX9_seen_98 : decode cX9_seen 98 = .ok (.ireturn, 1) := da9_dX9_seen_95.2
theorem da9_dX9_forget_0 : (decode cX9_forget 0 = .ok (.aload_n 0, 1)) ∧ (decode cX9_forget 1 = .ok (.getfield 10, 3)) ∧ (decode cX9_forget 4 = .ok (.getfield 273, 3)) ∧ (decode cX9_forget 7 = .ok (.istore_n 1, 1)) ∧ (decode cX9_forget 8 = .ok (.aload_n 0, 1)) ∧ (decode cX9_forget 9 = .ok (.getfield 10, 3)) ∧ (decode cX9_forget 12 = .ok (.iconst 0, 1)) ∧ (decode cX9_forget 13 = .ok (.putfield 273, 3)) ∧ (decode cX9_forget 16 = .ok (.iload_n 1, 1)) ∧ (decode cX9_forget 17 = .ok (.ireturn, 1)) := by decide +kernel
theorem dX9_forget_0 : decode cX9_forget 0 = .ok (.aload_n 0, 1) := da9_dX9_forget_0.1
theorem dX9_forget_1 : decode cX9_forget 1 = .ok (.getfield 10, 3) := da9_dX9_forget_0.2.1
theorem dX9_forget_4 : decode cX9_forget 4 = .ok (.getfield 273, 3) := da9_dX9_forget_0.2.2.1
theorem dX9_forget_7 : decode cX9_forget 7 = .ok (.istore_n 1, 1) := da9_dX9_forget_0.2.2.2.1
theorem dX9_forget_8 : decode cX9_forget 8 = .ok (.aload_n 0, 1) := da9_dX9_forget_0.2.2.2.2.1
theorem dX9_forget_9 : decode cX9_forget 9 = .ok (.getfield 10, 3) := da9_dX9_forget_0.2.2.2.2.2.1
theorem dX9_forget_12 : decode cX9_forget 12 = .ok (.iconst 0, 1) := da9_dX9_forget_0.2.2.2.2.2.2.1
theorem dX9_forget_13 : decode cX9_forget 13 = .ok (.putfield 273, 3) := da9_dX9_forget_0.2.2.2.2.2.2.2.1
theorem dX9_forget_16 : decode cX9_forget 16 = .ok (.iload_n 1, 1) := da9_dX9_forget_0.2.2.2.2.2.2.2.2.1
theorem dX9_forget_17 : decode cX9_forget 17 = .ok (.ireturn, 1) := da9_dX9_forget_0.2.2.2.2.2.2.2.2.2
set_option maxRecDepth 20000 in
theorem ggX9_was_X9_seated : GoodIn wsX9_was wsX9_seated := wd_c vW9_ok mvW9_44
set_option maxRecDepth 20000 in
theorem gX9_was_X9_seated : GoodIn wsX9_was (wsV RX9 144 RX9 yX9_seated wsX9_seated) := goodIn_app (wd_l vW9_ok _ pvW9_97) ggX9_was_X9_seated
set_option maxRecDepth 20000 in
theorem ggX9_was_X1_bars : GoodIn wsX9_was wsX1_bars := wd_c vW9_ok mvW9_127
set_option maxRecDepth 20000 in
theorem gX9_was_X1_bars : GoodIn wsX9_was (wsV RX9 164 RX1 yX1_bars wsX1_bars) := goodIn_app (wd_l vW9_ok _ pvW9_102) ggX9_was_X1_bars
set_option maxRecDepth 20000 in
theorem ggX9_was_X6_agrees : GoodIn wsX9_was wsX6_agrees := wd_c vW9_ok mvW9_616
set_option maxRecDepth 20000 in
theorem gX9_was_X6_agrees : GoodIn wsX9_was (wsV RX9 282 RX6 yX6_agrees wsX6_agrees) := goodIn_app (wd_l vW9_ok _ pvW9_126) ggX9_was_X6_agrees
theorem da9_dX9_was_0 : (decode cX9_was 0 = .ok (.aload_n 0, 1)) ∧ (decode cX9_was 1 = .ok (.invokevirtual 144, 3)) ∧ (decode cX9_was 4 = .ok (.astore_n 1, 1)) ∧ (decode cX9_was 5 = .ok (.iconst 0, 1)) ∧ (decode cX9_was 6 = .ok (.istore_n 2, 1)) ∧ (decode cX9_was 7 = .ok (.iconst 1, 1)) ∧ (decode cX9_was 8 = .ok (.istore_n 3, 1)) ∧ (decode cX9_was 9 = .ok (.iload_n 3, 1)) ∧ (decode cX9_was 10 = .ok (.aload_n 0, 1)) ∧ (decode cX9_was 11 = .ok (.getfield 10, 3)) ∧ (decode cX9_was 14 = .ok (.getfield 122, 3)) ∧ (decode cX9_was 17 = .ok (.getfield 135, 3)) ∧ (decode cX9_was 20 = .ok (.if_icmp .gt 41, 3)) ∧ (decode cX9_was 23 = .ok (.aload_n 1, 1)) ∧ (decode cX9_was 24 = .ok (.aload_n 0, 1)) ∧ (decode cX9_was 25 = .ok (.getfield 10, 3)) := by decide +kernel
theorem dX9_was_0 : decode cX9_was 0 = .ok (.aload_n 0, 1) := da9_dX9_was_0.1
theorem dX9_was_1 : decode cX9_was 1 = .ok (.invokevirtual 144, 3) := da9_dX9_was_0.2.1
theorem dX9_was_4 : decode cX9_was 4 = .ok (.astore_n 1, 1) := da9_dX9_was_0.2.2.1
theorem dX9_was_5 : decode cX9_was 5 = .ok (.iconst 0, 1) := da9_dX9_was_0.2.2.2.1
theorem dX9_was_6 : decode cX9_was 6 = .ok (.istore_n 2, 1) := da9_dX9_was_0.2.2.2.2.1
theorem dX9_was_7 : decode cX9_was 7 = .ok (.iconst 1, 1) := da9_dX9_was_0.2.2.2.2.2.1
theorem dX9_was_8 : decode cX9_was 8 = .ok (.istore_n 3, 1) := da9_dX9_was_0.2.2.2.2.2.2.1
theorem dX9_was_9 : decode cX9_was 9 = .ok (.iload_n 3, 1) := da9_dX9_was_0.2.2.2.2.2.2.2.1
theorem dX9_was_10 : decode cX9_was 10 = .ok (.aload_n 0, 1) := da9_dX9_was_0.2.2.2.2.2.2.2.2.1
theorem dX9_was_11 : decode cX9_was 11 = .ok (.getfield 10, 3) := da9_dX9_was_0.2.2.2.2.2.2.2.2.2.1
theorem dX9_was_14 : decode cX9_was 14 = .ok (.getfield 122, 3) := da9_dX9_was_0.2.2.2.2.2.2.2.2.2.2.1
theorem dX9_was_17 : decode cX9_was 17 = .ok (.getfield 135, 3) := da9_dX9_was_0.2.2.2.2.2.2.2.2.2.2.2.1
theorem dX9_was_20 : decode cX9_was 20 = .ok (.if_icmp .gt 41, 3) := da9_dX9_was_0.2.2.2.2.2.2.2.2.2.2.2.2.1
theorem dX9_was_23 : decode cX9_was 23 = .ok (.aload_n 1, 1) := da9_dX9_was_0.2.2.2.2.2.2.2.2.2.2.2.2.2.1
theorem dX9_was_24 : decode cX9_was 24 = .ok (.aload_n 0, 1) := da9_dX9_was_0.2.2.2.2.2.2.2.2.2.2.2.2.2.2.1
theorem dX9_was_25 : decode cX9_was 25 = .ok (.getfield 10, 3) := da9_dX9_was_0.2.2.2.2.2.2.2.2.2.2.2.2.2.2.2
theorem da9_dX9_was_28 : (decode cX9_was 28 = .ok (.getfield 122, 3)) ∧ (decode cX9_was 31 = .ok (.iload_n 3, 1)) ∧ (decode cX9_was 32 = .ok (.invokevirtual 164, 3)) ∧ (decode cX9_was 35 = .ok (.ifCond .ne 20, 3)) ∧ (decode cX9_was 38 = .ok (.aload_n 0, 1)) ∧ (decode cX9_was 39 = .ok (.getfield 10, 3)) ∧ (decode cX9_was 42 = .ok (.iload_n 3, 1)) ∧ (decode cX9_was 43 = .ok (.invokevirtual 282, 3)) ∧ (decode cX9_was 46 = .ok (.ifCond .eq 9, 3)) ∧ (decode cX9_was 49 = .ok (.iload_n 2, 1)) ∧ (decode cX9_was 50 = .ok (.iconst 1, 1)) ∧ (decode cX9_was 51 = .ok (.iload_n 3, 1)) ∧ (decode cX9_was 52 = .ok (.ishl, 1)) ∧ (decode cX9_was 53 = .ok (.ior, 1)) ∧ (decode cX9_was 54 = .ok (.istore_n 2, 1)) ∧ (decode cX9_was 55 = .ok (.iinc 3 1, 3)) := by decide +kernel
theorem dX9_was_28 : decode cX9_was 28 = .ok (.getfield 122, 3) := da9_dX9_was_28.1
theorem dX9_was_31 : decode cX9_was 31 = .ok (.iload_n 3, 1) := da9_dX9_was_28.2.1
theorem dX9_was_32 : decode cX9_was 32 = .ok (.invokevirtual 164, 3) := da9_dX9_was_28.2.2.1
theorem dX9_was_35 : decode cX9_was 35 = .ok (.ifCond .ne 20, 3) := da9_dX9_was_28.2.2.2.1
theorem dX9_was_38 : decode cX9_was 38 = .ok (.aload_n 0, 1) := da9_dX9_was_28.2.2.2.2.1
theorem dX9_was_39 : decode cX9_was 39 = .ok (.getfield 10, 3) := da9_dX9_was_28.2.2.2.2.2.1
theorem dX9_was_42 : decode cX9_was 42 = .ok (.iload_n 3, 1) := da9_dX9_was_28.2.2.2.2.2.2.1
theorem dX9_was_43 : decode cX9_was 43 = .ok (.invokevirtual 282, 3) := da9_dX9_was_28.2.2.2.2.2.2.2.1
theorem dX9_was_46 : decode cX9_was 46 = .ok (.ifCond .eq 9, 3) := da9_dX9_was_28.2.2.2.2.2.2.2.2.1
theorem dX9_was_49 : decode cX9_was 49 = .ok (.iload_n 2, 1) := da9_dX9_was_28.2.2.2.2.2.2.2.2.2.1
theorem dX9_was_50 : decode cX9_was 50 = .ok (.iconst 1, 1) := da9_dX9_was_28.2.2.2.2.2.2.2.2.2.2.1
theorem dX9_was_51 : decode cX9_was 51 = .ok (.iload_n 3, 1) := da9_dX9_was_28.2.2.2.2.2.2.2.2.2.2.2.1
theorem dX9_was_52 : decode cX9_was 52 = .ok (.ishl, 1) := da9_dX9_was_28.2.2.2.2.2.2.2.2.2.2.2.2.1
theorem dX9_was_53 : decode cX9_was 53 = .ok (.ior, 1) := da9_dX9_was_28.2.2.2.2.2.2.2.2.2.2.2.2.2.1
theorem dX9_was_54 : decode cX9_was 54 = .ok (.istore_n 2, 1) := da9_dX9_was_28.2.2.2.2.2.2.2.2.2.2.2.2.2.2.1
theorem dX9_was_55 : decode cX9_was 55 = .ok (.iinc 3 1, 3) := da9_dX9_was_28.2.2.2.2.2.2.2.2.2.2.2.2.2.2.2
theorem da9_dX9_was_58 : (decode cX9_was 58 = .ok (.goto (-49), 3)) ∧ (decode cX9_was 61 = .ok (.iload_n 2, 1)) ∧ (decode cX9_was 62 = .ok (.ireturn, 1)) := by decide +kernel
theorem dX9_was_58 : decode cX9_was 58 = .ok (.goto (-49), 3) := da9_dX9_was_58.1
theorem dX9_was_61 : decode cX9_was 61 = .ok (.iload_n 2, 1) := da9_dX9_was_58.2.1
theorem dX9_was_62 : decode cX9_was 62 = .ok (.ireturn, 1) := da9_dX9_was_58.2.2
end
section
theorem u9_wsX8_rises_X8 : ∀ w ∈ u_ws RX8 TX8 5, w ∈ wsX8_rises := fun w h => List.mem_cons_of_mem _ (vW9_wsX80 w h)
theorem f9_wsX8_rises_884 : (Cond.fieldLink RX8 9 "TurnedFloors$Tower" "rank" "[I") ∈ wsX8_rises := List.mem_cons_of_mem _ mvW9_21
theorem f9_wsX8_rises_885 : (Cond.fieldLink RX8 18 "TurnedFloors$Tower" "floors" "I") ∈ wsX8_rises := List.mem_cons_of_mem _ mvW9_20
theorem f9_wsX8_rises_886 : (Cond.fieldLink RX8 15 "TurnedFloors$Tower" "head" "[I") ∈ wsX8_rises := List.mem_cons_of_mem _ mvW9_26
theorem u9_wsX9_stays_X9 : ∀ w ∈ u_ws RX9 TX9 19, w ∈ wsX9_stays := fun w h => List.mem_cons_of_mem _ (vW9_wsX90 w h)
theorem u9_wsX9_stays_X6 : ∀ w ∈ u_ws RX6 TX6 10, w ∈ wsX9_stays := fun w h => List.mem_cons_of_mem _ (vW9_wsX60 w h)
theorem u9_wsX9_stays_X8 : ∀ w ∈ u_ws RX8 TX8 5, w ∈ wsX9_stays := fun w h => List.mem_cons_of_mem _ (vW9_wsX80 w h)
theorem f9_wsX9_stays_890 : (Cond.fieldLink RX9 10 "TurnedFloors" "state" "LTurnedFloors$State;") ∈ wsX9_stays := List.mem_cons_of_mem _ mvW9_0
theorem u9_wsX9_seen_X9 : ∀ w ∈ u_ws RX9 TX9 19, w ∈ wsX9_seen := fun w h => List.mem_cons_of_mem _ (vW9_wsX90 w h)
theorem u9_wsX9_seen_X6 : ∀ w ∈ u_ws RX6 TX6 10, w ∈ wsX9_seen := fun w h => List.mem_cons_of_mem _ (vW9_wsX60 w h)
theorem f9_wsX9_seen_893 : (Cond.fieldLink RX9 10 "TurnedFloors" "state" "LTurnedFloors$State;") ∈ wsX9_seen := List.mem_cons_of_mem _ mvW9_0
theorem u9_wsX9_forget_X9 : ∀ w ∈ u_ws RX9 TX9 19, w ∈ wsX9_forget := fun w h => List.mem_cons_of_mem _ (vW9_wsX90 w h)
theorem u9_wsX9_forget_X6 : ∀ w ∈ u_ws RX6 TX6 10, w ∈ wsX9_forget := fun w h => List.mem_cons_of_mem _ (vW9_wsX60 w h)
theorem f9_wsX9_forget_896 : (Cond.fieldLink RX9 10 "TurnedFloors" "state" "LTurnedFloors$State;") ∈ wsX9_forget := List.mem_cons_of_mem _ mvW9_0
theorem u9_wsX8_rankBehindTurn_X8 : ∀ w ∈ u_ws RX8 TX8 5, w ∈ wsX8_rankBehindTurn := fun w h => List.mem_cons_of_mem _ (vW9_wsX80 w h)
theorem f9_wsX8_rankBehindTurn_898 : (Cond.fieldLink RX8 9 "TurnedFloors$Tower" "rank" "[I") ∈ wsX8_rankBehindTurn := List.mem_cons_of_mem _ mvW9_21
theorem u9_wsX6_agrees_X6 : ∀ w ∈ u_ws RX6 TX6 10, w ∈ wsX6_agrees := fun w h => List.mem_cons_of_mem _ (vW9_wsX60 w h)
theorem f9_wsX6_agrees_900 : (Cond.fieldLink RX6 35 "TurnedFloors$State" "seenCount" "I") ∈ wsX6_agrees := List.mem_cons_of_mem _ mvW9_617
theorem f9_wsX6_agrees_901 : (Cond.fieldLink RX6 12 "TurnedFloors$State" "tower" "LTurnedFloors$Tower;") ∈ wsX6_agrees := List.mem_cons_of_mem _ mvW9_135
theorem f9_wsX6_agrees_902 : (Cond.fieldLink RX6 28 "TurnedFloors$State" "seenPlace" "[I") ∈ wsX6_agrees := List.mem_cons_of_mem _ mvW9_618
theorem f9_wsX6_agrees_903 : (Cond.fieldLink RX6 32 "TurnedFloors$State" "seenRank" "[I") ∈ wsX6_agrees := List.mem_cons_of_mem _ mvW9_619
theorem u9_wsX9_was_X9 : ∀ w ∈ u_ws RX9 TX9 19, w ∈ wsX9_was := fun w h => List.mem_cons_of_mem _ (vW9_wsX90 w h)
theorem u9_wsX9_was_X6 : ∀ w ∈ u_ws RX6 TX6 10, w ∈ wsX9_was := fun w h => List.mem_cons_of_mem _ (vW9_wsX60 w h)
theorem u9_wsX9_was_X8 : ∀ w ∈ u_ws RX8 TX8 5, w ∈ wsX9_was := fun w h => List.mem_cons_of_mem _ (vW9_wsX80 w h)
theorem f9_wsX9_was_907 : (Cond.fieldLink RX9 10 "TurnedFloors" "state" "LTurnedFloors$State;") ∈ wsX9_was := List.mem_cons_of_mem _ mvW9_0
set_option maxHeartbeats 4000000 in
set_option maxRecDepth 100000 in
theorem WX8_rises_s2_61 {p : Program} {l : Launch} {e : Env} {s : State} {m : MethodId} {args : Array Value} {below : List Frame} {meth : Method} {c : Code} {D : va_G} {ty : Nat → ClassId} {eo : Nat → Nat} {A : Nat → Prop} {ad : Nat → Nat} {o1 : Int32} {o2 : dK} (C : dc_C p s m args meth c cX8_rises (some .boolean) 5 RX8 wsX8_rises D ty eo A) {k5 : dK → Int32 → Int32 → Int32 → Int32 → Option (Int32 × dK)} (hk5 : ∀ (q : dK) (x1 : Int32) (x2 : Int32) (x3 : Int32) (x4 : Int32) (H : Heap) (locs : List Loc) (ls : Array Slot), k5 q x1 x2 x3 x4 = some (o1, o2) → va_P D vwCl (wF ty ad q) H → va_D A (wF ty ad q) → va_S A s.heap H locs → lv_has ls 5 [(0, .ref (ad 2)), (1, .int x1), (2, .int x2), (3, .int x3), (4, .int x4)] → W p l e ({ frames := 0, cells := 0, slots := 0, locals := 0 } : Room) s m args below meth c H locs 0 0 (MQ below (va_Qi (fun (r : Int32) (u : va_W) => o1 = r ∧ wF ty ad o2 = u) (kz_B D ty A) A) args s 0 0 A) (F0 m 5 ls [])) (q : dK) (x1 : Int32) (x2 : Int32) (x3 : Int32) (x4 : Int32) (H : Heap) (locs : List Loc) (ls : Array Slot) (h : zX8_rises_s2_61 k5 q x1 x2 x3 x4 = some (o1, o2)) (hP : va_P D vwCl (wF ty ad q) H) (hD : va_D A (wF ty ad q)) (hS : va_S A s.heap H locs) (hl : lv_has ls 5 [(0, .ref (ad 2)), (1, .int x1), (2, .int x2), (3, .int x3), (4, .int x4)]) : W p l e ({ frames := 0, cells := 0, slots := 0, locals := 0 } : Room) s m args below meth c H locs 0 0 (MQ below (va_Qi (fun (r : Int32) (u : va_W) => o1 = r ∧ wF ty ad o2 = u) (kz_B D ty A) A) args s 0 0 A) (F0 m 61 ls []) := by
  have C0 := C
  obtain ⟨hx, hb, hr, hts, hown, hlocks, hml, hK, hN, hE, hA⟩ := C
  unfold zX8_rises_s2_61 at h
  refine lv_iinc (v := x4 + 1) (lv' := [(4, .int (x4 + 1)), (0, .ref (ad 2)), (1, .int x1), (2, .int x2), (3, .int x3)]) hx hb dX8_rises_61 hl (k := 4) rfl rfl (by decide) rfl (fun ls hl => ?_)
  refine lv_goto (tgt := 5) hx hb dX8_rises_64 (by decide) ?_
  exact hk5 _ _ _ _ _ _ _ _ h hP hD hS (lv_sub hl [1, 2, 3, 4, 0] rfl)
set_option maxHeartbeats 4000000 in
set_option maxRecDepth 100000 in
theorem WX8_rises_s2_53 {p : Program} {l : Launch} {e : Env} {s : State} {m : MethodId} {args : Array Value} {below : List Frame} {meth : Method} {c : Code} {D : va_G} {ty : Nat → ClassId} {eo : Nat → Nat} {A : Nat → Prop} {ad : Nat → Nat} {o1 : Int32} {o2 : dK} (C : dc_C p s m args meth c cX8_rises (some .boolean) 5 RX8 wsX8_rises D ty eo A) {k5 : dK → Int32 → Int32 → Int32 → Int32 → Option (Int32 × dK)} (hk5 : ∀ (q : dK) (x1 : Int32) (x2 : Int32) (x3 : Int32) (x4 : Int32) (H : Heap) (locs : List Loc) (ls : Array Slot), k5 q x1 x2 x3 x4 = some (o1, o2) → va_P D vwCl (wF ty ad q) H → va_D A (wF ty ad q) → va_S A s.heap H locs → lv_has ls 5 [(0, .ref (ad 2)), (1, .int x1), (2, .int x2), (3, .int x3), (4, .int x4)] → W p l e ({ frames := 0, cells := 0, slots := 0, locals := 0 } : Room) s m args below meth c H locs 0 0 (MQ below (va_Qi (fun (r : Int32) (u : va_W) => o1 = r ∧ wF ty ad o2 = u) (kz_B D ty A) A) args s 0 0 A) (F0 m 5 ls [])) (q : dK) (x1 : Int32) (x2 : Int32) (x4 : Int32) (H : Heap) (locs : List Loc) (ls : Array Slot) (h : zX8_rises_s2_53 k5 q x1 x2 x4 = some (o1, o2)) (hP : va_P D vwCl (wF ty ad q) H) (hD : va_D A (wF ty ad q)) (hS : va_S A s.heap H locs) (hl : lv_has ls 5 [(0, .ref (ad 2)), (1, .int x1), (2, .int x2), (4, .int x4)]) : W p l e ({ frames := 0, cells := 0, slots := 0, locals := 0 } : Room) s m args below meth c H locs 0 0 (MQ below (va_Qi (fun (r : Int32) (u : va_W) => o1 = r ∧ wF ty ad o2 = u) (kz_B D ty A) A) args s 0 0 A) (F0 m 53 ls []) := by
  have C0 := C
  obtain ⟨hx, hb, hr, hts, hown, hlocks, hml, hK, hN, hE, hA⟩ := C
  unfold zX8_rises_s2_53 at h
  refine lv_aload_n hx hb dX8_rises_53 rfl (lv_at hl 0 rfl) ?_
  refine va_get (D := D) (ci := 8) (v := .ref (ad 3)) (C := RX8) (T := TX8) (N := 5) hx hb hts u9_wsX8_rises_X8 hown hK hP 2 rfl rfl 0 (by decide) (hts (.fieldLink RX8 9 "TurnedFloors$Tower" "rank" "[I") f9_wsX8_rises_884) (fun _ h9 => h9) rfl dX8_rises_54 ?_
  refine lv_iload hx hb dX8_rises_57 (lv_at hl 3 rfl) ?_
  obtain ⟨g1, h⟩ := dG_some h
  refine va_iald hx hb hK hP 3 0 rfl rfl (dg_in g1) dX8_rises_59 ?_
  obtain ⟨v2, ev2, h⟩ := dL_some h
  refine kz_topi v2 ev2 ?_
  refine lv_istore_n (lv' := [(3, .int v2), (0, .ref (ad 2)), (1, .int x1), (2, .int x2), (4, .int x4)]) hx hb dX8_rises_60 rfl hl (by decide) rfl (fun ls hl => ?_)
  exact WX8_rises_s2_61 C0 hk5 _ _ _ _ _ _ _ _ h hP hD hS (lv_sub hl [1, 2, 3, 0, 4] rfl)
set_option maxHeartbeats 4000000 in
set_option maxRecDepth 100000 in
theorem WX8_rises_s2_51 {p : Program} {l : Launch} {e : Env} {s : State} {m : MethodId} {args : Array Value} {below : List Frame} {meth : Method} {c : Code} {D : va_G} {ty : Nat → ClassId} {eo : Nat → Nat} {A : Nat → Prop} {ad : Nat → Nat} {o1 : Int32} {o2 : dK} (C : dc_C p s m args meth c cX8_rises (some .boolean) 5 RX8 wsX8_rises D ty eo A)   (q : dK)  (H : Heap) (locs : List Loc) (ls : Array Slot) (h : zX8_rises_s2_51  q = some (o1, o2)) (hP : va_P D vwCl (wF ty ad q) H) (hD : va_D A (wF ty ad q)) (hS : va_S A s.heap H locs) (hl : lv_has ls 5 []) : W p l e ({ frames := 0, cells := 0, slots := 0, locals := 0 } : Room) s m args below meth c H locs 0 0 (MQ below (va_Qi (fun (r : Int32) (u : va_W) => o1 = r ∧ wF ty ad o2 = u) (kz_B D ty A) A) args s 0 0 A) (F0 m 51 ls []) := by
  have C0 := C
  obtain ⟨hx, hb, hr, hts, hown, hlocks, hml, hK, hN, hE, hA⟩ := C
  unfold zX8_rises_s2_51 at h
  refine lv_iconst (v := 0) hx hb dX8_rises_51 (by decide) ?_
  cases h
  exact kz_zret hx hb hr hlocks rfl hP hK hD hS dX8_rises_52 ⟨rfl, rfl⟩
set_option maxHeartbeats 4000000 in
set_option maxRecDepth 100000 in
theorem WX8_rises_s2_5b {p : Program} {l : Launch} {e : Env} {s : State} {m : MethodId} {args : Array Value} {below : List Frame} {meth : Method} {c : Code} {D : va_G} {ty : Nat → ClassId} {eo : Nat → Nat} {A : Nat → Prop} {ad : Nat → Nat} {o1 : Int32} {o2 : dK} (C : dc_C p s m args meth c cX8_rises (some .boolean) 5 RX8 wsX8_rises D ty eo A) {k5 : dK → Int32 → Int32 → Int32 → Int32 → Option (Int32 × dK)} (hk5 : ∀ (q : dK) (x1 : Int32) (x2 : Int32) (x3 : Int32) (x4 : Int32) (H : Heap) (locs : List Loc) (ls : Array Slot), k5 q x1 x2 x3 x4 = some (o1, o2) → va_P D vwCl (wF ty ad q) H → va_D A (wF ty ad q) → va_S A s.heap H locs → lv_has ls 5 [(0, .ref (ad 2)), (1, .int x1), (2, .int x2), (3, .int x3), (4, .int x4)] → W p l e ({ frames := 0, cells := 0, slots := 0, locals := 0 } : Room) s m args below meth c H locs 0 0 (MQ below (va_Qi (fun (r : Int32) (u : va_W) => o1 = r ∧ wF ty ad o2 = u) (kz_B D ty A) A) args s 0 0 A) (F0 m 5 ls [])) (q : dK) (x1 : Int32) (x2 : Int32) (x3 : Int32) (x4 : Int32) (H : Heap) (locs : List Loc) (ls : Array Slot) (h : zX8_rises_s2_5b k5 q x1 x2 x3 x4 = some (o1, o2)) (hP : va_P D vwCl (wF ty ad q) H) (hD : va_D A (wF ty ad q)) (hS : va_S A s.heap H locs) (hl : lv_has ls 5 [(0, .ref (ad 2)), (1, .int x1), (2, .int x2), (3, .int x3), (4, .int x4)]) : W p l e ({ frames := 0, cells := 0, slots := 0, locals := 0 } : Room) s m args below meth c H locs 0 0 (MQ below (va_Qi (fun (r : Int32) (u : va_W) => o1 = r ∧ wF ty ad o2 = u) (kz_B D ty A) A) args s 0 0 A) (F0 m 5 ls []) := by
  have C0 := C
  obtain ⟨hx, hb, hr, hts, hown, hlocks, hml, hK, hN, hE, hA⟩ := C
  unfold zX8_rises_s2_5b at h
  refine lv_iload hx hb dX8_rises_5 (lv_at hl 4 rfl) ?_
  refine lv_aload_n hx hb dX8_rises_7 rfl (lv_at hl 0 rfl) ?_
  refine va_get (D := D) (ci := 8) (v := .int (q.1 2 2)) (C := RX8) (T := TX8) (N := 5) hx hb hts u9_wsX8_rises_X8 hown hK hP 2 rfl rfl 2 (by decide) (hts (.fieldLink RX8 18 "TurnedFloors$Tower" "floors" "I") f9_wsX8_rises_885) (fun _ h9 => h9) rfl dX8_rises_8 ?_
  refine lv_icmp_ge (tgt := 67) hx hb dX8_rises_11 (by decide) (fun c9 => ?_) (fun c9 => ?_)
  · rw [if_pos c9] at h
    refine lv_iconst (v := 1) hx hb dX8_rises_67 (by decide) ?_
    cases h
    exact kz_zret hx hb hr hlocks rfl hP hK hD hS dX8_rises_68 ⟨rfl, rfl⟩
  · rw [if_neg c9] at h
    refine lv_iload_n hx hb dX8_rises_14 rfl (lv_at hl 1 rfl) ?_
    refine lv_iload hx hb dX8_rises_15 (lv_at hl 4 rfl) ?_
    refine lv_ishr hx hb dX8_rises_17 ?_
    refine lv_iconst (v := 1) hx hb dX8_rises_18 (by decide) ?_
    refine lv_iand hx hb dX8_rises_19 ?_
    refine lv_iconst (v := 1) hx hb dX8_rises_20 (by decide) ?_
    refine lv_icmp_ne (tgt := 61) hx hb dX8_rises_21 (by decide) (fun c9 => ?_) (fun c9 => ?_)
    · rw [if_neg c9] at h
      exact WX8_rises_s2_61 C0 hk5 _ _ _ _ _ _ _ _ h hP hD hS (lv_sub hl [0, 1, 2, 3, 4] rfl)
    · rw [if_pos c9] at h
      refine lv_aload_n hx hb dX8_rises_24 rfl (lv_at hl 0 rfl) ?_
      refine va_get (D := D) (ci := 8) (v := .ref (ad 3)) (C := RX8) (T := TX8) (N := 5) hx hb hts u9_wsX8_rises_X8 hown hK hP 2 rfl rfl 0 (by decide) (hts (.fieldLink RX8 9 "TurnedFloors$Tower" "rank" "[I") f9_wsX8_rises_884) (fun _ h9 => h9) rfl dX8_rises_25 ?_
      refine lv_iload hx hb dX8_rises_28 (lv_at hl 4 rfl) ?_
      obtain ⟨g1, h⟩ := dG_some h
      refine va_iald hx hb hK hP 3 0 rfl rfl (dg_in g1) dX8_rises_30 ?_
      obtain ⟨v2, ev2, h⟩ := dL_some h
      refine kz_topi v2 ev2 ?_
      refine lv_iload_n hx hb dX8_rises_31 rfl (lv_at hl 3 rfl) ?_
      refine lv_icmp_lt (tgt := 51) hx hb dX8_rises_32 (by decide) (fun c9 => ?_) (fun c9 => ?_)
      · rw [if_pos c9] at h
        exact WX8_rises_s2_51 C0  _ _ _ _ h hP hD hS (lv_sub hl [] rfl)
      · rw [if_neg c9] at h
        refine lv_iload_n hx hb dX8_rises_35 rfl (lv_at hl 2 rfl) ?_
        refine lv_iconst (v := 1) hx hb dX8_rises_36 (by decide) ?_
        refine lv_icmp_ne (tgt := 53) hx hb dX8_rises_37 (by decide) (fun c9 => ?_) (fun c9 => ?_)
        · rw [if_neg c9] at h
          exact WX8_rises_s2_53 C0 hk5 _ _ _ _ _ _ _ h hP hD hS (lv_sub hl [0, 1, 2, 4] rfl)
        · rw [if_pos c9] at h
          refine lv_aload_n hx hb dX8_rises_40 rfl (lv_at hl 0 rfl) ?_
          refine va_get (D := D) (ci := 8) (v := .ref (ad 4)) (C := RX8) (T := TX8) (N := 5) hx hb hts u9_wsX8_rises_X8 hown hK hP 2 rfl rfl 1 (by decide) (hts (.fieldLink RX8 15 "TurnedFloors$Tower" "head" "[I") f9_wsX8_rises_886) (fun _ h9 => h9) rfl dX8_rises_41 ?_
          refine lv_iload hx hb dX8_rises_44 (lv_at hl 4 rfl) ?_
          obtain ⟨g3, h⟩ := dG_some h
          refine va_iald hx hb hK hP 4 0 rfl rfl (dg_in g3) dX8_rises_46 ?_
          obtain ⟨v4, ev4, h⟩ := dL_some h
          refine kz_topi v4 ev4 ?_
          refine lv_iconst (v := 1) hx hb dX8_rises_47 (by decide) ?_
          refine lv_icmp_ne (tgt := 53) hx hb dX8_rises_48 (by decide) (fun c9 => ?_) (fun c9 => ?_)
          · rw [if_neg c9] at h
            exact WX8_rises_s2_53 C0 hk5 _ _ _ _ _ _ _ h hP hD hS (lv_sub hl [0, 1, 2, 4] rfl)
          · rw [if_pos c9] at h
            exact WX8_rises_s2_51 C0  _ _ _ _ h hP hD hS (lv_sub hl [] rfl)
set_option maxHeartbeats 4000000 in
set_option maxRecDepth 100000 in
theorem WX8_rises_s2_5 {p : Program} {l : Launch} {e : Env} {s : State} {m : MethodId} {args : Array Value} {below : List Frame} {meth : Method} {c : Code} {D : va_G} {ty : Nat → ClassId} {eo : Nat → Nat} {A : Nat → Prop} {ad : Nat → Nat} {o1 : Int32} {o2 : dK} (C : dc_C p s m args meth c cX8_rises (some .boolean) 5 RX8 wsX8_rises D ty eo A)   (n : Nat) (q : dK) (x1 : Int32) (x2 : Int32) (x3 : Int32) (x4 : Int32) (H : Heap) (locs : List Loc) (ls : Array Slot) (h : zX8_rises_s2_5  n q x1 x2 x3 x4 = some (o1, o2)) (hP : va_P D vwCl (wF ty ad q) H) (hD : va_D A (wF ty ad q)) (hS : va_S A s.heap H locs) (hl : lv_has ls 5 [(0, .ref (ad 2)), (1, .int x1), (2, .int x2), (3, .int x3), (4, .int x4)]) : W p l e ({ frames := 0, cells := 0, slots := 0, locals := 0 } : Room) s m args below meth c H locs 0 0 (MQ below (va_Qi (fun (r : Int32) (u : va_W) => o1 = r ∧ wF ty ad o2 = u) (kz_B D ty A) A) args s 0 0 A) (F0 m 5 ls []) := by
  exact dFix_W (F := fun k (a : dK × Int32 × Int32 × Int32 × Int32) => zX8_rises_s2_5b  (fun q x1 x2 x3 x4 => k (q, x1, x2, x3, x4)) a.1 a.2.1 a.2.2.1 a.2.2.2.1 a.2.2.2.2) (o := (o1, o2)) (P := fun (a : dK × Int32 × Int32 × Int32 × Int32) H locs ls => va_P D vwCl (wF ty ad a.1) H ∧ va_D A (wF ty ad a.1) ∧ va_S A s.heap H locs ∧ lv_has ls 5 [(0, .ref (ad 2)), (1, .int a.2.1), (2, .int a.2.2.1), (3, .int a.2.2.2.1), (4, .int a.2.2.2.2)]) (G := fun H locs ls => W p l e ({ frames := 0, cells := 0, slots := 0, locals := 0 } : Room) s m args below meth c H locs 0 0 (MQ below (va_Qi (fun (r : Int32) (u : va_W) => o1 = r ∧ wF ty ad o2 = u) (kz_B D ty A) A) args s 0 0 A) (F0 m 5 ls []))
    (fun k hk a H locs ls h hp => WX8_rises_s2_5b C  (fun q x1 x2 x3 x4 H locs ls h h1 h2 h3 h4 => hk (q, x1, x2, x3, x4) H locs ls h ⟨h1, h2, h3, h4⟩) a.1 a.2.1 a.2.2.1 a.2.2.2.1 a.2.2.2.2 H locs ls h hp.1 hp.2.1 hp.2.2.1 hp.2.2.2) n (q, x1, x2, x3, x4) H locs ls h ⟨hP, hD, hS, hl⟩
set_option maxHeartbeats 4000000 in
set_option maxRecDepth 100000 in
theorem qX8_rises_s2 (l : Launch) (D : va_G) (ty : Nat → ClassId) (eo : Nat → Nat) (sz : Nat) (ad : Nat → Nat) (q : dK) (p1 : Int32) (p2 : Int32) (o1 : Int32) (o2 : dK) (h : zX8_rises_s2 q p1 p2 = some (o1, o2)) : Met l yX8_rises wsX8_rises ({ frames := 0, cells := 0, slots := 0, locals := 0 } : Room) (va_Pc [.ref (ad 2), .int p1, .int p2] (kz_pre D ty eo (wF ty ad q) sz)) (va_Qi (fun (r : Int32) (u : va_W) => o1 = r ∧ wF ty ad o2 = u) (kz_B D ty (va_A (wF ty ad q) sz)) (va_A (wF ty ad q) sz)) 0 0 (va_A (wF ty ad q) sz) := by
  refine Met.ofW (cc := cX8_rises) (maxL := 5) (ret := (some .boolean)) (by decide) rfl ?_
  intro p e s m args below meth c s₁ B hml hv
  obtain ⟨rfl, hsz, hP, hK, hD0, hN, hE⟩ := hv
  have hx := B.exec
  have hb := B.bytes
  have hr := B.returns
  have hts := atoms_spec (ws := wsX8_rises) B.pre
  have hown : s.vm.findClass RX8 = some m.cls := findClass_of_methodNamed B.named
  have hlocks := B.notSynchronized
  subst hsz
  have hD := hD0.self (sz := s.heap.size)
  generalize hAe : va_A (wF ty ad q) s.heap.size = A at hD hE ⊢
  have hA : ∀ q : Nat, s.heap.size ≤ q → A q := fun q h => by rw [← hAe]; exact Or.inr h
  clear hAe
  have hS : va_S A s.heap s.heap [] := va_S.rf
  have hl := lv_entry ([.ref (ad 2), .int p1, .int p2]) (n := 5) (Nat.le_of_ble_eq_true rfl)
  rw [lg_entry_eq]
  generalize (lg_sl ([.ref (ad 2), .int p1, .int p2]) ++ List.replicate (5 - (lg_sl ([.ref (ad 2), .int p1, .int p2])).length) Slot.unset).toArray = ls at hl ⊢
  have hl : lv_has ls 5 [(0, .ref (ad 2)), (1, .int p1), (2, .int p2)] := hl
  have C : dc_C p s m _ meth c cX8_rises (some .boolean) 5 RX8 wsX8_rises D ty eo A := ⟨hx, hb, hr, hts, hown, hlocks, hml, hK, hN, hE, hA⟩
  unfold zX8_rises_s2 at h
  refine lv_iconst (v := (-1)) hx hb dX8_rises_0 (by decide) ?_
  refine lv_istore_n (lv' := [(3, .int (-1)), (0, .ref (ad 2)), (1, .int p1), (2, .int p2)]) hx hb dX8_rises_1 rfl hl (by decide) rfl (fun ls hl => ?_)
  refine lv_iconst (v := 0) hx hb dX8_rises_2 (by decide) ?_
  refine lv_istore (lv' := [(4, .int 0), (3, .int (-1)), (0, .ref (ad 2)), (1, .int p1), (2, .int p2)]) hx hb dX8_rises_3 hl (by decide) rfl (fun ls hl => ?_)
  exact WX8_rises_s2_5 C  _ _ _ _ _ _ _ _ _ h hP hD hS (lv_sub hl [2, 3, 4, 1, 0] rfl)

set_option maxHeartbeats 4000000 in
set_option maxRecDepth 100000 in
theorem WX9_stays_s0_81 {p : Program} {l : Launch} {e : Env} {s : State} {m : MethodId} {args : Array Value} {below : List Frame} {meth : Method} {c : Code} {D : va_G} {ty : Nat → ClassId} {eo : Nat → Nat} {A : Nat → Prop} {ad : Nat → Nat} {o1 : Int32} {o2 : dK} (C : dc_C p s m args meth c cX9_stays (some .int) 4 RX9 wsX9_stays D ty eo A)   (q : dK) (y0 : Int32) (H : Heap) (locs : List Loc) (ls : Array Slot) (h : zX9_stays_s0_81  q y0 = some (o1, o2)) (hP : va_P D vwCl (wF ty ad q) H) (hD : va_D A (wF ty ad q)) (hS : va_S A s.heap H locs) (hl : lv_has ls 4 []) : W p l e ({ frames := 1, cells := 0, slots := 0, locals := 24 } : Room) s m args below meth c H locs 0 0 (MQ below (va_Qi (fun (r : Int32) (u : va_W) => o1 = r ∧ wF ty ad o2 = u) (kz_B D ty A) A) args s 0 0 A) (F0 m 81 ls [.int y0]) := by
  have C0 := C
  obtain ⟨hx, hb, hr, hts, hown, hlocks, hml, hK, hN, hE, hA⟩ := C
  unfold zX9_stays_s0_81 at h
  cases h
  exact kz_iret hx hb hr hlocks hP hK hD hS dX9_stays_81 ⟨rfl, rfl⟩
set_option maxHeartbeats 4000000 in
set_option maxRecDepth 100000 in
theorem WX9_stays_s0_63 {p : Program} {l : Launch} {e : Env} {s : State} {m : MethodId} {args : Array Value} {below : List Frame} {meth : Method} {c : Code} {D : va_G} {ty : Nat → ClassId} {eo : Nat → Nat} {A : Nat → Prop} {ad : Nat → Nat} {o1 : Int32} {o2 : dK} (C : dc_C p s m args meth c cX9_stays (some .int) 4 RX9 wsX9_stays D ty eo A) {k13 : dK → Int32 → Int32 → Int32 → Option (Int32 × dK)} (hk13 : ∀ (q : dK) (x1 : Int32) (x2 : Int32) (x3 : Int32) (H : Heap) (locs : List Loc) (ls : Array Slot), k13 q x1 x2 x3 = some (o1, o2) → va_P D vwCl (wF ty ad q) H → va_D A (wF ty ad q) → va_S A s.heap H locs → lv_has ls 4 [(0, .ref (ad 0)), (1, .int x1), (2, .int x2), (3, .int x3)] → W p l e ({ frames := 1, cells := 0, slots := 0, locals := 24 } : Room) s m args below meth c H locs 0 0 (MQ below (va_Qi (fun (r : Int32) (u : va_W) => o1 = r ∧ wF ty ad o2 = u) (kz_B D ty A) A) args s 0 0 A) (F0 m 13 ls [])) (q : dK) (x1 : Int32) (x2 : Int32) (x3 : Int32) (H : Heap) (locs : List Loc) (ls : Array Slot) (h : zX9_stays_s0_63 k13 q x1 x2 x3 = some (o1, o2)) (hP : va_P D vwCl (wF ty ad q) H) (hD : va_D A (wF ty ad q)) (hS : va_S A s.heap H locs) (hl : lv_has ls 4 [(0, .ref (ad 0)), (1, .int x1), (2, .int x2), (3, .int x3)]) : W p l e ({ frames := 1, cells := 0, slots := 0, locals := 24 } : Room) s m args below meth c H locs 0 0 (MQ below (va_Qi (fun (r : Int32) (u : va_W) => o1 = r ∧ wF ty ad o2 = u) (kz_B D ty A) A) args s 0 0 A) (F0 m 63 ls []) := by
  have C0 := C
  obtain ⟨hx, hb, hr, hts, hown, hlocks, hml, hK, hN, hE, hA⟩ := C
  unfold zX9_stays_s0_63 at h
  refine lv_iinc (v := x3 + 1) (lv' := [(3, .int (x3 + 1)), (0, .ref (ad 0)), (1, .int x1), (2, .int x2)]) hx hb dX9_stays_63 hl (k := 3) rfl rfl (by decide) rfl (fun ls hl => ?_)
  refine lv_goto (tgt := 13) hx hb dX9_stays_66 (by decide) ?_
  exact hk13 _ _ _ _ _ _ _ h hP hD hS (lv_sub hl [1, 2, 3, 0] rfl)
set_option maxHeartbeats 4000000 in
set_option maxRecDepth 100000 in
theorem WX9_stays_s0_13b {p : Program} {l : Launch} {e : Env} {s : State} {m : MethodId} {args : Array Value} {below : List Frame} {meth : Method} {c : Code} {D : va_G} {ty : Nat → ClassId} {eo : Nat → Nat} {A : Nat → Prop} {ad : Nat → Nat} {o1 : Int32} {o2 : dK} (C : dc_C p s m args meth c cX9_stays (some .int) 4 RX9 wsX9_stays D ty eo A) {k13 : dK → Int32 → Int32 → Int32 → Option (Int32 × dK)} (hk13 : ∀ (q : dK) (x1 : Int32) (x2 : Int32) (x3 : Int32) (H : Heap) (locs : List Loc) (ls : Array Slot), k13 q x1 x2 x3 = some (o1, o2) → va_P D vwCl (wF ty ad q) H → va_D A (wF ty ad q) → va_S A s.heap H locs → lv_has ls 4 [(0, .ref (ad 0)), (1, .int x1), (2, .int x2), (3, .int x3)] → W p l e ({ frames := 1, cells := 0, slots := 0, locals := 24 } : Room) s m args below meth c H locs 0 0 (MQ below (va_Qi (fun (r : Int32) (u : va_W) => o1 = r ∧ wF ty ad o2 = u) (kz_B D ty A) A) args s 0 0 A) (F0 m 13 ls [])) (q : dK) (x1 : Int32) (x2 : Int32) (x3 : Int32) (H : Heap) (locs : List Loc) (ls : Array Slot) (h : zX9_stays_s0_13b k13 q x1 x2 x3 = some (o1, o2)) (hP : va_P D vwCl (wF ty ad q) H) (hD : va_D A (wF ty ad q)) (hS : va_S A s.heap H locs) (hl : lv_has ls 4 [(0, .ref (ad 0)), (1, .int x1), (2, .int x2), (3, .int x3)]) : W p l e ({ frames := 1, cells := 0, slots := 0, locals := 24 } : Room) s m args below meth c H locs 0 0 (MQ below (va_Qi (fun (r : Int32) (u : va_W) => o1 = r ∧ wF ty ad o2 = u) (kz_B D ty A) A) args s 0 0 A) (F0 m 13 ls []) := by
  have C0 := C
  obtain ⟨hx, hb, hr, hts, hown, hlocks, hml, hK, hN, hE, hA⟩ := C
  unfold zX9_stays_s0_13b at h
  refine lv_iload_n hx hb dX9_stays_13 rfl (lv_at hl 3 rfl) ?_
  refine lv_iconst (v := 1) hx hb dX9_stays_14 (by decide) ?_
  refine lv_aload_n hx hb dX9_stays_15 rfl (lv_at hl 0 rfl) ?_
  refine va_get (D := D) (ci := 9) (v := .ref (ad 1)) (C := RX9) (T := TX9) (N := 19) hx hb hts u9_wsX9_stays_X9 hown hK hP 0 rfl rfl 0 (by decide) (hts (.fieldLink RX9 10 "TurnedFloors" "state" "LTurnedFloors$State;") f9_wsX9_stays_890) (fun _ h9 => h9) rfl dX9_stays_16 ?_
  refine va_getN (D := D) (ci := 6) (v := .ref (ad 2)) (C := RX6) (T := TX6) (N := 10) hx hb hts u9_wsX9_stays_X6 hown hK hP 1 rfl rfl 0 (by decide) (hN.use (.fieldLinkNest "TurnedFloors" 122 "TurnedFloors$State" "tower" "LTurnedFloors$Tower;" "TurnedFloors") nn9_0) (fun _ h9 => h9) rfl dX9_stays_19 ?_
  refine va_getN (D := D) (ci := 8) (v := .int (q.1 2 2)) (C := RX8) (T := TX8) (N := 5) hx hb hts u9_wsX9_stays_X8 hown hK hP 2 rfl rfl 2 (by decide) (hN.use (.fieldLinkNest "TurnedFloors" 135 "TurnedFloors$Tower" "floors" "I" "TurnedFloors") nn9_1) (fun _ h9 => h9) rfl dX9_stays_22 ?_
  refine lv_ishl hx hb dX9_stays_25 ?_
  refine lv_icmp_ge (tgt := 69) hx hb dX9_stays_26 (by decide) (fun c9 => ?_) (fun c9 => ?_)
  · rw [if_pos c9] at h
    refine lv_iload_n hx hb dX9_stays_69 rfl (lv_at hl 1 rfl) ?_
    refine lv_if_ne (tgt := 80) hx hb dX9_stays_70 (by decide) (fun c9 => ?_) (fun c9 => ?_)
    · rw [if_neg c9] at h
      refine lv_iload_n hx hb dX9_stays_80 rfl (lv_at hl 2 rfl) ?_
      exact WX9_stays_s0_81 C0  _ _ _ _ _ h hP hD hS (lv_sub hl [] rfl)
    · rw [if_pos c9] at h
      refine lv_iload_n hx hb dX9_stays_73 rfl (lv_at hl 2 rfl) ?_
      obtain ⟨r1, h2, h⟩ := dV_some h
      refine dw_ks (va_runS (As := [.int x2]) (rest := []) ⟨hx, hb, hml, hown, hts⟩ (qJ6_bitCount_0f7a4 l D ty eo _ x2 _ h2) (va_cwS 1 hts gX9_stays_J6_bitCount_0f7a4 rfl rfl rfl hd_J6_bitCount_0f7a4 ⟨Nat.le_of_ble_eq_true rfl, Nat.le_of_ble_eq_true rfl⟩) (pvS_0 hK hN hE hP hD hS hA) rfl rfl hl.1 rfl (lv_room (Nat.le_of_ble_eq_true rfl)) dX9_stays_74 ⟨Nat.le_of_ble_eq_true rfl, Nat.le_of_ble_eq_true rfl⟩) hP hD hS hA (fun _ _ h9 => h9.2.symm) (fun r9 u9 H locs hw hp hd hs => ?_)
      obtain ⟨rfl, -⟩ := hw
      clear hP hD hS
      have hP := hp; have hD := hd; have hS := hs; clear hp hd hs
      refine lv_goto (tgt := 81) hx hb dX9_stays_77 (by decide) ?_
      exact WX9_stays_s0_81 C0  _ _ _ _ _ h hP hD hS (lv_sub hl [] rfl)
  · rw [if_neg c9] at h
    refine lv_iload_n hx hb dX9_stays_29 rfl (lv_at hl 3 rfl) ?_
    obtain ⟨r3, h4, h⟩ := dV_some h
    refine dw_ks (va_runS (As := [.int x3]) (rest := []) ⟨hx, hb, hml, hown, hts⟩ (qJ6_bitCount_0f7a4 l D ty eo _ x3 _ h4) (va_cwS 1 hts gX9_stays_J6_bitCount_0f7a4 rfl rfl rfl hd_J6_bitCount_0f7a4 ⟨Nat.le_of_ble_eq_true rfl, Nat.le_of_ble_eq_true rfl⟩) (pvS_0 hK hN hE hP hD hS hA) rfl rfl hl.1 rfl (lv_room (Nat.le_of_ble_eq_true rfl)) dX9_stays_30 ⟨Nat.le_of_ble_eq_true rfl, Nat.le_of_ble_eq_true rfl⟩) hP hD hS hA (fun _ _ h9 => h9.2.symm) (fun r9 u9 H locs hw hp hd hs => ?_)
    obtain ⟨rfl, -⟩ := hw
    clear hP hD hS
    have hP := hp; have hD := hd; have hS := hs; clear hp hd hs
    refine lv_iload_n hx hb dX9_stays_33 rfl (lv_at hl 2 rfl) ?_
    obtain ⟨r5, h6, h⟩ := dV_some h
    refine dw_ks (va_runS (As := [.int x2]) (rest := [.int r3]) ⟨hx, hb, hml, hown, hts⟩ (qJ6_bitCount_0f7a4 l D ty eo _ x2 _ h6) (va_cwS 1 hts gX9_stays_J6_bitCount_0f7a4 rfl rfl rfl hd_J6_bitCount_0f7a4 ⟨Nat.le_of_ble_eq_true rfl, Nat.le_of_ble_eq_true rfl⟩) (pvS_0 hK hN hE hP hD hS hA) rfl rfl hl.1 rfl (lv_room (Nat.le_of_ble_eq_true rfl)) dX9_stays_34 ⟨Nat.le_of_ble_eq_true rfl, Nat.le_of_ble_eq_true rfl⟩) hP hD hS hA (fun _ _ h9 => h9.2.symm) (fun r9 u9 H locs hw hp hd hs => ?_)
    obtain ⟨rfl, -⟩ := hw
    clear hP hD hS
    have hP := hp; have hD := hd; have hS := hs; clear hp hd hs
    refine lv_icmp_le (tgt := 63) hx hb dX9_stays_37 (by decide) (fun c9 => ?_) (fun c9 => ?_)
    · rw [if_pos c9] at h
      exact WX9_stays_s0_63 C0 hk13 _ _ _ _ _ _ _ h hP hD hS (lv_sub hl [0, 1, 2, 3] rfl)
    · rw [if_neg c9] at h
      refine lv_aload_n hx hb dX9_stays_40 rfl (lv_at hl 0 rfl) ?_
      refine va_get (D := D) (ci := 9) (v := .ref (ad 1)) (C := RX9) (T := TX9) (N := 19) hx hb hts u9_wsX9_stays_X9 hown hK hP 0 rfl rfl 0 (by decide) (hts (.fieldLink RX9 10 "TurnedFloors" "state" "LTurnedFloors$State;") f9_wsX9_stays_890) (fun _ h9 => h9) rfl dX9_stays_41 ?_
      refine va_getN (D := D) (ci := 6) (v := .ref (ad 2)) (C := RX6) (T := TX6) (N := 10) hx hb hts u9_wsX9_stays_X6 hown hK hP 1 rfl rfl 0 (by decide) (hN.use (.fieldLinkNest "TurnedFloors" 122 "TurnedFloors$State" "tower" "LTurnedFloors$Tower;" "TurnedFloors") nn9_0) (fun _ h9 => h9) rfl dX9_stays_44 ?_
      refine lv_iload_n hx hb dX9_stays_47 rfl (lv_at hl 3 rfl) ?_
      refine lv_aload_n hx hb dX9_stays_48 rfl (lv_at hl 0 rfl) ?_
      refine va_get (D := D) (ci := 9) (v := .ref (ad 1)) (C := RX9) (T := TX9) (N := 19) hx hb hts u9_wsX9_stays_X9 hown hK hP 0 rfl rfl 0 (by decide) (hts (.fieldLink RX9 10 "TurnedFloors" "state" "LTurnedFloors$State;") f9_wsX9_stays_890) (fun _ h9 => h9) rfl dX9_stays_49 ?_
      refine va_getN (D := D) (ci := 6) (v := .int (q.1 1 3)) (C := RX6) (T := TX6) (N := 10) hx hb hts u9_wsX9_stays_X6 hown hK hP 1 rfl rfl 3 (by decide) (hN.use (.fieldLinkNest "TurnedFloors" 267 "TurnedFloors$State" "headsMatter" "I" "TurnedFloors") nn9_36) (fun _ h9 => h9) rfl dX9_stays_52 ?_
      obtain ⟨r7, q9, h8, h⟩ := dB_some h
      refine dw_ki (va_runV (As := [.int x3, .int (q.1 1 3)]) (rest := []) ⟨hx, hb, hml, hown, hts⟩ (qX8_rises_s2 l D ty eo _ ad q x3 (q.1 1 3) r7 q9 h8) (cwV 2 hts gX9_stays_X8_rises rfl rfl rfl hd_X8_rises_v ⟨Nat.le_of_ble_eq_true rfl, Nat.le_of_ble_eq_true rfl⟩) (pvF_8_2 hK hN hE hP hD hS hA) rfl rfl hl.1 rfl (lv_room (Nat.le_of_ble_eq_true rfl)) dX9_stays_55 ⟨Nat.le_of_ble_eq_true rfl, Nat.le_of_ble_eq_true rfl⟩) hD hS hA (fun r9 u9 H locs hw hp hd hs => ?_)
      clear hP hD hS
      obtain ⟨rfl, rfl⟩ := hw
      have hP := hp; have hD := hd; have hS := hs; clear hp hd hs
      refine lv_if_eq (tgt := 63) hx hb dX9_stays_58 (by decide) (fun c9 => ?_) (fun c9 => ?_)
      · rw [if_pos c9] at h
        exact WX9_stays_s0_63 C0 hk13 _ _ _ _ _ _ _ h hP hD hS (lv_sub hl [0, 1, 2, 3] rfl)
      · rw [if_neg c9] at h
        refine lv_iload_n hx hb dX9_stays_61 rfl (lv_at hl 3 rfl) ?_
        refine lv_istore_n (lv' := [(2, .int x3), (0, .ref (ad 0)), (1, .int x1), (3, .int x3)]) hx hb dX9_stays_62 rfl hl (by decide) rfl (fun ls hl => ?_)
        exact WX9_stays_s0_63 C0 hk13 _ _ _ _ _ _ _ h hP hD hS (lv_sub hl [1, 2, 0, 3] rfl)
set_option maxHeartbeats 4000000 in
set_option maxRecDepth 100000 in
theorem WX9_stays_s0_13 {p : Program} {l : Launch} {e : Env} {s : State} {m : MethodId} {args : Array Value} {below : List Frame} {meth : Method} {c : Code} {D : va_G} {ty : Nat → ClassId} {eo : Nat → Nat} {A : Nat → Prop} {ad : Nat → Nat} {o1 : Int32} {o2 : dK} (C : dc_C p s m args meth c cX9_stays (some .int) 4 RX9 wsX9_stays D ty eo A)   (n : Nat) (q : dK) (x1 : Int32) (x2 : Int32) (x3 : Int32) (H : Heap) (locs : List Loc) (ls : Array Slot) (h : zX9_stays_s0_13  n q x1 x2 x3 = some (o1, o2)) (hP : va_P D vwCl (wF ty ad q) H) (hD : va_D A (wF ty ad q)) (hS : va_S A s.heap H locs) (hl : lv_has ls 4 [(0, .ref (ad 0)), (1, .int x1), (2, .int x2), (3, .int x3)]) : W p l e ({ frames := 1, cells := 0, slots := 0, locals := 24 } : Room) s m args below meth c H locs 0 0 (MQ below (va_Qi (fun (r : Int32) (u : va_W) => o1 = r ∧ wF ty ad o2 = u) (kz_B D ty A) A) args s 0 0 A) (F0 m 13 ls []) := by
  exact dFix_W (F := fun k (a : dK × Int32 × Int32 × Int32) => zX9_stays_s0_13b  (fun q x1 x2 x3 => k (q, x1, x2, x3)) a.1 a.2.1 a.2.2.1 a.2.2.2) (o := (o1, o2)) (P := fun (a : dK × Int32 × Int32 × Int32) H locs ls => va_P D vwCl (wF ty ad a.1) H ∧ va_D A (wF ty ad a.1) ∧ va_S A s.heap H locs ∧ lv_has ls 4 [(0, .ref (ad 0)), (1, .int a.2.1), (2, .int a.2.2.1), (3, .int a.2.2.2)]) (G := fun H locs ls => W p l e ({ frames := 1, cells := 0, slots := 0, locals := 24 } : Room) s m args below meth c H locs 0 0 (MQ below (va_Qi (fun (r : Int32) (u : va_W) => o1 = r ∧ wF ty ad o2 = u) (kz_B D ty A) A) args s 0 0 A) (F0 m 13 ls []))
    (fun k hk a H locs ls h hp => WX9_stays_s0_13b C  (fun q x1 x2 x3 H locs ls h h1 h2 h3 h4 => hk (q, x1, x2, x3) H locs ls h ⟨h1, h2, h3, h4⟩) a.1 a.2.1 a.2.2.1 a.2.2.2 H locs ls h hp.1 hp.2.1 hp.2.2.1 hp.2.2.2) n (q, x1, x2, x3) H locs ls h ⟨hP, hD, hS, hl⟩
set_option maxHeartbeats 4000000 in
set_option maxRecDepth 100000 in
theorem qX9_stays_s0 (l : Launch) (D : va_G) (ty : Nat → ClassId) (eo : Nat → Nat) (sz : Nat) (ad : Nat → Nat) (q : dK) (p1 : Int32) (o1 : Int32) (o2 : dK) (h : zX9_stays_s0 q p1 = some (o1, o2)) : Met l yX9_stays wsX9_stays ({ frames := 1, cells := 0, slots := 0, locals := 24 } : Room) (va_Pc [.ref (ad 0), .int p1] (kz_pre D ty eo (wF ty ad q) sz)) (va_Qi (fun (r : Int32) (u : va_W) => o1 = r ∧ wF ty ad o2 = u) (kz_B D ty (va_A (wF ty ad q) sz)) (va_A (wF ty ad q) sz)) 0 0 (va_A (wF ty ad q) sz) := by
  refine Met.ofW (cc := cX9_stays) (maxL := 4) (ret := (some .int)) (by decide) rfl ?_
  intro p e s m args below meth c s₁ B hml hv
  obtain ⟨rfl, hsz, hP, hK, hD0, hN, hE⟩ := hv
  have hx := B.exec
  have hb := B.bytes
  have hr := B.returns
  have hts := atoms_spec (ws := wsX9_stays) B.pre
  have hown : s.vm.findClass RX9 = some m.cls := findClass_of_methodNamed B.named
  have hlocks := B.notSynchronized
  subst hsz
  have hD := hD0.self (sz := s.heap.size)
  generalize hAe : va_A (wF ty ad q) s.heap.size = A at hD hE ⊢
  have hA : ∀ q : Nat, s.heap.size ≤ q → A q := fun q h => by rw [← hAe]; exact Or.inr h
  clear hAe
  have hS : va_S A s.heap s.heap [] := va_S.rf
  have hl := lv_entry ([.ref (ad 0), .int p1]) (n := 4) (Nat.le_of_ble_eq_true rfl)
  rw [lg_entry_eq]
  generalize (lg_sl ([.ref (ad 0), .int p1]) ++ List.replicate (4 - (lg_sl ([.ref (ad 0), .int p1])).length) Slot.unset).toArray = ls at hl ⊢
  have hl : lv_has ls 4 [(0, .ref (ad 0)), (1, .int p1)] := hl
  have C : dc_C p s m _ meth c cX9_stays (some .int) 4 RX9 wsX9_stays D ty eo A := ⟨hx, hb, hr, hts, hown, hlocks, hml, hK, hN, hE, hA⟩
  unfold zX9_stays_s0 at h
  refine lv_iload_n hx hb dX9_stays_0 rfl (lv_at hl 1 rfl) ?_
  obtain ⟨r1, h2, h⟩ := dV_some h
  refine dw_ks (va_runS (As := [.int p1]) (rest := []) ⟨hx, hb, hml, hown, hts⟩ (qX9_isBit l D ty eo _ p1 _ h2) (va_cwS 1 hts gX9_stays_X9_isBit rfl rfl rfl hd_X9_isBit ⟨Nat.le_of_ble_eq_true rfl, Nat.le_of_ble_eq_true rfl⟩) (pvS_0 hK hN hE hP hD hS hA) rfl rfl hl.1 rfl (lv_room (Nat.le_of_ble_eq_true rfl)) dX9_stays_1 ⟨Nat.le_of_ble_eq_true rfl, Nat.le_of_ble_eq_true rfl⟩) hP hD hS hA (fun _ _ h9 => h9.2.symm) (fun r9 u9 H locs hw hp hd hs => ?_)
  obtain ⟨rfl, -⟩ := hw
  clear hP hD hS
  have hP := hp; have hD := hd; have hS := hs; clear hp hd hs
  refine lv_if_ne (tgt := 9) hx hb dX9_stays_4 (by decide) (fun c9 => ?_) (fun c9 => ?_)
  · rw [if_neg c9] at h
    refine lv_iconst (v := 0) hx hb dX9_stays_9 (by decide) ?_
    refine lv_istore_n (lv' := [(2, .int 0), (0, .ref (ad 0)), (1, .int p1)]) hx hb dX9_stays_10 rfl hl (by decide) rfl (fun ls hl => ?_)
    refine lv_iconst (v := 1) hx hb dX9_stays_11 (by decide) ?_
    refine lv_istore_n (lv' := [(3, .int 1), (2, .int 0), (0, .ref (ad 0)), (1, .int p1)]) hx hb dX9_stays_12 rfl hl (by decide) rfl (fun ls hl => ?_)
    exact WX9_stays_s0_13 C  _ _ _ _ _ _ _ _ h hP hD hS (lv_sub hl [2, 3, 1, 0] rfl)
  · rw [if_pos c9] at h
    refine lv_iconst (v := (-1)) hx hb dX9_stays_7 (by decide) ?_
    cases h
    exact kz_iret hx hb hr hlocks hP hK hD hS dX9_stays_8 ⟨rfl, rfl⟩

set_option maxHeartbeats 4000000 in
set_option maxRecDepth 100000 in
theorem WX9_seen_s0_17 {p : Program} {l : Launch} {e : Env} {s : State} {m : MethodId} {args : Array Value} {below : List Frame} {meth : Method} {c : Code} {D : va_G} {ty : Nat → ClassId} {eo : Nat → Nat} {A : Nat → Prop} {ad : Nat → Nat} {o1 : Int32} {o2 : dK} (C : dc_C p s m args meth c cX9_seen (some .int) 3 RX9 wsX9_seen D ty eo A)   (q : dK)  (H : Heap) (locs : List Loc) (ls : Array Slot) (h : zX9_seen_s0_17  q = some (o1, o2)) (hP : va_P D vwCl (wF ty ad q) H) (hD : va_D A (wF ty ad q)) (hS : va_S A s.heap H locs) (hl : lv_has ls 3 [(0, .ref (ad 0))]) : W p l e ({ frames := 1, cells := 0, slots := 0, locals := 21 } : Room) s m args below meth c H locs 0 0 (MQ below (va_Qi (fun (r : Int32) (u : va_W) => o1 = r ∧ wF ty ad o2 = u) (kz_B D ty A) A) args s 0 0 A) (F0 m 17 ls []) := by
  have C0 := C
  obtain ⟨hx, hb, hr, hts, hown, hlocks, hml, hK, hN, hE, hA⟩ := C
  unfold zX9_seen_s0_17 at h
  refine lv_aload_n hx hb dX9_seen_17 rfl (lv_at hl 0 rfl) ?_
  refine lv_iconst (v := (-1)) hx hb dX9_seen_18 (by decide) ?_
  obtain ⟨r1, q3, h2, h⟩ := dB_some h
  refine dw_ki (va_runV (As := [.int (-1)]) (rest := []) ⟨hx, hb, hml, hown, hts⟩ (qX9_refuse_s0 l D ty eo _ ad q (-1) r1 q3 h2) (cwV 1 hts gX9_seen_X9_refuse rfl rfl rfl hd_X9_refuse_v ⟨Nat.le_of_ble_eq_true rfl, Nat.le_of_ble_eq_true rfl⟩) (pvF_9_0 hK hN hE hP hD hS hA) rfl rfl hl.1 rfl (lv_room (Nat.le_of_ble_eq_true rfl)) dX9_seen_19 ⟨Nat.le_of_ble_eq_true rfl, Nat.le_of_ble_eq_true rfl⟩) hD hS hA (fun r9 u9 H locs hw hp hd hs => ?_)
  clear hP hD hS
  obtain ⟨rfl, rfl⟩ := hw
  have hP := hp; have hD := hd; have hS := hs; clear hp hd hs
  cases h
  exact kz_iret hx hb hr hlocks hP hK hD hS dX9_seen_22 ⟨rfl, rfl⟩
set_option maxHeartbeats 4000000 in
set_option maxRecDepth 100000 in
theorem qX9_seen_s0 (l : Launch) (D : va_G) (ty : Nat → ClassId) (eo : Nat → Nat) (sz : Nat) (ad : Nat → Nat) (q : dK) (p1 : Int32) (p2 : Int32) (o1 : Int32) (o2 : dK) (h : zX9_seen_s0 q p1 p2 = some (o1, o2)) : Met l yX9_seen wsX9_seen ({ frames := 1, cells := 0, slots := 0, locals := 21 } : Room) (va_Pc [.ref (ad 0), .int p1, .int p2] (kz_pre D ty eo (wF ty ad q) sz)) (va_Qi (fun (r : Int32) (u : va_W) => o1 = r ∧ wF ty ad o2 = u) (kz_B D ty (va_A (wF ty ad q) sz)) (va_A (wF ty ad q) sz)) 0 0 (va_A (wF ty ad q) sz) := by
  refine Met.ofW (cc := cX9_seen) (maxL := 3) (ret := (some .int)) (by decide) rfl ?_
  intro p e s m args below meth c s₁ B hml hv
  obtain ⟨rfl, hsz, hP, hK, hD0, hN, hE⟩ := hv
  have hx := B.exec
  have hb := B.bytes
  have hr := B.returns
  have hts := atoms_spec (ws := wsX9_seen) B.pre
  have hown : s.vm.findClass RX9 = some m.cls := findClass_of_methodNamed B.named
  have hlocks := B.notSynchronized
  subst hsz
  have hD := hD0.self (sz := s.heap.size)
  generalize hAe : va_A (wF ty ad q) s.heap.size = A at hD hE ⊢
  have hA : ∀ q : Nat, s.heap.size ≤ q → A q := fun q h => by rw [← hAe]; exact Or.inr h
  clear hAe
  have hS : va_S A s.heap s.heap [] := va_S.rf
  have hl := lv_entry ([.ref (ad 0), .int p1, .int p2]) (n := 3) (Nat.le_of_ble_eq_true rfl)
  rw [lg_entry_eq]
  generalize (lg_sl ([.ref (ad 0), .int p1, .int p2]) ++ List.replicate (3 - (lg_sl ([.ref (ad 0), .int p1, .int p2])).length) Slot.unset).toArray = ls at hl ⊢
  have hl : lv_has ls 3 [(0, .ref (ad 0)), (1, .int p1), (2, .int p2)] := hl
  have C : dc_C p s m _ meth c cX9_seen (some .int) 3 RX9 wsX9_seen D ty eo A := ⟨hx, hb, hr, hts, hown, hlocks, hml, hK, hN, hE, hA⟩
  unfold zX9_seen_s0 at h
  refine lv_iload_n hx hb dX9_seen_0 rfl (lv_at hl 1 rfl) ?_
  refine lv_if_lt (tgt := 17) hx hb dX9_seen_1 (by decide) (fun c9 => ?_) (fun c9 => ?_)
  · rw [if_pos c9] at h
    exact WX9_seen_s0_17 C  _ _ _ _ h hP hD hS (lv_sub hl [0] rfl)
  · rw [if_neg c9] at h
    refine lv_iload_n hx hb dX9_seen_4 rfl (lv_at hl 1 rfl) ?_
    refine lv_bipush (v := 6) hx hb dX9_seen_5 (by decide) ?_
    refine lv_icmp_ge (tgt := 17) hx hb dX9_seen_7 (by decide) (fun c9 => ?_) (fun c9 => ?_)
    · rw [if_pos c9] at h
      exact WX9_seen_s0_17 C  _ _ _ _ h hP hD hS (lv_sub hl [0] rfl)
    · rw [if_neg c9] at h
      refine lv_iload_n hx hb dX9_seen_10 rfl (lv_at hl 2 rfl) ?_
      obtain ⟨r1, h2, h⟩ := dV_some h
      refine dw_ks (va_runS (As := [.int p2]) (rest := []) ⟨hx, hb, hml, hown, hts⟩ (qX9_isRank l D ty eo _ p2 _ h2) (va_cwS 1 hts gX9_seen_X9_isRank rfl rfl rfl hd_X9_isRank ⟨Nat.le_of_ble_eq_true rfl, Nat.le_of_ble_eq_true rfl⟩) (pvS_0 hK hN hE hP hD hS hA) rfl rfl hl.1 rfl (lv_room (Nat.le_of_ble_eq_true rfl)) dX9_seen_11 ⟨Nat.le_of_ble_eq_true rfl, Nat.le_of_ble_eq_true rfl⟩) hP hD hS hA (fun _ _ h9 => h9.2.symm) (fun r9 u9 H locs hw hp hd hs => ?_)
      obtain ⟨rfl, -⟩ := hw
      clear hP hD hS
      have hP := hp; have hD := hd; have hS := hs; clear hp hd hs
      refine lv_if_ne (tgt := 23) hx hb dX9_seen_14 (by decide) (fun c9 => ?_) (fun c9 => ?_)
      · rw [if_neg c9] at h
        refine lv_aload_n hx hb dX9_seen_23 rfl (lv_at hl 0 rfl) ?_
        refine va_get (D := D) (ci := 9) (v := .ref (ad 1)) (C := RX9) (T := TX9) (N := 19) hx hb hts u9_wsX9_seen_X9 hown hK hP 0 rfl rfl 0 (by decide) (hts (.fieldLink RX9 10 "TurnedFloors" "state" "LTurnedFloors$State;") f9_wsX9_seen_893) (fun _ h9 => h9) rfl dX9_seen_24 ?_
        refine va_getN (D := D) (ci := 6) (v := .int (q.1 1 6)) (C := RX6) (T := TX6) (N := 10) hx hb hts u9_wsX9_seen_X6 hown hK hP 1 rfl rfl 6 (by decide) (hN.use (.fieldLinkNest "TurnedFloors" 273 "TurnedFloors$State" "seenCount" "I" "TurnedFloors") nn9_38) (fun _ h9 => h9) rfl dX9_seen_27 ?_
        refine lv_bipush (v := 6) hx hb dX9_seen_30 (by decide) ?_
        refine lv_icmp_lt (tgt := 42) hx hb dX9_seen_32 (by decide) (fun c9 => ?_) (fun c9 => ?_)
        · rw [if_pos c9] at h
          refine lv_aload_n hx hb dX9_seen_42 rfl (lv_at hl 0 rfl) ?_
          refine va_get (D := D) (ci := 9) (v := .ref (ad 1)) (C := RX9) (T := TX9) (N := 19) hx hb hts u9_wsX9_seen_X9 hown hK hP 0 rfl rfl 0 (by decide) (hts (.fieldLink RX9 10 "TurnedFloors" "state" "LTurnedFloors$State;") f9_wsX9_seen_893) (fun _ h9 => h9) rfl dX9_seen_43 ?_
          refine va_getN (D := D) (ci := 6) (v := .ref (ad 5)) (C := RX6) (T := TX6) (N := 10) hx hb hts u9_wsX9_seen_X6 hown hK hP 1 rfl rfl 4 (by decide) (hN.use (.fieldLinkNest "TurnedFloors" 276 "TurnedFloors$State" "seenPlace" "[I" "TurnedFloors") nn9_39) (fun _ h9 => h9) rfl dX9_seen_46 ?_
          refine lv_aload_n hx hb dX9_seen_49 rfl (lv_at hl 0 rfl) ?_
          refine va_get (D := D) (ci := 9) (v := .ref (ad 1)) (C := RX9) (T := TX9) (N := 19) hx hb hts u9_wsX9_seen_X9 hown hK hP 0 rfl rfl 0 (by decide) (hts (.fieldLink RX9 10 "TurnedFloors" "state" "LTurnedFloors$State;") f9_wsX9_seen_893) (fun _ h9 => h9) rfl dX9_seen_50 ?_
          refine va_getN (D := D) (ci := 6) (v := .int (q.1 1 6)) (C := RX6) (T := TX6) (N := 10) hx hb hts u9_wsX9_seen_X6 hown hK hP 1 rfl rfl 6 (by decide) (hN.use (.fieldLinkNest "TurnedFloors" 273 "TurnedFloors$State" "seenCount" "I" "TurnedFloors") nn9_38) (fun _ h9 => h9) rfl dX9_seen_53 ?_
          refine lv_iload_n hx hb dX9_seen_56 rfl (lv_at hl 1 rfl) ?_
          obtain ⟨g3, h⟩ := dG_some h
          refine va_iast hx hb hK hP hD hS 5 0 rfl rfl (dg_in g3) dX9_seen_57 (fun H locs hp hd hs => ?_)
          obtain ⟨q4, eq4, h⟩ := dL_some h
          refine kz_re (w2 := wF ty ad q4) hp hd hs (by rw [← eq4]; exact wF_a5 ty ad q (Int32.toNatClampNeg (q.1 1 6)) p1) ?_
          clear hp hd hs hP hD hS
          intro hP hD hS
          refine lv_aload_n hx hb dX9_seen_58 rfl (lv_at hl 0 rfl) ?_
          refine va_get (D := D) (ci := 9) (v := .ref (ad 1)) (C := RX9) (T := TX9) (N := 19) hx hb hts u9_wsX9_seen_X9 hown hK hP 0 rfl rfl 0 (by decide) (hts (.fieldLink RX9 10 "TurnedFloors" "state" "LTurnedFloors$State;") f9_wsX9_seen_893) (fun _ h9 => h9) rfl dX9_seen_59 ?_
          refine va_getN (D := D) (ci := 6) (v := .ref (ad 6)) (C := RX6) (T := TX6) (N := 10) hx hb hts u9_wsX9_seen_X6 hown hK hP 1 rfl rfl 5 (by decide) (hN.use (.fieldLinkNest "TurnedFloors" 279 "TurnedFloors$State" "seenRank" "[I" "TurnedFloors") nn9_40) (fun _ h9 => h9) rfl dX9_seen_62 ?_
          refine lv_aload_n hx hb dX9_seen_65 rfl (lv_at hl 0 rfl) ?_
          refine va_get (D := D) (ci := 9) (v := .ref (ad 1)) (C := RX9) (T := TX9) (N := 19) hx hb hts u9_wsX9_seen_X9 hown hK hP 0 rfl rfl 0 (by decide) (hts (.fieldLink RX9 10 "TurnedFloors" "state" "LTurnedFloors$State;") f9_wsX9_seen_893) (fun _ h9 => h9) rfl dX9_seen_66 ?_
          refine va_getN (D := D) (ci := 6) (v := .int (q4.1 1 6)) (C := RX6) (T := TX6) (N := 10) hx hb hts u9_wsX9_seen_X6 hown hK hP 1 rfl rfl 6 (by decide) (hN.use (.fieldLinkNest "TurnedFloors" 273 "TurnedFloors$State" "seenCount" "I" "TurnedFloors") nn9_38) (fun _ h9 => h9) rfl dX9_seen_69 ?_
          refine lv_iload_n hx hb dX9_seen_72 rfl (lv_at hl 2 rfl) ?_
          obtain ⟨g5, h⟩ := dG_some h
          refine va_iast hx hb hK hP hD hS 6 0 rfl rfl (dg_in g5) dX9_seen_73 (fun H locs hp hd hs => ?_)
          obtain ⟨q6, eq6, h⟩ := dL_some h
          refine kz_re (w2 := wF ty ad q6) hp hd hs (by rw [← eq6]; exact wF_a6 ty ad q4 (Int32.toNatClampNeg (q4.1 1 6)) p2) ?_
          clear hp hd hs hP hD hS
          intro hP hD hS
          refine lv_aload_n hx hb dX9_seen_74 rfl (lv_at hl 0 rfl) ?_
          refine va_get (D := D) (ci := 9) (v := .ref (ad 1)) (C := RX9) (T := TX9) (N := 19) hx hb hts u9_wsX9_seen_X9 hown hK hP 0 rfl rfl 0 (by decide) (hts (.fieldLink RX9 10 "TurnedFloors" "state" "LTurnedFloors$State;") f9_wsX9_seen_893) (fun _ h9 => h9) rfl dX9_seen_75 ?_
          refine lv_dup hx hb dX9_seen_78 rfl ?_
          refine va_getN (D := D) (ci := 6) (v := .int (q6.1 1 6)) (C := RX6) (T := TX6) (N := 10) hx hb hts u9_wsX9_seen_X6 hown hK hP 1 rfl rfl 6 (by decide) (hN.use (.fieldLinkNest "TurnedFloors" 273 "TurnedFloors$State" "seenCount" "I" "TurnedFloors") nn9_38) (fun _ h9 => h9) rfl dX9_seen_79 ?_
          refine lv_iconst (v := 1) hx hb dX9_seen_82 (by decide) ?_
          refine lv_iadd hx hb dX9_seen_83 ?_
          refine va_putN (D := D) (ci := 6) (v := .int ((q6.1 1 6) + 1 : Int32)) (ty := .int) (C := RX6) (T := TX6) (N := 10) hx hb hts u9_wsX9_seen_X6 tyX6 tyX6_ok nmX6 hown hK hP hD hS 1 rfl rfl 6 (by decide) (hN.use (.fieldLinkNest "TurnedFloors" 273 "TurnedFloors$State" "seenCount" "I" "TurnedFloors") nn9_38) (fun _ h9 => h9) rfl (by decide +kernel) rfl rfl (Nat.le_of_ble_eq_true rfl) dX9_seen_84 (fun H locs hp hd hs => ?_)
          obtain ⟨q7, eq7, h⟩ := dL_some h
          refine kz_re (w2 := wF ty ad q7) hp hd hs (by rw [← eq7]; exact wF_f1_6 ty ad q6 ((q6.1 1 6) + 1 : Int32)) ?_
          clear hp hd hs hP hD hS
          intro hP hD hS
          refine lv_aload_n hx hb dX9_seen_87 rfl (lv_at hl 0 rfl) ?_
          refine lv_aload_n hx hb dX9_seen_88 rfl (lv_at hl 0 rfl) ?_
          refine va_get (D := D) (ci := 9) (v := .ref (ad 1)) (C := RX9) (T := TX9) (N := 19) hx hb hts u9_wsX9_seen_X9 hown hK hP 0 rfl rfl 0 (by decide) (hts (.fieldLink RX9 10 "TurnedFloors" "state" "LTurnedFloors$State;") f9_wsX9_seen_893) (fun _ h9 => h9) rfl dX9_seen_89 ?_
          refine va_getN (D := D) (ci := 6) (v := .int (q7.1 1 6)) (C := RX6) (T := TX6) (N := 10) hx hb hts u9_wsX9_seen_X6 hown hK hP 1 rfl rfl 6 (by decide) (hN.use (.fieldLinkNest "TurnedFloors" 273 "TurnedFloors$State" "seenCount" "I" "TurnedFloors") nn9_38) (fun _ h9 => h9) rfl dX9_seen_92 ?_
          obtain ⟨r8, q10, h9, h⟩ := dB_some h
          refine dw_ki (va_runV (As := [.int (q7.1 1 6)]) (rest := []) ⟨hx, hb, hml, hown, hts⟩ (qX9_accept_s0 l D ty eo _ ad q7 (q7.1 1 6) r8 q10 h9) (cwV 1 hts gX9_seen_X9_accept rfl rfl rfl hd_X9_accept_v ⟨Nat.le_of_ble_eq_true rfl, Nat.le_of_ble_eq_true rfl⟩) (pvF_9_0 hK hN hE hP hD hS hA) rfl rfl hl.1 rfl (lv_room (Nat.le_of_ble_eq_true rfl)) dX9_seen_95 ⟨Nat.le_of_ble_eq_true rfl, Nat.le_of_ble_eq_true rfl⟩) hD hS hA (fun r9 u9 H locs hw hp hd hs => ?_)
          clear hP hD hS
          obtain ⟨rfl, rfl⟩ := hw
          have hP := hp; have hD := hd; have hS := hs; clear hp hd hs
          cases h
          exact kz_iret hx hb hr hlocks hP hK hD hS dX9_seen_98 ⟨rfl, rfl⟩
        · rw [if_neg c9] at h
          refine lv_aload_n hx hb dX9_seen_35 rfl (lv_at hl 0 rfl) ?_
          refine lv_bipush (v := (-5)) hx hb dX9_seen_36 (by decide) ?_
          obtain ⟨r11, q13, h12, h⟩ := dB_some h
          refine dw_ki (va_runV (As := [.int (-5)]) (rest := []) ⟨hx, hb, hml, hown, hts⟩ (qX9_refuse_s0 l D ty eo _ ad q (-5) r11 q13 h12) (cwV 1 hts gX9_seen_X9_refuse rfl rfl rfl hd_X9_refuse_v ⟨Nat.le_of_ble_eq_true rfl, Nat.le_of_ble_eq_true rfl⟩) (pvF_9_0 hK hN hE hP hD hS hA) rfl rfl hl.1 rfl (lv_room (Nat.le_of_ble_eq_true rfl)) dX9_seen_38 ⟨Nat.le_of_ble_eq_true rfl, Nat.le_of_ble_eq_true rfl⟩) hD hS hA (fun r9 u9 H locs hw hp hd hs => ?_)
          clear hP hD hS
          obtain ⟨rfl, rfl⟩ := hw
          have hP := hp; have hD := hd; have hS := hs; clear hp hd hs
          cases h
          exact kz_iret hx hb hr hlocks hP hK hD hS dX9_seen_41 ⟨rfl, rfl⟩
      · rw [if_pos c9] at h
        exact WX9_seen_s0_17 C  _ _ _ _ h hP hD hS (lv_sub hl [0] rfl)

set_option maxHeartbeats 4000000 in
set_option maxRecDepth 100000 in
theorem qX9_forget_s0 (l : Launch) (D : va_G) (ty : Nat → ClassId) (eo : Nat → Nat) (sz : Nat) (ad : Nat → Nat) (q : dK)  (o1 : Int32) (o2 : dK) (h : zX9_forget_s0 q = some (o1, o2)) : Met l yX9_forget wsX9_forget ({ frames := 0, cells := 0, slots := 0, locals := 0 } : Room) (va_Pc [.ref (ad 0)] (kz_pre D ty eo (wF ty ad q) sz)) (va_Qi (fun (r : Int32) (u : va_W) => o1 = r ∧ wF ty ad o2 = u) (kz_B D ty (va_A (wF ty ad q) sz)) (va_A (wF ty ad q) sz)) 0 0 (va_A (wF ty ad q) sz) := by
  refine Met.ofW (cc := cX9_forget) (maxL := 2) (ret := (some .int)) (by decide) rfl ?_
  intro p e s m args below meth c s₁ B hml hv
  obtain ⟨rfl, hsz, hP, hK, hD0, hN, hE⟩ := hv
  have hx := B.exec
  have hb := B.bytes
  have hr := B.returns
  have hts := atoms_spec (ws := wsX9_forget) B.pre
  have hown : s.vm.findClass RX9 = some m.cls := findClass_of_methodNamed B.named
  have hlocks := B.notSynchronized
  subst hsz
  have hD := hD0.self (sz := s.heap.size)
  generalize hAe : va_A (wF ty ad q) s.heap.size = A at hD hE ⊢
  have hA : ∀ q : Nat, s.heap.size ≤ q → A q := fun q h => by rw [← hAe]; exact Or.inr h
  clear hAe
  have hS : va_S A s.heap s.heap [] := va_S.rf
  have hl := lv_entry ([.ref (ad 0)]) (n := 2) (Nat.le_of_ble_eq_true rfl)
  rw [lg_entry_eq]
  generalize (lg_sl ([.ref (ad 0)]) ++ List.replicate (2 - (lg_sl ([.ref (ad 0)])).length) Slot.unset).toArray = ls at hl ⊢
  have hl : lv_has ls 2 [(0, .ref (ad 0))] := hl
  have C : dc_C p s m _ meth c cX9_forget (some .int) 2 RX9 wsX9_forget D ty eo A := ⟨hx, hb, hr, hts, hown, hlocks, hml, hK, hN, hE, hA⟩
  unfold zX9_forget_s0 at h
  refine lv_aload_n hx hb dX9_forget_0 rfl (lv_at hl 0 rfl) ?_
  refine va_get (D := D) (ci := 9) (v := .ref (ad 1)) (C := RX9) (T := TX9) (N := 19) hx hb hts u9_wsX9_forget_X9 hown hK hP 0 rfl rfl 0 (by decide) (hts (.fieldLink RX9 10 "TurnedFloors" "state" "LTurnedFloors$State;") f9_wsX9_forget_896) (fun _ h9 => h9) rfl dX9_forget_1 ?_
  refine va_getN (D := D) (ci := 6) (v := .int (q.1 1 6)) (C := RX6) (T := TX6) (N := 10) hx hb hts u9_wsX9_forget_X6 hown hK hP 1 rfl rfl 6 (by decide) (hN.use (.fieldLinkNest "TurnedFloors" 273 "TurnedFloors$State" "seenCount" "I" "TurnedFloors") nn9_38) (fun _ h9 => h9) rfl dX9_forget_4 ?_
  refine lv_istore_n (lv' := [(1, .int (q.1 1 6)), (0, .ref (ad 0))]) hx hb dX9_forget_7 rfl hl (by decide) rfl (fun ls hl => ?_)
  refine lv_aload_n hx hb dX9_forget_8 rfl (lv_at hl 1 rfl) ?_
  refine va_get (D := D) (ci := 9) (v := .ref (ad 1)) (C := RX9) (T := TX9) (N := 19) hx hb hts u9_wsX9_forget_X9 hown hK hP 0 rfl rfl 0 (by decide) (hts (.fieldLink RX9 10 "TurnedFloors" "state" "LTurnedFloors$State;") f9_wsX9_forget_896) (fun _ h9 => h9) rfl dX9_forget_9 ?_
  refine lv_iconst (v := 0) hx hb dX9_forget_12 (by decide) ?_
  refine va_putN (D := D) (ci := 6) (v := .int 0) (ty := .int) (C := RX6) (T := TX6) (N := 10) hx hb hts u9_wsX9_forget_X6 tyX6 tyX6_ok nmX6 hown hK hP hD hS 1 rfl rfl 6 (by decide) (hN.use (.fieldLinkNest "TurnedFloors" 273 "TurnedFloors$State" "seenCount" "I" "TurnedFloors") nn9_38) (fun _ h9 => h9) rfl (by decide +kernel) rfl rfl (Nat.le_of_ble_eq_true rfl) dX9_forget_13 (fun H locs hp hd hs => ?_)
  obtain ⟨q1, eq1, h⟩ := dL_some h
  refine kz_re (w2 := wF ty ad q1) hp hd hs (by rw [← eq1]; exact wF_f1_6 ty ad q 0) ?_
  clear hp hd hs hP hD hS
  intro hP hD hS
  refine lv_iload_n hx hb dX9_forget_16 rfl (lv_at hl 0 rfl) ?_
  cases h
  exact kz_iret hx hb hr hlocks hP hK hD hS dX9_forget_17 ⟨rfl, rfl⟩

set_option maxHeartbeats 4000000 in
set_option maxRecDepth 100000 in
theorem WX8_rankBehindTurn_s2_33 {p : Program} {l : Launch} {e : Env} {s : State} {m : MethodId} {args : Array Value} {below : List Frame} {meth : Method} {c : Code} {D : va_G} {ty : Nat → ClassId} {eo : Nat → Nat} {A : Nat → Prop} {ad : Nat → Nat} {o1 : Int32} {o2 : dK} (C : dc_C p s m args meth c cX8_rankBehindTurn (some .int) 4 RX8 wsX8_rankBehindTurn D ty eo A)   (q : dK) (y0 : Int32) (H : Heap) (locs : List Loc) (ls : Array Slot) (h : zX8_rankBehindTurn_s2_33  q y0 = some (o1, o2)) (hP : va_P D vwCl (wF ty ad q) H) (hD : va_D A (wF ty ad q)) (hS : va_S A s.heap H locs) (hl : lv_has ls 4 []) : W p l e ({ frames := 1, cells := 0, slots := 0, locals := 21 } : Room) s m args below meth c H locs 0 0 (MQ below (va_Qi (fun (r : Int32) (u : va_W) => o1 = r ∧ wF ty ad o2 = u) (kz_B D ty A) A) args s 0 0 A) (F0 m 33 ls [.int y0]) := by
  have C0 := C
  obtain ⟨hx, hb, hr, hts, hown, hlocks, hml, hK, hN, hE, hA⟩ := C
  unfold zX8_rankBehindTurn_s2_33 at h
  cases h
  exact kz_iret hx hb hr hlocks hP hK hD hS dX8_rankBehindTurn_33 ⟨rfl, rfl⟩
set_option maxHeartbeats 4000000 in
set_option maxRecDepth 100000 in
theorem WX8_rankBehindTurn_s2_14 {p : Program} {l : Launch} {e : Env} {s : State} {m : MethodId} {args : Array Value} {below : List Frame} {meth : Method} {c : Code} {D : va_G} {ty : Nat → ClassId} {eo : Nat → Nat} {A : Nat → Prop} {ad : Nat → Nat} {o1 : Int32} {o2 : dK} (C : dc_C p s m args meth c cX8_rankBehindTurn (some .int) 4 RX8 wsX8_rankBehindTurn D ty eo A)   (q : dK) (y0 : Int32) (H : Heap) (locs : List Loc) (ls : Array Slot) (h : zX8_rankBehindTurn_s2_14  q y0 = some (o1, o2)) (hP : va_P D vwCl (wF ty ad q) H) (hD : va_D A (wF ty ad q)) (hS : va_S A s.heap H locs) (hl : lv_has ls 4 [(0, .ref (ad 2))]) : W p l e ({ frames := 1, cells := 0, slots := 0, locals := 21 } : Room) s m args below meth c H locs 0 0 (MQ below (va_Qi (fun (r : Int32) (u : va_W) => o1 = r ∧ wF ty ad o2 = u) (kz_B D ty A) A) args s 0 0 A) (F0 m 14 ls [.int y0]) := by
  have C0 := C
  obtain ⟨hx, hb, hr, hts, hown, hlocks, hml, hK, hN, hE, hA⟩ := C
  unfold zX8_rankBehindTurn_s2_14 at h
  refine lv_istore_n (lv' := [(3, .int y0), (0, .ref (ad 2))]) hx hb dX8_rankBehindTurn_14 rfl hl (by decide) rfl (fun ls hl => ?_)
  refine lv_aload_n hx hb dX8_rankBehindTurn_15 rfl (lv_at hl 1 rfl) ?_
  refine lv_iload_n hx hb dX8_rankBehindTurn_16 rfl (lv_at hl 0 rfl) ?_
  obtain ⟨r1, q3, h2, h⟩ := dB_some h
  refine dw_ki (va_runV (As := [.int y0]) (rest := []) ⟨hx, hb, hml, hown, hts⟩ (qX8_isFloor_s2 l D ty eo _ ad q y0 r1 q3 h2) (cwV 1 hts gX8_rankBehindTurn_X8_isFloor rfl rfl rfl hd_X8_isFloor_v ⟨Nat.le_of_ble_eq_true rfl, Nat.le_of_ble_eq_true rfl⟩) (pvF_8_2 hK hN hE hP hD hS hA) rfl rfl hl.1 rfl (lv_room (Nat.le_of_ble_eq_true rfl)) dX8_rankBehindTurn_17 ⟨Nat.le_of_ble_eq_true rfl, Nat.le_of_ble_eq_true rfl⟩) hD hS hA (fun r9 u9 H locs hw hp hd hs => ?_)
  clear hP hD hS
  obtain ⟨rfl, rfl⟩ := hw
  have hP := hp; have hD := hd; have hS := hs; clear hp hd hs
  refine lv_if_eq (tgt := 32) hx hb dX8_rankBehindTurn_20 (by decide) (fun c9 => ?_) (fun c9 => ?_)
  · rw [if_pos c9] at h
    refine lv_iconst (v := (-1)) hx hb dX8_rankBehindTurn_32 (by decide) ?_
    exact WX8_rankBehindTurn_s2_33 C0  _ _ _ _ _ h hP hD hS (lv_sub hl [] rfl)
  · rw [if_neg c9] at h
    refine lv_aload_n hx hb dX8_rankBehindTurn_23 rfl (lv_at hl 1 rfl) ?_
    refine va_get (D := D) (ci := 8) (v := .ref (ad 3)) (C := RX8) (T := TX8) (N := 5) hx hb hts u9_wsX8_rankBehindTurn_X8 hown hK hP 2 rfl rfl 0 (by decide) (hts (.fieldLink RX8 9 "TurnedFloors$Tower" "rank" "[I") f9_wsX8_rankBehindTurn_898) (fun _ h9 => h9) rfl dX8_rankBehindTurn_24 ?_
    refine lv_iload_n hx hb dX8_rankBehindTurn_27 rfl (lv_at hl 0 rfl) ?_
    obtain ⟨g4, h⟩ := dG_some h
    refine va_iald hx hb hK hP 3 0 rfl rfl (dg_in g4) dX8_rankBehindTurn_28 ?_
    obtain ⟨v5, ev5, h⟩ := dL_some h
    refine kz_topi v5 ev5 ?_
    refine lv_goto (tgt := 33) hx hb dX8_rankBehindTurn_29 (by decide) ?_
    exact WX8_rankBehindTurn_s2_33 C0  _ _ _ _ _ h hP hD hS (lv_sub hl [] rfl)
set_option maxHeartbeats 4000000 in
set_option maxRecDepth 100000 in
theorem qX8_rankBehindTurn_s2 (l : Launch) (D : va_G) (ty : Nat → ClassId) (eo : Nat → Nat) (sz : Nat) (ad : Nat → Nat) (q : dK) (p1 : Int32) (p2 : Int32) (o1 : Int32) (o2 : dK) (h : zX8_rankBehindTurn_s2 q p1 p2 = some (o1, o2)) : Met l yX8_rankBehindTurn wsX8_rankBehindTurn ({ frames := 1, cells := 0, slots := 0, locals := 21 } : Room) (va_Pc [.ref (ad 2), .int p1, .int p2] (kz_pre D ty eo (wF ty ad q) sz)) (va_Qi (fun (r : Int32) (u : va_W) => o1 = r ∧ wF ty ad o2 = u) (kz_B D ty (va_A (wF ty ad q) sz)) (va_A (wF ty ad q) sz)) 0 0 (va_A (wF ty ad q) sz) := by
  refine Met.ofW (cc := cX8_rankBehindTurn) (maxL := 4) (ret := (some .int)) (by decide) rfl ?_
  intro p e s m args below meth c s₁ B hml hv
  obtain ⟨rfl, hsz, hP, hK, hD0, hN, hE⟩ := hv
  have hx := B.exec
  have hb := B.bytes
  have hr := B.returns
  have hts := atoms_spec (ws := wsX8_rankBehindTurn) B.pre
  have hown : s.vm.findClass RX8 = some m.cls := findClass_of_methodNamed B.named
  have hlocks := B.notSynchronized
  subst hsz
  have hD := hD0.self (sz := s.heap.size)
  generalize hAe : va_A (wF ty ad q) s.heap.size = A at hD hE ⊢
  have hA : ∀ q : Nat, s.heap.size ≤ q → A q := fun q h => by rw [← hAe]; exact Or.inr h
  clear hAe
  have hS : va_S A s.heap s.heap [] := va_S.rf
  have hl := lv_entry ([.ref (ad 2), .int p1, .int p2]) (n := 4) (Nat.le_of_ble_eq_true rfl)
  rw [lg_entry_eq]
  generalize (lg_sl ([.ref (ad 2), .int p1, .int p2]) ++ List.replicate (4 - (lg_sl ([.ref (ad 2), .int p1, .int p2])).length) Slot.unset).toArray = ls at hl ⊢
  have hl : lv_has ls 4 [(0, .ref (ad 2)), (1, .int p1), (2, .int p2)] := hl
  have C : dc_C p s m _ meth c cX8_rankBehindTurn (some .int) 4 RX8 wsX8_rankBehindTurn D ty eo A := ⟨hx, hb, hr, hts, hown, hlocks, hml, hK, hN, hE, hA⟩
  unfold zX8_rankBehindTurn_s2 at h
  refine lv_iload_n hx hb dX8_rankBehindTurn_0 rfl (lv_at hl 2 rfl) ?_
  refine lv_iload_n hx hb dX8_rankBehindTurn_1 rfl (lv_at hl 1 rfl) ?_
  refine lv_icmp_ge (tgt := 13) hx hb dX8_rankBehindTurn_2 (by decide) (fun c9 => ?_) (fun c9 => ?_)
  · rw [if_pos c9] at h
    refine lv_iload_n hx hb dX8_rankBehindTurn_13 rfl (lv_at hl 2 rfl) ?_
    exact WX8_rankBehindTurn_s2_14 C  _ _ _ _ _ h hP hD hS (lv_sub hl [0] rfl)
  · rw [if_neg c9] at h
    refine lv_iload_n hx hb dX8_rankBehindTurn_5 rfl (lv_at hl 1 rfl) ?_
    refine lv_iconst (v := 1) hx hb dX8_rankBehindTurn_6 (by decide) ?_
    refine lv_isub hx hb dX8_rankBehindTurn_7 ?_
    refine lv_iload_n hx hb dX8_rankBehindTurn_8 rfl (lv_at hl 2 rfl) ?_
    refine lv_isub hx hb dX8_rankBehindTurn_9 ?_
    refine lv_goto (tgt := 14) hx hb dX8_rankBehindTurn_10 (by decide) ?_
    exact WX8_rankBehindTurn_s2_14 C  _ _ _ _ _ h hP hD hS (lv_sub hl [0] rfl)

set_option maxHeartbeats 4000000 in
set_option maxRecDepth 100000 in
theorem WX6_agrees_s1_2b {p : Program} {l : Launch} {e : Env} {s : State} {m : MethodId} {args : Array Value} {below : List Frame} {meth : Method} {c : Code} {D : va_G} {ty : Nat → ClassId} {eo : Nat → Nat} {A : Nat → Prop} {ad : Nat → Nat} {o1 : Int32} {o2 : dK} (C : dc_C p s m args meth c cX6_agrees (some .boolean) 3 RX6 wsX6_agrees D ty eo A) {k2 : dK → Int32 → Int32 → Option (Int32 × dK)} (hk2 : ∀ (q : dK) (x1 : Int32) (x2 : Int32) (H : Heap) (locs : List Loc) (ls : Array Slot), k2 q x1 x2 = some (o1, o2) → va_P D vwCl (wF ty ad q) H → va_D A (wF ty ad q) → va_S A s.heap H locs → lv_has ls 3 [(0, .ref (ad 1)), (1, .int x1), (2, .int x2)] → W p l e ({ frames := 2, cells := 0, slots := 0, locals := 44 } : Room) s m args below meth c H locs 0 0 (MQ below (va_Qi (fun (r : Int32) (u : va_W) => o1 = r ∧ wF ty ad o2 = u) (kz_B D ty A) A) args s 0 0 A) (F0 m 2 ls [])) (q : dK) (x1 : Int32) (x2 : Int32) (H : Heap) (locs : List Loc) (ls : Array Slot) (h : zX6_agrees_s1_2b k2 q x1 x2 = some (o1, o2)) (hP : va_P D vwCl (wF ty ad q) H) (hD : va_D A (wF ty ad q)) (hS : va_S A s.heap H locs) (hl : lv_has ls 3 [(0, .ref (ad 1)), (1, .int x1), (2, .int x2)]) : W p l e ({ frames := 2, cells := 0, slots := 0, locals := 44 } : Room) s m args below meth c H locs 0 0 (MQ below (va_Qi (fun (r : Int32) (u : va_W) => o1 = r ∧ wF ty ad o2 = u) (kz_B D ty A) A) args s 0 0 A) (F0 m 2 ls []) := by
  have C0 := C
  obtain ⟨hx, hb, hr, hts, hown, hlocks, hml, hK, hN, hE, hA⟩ := C
  unfold zX6_agrees_s1_2b at h
  refine lv_iload_n hx hb dX6_agrees_2 rfl (lv_at hl 2 rfl) ?_
  refine lv_aload_n hx hb dX6_agrees_3 rfl (lv_at hl 0 rfl) ?_
  refine va_get (D := D) (ci := 6) (v := .int (q.1 1 6)) (C := RX6) (T := TX6) (N := 10) hx hb hts u9_wsX6_agrees_X6 hown hK hP 1 rfl rfl 6 (by decide) (hts (.fieldLink RX6 35 "TurnedFloors$State" "seenCount" "I") f9_wsX6_agrees_900) (fun _ h9 => h9) rfl dX6_agrees_4 ?_
  refine lv_icmp_ge (tgt := 41) hx hb dX6_agrees_7 (by decide) (fun c9 => ?_) (fun c9 => ?_)
  · rw [if_pos c9] at h
    refine lv_iconst (v := 1) hx hb dX6_agrees_41 (by decide) ?_
    cases h
    exact kz_zret hx hb hr hlocks rfl hP hK hD hS dX6_agrees_42 ⟨rfl, rfl⟩
  · rw [if_neg c9] at h
    refine lv_aload_n hx hb dX6_agrees_10 rfl (lv_at hl 0 rfl) ?_
    refine va_get (D := D) (ci := 6) (v := .ref (ad 2)) (C := RX6) (T := TX6) (N := 10) hx hb hts u9_wsX6_agrees_X6 hown hK hP 1 rfl rfl 0 (by decide) (hts (.fieldLink RX6 12 "TurnedFloors$State" "tower" "LTurnedFloors$Tower;") f9_wsX6_agrees_901) (fun _ h9 => h9) rfl dX6_agrees_11 ?_
    refine lv_iload_n hx hb dX6_agrees_14 rfl (lv_at hl 1 rfl) ?_
    refine lv_aload_n hx hb dX6_agrees_15 rfl (lv_at hl 0 rfl) ?_
    refine va_get (D := D) (ci := 6) (v := .ref (ad 5)) (C := RX6) (T := TX6) (N := 10) hx hb hts u9_wsX6_agrees_X6 hown hK hP 1 rfl rfl 4 (by decide) (hts (.fieldLink RX6 28 "TurnedFloors$State" "seenPlace" "[I") f9_wsX6_agrees_902) (fun _ h9 => h9) rfl dX6_agrees_16 ?_
    refine lv_iload_n hx hb dX6_agrees_19 rfl (lv_at hl 2 rfl) ?_
    obtain ⟨g1, h⟩ := dG_some h
    refine va_iald hx hb hK hP 5 0 rfl rfl (dg_in g1) dX6_agrees_20 ?_
    obtain ⟨v2, ev2, h⟩ := dL_some h
    refine kz_topi v2 ev2 ?_
    obtain ⟨r3, q5, h4, h⟩ := dB_some h
    refine dw_ki (va_runV (As := [.int x1, .int v2]) (rest := []) ⟨hx, hb, hml, hown, hts⟩ (qX8_rankBehindTurn_s2 l D ty eo _ ad q x1 v2 r3 q5 h4) (cwV 2 hts gX6_agrees_X8_rankBehindTurn rfl rfl rfl hd_X8_rankBehindTurn_v ⟨Nat.le_of_ble_eq_true rfl, Nat.le_of_ble_eq_true rfl⟩) (pvF_8_2 hK hN hE hP hD hS hA) rfl rfl hl.1 rfl (lv_room (Nat.le_of_ble_eq_true rfl)) dX6_agrees_21 ⟨Nat.le_of_ble_eq_true rfl, Nat.le_of_ble_eq_true rfl⟩) hD hS hA (fun r9 u9 H locs hw hp hd hs => ?_)
    clear hP hD hS
    obtain ⟨rfl, rfl⟩ := hw
    have hP := hp; have hD := hd; have hS := hs; clear hp hd hs
    refine lv_aload_n hx hb dX6_agrees_24 rfl (lv_at hl 0 rfl) ?_
    refine va_get (D := D) (ci := 6) (v := .ref (ad 6)) (C := RX6) (T := TX6) (N := 10) hx hb hts u9_wsX6_agrees_X6 hown hK hP 1 rfl rfl 5 (by decide) (hts (.fieldLink RX6 32 "TurnedFloors$State" "seenRank" "[I") f9_wsX6_agrees_903) (fun _ h9 => h9) rfl dX6_agrees_25 ?_
    refine lv_iload_n hx hb dX6_agrees_28 rfl (lv_at hl 2 rfl) ?_
    obtain ⟨g6, h⟩ := dG_some h
    refine va_iald hx hb hK hP 6 0 rfl rfl (dg_in g6) dX6_agrees_29 ?_
    obtain ⟨v7, ev7, h⟩ := dL_some h
    refine kz_topi v7 ev7 ?_
    refine lv_icmp_eq (tgt := 35) hx hb dX6_agrees_30 (by decide) (fun c9 => ?_) (fun c9 => ?_)
    · rw [if_pos c9] at h
      refine lv_iinc (v := x2 + 1) (lv' := [(2, .int (x2 + 1)), (0, .ref (ad 1)), (1, .int x1)]) hx hb dX6_agrees_35 hl (k := 2) rfl rfl (by decide) rfl (fun ls hl => ?_)
      refine lv_goto (tgt := 2) hx hb dX6_agrees_38 (by decide) ?_
      exact hk2 _ _ _ _ _ _ h hP hD hS (lv_sub hl [1, 2, 0] rfl)
    · rw [if_neg c9] at h
      refine lv_iconst (v := 0) hx hb dX6_agrees_33 (by decide) ?_
      cases h
      exact kz_zret hx hb hr hlocks rfl hP hK hD hS dX6_agrees_34 ⟨rfl, rfl⟩
set_option maxHeartbeats 4000000 in
set_option maxRecDepth 100000 in
theorem WX6_agrees_s1_2 {p : Program} {l : Launch} {e : Env} {s : State} {m : MethodId} {args : Array Value} {below : List Frame} {meth : Method} {c : Code} {D : va_G} {ty : Nat → ClassId} {eo : Nat → Nat} {A : Nat → Prop} {ad : Nat → Nat} {o1 : Int32} {o2 : dK} (C : dc_C p s m args meth c cX6_agrees (some .boolean) 3 RX6 wsX6_agrees D ty eo A)   (n : Nat) (q : dK) (x1 : Int32) (x2 : Int32) (H : Heap) (locs : List Loc) (ls : Array Slot) (h : zX6_agrees_s1_2  n q x1 x2 = some (o1, o2)) (hP : va_P D vwCl (wF ty ad q) H) (hD : va_D A (wF ty ad q)) (hS : va_S A s.heap H locs) (hl : lv_has ls 3 [(0, .ref (ad 1)), (1, .int x1), (2, .int x2)]) : W p l e ({ frames := 2, cells := 0, slots := 0, locals := 44 } : Room) s m args below meth c H locs 0 0 (MQ below (va_Qi (fun (r : Int32) (u : va_W) => o1 = r ∧ wF ty ad o2 = u) (kz_B D ty A) A) args s 0 0 A) (F0 m 2 ls []) := by
  exact dFix_W (F := fun k (a : dK × Int32 × Int32) => zX6_agrees_s1_2b  (fun q x1 x2 => k (q, x1, x2)) a.1 a.2.1 a.2.2) (o := (o1, o2)) (P := fun (a : dK × Int32 × Int32) H locs ls => va_P D vwCl (wF ty ad a.1) H ∧ va_D A (wF ty ad a.1) ∧ va_S A s.heap H locs ∧ lv_has ls 3 [(0, .ref (ad 1)), (1, .int a.2.1), (2, .int a.2.2)]) (G := fun H locs ls => W p l e ({ frames := 2, cells := 0, slots := 0, locals := 44 } : Room) s m args below meth c H locs 0 0 (MQ below (va_Qi (fun (r : Int32) (u : va_W) => o1 = r ∧ wF ty ad o2 = u) (kz_B D ty A) A) args s 0 0 A) (F0 m 2 ls []))
    (fun k hk a H locs ls h hp => WX6_agrees_s1_2b C  (fun q x1 x2 H locs ls h h1 h2 h3 h4 => hk (q, x1, x2) H locs ls h ⟨h1, h2, h3, h4⟩) a.1 a.2.1 a.2.2 H locs ls h hp.1 hp.2.1 hp.2.2.1 hp.2.2.2) n (q, x1, x2) H locs ls h ⟨hP, hD, hS, hl⟩
set_option maxHeartbeats 4000000 in
set_option maxRecDepth 100000 in
theorem qX6_agrees_s1 (l : Launch) (D : va_G) (ty : Nat → ClassId) (eo : Nat → Nat) (sz : Nat) (ad : Nat → Nat) (q : dK) (p1 : Int32) (o1 : Int32) (o2 : dK) (h : zX6_agrees_s1 q p1 = some (o1, o2)) : Met l yX6_agrees wsX6_agrees ({ frames := 2, cells := 0, slots := 0, locals := 44 } : Room) (va_Pc [.ref (ad 1), .int p1] (kz_pre D ty eo (wF ty ad q) sz)) (va_Qi (fun (r : Int32) (u : va_W) => o1 = r ∧ wF ty ad o2 = u) (kz_B D ty (va_A (wF ty ad q) sz)) (va_A (wF ty ad q) sz)) 0 0 (va_A (wF ty ad q) sz) := by
  refine Met.ofW (cc := cX6_agrees) (maxL := 3) (ret := (some .boolean)) (by decide) rfl ?_
  intro p e s m args below meth c s₁ B hml hv
  obtain ⟨rfl, hsz, hP, hK, hD0, hN, hE⟩ := hv
  have hx := B.exec
  have hb := B.bytes
  have hr := B.returns
  have hts := atoms_spec (ws := wsX6_agrees) B.pre
  have hown : s.vm.findClass RX6 = some m.cls := findClass_of_methodNamed B.named
  have hlocks := B.notSynchronized
  subst hsz
  have hD := hD0.self (sz := s.heap.size)
  generalize hAe : va_A (wF ty ad q) s.heap.size = A at hD hE ⊢
  have hA : ∀ q : Nat, s.heap.size ≤ q → A q := fun q h => by rw [← hAe]; exact Or.inr h
  clear hAe
  have hS : va_S A s.heap s.heap [] := va_S.rf
  have hl := lv_entry ([.ref (ad 1), .int p1]) (n := 3) (Nat.le_of_ble_eq_true rfl)
  rw [lg_entry_eq]
  generalize (lg_sl ([.ref (ad 1), .int p1]) ++ List.replicate (3 - (lg_sl ([.ref (ad 1), .int p1])).length) Slot.unset).toArray = ls at hl ⊢
  have hl : lv_has ls 3 [(0, .ref (ad 1)), (1, .int p1)] := hl
  have C : dc_C p s m _ meth c cX6_agrees (some .boolean) 3 RX6 wsX6_agrees D ty eo A := ⟨hx, hb, hr, hts, hown, hlocks, hml, hK, hN, hE, hA⟩
  unfold zX6_agrees_s1 at h
  refine lv_iconst (v := 0) hx hb dX6_agrees_0 (by decide) ?_
  refine lv_istore_n (lv' := [(2, .int 0), (0, .ref (ad 1)), (1, .int p1)]) hx hb dX6_agrees_1 rfl hl (by decide) rfl (fun ls hl => ?_)
  exact WX6_agrees_s1_2 C  _ _ _ _ _ _ _ h hP hD hS (lv_sub hl [1, 2, 0] rfl)

set_option maxHeartbeats 4000000 in
set_option maxRecDepth 100000 in
theorem WX9_was_s0_55 {p : Program} {l : Launch} {e : Env} {s : State} {m : MethodId} {args : Array Value} {below : List Frame} {meth : Method} {c : Code} {D : va_G} {ty : Nat → ClassId} {eo : Nat → Nat} {A : Nat → Prop} {ad : Nat → Nat} {o1 : Int32} {o2 : dK} (C : dc_C p s m args meth c cX9_was (some .int) 4 RX9 wsX9_was D ty eo A) {k9 : dK → Int32 → Int32 → Option (Int32 × dK)} (hk9 : ∀ (q : dK) (x2 : Int32) (x3 : Int32) (H : Heap) (locs : List Loc) (ls : Array Slot), k9 q x2 x3 = some (o1, o2) → va_P D vwCl (wF ty ad q) H → va_D A (wF ty ad q) → va_S A s.heap H locs → lv_has ls 4 [(0, .ref (ad 0)), (1, .ref (ad 20)), (2, .int x2), (3, .int x3)] → W p l e ({ frames := 4, cells := 0, slots := 0, locals := 103 } : Room) s m args below meth c H locs 0 0 (MQ below (va_Qi (fun (r : Int32) (u : va_W) => o1 = r ∧ wF ty ad o2 = u) (kz_B D ty A) A) args s 0 0 A) (F0 m 9 ls [])) (q : dK) (x2 : Int32) (x3 : Int32) (H : Heap) (locs : List Loc) (ls : Array Slot) (h : zX9_was_s0_55 k9 q x2 x3 = some (o1, o2)) (hP : va_P D vwCl (wF ty ad q) H) (hD : va_D A (wF ty ad q)) (hS : va_S A s.heap H locs) (hl : lv_has ls 4 [(0, .ref (ad 0)), (1, .ref (ad 20)), (2, .int x2), (3, .int x3)]) : W p l e ({ frames := 4, cells := 0, slots := 0, locals := 103 } : Room) s m args below meth c H locs 0 0 (MQ below (va_Qi (fun (r : Int32) (u : va_W) => o1 = r ∧ wF ty ad o2 = u) (kz_B D ty A) A) args s 0 0 A) (F0 m 55 ls []) := by
  have C0 := C
  obtain ⟨hx, hb, hr, hts, hown, hlocks, hml, hK, hN, hE, hA⟩ := C
  unfold zX9_was_s0_55 at h
  refine lv_iinc (v := x3 + 1) (lv' := [(3, .int (x3 + 1)), (0, .ref (ad 0)), (1, .ref (ad 20)), (2, .int x2)]) hx hb dX9_was_55 hl (k := 3) rfl rfl (by decide) rfl (fun ls hl => ?_)
  refine lv_goto (tgt := 9) hx hb dX9_was_58 (by decide) ?_
  exact hk9 _ _ _ _ _ _ h hP hD hS (lv_sub hl [1, 2, 3, 0] rfl)
set_option maxHeartbeats 4000000 in
set_option maxRecDepth 100000 in
theorem WX9_was_s0_9b {p : Program} {l : Launch} {e : Env} {s : State} {m : MethodId} {args : Array Value} {below : List Frame} {meth : Method} {c : Code} {D : va_G} {ty : Nat → ClassId} {eo : Nat → Nat} {A : Nat → Prop} {ad : Nat → Nat} {o1 : Int32} {o2 : dK} (C : dc_C p s m args meth c cX9_was (some .int) 4 RX9 wsX9_was D ty eo A) {k9 : dK → Int32 → Int32 → Option (Int32 × dK)} (hk9 : ∀ (q : dK) (x2 : Int32) (x3 : Int32) (H : Heap) (locs : List Loc) (ls : Array Slot), k9 q x2 x3 = some (o1, o2) → va_P D vwCl (wF ty ad q) H → va_D A (wF ty ad q) → va_S A s.heap H locs → lv_has ls 4 [(0, .ref (ad 0)), (1, .ref (ad 20)), (2, .int x2), (3, .int x3)] → W p l e ({ frames := 4, cells := 0, slots := 0, locals := 103 } : Room) s m args below meth c H locs 0 0 (MQ below (va_Qi (fun (r : Int32) (u : va_W) => o1 = r ∧ wF ty ad o2 = u) (kz_B D ty A) A) args s 0 0 A) (F0 m 9 ls [])) (q : dK) (x2 : Int32) (x3 : Int32) (H : Heap) (locs : List Loc) (ls : Array Slot) (h : zX9_was_s0_9b k9 q x2 x3 = some (o1, o2)) (hP : va_P D vwCl (wF ty ad q) H) (hD : va_D A (wF ty ad q)) (hS : va_S A s.heap H locs) (hl : lv_has ls 4 [(0, .ref (ad 0)), (1, .ref (ad 20)), (2, .int x2), (3, .int x3)]) : W p l e ({ frames := 4, cells := 0, slots := 0, locals := 103 } : Room) s m args below meth c H locs 0 0 (MQ below (va_Qi (fun (r : Int32) (u : va_W) => o1 = r ∧ wF ty ad o2 = u) (kz_B D ty A) A) args s 0 0 A) (F0 m 9 ls []) := by
  have C0 := C
  obtain ⟨hx, hb, hr, hts, hown, hlocks, hml, hK, hN, hE, hA⟩ := C
  unfold zX9_was_s0_9b at h
  refine lv_iload_n hx hb dX9_was_9 rfl (lv_at hl 3 rfl) ?_
  refine lv_aload_n hx hb dX9_was_10 rfl (lv_at hl 0 rfl) ?_
  refine va_get (D := D) (ci := 9) (v := .ref (ad 1)) (C := RX9) (T := TX9) (N := 19) hx hb hts u9_wsX9_was_X9 hown hK hP 0 rfl rfl 0 (by decide) (hts (.fieldLink RX9 10 "TurnedFloors" "state" "LTurnedFloors$State;") f9_wsX9_was_907) (fun _ h9 => h9) rfl dX9_was_11 ?_
  refine va_getN (D := D) (ci := 6) (v := .ref (ad 2)) (C := RX6) (T := TX6) (N := 10) hx hb hts u9_wsX9_was_X6 hown hK hP 1 rfl rfl 0 (by decide) (hN.use (.fieldLinkNest "TurnedFloors" 122 "TurnedFloors$State" "tower" "LTurnedFloors$Tower;" "TurnedFloors") nn9_0) (fun _ h9 => h9) rfl dX9_was_14 ?_
  refine va_getN (D := D) (ci := 8) (v := .int (q.1 2 2)) (C := RX8) (T := TX8) (N := 5) hx hb hts u9_wsX9_was_X8 hown hK hP 2 rfl rfl 2 (by decide) (hN.use (.fieldLinkNest "TurnedFloors" 135 "TurnedFloors$Tower" "floors" "I" "TurnedFloors") nn9_1) (fun _ h9 => h9) rfl dX9_was_17 ?_
  refine lv_icmp_gt (tgt := 61) hx hb dX9_was_20 (by decide) (fun c9 => ?_) (fun c9 => ?_)
  · rw [if_pos c9] at h
    refine lv_iload_n hx hb dX9_was_61 rfl (lv_at hl 2 rfl) ?_
    cases h
    exact kz_iret hx hb hr hlocks hP hK hD hS dX9_was_62 ⟨rfl, rfl⟩
  · rw [if_neg c9] at h
    refine lv_aload_n hx hb dX9_was_23 rfl (lv_at hl 1 rfl) ?_
    refine lv_aload_n hx hb dX9_was_24 rfl (lv_at hl 0 rfl) ?_
    refine va_get (D := D) (ci := 9) (v := .ref (ad 1)) (C := RX9) (T := TX9) (N := 19) hx hb hts u9_wsX9_was_X9 hown hK hP 0 rfl rfl 0 (by decide) (hts (.fieldLink RX9 10 "TurnedFloors" "state" "LTurnedFloors$State;") f9_wsX9_was_907) (fun _ h9 => h9) rfl dX9_was_25 ?_
    refine va_getN (D := D) (ci := 6) (v := .ref (ad 2)) (C := RX6) (T := TX6) (N := 10) hx hb hts u9_wsX9_was_X6 hown hK hP 1 rfl rfl 0 (by decide) (hN.use (.fieldLinkNest "TurnedFloors" 122 "TurnedFloors$State" "tower" "LTurnedFloors$Tower;" "TurnedFloors") nn9_0) (fun _ h9 => h9) rfl dX9_was_28 ?_
    refine lv_iload_n hx hb dX9_was_31 rfl (lv_at hl 3 rfl) ?_
    obtain ⟨r1, q3, h2, h⟩ := dB_some h
    refine dw_ki (va_runV (As := [.ref (ad 2), .int x3]) (rest := []) ⟨hx, hb, hml, hown, hts⟩ (qX1_bars_s20_s2 l D ty eo _ ad q x3 r1 q3 h2) (cwV 2 hts gX9_was_X1_bars rfl rfl rfl hd_X1_bars_v ⟨Nat.le_of_ble_eq_true rfl, Nat.le_of_ble_eq_true rfl⟩) (pvF_1_20 hK hN hE hP hD hS hA) rfl rfl hl.1 rfl (lv_room (Nat.le_of_ble_eq_true rfl)) dX9_was_32 ⟨Nat.le_of_ble_eq_true rfl, Nat.le_of_ble_eq_true rfl⟩) hD hS hA (fun r9 u9 H locs hw hp hd hs => ?_)
    clear hP hD hS
    obtain ⟨rfl, rfl⟩ := hw
    have hP := hp; have hD := hd; have hS := hs; clear hp hd hs
    refine lv_if_ne (tgt := 55) hx hb dX9_was_35 (by decide) (fun c9 => ?_) (fun c9 => ?_)
    · rw [if_neg c9] at h
      exact WX9_was_s0_55 C0 hk9 _ _ _ _ _ _ h hP hD hS (lv_sub hl [0, 1, 2, 3] rfl)
    · rw [if_pos c9] at h
      refine lv_aload_n hx hb dX9_was_38 rfl (lv_at hl 0 rfl) ?_
      refine va_get (D := D) (ci := 9) (v := .ref (ad 1)) (C := RX9) (T := TX9) (N := 19) hx hb hts u9_wsX9_was_X9 hown hK hP 0 rfl rfl 0 (by decide) (hts (.fieldLink RX9 10 "TurnedFloors" "state" "LTurnedFloors$State;") f9_wsX9_was_907) (fun _ h9 => h9) rfl dX9_was_39 ?_
      refine lv_iload_n hx hb dX9_was_42 rfl (lv_at hl 3 rfl) ?_
      obtain ⟨r4, q6, h5, h⟩ := dB_some h
      refine dw_ki (va_runV (As := [.int x3]) (rest := []) ⟨hx, hb, hml, hown, hts⟩ (qX6_agrees_s1 l D ty eo _ ad q3 x3 r4 q6 h5) (cwV 1 hts gX9_was_X6_agrees rfl rfl rfl hd_X6_agrees_v ⟨Nat.le_of_ble_eq_true rfl, Nat.le_of_ble_eq_true rfl⟩) (pvF_6_1 hK hN hE hP hD hS hA) rfl rfl hl.1 rfl (lv_room (Nat.le_of_ble_eq_true rfl)) dX9_was_43 ⟨Nat.le_of_ble_eq_true rfl, Nat.le_of_ble_eq_true rfl⟩) hD hS hA (fun r9 u9 H locs hw hp hd hs => ?_)
      clear hP hD hS
      obtain ⟨rfl, rfl⟩ := hw
      have hP := hp; have hD := hd; have hS := hs; clear hp hd hs
      refine lv_if_eq (tgt := 55) hx hb dX9_was_46 (by decide) (fun c9 => ?_) (fun c9 => ?_)
      · rw [if_pos c9] at h
        exact WX9_was_s0_55 C0 hk9 _ _ _ _ _ _ h hP hD hS (lv_sub hl [0, 1, 2, 3] rfl)
      · rw [if_neg c9] at h
        refine lv_iload_n hx hb dX9_was_49 rfl (lv_at hl 2 rfl) ?_
        refine lv_iconst (v := 1) hx hb dX9_was_50 (by decide) ?_
        refine lv_iload_n hx hb dX9_was_51 rfl (lv_at hl 3 rfl) ?_
        refine lv_ishl hx hb dX9_was_52 ?_
        refine lv_ior hx hb dX9_was_53 ?_
        refine lv_istore_n (lv' := [(2, .int (x2 ||| (1 <<< ((x3 : Int32) &&& 31) : Int32))), (0, .ref (ad 0)), (1, .ref (ad 20)), (3, .int x3)]) hx hb dX9_was_54 rfl hl (by decide) rfl (fun ls hl => ?_)
        exact WX9_was_s0_55 C0 hk9 _ _ _ _ _ _ h hP hD hS (lv_sub hl [1, 2, 0, 3] rfl)
set_option maxHeartbeats 4000000 in
set_option maxRecDepth 100000 in
theorem WX9_was_s0_9 {p : Program} {l : Launch} {e : Env} {s : State} {m : MethodId} {args : Array Value} {below : List Frame} {meth : Method} {c : Code} {D : va_G} {ty : Nat → ClassId} {eo : Nat → Nat} {A : Nat → Prop} {ad : Nat → Nat} {o1 : Int32} {o2 : dK} (C : dc_C p s m args meth c cX9_was (some .int) 4 RX9 wsX9_was D ty eo A)   (n : Nat) (q : dK) (x2 : Int32) (x3 : Int32) (H : Heap) (locs : List Loc) (ls : Array Slot) (h : zX9_was_s0_9  n q x2 x3 = some (o1, o2)) (hP : va_P D vwCl (wF ty ad q) H) (hD : va_D A (wF ty ad q)) (hS : va_S A s.heap H locs) (hl : lv_has ls 4 [(0, .ref (ad 0)), (1, .ref (ad 20)), (2, .int x2), (3, .int x3)]) : W p l e ({ frames := 4, cells := 0, slots := 0, locals := 103 } : Room) s m args below meth c H locs 0 0 (MQ below (va_Qi (fun (r : Int32) (u : va_W) => o1 = r ∧ wF ty ad o2 = u) (kz_B D ty A) A) args s 0 0 A) (F0 m 9 ls []) := by
  exact dFix_W (F := fun k (a : dK × Int32 × Int32) => zX9_was_s0_9b  (fun q x2 x3 => k (q, x2, x3)) a.1 a.2.1 a.2.2) (o := (o1, o2)) (P := fun (a : dK × Int32 × Int32) H locs ls => va_P D vwCl (wF ty ad a.1) H ∧ va_D A (wF ty ad a.1) ∧ va_S A s.heap H locs ∧ lv_has ls 4 [(0, .ref (ad 0)), (1, .ref (ad 20)), (2, .int a.2.1), (3, .int a.2.2)]) (G := fun H locs ls => W p l e ({ frames := 4, cells := 0, slots := 0, locals := 103 } : Room) s m args below meth c H locs 0 0 (MQ below (va_Qi (fun (r : Int32) (u : va_W) => o1 = r ∧ wF ty ad o2 = u) (kz_B D ty A) A) args s 0 0 A) (F0 m 9 ls []))
    (fun k hk a H locs ls h hp => WX9_was_s0_9b C  (fun q x2 x3 H locs ls h h1 h2 h3 h4 => hk (q, x2, x3) H locs ls h ⟨h1, h2, h3, h4⟩) a.1 a.2.1 a.2.2 H locs ls h hp.1 hp.2.1 hp.2.2.1 hp.2.2.2) n (q, x2, x3) H locs ls h ⟨hP, hD, hS, hl⟩
set_option maxHeartbeats 4000000 in
set_option maxRecDepth 100000 in
theorem qX9_was_s0 (l : Launch) (D : va_G) (ty : Nat → ClassId) (eo : Nat → Nat) (sz : Nat) (ad : Nat → Nat) (q : dK)  (o1 : Int32) (o2 : dK) (h : zX9_was_s0 q = some (o1, o2)) : Met l yX9_was wsX9_was ({ frames := 4, cells := 0, slots := 0, locals := 103 } : Room) (va_Pc [.ref (ad 0)] (kz_pre D ty eo (wF ty ad q) sz)) (va_Qi (fun (r : Int32) (u : va_W) => o1 = r ∧ wF ty ad o2 = u) (kz_B D ty (va_A (wF ty ad q) sz)) (va_A (wF ty ad q) sz)) 0 0 (va_A (wF ty ad q) sz) := by
  refine Met.ofW (cc := cX9_was) (maxL := 4) (ret := (some .int)) (by decide) rfl ?_
  intro p e s m args below meth c s₁ B hml hv
  obtain ⟨rfl, hsz, hP, hK, hD0, hN, hE⟩ := hv
  have hx := B.exec
  have hb := B.bytes
  have hr := B.returns
  have hts := atoms_spec (ws := wsX9_was) B.pre
  have hown : s.vm.findClass RX9 = some m.cls := findClass_of_methodNamed B.named
  have hlocks := B.notSynchronized
  subst hsz
  have hD := hD0.self (sz := s.heap.size)
  generalize hAe : va_A (wF ty ad q) s.heap.size = A at hD hE ⊢
  have hA : ∀ q : Nat, s.heap.size ≤ q → A q := fun q h => by rw [← hAe]; exact Or.inr h
  clear hAe
  have hS : va_S A s.heap s.heap [] := va_S.rf
  have hl := lv_entry ([.ref (ad 0)]) (n := 4) (Nat.le_of_ble_eq_true rfl)
  rw [lg_entry_eq]
  generalize (lg_sl ([.ref (ad 0)]) ++ List.replicate (4 - (lg_sl ([.ref (ad 0)])).length) Slot.unset).toArray = ls at hl ⊢
  have hl : lv_has ls 4 [(0, .ref (ad 0))] := hl
  have C : dc_C p s m _ meth c cX9_was (some .int) 4 RX9 wsX9_was D ty eo A := ⟨hx, hb, hr, hts, hown, hlocks, hml, hK, hN, hE, hA⟩
  unfold zX9_was_s0 at h
  refine lv_aload_n hx hb dX9_was_0 rfl (lv_at hl 0 rfl) ?_
  obtain ⟨q3, h2, h⟩ := dV_some h
  refine dw_kq (va_runV (As := []) (rest := []) ⟨hx, hb, hml, hown, hts⟩ (qX9_seated_s0 l D ty eo _ ad q  q3 h2) (cwV 0 hts gX9_was_X9_seated rfl rfl rfl hd_X9_seated_v ⟨Nat.le_of_ble_eq_true rfl, Nat.le_of_ble_eq_true rfl⟩) (pvF_9_0 hK hN hE hP hD hS hA) rfl rfl hl.1 rfl (lv_room (Nat.le_of_ble_eq_true rfl)) dX9_was_1 ⟨Nat.le_of_ble_eq_true rfl, Nat.le_of_ble_eq_true rfl⟩) hP hD hS hA (fun r9 u9 H locs hw hp hd hs => ?_)
  clear hP hD hS
  obtain ⟨rfl, rfl⟩ := hw
  have hP := hp; have hD := hd; have hS := hs; clear hp hd hs
  refine lv_astore_n (lv' := [(1, .ref (ad 20)), (0, .ref (ad 0))]) hx hb dX9_was_4 rfl hl (by decide) rfl (fun ls hl => ?_)
  refine lv_iconst (v := 0) hx hb dX9_was_5 (by decide) ?_
  refine lv_istore_n (lv' := [(2, .int 0), (1, .ref (ad 20)), (0, .ref (ad 0))]) hx hb dX9_was_6 rfl hl (by decide) rfl (fun ls hl => ?_)
  refine lv_iconst (v := 1) hx hb dX9_was_7 (by decide) ?_
  refine lv_istore_n (lv' := [(3, .int 1), (2, .int 0), (1, .ref (ad 20)), (0, .ref (ad 0))]) hx hb dX9_was_8 rfl hl (by decide) rfl (fun ls hl => ?_)
  exact WX9_was_s0_9 C  _ _ _ _ _ _ _ h hP hD hS (lv_sub hl [3, 2, 1, 0] rfl)
end
section
set_option maxRecDepth 20000 in
theorem ggX8_mostAlike_X8_rankBehindTurn : GoodIn wsX8_mostAlike wsX8_rankBehindTurn := wd_c vW9_ok mvW9_623
set_option maxRecDepth 20000 in
theorem gX8_mostAlike_X8_rankBehindTurn : GoodIn wsX8_mostAlike (wsV RX8 95 RX8 yX8_rankBehindTurn wsX8_rankBehindTurn) := goodIn_app (wd_l vW9_ok _ pvW9_88) ggX8_mostAlike_X8_rankBehindTurn
set_option maxRecDepth 20000 in
theorem ggX8_mostAlike_X9_bit : GoodIn wsX8_mostAlike wsX9_bit := wd_c vW9_ok mvW9_97
set_option maxRecDepth 20000 in
theorem gX8_mostAlike_X9_bit_n79 : GoodIn wsX8_mostAlike (wsX9_bit) := ggX8_mostAlike_X9_bit
theorem da9_dX8_mostAlike_0 : (decode cX8_mostAlike 0 = .ok (.iconst 0, 1)) ∧ (decode cX8_mostAlike 1 = .ok (.istore_n 3, 1)) ∧ (decode cX8_mostAlike 2 = .ok (.iconst 0, 1)) ∧ (decode cX8_mostAlike 3 = .ok (.istore 4, 2)) ∧ (decode cX8_mostAlike 5 = .ok (.iload 4, 2)) ∧ (decode cX8_mostAlike 7 = .ok (.bipush 6, 2)) ∧ (decode cX8_mostAlike 9 = .ok (.if_icmp .ge 72, 3)) ∧ (decode cX8_mostAlike 12 = .ok (.iconst 0, 1)) ∧ (decode cX8_mostAlike 13 = .ok (.istore 5, 2)) ∧ (decode cX8_mostAlike 15 = .ok (.iconst 1, 1)) ∧ (decode cX8_mostAlike 16 = .ok (.istore 6, 2)) ∧ (decode cX8_mostAlike 18 = .ok (.iload 6, 2)) ∧ (decode cX8_mostAlike 20 = .ok (.aload_n 0, 1)) ∧ (decode cX8_mostAlike 21 = .ok (.getfield 18, 3)) ∧ (decode cX8_mostAlike 24 = .ok (.if_icmp .gt 44, 3)) ∧ (decode cX8_mostAlike 27 = .ok (.iload 5, 2)) := by decide +kernel
theorem dX8_mostAlike_0 : decode cX8_mostAlike 0 = .ok (.iconst 0, 1) := da9_dX8_mostAlike_0.1
theorem dX8_mostAlike_1 : decode cX8_mostAlike 1 = .ok (.istore_n 3, 1) := da9_dX8_mostAlike_0.2.1
theorem dX8_mostAlike_2 : decode cX8_mostAlike 2 = .ok (.iconst 0, 1) := da9_dX8_mostAlike_0.2.2.1
theorem dX8_mostAlike_3 : decode cX8_mostAlike 3 = .ok (.istore 4, 2) := da9_dX8_mostAlike_0.2.2.2.1
theorem dX8_mostAlike_5 : decode cX8_mostAlike 5 = .ok (.iload 4, 2) := da9_dX8_mostAlike_0.2.2.2.2.1
theorem dX8_mostAlike_7 : decode cX8_mostAlike 7 = .ok (.bipush 6, 2) := da9_dX8_mostAlike_0.2.2.2.2.2.1
theorem dX8_mostAlike_9 : decode cX8_mostAlike 9 = .ok (.if_icmp .ge 72, 3) := da9_dX8_mostAlike_0.2.2.2.2.2.2.1
theorem dX8_mostAlike_12 : decode cX8_mostAlike 12 = .ok (.iconst 0, 1) := da9_dX8_mostAlike_0.2.2.2.2.2.2.2.1
theorem dX8_mostAlike_13 : decode cX8_mostAlike 13 = .ok (.istore 5, 2) := da9_dX8_mostAlike_0.2.2.2.2.2.2.2.2.1
theorem dX8_mostAlike_15 : decode cX8_mostAlike 15 = .ok (.iconst 1, 1) := da9_dX8_mostAlike_0.2.2.2.2.2.2.2.2.2.1
theorem dX8_mostAlike_16 : decode cX8_mostAlike 16 = .ok (.istore 6, 2) := da9_dX8_mostAlike_0.2.2.2.2.2.2.2.2.2.2.1
theorem dX8_mostAlike_18 : decode cX8_mostAlike 18 = .ok (.iload 6, 2) := da9_dX8_mostAlike_0.2.2.2.2.2.2.2.2.2.2.2.1
theorem dX8_mostAlike_20 : decode cX8_mostAlike 20 = .ok (.aload_n 0, 1) := da9_dX8_mostAlike_0.2.2.2.2.2.2.2.2.2.2.2.2.1
theorem dX8_mostAlike_21 : decode cX8_mostAlike 21 = .ok (.getfield 18, 3) := da9_dX8_mostAlike_0.2.2.2.2.2.2.2.2.2.2.2.2.2.1
theorem dX8_mostAlike_24 : decode cX8_mostAlike 24 = .ok (.if_icmp .gt 44, 3) := da9_dX8_mostAlike_0.2.2.2.2.2.2.2.2.2.2.2.2.2.2.1
theorem dX8_mostAlike_27 : decode cX8_mostAlike 27 = .ok (.iload 5, 2) := da9_dX8_mostAlike_0.2.2.2.2.2.2.2.2.2.2.2.2.2.2.2
theorem da9_dX8_mostAlike_29 : (decode cX8_mostAlike 29 = .ok (.iload_n 1, 1)) ∧ (decode cX8_mostAlike 30 = .ok (.iload 6, 2)) ∧ (decode cX8_mostAlike 32 = .ok (.ishr, 1)) ∧ (decode cX8_mostAlike 33 = .ok (.iconst 1, 1)) ∧ (decode cX8_mostAlike 34 = .ok (.iand, 1)) ∧ (decode cX8_mostAlike 35 = .ok (.iconst 1, 1)) ∧ (decode cX8_mostAlike 36 = .ok (.if_icmp .ne 19, 3)) ∧ (decode cX8_mostAlike 39 = .ok (.aload_n 0, 1)) ∧ (decode cX8_mostAlike 40 = .ok (.iload 6, 2)) ∧ (decode cX8_mostAlike 42 = .ok (.iload_n 2, 1)) ∧ (decode cX8_mostAlike 43 = .ok (.invokevirtual 95, 3)) ∧ (decode cX8_mostAlike 46 = .ok (.iload 4, 2)) ∧ (decode cX8_mostAlike 48 = .ok (.if_icmp .ne 7, 3)) ∧ (decode cX8_mostAlike 51 = .ok (.iconst 1, 1)) ∧ (decode cX8_mostAlike 52 = .ok (.goto 4, 3)) ∧ (decode cX8_mostAlike 55 = .ok (.iconst 0, 1)) := by decide +kernel
theorem dX8_mostAlike_29 : decode cX8_mostAlike 29 = .ok (.iload_n 1, 1) := da9_dX8_mostAlike_29.1
theorem dX8_mostAlike_30 : decode cX8_mostAlike 30 = .ok (.iload 6, 2) := da9_dX8_mostAlike_29.2.1
theorem dX8_mostAlike_32 : decode cX8_mostAlike 32 = .ok (.ishr, 1) := da9_dX8_mostAlike_29.2.2.1
theorem dX8_mostAlike_33 : decode cX8_mostAlike 33 = .ok (.iconst 1, 1) := da9_dX8_mostAlike_29.2.2.2.1
theorem dX8_mostAlike_34 : decode cX8_mostAlike 34 = .ok (.iand, 1) := da9_dX8_mostAlike_29.2.2.2.2.1
theorem dX8_mostAlike_35 : decode cX8_mostAlike 35 = .ok (.iconst 1, 1) := da9_dX8_mostAlike_29.2.2.2.2.2.1
theorem dX8_mostAlike_36 : decode cX8_mostAlike 36 = .ok (.if_icmp .ne 19, 3) := da9_dX8_mostAlike_29.2.2.2.2.2.2.1
theorem dX8_mostAlike_39 : decode cX8_mostAlike 39 = .ok (.aload_n 0, 1) := da9_dX8_mostAlike_29.2.2.2.2.2.2.2.1
theorem dX8_mostAlike_40 : decode cX8_mostAlike 40 = .ok (.iload 6, 2) := da9_dX8_mostAlike_29.2.2.2.2.2.2.2.2.1
theorem dX8_mostAlike_42 : decode cX8_mostAlike 42 = .ok (.iload_n 2, 1) := da9_dX8_mostAlike_29.2.2.2.2.2.2.2.2.2.1
theorem dX8_mostAlike_43 : decode cX8_mostAlike 43 = .ok (.invokevirtual 95, 3) := da9_dX8_mostAlike_29.2.2.2.2.2.2.2.2.2.2.1
theorem dX8_mostAlike_46 : decode cX8_mostAlike 46 = .ok (.iload 4, 2) := da9_dX8_mostAlike_29.2.2.2.2.2.2.2.2.2.2.2.1
theorem dX8_mostAlike_48 : decode cX8_mostAlike 48 = .ok (.if_icmp .ne 7, 3) := da9_dX8_mostAlike_29.2.2.2.2.2.2.2.2.2.2.2.2.1
theorem dX8_mostAlike_51 : decode cX8_mostAlike 51 = .ok (.iconst 1, 1) := da9_dX8_mostAlike_29.2.2.2.2.2.2.2.2.2.2.2.2.2.1
theorem dX8_mostAlike_52 : decode cX8_mostAlike 52 = .ok (.goto 4, 3) := da9_dX8_mostAlike_29.2.2.2.2.2.2.2.2.2.2.2.2.2.2.1
theorem dX8_mostAlike_55 : decode cX8_mostAlike 55 = .ok (.iconst 0, 1) := da9_dX8_mostAlike_29.2.2.2.2.2.2.2.2.2.2.2.2.2.2.2
theorem da9_dX8_mostAlike_56 : (decode cX8_mostAlike 56 = .ok (.invokestatic 79, 3)) ∧ (decode cX8_mostAlike 59 = .ok (.iadd, 1)) ∧ (decode cX8_mostAlike 60 = .ok (.istore 5, 2)) ∧ (decode cX8_mostAlike 62 = .ok (.iinc 6 1, 3)) ∧ (decode cX8_mostAlike 65 = .ok (.goto (-47), 3)) ∧ (decode cX8_mostAlike 68 = .ok (.iload_n 3, 1)) ∧ (decode cX8_mostAlike 69 = .ok (.iload 5, 2)) ∧ (decode cX8_mostAlike 71 = .ok (.invokestatic 88, 3)) ∧ (decode cX8_mostAlike 74 = .ok (.istore_n 3, 1)) ∧ (decode cX8_mostAlike 75 = .ok (.iinc 4 1, 3)) ∧ (decode cX8_mostAlike 78 = .ok (.goto (-73), 3)) ∧ (decode cX8_mostAlike 81 = .ok (.iload_n 3, 1)) ∧ (decode cX8_mostAlike 82 = .ok (.ireturn, 1)) := by decide +kernel
theorem dX8_mostAlike_56 : decode cX8_mostAlike 56 = .ok (.invokestatic 79, 3) := da9_dX8_mostAlike_56.1
theorem dX8_mostAlike_59 : decode cX8_mostAlike 59 = .ok (.iadd, 1) := da9_dX8_mostAlike_56.2.1
theorem dX8_mostAlike_60 : decode cX8_mostAlike 60 = .ok (.istore 5, 2) := da9_dX8_mostAlike_56.2.2.1
theorem dX8_mostAlike_62 : decode cX8_mostAlike 62 = .ok (.iinc 6 1, 3) := da9_dX8_mostAlike_56.2.2.2.1
theorem dX8_mostAlike_65 : decode cX8_mostAlike 65 = .ok (.goto (-47), 3) := da9_dX8_mostAlike_56.2.2.2.2.1
theorem dX8_mostAlike_68 : decode cX8_mostAlike 68 = .ok (.iload_n 3, 1) := da9_dX8_mostAlike_56.2.2.2.2.2.1
theorem dX8_mostAlike_69 : decode cX8_mostAlike 69 = .ok (.iload 5, 2) := da9_dX8_mostAlike_56.2.2.2.2.2.2.1
theorem dX8_mostAlike_71 : decode cX8_mostAlike 71 = .ok (.invokestatic 88, 3) := da9_dX8_mostAlike_56.2.2.2.2.2.2.2.1
theorem dX8_mostAlike_74 : decode cX8_mostAlike 74 = .ok (.istore_n 3, 1) := da9_dX8_mostAlike_56.2.2.2.2.2.2.2.2.1
theorem dX8_mostAlike_75 : decode cX8_mostAlike 75 = .ok (.iinc 4 1, 3) := da9_dX8_mostAlike_56.2.2.2.2.2.2.2.2.2.1
theorem dX8_mostAlike_78 : decode cX8_mostAlike 78 = .ok (.goto (-73), 3) := da9_dX8_mostAlike_56.2.2.2.2.2.2.2.2.2.2.1
theorem dX8_mostAlike_81 : decode cX8_mostAlike 81 = .ok (.iload_n 3, 1) := da9_dX8_mostAlike_56.2.2.2.2.2.2.2.2.2.2.2.1
theorem dX8_mostAlike_82 : decode cX8_mostAlike 82 = .ok (.ireturn, 1) := da9_dX8_mostAlike_56.2.2.2.2.2.2.2.2.2.2.2.2
set_option maxRecDepth 20000 in
theorem ggX9_look_X9_was : GoodIn wsX9_look wsX9_was := wd_c vW9_ok mvW9_627
set_option maxRecDepth 20000 in
theorem gX9_look_X9_was : GoodIn wsX9_look (wsV RX9 285 RX9 yX9_was wsX9_was) := goodIn_app (wd_l vW9_ok _ pvW9_127) ggX9_look_X9_was
set_option maxRecDepth 20000 in
theorem ggX9_look_X9_isBit : GoodIn wsX9_look wsX9_isBit := wd_c vW9_ok mvW9_8
set_option maxRecDepth 20000 in
theorem gX9_look_X9_isBit : GoodIn wsX9_look (va_wsS RX9 115 yX9_isBit wsX9_isBit) := goodIn_app (wd_l vW9_ok _ pvW9_90) ggX9_look_X9_isBit
set_option maxRecDepth 20000 in
theorem ggX9_look_X8_mostAlike : GoodIn wsX9_look wsX8_mostAlike := wd_c vW9_ok mvW9_631
set_option maxRecDepth 20000 in
theorem gX9_look_X8_mostAlike : GoodIn wsX9_look (wsV RX9 288 RX8 yX8_mostAlike wsX8_mostAlike) := goodIn_app (wd_l vW9_ok _ pvW9_128) ggX9_look_X8_mostAlike
theorem da9_dX9_look_0 : (decode cX9_look 0 = .ok (.aload_n 0, 1)) ∧ (decode cX9_look 1 = .ok (.invokevirtual 285, 3)) ∧ (decode cX9_look 4 = .ok (.istore_n 2, 1)) ∧ (decode cX9_look 5 = .ok (.iload_n 2, 1)) ∧ (decode cX9_look 6 = .ok (.ifCond .eq 10, 3)) ∧ (decode cX9_look 9 = .ok (.iload_n 1, 1)) ∧ (decode cX9_look 10 = .ok (.invokestatic 115, 3)) ∧ (decode cX9_look 13 = .ok (.ifCond .ne 5, 3)) ∧ (decode cX9_look 16 = .ok (.iconst (-1), 1)) ∧ (decode cX9_look 17 = .ok (.ireturn, 1)) ∧ (decode cX9_look 18 = .ok (.iconst 0, 1)) ∧ (decode cX9_look 19 = .ok (.istore_n 3, 1)) ∧ (decode cX9_look 20 = .ok (.aload_n 0, 1)) ∧ (decode cX9_look 21 = .ok (.getfield 10, 3)) ∧ (decode cX9_look 24 = .ok (.getfield 122, 3)) ∧ (decode cX9_look 27 = .ok (.iload_n 2, 1)) := by decide +kernel
theorem dX9_look_0 : decode cX9_look 0 = .ok (.aload_n 0, 1) := da9_dX9_look_0.1
theorem dX9_look_1 : decode cX9_look 1 = .ok (.invokevirtual 285, 3) := da9_dX9_look_0.2.1
theorem dX9_look_4 : decode cX9_look 4 = .ok (.istore_n 2, 1) := da9_dX9_look_0.2.2.1
theorem dX9_look_5 : decode cX9_look 5 = .ok (.iload_n 2, 1) := da9_dX9_look_0.2.2.2.1
theorem dX9_look_6 : decode cX9_look 6 = .ok (.ifCond .eq 10, 3) := da9_dX9_look_0.2.2.2.2.1
theorem dX9_look_9 : decode cX9_look 9 = .ok (.iload_n 1, 1) := da9_dX9_look_0.2.2.2.2.2.1
theorem dX9_look_10 : decode cX9_look 10 = .ok (.invokestatic 115, 3) := da9_dX9_look_0.2.2.2.2.2.2.1
theorem dX9_look_13 : decode cX9_look 13 = .ok (.ifCond .ne 5, 3) := da9_dX9_look_0.2.2.2.2.2.2.2.1
theorem dX9_look_16 : decode cX9_look 16 = .ok (.iconst (-1), 1) := da9_dX9_look_0.2.2.2.2.2.2.2.2.1
theorem dX9_look_17 : decode cX9_look 17 = .ok (.ireturn, 1) := da9_dX9_look_0.2.2.2.2.2.2.2.2.2.1
theorem dX9_look_18 : decode cX9_look 18 = .ok (.iconst 0, 1) := da9_dX9_look_0.2.2.2.2.2.2.2.2.2.2.1
theorem dX9_look_19 : decode cX9_look 19 = .ok (.istore_n 3, 1) := da9_dX9_look_0.2.2.2.2.2.2.2.2.2.2.2.1
theorem dX9_look_20 : decode cX9_look 20 = .ok (.aload_n 0, 1) := da9_dX9_look_0.2.2.2.2.2.2.2.2.2.2.2.2.1
theorem dX9_look_21 : decode cX9_look 21 = .ok (.getfield 10, 3) := da9_dX9_look_0.2.2.2.2.2.2.2.2.2.2.2.2.2.1
theorem dX9_look_24 : decode cX9_look 24 = .ok (.getfield 122, 3) := da9_dX9_look_0.2.2.2.2.2.2.2.2.2.2.2.2.2.2.1
theorem dX9_look_27 : decode cX9_look 27 = .ok (.iload_n 2, 1) := da9_dX9_look_0.2.2.2.2.2.2.2.2.2.2.2.2.2.2.2
theorem da9_dX9_look_28 : (decode cX9_look 28 = .ok (.iconst 0, 1)) ∧ (decode cX9_look 29 = .ok (.invokevirtual 288, 3)) ∧ (decode cX9_look 32 = .ok (.istore 4, 2)) ∧ (decode cX9_look 34 = .ok (.iconst 1, 1)) ∧ (decode cX9_look 35 = .ok (.istore 5, 2)) ∧ (decode cX9_look 37 = .ok (.iload 5, 2)) ∧ (decode cX9_look 39 = .ok (.aload_n 0, 1)) ∧ (decode cX9_look 40 = .ok (.getfield 10, 3)) ∧ (decode cX9_look 43 = .ok (.getfield 122, 3)) ∧ (decode cX9_look 46 = .ok (.getfield 135, 3)) ∧ (decode cX9_look 49 = .ok (.if_icmp .ge 38, 3)) ∧ (decode cX9_look 52 = .ok (.aload_n 0, 1)) ∧ (decode cX9_look 53 = .ok (.getfield 10, 3)) ∧ (decode cX9_look 56 = .ok (.getfield 122, 3)) ∧ (decode cX9_look 59 = .ok (.iload_n 2, 1)) ∧ (decode cX9_look 60 = .ok (.iload 5, 2)) := by decide +kernel
theorem dX9_look_28 : decode cX9_look 28 = .ok (.iconst 0, 1) := da9_dX9_look_28.1
theorem dX9_look_29 : decode cX9_look 29 = .ok (.invokevirtual 288, 3) := da9_dX9_look_28.2.1
theorem dX9_look_32 : decode cX9_look 32 = .ok (.istore 4, 2) := da9_dX9_look_28.2.2.1
theorem dX9_look_34 : decode cX9_look 34 = .ok (.iconst 1, 1) := da9_dX9_look_28.2.2.2.1
theorem dX9_look_35 : decode cX9_look 35 = .ok (.istore 5, 2) := da9_dX9_look_28.2.2.2.2.1
theorem dX9_look_37 : decode cX9_look 37 = .ok (.iload 5, 2) := da9_dX9_look_28.2.2.2.2.2.1
theorem dX9_look_39 : decode cX9_look 39 = .ok (.aload_n 0, 1) := da9_dX9_look_28.2.2.2.2.2.2.1
theorem dX9_look_40 : decode cX9_look 40 = .ok (.getfield 10, 3) := da9_dX9_look_28.2.2.2.2.2.2.2.1
theorem dX9_look_43 : decode cX9_look 43 = .ok (.getfield 122, 3) := da9_dX9_look_28.2.2.2.2.2.2.2.2.1
theorem dX9_look_46 : decode cX9_look 46 = .ok (.getfield 135, 3) := da9_dX9_look_28.2.2.2.2.2.2.2.2.2.1
theorem dX9_look_49 : decode cX9_look 49 = .ok (.if_icmp .ge 38, 3) := da9_dX9_look_28.2.2.2.2.2.2.2.2.2.2.1
theorem dX9_look_52 : decode cX9_look 52 = .ok (.aload_n 0, 1) := da9_dX9_look_28.2.2.2.2.2.2.2.2.2.2.2.1
theorem dX9_look_53 : decode cX9_look 53 = .ok (.getfield 10, 3) := da9_dX9_look_28.2.2.2.2.2.2.2.2.2.2.2.2.1
theorem dX9_look_56 : decode cX9_look 56 = .ok (.getfield 122, 3) := da9_dX9_look_28.2.2.2.2.2.2.2.2.2.2.2.2.2.1
theorem dX9_look_59 : decode cX9_look 59 = .ok (.iload_n 2, 1) := da9_dX9_look_28.2.2.2.2.2.2.2.2.2.2.2.2.2.2.1
theorem dX9_look_60 : decode cX9_look 60 = .ok (.iload 5, 2) := da9_dX9_look_28.2.2.2.2.2.2.2.2.2.2.2.2.2.2.2
theorem da9_dX9_look_62 : (decode cX9_look 62 = .ok (.invokevirtual 288, 3)) ∧ (decode cX9_look 65 = .ok (.istore 6, 2)) ∧ (decode cX9_look 67 = .ok (.iload 6, 2)) ∧ (decode cX9_look 69 = .ok (.iload 4, 2)) ∧ (decode cX9_look 71 = .ok (.if_icmp .ge 10, 3)) ∧ (decode cX9_look 74 = .ok (.iload 6, 2)) ∧ (decode cX9_look 76 = .ok (.istore 4, 2)) ∧ (decode cX9_look 78 = .ok (.iload 5, 2)) ∧ (decode cX9_look 80 = .ok (.istore_n 3, 1)) ∧ (decode cX9_look 81 = .ok (.iinc 5 1, 3)) ∧ (decode cX9_look 84 = .ok (.goto (-47), 3)) ∧ (decode cX9_look 87 = .ok (.iload_n 1, 1)) ∧ (decode cX9_look 88 = .ok (.ifCond .ne 7, 3)) ∧ (decode cX9_look 91 = .ok (.iload_n 3, 1)) ∧ (decode cX9_look 92 = .ok (.goto 5, 3)) ∧ (decode cX9_look 95 = .ok (.iload 4, 2)) := by decide +kernel
theorem dX9_look_62 : decode cX9_look 62 = .ok (.invokevirtual 288, 3) := da9_dX9_look_62.1
theorem dX9_look_65 : decode cX9_look 65 = .ok (.istore 6, 2) := da9_dX9_look_62.2.1
theorem dX9_look_67 : decode cX9_look 67 = .ok (.iload 6, 2) := da9_dX9_look_62.2.2.1
theorem dX9_look_69 : decode cX9_look 69 = .ok (.iload 4, 2) := da9_dX9_look_62.2.2.2.1
theorem dX9_look_71 : decode cX9_look 71 = .ok (.if_icmp .ge 10, 3) := da9_dX9_look_62.2.2.2.2.1
theorem dX9_look_74 : decode cX9_look 74 = .ok (.iload 6, 2) := da9_dX9_look_62.2.2.2.2.2.1
theorem dX9_look_76 : decode cX9_look 76 = .ok (.istore 4, 2) := da9_dX9_look_62.2.2.2.2.2.2.1
theorem dX9_look_78 : decode cX9_look 78 = .ok (.iload 5, 2) := da9_dX9_look_62.2.2.2.2.2.2.2.1
theorem dX9_look_80 : decode cX9_look 80 = .ok (.istore_n 3, 1) := da9_dX9_look_62.2.2.2.2.2.2.2.2.1
theorem dX9_look_81 : decode cX9_look 81 = .ok (.iinc 5 1, 3) := da9_dX9_look_62.2.2.2.2.2.2.2.2.2.1
theorem dX9_look_84 : decode cX9_look 84 = .ok (.goto (-47), 3) := da9_dX9_look_62.2.2.2.2.2.2.2.2.2.2.1
theorem dX9_look_87 : decode cX9_look 87 = .ok (.iload_n 1, 1) := da9_dX9_look_62.2.2.2.2.2.2.2.2.2.2.2.1
theorem dX9_look_88 : decode cX9_look 88 = .ok (.ifCond .ne 7, 3) := da9_dX9_look_62.2.2.2.2.2.2.2.2.2.2.2.2.1
theorem dX9_look_91 : decode cX9_look 91 = .ok (.iload_n 3, 1) := da9_dX9_look_62.2.2.2.2.2.2.2.2.2.2.2.2.2.1
theorem dX9_look_92 : decode cX9_look 92 = .ok (.goto 5, 3) := da9_dX9_look_62.2.2.2.2.2.2.2.2.2.2.2.2.2.2.1
theorem dX9_look_95 : decode cX9_look 95 = .ok (.iload 4, 2) := da9_dX9_look_62.2.2.2.2.2.2.2.2.2.2.2.2.2.2.2
theorem dX9_look_97 : decode cX9_look 97 = .ok (.ireturn, 1) := by decide +kernel
set_option maxRecDepth 20000 in
theorem ggX9_few_J7_fill_d0a16 : GoodIn wsX9_few wsJ7_fill_d0a16 := wd_l vW9_ok _ (List.forall_mem_cons.mpr ⟨mvW9_639, (fun _ h => absurd h List.not_mem_nil)⟩)
set_option maxRecDepth 20000 in
theorem gX9_few_J7_fill_d0a16 : GoodIn wsX9_few (va_wsS RX9 293 yJ7_fill_d0a16 wsJ7_fill_d0a16) := goodIn_app (wd_l vW9_ok _ pvW9_129) ggX9_few_J7_fill_d0a16
theorem da9_dX9_few_0 : (decode cX9_few 0 = .ok (.iload_n 1, 1)) ∧ (decode cX9_few 1 = .ok (.iconst 1, 1)) ∧ (decode cX9_few 2 = .ok (.if_icmp .lt 19, 3)) ∧ (decode cX9_few 5 = .ok (.iload_n 1, 1)) ∧ (decode cX9_few 6 = .ok (.bipush 20, 2)) ∧ (decode cX9_few 8 = .ok (.if_icmp .gt 13, 3)) ∧ (decode cX9_few 11 = .ok (.iload_n 2, 1)) ∧ (decode cX9_few 12 = .ok (.ifCond .lt 9, 3)) ∧ (decode cX9_few 15 = .ok (.iload_n 2, 1)) ∧ (decode cX9_few 16 = .ok (.bipush 99, 2)) ∧ (decode cX9_few 18 = .ok (.if_icmp .le 7, 3)) ∧ (decode cX9_few 21 = .ok (.ldc2_w 291, 3)) ∧ (decode cX9_few 24 = .ok (.lreturn, 1)) ∧ (decode cX9_few 25 = .ok (.aload_n 0, 1)) ∧ (decode cX9_few 26 = .ok (.getfield 101, 3)) ∧ (decode cX9_few 29 = .ok (.lconst 0, 1)) := by decide +kernel
theorem dX9_few_0 : decode cX9_few 0 = .ok (.iload_n 1, 1) := da9_dX9_few_0.1
theorem dX9_few_1 : decode cX9_few 1 = .ok (.iconst 1, 1) := da9_dX9_few_0.2.1
theorem dX9_few_2 : decode cX9_few 2 = .ok (.if_icmp .lt 19, 3) := da9_dX9_few_0.2.2.1
theorem dX9_few_5 : decode cX9_few 5 = .ok (.iload_n 1, 1) := da9_dX9_few_0.2.2.2.1
theorem dX9_few_6 : decode cX9_few 6 = .ok (.bipush 20, 2) := da9_dX9_few_0.2.2.2.2.1
theorem dX9_few_8 : decode cX9_few 8 = .ok (.if_icmp .gt 13, 3) := da9_dX9_few_0.2.2.2.2.2.1
theorem dX9_few_11 : decode cX9_few 11 = .ok (.iload_n 2, 1) := da9_dX9_few_0.2.2.2.2.2.2.1
theorem dX9_few_12 : decode cX9_few 12 = .ok (.ifCond .lt 9, 3) := da9_dX9_few_0.2.2.2.2.2.2.2.1
theorem dX9_few_15 : decode cX9_few 15 = .ok (.iload_n 2, 1) := da9_dX9_few_0.2.2.2.2.2.2.2.2.1
theorem dX9_few_16 : decode cX9_few 16 = .ok (.bipush 99, 2) := da9_dX9_few_0.2.2.2.2.2.2.2.2.2.1
theorem dX9_few_18 : decode cX9_few 18 = .ok (.if_icmp .le 7, 3) := da9_dX9_few_0.2.2.2.2.2.2.2.2.2.2.1
theorem dX9_few_21 : decode cX9_few 21 = .ok (.ldc2_w 291, 3) := da9_dX9_few_0.2.2.2.2.2.2.2.2.2.2.2.1
theorem dX9_few_24 : decode cX9_few 24 = .ok (.lreturn, 1) := da9_dX9_few_0.2.2.2.2.2.2.2.2.2.2.2.2.1
theorem dX9_few_25 : decode cX9_few 25 = .ok (.aload_n 0, 1) := da9_dX9_few_0.2.2.2.2.2.2.2.2.2.2.2.2.2.1
theorem dX9_few_26 : decode cX9_few 26 = .ok (.getfield 101, 3) := da9_dX9_few_0.2.2.2.2.2.2.2.2.2.2.2.2.2.2.1
theorem dX9_few_29 : decode cX9_few 29 = .ok (.lconst 0, 1) := da9_dX9_few_0.2.2.2.2.2.2.2.2.2.2.2.2.2.2.2
theorem da9_dX9_few_30 : (decode cX9_few 30 = .ok (.invokestatic 293, 3)) ∧ (decode cX9_few 33 = .ok (.aload_n 0, 1)) ∧ (decode cX9_few 34 = .ok (.getfield 101, 3)) ∧ (decode cX9_few 37 = .ok (.iconst 0, 1)) ∧ (decode cX9_few 38 = .ok (.ldc2_w 299, 3)) ∧ (decode cX9_few 41 = .ok (.lastore, 1)) ∧ (decode cX9_few 42 = .ok (.iconst 0, 1)) ∧ (decode cX9_few 43 = .ok (.istore_n 3, 1)) ∧ (decode cX9_few 44 = .ok (.iload_n 3, 1)) ∧ (decode cX9_few 45 = .ok (.iload_n 2, 1)) ∧ (decode cX9_few 46 = .ok (.if_icmp .ge 95, 3)) ∧ (decode cX9_few 49 = .ok (.iload_n 1, 1)) ∧ (decode cX9_few 50 = .ok (.iconst 1, 1)) ∧ (decode cX9_few 51 = .ok (.isub, 1)) ∧ (decode cX9_few 52 = .ok (.istore 4, 2)) ∧ (decode cX9_few 54 = .ok (.iload 4, 2)) := by decide +kernel
theorem dX9_few_30 : decode cX9_few 30 = .ok (.invokestatic 293, 3) := da9_dX9_few_30.1
theorem dX9_few_33 : decode cX9_few 33 = .ok (.aload_n 0, 1) := da9_dX9_few_30.2.1
theorem dX9_few_34 : decode cX9_few 34 = .ok (.getfield 101, 3) := da9_dX9_few_30.2.2.1
theorem dX9_few_37 : decode cX9_few 37 = .ok (.iconst 0, 1) := da9_dX9_few_30.2.2.2.1
theorem dX9_few_38 : decode cX9_few 38 = .ok (.ldc2_w 299, 3) := da9_dX9_few_30.2.2.2.2.1
theorem dX9_few_41 : decode cX9_few 41 = .ok (.lastore, 1) := da9_dX9_few_30.2.2.2.2.2.1
theorem dX9_few_42 : decode cX9_few 42 = .ok (.iconst 0, 1) := da9_dX9_few_30.2.2.2.2.2.2.1
theorem dX9_few_43 : decode cX9_few 43 = .ok (.istore_n 3, 1) := da9_dX9_few_30.2.2.2.2.2.2.2.1
theorem dX9_few_44 : decode cX9_few 44 = .ok (.iload_n 3, 1) := da9_dX9_few_30.2.2.2.2.2.2.2.2.1
theorem dX9_few_45 : decode cX9_few 45 = .ok (.iload_n 2, 1) := da9_dX9_few_30.2.2.2.2.2.2.2.2.2.1
theorem dX9_few_46 : decode cX9_few 46 = .ok (.if_icmp .ge 95, 3) := da9_dX9_few_30.2.2.2.2.2.2.2.2.2.2.1
theorem dX9_few_49 : decode cX9_few 49 = .ok (.iload_n 1, 1) := da9_dX9_few_30.2.2.2.2.2.2.2.2.2.2.2.1
theorem dX9_few_50 : decode cX9_few 50 = .ok (.iconst 1, 1) := da9_dX9_few_30.2.2.2.2.2.2.2.2.2.2.2.2.1
theorem dX9_few_51 : decode cX9_few 51 = .ok (.isub, 1) := da9_dX9_few_30.2.2.2.2.2.2.2.2.2.2.2.2.2.1
theorem dX9_few_52 : decode cX9_few 52 = .ok (.istore 4, 2) := da9_dX9_few_30.2.2.2.2.2.2.2.2.2.2.2.2.2.2.1
theorem dX9_few_54 : decode cX9_few 54 = .ok (.iload 4, 2) := da9_dX9_few_30.2.2.2.2.2.2.2.2.2.2.2.2.2.2.2
theorem da9_dX9_few_56 : (decode cX9_few 56 = .ok (.ifCond .lt 79, 3)) ∧ (decode cX9_few 59 = .ok (.aload_n 0, 1)) ∧ (decode cX9_few 60 = .ok (.getfield 101, 3)) ∧ (decode cX9_few 63 = .ok (.iload 4, 2)) ∧ (decode cX9_few 65 = .ok (.laload, 1)) ∧ (decode cX9_few 66 = .ok (.bipush 10, 2)) ∧ (decode cX9_few 68 = .ok (.aload_n 0, 1)) ∧ (decode cX9_few 69 = .ok (.getfield 10, 3)) ∧ (decode cX9_few 72 = .ok (.getfield 301, 3)) ∧ (decode cX9_few 75 = .ok (.isub, 1)) ∧ (decode cX9_few 76 = .ok (.i2l, 1)) ∧ (decode cX9_few 77 = .ok (.lmul, 1)) ∧ (decode cX9_few 78 = .ok (.ldc2_w 304, 3)) ∧ (decode cX9_few 81 = .ok (.ldiv, 1)) ∧ (decode cX9_few 82 = .ok (.lstore 5, 2)) ∧ (decode cX9_few 84 = .ok (.iload 4, 2)) := by decide +kernel
theorem dX9_few_56 : decode cX9_few 56 = .ok (.ifCond .lt 79, 3) := da9_dX9_few_56.1
theorem dX9_few_59 : decode cX9_few 59 = .ok (.aload_n 0, 1) := da9_dX9_few_56.2.1
theorem dX9_few_60 : decode cX9_few 60 = .ok (.getfield 101, 3) := da9_dX9_few_56.2.2.1
theorem dX9_few_63 : decode cX9_few 63 = .ok (.iload 4, 2) := da9_dX9_few_56.2.2.2.1
theorem dX9_few_65 : decode cX9_few 65 = .ok (.laload, 1) := da9_dX9_few_56.2.2.2.2.1
theorem dX9_few_66 : decode cX9_few 66 = .ok (.bipush 10, 2) := da9_dX9_few_56.2.2.2.2.2.1
theorem dX9_few_68 : decode cX9_few 68 = .ok (.aload_n 0, 1) := da9_dX9_few_56.2.2.2.2.2.2.1
theorem dX9_few_69 : decode cX9_few 69 = .ok (.getfield 10, 3) := da9_dX9_few_56.2.2.2.2.2.2.2.1
theorem dX9_few_72 : decode cX9_few 72 = .ok (.getfield 301, 3) := da9_dX9_few_56.2.2.2.2.2.2.2.2.1
theorem dX9_few_75 : decode cX9_few 75 = .ok (.isub, 1) := da9_dX9_few_56.2.2.2.2.2.2.2.2.2.1
theorem dX9_few_76 : decode cX9_few 76 = .ok (.i2l, 1) := da9_dX9_few_56.2.2.2.2.2.2.2.2.2.2.1
theorem dX9_few_77 : decode cX9_few 77 = .ok (.lmul, 1) := da9_dX9_few_56.2.2.2.2.2.2.2.2.2.2.2.1
theorem dX9_few_78 : decode cX9_few 78 = .ok (.ldc2_w 304, 3) := da9_dX9_few_56.2.2.2.2.2.2.2.2.2.2.2.2.1
theorem dX9_few_81 : decode cX9_few 81 = .ok (.ldiv, 1) := da9_dX9_few_56.2.2.2.2.2.2.2.2.2.2.2.2.2.1
theorem dX9_few_82 : decode cX9_few 82 = .ok (.lstore 5, 2) := da9_dX9_few_56.2.2.2.2.2.2.2.2.2.2.2.2.2.2.1
theorem dX9_few_84 : decode cX9_few 84 = .ok (.iload 4, 2) := da9_dX9_few_56.2.2.2.2.2.2.2.2.2.2.2.2.2.2.2
theorem da9_dX9_few_86 : (decode cX9_few 86 = .ok (.ifCond .ne 7, 3)) ∧ (decode cX9_few 89 = .ok (.lconst 0, 1)) ∧ (decode cX9_few 90 = .ok (.goto 25, 3)) ∧ (decode cX9_few 93 = .ok (.aload_n 0, 1)) ∧ (decode cX9_few 94 = .ok (.getfield 101, 3)) ∧ (decode cX9_few 97 = .ok (.iload 4, 2)) ∧ (decode cX9_few 99 = .ok (.iconst 1, 1)) ∧ (decode cX9_few 100 = .ok (.isub, 1)) ∧ (decode cX9_few 101 = .ok (.laload, 1)) ∧ (decode cX9_few 102 = .ok (.aload_n 0, 1)) ∧ (decode cX9_few 103 = .ok (.getfield 10, 3)) ∧ (decode cX9_few 106 = .ok (.getfield 301, 3)) ∧ (decode cX9_few 109 = .ok (.i2l, 1)) ∧ (decode cX9_few 110 = .ok (.lmul, 1)) ∧ (decode cX9_few 111 = .ok (.ldc2_w 304, 3)) ∧ (decode cX9_few 114 = .ok (.ldiv, 1)) := by decide +kernel
theorem dX9_few_86 : decode cX9_few 86 = .ok (.ifCond .ne 7, 3) := da9_dX9_few_86.1
theorem dX9_few_89 : decode cX9_few 89 = .ok (.lconst 0, 1) := da9_dX9_few_86.2.1
theorem dX9_few_90 : decode cX9_few 90 = .ok (.goto 25, 3) := da9_dX9_few_86.2.2.1
theorem dX9_few_93 : decode cX9_few 93 = .ok (.aload_n 0, 1) := da9_dX9_few_86.2.2.2.1
theorem dX9_few_94 : decode cX9_few 94 = .ok (.getfield 101, 3) := da9_dX9_few_86.2.2.2.2.1
theorem dX9_few_97 : decode cX9_few 97 = .ok (.iload 4, 2) := da9_dX9_few_86.2.2.2.2.2.1
theorem dX9_few_99 : decode cX9_few 99 = .ok (.iconst 1, 1) := da9_dX9_few_86.2.2.2.2.2.2.1
theorem dX9_few_100 : decode cX9_few 100 = .ok (.isub, 1) := da9_dX9_few_86.2.2.2.2.2.2.2.1
theorem dX9_few_101 : decode cX9_few 101 = .ok (.laload, 1) := da9_dX9_few_86.2.2.2.2.2.2.2.2.1
theorem dX9_few_102 : decode cX9_few 102 = .ok (.aload_n 0, 1) := da9_dX9_few_86.2.2.2.2.2.2.2.2.2.1
theorem dX9_few_103 : decode cX9_few 103 = .ok (.getfield 10, 3) := da9_dX9_few_86.2.2.2.2.2.2.2.2.2.2.1
theorem dX9_few_106 : decode cX9_few 106 = .ok (.getfield 301, 3) := da9_dX9_few_86.2.2.2.2.2.2.2.2.2.2.2.1
theorem dX9_few_109 : decode cX9_few 109 = .ok (.i2l, 1) := da9_dX9_few_86.2.2.2.2.2.2.2.2.2.2.2.2.1
theorem dX9_few_110 : decode cX9_few 110 = .ok (.lmul, 1) := da9_dX9_few_86.2.2.2.2.2.2.2.2.2.2.2.2.2.1
theorem dX9_few_111 : decode cX9_few 111 = .ok (.ldc2_w 304, 3) := da9_dX9_few_86.2.2.2.2.2.2.2.2.2.2.2.2.2.2.1
theorem dX9_few_114 : decode cX9_few 114 = .ok (.ldiv, 1) := da9_dX9_few_86.2.2.2.2.2.2.2.2.2.2.2.2.2.2.2
theorem da9_dX9_few_115 : (decode cX9_few 115 = .ok (.lstore 7, 2)) ∧ (decode cX9_few 117 = .ok (.aload_n 0, 1)) ∧ (decode cX9_few 118 = .ok (.getfield 101, 3)) ∧ (decode cX9_few 121 = .ok (.iload 4, 2)) ∧ (decode cX9_few 123 = .ok (.lload 5, 2)) ∧ (decode cX9_few 125 = .ok (.lload 7, 2)) ∧ (decode cX9_few 127 = .ok (.ladd, 1)) ∧ (decode cX9_few 128 = .ok (.lastore, 1)) ∧ (decode cX9_few 129 = .ok (.iinc 4 (-1), 3)) ∧ (decode cX9_few 132 = .ok (.goto (-78), 3)) ∧ (decode cX9_few 135 = .ok (.iinc 3 1, 3)) ∧ (decode cX9_few 138 = .ok (.goto (-94), 3)) ∧ (decode cX9_few 141 = .ok (.lconst 0, 1)) ∧ (decode cX9_few 142 = .ok (.lstore_n 3, 1)) ∧ (decode cX9_few 143 = .ok (.iconst 0, 1)) ∧ (decode cX9_few 144 = .ok (.istore 5, 2)) := by decide +kernel
theorem dX9_few_115 : decode cX9_few 115 = .ok (.lstore 7, 2) := da9_dX9_few_115.1
theorem dX9_few_117 : decode cX9_few 117 = .ok (.aload_n 0, 1) := da9_dX9_few_115.2.1
theorem dX9_few_118 : decode cX9_few 118 = .ok (.getfield 101, 3) := da9_dX9_few_115.2.2.1
theorem dX9_few_121 : decode cX9_few 121 = .ok (.iload 4, 2) := da9_dX9_few_115.2.2.2.1
theorem dX9_few_123 : decode cX9_few 123 = .ok (.lload 5, 2) := da9_dX9_few_115.2.2.2.2.1
theorem dX9_few_125 : decode cX9_few 125 = .ok (.lload 7, 2) := da9_dX9_few_115.2.2.2.2.2.1
theorem dX9_few_127 : decode cX9_few 127 = .ok (.ladd, 1) := da9_dX9_few_115.2.2.2.2.2.2.1
theorem dX9_few_128 : decode cX9_few 128 = .ok (.lastore, 1) := da9_dX9_few_115.2.2.2.2.2.2.2.1
theorem dX9_few_129 : decode cX9_few 129 = .ok (.iinc 4 (-1), 3) := da9_dX9_few_115.2.2.2.2.2.2.2.2.1
theorem dX9_few_132 : decode cX9_few 132 = .ok (.goto (-78), 3) := da9_dX9_few_115.2.2.2.2.2.2.2.2.2.1
theorem dX9_few_135 : decode cX9_few 135 = .ok (.iinc 3 1, 3) := da9_dX9_few_115.2.2.2.2.2.2.2.2.2.2.1
theorem dX9_few_138 : decode cX9_few 138 = .ok (.goto (-94), 3) := da9_dX9_few_115.2.2.2.2.2.2.2.2.2.2.2.1
theorem dX9_few_141 : decode cX9_few 141 = .ok (.lconst 0, 1) := da9_dX9_few_115.2.2.2.2.2.2.2.2.2.2.2.2.1
theorem dX9_few_142 : decode cX9_few 142 = .ok (.lstore_n 3, 1) := da9_dX9_few_115.2.2.2.2.2.2.2.2.2.2.2.2.2.1
theorem dX9_few_143 : decode cX9_few 143 = .ok (.iconst 0, 1) := da9_dX9_few_115.2.2.2.2.2.2.2.2.2.2.2.2.2.2.1
theorem dX9_few_144 : decode cX9_few 144 = .ok (.istore 5, 2) := da9_dX9_few_115.2.2.2.2.2.2.2.2.2.2.2.2.2.2.2
theorem da9_dX9_few_146 : (decode cX9_few 146 = .ok (.iload 5, 2)) ∧ (decode cX9_few 148 = .ok (.iload_n 1, 1)) ∧ (decode cX9_few 149 = .ok (.if_icmp .ge 19, 3)) ∧ (decode cX9_few 152 = .ok (.lload_n 3, 1)) ∧ (decode cX9_few 153 = .ok (.aload_n 0, 1)) ∧ (decode cX9_few 154 = .ok (.getfield 101, 3)) ∧ (decode cX9_few 157 = .ok (.iload 5, 2)) ∧ (decode cX9_few 159 = .ok (.laload, 1)) ∧ (decode cX9_few 160 = .ok (.ladd, 1)) ∧ (decode cX9_few 161 = .ok (.lstore_n 3, 1)) ∧ (decode cX9_few 162 = .ok (.iinc 5 1, 3)) ∧ (decode cX9_few 165 = .ok (.goto (-19), 3)) ∧ (decode cX9_few 168 = .ok (.lload_n 3, 1)) ∧ (decode cX9_few 169 = .ok (.lreturn, 1)) := by decide +kernel
theorem dX9_few_146 : decode cX9_few 146 = .ok (.iload 5, 2) := da9_dX9_few_146.1
theorem dX9_few_148 : decode cX9_few 148 = .ok (.iload_n 1, 1) := da9_dX9_few_146.2.1
theorem dX9_few_149 : decode cX9_few 149 = .ok (.if_icmp .ge 19, 3) := da9_dX9_few_146.2.2.1
theorem dX9_few_152 : decode cX9_few 152 = .ok (.lload_n 3, 1) := da9_dX9_few_146.2.2.2.1
theorem dX9_few_153 : decode cX9_few 153 = .ok (.aload_n 0, 1) := da9_dX9_few_146.2.2.2.2.1
theorem dX9_few_154 : decode cX9_few 154 = .ok (.getfield 101, 3) := da9_dX9_few_146.2.2.2.2.2.1
theorem dX9_few_157 : decode cX9_few 157 = .ok (.iload 5, 2) := da9_dX9_few_146.2.2.2.2.2.2.1
theorem dX9_few_159 : decode cX9_few 159 = .ok (.laload, 1) := da9_dX9_few_146.2.2.2.2.2.2.2.1
theorem dX9_few_160 : decode cX9_few 160 = .ok (.ladd, 1) := da9_dX9_few_146.2.2.2.2.2.2.2.2.1
theorem dX9_few_161 : decode cX9_few 161 = .ok (.lstore_n 3, 1) := da9_dX9_few_146.2.2.2.2.2.2.2.2.2.1
theorem dX9_few_162 : decode cX9_few 162 = .ok (.iinc 5 1, 3) := da9_dX9_few_146.2.2.2.2.2.2.2.2.2.2.1
theorem dX9_few_165 : decode cX9_few 165 = .ok (.goto (-19), 3) := da9_dX9_few_146.2.2.2.2.2.2.2.2.2.2.2.1
theorem dX9_few_168 : decode cX9_few 168 = .ok (.lload_n 3, 1) := da9_dX9_few_146.2.2.2.2.2.2.2.2.2.2.2.2.1
theorem dX9_few_169 : decode cX9_few 169 = .ok (.lreturn, 1) := da9_dX9_few_146.2.2.2.2.2.2.2.2.2.2.2.2.2
set_option maxRecDepth 20000 in
theorem ggX9_compare_X6_isLaw : GoodIn wsX9_compare wsX6_isLaw := wd_c vW9_ok mvW9_55
set_option maxRecDepth 20000 in
theorem gX9_compare_X6_isLaw : GoodIn wsX9_compare (wsV RX9 205 RX6 yX6_isLaw wsX6_isLaw) := goodIn_app (wd_l vW9_ok _ pvW9_111) ggX9_compare_X6_isLaw
set_option maxRecDepth 20000 in
theorem ggX9_compare_X6_lawAt : GoodIn wsX9_compare wsX6_lawAt := wd_c vW9_ok mvW9_50
set_option maxRecDepth 20000 in
theorem gX9_compare_X6_lawAt : GoodIn wsX9_compare (wsV RX9 306 RX6 yX6_lawAt wsX6_lawAt) := goodIn_app (wd_l vW9_ok _ pvW9_130) ggX9_compare_X6_lawAt
set_option maxRecDepth 20000 in
theorem ggX9_compare_X1_seat : GoodIn wsX9_compare wsX1_seat := wd_c vW9_ok mvW9_61
set_option maxRecDepth 20000 in
theorem gX9_compare_X1_seat : GoodIn wsX9_compare (wsV RX9 313 RX1 yX1_seat wsX1_seat) := goodIn_app (wd_l vW9_ok _ pvW9_131) ggX9_compare_X1_seat
set_option maxRecDepth 20000 in
theorem ggX9_compare_X9_spread : GoodIn wsX9_compare wsX9_spread := wd_c vW9_ok mvW9_457
set_option maxRecDepth 20000 in
theorem gX9_compare_X9_spread : GoodIn wsX9_compare (wsV RX9 226 RX9 yX9_spread wsX9_spread) := goodIn_app (wd_l vW9_ok _ pvW9_114) ggX9_compare_X9_spread
set_option maxRecDepth 20000 in
theorem ggX9_compare_X3_turnsToOrder : GoodIn wsX9_compare wsX3_turnsToOrder := wd_c vW9_ok mvW9_523
set_option maxRecDepth 20000 in
theorem gX9_compare_X3_turnsToOrder : GoodIn wsX9_compare (wsV RX9 230 RX3 yX3_turnsToOrder wsX3_turnsToOrder) := goodIn_app (wd_l vW9_ok _ pvW9_115) ggX9_compare_X3_turnsToOrder
theorem da9_dX9_compare_0 : (decode cX9_compare 0 = .ok (.iload_n 1, 1)) ∧ (decode cX9_compare 1 = .ok (.iconst (-1), 1)) ∧ (decode cX9_compare 2 = .ok (.if_icmp .eq 16, 3)) ∧ (decode cX9_compare 5 = .ok (.aload_n 0, 1)) ∧ (decode cX9_compare 6 = .ok (.getfield 10, 3)) ∧ (decode cX9_compare 9 = .ok (.iload_n 1, 1)) ∧ (decode cX9_compare 10 = .ok (.invokevirtual 205, 3)) ∧ (decode cX9_compare 13 = .ok (.ifCond .ne 5, 3)) ∧ (decode cX9_compare 16 = .ok (.iconst (-1), 1)) ∧ (decode cX9_compare 17 = .ok (.ireturn, 1)) ∧ (decode cX9_compare 18 = .ok (.aload_n 0, 1)) ∧ (decode cX9_compare 19 = .ok (.getfield 50, 3)) ∧ (decode cX9_compare 22 = .ok (.aload_n 0, 1)) ∧ (decode cX9_compare 23 = .ok (.getfield 10, 3)) ∧ (decode cX9_compare 26 = .ok (.iload_n 1, 1)) ∧ (decode cX9_compare 27 = .ok (.invokevirtual 306, 3)) := by decide +kernel
theorem dX9_compare_0 : decode cX9_compare 0 = .ok (.iload_n 1, 1) := da9_dX9_compare_0.1
theorem dX9_compare_1 : decode cX9_compare 1 = .ok (.iconst (-1), 1) := da9_dX9_compare_0.2.1
theorem dX9_compare_2 : decode cX9_compare 2 = .ok (.if_icmp .eq 16, 3) := da9_dX9_compare_0.2.2.1
theorem dX9_compare_5 : decode cX9_compare 5 = .ok (.aload_n 0, 1) := da9_dX9_compare_0.2.2.2.1
theorem dX9_compare_6 : decode cX9_compare 6 = .ok (.getfield 10, 3) := da9_dX9_compare_0.2.2.2.2.1
theorem dX9_compare_9 : decode cX9_compare 9 = .ok (.iload_n 1, 1) := da9_dX9_compare_0.2.2.2.2.2.1
theorem dX9_compare_10 : decode cX9_compare 10 = .ok (.invokevirtual 205, 3) := da9_dX9_compare_0.2.2.2.2.2.2.1
theorem dX9_compare_13 : decode cX9_compare 13 = .ok (.ifCond .ne 5, 3) := da9_dX9_compare_0.2.2.2.2.2.2.2.1
theorem dX9_compare_16 : decode cX9_compare 16 = .ok (.iconst (-1), 1) := da9_dX9_compare_0.2.2.2.2.2.2.2.2.1
theorem dX9_compare_17 : decode cX9_compare 17 = .ok (.ireturn, 1) := da9_dX9_compare_0.2.2.2.2.2.2.2.2.2.1
theorem dX9_compare_18 : decode cX9_compare 18 = .ok (.aload_n 0, 1) := da9_dX9_compare_0.2.2.2.2.2.2.2.2.2.2.1
theorem dX9_compare_19 : decode cX9_compare 19 = .ok (.getfield 50, 3) := da9_dX9_compare_0.2.2.2.2.2.2.2.2.2.2.2.1
theorem dX9_compare_22 : decode cX9_compare 22 = .ok (.aload_n 0, 1) := da9_dX9_compare_0.2.2.2.2.2.2.2.2.2.2.2.2.1
theorem dX9_compare_23 : decode cX9_compare 23 = .ok (.getfield 10, 3) := da9_dX9_compare_0.2.2.2.2.2.2.2.2.2.2.2.2.2.1
theorem dX9_compare_26 : decode cX9_compare 26 = .ok (.iload_n 1, 1) := da9_dX9_compare_0.2.2.2.2.2.2.2.2.2.2.2.2.2.2.1
theorem dX9_compare_27 : decode cX9_compare 27 = .ok (.invokevirtual 306, 3) := da9_dX9_compare_0.2.2.2.2.2.2.2.2.2.2.2.2.2.2.2
theorem da9_dX9_compare_30 : (decode cX9_compare 30 = .ok (.aload_n 0, 1)) ∧ (decode cX9_compare 31 = .ok (.getfield 10, 3)) ∧ (decode cX9_compare 34 = .ok (.getfield 310, 3)) ∧ (decode cX9_compare 37 = .ok (.invokevirtual 313, 3)) ∧ (decode cX9_compare 40 = .ok (.aload_n 0, 1)) ∧ (decode cX9_compare 41 = .ok (.aload_n 0, 1)) ∧ (decode cX9_compare 42 = .ok (.getfield 50, 3)) ∧ (decode cX9_compare 45 = .ok (.invokevirtual 226, 3)) ∧ (decode cX9_compare 48 = .ok (.aload_n 0, 1)) ∧ (decode cX9_compare 49 = .ok (.getfield 80, 3)) ∧ (decode cX9_compare 52 = .ok (.invokevirtual 230, 3)) ∧ (decode cX9_compare 55 = .ok (.ireturn, 1)) := by decide +kernel
theorem dX9_compare_30 : decode cX9_compare 30 = .ok (.aload_n 0, 1) := da9_dX9_compare_30.1
theorem dX9_compare_31 : decode cX9_compare 31 = .ok (.getfield 10, 3) := da9_dX9_compare_30.2.1
theorem dX9_compare_34 : decode cX9_compare 34 = .ok (.getfield 310, 3) := da9_dX9_compare_30.2.2.1
theorem dX9_compare_37 : decode cX9_compare 37 = .ok (.invokevirtual 313, 3) := da9_dX9_compare_30.2.2.2.1
theorem dX9_compare_40 : decode cX9_compare 40 = .ok (.aload_n 0, 1) := da9_dX9_compare_30.2.2.2.2.1
theorem dX9_compare_41 : decode cX9_compare 41 = .ok (.aload_n 0, 1) := da9_dX9_compare_30.2.2.2.2.2.1
theorem dX9_compare_42 : decode cX9_compare 42 = .ok (.getfield 50, 3) := da9_dX9_compare_30.2.2.2.2.2.2.1
theorem dX9_compare_45 : decode cX9_compare 45 = .ok (.invokevirtual 226, 3) := da9_dX9_compare_30.2.2.2.2.2.2.2.1
theorem dX9_compare_48 : decode cX9_compare 48 = .ok (.aload_n 0, 1) := da9_dX9_compare_30.2.2.2.2.2.2.2.2.1
theorem dX9_compare_49 : decode cX9_compare 49 = .ok (.getfield 80, 3) := da9_dX9_compare_30.2.2.2.2.2.2.2.2.2.1
theorem dX9_compare_52 : decode cX9_compare 52 = .ok (.invokevirtual 230, 3) := da9_dX9_compare_30.2.2.2.2.2.2.2.2.2.2.1
theorem dX9_compare_55 : decode cX9_compare 55 = .ok (.ireturn, 1) := da9_dX9_compare_30.2.2.2.2.2.2.2.2.2.2.2
end
section
theorem f9_wsX8_mostAlike_908 : (Cond.initialized RX9) ∈ wsX8_mostAlike := List.mem_cons_of_mem _ mvW9_4
theorem u9_wsX8_mostAlike_X8 : ∀ w ∈ u_ws RX8 TX8 5, w ∈ wsX8_mostAlike := fun w h => List.mem_cons_of_mem _ (vW9_wsX80 w h)
theorem f9_wsX8_mostAlike_910 : (Cond.fieldLink RX8 18 "TurnedFloors$Tower" "floors" "I") ∈ wsX8_mostAlike := List.mem_cons_of_mem _ mvW9_20
theorem f9_wsX8_mostAlike_911 : (Cond.methodLink RX8 88 Lib.Math.max.name) ∈ wsX8_mostAlike := List.mem_cons_of_mem _ mvW9_388
theorem f9_wsX8_mostAlike_912 : (Cond.static Lib.Math.max.name) ∈ wsX8_mostAlike := List.mem_cons_of_mem _ mvW9_122
theorem f9_wsX8_mostAlike_913 : (Cond.initialized "java/lang/Math") ∈ wsX8_mostAlike := List.mem_cons_of_mem _ mvW9_87
theorem f9_wsX8_mostAlike_914 : (Cond.code Lib.Math.max.name Lib.Math.max.code 2 (some .int)) ∈ wsX8_mostAlike := List.mem_cons_of_mem _ mvW9_123
theorem u9_wsX9_look_X9 : ∀ w ∈ u_ws RX9 TX9 19, w ∈ wsX9_look := fun w h => List.mem_cons_of_mem _ (vW9_wsX90 w h)
theorem u9_wsX9_look_X6 : ∀ w ∈ u_ws RX6 TX6 10, w ∈ wsX9_look := fun w h => List.mem_cons_of_mem _ (vW9_wsX60 w h)
theorem u9_wsX9_look_X8 : ∀ w ∈ u_ws RX8 TX8 5, w ∈ wsX9_look := fun w h => List.mem_cons_of_mem _ (vW9_wsX80 w h)
theorem f9_wsX9_look_918 : (Cond.fieldLink RX9 10 "TurnedFloors" "state" "LTurnedFloors$State;") ∈ wsX9_look := List.mem_cons_of_mem _ mvW9_0
theorem u9_wsX9_few_X9 : ∀ w ∈ u_ws RX9 TX9 19, w ∈ wsX9_few := fun w h => List.mem_cons_of_mem _ (vW9_wsX90 w h)
theorem f9_wsX9_few_920 : (Cond.fieldLink RX9 101 "TurnedFloors" "chances" "[J") ∈ wsX9_few := List.mem_cons_of_mem _ mvW9_634
theorem u9_wsX9_few_X6 : ∀ w ∈ u_ws RX6 TX6 10, w ∈ wsX9_few := fun w h => List.mem_cons_of_mem _ (vW9_wsX60 w h)
theorem f9_wsX9_few_922 : (Cond.fieldLink RX9 10 "TurnedFloors" "state" "LTurnedFloors$State;") ∈ wsX9_few := List.mem_cons_of_mem _ mvW9_0
theorem f9_wsX9_few_923 : (Cond.constantLong RX9 304 10) ∈ wsX9_few := List.mem_cons_of_mem _ mvW9_636
theorem f9_wsX9_few_924 : (Cond.constantLong RX9 291 (-1)) ∈ wsX9_few := List.mem_cons_of_mem _ mvW9_633
theorem f9_wsX9_few_925 : (Cond.constantLong RX9 299 1000000000000) ∈ wsX9_few := List.mem_cons_of_mem _ mvW9_635
theorem u9_wsX9_compare_X9 : ∀ w ∈ u_ws RX9 TX9 19, w ∈ wsX9_compare := fun w h => List.mem_cons_of_mem _ (vW9_wsX90 w h)
theorem u9_wsX9_compare_X6 : ∀ w ∈ u_ws RX6 TX6 10, w ∈ wsX9_compare := fun w h => List.mem_cons_of_mem _ (vW9_wsX60 w h)
theorem f9_wsX9_compare_928 : (Cond.fieldLink RX9 50 "TurnedFloors" "judge" "LTurnedFloors$Judge;") ∈ wsX9_compare := List.mem_cons_of_mem _ mvW9_45
theorem f9_wsX9_compare_929 : (Cond.fieldLink RX9 10 "TurnedFloors" "state" "LTurnedFloors$State;") ∈ wsX9_compare := List.mem_cons_of_mem _ mvW9_0
theorem f9_wsX9_compare_930 : (Cond.fieldLink RX9 80 "TurnedFloors" "paper" "LTurnedFloors$Paper;") ∈ wsX9_compare := List.mem_cons_of_mem _ mvW9_453
set_option maxHeartbeats 4000000 in
set_option maxRecDepth 100000 in
theorem WX8_mostAlike_s2_56 {p : Program} {l : Launch} {e : Env} {s : State} {m : MethodId} {args : Array Value} {below : List Frame} {meth : Method} {c : Code} {D : va_G} {ty : Nat → ClassId} {eo : Nat → Nat} {A : Nat → Prop} {ad : Nat → Nat} {o1 : Int32} {o2 : dK} (C : dc_C p s m args meth c cX8_mostAlike (some .int) 7 RX8 wsX8_mostAlike D ty eo A) {k5 : dK → Int32 → Int32 → Int32 → Int32 → Option (Int32 × dK)} {k18 : dK → Int32 → Int32 → Int32 → Int32 → Int32 → Int32 → Option (Int32 × dK)} (hk5 : ∀ (q : dK) (x1 : Int32) (x2 : Int32) (x3 : Int32) (x4 : Int32) (H : Heap) (locs : List Loc) (ls : Array Slot), k5 q x1 x2 x3 x4 = some (o1, o2) → va_P D vwCl (wF ty ad q) H → va_D A (wF ty ad q) → va_S A s.heap H locs → lv_has ls 7 [(0, .ref (ad 2)), (1, .int x1), (2, .int x2), (3, .int x3), (4, .int x4)] → W p l e ({ frames := 2, cells := 0, slots := 0, locals := 44 } : Room) s m args below meth c H locs 0 0 (MQ below (va_Qi (fun (r : Int32) (u : va_W) => o1 = r ∧ wF ty ad o2 = u) (kz_B D ty A) A) args s 0 0 A) (F0 m 5 ls [])) (hk18 : ∀ (q : dK) (x1 : Int32) (x2 : Int32) (x3 : Int32) (x4 : Int32) (x5 : Int32) (x6 : Int32) (H : Heap) (locs : List Loc) (ls : Array Slot), k18 q x1 x2 x3 x4 x5 x6 = some (o1, o2) → va_P D vwCl (wF ty ad q) H → va_D A (wF ty ad q) → va_S A s.heap H locs → lv_has ls 7 [(0, .ref (ad 2)), (1, .int x1), (2, .int x2), (3, .int x3), (4, .int x4), (5, .int x5), (6, .int x6)] → W p l e ({ frames := 2, cells := 0, slots := 0, locals := 44 } : Room) s m args below meth c H locs 0 0 (MQ below (va_Qi (fun (r : Int32) (u : va_W) => o1 = r ∧ wF ty ad o2 = u) (kz_B D ty A) A) args s 0 0 A) (F0 m 18 ls [])) (q : dK) (x1 : Int32) (x2 : Int32) (x3 : Int32) (x4 : Int32) (x6 : Int32) (y0 : Int32) (y1 : Int32) (H : Heap) (locs : List Loc) (ls : Array Slot) (h : zX8_mostAlike_s2_56 k5 k18 q x1 x2 x3 x4 x6 y0 y1 = some (o1, o2)) (hP : va_P D vwCl (wF ty ad q) H) (hD : va_D A (wF ty ad q)) (hS : va_S A s.heap H locs) (hl : lv_has ls 7 [(0, .ref (ad 2)), (1, .int x1), (2, .int x2), (3, .int x3), (4, .int x4), (6, .int x6)]) : W p l e ({ frames := 2, cells := 0, slots := 0, locals := 44 } : Room) s m args below meth c H locs 0 0 (MQ below (va_Qi (fun (r : Int32) (u : va_W) => o1 = r ∧ wF ty ad o2 = u) (kz_B D ty A) A) args s 0 0 A) (F0 m 56 ls [.int y0, .int y1]) := by
  have C0 := C
  obtain ⟨hx, hb, hr, hts, hown, hlocks, hml, hK, hN, hE, hA⟩ := C
  unfold zX8_mostAlike_s2_56 at h
  obtain ⟨r1, h2, h⟩ := dV_some h
  refine dw_ks (va_runSN (As := [.int y0]) (rest := [.int y1]) ⟨hx, hb, hml, hown, hts⟩ (qX9_bit l D ty eo _ y0 _ h2) ⟨va_cnB 1 hts gX8_mostAlike_X9_bit_n79 rfl rfl rfl (hN.1 _ (by decide +kernel : (.methodLinkNest "TurnedFloors$Tower" 79 yX9_bit "TurnedFloors" : Cond) ∈ kzN1)) (hts (.initialized RX9) f9_wsX8_mostAlike_908) (by decide +kernel) ⟨Nat.le_of_ble_eq_true rfl, Nat.le_of_ble_eq_true rfl⟩, hts (.static yX9_bit) (by decide +kernel), trivial⟩ (pvS_0 hK hN hE hP hD hS hA) rfl rfl hl.1 rfl (lv_room (Nat.le_of_ble_eq_true rfl)) dX8_mostAlike_56 ⟨Nat.le_of_ble_eq_true rfl, Nat.le_of_ble_eq_true rfl⟩) hP hD hS hA (fun _ _ h9 => h9.2.symm) (fun r9 u9 H locs hw hp hd hs => ?_)
  obtain ⟨rfl, -⟩ := hw
  clear hP hD hS
  have hP := hp; have hD := hd; have hS := hs; clear hp hd hs
  refine lv_iadd hx hb dX8_mostAlike_59 ?_
  refine lv_istore (lv' := [(5, .int (y1 + r1)), (0, .ref (ad 2)), (1, .int x1), (2, .int x2), (3, .int x3), (4, .int x4), (6, .int x6)]) hx hb dX8_mostAlike_60 hl (by decide) rfl (fun ls hl => ?_)
  refine lv_iinc (v := x6 + 1) (lv' := [(6, .int (x6 + 1)), (5, .int (y1 + r1)), (0, .ref (ad 2)), (1, .int x1), (2, .int x2), (3, .int x3), (4, .int x4)]) hx hb dX8_mostAlike_62 hl (k := 6) rfl rfl (by decide) rfl (fun ls hl => ?_)
  refine lv_goto (tgt := 18) hx hb dX8_mostAlike_65 (by decide) ?_
  exact hk18 _ _ _ _ _ _ _ _ _ _ h hP hD hS (lv_sub hl [2, 3, 4, 5, 6, 1, 0] rfl)
set_option maxHeartbeats 4000000 in
set_option maxRecDepth 100000 in
theorem WX8_mostAlike_s2_55 {p : Program} {l : Launch} {e : Env} {s : State} {m : MethodId} {args : Array Value} {below : List Frame} {meth : Method} {c : Code} {D : va_G} {ty : Nat → ClassId} {eo : Nat → Nat} {A : Nat → Prop} {ad : Nat → Nat} {o1 : Int32} {o2 : dK} (C : dc_C p s m args meth c cX8_mostAlike (some .int) 7 RX8 wsX8_mostAlike D ty eo A) {k5 : dK → Int32 → Int32 → Int32 → Int32 → Option (Int32 × dK)} {k18 : dK → Int32 → Int32 → Int32 → Int32 → Int32 → Int32 → Option (Int32 × dK)} (hk5 : ∀ (q : dK) (x1 : Int32) (x2 : Int32) (x3 : Int32) (x4 : Int32) (H : Heap) (locs : List Loc) (ls : Array Slot), k5 q x1 x2 x3 x4 = some (o1, o2) → va_P D vwCl (wF ty ad q) H → va_D A (wF ty ad q) → va_S A s.heap H locs → lv_has ls 7 [(0, .ref (ad 2)), (1, .int x1), (2, .int x2), (3, .int x3), (4, .int x4)] → W p l e ({ frames := 2, cells := 0, slots := 0, locals := 44 } : Room) s m args below meth c H locs 0 0 (MQ below (va_Qi (fun (r : Int32) (u : va_W) => o1 = r ∧ wF ty ad o2 = u) (kz_B D ty A) A) args s 0 0 A) (F0 m 5 ls [])) (hk18 : ∀ (q : dK) (x1 : Int32) (x2 : Int32) (x3 : Int32) (x4 : Int32) (x5 : Int32) (x6 : Int32) (H : Heap) (locs : List Loc) (ls : Array Slot), k18 q x1 x2 x3 x4 x5 x6 = some (o1, o2) → va_P D vwCl (wF ty ad q) H → va_D A (wF ty ad q) → va_S A s.heap H locs → lv_has ls 7 [(0, .ref (ad 2)), (1, .int x1), (2, .int x2), (3, .int x3), (4, .int x4), (5, .int x5), (6, .int x6)] → W p l e ({ frames := 2, cells := 0, slots := 0, locals := 44 } : Room) s m args below meth c H locs 0 0 (MQ below (va_Qi (fun (r : Int32) (u : va_W) => o1 = r ∧ wF ty ad o2 = u) (kz_B D ty A) A) args s 0 0 A) (F0 m 18 ls [])) (q : dK) (x1 : Int32) (x2 : Int32) (x3 : Int32) (x4 : Int32) (x6 : Int32) (y0 : Int32) (H : Heap) (locs : List Loc) (ls : Array Slot) (h : zX8_mostAlike_s2_55 k5 k18 q x1 x2 x3 x4 x6 y0 = some (o1, o2)) (hP : va_P D vwCl (wF ty ad q) H) (hD : va_D A (wF ty ad q)) (hS : va_S A s.heap H locs) (hl : lv_has ls 7 [(0, .ref (ad 2)), (1, .int x1), (2, .int x2), (3, .int x3), (4, .int x4), (6, .int x6)]) : W p l e ({ frames := 2, cells := 0, slots := 0, locals := 44 } : Room) s m args below meth c H locs 0 0 (MQ below (va_Qi (fun (r : Int32) (u : va_W) => o1 = r ∧ wF ty ad o2 = u) (kz_B D ty A) A) args s 0 0 A) (F0 m 55 ls [.int y0]) := by
  have C0 := C
  obtain ⟨hx, hb, hr, hts, hown, hlocks, hml, hK, hN, hE, hA⟩ := C
  unfold zX8_mostAlike_s2_55 at h
  refine lv_iconst (v := 0) hx hb dX8_mostAlike_55 (by decide) ?_
  exact WX8_mostAlike_s2_56 C0 hk5 hk18 _ _ _ _ _ _ _ _ _ _ _ h hP hD hS (lv_sub hl [0, 1, 2, 3, 4, 5] rfl)
set_option maxHeartbeats 4000000 in
set_option maxRecDepth 100000 in
theorem WX8_mostAlike_s2_18b {p : Program} {l : Launch} {e : Env} {s : State} {m : MethodId} {args : Array Value} {below : List Frame} {meth : Method} {c : Code} {D : va_G} {ty : Nat → ClassId} {eo : Nat → Nat} {A : Nat → Prop} {ad : Nat → Nat} {o1 : Int32} {o2 : dK} (C : dc_C p s m args meth c cX8_mostAlike (some .int) 7 RX8 wsX8_mostAlike D ty eo A) {k5 : dK → Int32 → Int32 → Int32 → Int32 → Option (Int32 × dK)} {k18 : dK → Int32 → Int32 → Int32 → Int32 → Int32 → Int32 → Option (Int32 × dK)} (hk5 : ∀ (q : dK) (x1 : Int32) (x2 : Int32) (x3 : Int32) (x4 : Int32) (H : Heap) (locs : List Loc) (ls : Array Slot), k5 q x1 x2 x3 x4 = some (o1, o2) → va_P D vwCl (wF ty ad q) H → va_D A (wF ty ad q) → va_S A s.heap H locs → lv_has ls 7 [(0, .ref (ad 2)), (1, .int x1), (2, .int x2), (3, .int x3), (4, .int x4)] → W p l e ({ frames := 2, cells := 0, slots := 0, locals := 44 } : Room) s m args below meth c H locs 0 0 (MQ below (va_Qi (fun (r : Int32) (u : va_W) => o1 = r ∧ wF ty ad o2 = u) (kz_B D ty A) A) args s 0 0 A) (F0 m 5 ls [])) (hk18 : ∀ (q : dK) (x1 : Int32) (x2 : Int32) (x3 : Int32) (x4 : Int32) (x5 : Int32) (x6 : Int32) (H : Heap) (locs : List Loc) (ls : Array Slot), k18 q x1 x2 x3 x4 x5 x6 = some (o1, o2) → va_P D vwCl (wF ty ad q) H → va_D A (wF ty ad q) → va_S A s.heap H locs → lv_has ls 7 [(0, .ref (ad 2)), (1, .int x1), (2, .int x2), (3, .int x3), (4, .int x4), (5, .int x5), (6, .int x6)] → W p l e ({ frames := 2, cells := 0, slots := 0, locals := 44 } : Room) s m args below meth c H locs 0 0 (MQ below (va_Qi (fun (r : Int32) (u : va_W) => o1 = r ∧ wF ty ad o2 = u) (kz_B D ty A) A) args s 0 0 A) (F0 m 18 ls [])) (q : dK) (x1 : Int32) (x2 : Int32) (x3 : Int32) (x4 : Int32) (x5 : Int32) (x6 : Int32) (H : Heap) (locs : List Loc) (ls : Array Slot) (h : zX8_mostAlike_s2_18b k5 k18 q x1 x2 x3 x4 x5 x6 = some (o1, o2)) (hP : va_P D vwCl (wF ty ad q) H) (hD : va_D A (wF ty ad q)) (hS : va_S A s.heap H locs) (hl : lv_has ls 7 [(0, .ref (ad 2)), (1, .int x1), (2, .int x2), (3, .int x3), (4, .int x4), (5, .int x5), (6, .int x6)]) : W p l e ({ frames := 2, cells := 0, slots := 0, locals := 44 } : Room) s m args below meth c H locs 0 0 (MQ below (va_Qi (fun (r : Int32) (u : va_W) => o1 = r ∧ wF ty ad o2 = u) (kz_B D ty A) A) args s 0 0 A) (F0 m 18 ls []) := by
  have C0 := C
  obtain ⟨hx, hb, hr, hts, hown, hlocks, hml, hK, hN, hE, hA⟩ := C
  unfold zX8_mostAlike_s2_18b at h
  refine lv_iload hx hb dX8_mostAlike_18 (lv_at hl 6 rfl) ?_
  refine lv_aload_n hx hb dX8_mostAlike_20 rfl (lv_at hl 0 rfl) ?_
  refine va_get (D := D) (ci := 8) (v := .int (q.1 2 2)) (C := RX8) (T := TX8) (N := 5) hx hb hts u9_wsX8_mostAlike_X8 hown hK hP 2 rfl rfl 2 (by decide) (hts (.fieldLink RX8 18 "TurnedFloors$Tower" "floors" "I") f9_wsX8_mostAlike_910) (fun _ h9 => h9) rfl dX8_mostAlike_21 ?_
  refine lv_icmp_gt (tgt := 68) hx hb dX8_mostAlike_24 (by decide) (fun c9 => ?_) (fun c9 => ?_)
  · rw [if_pos c9] at h
    refine lv_iload_n hx hb dX8_mostAlike_68 rfl (lv_at hl 3 rfl) ?_
    refine lv_iload hx hb dX8_mostAlike_69 (lv_at hl 5 rfl) ?_
    refine va_mmax hx hb (hml.trans hl.1.symm) hown (hts (.methodLink RX8 88 Lib.Math.max.name) f9_wsX8_mostAlike_911) (hts (.static Lib.Math.max.name) f9_wsX8_mostAlike_912) (hts (.initialized "java/lang/Math") f9_wsX8_mostAlike_913) (hts (.code Lib.Math.max.name Lib.Math.max.code 2 (some .int)) f9_wsX8_mostAlike_914) (Nat.le_of_ble_eq_true rfl) (Nat.le_of_ble_eq_true rfl) (Nat.le_of_ble_eq_true rfl) (Nat.le_of_ble_eq_true rfl) dX8_mostAlike_71 ?_
    refine kz_topi (mxI x3 x5) rfl ?_
    refine lv_istore_n (lv' := [(3, .int (mxI x3 x5)), (0, .ref (ad 2)), (1, .int x1), (2, .int x2), (4, .int x4), (5, .int x5), (6, .int x6)]) hx hb dX8_mostAlike_74 rfl hl (by decide) rfl (fun ls hl => ?_)
    refine lv_iinc (v := x4 + 1) (lv' := [(4, .int (x4 + 1)), (3, .int (mxI x3 x5)), (0, .ref (ad 2)), (1, .int x1), (2, .int x2), (5, .int x5), (6, .int x6)]) hx hb dX8_mostAlike_75 hl (k := 4) rfl rfl (by decide) rfl (fun ls hl => ?_)
    refine lv_goto (tgt := 5) hx hb dX8_mostAlike_78 (by decide) ?_
    exact hk5 _ _ _ _ _ _ _ _ h hP hD hS (lv_sub hl [2, 3, 4, 1, 0] rfl)
  · rw [if_neg c9] at h
    refine lv_iload hx hb dX8_mostAlike_27 (lv_at hl 5 rfl) ?_
    refine lv_iload_n hx hb dX8_mostAlike_29 rfl (lv_at hl 1 rfl) ?_
    refine lv_iload hx hb dX8_mostAlike_30 (lv_at hl 6 rfl) ?_
    refine lv_ishr hx hb dX8_mostAlike_32 ?_
    refine lv_iconst (v := 1) hx hb dX8_mostAlike_33 (by decide) ?_
    refine lv_iand hx hb dX8_mostAlike_34 ?_
    refine lv_iconst (v := 1) hx hb dX8_mostAlike_35 (by decide) ?_
    refine lv_icmp_ne (tgt := 55) hx hb dX8_mostAlike_36 (by decide) (fun c9 => ?_) (fun c9 => ?_)
    · rw [if_neg c9] at h
      exact WX8_mostAlike_s2_55 C0 hk5 hk18 _ _ _ _ _ _ _ _ _ _ h hP hD hS (lv_sub hl [0, 1, 2, 3, 4, 6] rfl)
    · rw [if_pos c9] at h
      refine lv_aload_n hx hb dX8_mostAlike_39 rfl (lv_at hl 0 rfl) ?_
      refine lv_iload hx hb dX8_mostAlike_40 (lv_at hl 6 rfl) ?_
      refine lv_iload_n hx hb dX8_mostAlike_42 rfl (lv_at hl 2 rfl) ?_
      obtain ⟨r1, q3, h2, h⟩ := dB_some h
      refine dw_ki (va_runV (As := [.int x6, .int x2]) (rest := [.int x5]) ⟨hx, hb, hml, hown, hts⟩ (qX8_rankBehindTurn_s2 l D ty eo _ ad q x6 x2 r1 q3 h2) (cwV 2 hts gX8_mostAlike_X8_rankBehindTurn rfl rfl rfl hd_X8_rankBehindTurn_v ⟨Nat.le_of_ble_eq_true rfl, Nat.le_of_ble_eq_true rfl⟩) (pvF_8_2 hK hN hE hP hD hS hA) rfl rfl hl.1 rfl (lv_room (Nat.le_of_ble_eq_true rfl)) dX8_mostAlike_43 ⟨Nat.le_of_ble_eq_true rfl, Nat.le_of_ble_eq_true rfl⟩) hD hS hA (fun r9 u9 H locs hw hp hd hs => ?_)
      clear hP hD hS
      obtain ⟨rfl, rfl⟩ := hw
      have hP := hp; have hD := hd; have hS := hs; clear hp hd hs
      refine lv_iload hx hb dX8_mostAlike_46 (lv_at hl 4 rfl) ?_
      refine lv_icmp_ne (tgt := 55) hx hb dX8_mostAlike_48 (by decide) (fun c9 => ?_) (fun c9 => ?_)
      · rw [if_neg c9] at h
        exact WX8_mostAlike_s2_55 C0 hk5 hk18 _ _ _ _ _ _ _ _ _ _ h hP hD hS (lv_sub hl [0, 1, 2, 3, 4, 6] rfl)
      · rw [if_pos c9] at h
        refine lv_iconst (v := 1) hx hb dX8_mostAlike_51 (by decide) ?_
        refine lv_goto (tgt := 56) hx hb dX8_mostAlike_52 (by decide) ?_
        exact WX8_mostAlike_s2_56 C0 hk5 hk18 _ _ _ _ _ _ _ _ _ _ _ h hP hD hS (lv_sub hl [0, 1, 2, 3, 4, 6] rfl)
set_option maxHeartbeats 4000000 in
set_option maxRecDepth 100000 in
theorem WX8_mostAlike_s2_18 {p : Program} {l : Launch} {e : Env} {s : State} {m : MethodId} {args : Array Value} {below : List Frame} {meth : Method} {c : Code} {D : va_G} {ty : Nat → ClassId} {eo : Nat → Nat} {A : Nat → Prop} {ad : Nat → Nat} {o1 : Int32} {o2 : dK} (C : dc_C p s m args meth c cX8_mostAlike (some .int) 7 RX8 wsX8_mostAlike D ty eo A) {k5 : dK → Int32 → Int32 → Int32 → Int32 → Option (Int32 × dK)} (hk5 : ∀ (q : dK) (x1 : Int32) (x2 : Int32) (x3 : Int32) (x4 : Int32) (H : Heap) (locs : List Loc) (ls : Array Slot), k5 q x1 x2 x3 x4 = some (o1, o2) → va_P D vwCl (wF ty ad q) H → va_D A (wF ty ad q) → va_S A s.heap H locs → lv_has ls 7 [(0, .ref (ad 2)), (1, .int x1), (2, .int x2), (3, .int x3), (4, .int x4)] → W p l e ({ frames := 2, cells := 0, slots := 0, locals := 44 } : Room) s m args below meth c H locs 0 0 (MQ below (va_Qi (fun (r : Int32) (u : va_W) => o1 = r ∧ wF ty ad o2 = u) (kz_B D ty A) A) args s 0 0 A) (F0 m 5 ls [])) (n : Nat) (q : dK) (x1 : Int32) (x2 : Int32) (x3 : Int32) (x4 : Int32) (x5 : Int32) (x6 : Int32) (H : Heap) (locs : List Loc) (ls : Array Slot) (h : zX8_mostAlike_s2_18 k5 n q x1 x2 x3 x4 x5 x6 = some (o1, o2)) (hP : va_P D vwCl (wF ty ad q) H) (hD : va_D A (wF ty ad q)) (hS : va_S A s.heap H locs) (hl : lv_has ls 7 [(0, .ref (ad 2)), (1, .int x1), (2, .int x2), (3, .int x3), (4, .int x4), (5, .int x5), (6, .int x6)]) : W p l e ({ frames := 2, cells := 0, slots := 0, locals := 44 } : Room) s m args below meth c H locs 0 0 (MQ below (va_Qi (fun (r : Int32) (u : va_W) => o1 = r ∧ wF ty ad o2 = u) (kz_B D ty A) A) args s 0 0 A) (F0 m 18 ls []) := by
  exact dFix_W (F := fun k (a : dK × Int32 × Int32 × Int32 × Int32 × Int32 × Int32) => zX8_mostAlike_s2_18b k5 (fun q x1 x2 x3 x4 x5 x6 => k (q, x1, x2, x3, x4, x5, x6)) a.1 a.2.1 a.2.2.1 a.2.2.2.1 a.2.2.2.2.1 a.2.2.2.2.2.1 a.2.2.2.2.2.2) (o := (o1, o2)) (P := fun (a : dK × Int32 × Int32 × Int32 × Int32 × Int32 × Int32) H locs ls => va_P D vwCl (wF ty ad a.1) H ∧ va_D A (wF ty ad a.1) ∧ va_S A s.heap H locs ∧ lv_has ls 7 [(0, .ref (ad 2)), (1, .int a.2.1), (2, .int a.2.2.1), (3, .int a.2.2.2.1), (4, .int a.2.2.2.2.1), (5, .int a.2.2.2.2.2.1), (6, .int a.2.2.2.2.2.2)]) (G := fun H locs ls => W p l e ({ frames := 2, cells := 0, slots := 0, locals := 44 } : Room) s m args below meth c H locs 0 0 (MQ below (va_Qi (fun (r : Int32) (u : va_W) => o1 = r ∧ wF ty ad o2 = u) (kz_B D ty A) A) args s 0 0 A) (F0 m 18 ls []))
    (fun k hk a H locs ls h hp => WX8_mostAlike_s2_18b C hk5 (fun q x1 x2 x3 x4 x5 x6 H locs ls h h1 h2 h3 h4 => hk (q, x1, x2, x3, x4, x5, x6) H locs ls h ⟨h1, h2, h3, h4⟩) a.1 a.2.1 a.2.2.1 a.2.2.2.1 a.2.2.2.2.1 a.2.2.2.2.2.1 a.2.2.2.2.2.2 H locs ls h hp.1 hp.2.1 hp.2.2.1 hp.2.2.2) n (q, x1, x2, x3, x4, x5, x6) H locs ls h ⟨hP, hD, hS, hl⟩
set_option maxHeartbeats 4000000 in
set_option maxRecDepth 100000 in
theorem WX8_mostAlike_s2_5b {p : Program} {l : Launch} {e : Env} {s : State} {m : MethodId} {args : Array Value} {below : List Frame} {meth : Method} {c : Code} {D : va_G} {ty : Nat → ClassId} {eo : Nat → Nat} {A : Nat → Prop} {ad : Nat → Nat} {o1 : Int32} {o2 : dK} (C : dc_C p s m args meth c cX8_mostAlike (some .int) 7 RX8 wsX8_mostAlike D ty eo A) {k5 : dK → Int32 → Int32 → Int32 → Int32 → Option (Int32 × dK)} (hk5 : ∀ (q : dK) (x1 : Int32) (x2 : Int32) (x3 : Int32) (x4 : Int32) (H : Heap) (locs : List Loc) (ls : Array Slot), k5 q x1 x2 x3 x4 = some (o1, o2) → va_P D vwCl (wF ty ad q) H → va_D A (wF ty ad q) → va_S A s.heap H locs → lv_has ls 7 [(0, .ref (ad 2)), (1, .int x1), (2, .int x2), (3, .int x3), (4, .int x4)] → W p l e ({ frames := 2, cells := 0, slots := 0, locals := 44 } : Room) s m args below meth c H locs 0 0 (MQ below (va_Qi (fun (r : Int32) (u : va_W) => o1 = r ∧ wF ty ad o2 = u) (kz_B D ty A) A) args s 0 0 A) (F0 m 5 ls [])) (q : dK) (x1 : Int32) (x2 : Int32) (x3 : Int32) (x4 : Int32) (H : Heap) (locs : List Loc) (ls : Array Slot) (h : zX8_mostAlike_s2_5b k5 q x1 x2 x3 x4 = some (o1, o2)) (hP : va_P D vwCl (wF ty ad q) H) (hD : va_D A (wF ty ad q)) (hS : va_S A s.heap H locs) (hl : lv_has ls 7 [(0, .ref (ad 2)), (1, .int x1), (2, .int x2), (3, .int x3), (4, .int x4)]) : W p l e ({ frames := 2, cells := 0, slots := 0, locals := 44 } : Room) s m args below meth c H locs 0 0 (MQ below (va_Qi (fun (r : Int32) (u : va_W) => o1 = r ∧ wF ty ad o2 = u) (kz_B D ty A) A) args s 0 0 A) (F0 m 5 ls []) := by
  have C0 := C
  obtain ⟨hx, hb, hr, hts, hown, hlocks, hml, hK, hN, hE, hA⟩ := C
  unfold zX8_mostAlike_s2_5b at h
  refine lv_iload hx hb dX8_mostAlike_5 (lv_at hl 4 rfl) ?_
  refine lv_bipush (v := 6) hx hb dX8_mostAlike_7 (by decide) ?_
  refine lv_icmp_ge (tgt := 81) hx hb dX8_mostAlike_9 (by decide) (fun c9 => ?_) (fun c9 => ?_)
  · rw [if_pos c9] at h
    refine lv_iload_n hx hb dX8_mostAlike_81 rfl (lv_at hl 3 rfl) ?_
    cases h
    exact kz_iret hx hb hr hlocks hP hK hD hS dX8_mostAlike_82 ⟨rfl, rfl⟩
  · rw [if_neg c9] at h
    refine lv_iconst (v := 0) hx hb dX8_mostAlike_12 (by decide) ?_
    refine lv_istore (lv' := [(5, .int 0), (0, .ref (ad 2)), (1, .int x1), (2, .int x2), (3, .int x3), (4, .int x4)]) hx hb dX8_mostAlike_13 hl (by decide) rfl (fun ls hl => ?_)
    refine lv_iconst (v := 1) hx hb dX8_mostAlike_15 (by decide) ?_
    refine lv_istore (lv' := [(6, .int 1), (5, .int 0), (0, .ref (ad 2)), (1, .int x1), (2, .int x2), (3, .int x3), (4, .int x4)]) hx hb dX8_mostAlike_16 hl (by decide) rfl (fun ls hl => ?_)
    exact WX8_mostAlike_s2_18 C0 hk5 _ _ _ _ _ _ _ _ _ _ _ h hP hD hS (lv_sub hl [2, 3, 4, 5, 6, 1, 0] rfl)
set_option maxHeartbeats 4000000 in
set_option maxRecDepth 100000 in
theorem WX8_mostAlike_s2_5 {p : Program} {l : Launch} {e : Env} {s : State} {m : MethodId} {args : Array Value} {below : List Frame} {meth : Method} {c : Code} {D : va_G} {ty : Nat → ClassId} {eo : Nat → Nat} {A : Nat → Prop} {ad : Nat → Nat} {o1 : Int32} {o2 : dK} (C : dc_C p s m args meth c cX8_mostAlike (some .int) 7 RX8 wsX8_mostAlike D ty eo A)   (n : Nat) (q : dK) (x1 : Int32) (x2 : Int32) (x3 : Int32) (x4 : Int32) (H : Heap) (locs : List Loc) (ls : Array Slot) (h : zX8_mostAlike_s2_5  n q x1 x2 x3 x4 = some (o1, o2)) (hP : va_P D vwCl (wF ty ad q) H) (hD : va_D A (wF ty ad q)) (hS : va_S A s.heap H locs) (hl : lv_has ls 7 [(0, .ref (ad 2)), (1, .int x1), (2, .int x2), (3, .int x3), (4, .int x4)]) : W p l e ({ frames := 2, cells := 0, slots := 0, locals := 44 } : Room) s m args below meth c H locs 0 0 (MQ below (va_Qi (fun (r : Int32) (u : va_W) => o1 = r ∧ wF ty ad o2 = u) (kz_B D ty A) A) args s 0 0 A) (F0 m 5 ls []) := by
  exact dFix_W (F := fun k (a : dK × Int32 × Int32 × Int32 × Int32) => zX8_mostAlike_s2_5b  (fun q x1 x2 x3 x4 => k (q, x1, x2, x3, x4)) a.1 a.2.1 a.2.2.1 a.2.2.2.1 a.2.2.2.2) (o := (o1, o2)) (P := fun (a : dK × Int32 × Int32 × Int32 × Int32) H locs ls => va_P D vwCl (wF ty ad a.1) H ∧ va_D A (wF ty ad a.1) ∧ va_S A s.heap H locs ∧ lv_has ls 7 [(0, .ref (ad 2)), (1, .int a.2.1), (2, .int a.2.2.1), (3, .int a.2.2.2.1), (4, .int a.2.2.2.2)]) (G := fun H locs ls => W p l e ({ frames := 2, cells := 0, slots := 0, locals := 44 } : Room) s m args below meth c H locs 0 0 (MQ below (va_Qi (fun (r : Int32) (u : va_W) => o1 = r ∧ wF ty ad o2 = u) (kz_B D ty A) A) args s 0 0 A) (F0 m 5 ls []))
    (fun k hk a H locs ls h hp => WX8_mostAlike_s2_5b C  (fun q x1 x2 x3 x4 H locs ls h h1 h2 h3 h4 => hk (q, x1, x2, x3, x4) H locs ls h ⟨h1, h2, h3, h4⟩) a.1 a.2.1 a.2.2.1 a.2.2.2.1 a.2.2.2.2 H locs ls h hp.1 hp.2.1 hp.2.2.1 hp.2.2.2) n (q, x1, x2, x3, x4) H locs ls h ⟨hP, hD, hS, hl⟩
set_option maxHeartbeats 4000000 in
set_option maxRecDepth 100000 in
theorem qX8_mostAlike_s2 (l : Launch) (D : va_G) (ty : Nat → ClassId) (eo : Nat → Nat) (sz : Nat) (ad : Nat → Nat) (q : dK) (p1 : Int32) (p2 : Int32) (o1 : Int32) (o2 : dK) (h : zX8_mostAlike_s2 q p1 p2 = some (o1, o2)) : Met l yX8_mostAlike wsX8_mostAlike ({ frames := 2, cells := 0, slots := 0, locals := 44 } : Room) (va_Pc [.ref (ad 2), .int p1, .int p2] (kz_pre D ty eo (wF ty ad q) sz)) (va_Qi (fun (r : Int32) (u : va_W) => o1 = r ∧ wF ty ad o2 = u) (kz_B D ty (va_A (wF ty ad q) sz)) (va_A (wF ty ad q) sz)) 0 0 (va_A (wF ty ad q) sz) := by
  refine Met.ofW (cc := cX8_mostAlike) (maxL := 7) (ret := (some .int)) (by decide) rfl ?_
  intro p e s m args below meth c s₁ B hml hv
  obtain ⟨rfl, hsz, hP, hK, hD0, hN, hE⟩ := hv
  have hx := B.exec
  have hb := B.bytes
  have hr := B.returns
  have hts := atoms_spec (ws := wsX8_mostAlike) B.pre
  have hown : s.vm.findClass RX8 = some m.cls := findClass_of_methodNamed B.named
  have hlocks := B.notSynchronized
  subst hsz
  have hD := hD0.self (sz := s.heap.size)
  generalize hAe : va_A (wF ty ad q) s.heap.size = A at hD hE ⊢
  have hA : ∀ q : Nat, s.heap.size ≤ q → A q := fun q h => by rw [← hAe]; exact Or.inr h
  clear hAe
  have hS : va_S A s.heap s.heap [] := va_S.rf
  have hl := lv_entry ([.ref (ad 2), .int p1, .int p2]) (n := 7) (Nat.le_of_ble_eq_true rfl)
  rw [lg_entry_eq]
  generalize (lg_sl ([.ref (ad 2), .int p1, .int p2]) ++ List.replicate (7 - (lg_sl ([.ref (ad 2), .int p1, .int p2])).length) Slot.unset).toArray = ls at hl ⊢
  have hl : lv_has ls 7 [(0, .ref (ad 2)), (1, .int p1), (2, .int p2)] := hl
  have C : dc_C p s m _ meth c cX8_mostAlike (some .int) 7 RX8 wsX8_mostAlike D ty eo A := ⟨hx, hb, hr, hts, hown, hlocks, hml, hK, hN, hE, hA⟩
  unfold zX8_mostAlike_s2 at h
  refine lv_iconst (v := 0) hx hb dX8_mostAlike_0 (by decide) ?_
  refine lv_istore_n (lv' := [(3, .int 0), (0, .ref (ad 2)), (1, .int p1), (2, .int p2)]) hx hb dX8_mostAlike_1 rfl hl (by decide) rfl (fun ls hl => ?_)
  refine lv_iconst (v := 0) hx hb dX8_mostAlike_2 (by decide) ?_
  refine lv_istore (lv' := [(4, .int 0), (3, .int 0), (0, .ref (ad 2)), (1, .int p1), (2, .int p2)]) hx hb dX8_mostAlike_3 hl (by decide) rfl (fun ls hl => ?_)
  exact WX8_mostAlike_s2_5 C  _ _ _ _ _ _ _ _ _ h hP hD hS (lv_sub hl [2, 3, 4, 1, 0] rfl)

set_option maxHeartbeats 4000000 in
set_option maxRecDepth 100000 in
theorem WX9_look_s0_97 {p : Program} {l : Launch} {e : Env} {s : State} {m : MethodId} {args : Array Value} {below : List Frame} {meth : Method} {c : Code} {D : va_G} {ty : Nat → ClassId} {eo : Nat → Nat} {A : Nat → Prop} {ad : Nat → Nat} {o1 : Int32} {o2 : dK} (C : dc_C p s m args meth c cX9_look (some .int) 7 RX9 wsX9_look D ty eo A)   (q : dK) (y0 : Int32) (H : Heap) (locs : List Loc) (ls : Array Slot) (h : zX9_look_s0_97  q y0 = some (o1, o2)) (hP : va_P D vwCl (wF ty ad q) H) (hD : va_D A (wF ty ad q)) (hS : va_S A s.heap H locs) (hl : lv_has ls 7 []) : W p l e ({ frames := 5, cells := 0, slots := 0, locals := 126 } : Room) s m args below meth c H locs 0 0 (MQ below (va_Qi (fun (r : Int32) (u : va_W) => o1 = r ∧ wF ty ad o2 = u) (kz_B D ty A) A) args s 0 0 A) (F0 m 97 ls [.int y0]) := by
  have C0 := C
  obtain ⟨hx, hb, hr, hts, hown, hlocks, hml, hK, hN, hE, hA⟩ := C
  unfold zX9_look_s0_97 at h
  cases h
  exact kz_iret hx hb hr hlocks hP hK hD hS dX9_look_97 ⟨rfl, rfl⟩
set_option maxHeartbeats 4000000 in
set_option maxRecDepth 100000 in
theorem WX9_look_s0_81 {p : Program} {l : Launch} {e : Env} {s : State} {m : MethodId} {args : Array Value} {below : List Frame} {meth : Method} {c : Code} {D : va_G} {ty : Nat → ClassId} {eo : Nat → Nat} {A : Nat → Prop} {ad : Nat → Nat} {o1 : Int32} {o2 : dK} (C : dc_C p s m args meth c cX9_look (some .int) 7 RX9 wsX9_look D ty eo A) {k37 : dK → Int32 → Int32 → Int32 → Int32 → Int32 → Option (Int32 × dK)} (hk37 : ∀ (q : dK) (x1 : Int32) (x2 : Int32) (x3 : Int32) (x4 : Int32) (x5 : Int32) (H : Heap) (locs : List Loc) (ls : Array Slot), k37 q x1 x2 x3 x4 x5 = some (o1, o2) → va_P D vwCl (wF ty ad q) H → va_D A (wF ty ad q) → va_S A s.heap H locs → lv_has ls 7 [(0, .ref (ad 0)), (1, .int x1), (2, .int x2), (3, .int x3), (4, .int x4), (5, .int x5)] → W p l e ({ frames := 5, cells := 0, slots := 0, locals := 126 } : Room) s m args below meth c H locs 0 0 (MQ below (va_Qi (fun (r : Int32) (u : va_W) => o1 = r ∧ wF ty ad o2 = u) (kz_B D ty A) A) args s 0 0 A) (F0 m 37 ls [])) (q : dK) (x1 : Int32) (x2 : Int32) (x3 : Int32) (x4 : Int32) (x5 : Int32) (H : Heap) (locs : List Loc) (ls : Array Slot) (h : zX9_look_s0_81 k37 q x1 x2 x3 x4 x5 = some (o1, o2)) (hP : va_P D vwCl (wF ty ad q) H) (hD : va_D A (wF ty ad q)) (hS : va_S A s.heap H locs) (hl : lv_has ls 7 [(0, .ref (ad 0)), (1, .int x1), (2, .int x2), (3, .int x3), (4, .int x4), (5, .int x5)]) : W p l e ({ frames := 5, cells := 0, slots := 0, locals := 126 } : Room) s m args below meth c H locs 0 0 (MQ below (va_Qi (fun (r : Int32) (u : va_W) => o1 = r ∧ wF ty ad o2 = u) (kz_B D ty A) A) args s 0 0 A) (F0 m 81 ls []) := by
  have C0 := C
  obtain ⟨hx, hb, hr, hts, hown, hlocks, hml, hK, hN, hE, hA⟩ := C
  unfold zX9_look_s0_81 at h
  refine lv_iinc (v := x5 + 1) (lv' := [(5, .int (x5 + 1)), (0, .ref (ad 0)), (1, .int x1), (2, .int x2), (3, .int x3), (4, .int x4)]) hx hb dX9_look_81 hl (k := 5) rfl rfl (by decide) rfl (fun ls hl => ?_)
  refine lv_goto (tgt := 37) hx hb dX9_look_84 (by decide) ?_
  exact hk37 _ _ _ _ _ _ _ _ _ h hP hD hS (lv_sub hl [1, 2, 3, 4, 5, 0] rfl)
set_option maxHeartbeats 4000000 in
set_option maxRecDepth 100000 in
theorem WX9_look_s0_37b {p : Program} {l : Launch} {e : Env} {s : State} {m : MethodId} {args : Array Value} {below : List Frame} {meth : Method} {c : Code} {D : va_G} {ty : Nat → ClassId} {eo : Nat → Nat} {A : Nat → Prop} {ad : Nat → Nat} {o1 : Int32} {o2 : dK} (C : dc_C p s m args meth c cX9_look (some .int) 7 RX9 wsX9_look D ty eo A) {k37 : dK → Int32 → Int32 → Int32 → Int32 → Int32 → Option (Int32 × dK)} (hk37 : ∀ (q : dK) (x1 : Int32) (x2 : Int32) (x3 : Int32) (x4 : Int32) (x5 : Int32) (H : Heap) (locs : List Loc) (ls : Array Slot), k37 q x1 x2 x3 x4 x5 = some (o1, o2) → va_P D vwCl (wF ty ad q) H → va_D A (wF ty ad q) → va_S A s.heap H locs → lv_has ls 7 [(0, .ref (ad 0)), (1, .int x1), (2, .int x2), (3, .int x3), (4, .int x4), (5, .int x5)] → W p l e ({ frames := 5, cells := 0, slots := 0, locals := 126 } : Room) s m args below meth c H locs 0 0 (MQ below (va_Qi (fun (r : Int32) (u : va_W) => o1 = r ∧ wF ty ad o2 = u) (kz_B D ty A) A) args s 0 0 A) (F0 m 37 ls [])) (q : dK) (x1 : Int32) (x2 : Int32) (x3 : Int32) (x4 : Int32) (x5 : Int32) (H : Heap) (locs : List Loc) (ls : Array Slot) (h : zX9_look_s0_37b k37 q x1 x2 x3 x4 x5 = some (o1, o2)) (hP : va_P D vwCl (wF ty ad q) H) (hD : va_D A (wF ty ad q)) (hS : va_S A s.heap H locs) (hl : lv_has ls 7 [(0, .ref (ad 0)), (1, .int x1), (2, .int x2), (3, .int x3), (4, .int x4), (5, .int x5)]) : W p l e ({ frames := 5, cells := 0, slots := 0, locals := 126 } : Room) s m args below meth c H locs 0 0 (MQ below (va_Qi (fun (r : Int32) (u : va_W) => o1 = r ∧ wF ty ad o2 = u) (kz_B D ty A) A) args s 0 0 A) (F0 m 37 ls []) := by
  have C0 := C
  obtain ⟨hx, hb, hr, hts, hown, hlocks, hml, hK, hN, hE, hA⟩ := C
  unfold zX9_look_s0_37b at h
  refine lv_iload hx hb dX9_look_37 (lv_at hl 5 rfl) ?_
  refine lv_aload_n hx hb dX9_look_39 rfl (lv_at hl 0 rfl) ?_
  refine va_get (D := D) (ci := 9) (v := .ref (ad 1)) (C := RX9) (T := TX9) (N := 19) hx hb hts u9_wsX9_look_X9 hown hK hP 0 rfl rfl 0 (by decide) (hts (.fieldLink RX9 10 "TurnedFloors" "state" "LTurnedFloors$State;") f9_wsX9_look_918) (fun _ h9 => h9) rfl dX9_look_40 ?_
  refine va_getN (D := D) (ci := 6) (v := .ref (ad 2)) (C := RX6) (T := TX6) (N := 10) hx hb hts u9_wsX9_look_X6 hown hK hP 1 rfl rfl 0 (by decide) (hN.use (.fieldLinkNest "TurnedFloors" 122 "TurnedFloors$State" "tower" "LTurnedFloors$Tower;" "TurnedFloors") nn9_0) (fun _ h9 => h9) rfl dX9_look_43 ?_
  refine va_getN (D := D) (ci := 8) (v := .int (q.1 2 2)) (C := RX8) (T := TX8) (N := 5) hx hb hts u9_wsX9_look_X8 hown hK hP 2 rfl rfl 2 (by decide) (hN.use (.fieldLinkNest "TurnedFloors" 135 "TurnedFloors$Tower" "floors" "I" "TurnedFloors") nn9_1) (fun _ h9 => h9) rfl dX9_look_46 ?_
  refine lv_icmp_ge (tgt := 87) hx hb dX9_look_49 (by decide) (fun c9 => ?_) (fun c9 => ?_)
  · rw [if_pos c9] at h
    refine lv_iload_n hx hb dX9_look_87 rfl (lv_at hl 1 rfl) ?_
    refine lv_if_ne (tgt := 95) hx hb dX9_look_88 (by decide) (fun c9 => ?_) (fun c9 => ?_)
    · rw [if_neg c9] at h
      refine lv_iload hx hb dX9_look_95 (lv_at hl 4 rfl) ?_
      exact WX9_look_s0_97 C0  _ _ _ _ _ h hP hD hS (lv_sub hl [] rfl)
    · rw [if_pos c9] at h
      refine lv_iload_n hx hb dX9_look_91 rfl (lv_at hl 3 rfl) ?_
      refine lv_goto (tgt := 97) hx hb dX9_look_92 (by decide) ?_
      exact WX9_look_s0_97 C0  _ _ _ _ _ h hP hD hS (lv_sub hl [] rfl)
  · rw [if_neg c9] at h
    refine lv_aload_n hx hb dX9_look_52 rfl (lv_at hl 0 rfl) ?_
    refine va_get (D := D) (ci := 9) (v := .ref (ad 1)) (C := RX9) (T := TX9) (N := 19) hx hb hts u9_wsX9_look_X9 hown hK hP 0 rfl rfl 0 (by decide) (hts (.fieldLink RX9 10 "TurnedFloors" "state" "LTurnedFloors$State;") f9_wsX9_look_918) (fun _ h9 => h9) rfl dX9_look_53 ?_
    refine va_getN (D := D) (ci := 6) (v := .ref (ad 2)) (C := RX6) (T := TX6) (N := 10) hx hb hts u9_wsX9_look_X6 hown hK hP 1 rfl rfl 0 (by decide) (hN.use (.fieldLinkNest "TurnedFloors" 122 "TurnedFloors$State" "tower" "LTurnedFloors$Tower;" "TurnedFloors") nn9_0) (fun _ h9 => h9) rfl dX9_look_56 ?_
    refine lv_iload_n hx hb dX9_look_59 rfl (lv_at hl 2 rfl) ?_
    refine lv_iload hx hb dX9_look_60 (lv_at hl 5 rfl) ?_
    obtain ⟨r1, q3, h2, h⟩ := dB_some h
    refine dw_ki (va_runV (As := [.int x2, .int x5]) (rest := []) ⟨hx, hb, hml, hown, hts⟩ (qX8_mostAlike_s2 l D ty eo _ ad q x2 x5 r1 q3 h2) (cwV 2 hts gX9_look_X8_mostAlike rfl rfl rfl hd_X8_mostAlike_v ⟨Nat.le_of_ble_eq_true rfl, Nat.le_of_ble_eq_true rfl⟩) (pvF_8_2 hK hN hE hP hD hS hA) rfl rfl hl.1 rfl (lv_room (Nat.le_of_ble_eq_true rfl)) dX9_look_62 ⟨Nat.le_of_ble_eq_true rfl, Nat.le_of_ble_eq_true rfl⟩) hD hS hA (fun r9 u9 H locs hw hp hd hs => ?_)
    clear hP hD hS
    obtain ⟨rfl, rfl⟩ := hw
    have hP := hp; have hD := hd; have hS := hs; clear hp hd hs
    refine lv_istore (lv' := [(6, .int r1), (0, .ref (ad 0)), (1, .int x1), (2, .int x2), (3, .int x3), (4, .int x4), (5, .int x5)]) hx hb dX9_look_65 hl (by decide) rfl (fun ls hl => ?_)
    refine lv_iload hx hb dX9_look_67 (lv_at hl 0 rfl) ?_
    refine lv_iload hx hb dX9_look_69 (lv_at hl 5 rfl) ?_
    refine lv_icmp_ge (tgt := 81) hx hb dX9_look_71 (by decide) (fun c9 => ?_) (fun c9 => ?_)
    · rw [if_pos c9] at h
      exact WX9_look_s0_81 C0 hk37 _ _ _ _ _ _ _ _ _ h hP hD hS (lv_sub hl [1, 2, 3, 4, 5, 6] rfl)
    · rw [if_neg c9] at h
      refine lv_iload hx hb dX9_look_74 (lv_at hl 0 rfl) ?_
      refine lv_istore (lv' := [(4, .int r1), (6, .int r1), (0, .ref (ad 0)), (1, .int x1), (2, .int x2), (3, .int x3), (5, .int x5)]) hx hb dX9_look_76 hl (by decide) rfl (fun ls hl => ?_)
      refine lv_iload hx hb dX9_look_78 (lv_at hl 6 rfl) ?_
      refine lv_istore_n (lv' := [(3, .int x5), (4, .int r1), (6, .int r1), (0, .ref (ad 0)), (1, .int x1), (2, .int x2), (5, .int x5)]) hx hb dX9_look_80 rfl hl (by decide) rfl (fun ls hl => ?_)
      exact WX9_look_s0_81 C0 hk37 _ _ _ _ _ _ _ _ _ h hP hD hS (lv_sub hl [3, 4, 5, 0, 1, 6] rfl)
set_option maxHeartbeats 4000000 in
set_option maxRecDepth 100000 in
theorem WX9_look_s0_37 {p : Program} {l : Launch} {e : Env} {s : State} {m : MethodId} {args : Array Value} {below : List Frame} {meth : Method} {c : Code} {D : va_G} {ty : Nat → ClassId} {eo : Nat → Nat} {A : Nat → Prop} {ad : Nat → Nat} {o1 : Int32} {o2 : dK} (C : dc_C p s m args meth c cX9_look (some .int) 7 RX9 wsX9_look D ty eo A)   (n : Nat) (q : dK) (x1 : Int32) (x2 : Int32) (x3 : Int32) (x4 : Int32) (x5 : Int32) (H : Heap) (locs : List Loc) (ls : Array Slot) (h : zX9_look_s0_37  n q x1 x2 x3 x4 x5 = some (o1, o2)) (hP : va_P D vwCl (wF ty ad q) H) (hD : va_D A (wF ty ad q)) (hS : va_S A s.heap H locs) (hl : lv_has ls 7 [(0, .ref (ad 0)), (1, .int x1), (2, .int x2), (3, .int x3), (4, .int x4), (5, .int x5)]) : W p l e ({ frames := 5, cells := 0, slots := 0, locals := 126 } : Room) s m args below meth c H locs 0 0 (MQ below (va_Qi (fun (r : Int32) (u : va_W) => o1 = r ∧ wF ty ad o2 = u) (kz_B D ty A) A) args s 0 0 A) (F0 m 37 ls []) := by
  exact dFix_W (F := fun k (a : dK × Int32 × Int32 × Int32 × Int32 × Int32) => zX9_look_s0_37b  (fun q x1 x2 x3 x4 x5 => k (q, x1, x2, x3, x4, x5)) a.1 a.2.1 a.2.2.1 a.2.2.2.1 a.2.2.2.2.1 a.2.2.2.2.2) (o := (o1, o2)) (P := fun (a : dK × Int32 × Int32 × Int32 × Int32 × Int32) H locs ls => va_P D vwCl (wF ty ad a.1) H ∧ va_D A (wF ty ad a.1) ∧ va_S A s.heap H locs ∧ lv_has ls 7 [(0, .ref (ad 0)), (1, .int a.2.1), (2, .int a.2.2.1), (3, .int a.2.2.2.1), (4, .int a.2.2.2.2.1), (5, .int a.2.2.2.2.2)]) (G := fun H locs ls => W p l e ({ frames := 5, cells := 0, slots := 0, locals := 126 } : Room) s m args below meth c H locs 0 0 (MQ below (va_Qi (fun (r : Int32) (u : va_W) => o1 = r ∧ wF ty ad o2 = u) (kz_B D ty A) A) args s 0 0 A) (F0 m 37 ls []))
    (fun k hk a H locs ls h hp => WX9_look_s0_37b C  (fun q x1 x2 x3 x4 x5 H locs ls h h1 h2 h3 h4 => hk (q, x1, x2, x3, x4, x5) H locs ls h ⟨h1, h2, h3, h4⟩) a.1 a.2.1 a.2.2.1 a.2.2.2.1 a.2.2.2.2.1 a.2.2.2.2.2 H locs ls h hp.1 hp.2.1 hp.2.2.1 hp.2.2.2) n (q, x1, x2, x3, x4, x5) H locs ls h ⟨hP, hD, hS, hl⟩
set_option maxHeartbeats 4000000 in
set_option maxRecDepth 100000 in
theorem WX9_look_s0_16 {p : Program} {l : Launch} {e : Env} {s : State} {m : MethodId} {args : Array Value} {below : List Frame} {meth : Method} {c : Code} {D : va_G} {ty : Nat → ClassId} {eo : Nat → Nat} {A : Nat → Prop} {ad : Nat → Nat} {o1 : Int32} {o2 : dK} (C : dc_C p s m args meth c cX9_look (some .int) 7 RX9 wsX9_look D ty eo A)   (q : dK)  (H : Heap) (locs : List Loc) (ls : Array Slot) (h : zX9_look_s0_16  q = some (o1, o2)) (hP : va_P D vwCl (wF ty ad q) H) (hD : va_D A (wF ty ad q)) (hS : va_S A s.heap H locs) (hl : lv_has ls 7 []) : W p l e ({ frames := 5, cells := 0, slots := 0, locals := 126 } : Room) s m args below meth c H locs 0 0 (MQ below (va_Qi (fun (r : Int32) (u : va_W) => o1 = r ∧ wF ty ad o2 = u) (kz_B D ty A) A) args s 0 0 A) (F0 m 16 ls []) := by
  have C0 := C
  obtain ⟨hx, hb, hr, hts, hown, hlocks, hml, hK, hN, hE, hA⟩ := C
  unfold zX9_look_s0_16 at h
  refine lv_iconst (v := (-1)) hx hb dX9_look_16 (by decide) ?_
  cases h
  exact kz_iret hx hb hr hlocks hP hK hD hS dX9_look_17 ⟨rfl, rfl⟩
set_option maxHeartbeats 4000000 in
set_option maxRecDepth 100000 in
theorem qX9_look_s0 (l : Launch) (D : va_G) (ty : Nat → ClassId) (eo : Nat → Nat) (sz : Nat) (ad : Nat → Nat) (q : dK) (p1 : Int32) (o1 : Int32) (o2 : dK) (h : zX9_look_s0 q p1 = some (o1, o2)) : Met l yX9_look wsX9_look ({ frames := 5, cells := 0, slots := 0, locals := 126 } : Room) (va_Pc [.ref (ad 0), .int p1] (kz_pre D ty eo (wF ty ad q) sz)) (va_Qi (fun (r : Int32) (u : va_W) => o1 = r ∧ wF ty ad o2 = u) (kz_B D ty (va_A (wF ty ad q) sz)) (va_A (wF ty ad q) sz)) 0 0 (va_A (wF ty ad q) sz) := by
  refine Met.ofW (cc := cX9_look) (maxL := 7) (ret := (some .int)) (by decide) rfl ?_
  intro p e s m args below meth c s₁ B hml hv
  obtain ⟨rfl, hsz, hP, hK, hD0, hN, hE⟩ := hv
  have hx := B.exec
  have hb := B.bytes
  have hr := B.returns
  have hts := atoms_spec (ws := wsX9_look) B.pre
  have hown : s.vm.findClass RX9 = some m.cls := findClass_of_methodNamed B.named
  have hlocks := B.notSynchronized
  subst hsz
  have hD := hD0.self (sz := s.heap.size)
  generalize hAe : va_A (wF ty ad q) s.heap.size = A at hD hE ⊢
  have hA : ∀ q : Nat, s.heap.size ≤ q → A q := fun q h => by rw [← hAe]; exact Or.inr h
  clear hAe
  have hS : va_S A s.heap s.heap [] := va_S.rf
  have hl := lv_entry ([.ref (ad 0), .int p1]) (n := 7) (Nat.le_of_ble_eq_true rfl)
  rw [lg_entry_eq]
  generalize (lg_sl ([.ref (ad 0), .int p1]) ++ List.replicate (7 - (lg_sl ([.ref (ad 0), .int p1])).length) Slot.unset).toArray = ls at hl ⊢
  have hl : lv_has ls 7 [(0, .ref (ad 0)), (1, .int p1)] := hl
  have C : dc_C p s m _ meth c cX9_look (some .int) 7 RX9 wsX9_look D ty eo A := ⟨hx, hb, hr, hts, hown, hlocks, hml, hK, hN, hE, hA⟩
  unfold zX9_look_s0 at h
  refine lv_aload_n hx hb dX9_look_0 rfl (lv_at hl 0 rfl) ?_
  obtain ⟨r1, q3, h2, h⟩ := dB_some h
  refine dw_ki (va_runV (As := []) (rest := []) ⟨hx, hb, hml, hown, hts⟩ (qX9_was_s0 l D ty eo _ ad q  r1 q3 h2) (cwV 0 hts gX9_look_X9_was rfl rfl rfl hd_X9_was_v ⟨Nat.le_of_ble_eq_true rfl, Nat.le_of_ble_eq_true rfl⟩) (pvF_9_0 hK hN hE hP hD hS hA) rfl rfl hl.1 rfl (lv_room (Nat.le_of_ble_eq_true rfl)) dX9_look_1 ⟨Nat.le_of_ble_eq_true rfl, Nat.le_of_ble_eq_true rfl⟩) hD hS hA (fun r9 u9 H locs hw hp hd hs => ?_)
  clear hP hD hS
  obtain ⟨rfl, rfl⟩ := hw
  have hP := hp; have hD := hd; have hS := hs; clear hp hd hs
  refine lv_istore_n (lv' := [(2, .int r1), (0, .ref (ad 0)), (1, .int p1)]) hx hb dX9_look_4 rfl hl (by decide) rfl (fun ls hl => ?_)
  refine lv_iload_n hx hb dX9_look_5 rfl (lv_at hl 0 rfl) ?_
  refine lv_if_eq (tgt := 16) hx hb dX9_look_6 (by decide) (fun c9 => ?_) (fun c9 => ?_)
  · rw [if_pos c9] at h
    exact WX9_look_s0_16 C  _ _ _ _ h hP hD hS (lv_sub hl [] rfl)
  · rw [if_neg c9] at h
    refine lv_iload_n hx hb dX9_look_9 rfl (lv_at hl 2 rfl) ?_
    obtain ⟨r4, h5, h⟩ := dV_some h
    refine dw_ks (va_runS (As := [.int p1]) (rest := []) ⟨hx, hb, hml, hown, hts⟩ (qX9_isBit l D ty eo _ p1 _ h5) (va_cwS 1 hts gX9_look_X9_isBit rfl rfl rfl hd_X9_isBit ⟨Nat.le_of_ble_eq_true rfl, Nat.le_of_ble_eq_true rfl⟩) (pvS_0 hK hN hE hP hD hS hA) rfl rfl hl.1 rfl (lv_room (Nat.le_of_ble_eq_true rfl)) dX9_look_10 ⟨Nat.le_of_ble_eq_true rfl, Nat.le_of_ble_eq_true rfl⟩) hP hD hS hA (fun _ _ h9 => h9.2.symm) (fun r9 u9 H locs hw hp hd hs => ?_)
    obtain ⟨rfl, -⟩ := hw
    clear hP hD hS
    have hP := hp; have hD := hd; have hS := hs; clear hp hd hs
    refine lv_if_ne (tgt := 18) hx hb dX9_look_13 (by decide) (fun c9 => ?_) (fun c9 => ?_)
    · rw [if_neg c9] at h
      refine lv_iconst (v := 0) hx hb dX9_look_18 (by decide) ?_
      refine lv_istore_n (lv' := [(3, .int 0), (2, .int r1), (0, .ref (ad 0)), (1, .int p1)]) hx hb dX9_look_19 rfl hl (by decide) rfl (fun ls hl => ?_)
      refine lv_aload_n hx hb dX9_look_20 rfl (lv_at hl 2 rfl) ?_
      refine va_get (D := D) (ci := 9) (v := .ref (ad 1)) (C := RX9) (T := TX9) (N := 19) hx hb hts u9_wsX9_look_X9 hown hK hP 0 rfl rfl 0 (by decide) (hts (.fieldLink RX9 10 "TurnedFloors" "state" "LTurnedFloors$State;") f9_wsX9_look_918) (fun _ h9 => h9) rfl dX9_look_21 ?_
      refine va_getN (D := D) (ci := 6) (v := .ref (ad 2)) (C := RX6) (T := TX6) (N := 10) hx hb hts u9_wsX9_look_X6 hown hK hP 1 rfl rfl 0 (by decide) (hN.use (.fieldLinkNest "TurnedFloors" 122 "TurnedFloors$State" "tower" "LTurnedFloors$Tower;" "TurnedFloors") nn9_0) (fun _ h9 => h9) rfl dX9_look_24 ?_
      refine lv_iload_n hx hb dX9_look_27 rfl (lv_at hl 1 rfl) ?_
      refine lv_iconst (v := 0) hx hb dX9_look_28 (by decide) ?_
      obtain ⟨r6, q8, h7, h⟩ := dB_some h
      refine dw_ki (va_runV (As := [.int r1, .int 0]) (rest := []) ⟨hx, hb, hml, hown, hts⟩ (qX8_mostAlike_s2 l D ty eo _ ad q3 r1 0 r6 q8 h7) (cwV 2 hts gX9_look_X8_mostAlike rfl rfl rfl hd_X8_mostAlike_v ⟨Nat.le_of_ble_eq_true rfl, Nat.le_of_ble_eq_true rfl⟩) (pvF_8_2 hK hN hE hP hD hS hA) rfl rfl hl.1 rfl (lv_room (Nat.le_of_ble_eq_true rfl)) dX9_look_29 ⟨Nat.le_of_ble_eq_true rfl, Nat.le_of_ble_eq_true rfl⟩) hD hS hA (fun r9 u9 H locs hw hp hd hs => ?_)
      clear hP hD hS
      obtain ⟨rfl, rfl⟩ := hw
      have hP := hp; have hD := hd; have hS := hs; clear hp hd hs
      refine lv_istore (lv' := [(4, .int r6), (3, .int 0), (2, .int r1), (0, .ref (ad 0)), (1, .int p1)]) hx hb dX9_look_32 hl (by decide) rfl (fun ls hl => ?_)
      refine lv_iconst (v := 1) hx hb dX9_look_34 (by decide) ?_
      refine lv_istore (lv' := [(5, .int 1), (4, .int r6), (3, .int 0), (2, .int r1), (0, .ref (ad 0)), (1, .int p1)]) hx hb dX9_look_35 hl (by decide) rfl (fun ls hl => ?_)
      exact WX9_look_s0_37 C  _ _ _ _ _ _ _ _ _ _ h hP hD hS (lv_sub hl [4, 5, 3, 2, 1, 0] rfl)
    · rw [if_pos c9] at h
      exact WX9_look_s0_16 C  _ _ _ _ h hP hD hS (lv_sub hl [] rfl)

set_option maxHeartbeats 4000000 in
set_option maxRecDepth 100000 in
theorem WX9_few_s0_146b {p : Program} {l : Launch} {e : Env} {s : State} {m : MethodId} {args : Array Value} {below : List Frame} {meth : Method} {c : Code} {D : va_G} {ty : Nat → ClassId} {eo : Nat → Nat} {A : Nat → Prop} {ad : Nat → Nat} {o1 : Int64} {o2 : dK} (C : dc_C p s m args meth c cX9_few (some .long) 9 RX9 wsX9_few D ty eo A) {k146 : dK → Int32 → Int64 → Int32 → Option (Int64 × dK)} (hk146 : ∀ (q : dK) (x1 : Int32) (x3 : Int64) (x5 : Int32) (H : Heap) (locs : List Loc) (ls : Array Slot), k146 q x1 x3 x5 = some (o1, o2) → va_P D vwCl (wF ty ad q) H → va_D A (wF ty ad q) → va_S A s.heap H locs → lv_has ls 9 [(0, .ref (ad 0)), (1, .int x1), (3, .long x3), (5, .int x5)] → W p l e ({ frames := 1, cells := 0, slots := 0, locals := 24 } : Room) s m args below meth c H locs 0 0 (MQ below (va_Ql (fun (r : Int64) (u : va_W) => o1 = r ∧ wF ty ad o2 = u) (kz_B D ty A) A) args s 0 0 A) (F0 m 146 ls [])) (q : dK) (x1 : Int32) (x3 : Int64) (x5 : Int32) (H : Heap) (locs : List Loc) (ls : Array Slot) (h : zX9_few_s0_146b k146 q x1 x3 x5 = some (o1, o2)) (hP : va_P D vwCl (wF ty ad q) H) (hD : va_D A (wF ty ad q)) (hS : va_S A s.heap H locs) (hl : lv_has ls 9 [(0, .ref (ad 0)), (1, .int x1), (3, .long x3), (5, .int x5)]) : W p l e ({ frames := 1, cells := 0, slots := 0, locals := 24 } : Room) s m args below meth c H locs 0 0 (MQ below (va_Ql (fun (r : Int64) (u : va_W) => o1 = r ∧ wF ty ad o2 = u) (kz_B D ty A) A) args s 0 0 A) (F0 m 146 ls []) := by
  have C0 := C
  obtain ⟨hx, hb, hr, hts, hown, hlocks, hml, hK, hN, hE, hA⟩ := C
  unfold zX9_few_s0_146b at h
  refine lv_iload hx hb dX9_few_146 (lv_at hl 3 rfl) ?_
  refine lv_iload_n hx hb dX9_few_148 rfl (lv_at hl 1 rfl) ?_
  refine lv_icmp_ge (tgt := 168) hx hb dX9_few_149 (by decide) (fun c9 => ?_) (fun c9 => ?_)
  · rw [if_pos c9] at h
    refine lv_lload_n hx hb dX9_few_168 rfl (lv_at hl 2 rfl) ?_
    cases h
    exact kz_lret hx hb hr hlocks hP hK hD hS dX9_few_169 ⟨rfl, rfl⟩
  · rw [if_neg c9] at h
    refine lv_lload_n hx hb dX9_few_152 rfl (lv_at hl 2 rfl) ?_
    refine lv_aload_n hx hb dX9_few_153 rfl (lv_at hl 0 rfl) ?_
    refine va_get (D := D) (ci := 9) (v := .ref (ad 47)) (C := RX9) (T := TX9) (N := 19) hx hb hts u9_wsX9_few_X9 hown hK hP 0 rfl rfl 16 (by decide) (hts (.fieldLink RX9 101 "TurnedFloors" "chances" "[J") f9_wsX9_few_920) (fun _ h9 => h9) rfl dX9_few_154 ?_
    refine lv_iload hx hb dX9_few_157 (lv_at hl 3 rfl) ?_
    obtain ⟨g1, h⟩ := dG_some h
    refine va_lald hx hb hK hP 47 1 rfl rfl (dg_in g1) dX9_few_159 ?_
    obtain ⟨v2, ev2, h⟩ := dL_some h
    refine kz_topl v2 ev2 ?_
    refine lv_ladd hx hb dX9_few_160 ?_
    refine lv_lstore_n (lv' := [(3, .long (x3 + v2 : Int64)), (0, .ref (ad 0)), (1, .int x1), (5, .int x5)]) hx hb dX9_few_161 rfl hl (by decide) rfl (fun ls hl => ?_)
    refine lv_iinc (v := x5 + 1) (lv' := [(5, .int (x5 + 1)), (3, .long (x3 + v2 : Int64)), (0, .ref (ad 0)), (1, .int x1)]) hx hb dX9_few_162 hl (k := 3) rfl rfl (by decide) rfl (fun ls hl => ?_)
    refine lv_goto (tgt := 146) hx hb dX9_few_165 (by decide) ?_
    exact hk146 _ _ _ _ _ _ _ h hP hD hS (lv_sub hl [2, 3, 1, 0] rfl)
set_option maxHeartbeats 4000000 in
set_option maxRecDepth 100000 in
theorem WX9_few_s0_146 {p : Program} {l : Launch} {e : Env} {s : State} {m : MethodId} {args : Array Value} {below : List Frame} {meth : Method} {c : Code} {D : va_G} {ty : Nat → ClassId} {eo : Nat → Nat} {A : Nat → Prop} {ad : Nat → Nat} {o1 : Int64} {o2 : dK} (C : dc_C p s m args meth c cX9_few (some .long) 9 RX9 wsX9_few D ty eo A)   (n : Nat) (q : dK) (x1 : Int32) (x3 : Int64) (x5 : Int32) (H : Heap) (locs : List Loc) (ls : Array Slot) (h : zX9_few_s0_146  n q x1 x3 x5 = some (o1, o2)) (hP : va_P D vwCl (wF ty ad q) H) (hD : va_D A (wF ty ad q)) (hS : va_S A s.heap H locs) (hl : lv_has ls 9 [(0, .ref (ad 0)), (1, .int x1), (3, .long x3), (5, .int x5)]) : W p l e ({ frames := 1, cells := 0, slots := 0, locals := 24 } : Room) s m args below meth c H locs 0 0 (MQ below (va_Ql (fun (r : Int64) (u : va_W) => o1 = r ∧ wF ty ad o2 = u) (kz_B D ty A) A) args s 0 0 A) (F0 m 146 ls []) := by
  exact dFix_W (F := fun k (a : dK × Int32 × Int64 × Int32) => zX9_few_s0_146b  (fun q x1 x3 x5 => k (q, x1, x3, x5)) a.1 a.2.1 a.2.2.1 a.2.2.2) (o := (o1, o2)) (P := fun (a : dK × Int32 × Int64 × Int32) H locs ls => va_P D vwCl (wF ty ad a.1) H ∧ va_D A (wF ty ad a.1) ∧ va_S A s.heap H locs ∧ lv_has ls 9 [(0, .ref (ad 0)), (1, .int a.2.1), (3, .long a.2.2.1), (5, .int a.2.2.2)]) (G := fun H locs ls => W p l e ({ frames := 1, cells := 0, slots := 0, locals := 24 } : Room) s m args below meth c H locs 0 0 (MQ below (va_Ql (fun (r : Int64) (u : va_W) => o1 = r ∧ wF ty ad o2 = u) (kz_B D ty A) A) args s 0 0 A) (F0 m 146 ls []))
    (fun k hk a H locs ls h hp => WX9_few_s0_146b C  (fun q x1 x3 x5 H locs ls h h1 h2 h3 h4 => hk (q, x1, x3, x5) H locs ls h ⟨h1, h2, h3, h4⟩) a.1 a.2.1 a.2.2.1 a.2.2.2 H locs ls h hp.1 hp.2.1 hp.2.2.1 hp.2.2.2) n (q, x1, x3, x5) H locs ls h ⟨hP, hD, hS, hl⟩
set_option maxHeartbeats 4000000 in
set_option maxRecDepth 100000 in
theorem WX9_few_s0_115 {p : Program} {l : Launch} {e : Env} {s : State} {m : MethodId} {args : Array Value} {below : List Frame} {meth : Method} {c : Code} {D : va_G} {ty : Nat → ClassId} {eo : Nat → Nat} {A : Nat → Prop} {ad : Nat → Nat} {o1 : Int64} {o2 : dK} (C : dc_C p s m args meth c cX9_few (some .long) 9 RX9 wsX9_few D ty eo A) {k44 : dK → Int32 → Int32 → Int32 → Option (Int64 × dK)} {k54 : dK → Int32 → Int32 → Int32 → Int32 → Option (Int64 × dK)} (hk44 : ∀ (q : dK) (x1 : Int32) (x2 : Int32) (x3 : Int32) (H : Heap) (locs : List Loc) (ls : Array Slot), k44 q x1 x2 x3 = some (o1, o2) → va_P D vwCl (wF ty ad q) H → va_D A (wF ty ad q) → va_S A s.heap H locs → lv_has ls 9 [(0, .ref (ad 0)), (1, .int x1), (2, .int x2), (3, .int x3)] → W p l e ({ frames := 1, cells := 0, slots := 0, locals := 24 } : Room) s m args below meth c H locs 0 0 (MQ below (va_Ql (fun (r : Int64) (u : va_W) => o1 = r ∧ wF ty ad o2 = u) (kz_B D ty A) A) args s 0 0 A) (F0 m 44 ls [])) (hk54 : ∀ (q : dK) (x1 : Int32) (x2 : Int32) (x3 : Int32) (x4 : Int32) (H : Heap) (locs : List Loc) (ls : Array Slot), k54 q x1 x2 x3 x4 = some (o1, o2) → va_P D vwCl (wF ty ad q) H → va_D A (wF ty ad q) → va_S A s.heap H locs → lv_has ls 9 [(0, .ref (ad 0)), (1, .int x1), (2, .int x2), (3, .int x3), (4, .int x4)] → W p l e ({ frames := 1, cells := 0, slots := 0, locals := 24 } : Room) s m args below meth c H locs 0 0 (MQ below (va_Ql (fun (r : Int64) (u : va_W) => o1 = r ∧ wF ty ad o2 = u) (kz_B D ty A) A) args s 0 0 A) (F0 m 54 ls [])) (q : dK) (x1 : Int32) (x2 : Int32) (x3 : Int32) (x4 : Int32) (x5 : Int64) (y0 : Int64) (H : Heap) (locs : List Loc) (ls : Array Slot) (h : zX9_few_s0_115 k44 k54 q x1 x2 x3 x4 x5 y0 = some (o1, o2)) (hP : va_P D vwCl (wF ty ad q) H) (hD : va_D A (wF ty ad q)) (hS : va_S A s.heap H locs) (hl : lv_has ls 9 [(0, .ref (ad 0)), (1, .int x1), (2, .int x2), (3, .int x3), (4, .int x4), (5, .long x5)]) : W p l e ({ frames := 1, cells := 0, slots := 0, locals := 24 } : Room) s m args below meth c H locs 0 0 (MQ below (va_Ql (fun (r : Int64) (u : va_W) => o1 = r ∧ wF ty ad o2 = u) (kz_B D ty A) A) args s 0 0 A) (F0 m 115 ls [.long y0]) := by
  have C0 := C
  obtain ⟨hx, hb, hr, hts, hown, hlocks, hml, hK, hN, hE, hA⟩ := C
  unfold zX9_few_s0_115 at h
  refine lv_lstore (lv' := [(7, .long y0), (0, .ref (ad 0)), (1, .int x1), (2, .int x2), (3, .int x3), (4, .int x4), (5, .long x5)]) hx hb dX9_few_115 hl (by decide) rfl (fun ls hl => ?_)
  refine lv_aload_n hx hb dX9_few_117 rfl (lv_at hl 1 rfl) ?_
  refine va_get (D := D) (ci := 9) (v := .ref (ad 47)) (C := RX9) (T := TX9) (N := 19) hx hb hts u9_wsX9_few_X9 hown hK hP 0 rfl rfl 16 (by decide) (hts (.fieldLink RX9 101 "TurnedFloors" "chances" "[J") f9_wsX9_few_920) (fun _ h9 => h9) rfl dX9_few_118 ?_
  refine lv_iload hx hb dX9_few_121 (lv_at hl 5 rfl) ?_
  refine lv_lload hx hb dX9_few_123 (lv_at hl 6 rfl) ?_
  refine lv_lload hx hb dX9_few_125 (lv_at hl 0 rfl) ?_
  refine lv_ladd hx hb dX9_few_127 ?_
  obtain ⟨g1, h⟩ := dG_some h
  refine va_last hx hb hK hP hD hS 47 1 rfl rfl (dg_in g1) dX9_few_128 (fun H locs hp hd hs => ?_)
  obtain ⟨q2, eq2, h⟩ := dL_some h
  refine kz_re (w2 := wF ty ad q2) hp hd hs (by rw [← eq2]; exact wF_a47 ty ad q (Int32.toNatClampNeg x4) (x5 + y0 : Int64)) ?_
  clear hp hd hs hP hD hS
  intro hP hD hS
  refine lv_iinc (v := x4 + (-1)) (lv' := [(4, .int (x4 + (-1))), (7, .long y0), (0, .ref (ad 0)), (1, .int x1), (2, .int x2), (3, .int x3), (5, .long x5)]) hx hb dX9_few_129 hl (k := 5) rfl rfl (by decide) rfl (fun ls hl => ?_)
  refine lv_goto (tgt := 54) hx hb dX9_few_132 (by decide) ?_
  exact hk54 _ _ _ _ _ _ _ _ h hP hD hS (lv_sub hl [2, 3, 4, 5, 0] rfl)
set_option maxHeartbeats 4000000 in
set_option maxRecDepth 100000 in
theorem WX9_few_s0_54b {p : Program} {l : Launch} {e : Env} {s : State} {m : MethodId} {args : Array Value} {below : List Frame} {meth : Method} {c : Code} {D : va_G} {ty : Nat → ClassId} {eo : Nat → Nat} {A : Nat → Prop} {ad : Nat → Nat} {o1 : Int64} {o2 : dK} (C : dc_C p s m args meth c cX9_few (some .long) 9 RX9 wsX9_few D ty eo A) {k44 : dK → Int32 → Int32 → Int32 → Option (Int64 × dK)} {k54 : dK → Int32 → Int32 → Int32 → Int32 → Option (Int64 × dK)} (hk44 : ∀ (q : dK) (x1 : Int32) (x2 : Int32) (x3 : Int32) (H : Heap) (locs : List Loc) (ls : Array Slot), k44 q x1 x2 x3 = some (o1, o2) → va_P D vwCl (wF ty ad q) H → va_D A (wF ty ad q) → va_S A s.heap H locs → lv_has ls 9 [(0, .ref (ad 0)), (1, .int x1), (2, .int x2), (3, .int x3)] → W p l e ({ frames := 1, cells := 0, slots := 0, locals := 24 } : Room) s m args below meth c H locs 0 0 (MQ below (va_Ql (fun (r : Int64) (u : va_W) => o1 = r ∧ wF ty ad o2 = u) (kz_B D ty A) A) args s 0 0 A) (F0 m 44 ls [])) (hk54 : ∀ (q : dK) (x1 : Int32) (x2 : Int32) (x3 : Int32) (x4 : Int32) (H : Heap) (locs : List Loc) (ls : Array Slot), k54 q x1 x2 x3 x4 = some (o1, o2) → va_P D vwCl (wF ty ad q) H → va_D A (wF ty ad q) → va_S A s.heap H locs → lv_has ls 9 [(0, .ref (ad 0)), (1, .int x1), (2, .int x2), (3, .int x3), (4, .int x4)] → W p l e ({ frames := 1, cells := 0, slots := 0, locals := 24 } : Room) s m args below meth c H locs 0 0 (MQ below (va_Ql (fun (r : Int64) (u : va_W) => o1 = r ∧ wF ty ad o2 = u) (kz_B D ty A) A) args s 0 0 A) (F0 m 54 ls [])) (q : dK) (x1 : Int32) (x2 : Int32) (x3 : Int32) (x4 : Int32) (H : Heap) (locs : List Loc) (ls : Array Slot) (h : zX9_few_s0_54b k44 k54 q x1 x2 x3 x4 = some (o1, o2)) (hP : va_P D vwCl (wF ty ad q) H) (hD : va_D A (wF ty ad q)) (hS : va_S A s.heap H locs) (hl : lv_has ls 9 [(0, .ref (ad 0)), (1, .int x1), (2, .int x2), (3, .int x3), (4, .int x4)]) : W p l e ({ frames := 1, cells := 0, slots := 0, locals := 24 } : Room) s m args below meth c H locs 0 0 (MQ below (va_Ql (fun (r : Int64) (u : va_W) => o1 = r ∧ wF ty ad o2 = u) (kz_B D ty A) A) args s 0 0 A) (F0 m 54 ls []) := by
  have C0 := C
  obtain ⟨hx, hb, hr, hts, hown, hlocks, hml, hK, hN, hE, hA⟩ := C
  unfold zX9_few_s0_54b at h
  refine lv_iload hx hb dX9_few_54 (lv_at hl 4 rfl) ?_
  refine lv_if_lt (tgt := 135) hx hb dX9_few_56 (by decide) (fun c9 => ?_) (fun c9 => ?_)
  · rw [if_pos c9] at h
    refine lv_iinc (v := x3 + 1) (lv' := [(3, .int (x3 + 1)), (0, .ref (ad 0)), (1, .int x1), (2, .int x2), (4, .int x4)]) hx hb dX9_few_135 hl (k := 3) rfl rfl (by decide) rfl (fun ls hl => ?_)
    refine lv_goto (tgt := 44) hx hb dX9_few_138 (by decide) ?_
    exact hk44 _ _ _ _ _ _ _ h hP hD hS (lv_sub hl [1, 2, 3, 0] rfl)
  · rw [if_neg c9] at h
    refine lv_aload_n hx hb dX9_few_59 rfl (lv_at hl 0 rfl) ?_
    refine va_get (D := D) (ci := 9) (v := .ref (ad 47)) (C := RX9) (T := TX9) (N := 19) hx hb hts u9_wsX9_few_X9 hown hK hP 0 rfl rfl 16 (by decide) (hts (.fieldLink RX9 101 "TurnedFloors" "chances" "[J") f9_wsX9_few_920) (fun _ h9 => h9) rfl dX9_few_60 ?_
    refine lv_iload hx hb dX9_few_63 (lv_at hl 4 rfl) ?_
    obtain ⟨g1, h⟩ := dG_some h
    refine va_lald hx hb hK hP 47 1 rfl rfl (dg_in g1) dX9_few_65 ?_
    obtain ⟨v2, ev2, h⟩ := dL_some h
    refine kz_topl v2 ev2 ?_
    refine lv_bipush (v := 10) hx hb dX9_few_66 (by decide) ?_
    refine lv_aload_n hx hb dX9_few_68 rfl (lv_at hl 0 rfl) ?_
    refine va_get (D := D) (ci := 9) (v := .ref (ad 1)) (C := RX9) (T := TX9) (N := 19) hx hb hts u9_wsX9_few_X9 hown hK hP 0 rfl rfl 0 (by decide) (hts (.fieldLink RX9 10 "TurnedFloors" "state" "LTurnedFloors$State;") f9_wsX9_few_922) (fun _ h9 => h9) rfl dX9_few_69 ?_
    refine va_getN (D := D) (ci := 6) (v := .int (q.1 1 1)) (C := RX6) (T := TX6) (N := 10) hx hb hts u9_wsX9_few_X6 hown hK hP 1 rfl rfl 1 (by decide) (hN.use (.fieldLinkNest "TurnedFloors" 301 "TurnedFloors$State" "slips" "I" "TurnedFloors") nn9_41) (fun _ h9 => h9) rfl dX9_few_72 ?_
    refine lv_isub hx hb dX9_few_75 ?_
    refine lv_i2l (v := Int32.toInt64 (10 - (q.1 1 1) : Int32)) hx hb dX9_few_76 rfl ?_
    refine lv_lmul hx hb dX9_few_77 ?_
    refine lv_ldc2 (v := 10) hx hb hown (hts (.constantLong RX9 304 10) f9_wsX9_few_923) dX9_few_78 ?_
    refine lv_ldiv hx hb dX9_few_81 (by decide) ?_
    obtain ⟨v3, ev3, h⟩ := dL_some h
    refine kz_topl v3 ev3 ?_
    refine lv_lstore (lv' := [(5, .long v3), (0, .ref (ad 0)), (1, .int x1), (2, .int x2), (3, .int x3), (4, .int x4)]) hx hb dX9_few_82 hl (by decide) rfl (fun ls hl => ?_)
    refine lv_iload hx hb dX9_few_84 (lv_at hl 5 rfl) ?_
    refine lv_if_ne (tgt := 93) hx hb dX9_few_86 (by decide) (fun c9 => ?_) (fun c9 => ?_)
    · rw [if_neg c9] at h
      refine lv_aload_n hx hb dX9_few_93 rfl (lv_at hl 1 rfl) ?_
      refine va_get (D := D) (ci := 9) (v := .ref (ad 47)) (C := RX9) (T := TX9) (N := 19) hx hb hts u9_wsX9_few_X9 hown hK hP 0 rfl rfl 16 (by decide) (hts (.fieldLink RX9 101 "TurnedFloors" "chances" "[J") f9_wsX9_few_920) (fun _ h9 => h9) rfl dX9_few_94 ?_
      refine lv_iload hx hb dX9_few_97 (lv_at hl 5 rfl) ?_
      refine lv_iconst (v := 1) hx hb dX9_few_99 (by decide) ?_
      refine lv_isub hx hb dX9_few_100 ?_
      obtain ⟨g4, h⟩ := dG_some h
      refine va_lald hx hb hK hP 47 1 rfl rfl (dg_in g4) dX9_few_101 ?_
      obtain ⟨v5, ev5, h⟩ := dL_some h
      refine kz_topl v5 ev5 ?_
      refine lv_aload_n hx hb dX9_few_102 rfl (lv_at hl 1 rfl) ?_
      refine va_get (D := D) (ci := 9) (v := .ref (ad 1)) (C := RX9) (T := TX9) (N := 19) hx hb hts u9_wsX9_few_X9 hown hK hP 0 rfl rfl 0 (by decide) (hts (.fieldLink RX9 10 "TurnedFloors" "state" "LTurnedFloors$State;") f9_wsX9_few_922) (fun _ h9 => h9) rfl dX9_few_103 ?_
      refine va_getN (D := D) (ci := 6) (v := .int (q.1 1 1)) (C := RX6) (T := TX6) (N := 10) hx hb hts u9_wsX9_few_X6 hown hK hP 1 rfl rfl 1 (by decide) (hN.use (.fieldLinkNest "TurnedFloors" 301 "TurnedFloors$State" "slips" "I" "TurnedFloors") nn9_41) (fun _ h9 => h9) rfl dX9_few_106 ?_
      refine lv_i2l (v := Int32.toInt64 (q.1 1 1)) hx hb dX9_few_109 rfl ?_
      refine lv_lmul hx hb dX9_few_110 ?_
      refine lv_ldc2 (v := 10) hx hb hown (hts (.constantLong RX9 304 10) f9_wsX9_few_923) dX9_few_111 ?_
      refine lv_ldiv hx hb dX9_few_114 (by decide) ?_
      exact WX9_few_s0_115 C0 hk44 hk54 _ _ _ _ _ _ _ _ _ _ h hP hD hS (lv_sub hl [1, 2, 3, 4, 5, 0] rfl)
    · rw [if_pos c9] at h
      refine lv_lconst (v := 0) hx hb dX9_few_89 (by decide) ?_
      refine lv_goto (tgt := 115) hx hb dX9_few_90 (by decide) ?_
      exact WX9_few_s0_115 C0 hk44 hk54 _ _ _ _ _ _ _ _ _ _ h hP hD hS (lv_sub hl [1, 2, 3, 4, 5, 0] rfl)
set_option maxHeartbeats 4000000 in
set_option maxRecDepth 100000 in
theorem WX9_few_s0_54 {p : Program} {l : Launch} {e : Env} {s : State} {m : MethodId} {args : Array Value} {below : List Frame} {meth : Method} {c : Code} {D : va_G} {ty : Nat → ClassId} {eo : Nat → Nat} {A : Nat → Prop} {ad : Nat → Nat} {o1 : Int64} {o2 : dK} (C : dc_C p s m args meth c cX9_few (some .long) 9 RX9 wsX9_few D ty eo A) {k44 : dK → Int32 → Int32 → Int32 → Option (Int64 × dK)} (hk44 : ∀ (q : dK) (x1 : Int32) (x2 : Int32) (x3 : Int32) (H : Heap) (locs : List Loc) (ls : Array Slot), k44 q x1 x2 x3 = some (o1, o2) → va_P D vwCl (wF ty ad q) H → va_D A (wF ty ad q) → va_S A s.heap H locs → lv_has ls 9 [(0, .ref (ad 0)), (1, .int x1), (2, .int x2), (3, .int x3)] → W p l e ({ frames := 1, cells := 0, slots := 0, locals := 24 } : Room) s m args below meth c H locs 0 0 (MQ below (va_Ql (fun (r : Int64) (u : va_W) => o1 = r ∧ wF ty ad o2 = u) (kz_B D ty A) A) args s 0 0 A) (F0 m 44 ls [])) (n : Nat) (q : dK) (x1 : Int32) (x2 : Int32) (x3 : Int32) (x4 : Int32) (H : Heap) (locs : List Loc) (ls : Array Slot) (h : zX9_few_s0_54 k44 n q x1 x2 x3 x4 = some (o1, o2)) (hP : va_P D vwCl (wF ty ad q) H) (hD : va_D A (wF ty ad q)) (hS : va_S A s.heap H locs) (hl : lv_has ls 9 [(0, .ref (ad 0)), (1, .int x1), (2, .int x2), (3, .int x3), (4, .int x4)]) : W p l e ({ frames := 1, cells := 0, slots := 0, locals := 24 } : Room) s m args below meth c H locs 0 0 (MQ below (va_Ql (fun (r : Int64) (u : va_W) => o1 = r ∧ wF ty ad o2 = u) (kz_B D ty A) A) args s 0 0 A) (F0 m 54 ls []) := by
  exact dFix_W (F := fun k (a : dK × Int32 × Int32 × Int32 × Int32) => zX9_few_s0_54b k44 (fun q x1 x2 x3 x4 => k (q, x1, x2, x3, x4)) a.1 a.2.1 a.2.2.1 a.2.2.2.1 a.2.2.2.2) (o := (o1, o2)) (P := fun (a : dK × Int32 × Int32 × Int32 × Int32) H locs ls => va_P D vwCl (wF ty ad a.1) H ∧ va_D A (wF ty ad a.1) ∧ va_S A s.heap H locs ∧ lv_has ls 9 [(0, .ref (ad 0)), (1, .int a.2.1), (2, .int a.2.2.1), (3, .int a.2.2.2.1), (4, .int a.2.2.2.2)]) (G := fun H locs ls => W p l e ({ frames := 1, cells := 0, slots := 0, locals := 24 } : Room) s m args below meth c H locs 0 0 (MQ below (va_Ql (fun (r : Int64) (u : va_W) => o1 = r ∧ wF ty ad o2 = u) (kz_B D ty A) A) args s 0 0 A) (F0 m 54 ls []))
    (fun k hk a H locs ls h hp => WX9_few_s0_54b C hk44 (fun q x1 x2 x3 x4 H locs ls h h1 h2 h3 h4 => hk (q, x1, x2, x3, x4) H locs ls h ⟨h1, h2, h3, h4⟩) a.1 a.2.1 a.2.2.1 a.2.2.2.1 a.2.2.2.2 H locs ls h hp.1 hp.2.1 hp.2.2.1 hp.2.2.2) n (q, x1, x2, x3, x4) H locs ls h ⟨hP, hD, hS, hl⟩
set_option maxHeartbeats 4000000 in
set_option maxRecDepth 100000 in
theorem WX9_few_s0_44b {p : Program} {l : Launch} {e : Env} {s : State} {m : MethodId} {args : Array Value} {below : List Frame} {meth : Method} {c : Code} {D : va_G} {ty : Nat → ClassId} {eo : Nat → Nat} {A : Nat → Prop} {ad : Nat → Nat} {o1 : Int64} {o2 : dK} (C : dc_C p s m args meth c cX9_few (some .long) 9 RX9 wsX9_few D ty eo A) {k44 : dK → Int32 → Int32 → Int32 → Option (Int64 × dK)} (hk44 : ∀ (q : dK) (x1 : Int32) (x2 : Int32) (x3 : Int32) (H : Heap) (locs : List Loc) (ls : Array Slot), k44 q x1 x2 x3 = some (o1, o2) → va_P D vwCl (wF ty ad q) H → va_D A (wF ty ad q) → va_S A s.heap H locs → lv_has ls 9 [(0, .ref (ad 0)), (1, .int x1), (2, .int x2), (3, .int x3)] → W p l e ({ frames := 1, cells := 0, slots := 0, locals := 24 } : Room) s m args below meth c H locs 0 0 (MQ below (va_Ql (fun (r : Int64) (u : va_W) => o1 = r ∧ wF ty ad o2 = u) (kz_B D ty A) A) args s 0 0 A) (F0 m 44 ls [])) (q : dK) (x1 : Int32) (x2 : Int32) (x3 : Int32) (H : Heap) (locs : List Loc) (ls : Array Slot) (h : zX9_few_s0_44b k44 q x1 x2 x3 = some (o1, o2)) (hP : va_P D vwCl (wF ty ad q) H) (hD : va_D A (wF ty ad q)) (hS : va_S A s.heap H locs) (hl : lv_has ls 9 [(0, .ref (ad 0)), (1, .int x1), (2, .int x2), (3, .int x3)]) : W p l e ({ frames := 1, cells := 0, slots := 0, locals := 24 } : Room) s m args below meth c H locs 0 0 (MQ below (va_Ql (fun (r : Int64) (u : va_W) => o1 = r ∧ wF ty ad o2 = u) (kz_B D ty A) A) args s 0 0 A) (F0 m 44 ls []) := by
  have C0 := C
  obtain ⟨hx, hb, hr, hts, hown, hlocks, hml, hK, hN, hE, hA⟩ := C
  unfold zX9_few_s0_44b at h
  refine lv_iload_n hx hb dX9_few_44 rfl (lv_at hl 3 rfl) ?_
  refine lv_iload_n hx hb dX9_few_45 rfl (lv_at hl 2 rfl) ?_
  refine lv_icmp_ge (tgt := 141) hx hb dX9_few_46 (by decide) (fun c9 => ?_) (fun c9 => ?_)
  · rw [if_pos c9] at h
    refine lv_lconst (v := 0) hx hb dX9_few_141 (by decide) ?_
    refine lv_lstore_n (lv' := [(3, .long 0), (0, .ref (ad 0)), (1, .int x1), (2, .int x2)]) hx hb dX9_few_142 rfl hl (by decide) rfl (fun ls hl => ?_)
    refine lv_iconst (v := 0) hx hb dX9_few_143 (by decide) ?_
    refine lv_istore (lv' := [(5, .int 0), (3, .long 0), (0, .ref (ad 0)), (1, .int x1), (2, .int x2)]) hx hb dX9_few_144 hl (by decide) rfl (fun ls hl => ?_)
    exact WX9_few_s0_146 C0  _ _ _ _ _ _ _ _ h hP hD hS (lv_sub hl [2, 3, 1, 0] rfl)
  · rw [if_neg c9] at h
    refine lv_iload_n hx hb dX9_few_49 rfl (lv_at hl 1 rfl) ?_
    refine lv_iconst (v := 1) hx hb dX9_few_50 (by decide) ?_
    refine lv_isub hx hb dX9_few_51 ?_
    refine lv_istore (lv' := [(4, .int (x1 - 1 : Int32)), (0, .ref (ad 0)), (1, .int x1), (2, .int x2), (3, .int x3)]) hx hb dX9_few_52 hl (by decide) rfl (fun ls hl => ?_)
    exact WX9_few_s0_54 C0 hk44 _ _ _ _ _ _ _ _ _ h hP hD hS (lv_sub hl [1, 2, 3, 4, 0] rfl)
set_option maxHeartbeats 4000000 in
set_option maxRecDepth 100000 in
theorem WX9_few_s0_44 {p : Program} {l : Launch} {e : Env} {s : State} {m : MethodId} {args : Array Value} {below : List Frame} {meth : Method} {c : Code} {D : va_G} {ty : Nat → ClassId} {eo : Nat → Nat} {A : Nat → Prop} {ad : Nat → Nat} {o1 : Int64} {o2 : dK} (C : dc_C p s m args meth c cX9_few (some .long) 9 RX9 wsX9_few D ty eo A)   (n : Nat) (q : dK) (x1 : Int32) (x2 : Int32) (x3 : Int32) (H : Heap) (locs : List Loc) (ls : Array Slot) (h : zX9_few_s0_44  n q x1 x2 x3 = some (o1, o2)) (hP : va_P D vwCl (wF ty ad q) H) (hD : va_D A (wF ty ad q)) (hS : va_S A s.heap H locs) (hl : lv_has ls 9 [(0, .ref (ad 0)), (1, .int x1), (2, .int x2), (3, .int x3)]) : W p l e ({ frames := 1, cells := 0, slots := 0, locals := 24 } : Room) s m args below meth c H locs 0 0 (MQ below (va_Ql (fun (r : Int64) (u : va_W) => o1 = r ∧ wF ty ad o2 = u) (kz_B D ty A) A) args s 0 0 A) (F0 m 44 ls []) := by
  exact dFix_W (F := fun k (a : dK × Int32 × Int32 × Int32) => zX9_few_s0_44b  (fun q x1 x2 x3 => k (q, x1, x2, x3)) a.1 a.2.1 a.2.2.1 a.2.2.2) (o := (o1, o2)) (P := fun (a : dK × Int32 × Int32 × Int32) H locs ls => va_P D vwCl (wF ty ad a.1) H ∧ va_D A (wF ty ad a.1) ∧ va_S A s.heap H locs ∧ lv_has ls 9 [(0, .ref (ad 0)), (1, .int a.2.1), (2, .int a.2.2.1), (3, .int a.2.2.2)]) (G := fun H locs ls => W p l e ({ frames := 1, cells := 0, slots := 0, locals := 24 } : Room) s m args below meth c H locs 0 0 (MQ below (va_Ql (fun (r : Int64) (u : va_W) => o1 = r ∧ wF ty ad o2 = u) (kz_B D ty A) A) args s 0 0 A) (F0 m 44 ls []))
    (fun k hk a H locs ls h hp => WX9_few_s0_44b C  (fun q x1 x2 x3 H locs ls h h1 h2 h3 h4 => hk (q, x1, x2, x3) H locs ls h ⟨h1, h2, h3, h4⟩) a.1 a.2.1 a.2.2.1 a.2.2.2 H locs ls h hp.1 hp.2.1 hp.2.2.1 hp.2.2.2) n (q, x1, x2, x3) H locs ls h ⟨hP, hD, hS, hl⟩
set_option maxHeartbeats 4000000 in
set_option maxRecDepth 100000 in
theorem WX9_few_s0_21 {p : Program} {l : Launch} {e : Env} {s : State} {m : MethodId} {args : Array Value} {below : List Frame} {meth : Method} {c : Code} {D : va_G} {ty : Nat → ClassId} {eo : Nat → Nat} {A : Nat → Prop} {ad : Nat → Nat} {o1 : Int64} {o2 : dK} (C : dc_C p s m args meth c cX9_few (some .long) 9 RX9 wsX9_few D ty eo A)   (q : dK)  (H : Heap) (locs : List Loc) (ls : Array Slot) (h : zX9_few_s0_21  q = some (o1, o2)) (hP : va_P D vwCl (wF ty ad q) H) (hD : va_D A (wF ty ad q)) (hS : va_S A s.heap H locs) (hl : lv_has ls 9 []) : W p l e ({ frames := 1, cells := 0, slots := 0, locals := 24 } : Room) s m args below meth c H locs 0 0 (MQ below (va_Ql (fun (r : Int64) (u : va_W) => o1 = r ∧ wF ty ad o2 = u) (kz_B D ty A) A) args s 0 0 A) (F0 m 21 ls []) := by
  have C0 := C
  obtain ⟨hx, hb, hr, hts, hown, hlocks, hml, hK, hN, hE, hA⟩ := C
  unfold zX9_few_s0_21 at h
  refine lv_ldc2 (v := (-1)) hx hb hown (hts (.constantLong RX9 291 (-1)) f9_wsX9_few_924) dX9_few_21 ?_
  cases h
  exact kz_lret hx hb hr hlocks hP hK hD hS dX9_few_24 ⟨rfl, rfl⟩
set_option maxHeartbeats 4000000 in
set_option maxRecDepth 100000 in
theorem qX9_few_s0 (l : Launch) (D : va_G) (ty : Nat → ClassId) (eo : Nat → Nat) (sz : Nat) (ad : Nat → Nat) (q : dK) (p1 : Int32) (p2 : Int32) (o1 : Int64) (o2 : dK) (h : zX9_few_s0 q p1 p2 = some (o1, o2)) : Met l yX9_few wsX9_few ({ frames := 1, cells := 0, slots := 0, locals := 24 } : Room) (va_Pc [.ref (ad 0), .int p1, .int p2] (kz_pre D ty eo (wF ty ad q) sz)) (va_Ql (fun (r : Int64) (u : va_W) => o1 = r ∧ wF ty ad o2 = u) (kz_B D ty (va_A (wF ty ad q) sz)) (va_A (wF ty ad q) sz)) 0 0 (va_A (wF ty ad q) sz) := by
  refine Met.ofW (cc := cX9_few) (maxL := 9) (ret := (some .long)) (by decide) rfl ?_
  intro p e s m args below meth c s₁ B hml hv
  obtain ⟨rfl, hsz, hP, hK, hD0, hN, hE⟩ := hv
  have hx := B.exec
  have hb := B.bytes
  have hr := B.returns
  have hts := atoms_spec (ws := wsX9_few) B.pre
  have hown : s.vm.findClass RX9 = some m.cls := findClass_of_methodNamed B.named
  have hlocks := B.notSynchronized
  subst hsz
  have hD := hD0.self (sz := s.heap.size)
  generalize hAe : va_A (wF ty ad q) s.heap.size = A at hD hE ⊢
  have hA : ∀ q : Nat, s.heap.size ≤ q → A q := fun q h => by rw [← hAe]; exact Or.inr h
  clear hAe
  have hS : va_S A s.heap s.heap [] := va_S.rf
  have hl := lv_entry ([.ref (ad 0), .int p1, .int p2]) (n := 9) (Nat.le_of_ble_eq_true rfl)
  rw [lg_entry_eq]
  generalize (lg_sl ([.ref (ad 0), .int p1, .int p2]) ++ List.replicate (9 - (lg_sl ([.ref (ad 0), .int p1, .int p2])).length) Slot.unset).toArray = ls at hl ⊢
  have hl : lv_has ls 9 [(0, .ref (ad 0)), (1, .int p1), (2, .int p2)] := hl
  have C : dc_C p s m _ meth c cX9_few (some .long) 9 RX9 wsX9_few D ty eo A := ⟨hx, hb, hr, hts, hown, hlocks, hml, hK, hN, hE, hA⟩
  unfold zX9_few_s0 at h
  refine lv_iload_n hx hb dX9_few_0 rfl (lv_at hl 1 rfl) ?_
  refine lv_iconst (v := 1) hx hb dX9_few_1 (by decide) ?_
  refine lv_icmp_lt (tgt := 21) hx hb dX9_few_2 (by decide) (fun c9 => ?_) (fun c9 => ?_)
  · rw [if_pos c9] at h
    exact WX9_few_s0_21 C  _ _ _ _ h hP hD hS (lv_sub hl [] rfl)
  · rw [if_neg c9] at h
    refine lv_iload_n hx hb dX9_few_5 rfl (lv_at hl 1 rfl) ?_
    refine lv_bipush (v := 20) hx hb dX9_few_6 (by decide) ?_
    refine lv_icmp_gt (tgt := 21) hx hb dX9_few_8 (by decide) (fun c9 => ?_) (fun c9 => ?_)
    · rw [if_pos c9] at h
      exact WX9_few_s0_21 C  _ _ _ _ h hP hD hS (lv_sub hl [] rfl)
    · rw [if_neg c9] at h
      refine lv_iload_n hx hb dX9_few_11 rfl (lv_at hl 2 rfl) ?_
      refine lv_if_lt (tgt := 21) hx hb dX9_few_12 (by decide) (fun c9 => ?_) (fun c9 => ?_)
      · rw [if_pos c9] at h
        exact WX9_few_s0_21 C  _ _ _ _ h hP hD hS (lv_sub hl [] rfl)
      · rw [if_neg c9] at h
        refine lv_iload_n hx hb dX9_few_15 rfl (lv_at hl 2 rfl) ?_
        refine lv_bipush (v := 99) hx hb dX9_few_16 (by decide) ?_
        refine lv_icmp_le (tgt := 25) hx hb dX9_few_18 (by decide) (fun c9 => ?_) (fun c9 => ?_)
        · rw [if_pos c9] at h
          refine lv_aload_n hx hb dX9_few_25 rfl (lv_at hl 0 rfl) ?_
          refine va_get (D := D) (ci := 9) (v := .ref (ad 47)) (C := RX9) (T := TX9) (N := 19) hx hb hts u9_wsX9_few_X9 hown hK hP 0 rfl rfl 16 (by decide) (hts (.fieldLink RX9 101 "TurnedFloors" "chances" "[J") f9_wsX9_few_920) (fun _ h9 => h9) rfl dX9_few_26 ?_
          refine lv_lconst (v := 0) hx hb dX9_few_29 (by decide) ?_
          refine dw_kv1 (j := 47) rfl (va_runS (As := [.ref (ad 47), .long 0]) (rest := []) ⟨hx, hb, hml, hown, hts⟩ (cJ7_fillL l D ty eo _ (ad 47) 20 _ 0 (by decide)) (va_cwS 2 hts gX9_few_J7_fill_d0a16 rfl rfl rfl hd_J7_fill_d0a16 ⟨Nat.le_of_ble_eq_true rfl, Nat.le_of_ble_eq_true rfl⟩) (kz_preS hK hN hE hP hD hS hA [47] (by decide) rfl) rfl rfl hl.1 rfl (lv_room (Nat.le_of_ble_eq_true rfl)) dX9_few_30 ⟨Nat.le_of_ble_eq_true rfl, Nat.le_of_ble_eq_true rfl⟩) hP hD hS hA (fun u9 h9 => h9.symm) (fun H locs hp hd hs => ?_)
          obtain ⟨q1, eq1, h⟩ := dL_some h
          refine kz_re (w2 := wF ty ad q1) hp hd hs (by rw [← eq1]; exact rfl) ?_
          clear hp hd hs hP hD hS
          intro hP hD hS
          refine lv_aload_n hx hb dX9_few_33 rfl (lv_at hl 0 rfl) ?_
          refine va_get (D := D) (ci := 9) (v := .ref (ad 47)) (C := RX9) (T := TX9) (N := 19) hx hb hts u9_wsX9_few_X9 hown hK hP 0 rfl rfl 16 (by decide) (hts (.fieldLink RX9 101 "TurnedFloors" "chances" "[J") f9_wsX9_few_920) (fun _ h9 => h9) rfl dX9_few_34 ?_
          refine lv_iconst (v := 0) hx hb dX9_few_37 (by decide) ?_
          refine lv_ldc2 (v := 1000000000000) hx hb hown (hts (.constantLong RX9 299 1000000000000) f9_wsX9_few_925) dX9_few_38 ?_
          refine va_last hx hb hK hP hD hS 47 1 rfl rfl (by simp only [vp_in]; decide) dX9_few_41 (fun H locs hp hd hs => ?_)
          obtain ⟨q2, eq2, h⟩ := dL_some h
          refine kz_re (w2 := wF ty ad q2) hp hd hs (by rw [(by decide +kernel : Int32.toNatClampNeg 0 = 0), ← eq2]; exact wF_a47 ty ad q1 0 1000000000000) ?_
          clear hp hd hs hP hD hS
          intro hP hD hS
          refine lv_iconst (v := 0) hx hb dX9_few_42 (by decide) ?_
          refine lv_istore_n (lv' := [(3, .int 0), (0, .ref (ad 0)), (1, .int p1), (2, .int p2)]) hx hb dX9_few_43 rfl hl (by decide) rfl (fun ls hl => ?_)
          exact WX9_few_s0_44 C  _ _ _ _ _ _ _ _ h hP hD hS (lv_sub hl [1, 2, 3, 0] rfl)
        · rw [if_neg c9] at h
          exact WX9_few_s0_21 C  _ _ _ _ h hP hD hS (lv_sub hl [] rfl)

set_option maxHeartbeats 4000000 in
set_option maxRecDepth 100000 in
theorem WX9_compare_s0_18 {p : Program} {l : Launch} {e : Env} {s : State} {m : MethodId} {args : Array Value} {below : List Frame} {meth : Method} {c : Code} {D : va_G} {ty : Nat → ClassId} {eo : Nat → Nat} {A : Nat → Prop} {ad : Nat → Nat} {o1 : Int32} {o2 : dK} {nc ns : Nat} {ad0 : Nat → Nat} (hag : dAg ad0 ad) (C : dc_C p s m args meth c cX9_compare (some .int) 2 RX9 wsX9_compare D ty eo A)   (q : dK) (x1 : Int32) (H : Heap) (locs : List Loc) (ls : Array Slot) (h : zX9_compare_s0_18 nc ns  q x1 = some (o1, o2)) (hP : va_P D vwCl (wF ty ad q) H) (hD : va_D A (wF ty ad q)) (hS : va_S A s.heap H locs) (hl : lv_has ls 2 [(0, .ref (ad 0)), (1, .int x1)]) : W p l e ({ frames := 6, cells := nc, slots := ns, locals := 160 } : Room) s m args below meth c H locs 0 0 (MQ below (va_Qi (fun (r : Int32) (u : va_W) => o1 = r ∧ ∃ ad9 : Nat → Nat, dAg ad0 ad9 ∧ wF ty ad9 o2 = u) (kz_B D ty A) A) args s nc ns A) (F0 m 18 ls []) := by
  have C0 := C
  obtain ⟨hx, hb, hr, hts, hown, hlocks, hml, hK, hN, hE, hA⟩ := C
  unfold zX9_compare_s0_18 at h
  refine lv_aload_n hx hb dX9_compare_18 rfl (lv_at hl 0 rfl) ?_
  refine va_get (D := D) (ci := 9) (v := .ref (ad 20)) (C := RX9) (T := TX9) (N := 19) hx hb hts u9_wsX9_compare_X9 hown hK hP 0 rfl rfl 6 (by decide) (hts (.fieldLink RX9 50 "TurnedFloors" "judge" "LTurnedFloors$Judge;") f9_wsX9_compare_928) (fun _ h9 => h9) rfl dX9_compare_19 ?_
  refine lv_aload_n hx hb dX9_compare_22 rfl (lv_at hl 0 rfl) ?_
  refine va_get (D := D) (ci := 9) (v := .ref (ad 1)) (C := RX9) (T := TX9) (N := 19) hx hb hts u9_wsX9_compare_X9 hown hK hP 0 rfl rfl 0 (by decide) (hts (.fieldLink RX9 10 "TurnedFloors" "state" "LTurnedFloors$State;") f9_wsX9_compare_929) (fun _ h9 => h9) rfl dX9_compare_23 ?_
  refine lv_iload_n hx hb dX9_compare_26 rfl (lv_at hl 1 rfl) ?_
  obtain ⟨r1, q3, h2, h⟩ := dB_some h
  refine dw_kq (va_runV (As := [.int x1]) (rest := [.ref (ad 20)]) ⟨hx, hb, hml, hown, hts⟩ (qX6_lawAt_s1 l D ty eo _ ad q x1 r1 q3 h2) (cwV 1 hts gX9_compare_X6_lawAt rfl rfl rfl hd_X6_lawAt_v ⟨Nat.le_of_ble_eq_true rfl, Nat.le_of_ble_eq_true rfl⟩) (pvF_6_1 hK hN hE hP hD hS hA) rfl rfl hl.1 rfl (lv_room (Nat.le_of_ble_eq_true rfl)) dX9_compare_27 ⟨Nat.zero_le _, Nat.zero_le _⟩) hP hD hS hA (fun r9 u9 H locs hw hp hd hs => ?_)
  clear hP hD hS
  obtain ⟨rfl, rfl⟩ := hw
  have hP := hp; have hD := hd; have hS := hs; clear hp hd hs
  by_cases c4 : r1 = 0
  · rw [if_pos c4] at h
    refine kz_topv (if_pos c4) ?_
    refine lv_aload_n hx hb dX9_compare_30 rfl (lv_at hl 0 rfl) ?_
    refine va_get (D := D) (ci := 9) (v := .ref (ad 1)) (C := RX9) (T := TX9) (N := 19) hx hb hts u9_wsX9_compare_X9 hown hK hP 0 rfl rfl 0 (by decide) (hts (.fieldLink RX9 10 "TurnedFloors" "state" "LTurnedFloors$State;") f9_wsX9_compare_929) (fun _ h9 => h9) rfl dX9_compare_31 ?_
    refine va_getN (D := D) (ci := 6) (v := .int (q3.1 1 2)) (C := RX6) (T := TX6) (N := 10) hx hb hts u9_wsX9_compare_X6 hown hK hP 1 rfl rfl 2 (by decide) (hN.use (.fieldLinkNest "TurnedFloors" 310 "TurnedFloors$State" "mood" "I" "TurnedFloors") nn9_3) (fun _ h9 => h9) rfl dX9_compare_34 ?_
    obtain ⟨q7, h6, h⟩ := dV_some h
    refine dw_kv (va_runV (As := [.null, .int (q3.1 1 2)]) (rest := []) ⟨hx, hb, hml, hown, hts⟩ (qX1_seat_s20_n l D ty eo _ ad q3 (q3.1 1 2) q7 h6) (cwV 2 hts gX9_compare_X1_seat rfl rfl rfl hd_X1_seat_v ⟨Nat.le_of_ble_eq_true rfl, Nat.le_of_ble_eq_true rfl⟩) (pvF_1_20 hK hN hE hP hD hS hA) rfl rfl hl.1 rfl (lv_room (Nat.le_of_ble_eq_true rfl)) dX9_compare_37 ⟨Nat.zero_le _, Nat.zero_le _⟩) hD hS hA (fun u9 H locs hw hp hd hs => ?_)
    clear hP hD hS
    obtain rfl := hw
    have hP := hp; have hD := hd; have hS := hs; clear hp hd hs
    refine lv_aload_n hx hb dX9_compare_40 rfl (lv_at hl 0 rfl) ?_
    refine lv_aload_n hx hb dX9_compare_41 rfl (lv_at hl 0 rfl) ?_
    refine va_get (D := D) (ci := 9) (v := .ref (ad 20)) (C := RX9) (T := TX9) (N := 19) hx hb hts u9_wsX9_compare_X9 hown hK hP 0 rfl rfl 6 (by decide) (hts (.fieldLink RX9 50 "TurnedFloors" "judge" "LTurnedFloors$Judge;") f9_wsX9_compare_928) (fun _ h9 => h9) rfl dX9_compare_42 ?_
    obtain ⟨q10, h9, h⟩ := dV_some h
    refine dw_kv (va_runV (As := [.ref (ad 20)]) (rest := []) ⟨hx, hb, hml, hown, hts⟩ (qX9_spread_s0_s20 l D ty eo _ ad nc ns q7  q10 h9) (cwV 1 hts gX9_compare_X9_spread rfl rfl rfl hd_X9_spread_v ⟨Nat.le_of_ble_eq_true rfl, Nat.le_of_ble_eq_true rfl⟩) (pvF_9_0 hK hN hE hP hD hS hA) rfl rfl hl.1 rfl (lv_room (Nat.le_of_ble_eq_true rfl)) dX9_compare_45 ⟨by show 0 + nc ≤ nc; omega, by show 0 + ns ≤ ns; omega⟩) hD hS hA (fun u9 H locs hw hp hd hs => ?_)
    clear hP hD hS
    obtain ⟨ad, hag1, rfl⟩ := hw
    replace hag := dAg_t hag hag1
    rw [dAg_s hag1 0 (by decide)] at hl
    clear hag1
    refine dw_up (c2 := nc) (s2 := ns) (by omega) (by omega) ?_
    have hP := hp; have hD := hd; have hS := hs; clear hp hd hs
    refine lv_aload_n hx hb dX9_compare_48 rfl (lv_at hl 0 rfl) ?_
    refine va_get (D := D) (ci := 9) (v := .ref (ad 32)) (C := RX9) (T := TX9) (N := 19) hx hb hts u9_wsX9_compare_X9 hown hK hP 0 rfl rfl 10 (by decide) (hts (.fieldLink RX9 80 "TurnedFloors" "paper" "LTurnedFloors$Paper;") f9_wsX9_compare_930) (fun _ h9 => h9) rfl dX9_compare_49 ?_
    obtain ⟨r11, q13, h12, h⟩ := dB_some h
    refine dw_ki (va_runV (As := []) (rest := []) ⟨hx, hb, hml, hown, hts⟩ (qX3_turnsToOrder_s32 l D ty eo _ ad q10  r11 q13 h12) (cwV 0 hts gX9_compare_X3_turnsToOrder rfl rfl rfl hd_X3_turnsToOrder_v ⟨Nat.le_of_ble_eq_true rfl, Nat.le_of_ble_eq_true rfl⟩) (pvF_3_32 hK hN hE hP hD hS hA) rfl rfl hl.1 rfl (lv_room (Nat.le_of_ble_eq_true rfl)) dX9_compare_52 ⟨Nat.le_refl _, Nat.le_refl _⟩) hD hS hA (fun r9 u9 H locs hw hp hd hs => ?_)
    clear hP hD hS
    obtain ⟨rfl, rfl⟩ := hw
    have hP := hp; have hD := hd; have hS := hs; clear hp hd hs
    cases h
    exact kz_iret hx hb hr hlocks hP hK hD hS dX9_compare_55 ⟨rfl, ad, hag, rfl⟩
  · rw [if_neg c4] at h
    refine kz_topv (if_neg c4) ?_
    refine lv_aload_n hx hb dX9_compare_30 rfl (lv_at hl 0 rfl) ?_
    refine va_get (D := D) (ci := 9) (v := .ref (ad 1)) (C := RX9) (T := TX9) (N := 19) hx hb hts u9_wsX9_compare_X9 hown hK hP 0 rfl rfl 0 (by decide) (hts (.fieldLink RX9 10 "TurnedFloors" "state" "LTurnedFloors$State;") f9_wsX9_compare_929) (fun _ h9 => h9) rfl dX9_compare_31 ?_
    refine va_getN (D := D) (ci := 6) (v := .int (q3.1 1 2)) (C := RX6) (T := TX6) (N := 10) hx hb hts u9_wsX9_compare_X6 hown hK hP 1 rfl rfl 2 (by decide) (hN.use (.fieldLinkNest "TurnedFloors" 310 "TurnedFloors$State" "mood" "I" "TurnedFloors") nn9_3) (fun _ h9 => h9) rfl dX9_compare_34 ?_
    obtain ⟨q16, h15, h⟩ := dV_some h
    refine dw_kv (va_runV (As := [.ref (ad (63 + 7 * dLi r1)), .int (q3.1 1 2)]) (rest := []) ⟨hx, hb, hml, hown, hts⟩ (qX1_seat_s20_l l D ty eo _ ad q3 r1 (q3.1 1 2) q16 h15) (cwV 2 hts gX9_compare_X1_seat rfl rfl rfl hd_X1_seat_v ⟨Nat.le_of_ble_eq_true rfl, Nat.le_of_ble_eq_true rfl⟩) (pvF_1_20 hK hN hE hP hD hS hA) rfl rfl hl.1 rfl (lv_room (Nat.le_of_ble_eq_true rfl)) dX9_compare_37 ⟨Nat.zero_le _, Nat.zero_le _⟩) hD hS hA (fun u9 H locs hw hp hd hs => ?_)
    clear hP hD hS
    obtain rfl := hw
    have hP := hp; have hD := hd; have hS := hs; clear hp hd hs
    refine lv_aload_n hx hb dX9_compare_40 rfl (lv_at hl 0 rfl) ?_
    refine lv_aload_n hx hb dX9_compare_41 rfl (lv_at hl 0 rfl) ?_
    refine va_get (D := D) (ci := 9) (v := .ref (ad 20)) (C := RX9) (T := TX9) (N := 19) hx hb hts u9_wsX9_compare_X9 hown hK hP 0 rfl rfl 6 (by decide) (hts (.fieldLink RX9 50 "TurnedFloors" "judge" "LTurnedFloors$Judge;") f9_wsX9_compare_928) (fun _ h9 => h9) rfl dX9_compare_42 ?_
    obtain ⟨q19, h18, h⟩ := dV_some h
    refine dw_kv (va_runV (As := [.ref (ad 20)]) (rest := []) ⟨hx, hb, hml, hown, hts⟩ (qX9_spread_s0_s20 l D ty eo _ ad nc ns q16  q19 h18) (cwV 1 hts gX9_compare_X9_spread rfl rfl rfl hd_X9_spread_v ⟨Nat.le_of_ble_eq_true rfl, Nat.le_of_ble_eq_true rfl⟩) (pvF_9_0 hK hN hE hP hD hS hA) rfl rfl hl.1 rfl (lv_room (Nat.le_of_ble_eq_true rfl)) dX9_compare_45 ⟨by show 0 + nc ≤ nc; omega, by show 0 + ns ≤ ns; omega⟩) hD hS hA (fun u9 H locs hw hp hd hs => ?_)
    clear hP hD hS
    obtain ⟨ad, hag1, rfl⟩ := hw
    replace hag := dAg_t hag hag1
    rw [dAg_s hag1 0 (by decide)] at hl
    clear hag1
    refine dw_up (c2 := nc) (s2 := ns) (by omega) (by omega) ?_
    have hP := hp; have hD := hd; have hS := hs; clear hp hd hs
    refine lv_aload_n hx hb dX9_compare_48 rfl (lv_at hl 0 rfl) ?_
    refine va_get (D := D) (ci := 9) (v := .ref (ad 32)) (C := RX9) (T := TX9) (N := 19) hx hb hts u9_wsX9_compare_X9 hown hK hP 0 rfl rfl 10 (by decide) (hts (.fieldLink RX9 80 "TurnedFloors" "paper" "LTurnedFloors$Paper;") f9_wsX9_compare_930) (fun _ h9 => h9) rfl dX9_compare_49 ?_
    obtain ⟨r20, q22, h21, h⟩ := dB_some h
    refine dw_ki (va_runV (As := []) (rest := []) ⟨hx, hb, hml, hown, hts⟩ (qX3_turnsToOrder_s32 l D ty eo _ ad q19  r20 q22 h21) (cwV 0 hts gX9_compare_X3_turnsToOrder rfl rfl rfl hd_X3_turnsToOrder_v ⟨Nat.le_of_ble_eq_true rfl, Nat.le_of_ble_eq_true rfl⟩) (pvF_3_32 hK hN hE hP hD hS hA) rfl rfl hl.1 rfl (lv_room (Nat.le_of_ble_eq_true rfl)) dX9_compare_52 ⟨Nat.le_refl _, Nat.le_refl _⟩) hD hS hA (fun r9 u9 H locs hw hp hd hs => ?_)
    clear hP hD hS
    obtain ⟨rfl, rfl⟩ := hw
    have hP := hp; have hD := hd; have hS := hs; clear hp hd hs
    cases h
    exact kz_iret hx hb hr hlocks hP hK hD hS dX9_compare_55 ⟨rfl, ad, hag, rfl⟩
set_option maxHeartbeats 4000000 in
set_option maxRecDepth 100000 in
theorem qX9_compare_s0 (l : Launch) (D : va_G) (ty : Nat → ClassId) (eo : Nat → Nat) (sz : Nat) (ad : Nat → Nat) (nc ns : Nat) (q : dK) (p1 : Int32) (o1 : Int32) (o2 : dK) (h : zX9_compare_s0 nc ns q p1 = some (o1, o2)) : Met l yX9_compare wsX9_compare ({ frames := 6, cells := nc, slots := ns, locals := 160 } : Room) (va_Pc [.ref (ad 0), .int p1] (kz_pre D ty eo (wF ty ad q) sz)) (va_Qi (fun (r : Int32) (u : va_W) => o1 = r ∧ ∃ ad9 : Nat → Nat, dAg ad ad9 ∧ wF ty ad9 o2 = u) (kz_B D ty (va_A (wF ty ad q) sz)) (va_A (wF ty ad q) sz)) nc ns (va_A (wF ty ad q) sz) := by
  have hag : dAg ad ad := fun _ _ => rfl
  refine Met.ofW (cc := cX9_compare) (maxL := 2) (ret := (some .int)) (by decide) rfl ?_
  intro p e s m args below meth c s₁ B hml hv
  obtain ⟨rfl, hsz, hP, hK, hD0, hN, hE⟩ := hv
  have hx := B.exec
  have hb := B.bytes
  have hr := B.returns
  have hts := atoms_spec (ws := wsX9_compare) B.pre
  have hown : s.vm.findClass RX9 = some m.cls := findClass_of_methodNamed B.named
  have hlocks := B.notSynchronized
  subst hsz
  have hD := hD0.self (sz := s.heap.size)
  generalize hAe : va_A (wF ty ad q) s.heap.size = A at hD hE ⊢
  have hA : ∀ q : Nat, s.heap.size ≤ q → A q := fun q h => by rw [← hAe]; exact Or.inr h
  clear hAe
  have hS : va_S A s.heap s.heap [] := va_S.rf
  have hl := lv_entry ([.ref (ad 0), .int p1]) (n := 2) (Nat.le_of_ble_eq_true rfl)
  rw [lg_entry_eq]
  generalize (lg_sl ([.ref (ad 0), .int p1]) ++ List.replicate (2 - (lg_sl ([.ref (ad 0), .int p1])).length) Slot.unset).toArray = ls at hl ⊢
  have hl : lv_has ls 2 [(0, .ref (ad 0)), (1, .int p1)] := hl
  have C : dc_C p s m _ meth c cX9_compare (some .int) 2 RX9 wsX9_compare D ty eo A := ⟨hx, hb, hr, hts, hown, hlocks, hml, hK, hN, hE, hA⟩
  unfold zX9_compare_s0 at h
  refine lv_iload_n hx hb dX9_compare_0 rfl (lv_at hl 1 rfl) ?_
  refine lv_iconst (v := (-1)) hx hb dX9_compare_1 (by decide) ?_
  refine lv_icmp_eq (tgt := 18) hx hb dX9_compare_2 (by decide) (fun c9 => ?_) (fun c9 => ?_)
  · rw [if_pos c9] at h
    exact WX9_compare_s0_18 hag C  _ _ _ _ _ h hP hD hS (lv_sub hl [0, 1] rfl)
  · rw [if_neg c9] at h
    refine lv_aload_n hx hb dX9_compare_5 rfl (lv_at hl 0 rfl) ?_
    refine va_get (D := D) (ci := 9) (v := .ref (ad 1)) (C := RX9) (T := TX9) (N := 19) hx hb hts u9_wsX9_compare_X9 hown hK hP 0 rfl rfl 0 (by decide) (hts (.fieldLink RX9 10 "TurnedFloors" "state" "LTurnedFloors$State;") f9_wsX9_compare_929) (fun _ h9 => h9) rfl dX9_compare_6 ?_
    refine lv_iload_n hx hb dX9_compare_9 rfl (lv_at hl 1 rfl) ?_
    obtain ⟨r1, q3, h2, h⟩ := dB_some h
    refine dw_ki (va_runV (As := [.int p1]) (rest := []) ⟨hx, hb, hml, hown, hts⟩ (qX6_isLaw_s1 l D ty eo _ ad q p1 r1 q3 h2) (cwV 1 hts gX9_compare_X6_isLaw rfl rfl rfl hd_X6_isLaw_v ⟨Nat.le_of_ble_eq_true rfl, Nat.le_of_ble_eq_true rfl⟩) (pvF_6_1 hK hN hE hP hD hS hA) rfl rfl hl.1 rfl (lv_room (Nat.le_of_ble_eq_true rfl)) dX9_compare_10 ⟨Nat.zero_le _, Nat.zero_le _⟩) hD hS hA (fun r9 u9 H locs hw hp hd hs => ?_)
    clear hP hD hS
    obtain ⟨rfl, rfl⟩ := hw
    have hP := hp; have hD := hd; have hS := hs; clear hp hd hs
    refine lv_if_ne (tgt := 18) hx hb dX9_compare_13 (by decide) (fun c9 => ?_) (fun c9 => ?_)
    · rw [if_neg c9] at h
      exact WX9_compare_s0_18 hag C  _ _ _ _ _ h hP hD hS (lv_sub hl [0, 1] rfl)
    · rw [if_pos c9] at h
      refine lv_iconst (v := (-1)) hx hb dX9_compare_16 (by decide) ?_
      refine dw_up (c2 := nc) (s2 := ns) (Nat.zero_le _) (Nat.zero_le _) ?_
      cases h
      exact kz_iret hx hb hr hlocks hP hK hD hS dX9_compare_17 ⟨rfl, ad, hag, rfl⟩
end
section
theorem da9_dX9_nextDraw_0 : (decode cX9_nextDraw 0 = .ok (.iload_n 0, 1)) ∧ (decode cX9_nextDraw 1 = .ok (.i2l, 1)) ∧ (decode cX9_nextDraw 2 = .ok (.ldc2_w 350, 3)) ∧ (decode cX9_nextDraw 5 = .ok (.lmul, 1)) ∧ (decode cX9_nextDraw 6 = .ok (.ldc2_w 352, 3)) ∧ (decode cX9_nextDraw 9 = .ok (.ladd, 1)) ∧ (decode cX9_nextDraw 10 = .ok (.ldc2_w 354, 3)) ∧ (decode cX9_nextDraw 13 = .ok (.lrem, 1)) ∧ (decode cX9_nextDraw 14 = .ok (.l2i, 1)) ∧ (decode cX9_nextDraw 15 = .ok (.ireturn, 1)) := by decide +kernel
theorem dX9_nextDraw_0 : decode cX9_nextDraw 0 = .ok (.iload_n 0, 1) := da9_dX9_nextDraw_0.1
theorem dX9_nextDraw_1 : decode cX9_nextDraw 1 = .ok (.i2l, 1) := da9_dX9_nextDraw_0.2.1
theorem dX9_nextDraw_2 : decode cX9_nextDraw 2 = .ok (.ldc2_w 350, 3) := da9_dX9_nextDraw_0.2.2.1
theorem dX9_nextDraw_5 : decode cX9_nextDraw 5 = .ok (.lmul, 1) := da9_dX9_nextDraw_0.2.2.2.1
theorem dX9_nextDraw_6 : decode cX9_nextDraw 6 = .ok (.ldc2_w 352, 3) := da9_dX9_nextDraw_0.2.2.2.2.1
theorem dX9_nextDraw_9 : decode cX9_nextDraw 9 = .ok (.ladd, 1) := da9_dX9_nextDraw_0.2.2.2.2.2.1
theorem dX9_nextDraw_10 : decode cX9_nextDraw 10 = .ok (.ldc2_w 354, 3) := da9_dX9_nextDraw_0.2.2.2.2.2.2.1
theorem dX9_nextDraw_13 : decode cX9_nextDraw 13 = .ok (.lrem, 1) := da9_dX9_nextDraw_0.2.2.2.2.2.2.2.1
theorem dX9_nextDraw_14 : decode cX9_nextDraw 14 = .ok (.l2i, 1) := da9_dX9_nextDraw_0.2.2.2.2.2.2.2.2.1
theorem dX9_nextDraw_15 : decode cX9_nextDraw 15 = .ok (.ireturn, 1) := da9_dX9_nextDraw_0.2.2.2.2.2.2.2.2.2
end
