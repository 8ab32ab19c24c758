theorem u9_wsX8_rises_X8 : ∀ w ∈ u_ws RX8 TX8 5, w ∈ wsX8_rises := by
  first | exact fun w h => List.mem_cons_of_mem _ (List.mem_append_right _ h) | decide +kernel
theorem f9_wsX8_rises_884 : (Cond.fieldLink RX8 9 "TurnedFloors$Tower" "rank" "[I") ∈ wsX8_rises := by decide +kernel
theorem f9_wsX8_rises_885 : (Cond.fieldLink RX8 18 "TurnedFloors$Tower" "floors" "I") ∈ wsX8_rises := by decide +kernel
theorem f9_wsX8_rises_886 : (Cond.fieldLink RX8 15 "TurnedFloors$Tower" "head" "[I") ∈ wsX8_rises := by decide +kernel
theorem u9_wsX9_stays_X9 : ∀ w ∈ u_ws RX9 TX9 19, w ∈ wsX9_stays := by
  first | exact fun w h => List.mem_cons_of_mem _ (List.mem_append_right _ h) | decide +kernel
theorem u9_wsX9_stays_X6 : ∀ w ∈ u_ws RX6 TX6 10, w ∈ wsX9_stays := by
  first | exact fun w h => List.mem_cons_of_mem _ (List.mem_append_right _ h) | decide +kernel
theorem u9_wsX9_stays_X8 : ∀ w ∈ u_ws RX8 TX8 5, w ∈ wsX9_stays := by
  first | exact fun w h => List.mem_cons_of_mem _ (List.mem_append_right _ h) | decide +kernel
theorem f9_wsX9_stays_890 : (Cond.fieldLink RX9 10 "TurnedFloors" "state" "LTurnedFloors$State;") ∈ wsX9_stays := by decide +kernel
theorem u9_wsX9_seen_X9 : ∀ w ∈ u_ws RX9 TX9 19, w ∈ wsX9_seen := by
  first | exact fun w h => List.mem_cons_of_mem _ (List.mem_append_right _ h) | decide +kernel
theorem u9_wsX9_seen_X6 : ∀ w ∈ u_ws RX6 TX6 10, w ∈ wsX9_seen := by
  first | exact fun w h => List.mem_cons_of_mem _ (List.mem_append_right _ h) | decide +kernel
theorem f9_wsX9_seen_893 : (Cond.fieldLink RX9 10 "TurnedFloors" "state" "LTurnedFloors$State;") ∈ wsX9_seen := by decide +kernel
theorem u9_wsX9_forget_X9 : ∀ w ∈ u_ws RX9 TX9 19, w ∈ wsX9_forget := by
  first | exact fun w h => List.mem_cons_of_mem _ (List.mem_append_right _ h) | decide +kernel
theorem u9_wsX9_forget_X6 : ∀ w ∈ u_ws RX6 TX6 10, w ∈ wsX9_forget := by
  first | exact fun w h => List.mem_cons_of_mem _ (List.mem_append_right _ h) | decide +kernel
theorem f9_wsX9_forget_896 : (Cond.fieldLink RX9 10 "TurnedFloors" "state" "LTurnedFloors$State;") ∈ wsX9_forget := by decide +kernel
theorem u9_wsX8_rankBehindTurn_X8 : ∀ w ∈ u_ws RX8 TX8 5, w ∈ wsX8_rankBehindTurn := by
  first | exact fun w h => List.mem_cons_of_mem _ (List.mem_append_right _ h) | decide +kernel
theorem f9_wsX8_rankBehindTurn_898 : (Cond.fieldLink RX8 9 "TurnedFloors$Tower" "rank" "[I") ∈ wsX8_rankBehindTurn := by decide +kernel
theorem u9_wsX6_agrees_X6 : ∀ w ∈ u_ws RX6 TX6 10, w ∈ wsX6_agrees := by
  first | exact fun w h => List.mem_cons_of_mem _ (List.mem_append_right _ h) | decide +kernel
theorem f9_wsX6_agrees_900 : (Cond.fieldLink RX6 35 "TurnedFloors$State" "seenCount" "I") ∈ wsX6_agrees := by decide +kernel
theorem f9_wsX6_agrees_901 : (Cond.fieldLink RX6 12 "TurnedFloors$State" "tower" "LTurnedFloors$Tower;") ∈ wsX6_agrees := by decide +kernel
theorem f9_wsX6_agrees_902 : (Cond.fieldLink RX6 28 "TurnedFloors$State" "seenPlace" "[I") ∈ wsX6_agrees := by decide +kernel
theorem f9_wsX6_agrees_903 : (Cond.fieldLink RX6 32 "TurnedFloors$State" "seenRank" "[I") ∈ wsX6_agrees := by decide +kernel
theorem u9_wsX9_was_X9 : ∀ w ∈ u_ws RX9 TX9 19, w ∈ wsX9_was := by
  first | exact fun w h => List.mem_cons_of_mem _ (List.mem_append_right _ h) | decide +kernel
theorem u9_wsX9_was_X6 : ∀ w ∈ u_ws RX6 TX6 10, w ∈ wsX9_was := by
  first | exact fun w h => List.mem_cons_of_mem _ (List.mem_append_right _ h) | decide +kernel
theorem u9_wsX9_was_X8 : ∀ w ∈ u_ws RX8 TX8 5, w ∈ wsX9_was := by
  first | exact fun w h => List.mem_cons_of_mem _ (List.mem_append_right _ h) | decide +kernel
theorem f9_wsX9_was_907 : (Cond.fieldLink RX9 10 "TurnedFloors" "state" "LTurnedFloors$State;") ∈ wsX9_was := by decide +kernel
set_option maxHeartbeats 4000000 in
set_option maxRecDepth 100000 in
theorem WX8_rises_s2_61 {p : Program} {l : Launch} {e : Env} {s : State} {m : MethodId} {args : Array Value} {below : List Frame} {meth : Method} {c : Code} {D : va_G} {ty : Nat → ClassId} {eo : Nat → Nat} {A : Nat → Prop} {ad : Nat → Nat} {o1 : Int32} {o2 : dK} (C : dc_C p s m args meth c cX8_rises (some .boolean) 5 RX8 wsX8_rises D ty eo A) {k5 : dK → Int32 → Int32 → Int32 → Int32 → Option (Int32 × dK)} (hk5 : ∀ (q : dK) (x1 : Int32) (x2 : Int32) (x3 : Int32) (x4 : Int32) (H : Heap) (locs : List Loc) (ls : Array Slot), k5 q x1 x2 x3 x4 = some (o1, o2) → va_P D vwCl (wF ty ad q) H → va_D A (wF ty ad q) → va_S A s.heap H locs → lv_has ls 5 [(0, .ref (ad 2)), (1, .int x1), (2, .int x2), (3, .int x3), (4, .int x4)] → W p l e ({ frames := 0, cells := 0, slots := 0, locals := 0 } : Room) s m args below meth c H locs 0 0 (MQ below (va_Qi (fun (r : Int32) (u : va_W) => o1 = r ∧ wF ty ad o2 = u) (kz_B D ty A) A) args s 0 0 A) (F0 m 5 ls [])) (q : dK) (x1 : Int32) (x2 : Int32) (x3 : Int32) (x4 : Int32) (H : Heap) (locs : List Loc) (ls : Array Slot) (h : zX8_rises_s2_61 k5 q x1 x2 x3 x4 = some (o1, o2)) (hP : va_P D vwCl (wF ty ad q) H) (hD : va_D A (wF ty ad q)) (hS : va_S A s.heap H locs) (hl : lv_has ls 5 [(0, .ref (ad 2)), (1, .int x1), (2, .int x2), (3, .int x3), (4, .int x4)]) : W p l e ({ frames := 0, cells := 0, slots := 0, locals := 0 } : Room) s m args below meth c H locs 0 0 (MQ below (va_Qi (fun (r : Int32) (u : va_W) => o1 = r ∧ wF ty ad o2 = u) (kz_B D ty A) A) args s 0 0 A) (F0 m 61 ls []) := by
  have C0 := C
  obtain ⟨hx, hb, hr, hts, hown, hlocks, hml, hK, hN, hE, hA⟩ := C
  unfold zX8_rises_s2_61 at h
  refine lv_iinc (v := x4 + 1) (lv' := [(4, .int (x4 + 1)), (0, .ref (ad 2)), (1, .int x1), (2, .int x2), (3, .int x3)]) hx hb dX8_rises_61 hl (k := 4) rfl rfl (by decide) rfl (fun ls hl => ?_)
  refine lv_goto (tgt := 5) hx hb dX8_rises_64 (by decide) ?_
  exact hk5 _ _ _ _ _ _ _ _ h hP hD hS (lv_sub hl [1, 2, 3, 4, 0] rfl)
set_option maxHeartbeats 4000000 in
set_option maxRecDepth 100000 in
theorem WX8_rises_s2_53 {p : Program} {l : Launch} {e : Env} {s : State} {m : MethodId} {args : Array Value} {below : List Frame} {meth : Method} {c : Code} {D : va_G} {ty : Nat → ClassId} {eo : Nat → Nat} {A : Nat → Prop} {ad : Nat → Nat} {o1 : Int32} {o2 : dK} (C : dc_C p s m args meth c cX8_rises (some .boolean) 5 RX8 wsX8_rises D ty eo A) {k5 : dK → Int32 → Int32 → Int32 → Int32 → Option (Int32 × dK)} (hk5 : ∀ (q : dK) (x1 : Int32) (x2 : Int32) (x3 : Int32) (x4 : Int32) (H : Heap) (locs : List Loc) (ls : Array Slot), k5 q x1 x2 x3 x4 = some (o1, o2) → va_P D vwCl (wF ty ad q) H → va_D A (wF ty ad q) → va_S A s.heap H locs → lv_has ls 5 [(0, .ref (ad 2)), (1, .int x1), (2, .int x2), (3, .int x3), (4, .int x4)] → W p l e ({ frames := 0, cells := 0, slots := 0, locals := 0 } : Room) s m args below meth c H locs 0 0 (MQ below (va_Qi (fun (r : Int32) (u : va_W) => o1 = r ∧ wF ty ad o2 = u) (kz_B D ty A) A) args s 0 0 A) (F0 m 5 ls [])) (q : dK) (x1 : Int32) (x2 : Int32) (x4 : Int32) (H : Heap) (locs : List Loc) (ls : Array Slot) (h : zX8_rises_s2_53 k5 q x1 x2 x4 = some (o1, o2)) (hP : va_P D vwCl (wF ty ad q) H) (hD : va_D A (wF ty ad q)) (hS : va_S A s.heap H locs) (hl : lv_has ls 5 [(0, .ref (ad 2)), (1, .int x1), (2, .int x2), (4, .int x4)]) : W p l e ({ frames := 0, cells := 0, slots := 0, locals := 0 } : Room) s m args below meth c H locs 0 0 (MQ below (va_Qi (fun (r : Int32) (u : va_W) => o1 = r ∧ wF ty ad o2 = u) (kz_B D ty A) A) args s 0 0 A) (F0 m 53 ls []) := by
  have C0 := C
  obtain ⟨hx, hb, hr, hts, hown, hlocks, hml, hK, hN, hE, hA⟩ := C
  unfold zX8_rises_s2_53 at h
  refine lv_aload_n hx hb dX8_rises_53 rfl (lv_at hl 0 rfl) ?_
  refine va_get (D := D) (ci := 8) (v := .ref (ad 3)) (C := RX8) (T := TX8) (N := 5) hx hb hts u9_wsX8_rises_X8 hown hK hP 2 rfl rfl 0 (by decide) (hts (.fieldLink RX8 9 "TurnedFloors$Tower" "rank" "[I") f9_wsX8_rises_884) (fun _ h9 => h9) rfl dX8_rises_54 ?_
  refine lv_iload hx hb dX8_rises_57 (lv_at hl 3 rfl) ?_
  obtain ⟨g1, h⟩ := dG_some h
  refine va_iald hx hb hK hP 3 0 rfl rfl (dg_in g1) dX8_rises_59 ?_
  obtain ⟨v2, ev2, h⟩ := dL_some h
  refine kz_topi v2 ev2 ?_
  refine lv_istore_n (lv' := [(3, .int v2), (0, .ref (ad 2)), (1, .int x1), (2, .int x2), (4, .int x4)]) hx hb dX8_rises_60 rfl hl (by decide) rfl (fun ls hl => ?_)
  exact WX8_rises_s2_61 C0 hk5 _ _ _ _ _ _ _ _ h hP hD hS (lv_sub hl [1, 2, 3, 0, 4] rfl)
set_option maxHeartbeats 4000000 in
set_option maxRecDepth 100000 in
theorem WX8_rises_s2_51 {p : Program} {l : Launch} {e : Env} {s : State} {m : MethodId} {args : Array Value} {below : List Frame} {meth : Method} {c : Code} {D : va_G} {ty : Nat → ClassId} {eo : Nat → Nat} {A : Nat → Prop} {ad : Nat → Nat} {o1 : Int32} {o2 : dK} (C : dc_C p s m args meth c cX8_rises (some .boolean) 5 RX8 wsX8_rises D ty eo A)   (q : dK)  (H : Heap) (locs : List Loc) (ls : Array Slot) (h : zX8_rises_s2_51  q = some (o1, o2)) (hP : va_P D vwCl (wF ty ad q) H) (hD : va_D A (wF ty ad q)) (hS : va_S A s.heap H locs) (hl : lv_has ls 5 []) : W p l e ({ frames := 0, cells := 0, slots := 0, locals := 0 } : Room) s m args below meth c H locs 0 0 (MQ below (va_Qi (fun (r : Int32) (u : va_W) => o1 = r ∧ wF ty ad o2 = u) (kz_B D ty A) A) args s 0 0 A) (F0 m 51 ls []) := by
  have C0 := C
  obtain ⟨hx, hb, hr, hts, hown, hlocks, hml, hK, hN, hE, hA⟩ := C
  unfold zX8_rises_s2_51 at h
  refine lv_iconst (v := 0) hx hb dX8_rises_51 (by decide) ?_
  cases h
  exact kz_zret hx hb hr hlocks rfl hP hK hD hS dX8_rises_52 ⟨rfl, rfl⟩
set_option maxHeartbeats 4000000 in
set_option maxRecDepth 100000 in
theorem WX8_rises_s2_5b {p : Program} {l : Launch} {e : Env} {s : State} {m : MethodId} {args : Array Value} {below : List Frame} {meth : Method} {c : Code} {D : va_G} {ty : Nat → ClassId} {eo : Nat → Nat} {A : Nat → Prop} {ad : Nat → Nat} {o1 : Int32} {o2 : dK} (C : dc_C p s m args meth c cX8_rises (some .boolean) 5 RX8 wsX8_rises D ty eo A) {k5 : dK → Int32 → Int32 → Int32 → Int32 → Option (Int32 × dK)} (hk5 : ∀ (q : dK) (x1 : Int32) (x2 : Int32) (x3 : Int32) (x4 : Int32) (H : Heap) (locs : List Loc) (ls : Array Slot), k5 q x1 x2 x3 x4 = some (o1, o2) → va_P D vwCl (wF ty ad q) H → va_D A (wF ty ad q) → va_S A s.heap H locs → lv_has ls 5 [(0, .ref (ad 2)), (1, .int x1), (2, .int x2), (3, .int x3), (4, .int x4)] → W p l e ({ frames := 0, cells := 0, slots := 0, locals := 0 } : Room) s m args below meth c H locs 0 0 (MQ below (va_Qi (fun (r : Int32) (u : va_W) => o1 = r ∧ wF ty ad o2 = u) (kz_B D ty A) A) args s 0 0 A) (F0 m 5 ls [])) (q : dK) (x1 : Int32) (x2 : Int32) (x3 : Int32) (x4 : Int32) (H : Heap) (locs : List Loc) (ls : Array Slot) (h : zX8_rises_s2_5b k5 q x1 x2 x3 x4 = some (o1, o2)) (hP : va_P D vwCl (wF ty ad q) H) (hD : va_D A (wF ty ad q)) (hS : va_S A s.heap H locs) (hl : lv_has ls 5 [(0, .ref (ad 2)), (1, .int x1), (2, .int x2), (3, .int x3), (4, .int x4)]) : W p l e ({ frames := 0, cells := 0, slots := 0, locals := 0 } : Room) s m args below meth c H locs 0 0 (MQ below (va_Qi (fun (r : Int32) (u : va_W) => o1 = r ∧ wF ty ad o2 = u) (kz_B D ty A) A) args s 0 0 A) (F0 m 5 ls []) := by
  have C0 := C
  obtain ⟨hx, hb, hr, hts, hown, hlocks, hml, hK, hN, hE, hA⟩ := C
  unfold zX8_rises_s2_5b at h
  refine lv_iload hx hb dX8_rises_5 (lv_at hl 4 rfl) ?_
  refine lv_aload_n hx hb dX8_rises_7 rfl (lv_at hl 0 rfl) ?_
  refine va_get (D := D) (ci := 8) (v := .int (q.1 2 2)) (C := RX8) (T := TX8) (N := 5) hx hb hts u9_wsX8_rises_X8 hown hK hP 2 rfl rfl 2 (by decide) (hts (.fieldLink RX8 18 "TurnedFloors$Tower" "floors" "I") f9_wsX8_rises_885) (fun _ h9 => h9) rfl dX8_rises_8 ?_
  refine lv_icmp_ge (tgt := 67) hx hb dX8_rises_11 (by decide) (fun c9 => ?_) (fun c9 => ?_)
  · rw [if_pos c9] at h
    refine lv_iconst (v := 1) hx hb dX8_rises_67 (by decide) ?_
    cases h
    exact kz_zret hx hb hr hlocks rfl hP hK hD hS dX8_rises_68 ⟨rfl, rfl⟩
  · rw [if_neg c9] at h
    refine lv_iload_n hx hb dX8_rises_14 rfl (lv_at hl 1 rfl) ?_
    refine lv_iload hx hb dX8_rises_15 (lv_at hl 4 rfl) ?_
    refine lv_ishr hx hb dX8_rises_17 ?_
    refine lv_iconst (v := 1) hx hb dX8_rises_18 (by decide) ?_
    refine lv_iand hx hb dX8_rises_19 ?_
    refine lv_iconst (v := 1) hx hb dX8_rises_20 (by decide) ?_
    refine lv_icmp_ne (tgt := 61) hx hb dX8_rises_21 (by decide) (fun c9 => ?_) (fun c9 => ?_)
    · rw [if_neg c9] at h
      exact WX8_rises_s2_61 C0 hk5 _ _ _ _ _ _ _ _ h hP hD hS (lv_sub hl [0, 1, 2, 3, 4] rfl)
    · rw [if_pos c9] at h
      refine lv_aload_n hx hb dX8_rises_24 rfl (lv_at hl 0 rfl) ?_
      refine va_get (D := D) (ci := 8) (v := .ref (ad 3)) (C := RX8) (T := TX8) (N := 5) hx hb hts u9_wsX8_rises_X8 hown hK hP 2 rfl rfl 0 (by decide) (hts (.fieldLink RX8 9 "TurnedFloors$Tower" "rank" "[I") f9_wsX8_rises_884) (fun _ h9 => h9) rfl dX8_rises_25 ?_
      refine lv_iload hx hb dX8_rises_28 (lv_at hl 4 rfl) ?_
      obtain ⟨g1, h⟩ := dG_some h
      refine va_iald hx hb hK hP 3 0 rfl rfl (dg_in g1) dX8_rises_30 ?_
      obtain ⟨v2, ev2, h⟩ := dL_some h
      refine kz_topi v2 ev2 ?_
      refine lv_iload_n hx hb dX8_rises_31 rfl (lv_at hl 3 rfl) ?_
      refine lv_icmp_lt (tgt := 51) hx hb dX8_rises_32 (by decide) (fun c9 => ?_) (fun c9 => ?_)
      · rw [if_pos c9] at h
        exact WX8_rises_s2_51 C0  _ _ _ _ h hP hD hS (lv_sub hl [] rfl)
      · rw [if_neg c9] at h
        refine lv_iload_n hx hb dX8_rises_35 rfl (lv_at hl 2 rfl) ?_
        refine lv_iconst (v := 1) hx hb dX8_rises_36 (by decide) ?_
        refine lv_icmp_ne (tgt := 53) hx hb dX8_rises_37 (by decide) (fun c9 => ?_) (fun c9 => ?_)
        · rw [if_neg c9] at h
          exact WX8_rises_s2_53 C0 hk5 _ _ _ _ _ _ _ h hP hD hS (lv_sub hl [0, 1, 2, 4] rfl)
        · rw [if_pos c9] at h
          refine lv_aload_n hx hb dX8_rises_40 rfl (lv_at hl 0 rfl) ?_
          refine va_get (D := D) (ci := 8) (v := .ref (ad 4)) (C := RX8) (T := TX8) (N := 5) hx hb hts u9_wsX8_rises_X8 hown hK hP 2 rfl rfl 1 (by decide) (hts (.fieldLink RX8 15 "TurnedFloors$Tower" "head" "[I") f9_wsX8_rises_886) (fun _ h9 => h9) rfl dX8_rises_41 ?_
          refine lv_iload hx hb dX8_rises_44 (lv_at hl 4 rfl) ?_
          obtain ⟨g3, h⟩ := dG_some h
          refine va_iald hx hb hK hP 4 0 rfl rfl (dg_in g3) dX8_rises_46 ?_
          obtain ⟨v4, ev4, h⟩ := dL_some h
          refine kz_topi v4 ev4 ?_
          refine lv_iconst (v := 1) hx hb dX8_rises_47 (by decide) ?_
          refine lv_icmp_ne (tgt := 53) hx hb dX8_rises_48 (by decide) (fun c9 => ?_) (fun c9 => ?_)
          · rw [if_neg c9] at h
            exact WX8_rises_s2_53 C0 hk5 _ _ _ _ _ _ _ h hP hD hS (lv_sub hl [0, 1, 2, 4] rfl)
          · rw [if_pos c9] at h
            exact WX8_rises_s2_51 C0  _ _ _ _ h hP hD hS (lv_sub hl [] rfl)
set_option maxHeartbeats 4000000 in
set_option maxRecDepth 100000 in
theorem WX8_rises_s2_5 {p : Program} {l : Launch} {e : Env} {s : State} {m : MethodId} {args : Array Value} {below : List Frame} {meth : Method} {c : Code} {D : va_G} {ty : Nat → ClassId} {eo : Nat → Nat} {A : Nat → Prop} {ad : Nat → Nat} {o1 : Int32} {o2 : dK} (C : dc_C p s m args meth c cX8_rises (some .boolean) 5 RX8 wsX8_rises D ty eo A)   (n : Nat) (q : dK) (x1 : Int32) (x2 : Int32) (x3 : Int32) (x4 : Int32) (H : Heap) (locs : List Loc) (ls : Array Slot) (h : zX8_rises_s2_5  n q x1 x2 x3 x4 = some (o1, o2)) (hP : va_P D vwCl (wF ty ad q) H) (hD : va_D A (wF ty ad q)) (hS : va_S A s.heap H locs) (hl : lv_has ls 5 [(0, .ref (ad 2)), (1, .int x1), (2, .int x2), (3, .int x3), (4, .int x4)]) : W p l e ({ frames := 0, cells := 0, slots := 0, locals := 0 } : Room) s m args below meth c H locs 0 0 (MQ below (va_Qi (fun (r : Int32) (u : va_W) => o1 = r ∧ wF ty ad o2 = u) (kz_B D ty A) A) args s 0 0 A) (F0 m 5 ls []) := by
  exact dFix_W (F := fun k (a : dK × Int32 × Int32 × Int32 × Int32) => zX8_rises_s2_5b  (fun q x1 x2 x3 x4 => k (q, x1, x2, x3, x4)) a.1 a.2.1 a.2.2.1 a.2.2.2.1 a.2.2.2.2) (o := (o1, o2)) (P := fun (a : dK × Int32 × Int32 × Int32 × Int32) H locs ls => va_P D vwCl (wF ty ad a.1) H ∧ va_D A (wF ty ad a.1) ∧ va_S A s.heap H locs ∧ lv_has ls 5 [(0, .ref (ad 2)), (1, .int a.2.1), (2, .int a.2.2.1), (3, .int a.2.2.2.1), (4, .int a.2.2.2.2)]) (G := fun H locs ls => W p l e ({ frames := 0, cells := 0, slots := 0, locals := 0 } : Room) s m args below meth c H locs 0 0 (MQ below (va_Qi (fun (r : Int32) (u : va_W) => o1 = r ∧ wF ty ad o2 = u) (kz_B D ty A) A) args s 0 0 A) (F0 m 5 ls []))
    (fun k hk a H locs ls h hp => WX8_rises_s2_5b C  (fun q x1 x2 x3 x4 H locs ls h h1 h2 h3 h4 => hk (q, x1, x2, x3, x4) H locs ls h ⟨h1, h2, h3, h4⟩) a.1 a.2.1 a.2.2.1 a.2.2.2.1 a.2.2.2.2 H locs ls h hp.1 hp.2.1 hp.2.2.1 hp.2.2.2) n (q, x1, x2, x3, x4) H locs ls h ⟨hP, hD, hS, hl⟩
set_option maxHeartbeats 4000000 in
set_option maxRecDepth 100000 in
theorem qX8_rises_s2 (l : Launch) (D : va_G) (ty : Nat → ClassId) (eo : Nat → Nat) (sz : Nat) (ad : Nat → Nat) (q : dK) (p1 : Int32) (p2 : Int32) (o1 : Int32) (o2 : dK) (h : zX8_rises_s2 q p1 p2 = some (o1, o2)) : Met l yX8_rises wsX8_rises ({ frames := 0, cells := 0, slots := 0, locals := 0 } : Room) (va_Pc [.ref (ad 2), .int p1, .int p2] (kz_pre D ty eo (wF ty ad q) sz)) (va_Qi (fun (r : Int32) (u : va_W) => o1 = r ∧ wF ty ad o2 = u) (kz_B D ty (va_A (wF ty ad q) sz)) (va_A (wF ty ad q) sz)) 0 0 (va_A (wF ty ad q) sz) := by
  refine Met.ofW (cc := cX8_rises) (maxL := 5) (ret := (some .boolean)) (by decide) rfl ?_
  intro p e s m args below meth c s₁ B hml hv
  obtain ⟨rfl, hsz, hP, hK, hD0, hN, hE⟩ := hv
  have hx := B.exec
  have hb := B.bytes
  have hr := B.returns
  have hts := atoms_spec (ws := wsX8_rises) B.pre
  have hown : s.vm.findClass RX8 = some m.cls := findClass_of_methodNamed B.named
  have hlocks := B.notSynchronized
  subst hsz
  have hD := hD0.self (sz := s.heap.size)
  generalize hAe : va_A (wF ty ad q) s.heap.size = A at hD hE ⊢
  have hA : ∀ q : Nat, s.heap.size ≤ q → A q := fun q h => by rw [← hAe]; exact Or.inr h
  clear hAe
  have hS : va_S A s.heap s.heap [] := va_S.rf
  have hl := lv_entry ([.ref (ad 2), .int p1, .int p2]) (n := 5) (Nat.le_of_ble_eq_true rfl)
  rw [lg_entry_eq]
  generalize (lg_sl ([.ref (ad 2), .int p1, .int p2]) ++ List.replicate (5 - (lg_sl ([.ref (ad 2), .int p1, .int p2])).length) Slot.unset).toArray = ls at hl ⊢
  have hl : lv_has ls 5 [(0, .ref (ad 2)), (1, .int p1), (2, .int p2)] := hl
  have C : dc_C p s m _ meth c cX8_rises (some .boolean) 5 RX8 wsX8_rises D ty eo A := ⟨hx, hb, hr, hts, hown, hlocks, hml, hK, hN, hE, hA⟩
  unfold zX8_rises_s2 at h
  refine lv_iconst (v := (-1)) hx hb dX8_rises_0 (by decide) ?_
  refine lv_istore_n (lv' := [(3, .int (-1)), (0, .ref (ad 2)), (1, .int p1), (2, .int p2)]) hx hb dX8_rises_1 rfl hl (by decide) rfl (fun ls hl => ?_)
  refine lv_iconst (v := 0) hx hb dX8_rises_2 (by decide) ?_
  refine lv_istore (lv' := [(4, .int 0), (3, .int (-1)), (0, .ref (ad 2)), (1, .int p1), (2, .int p2)]) hx hb dX8_rises_3 hl (by decide) rfl (fun ls hl => ?_)
  exact WX8_rises_s2_5 C  _ _ _ _ _ _ _ _ _ h hP hD hS (lv_sub hl [2, 3, 4, 1, 0] rfl)

set_option maxHeartbeats 4000000 in
set_option maxRecDepth 100000 in
theorem WX9_stays_s0_81 {p : Program} {l : Launch} {e : Env} {s : State} {m : MethodId} {args : Array Value} {below : List Frame} {meth : Method} {c : Code} {D : va_G} {ty : Nat → ClassId} {eo : Nat → Nat} {A : Nat → Prop} {ad : Nat → Nat} {o1 : Int32} {o2 : dK} (C : dc_C p s m args meth c cX9_stays (some .int) 4 RX9 wsX9_stays D ty eo A)   (q : dK) (y0 : Int32) (H : Heap) (locs : List Loc) (ls : Array Slot) (h : zX9_stays_s0_81  q y0 = some (o1, o2)) (hP : va_P D vwCl (wF ty ad q) H) (hD : va_D A (wF ty ad q)) (hS : va_S A s.heap H locs) (hl : lv_has ls 4 []) : W p l e ({ frames := 1, cells := 0, slots := 0, locals := 24 } : Room) s m args below meth c H locs 0 0 (MQ below (va_Qi (fun (r : Int32) (u : va_W) => o1 = r ∧ wF ty ad o2 = u) (kz_B D ty A) A) args s 0 0 A) (F0 m 81 ls [.int y0]) := by
  have C0 := C
  obtain ⟨hx, hb, hr, hts, hown, hlocks, hml, hK, hN, hE, hA⟩ := C
  unfold zX9_stays_s0_81 at h
  cases h
  exact kz_iret hx hb hr hlocks hP hK hD hS dX9_stays_81 ⟨rfl, rfl⟩
set_option maxHeartbeats 4000000 in
set_option maxRecDepth 100000 in
theorem WX9_stays_s0_63 {p : Program} {l : Launch} {e : Env} {s : State} {m : MethodId} {args : Array Value} {below : List Frame} {meth : Method} {c : Code} {D : va_G} {ty : Nat → ClassId} {eo : Nat → Nat} {A : Nat → Prop} {ad : Nat → Nat} {o1 : Int32} {o2 : dK} (C : dc_C p s m args meth c cX9_stays (some .int) 4 RX9 wsX9_stays D ty eo A) {k13 : dK → Int32 → Int32 → Int32 → Option (Int32 × dK)} (hk13 : ∀ (q : dK) (x1 : Int32) (x2 : Int32) (x3 : Int32) (H : Heap) (locs : List Loc) (ls : Array Slot), k13 q x1 x2 x3 = some (o1, o2) → va_P D vwCl (wF ty ad q) H → va_D A (wF ty ad q) → va_S A s.heap H locs → lv_has ls 4 [(0, .ref (ad 0)), (1, .int x1), (2, .int x2), (3, .int x3)] → W p l e ({ frames := 1, cells := 0, slots := 0, locals := 24 } : Room) s m args below meth c H locs 0 0 (MQ below (va_Qi (fun (r : Int32) (u : va_W) => o1 = r ∧ wF ty ad o2 = u) (kz_B D ty A) A) args s 0 0 A) (F0 m 13 ls [])) (q : dK) (x1 : Int32) (x2 : Int32) (x3 : Int32) (H : Heap) (locs : List Loc) (ls : Array Slot) (h : zX9_stays_s0_63 k13 q x1 x2 x3 = some (o1, o2)) (hP : va_P D vwCl (wF ty ad q) H) (hD : va_D A (wF ty ad q)) (hS : va_S A s.heap H locs) (hl : lv_has ls 4 [(0, .ref (ad 0)), (1, .int x1), (2, .int x2), (3, .int x3)]) : W p l e ({ frames := 1, cells := 0, slots := 0, locals := 24 } : Room) s m args below meth c H locs 0 0 (MQ below (va_Qi (fun (r : Int32) (u : va_W) => o1 = r ∧ wF ty ad o2 = u) (kz_B D ty A) A) args s 0 0 A) (F0 m 63 ls []) := by
  have C0 := C
  obtain ⟨hx, hb, hr, hts, hown, hlocks, hml, hK, hN, hE, hA⟩ := C
  unfold zX9_stays_s0_63 at h
  refine lv_iinc (v := x3 + 1) (lv' := [(3, .int (x3 + 1)), (0, .ref (ad 0)), (1, .int x1), (2, .int x2)]) hx hb dX9_stays_63 hl (k := 3) rfl rfl (by decide) rfl (fun ls hl => ?_)
  refine lv_goto (tgt := 13) hx hb dX9_stays_66 (by decide) ?_
  exact hk13 _ _ _ _ _ _ _ h hP hD hS (lv_sub hl [1, 2, 3, 0] rfl)
set_option maxHeartbeats 4000000 in
set_option maxRecDepth 100000 in
theorem WX9_stays_s0_13b {p : Program} {l : Launch} {e : Env} {s : State} {m : MethodId} {args : Array Value} {below : List Frame} {meth : Method} {c : Code} {D : va_G} {ty : Nat → ClassId} {eo : Nat → Nat} {A : Nat → Prop} {ad : Nat → Nat} {o1 : Int32} {o2 : dK} (C : dc_C p s m args meth c cX9_stays (some .int) 4 RX9 wsX9_stays D ty eo A) {k13 : dK → Int32 → Int32 → Int32 → Option (Int32 × dK)} (hk13 : ∀ (q : dK) (x1 : Int32) (x2 : Int32) (x3 : Int32) (H : Heap) (locs : List Loc) (ls : Array Slot), k13 q x1 x2 x3 = some (o1, o2) → va_P D vwCl (wF ty ad q) H → va_D A (wF ty ad q) → va_S A s.heap H locs → lv_has ls 4 [(0, .ref (ad 0)), (1, .int x1), (2, .int x2), (3, .int x3)] → W p l e ({ frames := 1, cells := 0, slots := 0, locals := 24 } : Room) s m args below meth c H locs 0 0 (MQ below (va_Qi (fun (r : Int32) (u : va_W) => o1 = r ∧ wF ty ad o2 = u) (kz_B D ty A) A) args s 0 0 A) (F0 m 13 ls [])) (q : dK) (x1 : Int32) (x2 : Int32) (x3 : Int32) (H : Heap) (locs : List Loc) (ls : Array Slot) (h : zX9_stays_s0_13b k13 q x1 x2 x3 = some (o1, o2)) (hP : va_P D vwCl (wF ty ad q) H) (hD : va_D A (wF ty ad q)) (hS : va_S A s.heap H locs) (hl : lv_has ls 4 [(0, .ref (ad 0)), (1, .int x1), (2, .int x2), (3, .int x3)]) : W p l e ({ frames := 1, cells := 0, slots := 0, locals := 24 } : Room) s m args below meth c H locs 0 0 (MQ below (va_Qi (fun (r : Int32) (u : va_W) => o1 = r ∧ wF ty ad o2 = u) (kz_B D ty A) A) args s 0 0 A) (F0 m 13 ls []) := by
  have C0 := C
  obtain ⟨hx, hb, hr, hts, hown, hlocks, hml, hK, hN, hE, hA⟩ := C
  unfold zX9_stays_s0_13b at h
  refine lv_iload_n hx hb dX9_stays_13 rfl (lv_at hl 3 rfl) ?_
  refine lv_iconst (v := 1) hx hb dX9_stays_14 (by decide) ?_
  refine lv_aload_n hx hb dX9_stays_15 rfl (lv_at hl 0 rfl) ?_
  refine va_get (D := D) (ci := 9) (v := .ref (ad 1)) (C := RX9) (T := TX9) (N := 19) hx hb hts u9_wsX9_stays_X9 hown hK hP 0 rfl rfl 0 (by decide) (hts (.fieldLink RX9 10 "TurnedFloors" "state" "LTurnedFloors$State;") f9_wsX9_stays_890) (fun _ h9 => h9) rfl dX9_stays_16 ?_
  refine va_getN (D := D) (ci := 6) (v := .ref (ad 2)) (C := RX6) (T := TX6) (N := 10) hx hb hts u9_wsX9_stays_X6 hown hK hP 1 rfl rfl 0 (by decide) (hN.use (.fieldLinkNest "TurnedFloors" 122 "TurnedFloors$State" "tower" "LTurnedFloors$Tower;" "TurnedFloors") (by decide +kernel)) (fun _ h9 => h9) rfl dX9_stays_19 ?_
  refine va_getN (D := D) (ci := 8) (v := .int (q.1 2 2)) (C := RX8) (T := TX8) (N := 5) hx hb hts u9_wsX9_stays_X8 hown hK hP 2 rfl rfl 2 (by decide) (hN.use (.fieldLinkNest "TurnedFloors" 135 "TurnedFloors$Tower" "floors" "I" "TurnedFloors") (by decide +kernel)) (fun _ h9 => h9) rfl dX9_stays_22 ?_
  refine lv_ishl hx hb dX9_stays_25 ?_
  refine lv_icmp_ge (tgt := 69) hx hb dX9_stays_26 (by decide) (fun c9 => ?_) (fun c9 => ?_)
  · rw [if_pos c9] at h
    refine lv_iload_n hx hb dX9_stays_69 rfl (lv_at hl 1 rfl) ?_
    refine lv_if_ne (tgt := 80) hx hb dX9_stays_70 (by decide) (fun c9 => ?_) (fun c9 => ?_)
    · rw [if_neg c9] at h
      refine lv_iload_n hx hb dX9_stays_80 rfl (lv_at hl 2 rfl) ?_
      exact WX9_stays_s0_81 C0  _ _ _ _ _ h hP hD hS (lv_sub hl [] rfl)
    · rw [if_pos c9] at h
      refine lv_iload_n hx hb dX9_stays_73 rfl (lv_at hl 2 rfl) ?_
      obtain ⟨r1, h2, h⟩ := dV_some h
      refine dw_ks (va_runS (As := [.int x2]) (rest := []) ⟨hx, hb, hml, hown, hts⟩ (qJ6_bitCount_0f7a4 l D ty eo _ x2 _ h2) (va_cwS 1 hts gX9_stays_J6_bitCount_0f7a4 rfl rfl rfl (by decide +kernel) ⟨Nat.le_of_ble_eq_true rfl, Nat.le_of_ble_eq_true rfl⟩) (kz_preS hK hN hE hP hD hS hA [] (by decide) rfl) rfl rfl hl.1 rfl (lv_room (Nat.le_of_ble_eq_true rfl)) dX9_stays_74 ⟨Nat.le_of_ble_eq_true rfl, Nat.le_of_ble_eq_true rfl⟩) hP hD hS hA (fun _ _ h9 => h9.2.symm) (fun r9 u9 H locs hw hp hd hs => ?_)
      obtain ⟨rfl, -⟩ := hw
      clear hP hD hS
      have hP := hp; have hD := hd; have hS := hs; clear hp hd hs
      refine lv_goto (tgt := 81) hx hb dX9_stays_77 (by decide) ?_
      exact WX9_stays_s0_81 C0  _ _ _ _ _ h hP hD hS (lv_sub hl [] rfl)
  · rw [if_neg c9] at h
    refine lv_iload_n hx hb dX9_stays_29 rfl (lv_at hl 3 rfl) ?_
    obtain ⟨r3, h4, h⟩ := dV_some h
    refine dw_ks (va_runS (As := [.int x3]) (rest := []) ⟨hx, hb, hml, hown, hts⟩ (qJ6_bitCount_0f7a4 l D ty eo _ x3 _ h4) (va_cwS 1 hts gX9_stays_J6_bitCount_0f7a4 rfl rfl rfl (by decide +kernel) ⟨Nat.le_of_ble_eq_true rfl, Nat.le_of_ble_eq_true rfl⟩) (kz_preS hK hN hE hP hD hS hA [] (by decide) rfl) rfl rfl hl.1 rfl (lv_room (Nat.le_of_ble_eq_true rfl)) dX9_stays_30 ⟨Nat.le_of_ble_eq_true rfl, Nat.le_of_ble_eq_true rfl⟩) hP hD hS hA (fun _ _ h9 => h9.2.symm) (fun r9 u9 H locs hw hp hd hs => ?_)
    obtain ⟨rfl, -⟩ := hw
    clear hP hD hS
    have hP := hp; have hD := hd; have hS := hs; clear hp hd hs
    refine lv_iload_n hx hb dX9_stays_33 rfl (lv_at hl 2 rfl) ?_
    obtain ⟨r5, h6, h⟩ := dV_some h
    refine dw_ks (va_runS (As := [.int x2]) (rest := [.int r3]) ⟨hx, hb, hml, hown, hts⟩ (qJ6_bitCount_0f7a4 l D ty eo _ x2 _ h6) (va_cwS 1 hts gX9_stays_J6_bitCount_0f7a4 rfl rfl rfl (by decide +kernel) ⟨Nat.le_of_ble_eq_true rfl, Nat.le_of_ble_eq_true rfl⟩) (kz_preS hK hN hE hP hD hS hA [] (by decide) rfl) rfl rfl hl.1 rfl (lv_room (Nat.le_of_ble_eq_true rfl)) dX9_stays_34 ⟨Nat.le_of_ble_eq_true rfl, Nat.le_of_ble_eq_true rfl⟩) hP hD hS hA (fun _ _ h9 => h9.2.symm) (fun r9 u9 H locs hw hp hd hs => ?_)
    obtain ⟨rfl, -⟩ := hw
    clear hP hD hS
    have hP := hp; have hD := hd; have hS := hs; clear hp hd hs
    refine lv_icmp_le (tgt := 63) hx hb dX9_stays_37 (by decide) (fun c9 => ?_) (fun c9 => ?_)
    · rw [if_pos c9] at h
      exact WX9_stays_s0_63 C0 hk13 _ _ _ _ _ _ _ h hP hD hS (lv_sub hl [0, 1, 2, 3] rfl)
    · rw [if_neg c9] at h
      refine lv_aload_n hx hb dX9_stays_40 rfl (lv_at hl 0 rfl) ?_
      refine va_get (D := D) (ci := 9) (v := .ref (ad 1)) (C := RX9) (T := TX9) (N := 19) hx hb hts u9_wsX9_stays_X9 hown hK hP 0 rfl rfl 0 (by decide) (hts (.fieldLink RX9 10 "TurnedFloors" "state" "LTurnedFloors$State;") f9_wsX9_stays_890) (fun _ h9 => h9) rfl dX9_stays_41 ?_
      refine va_getN (D := D) (ci := 6) (v := .ref (ad 2)) (C := RX6) (T := TX6) (N := 10) hx hb hts u9_wsX9_stays_X6 hown hK hP 1 rfl rfl 0 (by decide) (hN.use (.fieldLinkNest "TurnedFloors" 122 "TurnedFloors$State" "tower" "LTurnedFloors$Tower;" "TurnedFloors") (by decide +kernel)) (fun _ h9 => h9) rfl dX9_stays_44 ?_
      refine lv_iload_n hx hb dX9_stays_47 rfl (lv_at hl 3 rfl) ?_
      refine lv_aload_n hx hb dX9_stays_48 rfl (lv_at hl 0 rfl) ?_
      refine va_get (D := D) (ci := 9) (v := .ref (ad 1)) (C := RX9) (T := TX9) (N := 19) hx hb hts u9_wsX9_stays_X9 hown hK hP 0 rfl rfl 0 (by decide) (hts (.fieldLink RX9 10 "TurnedFloors" "state" "LTurnedFloors$State;") f9_wsX9_stays_890) (fun _ h9 => h9) rfl dX9_stays_49 ?_
      refine va_getN (D := D) (ci := 6) (v := .int (q.1 1 3)) (C := RX6) (T := TX6) (N := 10) hx hb hts u9_wsX9_stays_X6 hown hK hP 1 rfl rfl 3 (by decide) (hN.use (.fieldLinkNest "TurnedFloors" 267 "TurnedFloors$State" "headsMatter" "I" "TurnedFloors") (by decide +kernel)) (fun _ h9 => h9) rfl dX9_stays_52 ?_
      obtain ⟨r7, q9, h8, h⟩ := dB_some h
      refine dw_ki (va_runV (As := [.int x3, .int (q.1 1 3)]) (rest := []) ⟨hx, hb, hml, hown, hts⟩ (qX8_rises_s2 l D ty eo _ ad q x3 (q.1 1 3) r7 q9 h8) (cwV 2 hts gX9_stays_X8_rises rfl rfl rfl (by decide +kernel) ⟨Nat.le_of_ble_eq_true rfl, Nat.le_of_ble_eq_true rfl⟩) (dw_preV (ci := 8) (q0 := 2) hK hN hE hP hD hS hA rfl rfl) rfl rfl hl.1 rfl (lv_room (Nat.le_of_ble_eq_true rfl)) dX9_stays_55 ⟨Nat.le_of_ble_eq_true rfl, Nat.le_of_ble_eq_true rfl⟩) hD hS hA (fun r9 u9 H locs hw hp hd hs => ?_)
      clear hP hD hS
      obtain ⟨rfl, rfl⟩ := hw
      have hP := hp; have hD := hd; have hS := hs; clear hp hd hs
      refine lv_if_eq (tgt := 63) hx hb dX9_stays_58 (by decide) (fun c9 => ?_) (fun c9 => ?_)
      · rw [if_pos c9] at h
        exact WX9_stays_s0_63 C0 hk13 _ _ _ _ _ _ _ h hP hD hS (lv_sub hl [0, 1, 2, 3] rfl)
      · rw [if_neg c9] at h
        refine lv_iload_n hx hb dX9_stays_61 rfl (lv_at hl 3 rfl) ?_
        refine lv_istore_n (lv' := [(2, .int x3), (0, .ref (ad 0)), (1, .int x1), (3, .int x3)]) hx hb dX9_stays_62 rfl hl (by decide) rfl (fun ls hl => ?_)
        exact WX9_stays_s0_63 C0 hk13 _ _ _ _ _ _ _ h hP hD hS (lv_sub hl [1, 2, 0, 3] rfl)
set_option maxHeartbeats 4000000 in
set_option maxRecDepth 100000 in
theorem WX9_stays_s0_13 {p : Program} {l : Launch} {e : Env} {s : State} {m : MethodId} {args : Array Value} {below : List Frame} {meth : Method} {c : Code} {D : va_G} {ty : Nat → ClassId} {eo : Nat → Nat} {A : Nat → Prop} {ad : Nat → Nat} {o1 : Int32} {o2 : dK} (C : dc_C p s m args meth c cX9_stays (some .int) 4 RX9 wsX9_stays D ty eo A)   (n : Nat) (q : dK) (x1 : Int32) (x2 : Int32) (x3 : Int32) (H : Heap) (locs : List Loc) (ls : Array Slot) (h : zX9_stays_s0_13  n q x1 x2 x3 = some (o1, o2)) (hP : va_P D vwCl (wF ty ad q) H) (hD : va_D A (wF ty ad q)) (hS : va_S A s.heap H locs) (hl : lv_has ls 4 [(0, .ref (ad 0)), (1, .int x1), (2, .int x2), (3, .int x3)]) : W p l e ({ frames := 1, cells := 0, slots := 0, locals := 24 } : Room) s m args below meth c H locs 0 0 (MQ below (va_Qi (fun (r : Int32) (u : va_W) => o1 = r ∧ wF ty ad o2 = u) (kz_B D ty A) A) args s 0 0 A) (F0 m 13 ls []) := by
  exact dFix_W (F := fun k (a : dK × Int32 × Int32 × Int32) => zX9_stays_s0_13b  (fun q x1 x2 x3 => k (q, x1, x2, x3)) a.1 a.2.1 a.2.2.1 a.2.2.2) (o := (o1, o2)) (P := fun (a : dK × Int32 × Int32 × Int32) H locs ls => va_P D vwCl (wF ty ad a.1) H ∧ va_D A (wF ty ad a.1) ∧ va_S A s.heap H locs ∧ lv_has ls 4 [(0, .ref (ad 0)), (1, .int a.2.1), (2, .int a.2.2.1), (3, .int a.2.2.2)]) (G := fun H locs ls => W p l e ({ frames := 1, cells := 0, slots := 0, locals := 24 } : Room) s m args below meth c H locs 0 0 (MQ below (va_Qi (fun (r : Int32) (u : va_W) => o1 = r ∧ wF ty ad o2 = u) (kz_B D ty A) A) args s 0 0 A) (F0 m 13 ls []))
    (fun k hk a H locs ls h hp => WX9_stays_s0_13b C  (fun q x1 x2 x3 H locs ls h h1 h2 h3 h4 => hk (q, x1, x2, x3) H locs ls h ⟨h1, h2, h3, h4⟩) a.1 a.2.1 a.2.2.1 a.2.2.2 H locs ls h hp.1 hp.2.1 hp.2.2.1 hp.2.2.2) n (q, x1, x2, x3) H locs ls h ⟨hP, hD, hS, hl⟩
set_option maxHeartbeats 4000000 in
set_option maxRecDepth 100000 in
theorem qX9_stays_s0 (l : Launch) (D : va_G) (ty : Nat → ClassId) (eo : Nat → Nat) (sz : Nat) (ad : Nat → Nat) (q : dK) (p1 : Int32) (o1 : Int32) (o2 : dK) (h : zX9_stays_s0 q p1 = some (o1, o2)) : Met l yX9_stays wsX9_stays ({ frames := 1, cells := 0, slots := 0, locals := 24 } : Room) (va_Pc [.ref (ad 0), .int p1] (kz_pre D ty eo (wF ty ad q) sz)) (va_Qi (fun (r : Int32) (u : va_W) => o1 = r ∧ wF ty ad o2 = u) (kz_B D ty (va_A (wF ty ad q) sz)) (va_A (wF ty ad q) sz)) 0 0 (va_A (wF ty ad q) sz) := by
  refine Met.ofW (cc := cX9_stays) (maxL := 4) (ret := (some .int)) (by decide) rfl ?_
  intro p e s m args below meth c s₁ B hml hv
  obtain ⟨rfl, hsz, hP, hK, hD0, hN, hE⟩ := hv
  have hx := B.exec
  have hb := B.bytes
  have hr := B.returns
  have hts := atoms_spec (ws := wsX9_stays) B.pre
  have hown : s.vm.findClass RX9 = some m.cls := findClass_of_methodNamed B.named
  have hlocks := B.notSynchronized
  subst hsz
  have hD := hD0.self (sz := s.heap.size)
  generalize hAe : va_A (wF ty ad q) s.heap.size = A at hD hE ⊢
  have hA : ∀ q : Nat, s.heap.size ≤ q → A q := fun q h => by rw [← hAe]; exact Or.inr h
  clear hAe
  have hS : va_S A s.heap s.heap [] := va_S.rf
  have hl := lv_entry ([.ref (ad 0), .int p1]) (n := 4) (Nat.le_of_ble_eq_true rfl)
  rw [lg_entry_eq]
  generalize (lg_sl ([.ref (ad 0), .int p1]) ++ List.replicate (4 - (lg_sl ([.ref (ad 0), .int p1])).length) Slot.unset).toArray = ls at hl ⊢
  have hl : lv_has ls 4 [(0, .ref (ad 0)), (1, .int p1)] := hl
  have C : dc_C p s m _ meth c cX9_stays (some .int) 4 RX9 wsX9_stays D ty eo A := ⟨hx, hb, hr, hts, hown, hlocks, hml, hK, hN, hE, hA⟩
  unfold zX9_stays_s0 at h
  refine lv_iload_n hx hb dX9_stays_0 rfl (lv_at hl 1 rfl) ?_
  obtain ⟨r1, h2, h⟩ := dV_some h
  refine dw_ks (va_runS (As := [.int p1]) (rest := []) ⟨hx, hb, hml, hown, hts⟩ (qX9_isBit l D ty eo _ p1 _ h2) (va_cwS 1 hts gX9_stays_X9_isBit rfl rfl rfl (by decide +kernel) ⟨Nat.le_of_ble_eq_true rfl, Nat.le_of_ble_eq_true rfl⟩) (kz_preS hK hN hE hP hD hS hA [] (by decide) rfl) rfl rfl hl.1 rfl (lv_room (Nat.le_of_ble_eq_true rfl)) dX9_stays_1 ⟨Nat.le_of_ble_eq_true rfl, Nat.le_of_ble_eq_true rfl⟩) hP hD hS hA (fun _ _ h9 => h9.2.symm) (fun r9 u9 H locs hw hp hd hs => ?_)
  obtain ⟨rfl, -⟩ := hw
  clear hP hD hS
  have hP := hp; have hD := hd; have hS := hs; clear hp hd hs
  refine lv_if_ne (tgt := 9) hx hb dX9_stays_4 (by decide) (fun c9 => ?_) (fun c9 => ?_)
  · rw [if_neg c9] at h
    refine lv_iconst (v := 0) hx hb dX9_stays_9 (by decide) ?_
    refine lv_istore_n (lv' := [(2, .int 0), (0, .ref (ad 0)), (1, .int p1)]) hx hb dX9_stays_10 rfl hl (by decide) rfl (fun ls hl => ?_)
    refine lv_iconst (v := 1) hx hb dX9_stays_11 (by decide) ?_
    refine lv_istore_n (lv' := [(3, .int 1), (2, .int 0), (0, .ref (ad 0)), (1, .int p1)]) hx hb dX9_stays_12 rfl hl (by decide) rfl (fun ls hl => ?_)
    exact WX9_stays_s0_13 C  _ _ _ _ _ _ _ _ h hP hD hS (lv_sub hl [2, 3, 1, 0] rfl)
  · rw [if_pos c9] at h
    refine lv_iconst (v := (-1)) hx hb dX9_stays_7 (by decide) ?_
    cases h
    exact kz_iret hx hb hr hlocks hP hK hD hS dX9_stays_8 ⟨rfl, rfl⟩

set_option maxHeartbeats 4000000 in
set_option maxRecDepth 100000 in
theorem WX9_seen_s0_17 {p : Program} {l : Launch} {e : Env} {s : State} {m : MethodId} {args : Array Value} {below : List Frame} {meth : Method} {c : Code} {D : va_G} {ty : Nat → ClassId} {eo : Nat → Nat} {A : Nat → Prop} {ad : Nat → Nat} {o1 : Int32} {o2 : dK} (C : dc_C p s m args meth c cX9_seen (some .int) 3 RX9 wsX9_seen D ty eo A)   (q : dK)  (H : Heap) (locs : List Loc) (ls : Array Slot) (h : zX9_seen_s0_17  q = some (o1, o2)) (hP : va_P D vwCl (wF ty ad q) H) (hD : va_D A (wF ty ad q)) (hS : va_S A s.heap H locs) (hl : lv_has ls 3 [(0, .ref (ad 0))]) : W p l e ({ frames := 1, cells := 0, slots := 0, locals := 21 } : Room) s m args below meth c H locs 0 0 (MQ below (va_Qi (fun (r : Int32) (u : va_W) => o1 = r ∧ wF ty ad o2 = u) (kz_B D ty A) A) args s 0 0 A) (F0 m 17 ls []) := by
  have C0 := C
  obtain ⟨hx, hb, hr, hts, hown, hlocks, hml, hK, hN, hE, hA⟩ := C
  unfold zX9_seen_s0_17 at h
  refine lv_aload_n hx hb dX9_seen_17 rfl (lv_at hl 0 rfl) ?_
  refine lv_iconst (v := (-1)) hx hb dX9_seen_18 (by decide) ?_
  obtain ⟨r1, q3, h2, h⟩ := dB_some h
  refine dw_ki (va_runV (As := [.int (-1)]) (rest := []) ⟨hx, hb, hml, hown, hts⟩ (qX9_refuse_s0 l D ty eo _ ad q (-1) r1 q3 h2) (cwV 1 hts gX9_seen_X9_refuse rfl rfl rfl (by decide +kernel) ⟨Nat.le_of_ble_eq_true rfl, Nat.le_of_ble_eq_true rfl⟩) (dw_preV (ci := 9) (q0 := 0) hK hN hE hP hD hS hA rfl rfl) rfl rfl hl.1 rfl (lv_room (Nat.le_of_ble_eq_true rfl)) dX9_seen_19 ⟨Nat.le_of_ble_eq_true rfl, Nat.le_of_ble_eq_true rfl⟩) hD hS hA (fun r9 u9 H locs hw hp hd hs => ?_)
  clear hP hD hS
  obtain ⟨rfl, rfl⟩ := hw
  have hP := hp; have hD := hd; have hS := hs; clear hp hd hs
  cases h
  exact kz_iret hx hb hr hlocks hP hK hD hS dX9_seen_22 ⟨rfl, rfl⟩
set_option maxHeartbeats 4000000 in
set_option maxRecDepth 100000 in
theorem qX9_seen_s0 (l : Launch) (D : va_G) (ty : Nat → ClassId) (eo : Nat → Nat) (sz : Nat) (ad : Nat → Nat) (q : dK) (p1 : Int32) (p2 : Int32) (o1 : Int32) (o2 : dK) (h : zX9_seen_s0 q p1 p2 = some (o1, o2)) : Met l yX9_seen wsX9_seen ({ frames := 1, cells := 0, slots := 0, locals := 21 } : Room) (va_Pc [.ref (ad 0), .int p1, .int p2] (kz_pre D ty eo (wF ty ad q) sz)) (va_Qi (fun (r : Int32) (u : va_W) => o1 = r ∧ wF ty ad o2 = u) (kz_B D ty (va_A (wF ty ad q) sz)) (va_A (wF ty ad q) sz)) 0 0 (va_A (wF ty ad q) sz) := by
  refine Met.ofW (cc := cX9_seen) (maxL := 3) (ret := (some .int)) (by decide) rfl ?_
  intro p e s m args below meth c s₁ B hml hv
  obtain ⟨rfl, hsz, hP, hK, hD0, hN, hE⟩ := hv
  have hx := B.exec
  have hb := B.bytes
  have hr := B.returns
  have hts := atoms_spec (ws := wsX9_seen) B.pre
  have hown : s.vm.findClass RX9 = some m.cls := findClass_of_methodNamed B.named
  have hlocks := B.notSynchronized
  subst hsz
  have hD := hD0.self (sz := s.heap.size)
  generalize hAe : va_A (wF ty ad q) s.heap.size = A at hD hE ⊢
  have hA : ∀ q : Nat, s.heap.size ≤ q → A q := fun q h => by rw [← hAe]; exact Or.inr h
  clear hAe
  have hS : va_S A s.heap s.heap [] := va_S.rf
  have hl := lv_entry ([.ref (ad 0), .int p1, .int p2]) (n := 3) (Nat.le_of_ble_eq_true rfl)
  rw [lg_entry_eq]
  generalize (lg_sl ([.ref (ad 0), .int p1, .int p2]) ++ List.replicate (3 - (lg_sl ([.ref (ad 0), .int p1, .int p2])).length) Slot.unset).toArray = ls at hl ⊢
  have hl : lv_has ls 3 [(0, .ref (ad 0)), (1, .int p1), (2, .int p2)] := hl
  have C : dc_C p s m _ meth c cX9_seen (some .int) 3 RX9 wsX9_seen D ty eo A := ⟨hx, hb, hr, hts, hown, hlocks, hml, hK, hN, hE, hA⟩
  unfold zX9_seen_s0 at h
  refine lv_iload_n hx hb dX9_seen_0 rfl (lv_at hl 1 rfl) ?_
  refine lv_if_lt (tgt := 17) hx hb dX9_seen_1 (by decide) (fun c9 => ?_) (fun c9 => ?_)
  · rw [if_pos c9] at h
    exact WX9_seen_s0_17 C  _ _ _ _ h hP hD hS (lv_sub hl [0] rfl)
  · rw [if_neg c9] at h
    refine lv_iload_n hx hb dX9_seen_4 rfl (lv_at hl 1 rfl) ?_
    refine lv_bipush (v := 6) hx hb dX9_seen_5 (by decide) ?_
    refine lv_icmp_ge (tgt := 17) hx hb dX9_seen_7 (by decide) (fun c9 => ?_) (fun c9 => ?_)
    · rw [if_pos c9] at h
      exact WX9_seen_s0_17 C  _ _ _ _ h hP hD hS (lv_sub hl [0] rfl)
    · rw [if_neg c9] at h
      refine lv_iload_n hx hb dX9_seen_10 rfl (lv_at hl 2 rfl) ?_
      obtain ⟨r1, h2, h⟩ := dV_some h
      refine dw_ks (va_runS (As := [.int p2]) (rest := []) ⟨hx, hb, hml, hown, hts⟩ (qX9_isRank l D ty eo _ p2 _ h2) (va_cwS 1 hts gX9_seen_X9_isRank rfl rfl rfl (by decide +kernel) ⟨Nat.le_of_ble_eq_true rfl, Nat.le_of_ble_eq_true rfl⟩) (kz_preS hK hN hE hP hD hS hA [] (by decide) rfl) rfl rfl hl.1 rfl (lv_room (Nat.le_of_ble_eq_true rfl)) dX9_seen_11 ⟨Nat.le_of_ble_eq_true rfl, Nat.le_of_ble_eq_true rfl⟩) hP hD hS hA (fun _ _ h9 => h9.2.symm) (fun r9 u9 H locs hw hp hd hs => ?_)
      obtain ⟨rfl, -⟩ := hw
      clear hP hD hS
      have hP := hp; have hD := hd; have hS := hs; clear hp hd hs
      refine lv_if_ne (tgt := 23) hx hb dX9_seen_14 (by decide) (fun c9 => ?_) (fun c9 => ?_)
      · rw [if_neg c9] at h
        refine lv_aload_n hx hb dX9_seen_23 rfl (lv_at hl 0 rfl) ?_
        refine va_get (D := D) (ci := 9) (v := .ref (ad 1)) (C := RX9) (T := TX9) (N := 19) hx hb hts u9_wsX9_seen_X9 hown hK hP 0 rfl rfl 0 (by decide) (hts (.fieldLink RX9 10 "TurnedFloors" "state" "LTurnedFloors$State;") f9_wsX9_seen_893) (fun _ h9 => h9) rfl dX9_seen_24 ?_
        refine va_getN (D := D) (ci := 6) (v := .int (q.1 1 6)) (C := RX6) (T := TX6) (N := 10) hx hb hts u9_wsX9_seen_X6 hown hK hP 1 rfl rfl 6 (by decide) (hN.use (.fieldLinkNest "TurnedFloors" 273 "TurnedFloors$State" "seenCount" "I" "TurnedFloors") (by decide +kernel)) (fun _ h9 => h9) rfl dX9_seen_27 ?_
        refine lv_bipush (v := 6) hx hb dX9_seen_30 (by decide) ?_
        refine lv_icmp_lt (tgt := 42) hx hb dX9_seen_32 (by decide) (fun c9 => ?_) (fun c9 => ?_)
        · rw [if_pos c9] at h
          refine lv_aload_n hx hb dX9_seen_42 rfl (lv_at hl 0 rfl) ?_
          refine va_get (D := D) (ci := 9) (v := .ref (ad 1)) (C := RX9) (T := TX9) (N := 19) hx hb hts u9_wsX9_seen_X9 hown hK hP 0 rfl rfl 0 (by decide) (hts (.fieldLink RX9 10 "TurnedFloors" "state" "LTurnedFloors$State;") f9_wsX9_seen_893) (fun _ h9 => h9) rfl dX9_seen_43 ?_
          refine va_getN (D := D) (ci := 6) (v := .ref (ad 5)) (C := RX6) (T := TX6) (N := 10) hx hb hts u9_wsX9_seen_X6 hown hK hP 1 rfl rfl 4 (by decide) (hN.use (.fieldLinkNest "TurnedFloors" 276 "TurnedFloors$State" "seenPlace" "[I" "TurnedFloors") (by decide +kernel)) (fun _ h9 => h9) rfl dX9_seen_46 ?_
          refine lv_aload_n hx hb dX9_seen_49 rfl (lv_at hl 0 rfl) ?_
          refine va_get (D := D) (ci := 9) (v := .ref (ad 1)) (C := RX9) (T := TX9) (N := 19) hx hb hts u9_wsX9_seen_X9 hown hK hP 0 rfl rfl 0 (by decide) (hts (.fieldLink RX9 10 "TurnedFloors" "state" "LTurnedFloors$State;") f9_wsX9_seen_893) (fun _ h9 => h9) rfl dX9_seen_50 ?_
          refine va_getN (D := D) (ci := 6) (v := .int (q.1 1 6)) (C := RX6) (T := TX6) (N := 10) hx hb hts u9_wsX9_seen_X6 hown hK hP 1 rfl rfl 6 (by decide) (hN.use (.fieldLinkNest "TurnedFloors" 273 "TurnedFloors$State" "seenCount" "I" "TurnedFloors") (by decide +kernel)) (fun _ h9 => h9) rfl dX9_seen_53 ?_
          refine lv_iload_n hx hb dX9_seen_56 rfl (lv_at hl 1 rfl) ?_
          obtain ⟨g3, h⟩ := dG_some h
          refine va_iast hx hb hK hP hD hS 5 0 rfl rfl (dg_in g3) dX9_seen_57 (fun H locs hp hd hs => ?_)
          obtain ⟨q4, eq4, h⟩ := dL_some h
          refine kz_re (w2 := wF ty ad q4) hp hd hs (by rw [← eq4]; exact wF_a5 ty ad q (Int32.toNatClampNeg (q.1 1 6)) p1) ?_
          clear hp hd hs hP hD hS
          intro hP hD hS
          refine lv_aload_n hx hb dX9_seen_58 rfl (lv_at hl 0 rfl) ?_
          refine va_get (D := D) (ci := 9) (v := .ref (ad 1)) (C := RX9) (T := TX9) (N := 19) hx hb hts u9_wsX9_seen_X9 hown hK hP 0 rfl rfl 0 (by decide) (hts (.fieldLink RX9 10 "TurnedFloors" "state" "LTurnedFloors$State;") f9_wsX9_seen_893) (fun _ h9 => h9) rfl dX9_seen_59 ?_
          refine va_getN (D := D) (ci := 6) (v := .ref (ad 6)) (C := RX6) (T := TX6) (N := 10) hx hb hts u9_wsX9_seen_X6 hown hK hP 1 rfl rfl 5 (by decide) (hN.use (.fieldLinkNest "TurnedFloors" 279 "TurnedFloors$State" "seenRank" "[I" "TurnedFloors") (by decide +kernel)) (fun _ h9 => h9) rfl dX9_seen_62 ?_
          refine lv_aload_n hx hb dX9_seen_65 rfl (lv_at hl 0 rfl) ?_
          refine va_get (D := D) (ci := 9) (v := .ref (ad 1)) (C := RX9) (T := TX9) (N := 19) hx hb hts u9_wsX9_seen_X9 hown hK hP 0 rfl rfl 0 (by decide) (hts (.fieldLink RX9 10 "TurnedFloors" "state" "LTurnedFloors$State;") f9_wsX9_seen_893) (fun _ h9 => h9) rfl dX9_seen_66 ?_
          refine va_getN (D := D) (ci := 6) (v := .int (q4.1 1 6)) (C := RX6) (T := TX6) (N := 10) hx hb hts u9_wsX9_seen_X6 hown hK hP 1 rfl rfl 6 (by decide) (hN.use (.fieldLinkNest "TurnedFloors" 273 "TurnedFloors$State" "seenCount" "I" "TurnedFloors") (by decide +kernel)) (fun _ h9 => h9) rfl dX9_seen_69 ?_
          refine lv_iload_n hx hb dX9_seen_72 rfl (lv_at hl 2 rfl) ?_
          obtain ⟨g5, h⟩ := dG_some h
          refine va_iast hx hb hK hP hD hS 6 0 rfl rfl (dg_in g5) dX9_seen_73 (fun H locs hp hd hs => ?_)
          obtain ⟨q6, eq6, h⟩ := dL_some h
          refine kz_re (w2 := wF ty ad q6) hp hd hs (by rw [← eq6]; exact wF_a6 ty ad q4 (Int32.toNatClampNeg (q4.1 1 6)) p2) ?_
          clear hp hd hs hP hD hS
          intro hP hD hS
          refine lv_aload_n hx hb dX9_seen_74 rfl (lv_at hl 0 rfl) ?_
          refine va_get (D := D) (ci := 9) (v := .ref (ad 1)) (C := RX9) (T := TX9) (N := 19) hx hb hts u9_wsX9_seen_X9 hown hK hP 0 rfl rfl 0 (by decide) (hts (.fieldLink RX9 10 "TurnedFloors" "state" "LTurnedFloors$State;") f9_wsX9_seen_893) (fun _ h9 => h9) rfl dX9_seen_75 ?_
          refine lv_dup hx hb dX9_seen_78 rfl ?_
          refine va_getN (D := D) (ci := 6) (v := .int (q6.1 1 6)) (C := RX6) (T := TX6) (N := 10) hx hb hts u9_wsX9_seen_X6 hown hK hP 1 rfl rfl 6 (by decide) (hN.use (.fieldLinkNest "TurnedFloors" 273 "TurnedFloors$State" "seenCount" "I" "TurnedFloors") (by decide +kernel)) (fun _ h9 => h9) rfl dX9_seen_79 ?_
          refine lv_iconst (v := 1) hx hb dX9_seen_82 (by decide) ?_
          refine lv_iadd hx hb dX9_seen_83 ?_
          refine va_putN (D := D) (ci := 6) (v := .int ((q6.1 1 6) + 1 : Int32)) (ty := .int) (C := RX6) (T := TX6) (N := 10) hx hb hts u9_wsX9_seen_X6 tyX6 tyX6_ok nmX6 hown hK hP hD hS 1 rfl rfl 6 (by decide) (hN.use (.fieldLinkNest "TurnedFloors" 273 "TurnedFloors$State" "seenCount" "I" "TurnedFloors") (by decide +kernel)) (fun _ h9 => h9) rfl (by decide +kernel) rfl rfl (Nat.le_of_ble_eq_true rfl) dX9_seen_84 (fun H locs hp hd hs => ?_)
          obtain ⟨q7, eq7, h⟩ := dL_some h
          refine kz_re (w2 := wF ty ad q7) hp hd hs (by rw [← eq7]; exact wF_f1_6 ty ad q6 ((q6.1 1 6) + 1 : Int32)) ?_
          clear hp hd hs hP hD hS
          intro hP hD hS
          refine lv_aload_n hx hb dX9_seen_87 rfl (lv_at hl 0 rfl) ?_
          refine lv_aload_n hx hb dX9_seen_88 rfl (lv_at hl 0 rfl) ?_
          refine va_get (D := D) (ci := 9) (v := .ref (ad 1)) (C := RX9) (T := TX9) (N := 19) hx hb hts u9_wsX9_seen_X9 hown hK hP 0 rfl rfl 0 (by decide) (hts (.fieldLink RX9 10 "TurnedFloors" "state" "LTurnedFloors$State;") f9_wsX9_seen_893) (fun _ h9 => h9) rfl dX9_seen_89 ?_
          refine va_getN (D := D) (ci := 6) (v := .int (q7.1 1 6)) (C := RX6) (T := TX6) (N := 10) hx hb hts u9_wsX9_seen_X6 hown hK hP 1 rfl rfl 6 (by decide) (hN.use (.fieldLinkNest "TurnedFloors" 273 "TurnedFloors$State" "seenCount" "I" "TurnedFloors") (by decide +kernel)) (fun _ h9 => h9) rfl dX9_seen_92 ?_
          obtain ⟨r8, q10, h9, h⟩ := dB_some h
          refine dw_ki (va_runV (As := [.int (q7.1 1 6)]) (rest := []) ⟨hx, hb, hml, hown, hts⟩ (qX9_accept_s0 l D ty eo _ ad q7 (q7.1 1 6) r8 q10 h9) (cwV 1 hts gX9_seen_X9_accept rfl rfl rfl (by decide +kernel) ⟨Nat.le_of_ble_eq_true rfl, Nat.le_of_ble_eq_true rfl⟩) (dw_preV (ci := 9) (q0 := 0) hK hN hE hP hD hS hA rfl rfl) rfl rfl hl.1 rfl (lv_room (Nat.le_of_ble_eq_true rfl)) dX9_seen_95 ⟨Nat.le_of_ble_eq_true rfl, Nat.le_of_ble_eq_true rfl⟩) hD hS hA (fun r9 u9 H locs hw hp hd hs => ?_)
          clear hP hD hS
          obtain ⟨rfl, rfl⟩ := hw
          have hP := hp; have hD := hd; have hS := hs; clear hp hd hs
          cases h
          exact kz_iret hx hb hr hlocks hP hK hD hS dX9_seen_98 ⟨rfl, rfl⟩
        · rw [if_neg c9] at h
          refine lv_aload_n hx hb dX9_seen_35 rfl (lv_at hl 0 rfl) ?_
          refine lv_bipush (v := (-5)) hx hb dX9_seen_36 (by decide) ?_
          obtain ⟨r11, q13, h12, h⟩ := dB_some h
          refine dw_ki (va_runV (As := [.int (-5)]) (rest := []) ⟨hx, hb, hml, hown, hts⟩ (qX9_refuse_s0 l D ty eo _ ad q (-5) r11 q13 h12) (cwV 1 hts gX9_seen_X9_refuse rfl rfl rfl (by decide +kernel) ⟨Nat.le_of_ble_eq_true rfl, Nat.le_of_ble_eq_true rfl⟩) (dw_preV (ci := 9) (q0 := 0) hK hN hE hP hD hS hA rfl rfl) rfl rfl hl.1 rfl (lv_room (Nat.le_of_ble_eq_true rfl)) dX9_seen_38 ⟨Nat.le_of_ble_eq_true rfl, Nat.le_of_ble_eq_true rfl⟩) hD hS hA (fun r9 u9 H locs hw hp hd hs => ?_)
          clear hP hD hS
          obtain ⟨rfl, rfl⟩ := hw
          have hP := hp; have hD := hd; have hS := hs; clear hp hd hs
          cases h
          exact kz_iret hx hb hr hlocks hP hK hD hS dX9_seen_41 ⟨rfl, rfl⟩
      · rw [if_pos c9] at h
        exact WX9_seen_s0_17 C  _ _ _ _ h hP hD hS (lv_sub hl [0] rfl)

set_option maxHeartbeats 4000000 in
set_option maxRecDepth 100000 in
theorem qX9_forget_s0 (l : Launch) (D : va_G) (ty : Nat → ClassId) (eo : Nat → Nat) (sz : Nat) (ad : Nat → Nat) (q : dK)  (o1 : Int32) (o2 : dK) (h : zX9_forget_s0 q = some (o1, o2)) : Met l yX9_forget wsX9_forget ({ frames := 0, cells := 0, slots := 0, locals := 0 } : Room) (va_Pc [.ref (ad 0)] (kz_pre D ty eo (wF ty ad q) sz)) (va_Qi (fun (r : Int32) (u : va_W) => o1 = r ∧ wF ty ad o2 = u) (kz_B D ty (va_A (wF ty ad q) sz)) (va_A (wF ty ad q) sz)) 0 0 (va_A (wF ty ad q) sz) := by
  refine Met.ofW (cc := cX9_forget) (maxL := 2) (ret := (some .int)) (by decide) rfl ?_
  intro p e s m args below meth c s₁ B hml hv
  obtain ⟨rfl, hsz, hP, hK, hD0, hN, hE⟩ := hv
  have hx := B.exec
  have hb := B.bytes
  have hr := B.returns
  have hts := atoms_spec (ws := wsX9_forget) B.pre
  have hown : s.vm.findClass RX9 = some m.cls := findClass_of_methodNamed B.named
  have hlocks := B.notSynchronized
  subst hsz
  have hD := hD0.self (sz := s.heap.size)
  generalize hAe : va_A (wF ty ad q) s.heap.size = A at hD hE ⊢
  have hA : ∀ q : Nat, s.heap.size ≤ q → A q := fun q h => by rw [← hAe]; exact Or.inr h
  clear hAe
  have hS : va_S A s.heap s.heap [] := va_S.rf
  have hl := lv_entry ([.ref (ad 0)]) (n := 2) (Nat.le_of_ble_eq_true rfl)
  rw [lg_entry_eq]
  generalize (lg_sl ([.ref (ad 0)]) ++ List.replicate (2 - (lg_sl ([.ref (ad 0)])).length) Slot.unset).toArray = ls at hl ⊢
  have hl : lv_has ls 2 [(0, .ref (ad 0))] := hl
  have C : dc_C p s m _ meth c cX9_forget (some .int) 2 RX9 wsX9_forget D ty eo A := ⟨hx, hb, hr, hts, hown, hlocks, hml, hK, hN, hE, hA⟩
  unfold zX9_forget_s0 at h
  refine lv_aload_n hx hb dX9_forget_0 rfl (lv_at hl 0 rfl) ?_
  refine va_get (D := D) (ci := 9) (v := .ref (ad 1)) (C := RX9) (T := TX9) (N := 19) hx hb hts u9_wsX9_forget_X9 hown hK hP 0 rfl rfl 0 (by decide) (hts (.fieldLink RX9 10 "TurnedFloors" "state" "LTurnedFloors$State;") f9_wsX9_forget_896) (fun _ h9 => h9) rfl dX9_forget_1 ?_
  refine va_getN (D := D) (ci := 6) (v := .int (q.1 1 6)) (C := RX6) (T := TX6) (N := 10) hx hb hts u9_wsX9_forget_X6 hown hK hP 1 rfl rfl 6 (by decide) (hN.use (.fieldLinkNest "TurnedFloors" 273 "TurnedFloors$State" "seenCount" "I" "TurnedFloors") (by decide +kernel)) (fun _ h9 => h9) rfl dX9_forget_4 ?_
  refine lv_istore_n (lv' := [(1, .int (q.1 1 6)), (0, .ref (ad 0))]) hx hb dX9_forget_7 rfl hl (by decide) rfl (fun ls hl => ?_)
  refine lv_aload_n hx hb dX9_forget_8 rfl (lv_at hl 1 rfl) ?_
  refine va_get (D := D) (ci := 9) (v := .ref (ad 1)) (C := RX9) (T := TX9) (N := 19) hx hb hts u9_wsX9_forget_X9 hown hK hP 0 rfl rfl 0 (by decide) (hts (.fieldLink RX9 10 "TurnedFloors" "state" "LTurnedFloors$State;") f9_wsX9_forget_896) (fun _ h9 => h9) rfl dX9_forget_9 ?_
  refine lv_iconst (v := 0) hx hb dX9_forget_12 (by decide) ?_
  refine va_putN (D := D) (ci := 6) (v := .int 0) (ty := .int) (C := RX6) (T := TX6) (N := 10) hx hb hts u9_wsX9_forget_X6 tyX6 tyX6_ok nmX6 hown hK hP hD hS 1 rfl rfl 6 (by decide) (hN.use (.fieldLinkNest "TurnedFloors" 273 "TurnedFloors$State" "seenCount" "I" "TurnedFloors") (by decide +kernel)) (fun _ h9 => h9) rfl (by decide +kernel) rfl rfl (Nat.le_of_ble_eq_true rfl) dX9_forget_13 (fun H locs hp hd hs => ?_)
  obtain ⟨q1, eq1, h⟩ := dL_some h
  refine kz_re (w2 := wF ty ad q1) hp hd hs (by rw [← eq1]; exact wF_f1_6 ty ad q 0) ?_
  clear hp hd hs hP hD hS
  intro hP hD hS
  refine lv_iload_n hx hb dX9_forget_16 rfl (lv_at hl 0 rfl) ?_
  cases h
  exact kz_iret hx hb hr hlocks hP hK hD hS dX9_forget_17 ⟨rfl, rfl⟩

set_option maxHeartbeats 4000000 in
set_option maxRecDepth 100000 in
theorem WX8_rankBehindTurn_s2_33 {p : Program} {l : Launch} {e : Env} {s : State} {m : MethodId} {args : Array Value} {below : List Frame} {meth : Method} {c : Code} {D : va_G} {ty : Nat → ClassId} {eo : Nat → Nat} {A : Nat → Prop} {ad : Nat → Nat} {o1 : Int32} {o2 : dK} (C : dc_C p s m args meth c cX8_rankBehindTurn (some .int) 4 RX8 wsX8_rankBehindTurn D ty eo A)   (q : dK) (y0 : Int32) (H : Heap) (locs : List Loc) (ls : Array Slot) (h : zX8_rankBehindTurn_s2_33  q y0 = some (o1, o2)) (hP : va_P D vwCl (wF ty ad q) H) (hD : va_D A (wF ty ad q)) (hS : va_S A s.heap H locs) (hl : lv_has ls 4 []) : W p l e ({ frames := 1, cells := 0, slots := 0, locals := 21 } : Room) s m args below meth c H locs 0 0 (MQ below (va_Qi (fun (r : Int32) (u : va_W) => o1 = r ∧ wF ty ad o2 = u) (kz_B D ty A) A) args s 0 0 A) (F0 m 33 ls [.int y0]) := by
  have C0 := C
  obtain ⟨hx, hb, hr, hts, hown, hlocks, hml, hK, hN, hE, hA⟩ := C
  unfold zX8_rankBehindTurn_s2_33 at h
  cases h
  exact kz_iret hx hb hr hlocks hP hK hD hS dX8_rankBehindTurn_33 ⟨rfl, rfl⟩
set_option maxHeartbeats 4000000 in
set_option maxRecDepth 100000 in
theorem WX8_rankBehindTurn_s2_14 {p : Program} {l : Launch} {e : Env} {s : State} {m : MethodId} {args : Array Value} {below : List Frame} {meth : Method} {c : Code} {D : va_G} {ty : Nat → ClassId} {eo : Nat → Nat} {A : Nat → Prop} {ad : Nat → Nat} {o1 : Int32} {o2 : dK} (C : dc_C p s m args meth c cX8_rankBehindTurn (some .int) 4 RX8 wsX8_rankBehindTurn D ty eo A)   (q : dK) (y0 : Int32) (H : Heap) (locs : List Loc) (ls : Array Slot) (h : zX8_rankBehindTurn_s2_14  q y0 = some (o1, o2)) (hP : va_P D vwCl (wF ty ad q) H) (hD : va_D A (wF ty ad q)) (hS : va_S A s.heap H locs) (hl : lv_has ls 4 [(0, .ref (ad 2))]) : W p l e ({ frames := 1, cells := 0, slots := 0, locals := 21 } : Room) s m args below meth c H locs 0 0 (MQ below (va_Qi (fun (r : Int32) (u : va_W) => o1 = r ∧ wF ty ad o2 = u) (kz_B D ty A) A) args s 0 0 A) (F0 m 14 ls [.int y0]) := by
  have C0 := C
  obtain ⟨hx, hb, hr, hts, hown, hlocks, hml, hK, hN, hE, hA⟩ := C
  unfold zX8_rankBehindTurn_s2_14 at h
  refine lv_istore_n (lv' := [(3, .int y0), (0, .ref (ad 2))]) hx hb dX8_rankBehindTurn_14 rfl hl (by decide) rfl (fun ls hl => ?_)
  refine lv_aload_n hx hb dX8_rankBehindTurn_15 rfl (lv_at hl 1 rfl) ?_
  refine lv_iload_n hx hb dX8_rankBehindTurn_16 rfl (lv_at hl 0 rfl) ?_
  obtain ⟨r1, q3, h2, h⟩ := dB_some h
  refine dw_ki (va_runV (As := [.int y0]) (rest := []) ⟨hx, hb, hml, hown, hts⟩ (qX8_isFloor_s2 l D ty eo _ ad q y0 r1 q3 h2) (cwV 1 hts gX8_rankBehindTurn_X8_isFloor rfl rfl rfl (by decide +kernel) ⟨Nat.le_of_ble_eq_true rfl, Nat.le_of_ble_eq_true rfl⟩) (dw_preV (ci := 8) (q0 := 2) hK hN hE hP hD hS hA rfl rfl) rfl rfl hl.1 rfl (lv_room (Nat.le_of_ble_eq_true rfl)) dX8_rankBehindTurn_17 ⟨Nat.le_of_ble_eq_true rfl, Nat.le_of_ble_eq_true rfl⟩) hD hS hA (fun r9 u9 H locs hw hp hd hs => ?_)
  clear hP hD hS
  obtain ⟨rfl, rfl⟩ := hw
  have hP := hp; have hD := hd; have hS := hs; clear hp hd hs
  refine lv_if_eq (tgt := 32) hx hb dX8_rankBehindTurn_20 (by decide) (fun c9 => ?_) (fun c9 => ?_)
  · rw [if_pos c9] at h
    refine lv_iconst (v := (-1)) hx hb dX8_rankBehindTurn_32 (by decide) ?_
    exact WX8_rankBehindTurn_s2_33 C0  _ _ _ _ _ h hP hD hS (lv_sub hl [] rfl)
  · rw [if_neg c9] at h
    refine lv_aload_n hx hb dX8_rankBehindTurn_23 rfl (lv_at hl 1 rfl) ?_
    refine va_get (D := D) (ci := 8) (v := .ref (ad 3)) (C := RX8) (T := TX8) (N := 5) hx hb hts u9_wsX8_rankBehindTurn_X8 hown hK hP 2 rfl rfl 0 (by decide) (hts (.fieldLink RX8 9 "TurnedFloors$Tower" "rank" "[I") f9_wsX8_rankBehindTurn_898) (fun _ h9 => h9) rfl dX8_rankBehindTurn_24 ?_
    refine lv_iload_n hx hb dX8_rankBehindTurn_27 rfl (lv_at hl 0 rfl) ?_
    obtain ⟨g4, h⟩ := dG_some h
    refine va_iald hx hb hK hP 3 0 rfl rfl (dg_in g4) dX8_rankBehindTurn_28 ?_
    obtain ⟨v5, ev5, h⟩ := dL_some h
    refine kz_topi v5 ev5 ?_
    refine lv_goto (tgt := 33) hx hb dX8_rankBehindTurn_29 (by decide) ?_
    exact WX8_rankBehindTurn_s2_33 C0  _ _ _ _ _ h hP hD hS (lv_sub hl [] rfl)
set_option maxHeartbeats 4000000 in
set_option maxRecDepth 100000 in
theorem qX8_rankBehindTurn_s2 (l : Launch) (D : va_G) (ty : Nat → ClassId) (eo : Nat → Nat) (sz : Nat) (ad : Nat → Nat) (q : dK) (p1 : Int32) (p2 : Int32) (o1 : Int32) (o2 : dK) (h : zX8_rankBehindTurn_s2 q p1 p2 = some (o1, o2)) : Met l yX8_rankBehindTurn wsX8_rankBehindTurn ({ frames := 1, cells := 0, slots := 0, locals := 21 } : Room) (va_Pc [.ref (ad 2), .int p1, .int p2] (kz_pre D ty eo (wF ty ad q) sz)) (va_Qi (fun (r : Int32) (u : va_W) => o1 = r ∧ wF ty ad o2 = u) (kz_B D ty (va_A (wF ty ad q) sz)) (va_A (wF ty ad q) sz)) 0 0 (va_A (wF ty ad q) sz) := by
  refine Met.ofW (cc := cX8_rankBehindTurn) (maxL := 4) (ret := (some .int)) (by decide) rfl ?_
  intro p e s m args below meth c s₁ B hml hv
  obtain ⟨rfl, hsz, hP, hK, hD0, hN, hE⟩ := hv
  have hx := B.exec
  have hb := B.bytes
  have hr := B.returns
  have hts := atoms_spec (ws := wsX8_rankBehindTurn) B.pre
  have hown : s.vm.findClass RX8 = some m.cls := findClass_of_methodNamed B.named
  have hlocks := B.notSynchronized
  subst hsz
  have hD := hD0.self (sz := s.heap.size)
  generalize hAe : va_A (wF ty ad q) s.heap.size = A at hD hE ⊢
  have hA : ∀ q : Nat, s.heap.size ≤ q → A q := fun q h => by rw [← hAe]; exact Or.inr h
  clear hAe
  have hS : va_S A s.heap s.heap [] := va_S.rf
  have hl := lv_entry ([.ref (ad 2), .int p1, .int p2]) (n := 4) (Nat.le_of_ble_eq_true rfl)
  rw [lg_entry_eq]
  generalize (lg_sl ([.ref (ad 2), .int p1, .int p2]) ++ List.replicate (4 - (lg_sl ([.ref (ad 2), .int p1, .int p2])).length) Slot.unset).toArray = ls at hl ⊢
  have hl : lv_has ls 4 [(0, .ref (ad 2)), (1, .int p1), (2, .int p2)] := hl
  have C : dc_C p s m _ meth c cX8_rankBehindTurn (some .int) 4 RX8 wsX8_rankBehindTurn D ty eo A := ⟨hx, hb, hr, hts, hown, hlocks, hml, hK, hN, hE, hA⟩
  unfold zX8_rankBehindTurn_s2 at h
  refine lv_iload_n hx hb dX8_rankBehindTurn_0 rfl (lv_at hl 2 rfl) ?_
  refine lv_iload_n hx hb dX8_rankBehindTurn_1 rfl (lv_at hl 1 rfl) ?_
  refine lv_icmp_ge (tgt := 13) hx hb dX8_rankBehindTurn_2 (by decide) (fun c9 => ?_) (fun c9 => ?_)
  · rw [if_pos c9] at h
    refine lv_iload_n hx hb dX8_rankBehindTurn_13 rfl (lv_at hl 2 rfl) ?_
    exact WX8_rankBehindTurn_s2_14 C  _ _ _ _ _ h hP hD hS (lv_sub hl [0] rfl)
  · rw [if_neg c9] at h
    refine lv_iload_n hx hb dX8_rankBehindTurn_5 rfl (lv_at hl 1 rfl) ?_
    refine lv_iconst (v := 1) hx hb dX8_rankBehindTurn_6 (by decide) ?_
    refine lv_isub hx hb dX8_rankBehindTurn_7 ?_
    refine lv_iload_n hx hb dX8_rankBehindTurn_8 rfl (lv_at hl 2 rfl) ?_
    refine lv_isub hx hb dX8_rankBehindTurn_9 ?_
    refine lv_goto (tgt := 14) hx hb dX8_rankBehindTurn_10 (by decide) ?_
    exact WX8_rankBehindTurn_s2_14 C  _ _ _ _ _ h hP hD hS (lv_sub hl [0] rfl)

set_option maxHeartbeats 4000000 in
set_option maxRecDepth 100000 in
theorem WX6_agrees_s1_2b {p : Program} {l : Launch} {e : Env} {s : State} {m : MethodId} {args : Array Value} {below : List Frame} {meth : Method} {c : Code} {D : va_G} {ty : Nat → ClassId} {eo : Nat → Nat} {A : Nat → Prop} {ad : Nat → Nat} {o1 : Int32} {o2 : dK} (C : dc_C p s m args meth c cX6_agrees (some .boolean) 3 RX6 wsX6_agrees D ty eo A) {k2 : dK → Int32 → Int32 → Option (Int32 × dK)} (hk2 : ∀ (q : dK) (x1 : Int32) (x2 : Int32) (H : Heap) (locs : List Loc) (ls : Array Slot), k2 q x1 x2 = some (o1, o2) → va_P D vwCl (wF ty ad q) H → va_D A (wF ty ad q) → va_S A s.heap H locs → lv_has ls 3 [(0, .ref (ad 1)), (1, .int x1), (2, .int x2)] → W p l e ({ frames := 2, cells := 0, slots := 0, locals := 44 } : Room) s m args below meth c H locs 0 0 (MQ below (va_Qi (fun (r : Int32) (u : va_W) => o1 = r ∧ wF ty ad o2 = u) (kz_B D ty A) A) args s 0 0 A) (F0 m 2 ls [])) (q : dK) (x1 : Int32) (x2 : Int32) (H : Heap) (locs : List Loc) (ls : Array Slot) (h : zX6_agrees_s1_2b k2 q x1 x2 = some (o1, o2)) (hP : va_P D vwCl (wF ty ad q) H) (hD : va_D A (wF ty ad q)) (hS : va_S A s.heap H locs) (hl : lv_has ls 3 [(0, .ref (ad 1)), (1, .int x1), (2, .int x2)]) : W p l e ({ frames := 2, cells := 0, slots := 0, locals := 44 } : Room) s m args below meth c H locs 0 0 (MQ below (va_Qi (fun (r : Int32) (u : va_W) => o1 = r ∧ wF ty ad o2 = u) (kz_B D ty A) A) args s 0 0 A) (F0 m 2 ls []) := by
  have C0 := C
  obtain ⟨hx, hb, hr, hts, hown, hlocks, hml, hK, hN, hE, hA⟩ := C
  unfold zX6_agrees_s1_2b at h
  refine lv_iload_n hx hb dX6_agrees_2 rfl (lv_at hl 2 rfl) ?_
  refine lv_aload_n hx hb dX6_agrees_3 rfl (lv_at hl 0 rfl) ?_
  refine va_get (D := D) (ci := 6) (v := .int (q.1 1 6)) (C := RX6) (T := TX6) (N := 10) hx hb hts u9_wsX6_agrees_X6 hown hK hP 1 rfl rfl 6 (by decide) (hts (.fieldLink RX6 35 "TurnedFloors$State" "seenCount" "I") f9_wsX6_agrees_900) (fun _ h9 => h9) rfl dX6_agrees_4 ?_
  refine lv_icmp_ge (tgt := 41) hx hb dX6_agrees_7 (by decide) (fun c9 => ?_) (fun c9 => ?_)
  · rw [if_pos c9] at h
    refine lv_iconst (v := 1) hx hb dX6_agrees_41 (by decide) ?_
    cases h
    exact kz_zret hx hb hr hlocks rfl hP hK hD hS dX6_agrees_42 ⟨rfl, rfl⟩
  · rw [if_neg c9] at h
    refine lv_aload_n hx hb dX6_agrees_10 rfl (lv_at hl 0 rfl) ?_
    refine va_get (D := D) (ci := 6) (v := .ref (ad 2)) (C := RX6) (T := TX6) (N := 10) hx hb hts u9_wsX6_agrees_X6 hown hK hP 1 rfl rfl 0 (by decide) (hts (.fieldLink RX6 12 "TurnedFloors$State" "tower" "LTurnedFloors$Tower;") f9_wsX6_agrees_901) (fun _ h9 => h9) rfl dX6_agrees_11 ?_
    refine lv_iload_n hx hb dX6_agrees_14 rfl (lv_at hl 1 rfl) ?_
    refine lv_aload_n hx hb dX6_agrees_15 rfl (lv_at hl 0 rfl) ?_
    refine va_get (D := D) (ci := 6) (v := .ref (ad 5)) (C := RX6) (T := TX6) (N := 10) hx hb hts u9_wsX6_agrees_X6 hown hK hP 1 rfl rfl 4 (by decide) (hts (.fieldLink RX6 28 "TurnedFloors$State" "seenPlace" "[I") f9_wsX6_agrees_902) (fun _ h9 => h9) rfl dX6_agrees_16 ?_
    refine lv_iload_n hx hb dX6_agrees_19 rfl (lv_at hl 2 rfl) ?_
    obtain ⟨g1, h⟩ := dG_some h
    refine va_iald hx hb hK hP 5 0 rfl rfl (dg_in g1) dX6_agrees_20 ?_
    obtain ⟨v2, ev2, h⟩ := dL_some h
    refine kz_topi v2 ev2 ?_
    obtain ⟨r3, q5, h4, h⟩ := dB_some h
    refine dw_ki (va_runV (As := [.int x1, .int v2]) (rest := []) ⟨hx, hb, hml, hown, hts⟩ (qX8_rankBehindTurn_s2 l D ty eo _ ad q x1 v2 r3 q5 h4) (cwV 2 hts gX6_agrees_X8_rankBehindTurn rfl rfl rfl (by decide +kernel) ⟨Nat.le_of_ble_eq_true rfl, Nat.le_of_ble_eq_true rfl⟩) (dw_preV (ci := 8) (q0 := 2) hK hN hE hP hD hS hA rfl rfl) rfl rfl hl.1 rfl (lv_room (Nat.le_of_ble_eq_true rfl)) dX6_agrees_21 ⟨Nat.le_of_ble_eq_true rfl, Nat.le_of_ble_eq_true rfl⟩) hD hS hA (fun r9 u9 H locs hw hp hd hs => ?_)
    clear hP hD hS
    obtain ⟨rfl, rfl⟩ := hw
    have hP := hp; have hD := hd; have hS := hs; clear hp hd hs
    refine lv_aload_n hx hb dX6_agrees_24 rfl (lv_at hl 0 rfl) ?_
    refine va_get (D := D) (ci := 6) (v := .ref (ad 6)) (C := RX6) (T := TX6) (N := 10) hx hb hts u9_wsX6_agrees_X6 hown hK hP 1 rfl rfl 5 (by decide) (hts (.fieldLink RX6 32 "TurnedFloors$State" "seenRank" "[I") f9_wsX6_agrees_903) (fun _ h9 => h9) rfl dX6_agrees_25 ?_
    refine lv_iload_n hx hb dX6_agrees_28 rfl (lv_at hl 2 rfl) ?_
    obtain ⟨g6, h⟩ := dG_some h
    refine va_iald hx hb hK hP 6 0 rfl rfl (dg_in g6) dX6_agrees_29 ?_
    obtain ⟨v7, ev7, h⟩ := dL_some h
    refine kz_topi v7 ev7 ?_
    refine lv_icmp_eq (tgt := 35) hx hb dX6_agrees_30 (by decide) (fun c9 => ?_) (fun c9 => ?_)
    · rw [if_pos c9] at h
      refine lv_iinc (v := x2 + 1) (lv' := [(2, .int (x2 + 1)), (0, .ref (ad 1)), (1, .int x1)]) hx hb dX6_agrees_35 hl (k := 2) rfl rfl (by decide) rfl (fun ls hl => ?_)
      refine lv_goto (tgt := 2) hx hb dX6_agrees_38 (by decide) ?_
      exact hk2 _ _ _ _ _ _ h hP hD hS (lv_sub hl [1, 2, 0] rfl)
    · rw [if_neg c9] at h
      refine lv_iconst (v := 0) hx hb dX6_agrees_33 (by decide) ?_
      cases h
      exact kz_zret hx hb hr hlocks rfl hP hK hD hS dX6_agrees_34 ⟨rfl, rfl⟩
set_option maxHeartbeats 4000000 in
set_option maxRecDepth 100000 in
theorem WX6_agrees_s1_2 {p : Program} {l : Launch} {e : Env} {s : State} {m : MethodId} {args : Array Value} {below : List Frame} {meth : Method} {c : Code} {D : va_G} {ty : Nat → ClassId} {eo : Nat → Nat} {A : Nat → Prop} {ad : Nat → Nat} {o1 : Int32} {o2 : dK} (C : dc_C p s m args meth c cX6_agrees (some .boolean) 3 RX6 wsX6_agrees D ty eo A)   (n : Nat) (q : dK) (x1 : Int32) (x2 : Int32) (H : Heap) (locs : List Loc) (ls : Array Slot) (h : zX6_agrees_s1_2  n q x1 x2 = some (o1, o2)) (hP : va_P D vwCl (wF ty ad q) H) (hD : va_D A (wF ty ad q)) (hS : va_S A s.heap H locs) (hl : lv_has ls 3 [(0, .ref (ad 1)), (1, .int x1), (2, .int x2)]) : W p l e ({ frames := 2, cells := 0, slots := 0, locals := 44 } : Room) s m args below meth c H locs 0 0 (MQ below (va_Qi (fun (r : Int32) (u : va_W) => o1 = r ∧ wF ty ad o2 = u) (kz_B D ty A) A) args s 0 0 A) (F0 m 2 ls []) := by
  exact dFix_W (F := fun k (a : dK × Int32 × Int32) => zX6_agrees_s1_2b  (fun q x1 x2 => k (q, x1, x2)) a.1 a.2.1 a.2.2) (o := (o1, o2)) (P := fun (a : dK × Int32 × Int32) H locs ls => va_P D vwCl (wF ty ad a.1) H ∧ va_D A (wF ty ad a.1) ∧ va_S A s.heap H locs ∧ lv_has ls 3 [(0, .ref (ad 1)), (1, .int a.2.1), (2, .int a.2.2)]) (G := fun H locs ls => W p l e ({ frames := 2, cells := 0, slots := 0, locals := 44 } : Room) s m args below meth c H locs 0 0 (MQ below (va_Qi (fun (r : Int32) (u : va_W) => o1 = r ∧ wF ty ad o2 = u) (kz_B D ty A) A) args s 0 0 A) (F0 m 2 ls []))
    (fun k hk a H locs ls h hp => WX6_agrees_s1_2b C  (fun q x1 x2 H locs ls h h1 h2 h3 h4 => hk (q, x1, x2) H locs ls h ⟨h1, h2, h3, h4⟩) a.1 a.2.1 a.2.2 H locs ls h hp.1 hp.2.1 hp.2.2.1 hp.2.2.2) n (q, x1, x2) H locs ls h ⟨hP, hD, hS, hl⟩
set_option maxHeartbeats 4000000 in
set_option maxRecDepth 100000 in
theorem qX6_agrees_s1 (l : Launch) (D : va_G) (ty : Nat → ClassId) (eo : Nat → Nat) (sz : Nat) (ad : Nat → Nat) (q : dK) (p1 : Int32) (o1 : Int32) (o2 : dK) (h : zX6_agrees_s1 q p1 = some (o1, o2)) : Met l yX6_agrees wsX6_agrees ({ frames := 2, cells := 0, slots := 0, locals := 44 } : Room) (va_Pc [.ref (ad 1), .int p1] (kz_pre D ty eo (wF ty ad q) sz)) (va_Qi (fun (r : Int32) (u : va_W) => o1 = r ∧ wF ty ad o2 = u) (kz_B D ty (va_A (wF ty ad q) sz)) (va_A (wF ty ad q) sz)) 0 0 (va_A (wF ty ad q) sz) := by
  refine Met.ofW (cc := cX6_agrees) (maxL := 3) (ret := (some .boolean)) (by decide) rfl ?_
  intro p e s m args below meth c s₁ B hml hv
  obtain ⟨rfl, hsz, hP, hK, hD0, hN, hE⟩ := hv
  have hx := B.exec
  have hb := B.bytes
  have hr := B.returns
  have hts := atoms_spec (ws := wsX6_agrees) B.pre
  have hown : s.vm.findClass RX6 = some m.cls := findClass_of_methodNamed B.named
  have hlocks := B.notSynchronized
  subst hsz
  have hD := hD0.self (sz := s.heap.size)
  generalize hAe : va_A (wF ty ad q) s.heap.size = A at hD hE ⊢
  have hA : ∀ q : Nat, s.heap.size ≤ q → A q := fun q h => by rw [← hAe]; exact Or.inr h
  clear hAe
  have hS : va_S A s.heap s.heap [] := va_S.rf
  have hl := lv_entry ([.ref (ad 1), .int p1]) (n := 3) (Nat.le_of_ble_eq_true rfl)
  rw [lg_entry_eq]
  generalize (lg_sl ([.ref (ad 1), .int p1]) ++ List.replicate (3 - (lg_sl ([.ref (ad 1), .int p1])).length) Slot.unset).toArray = ls at hl ⊢
  have hl : lv_has ls 3 [(0, .ref (ad 1)), (1, .int p1)] := hl
  have C : dc_C p s m _ meth c cX6_agrees (some .boolean) 3 RX6 wsX6_agrees D ty eo A := ⟨hx, hb, hr, hts, hown, hlocks, hml, hK, hN, hE, hA⟩
  unfold zX6_agrees_s1 at h
  refine lv_iconst (v := 0) hx hb dX6_agrees_0 (by decide) ?_
  refine lv_istore_n (lv' := [(2, .int 0), (0, .ref (ad 1)), (1, .int p1)]) hx hb dX6_agrees_1 rfl hl (by decide) rfl (fun ls hl => ?_)
  exact WX6_agrees_s1_2 C  _ _ _ _ _ _ _ h hP hD hS (lv_sub hl [1, 2, 0] rfl)

set_option maxHeartbeats 4000000 in
set_option maxRecDepth 100000 in
theorem WX9_was_s0_55 {p : Program} {l : Launch} {e : Env} {s : State} {m : MethodId} {args : Array Value} {below : List Frame} {meth : Method} {c : Code} {D : va_G} {ty : Nat → ClassId} {eo : Nat → Nat} {A : Nat → Prop} {ad : Nat → Nat} {o1 : Int32} {o2 : dK} (C : dc_C p s m args meth c cX9_was (some .int) 4 RX9 wsX9_was D ty eo A) {k9 : dK → Int32 → Int32 → Option (Int32 × dK)} (hk9 : ∀ (q : dK) (x2 : Int32) (x3 : Int32) (H : Heap) (locs : List Loc) (ls : Array Slot), k9 q x2 x3 = some (o1, o2) → va_P D vwCl (wF ty ad q) H → va_D A (wF ty ad q) → va_S A s.heap H locs → lv_has ls 4 [(0, .ref (ad 0)), (1, .ref (ad 20)), (2, .int x2), (3, .int x3)] → W p l e ({ frames := 4, cells := 0, slots := 0, locals := 103 } : Room) s m args below meth c H locs 0 0 (MQ below (va_Qi (fun (r : Int32) (u : va_W) => o1 = r ∧ wF ty ad o2 = u) (kz_B D ty A) A) args s 0 0 A) (F0 m 9 ls [])) (q : dK) (x2 : Int32) (x3 : Int32) (H : Heap) (locs : List Loc) (ls : Array Slot) (h : zX9_was_s0_55 k9 q x2 x3 = some (o1, o2)) (hP : va_P D vwCl (wF ty ad q) H) (hD : va_D A (wF ty ad q)) (hS : va_S A s.heap H locs) (hl : lv_has ls 4 [(0, .ref (ad 0)), (1, .ref (ad 20)), (2, .int x2), (3, .int x3)]) : W p l e ({ frames := 4, cells := 0, slots := 0, locals := 103 } : Room) s m args below meth c H locs 0 0 (MQ below (va_Qi (fun (r : Int32) (u : va_W) => o1 = r ∧ wF ty ad o2 = u) (kz_B D ty A) A) args s 0 0 A) (F0 m 55 ls []) := by
  have C0 := C
  obtain ⟨hx, hb, hr, hts, hown, hlocks, hml, hK, hN, hE, hA⟩ := C
  unfold zX9_was_s0_55 at h
  refine lv_iinc (v := x3 + 1) (lv' := [(3, .int (x3 + 1)), (0, .ref (ad 0)), (1, .ref (ad 20)), (2, .int x2)]) hx hb dX9_was_55 hl (k := 3) rfl rfl (by decide) rfl (fun ls hl => ?_)
  refine lv_goto (tgt := 9) hx hb dX9_was_58 (by decide) ?_
  exact hk9 _ _ _ _ _ _ h hP hD hS (lv_sub hl [1, 2, 3, 0] rfl)
set_option maxHeartbeats 4000000 in
set_option maxRecDepth 100000 in
theorem WX9_was_s0_9b {p : Program} {l : Launch} {e : Env} {s : State} {m : MethodId} {args : Array Value} {below : List Frame} {meth : Method} {c : Code} {D : va_G} {ty : Nat → ClassId} {eo : Nat → Nat} {A : Nat → Prop} {ad : Nat → Nat} {o1 : Int32} {o2 : dK} (C : dc_C p s m args meth c cX9_was (some .int) 4 RX9 wsX9_was D ty eo A) {k9 : dK → Int32 → Int32 → Option (Int32 × dK)} (hk9 : ∀ (q : dK) (x2 : Int32) (x3 : Int32) (H : Heap) (locs : List Loc) (ls : Array Slot), k9 q x2 x3 = some (o1, o2) → va_P D vwCl (wF ty ad q) H → va_D A (wF ty ad q) → va_S A s.heap H locs → lv_has ls 4 [(0, .ref (ad 0)), (1, .ref (ad 20)), (2, .int x2), (3, .int x3)] → W p l e ({ frames := 4, cells := 0, slots := 0, locals := 103 } : Room) s m args below meth c H locs 0 0 (MQ below (va_Qi (fun (r : Int32) (u : va_W) => o1 = r ∧ wF ty ad o2 = u) (kz_B D ty A) A) args s 0 0 A) (F0 m 9 ls [])) (q : dK) (x2 : Int32) (x3 : Int32) (H : Heap) (locs : List Loc) (ls : Array Slot) (h : zX9_was_s0_9b k9 q x2 x3 = some (o1, o2)) (hP : va_P D vwCl (wF ty ad q) H) (hD : va_D A (wF ty ad q)) (hS : va_S A s.heap H locs) (hl : lv_has ls 4 [(0, .ref (ad 0)), (1, .ref (ad 20)), (2, .int x2), (3, .int x3)]) : W p l e ({ frames := 4, cells := 0, slots := 0, locals := 103 } : Room) s m args below meth c H locs 0 0 (MQ below (va_Qi (fun (r : Int32) (u : va_W) => o1 = r ∧ wF ty ad o2 = u) (kz_B D ty A) A) args s 0 0 A) (F0 m 9 ls []) := by
  have C0 := C
  obtain ⟨hx, hb, hr, hts, hown, hlocks, hml, hK, hN, hE, hA⟩ := C
  unfold zX9_was_s0_9b at h
  refine lv_iload_n hx hb dX9_was_9 rfl (lv_at hl 3 rfl) ?_
  refine lv_aload_n hx hb dX9_was_10 rfl (lv_at hl 0 rfl) ?_
  refine va_get (D := D) (ci := 9) (v := .ref (ad 1)) (C := RX9) (T := TX9) (N := 19) hx hb hts u9_wsX9_was_X9 hown hK hP 0 rfl rfl 0 (by decide) (hts (.fieldLink RX9 10 "TurnedFloors" "state" "LTurnedFloors$State;") f9_wsX9_was_907) (fun _ h9 => h9) rfl dX9_was_11 ?_
  refine va_getN (D := D) (ci := 6) (v := .ref (ad 2)) (C := RX6) (T := TX6) (N := 10) hx hb hts u9_wsX9_was_X6 hown hK hP 1 rfl rfl 0 (by decide) (hN.use (.fieldLinkNest "TurnedFloors" 122 "TurnedFloors$State" "tower" "LTurnedFloors$Tower;" "TurnedFloors") (by decide +kernel)) (fun _ h9 => h9) rfl dX9_was_14 ?_
  refine va_getN (D := D) (ci := 8) (v := .int (q.1 2 2)) (C := RX8) (T := TX8) (N := 5) hx hb hts u9_wsX9_was_X8 hown hK hP 2 rfl rfl 2 (by decide) (hN.use (.fieldLinkNest "TurnedFloors" 135 "TurnedFloors$Tower" "floors" "I" "TurnedFloors") (by decide +kernel)) (fun _ h9 => h9) rfl dX9_was_17 ?_
  refine lv_icmp_gt (tgt := 61) hx hb dX9_was_20 (by decide) (fun c9 => ?_) (fun c9 => ?_)
  · rw [if_pos c9] at h
    refine lv_iload_n hx hb dX9_was_61 rfl (lv_at hl 2 rfl) ?_
    cases h
    exact kz_iret hx hb hr hlocks hP hK hD hS dX9_was_62 ⟨rfl, rfl⟩
  · rw [if_neg c9] at h
    refine lv_aload_n hx hb dX9_was_23 rfl (lv_at hl 1 rfl) ?_
    refine lv_aload_n hx hb dX9_was_24 rfl (lv_at hl 0 rfl) ?_
    refine va_get (D := D) (ci := 9) (v := .ref (ad 1)) (C := RX9) (T := TX9) (N := 19) hx hb hts u9_wsX9_was_X9 hown hK hP 0 rfl rfl 0 (by decide) (hts (.fieldLink RX9 10 "TurnedFloors" "state" "LTurnedFloors$State;") f9_wsX9_was_907) (fun _ h9 => h9) rfl dX9_was_25 ?_
    refine va_getN (D := D) (ci := 6) (v := .ref (ad 2)) (C := RX6) (T := TX6) (N := 10) hx hb hts u9_wsX9_was_X6 hown hK hP 1 rfl rfl 0 (by decide) (hN.use (.fieldLinkNest "TurnedFloors" 122 "TurnedFloors$State" "tower" "LTurnedFloors$Tower;" "TurnedFloors") (by decide +kernel)) (fun _ h9 => h9) rfl dX9_was_28 ?_
    refine lv_iload_n hx hb dX9_was_31 rfl (lv_at hl 3 rfl) ?_
    obtain ⟨r1, q3, h2, h⟩ := dB_some h
    refine dw_ki (va_runV (As := [.ref (ad 2), .int x3]) (rest := []) ⟨hx, hb, hml, hown, hts⟩ (qX1_bars_s20_s2 l D ty eo _ ad q x3 r1 q3 h2) (cwV 2 hts gX9_was_X1_bars rfl rfl rfl (by decide +kernel) ⟨Nat.le_of_ble_eq_true rfl, Nat.le_of_ble_eq_true rfl⟩) (dw_preV (ci := 1) (q0 := 20) hK hN hE hP hD hS hA rfl rfl) rfl rfl hl.1 rfl (lv_room (Nat.le_of_ble_eq_true rfl)) dX9_was_32 ⟨Nat.le_of_ble_eq_true rfl, Nat.le_of_ble_eq_true rfl⟩) hD hS hA (fun r9 u9 H locs hw hp hd hs => ?_)
    clear hP hD hS
    obtain ⟨rfl, rfl⟩ := hw
    have hP := hp; have hD := hd; have hS := hs; clear hp hd hs
    refine lv_if_ne (tgt := 55) hx hb dX9_was_35 (by decide) (fun c9 => ?_) (fun c9 => ?_)
    · rw [if_neg c9] at h
      exact WX9_was_s0_55 C0 hk9 _ _ _ _ _ _ h hP hD hS (lv_sub hl [0, 1, 2, 3] rfl)
    · rw [if_pos c9] at h
      refine lv_aload_n hx hb dX9_was_38 rfl (lv_at hl 0 rfl) ?_
      refine va_get (D := D) (ci := 9) (v := .ref (ad 1)) (C := RX9) (T := TX9) (N := 19) hx hb hts u9_wsX9_was_X9 hown hK hP 0 rfl rfl 0 (by decide) (hts (.fieldLink RX9 10 "TurnedFloors" "state" "LTurnedFloors$State;") f9_wsX9_was_907) (fun _ h9 => h9) rfl dX9_was_39 ?_
      refine lv_iload_n hx hb dX9_was_42 rfl (lv_at hl 3 rfl) ?_
      obtain ⟨r4, q6, h5, h⟩ := dB_some h
      refine dw_ki (va_runV (As := [.int x3]) (rest := []) ⟨hx, hb, hml, hown, hts⟩ (qX6_agrees_s1 l D ty eo _ ad q3 x3 r4 q6 h5) (cwV 1 hts gX9_was_X6_agrees rfl rfl rfl (by decide +kernel) ⟨Nat.le_of_ble_eq_true rfl, Nat.le_of_ble_eq_true rfl⟩) (dw_preV (ci := 6) (q0 := 1) hK hN hE hP hD hS hA rfl rfl) rfl rfl hl.1 rfl (lv_room (Nat.le_of_ble_eq_true rfl)) dX9_was_43 ⟨Nat.le_of_ble_eq_true rfl, Nat.le_of_ble_eq_true rfl⟩) hD hS hA (fun r9 u9 H locs hw hp hd hs => ?_)
      clear hP hD hS
      obtain ⟨rfl, rfl⟩ := hw
      have hP := hp; have hD := hd; have hS := hs; clear hp hd hs
      refine lv_if_eq (tgt := 55) hx hb dX9_was_46 (by decide) (fun c9 => ?_) (fun c9 => ?_)
      · rw [if_pos c9] at h
        exact WX9_was_s0_55 C0 hk9 _ _ _ _ _ _ h hP hD hS (lv_sub hl [0, 1, 2, 3] rfl)
      · rw [if_neg c9] at h
        refine lv_iload_n hx hb dX9_was_49 rfl (lv_at hl 2 rfl) ?_
        refine lv_iconst (v := 1) hx hb dX9_was_50 (by decide) ?_
        refine lv_iload_n hx hb dX9_was_51 rfl (lv_at hl 3 rfl) ?_
        refine lv_ishl hx hb dX9_was_52 ?_
        refine lv_ior hx hb dX9_was_53 ?_
        refine lv_istore_n (lv' := [(2, .int (x2 ||| (1 <<< ((x3 : Int32) &&& 31) : Int32))), (0, .ref (ad 0)), (1, .ref (ad 20)), (3, .int x3)]) hx hb dX9_was_54 rfl hl (by decide) rfl (fun ls hl => ?_)
        exact WX9_was_s0_55 C0 hk9 _ _ _ _ _ _ h hP hD hS (lv_sub hl [1, 2, 0, 3] rfl)
set_option maxHeartbeats 4000000 in
set_option maxRecDepth 100000 in
theorem WX9_was_s0_9 {p : Program} {l : Launch} {e : Env} {s : State} {m : MethodId} {args : Array Value} {below : List Frame} {meth : Method} {c : Code} {D : va_G} {ty : Nat → ClassId} {eo : Nat → Nat} {A : Nat → Prop} {ad : Nat → Nat} {o1 : Int32} {o2 : dK} (C : dc_C p s m args meth c cX9_was (some .int) 4 RX9 wsX9_was D ty eo A)   (n : Nat) (q : dK) (x2 : Int32) (x3 : Int32) (H : Heap) (locs : List Loc) (ls : Array Slot) (h : zX9_was_s0_9  n q x2 x3 = some (o1, o2)) (hP : va_P D vwCl (wF ty ad q) H) (hD : va_D A (wF ty ad q)) (hS : va_S A s.heap H locs) (hl : lv_has ls 4 [(0, .ref (ad 0)), (1, .ref (ad 20)), (2, .int x2), (3, .int x3)]) : W p l e ({ frames := 4, cells := 0, slots := 0, locals := 103 } : Room) s m args below meth c H locs 0 0 (MQ below (va_Qi (fun (r : Int32) (u : va_W) => o1 = r ∧ wF ty ad o2 = u) (kz_B D ty A) A) args s 0 0 A) (F0 m 9 ls []) := by
  exact dFix_W (F := fun k (a : dK × Int32 × Int32) => zX9_was_s0_9b  (fun q x2 x3 => k (q, x2, x3)) a.1 a.2.1 a.2.2) (o := (o1, o2)) (P := fun (a : dK × Int32 × Int32) H locs ls => va_P D vwCl (wF ty ad a.1) H ∧ va_D A (wF ty ad a.1) ∧ va_S A s.heap H locs ∧ lv_has ls 4 [(0, .ref (ad 0)), (1, .ref (ad 20)), (2, .int a.2.1), (3, .int a.2.2)]) (G := fun H locs ls => W p l e ({ frames := 4, cells := 0, slots := 0, locals := 103 } : Room) s m args below meth c H locs 0 0 (MQ below (va_Qi (fun (r : Int32) (u : va_W) => o1 = r ∧ wF ty ad o2 = u) (kz_B D ty A) A) args s 0 0 A) (F0 m 9 ls []))
    (fun k hk a H locs ls h hp => WX9_was_s0_9b C  (fun q x2 x3 H locs ls h h1 h2 h3 h4 => hk (q, x2, x3) H locs ls h ⟨h1, h2, h3, h4⟩) a.1 a.2.1 a.2.2 H locs ls h hp.1 hp.2.1 hp.2.2.1 hp.2.2.2) n (q, x2, x3) H locs ls h ⟨hP, hD, hS, hl⟩
set_option maxHeartbeats 4000000 in
set_option maxRecDepth 100000 in
theorem qX9_was_s0 (l : Launch) (D : va_G) (ty : Nat → ClassId) (eo : Nat → Nat) (sz : Nat) (ad : Nat → Nat) (q : dK)  (o1 : Int32) (o2 : dK) (h : zX9_was_s0 q = some (o1, o2)) : Met l yX9_was wsX9_was ({ frames := 4, cells := 0, slots := 0, locals := 103 } : Room) (va_Pc [.ref (ad 0)] (kz_pre D ty eo (wF ty ad q) sz)) (va_Qi (fun (r : Int32) (u : va_W) => o1 = r ∧ wF ty ad o2 = u) (kz_B D ty (va_A (wF ty ad q) sz)) (va_A (wF ty ad q) sz)) 0 0 (va_A (wF ty ad q) sz) := by
  refine Met.ofW (cc := cX9_was) (maxL := 4) (ret := (some .int)) (by decide) rfl ?_
  intro p e s m args below meth c s₁ B hml hv
  obtain ⟨rfl, hsz, hP, hK, hD0, hN, hE⟩ := hv
  have hx := B.exec
  have hb := B.bytes
  have hr := B.returns
  have hts := atoms_spec (ws := wsX9_was) B.pre
  have hown : s.vm.findClass RX9 = some m.cls := findClass_of_methodNamed B.named
  have hlocks := B.notSynchronized
  subst hsz
  have hD := hD0.self (sz := s.heap.size)
  generalize hAe : va_A (wF ty ad q) s.heap.size = A at hD hE ⊢
  have hA : ∀ q : Nat, s.heap.size ≤ q → A q := fun q h => by rw [← hAe]; exact Or.inr h
  clear hAe
  have hS : va_S A s.heap s.heap [] := va_S.rf
  have hl := lv_entry ([.ref (ad 0)]) (n := 4) (Nat.le_of_ble_eq_true rfl)
  rw [lg_entry_eq]
  generalize (lg_sl ([.ref (ad 0)]) ++ List.replicate (4 - (lg_sl ([.ref (ad 0)])).length) Slot.unset).toArray = ls at hl ⊢
  have hl : lv_has ls 4 [(0, .ref (ad 0))] := hl
  have C : dc_C p s m _ meth c cX9_was (some .int) 4 RX9 wsX9_was D ty eo A := ⟨hx, hb, hr, hts, hown, hlocks, hml, hK, hN, hE, hA⟩
  unfold zX9_was_s0 at h
  refine lv_aload_n hx hb dX9_was_0 rfl (lv_at hl 0 rfl) ?_
  obtain ⟨q3, h2, h⟩ := dV_some h
  refine dw_kq (va_runV (As := []) (rest := []) ⟨hx, hb, hml, hown, hts⟩ (qX9_seated_s0 l D ty eo _ ad q  q3 h2) (cwV 0 hts gX9_was_X9_seated rfl rfl rfl (by decide +kernel) ⟨Nat.le_of_ble_eq_true rfl, Nat.le_of_ble_eq_true rfl⟩) (dw_preV (ci := 9) (q0 := 0) hK hN hE hP hD hS hA rfl rfl) rfl rfl hl.1 rfl (lv_room (Nat.le_of_ble_eq_true rfl)) dX9_was_1 ⟨Nat.le_of_ble_eq_true rfl, Nat.le_of_ble_eq_true rfl⟩) hP hD hS hA (fun r9 u9 H locs hw hp hd hs => ?_)
  clear hP hD hS
  obtain ⟨rfl, rfl⟩ := hw
  have hP := hp; have hD := hd; have hS := hs; clear hp hd hs
  refine lv_astore_n (lv' := [(1, .ref (ad 20)), (0, .ref (ad 0))]) hx hb dX9_was_4 rfl hl (by decide) rfl (fun ls hl => ?_)
  refine lv_iconst (v := 0) hx hb dX9_was_5 (by decide) ?_
  refine lv_istore_n (lv' := [(2, .int 0), (1, .ref (ad 20)), (0, .ref (ad 0))]) hx hb dX9_was_6 rfl hl (by decide) rfl (fun ls hl => ?_)
  refine lv_iconst (v := 1) hx hb dX9_was_7 (by decide) ?_
  refine lv_istore_n (lv' := [(3, .int 1), (2, .int 0), (1, .ref (ad 20)), (0, .ref (ad 0))]) hx hb dX9_was_8 rfl hl (by decide) rfl (fun ls hl => ?_)
  exact WX9_was_s0_9 C  _ _ _ _ _ _ _ h hP hD hS (lv_sub hl [3, 2, 1, 0] rfl)
