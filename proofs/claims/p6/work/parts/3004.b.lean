theorem u9_wsX10_row_X10 : ∀ w ∈ u_ws RX10 TX10 56, w ∈ wsX10_row := by
  first | exact fun w h => List.mem_cons_of_mem _ (List.mem_append_right _ h) | decide +kernel
theorem f9_wsX10_row_81 : (Cond.fieldLink RX10 172 "TurnedFloorsModel" "bricks0" "I") ∈ wsX10_row := by decide +kernel
theorem f9_wsX10_row_82 : (Cond.fieldLink RX10 45 "TurnedFloorsModel" "tape" "[B") ∈ wsX10_row := by decide +kernel
theorem f9_wsX10_row_83 : (Cond.fieldLink RX10 169 "TurnedFloorsModel" "taped" "I") ∈ wsX10_row := by decide +kernel
theorem u9_wsX10_bricks_X10 : ∀ w ∈ u_ws RX10 TX10 56, w ∈ wsX10_bricks := by
  first | exact fun w h => List.mem_cons_of_mem _ (List.mem_append_right _ h) | decide +kernel
theorem f9_wsX10_bricks_85 : (Cond.fieldLink RX10 172 "TurnedFloorsModel" "bricks0" "I") ∈ wsX10_bricks := by decide +kernel
theorem u9_wsX10_feed_X10 : ∀ w ∈ u_ws RX10 TX10 56, w ∈ wsX10_feed := by
  first | exact fun w h => List.mem_cons_of_mem _ (List.mem_append_right _ h) | decide +kernel
theorem f9_wsX10_feed_87 : (Cond.fieldLink RX10 169 "TurnedFloorsModel" "taped" "I") ∈ wsX10_feed := by decide +kernel
theorem f9_wsX10_feed_88 : (Cond.fieldLink RX10 45 "TurnedFloorsModel" "tape" "[B") ∈ wsX10_feed := by decide +kernel
theorem f9_wsX10_feed_89 : (Cond.fieldLink RX10 48 "TurnedFloorsModel" "five" "[I") ∈ wsX10_feed := by decide +kernel
theorem u9_wsX10_end_X10 : ∀ w ∈ u_ws RX10 TX10 56, w ∈ wsX10_end := by
  first | exact fun w h => List.mem_cons_of_mem _ (List.mem_append_right _ h) | decide +kernel
theorem f9_wsX10_end_91 : (Cond.fieldLink RX10 169 "TurnedFloorsModel" "taped" "I") ∈ wsX10_end := by decide +kernel
theorem u9_wsX10_wordOf_X10 : ∀ w ∈ u_ws RX10 TX10 56, w ∈ wsX10_wordOf := by
  first | exact fun w h => List.mem_cons_of_mem _ (List.mem_append_right _ h) | decide +kernel
theorem f9_wsX10_wordOf_93 : (Cond.fieldLink RX10 41 "TurnedFloorsModel" "words" "[B") ∈ wsX10_wordOf := by decide +kernel
theorem f9_wsX10_wordOf_94 : (Cond.fieldLink RX10 45 "TurnedFloorsModel" "tape" "[B") ∈ wsX10_wordOf := by decide +kernel
set_option maxHeartbeats 4000000 in
set_option maxRecDepth 100000 in
theorem WX10_row_146 {p : Program} {l : Launch} {e : Env} {s : State} {m : MethodId} {args : Array Value} {below : List Frame} {meth : Method} {c : Code} {D : va_G} {ty : Nat → ClassId} {eo : Nat → Nat} {A : Nat → Prop} {ad : Nat → Nat} {o1 : Int32} {o2 : dS} (C : dc_C p s m args meth c cX10_row (some .int) 5 RX10 wsX10_row D ty eo A) {k32 : dS → Int32 → Int32 → Int32 → Option (Int32 × dS)} (hk32 : ∀ (q : dS) (x1 : Int32) (x2 : Int32) (x3 : Int32) (H : Heap) (locs : List Loc) (ls : Array Slot), k32 q x1 x2 x3 = some (o1, o2) → va_P D vwCl (w10 ty ad q) H → va_D A (w10 ty ad q) → va_S A s.heap H locs → lv_has ls 5 [(0, .ref (ad 0)), (1, .int x1), (2, .int x2), (3, .int x3)] → W p l e ({ frames := 2, cells := 0, slots := 0, locals := 43 } : Room) s m args below meth c H locs 0 0 (MQ below (va_Qi (fun (r : Int32) (u : va_W) => o1 = r ∧ w10 ty ad o2 = u) (kz_B D ty A) A) args s 0 0 A) (F0 m 32 ls [])) (q : dS) (x1 : Int32) (x2 : Int32) (x3 : Int32) (y0 : Int32) (y1 : Int32) (H : Heap) (locs : List Loc) (ls : Array Slot) (h : zX10_row_146 k32 q x1 x2 x3 y0 y1 = some (o1, o2)) (hP : va_P D vwCl (w10 ty ad q) H) (hD : va_D A (w10 ty ad q)) (hS : va_S A s.heap H locs) (hl : lv_has ls 5 [(0, .ref (ad 0)), (1, .int x1), (2, .int x2), (3, .int x3)]) : W p l e ({ frames := 2, cells := 0, slots := 0, locals := 43 } : Room) s m args below meth c H locs 0 0 (MQ below (va_Qi (fun (r : Int32) (u : va_W) => o1 = r ∧ w10 ty ad o2 = u) (kz_B D ty A) A) args s 0 0 A) (F0 m 146 ls [.int y0, .int y1, .ref (ad 0)]) := by
  have C0 := C
  obtain ⟨hx, hb, hr, hts, hown, hlocks, hml, hK, hN, hE, hA⟩ := C
  unfold zX10_row_146 at h
  refine lv_iadd hx hb dX10_row_146 ?_
  refine va_put (D := D) (ci := 10) (v := .int (y1 + y0)) (ty := .int) (C := RX10) (T := TX10) (N := 56) hx hb hts u9_wsX10_row_X10 tyX10 tyX10_ok nmX10 hown hK hP hD hS 0 rfl rfl 6 (by decide) (hts (.fieldLink RX10 172 "TurnedFloorsModel" "bricks0" "I") f9_wsX10_row_81) (fun _ h9 => h9) rfl (by decide +kernel) rfl rfl (Nat.le_of_ble_eq_true rfl) dX10_row_147 (fun H locs hp hd hs => ?_)
  obtain ⟨q1, eq1, h⟩ := dL_some h
  refine kz_re (w2 := w10 ty ad q1) hp hd hs (by rw [← eq1]; exact w10_f6 ty ad q (y1 + y0)) ?_
  clear hp hd hs hP hD hS
  intro hP hD hS
  refine lv_iinc (v := x3 + 2) (lv' := [(3, .int (x3 + 2)), (0, .ref (ad 0)), (1, .int x1), (2, .int x2)]) hx hb dX10_row_150 hl (k := 3) rfl rfl (by decide) rfl (fun ls hl => ?_)
  refine lv_goto (tgt := 32) hx hb dX10_row_153 (by decide) ?_
  exact hk32 _ _ _ _ _ _ _ h hP hD hS (lv_sub hl [1, 2, 3, 0] rfl)
set_option maxHeartbeats 4000000 in
set_option maxRecDepth 100000 in
theorem WX10_row_129 {p : Program} {l : Launch} {e : Env} {s : State} {m : MethodId} {args : Array Value} {below : List Frame} {meth : Method} {c : Code} {D : va_G} {ty : Nat → ClassId} {eo : Nat → Nat} {A : Nat → Prop} {ad : Nat → Nat} {o1 : Int32} {o2 : dS} (C : dc_C p s m args meth c cX10_row (some .int) 5 RX10 wsX10_row D ty eo A) {k32 : dS → Int32 → Int32 → Int32 → Option (Int32 × dS)} (hk32 : ∀ (q : dS) (x1 : Int32) (x2 : Int32) (x3 : Int32) (H : Heap) (locs : List Loc) (ls : Array Slot), k32 q x1 x2 x3 = some (o1, o2) → va_P D vwCl (w10 ty ad q) H → va_D A (w10 ty ad q) → va_S A s.heap H locs → lv_has ls 5 [(0, .ref (ad 0)), (1, .int x1), (2, .int x2), (3, .int x3)] → W p l e ({ frames := 2, cells := 0, slots := 0, locals := 43 } : Room) s m args below meth c H locs 0 0 (MQ below (va_Qi (fun (r : Int32) (u : va_W) => o1 = r ∧ w10 ty ad o2 = u) (kz_B D ty A) A) args s 0 0 A) (F0 m 32 ls [])) (q : dS) (x1 : Int32) (x3 : Int32) (x4 : Int32) (y0 : Int32) (y1 : Int32) (H : Heap) (locs : List Loc) (ls : Array Slot) (h : zX10_row_129 k32 q x1 x3 x4 y0 y1 = some (o1, o2)) (hP : va_P D vwCl (w10 ty ad q) H) (hD : va_D A (w10 ty ad q)) (hS : va_S A s.heap H locs) (hl : lv_has ls 5 [(0, .ref (ad 0)), (1, .int x1), (3, .int x3), (4, .int x4)]) : W p l e ({ frames := 2, cells := 0, slots := 0, locals := 43 } : Room) s m args below meth c H locs 0 0 (MQ below (va_Qi (fun (r : Int32) (u : va_W) => o1 = r ∧ w10 ty ad o2 = u) (kz_B D ty A) A) args s 0 0 A) (F0 m 129 ls [.int y0, .int y1]) := by
  have C0 := C
  obtain ⟨hx, hb, hr, hts, hown, hlocks, hml, hK, hN, hE, hA⟩ := C
  unfold zX10_row_129 at h
  refine lv_iadd hx hb dX10_row_129 ?_
  refine lv_istore_n (lv' := [(2, .int (y1 + y0)), (0, .ref (ad 0)), (1, .int x1), (3, .int x3), (4, .int x4)]) hx hb dX10_row_130 rfl hl (by decide) rfl (fun ls hl => ?_)
  refine lv_aload_n hx hb dX10_row_131 rfl (lv_at hl 1 rfl) ?_
  refine lv_dup hx hb dX10_row_132 rfl ?_
  refine va_get (D := D) (ci := 10) (v := .int (q.1 0 6)) (C := RX10) (T := TX10) (N := 56) hx hb hts u9_wsX10_row_X10 hown hK hP 0 rfl rfl 6 (by decide) (hts (.fieldLink RX10 172 "TurnedFloorsModel" "bricks0" "I") f9_wsX10_row_81) (fun _ h9 => h9) rfl dX10_row_133 ?_
  refine lv_iload hx hb dX10_row_136 (lv_at hl 4 rfl) ?_
  refine lv_if_eq (tgt := 145) hx hb dX10_row_138 (by decide) (fun c9 => ?_) (fun c9 => ?_)
  · rw [if_pos c9] at h
    refine lv_iconst (v := 1) hx hb dX10_row_145 (by decide) ?_
    exact WX10_row_146 C0 hk32 _ _ _ _ _ _ _ _ _ h hP hD hS (lv_sub hl [1, 2, 0, 3] rfl)
  · rw [if_neg c9] at h
    refine lv_iconst (v := 0) hx hb dX10_row_141 (by decide) ?_
    refine lv_goto (tgt := 146) hx hb dX10_row_142 (by decide) ?_
    exact WX10_row_146 C0 hk32 _ _ _ _ _ _ _ _ _ h hP hD hS (lv_sub hl [1, 2, 0, 3] rfl)
set_option maxHeartbeats 4000000 in
set_option maxRecDepth 100000 in
theorem WX10_row_118 {p : Program} {l : Launch} {e : Env} {s : State} {m : MethodId} {args : Array Value} {below : List Frame} {meth : Method} {c : Code} {D : va_G} {ty : Nat → ClassId} {eo : Nat → Nat} {A : Nat → Prop} {ad : Nat → Nat} {o1 : Int32} {o2 : dS} (C : dc_C p s m args meth c cX10_row (some .int) 5 RX10 wsX10_row D ty eo A) {k32 : dS → Int32 → Int32 → Int32 → Option (Int32 × dS)} (hk32 : ∀ (q : dS) (x1 : Int32) (x2 : Int32) (x3 : Int32) (H : Heap) (locs : List Loc) (ls : Array Slot), k32 q x1 x2 x3 = some (o1, o2) → va_P D vwCl (w10 ty ad q) H → va_D A (w10 ty ad q) → va_S A s.heap H locs → lv_has ls 5 [(0, .ref (ad 0)), (1, .int x1), (2, .int x2), (3, .int x3)] → W p l e ({ frames := 2, cells := 0, slots := 0, locals := 43 } : Room) s m args below meth c H locs 0 0 (MQ below (va_Qi (fun (r : Int32) (u : va_W) => o1 = r ∧ w10 ty ad o2 = u) (kz_B D ty A) A) args s 0 0 A) (F0 m 32 ls [])) (q : dS) (x1 : Int32) (x2 : Int32) (x3 : Int32) (x4 : Int32) (H : Heap) (locs : List Loc) (ls : Array Slot) (h : zX10_row_118 k32 q x1 x2 x3 x4 = some (o1, o2)) (hP : va_P D vwCl (w10 ty ad q) H) (hD : va_D A (w10 ty ad q)) (hS : va_S A s.heap H locs) (hl : lv_has ls 5 [(0, .ref (ad 0)), (1, .int x1), (2, .int x2), (3, .int x3), (4, .int x4)]) : W p l e ({ frames := 2, cells := 0, slots := 0, locals := 43 } : Room) s m args below meth c H locs 0 0 (MQ below (va_Qi (fun (r : Int32) (u : va_W) => o1 = r ∧ w10 ty ad o2 = u) (kz_B D ty A) A) args s 0 0 A) (F0 m 118 ls []) := by
  have C0 := C
  obtain ⟨hx, hb, hr, hts, hown, hlocks, hml, hK, hN, hE, hA⟩ := C
  unfold zX10_row_118 at h
  refine lv_iload_n hx hb dX10_row_118 rfl (lv_at hl 2 rfl) ?_
  refine lv_iload hx hb dX10_row_119 (lv_at hl 4 rfl) ?_
  refine lv_if_eq (tgt := 128) hx hb dX10_row_121 (by decide) (fun c9 => ?_) (fun c9 => ?_)
  · rw [if_pos c9] at h
    refine lv_iconst (v := 0) hx hb dX10_row_128 (by decide) ?_
    exact WX10_row_129 C0 hk32 _ _ _ _ _ _ _ _ _ h hP hD hS (lv_sub hl [0, 1, 3, 4] rfl)
  · rw [if_neg c9] at h
    refine lv_iconst (v := 1) hx hb dX10_row_124 (by decide) ?_
    refine lv_goto (tgt := 129) hx hb dX10_row_125 (by decide) ?_
    exact WX10_row_129 C0 hk32 _ _ _ _ _ _ _ _ _ h hP hD hS (lv_sub hl [0, 1, 3, 4] rfl)
set_option maxHeartbeats 4000000 in
set_option maxRecDepth 100000 in
theorem WX10_row_93 {p : Program} {l : Launch} {e : Env} {s : State} {m : MethodId} {args : Array Value} {below : List Frame} {meth : Method} {c : Code} {D : va_G} {ty : Nat → ClassId} {eo : Nat → Nat} {A : Nat → Prop} {ad : Nat → Nat} {o1 : Int32} {o2 : dS} (C : dc_C p s m args meth c cX10_row (some .int) 5 RX10 wsX10_row D ty eo A) {k32 : dS → Int32 → Int32 → Int32 → Option (Int32 × dS)} (hk32 : ∀ (q : dS) (x1 : Int32) (x2 : Int32) (x3 : Int32) (H : Heap) (locs : List Loc) (ls : Array Slot), k32 q x1 x2 x3 = some (o1, o2) → va_P D vwCl (w10 ty ad q) H → va_D A (w10 ty ad q) → va_S A s.heap H locs → lv_has ls 5 [(0, .ref (ad 0)), (1, .int x1), (2, .int x2), (3, .int x3)] → W p l e ({ frames := 2, cells := 0, slots := 0, locals := 43 } : Room) s m args below meth c H locs 0 0 (MQ below (va_Qi (fun (r : Int32) (u : va_W) => o1 = r ∧ w10 ty ad o2 = u) (kz_B D ty A) A) args s 0 0 A) (F0 m 32 ls [])) (q : dS) (x1 : Int32) (x2 : Int32) (x3 : Int32) (y0 : Int32) (H : Heap) (locs : List Loc) (ls : Array Slot) (h : zX10_row_93 k32 q x1 x2 x3 y0 = some (o1, o2)) (hP : va_P D vwCl (w10 ty ad q) H) (hD : va_D A (w10 ty ad q)) (hS : va_S A s.heap H locs) (hl : lv_has ls 5 [(0, .ref (ad 0)), (1, .int x1), (2, .int x2), (3, .int x3)]) : W p l e ({ frames := 2, cells := 0, slots := 0, locals := 43 } : Room) s m args below meth c H locs 0 0 (MQ below (va_Qi (fun (r : Int32) (u : va_W) => o1 = r ∧ w10 ty ad o2 = u) (kz_B D ty A) A) args s 0 0 A) (F0 m 93 ls [.int y0]) := by
  have C0 := C
  obtain ⟨hx, hb, hr, hts, hown, hlocks, hml, hK, hN, hE, hA⟩ := C
  unfold zX10_row_93 at h
  refine lv_istore (lv' := [(4, .int y0), (0, .ref (ad 0)), (1, .int x1), (2, .int x2), (3, .int x3)]) hx hb dX10_row_93 hl (by decide) rfl (fun ls hl => ?_)
  refine lv_iload hx hb dX10_row_95 (lv_at hl 0 rfl) ?_
  refine lv_if_eq (tgt := 118) hx hb dX10_row_97 (by decide) (fun c9 => ?_) (fun c9 => ?_)
  · rw [if_pos c9] at h
    exact WX10_row_118 C0 hk32 _ _ _ _ _ _ _ _ h hP hD hS (lv_sub hl [1, 2, 3, 4, 0] rfl)
  · rw [if_neg c9] at h
    refine lv_aload_n hx hb dX10_row_100 rfl (lv_at hl 1 rfl) ?_
    refine lv_aload_n hx hb dX10_row_101 rfl (lv_at hl 1 rfl) ?_
    refine va_get (D := D) (ci := 10) (v := .ref (ad 7)) (C := RX10) (T := TX10) (N := 56) hx hb hts u9_wsX10_row_X10 hown hK hP 0 rfl rfl 11 (by decide) (hts (.fieldLink RX10 45 "TurnedFloorsModel" "tape" "[B") f9_wsX10_row_82) (fun _ h9 => h9) rfl dX10_row_102 ?_
    refine lv_iload_n hx hb dX10_row_105 rfl (lv_at hl 4 rfl) ?_
    obtain ⟨g1, h⟩ := dG_some h
    refine va_bald hx hb hK hP 7 3 rfl rfl (dg_in g1) dX10_row_106 ?_
    obtain ⟨v2, ev2, h⟩ := dL_some h
    refine kz_topi v2 ev2 ?_
    refine lv_aload_n hx hb dX10_row_107 rfl (lv_at hl 1 rfl) ?_
    refine va_get (D := D) (ci := 10) (v := .ref (ad 7)) (C := RX10) (T := TX10) (N := 56) hx hb hts u9_wsX10_row_X10 hown hK hP 0 rfl rfl 11 (by decide) (hts (.fieldLink RX10 45 "TurnedFloorsModel" "tape" "[B") f9_wsX10_row_82) (fun _ h9 => h9) rfl dX10_row_108 ?_
    refine lv_iload_n hx hb dX10_row_111 rfl (lv_at hl 4 rfl) ?_
    refine lv_iconst (v := 1) hx hb dX10_row_112 (by decide) ?_
    refine lv_iadd hx hb dX10_row_113 ?_
    obtain ⟨g3, h⟩ := dG_some h
    refine va_bald hx hb hK hP 7 3 rfl rfl (dg_in g3) dX10_row_114 ?_
    obtain ⟨v4, ev4, h⟩ := dL_some h
    refine kz_topi v4 ev4 ?_
    obtain ⟨q7, h6, h⟩ := dV_some h
    refine dw_kv (va_runV (As := [.int v2, .int v4]) (rest := []) ⟨hx, hb, hml, hown, hts⟩ (qX10_adds l D ty eo _ ad q v2 v4 q7 h6) (cwV 2 hts gX10_row_X10_adds rfl rfl rfl (by decide +kernel) ⟨Nat.le_of_ble_eq_true rfl, Nat.le_of_ble_eq_true rfl⟩) (dw_preV (ci := 10) (q0 := 0) hK hN hE hP hD hS hA rfl rfl) rfl rfl hl.1 rfl (lv_room (Nat.le_of_ble_eq_true rfl)) dX10_row_115 ⟨Nat.le_of_ble_eq_true rfl, Nat.le_of_ble_eq_true rfl⟩) hD hS hA (fun u9 H locs hw hp hd hs => ?_)
    clear hP hD hS
    obtain rfl := hw
    have hP := hp; have hD := hd; have hS := hs; clear hp hd hs
    exact WX10_row_118 C0 hk32 _ _ _ _ _ _ _ _ h hP hD hS (lv_sub hl [1, 2, 3, 4, 0] rfl)
set_option maxHeartbeats 4000000 in
set_option maxRecDepth 100000 in
theorem WX10_row_92 {p : Program} {l : Launch} {e : Env} {s : State} {m : MethodId} {args : Array Value} {below : List Frame} {meth : Method} {c : Code} {D : va_G} {ty : Nat → ClassId} {eo : Nat → Nat} {A : Nat → Prop} {ad : Nat → Nat} {o1 : Int32} {o2 : dS} (C : dc_C p s m args meth c cX10_row (some .int) 5 RX10 wsX10_row D ty eo A) {k32 : dS → Int32 → Int32 → Int32 → Option (Int32 × dS)} (hk32 : ∀ (q : dS) (x1 : Int32) (x2 : Int32) (x3 : Int32) (H : Heap) (locs : List Loc) (ls : Array Slot), k32 q x1 x2 x3 = some (o1, o2) → va_P D vwCl (w10 ty ad q) H → va_D A (w10 ty ad q) → va_S A s.heap H locs → lv_has ls 5 [(0, .ref (ad 0)), (1, .int x1), (2, .int x2), (3, .int x3)] → W p l e ({ frames := 2, cells := 0, slots := 0, locals := 43 } : Room) s m args below meth c H locs 0 0 (MQ below (va_Qi (fun (r : Int32) (u : va_W) => o1 = r ∧ w10 ty ad o2 = u) (kz_B D ty A) A) args s 0 0 A) (F0 m 32 ls [])) (q : dS) (x1 : Int32) (x2 : Int32) (x3 : Int32) (H : Heap) (locs : List Loc) (ls : Array Slot) (h : zX10_row_92 k32 q x1 x2 x3 = some (o1, o2)) (hP : va_P D vwCl (w10 ty ad q) H) (hD : va_D A (w10 ty ad q)) (hS : va_S A s.heap H locs) (hl : lv_has ls 5 [(0, .ref (ad 0)), (1, .int x1), (2, .int x2), (3, .int x3)]) : W p l e ({ frames := 2, cells := 0, slots := 0, locals := 43 } : Room) s m args below meth c H locs 0 0 (MQ below (va_Qi (fun (r : Int32) (u : va_W) => o1 = r ∧ w10 ty ad o2 = u) (kz_B D ty A) A) args s 0 0 A) (F0 m 92 ls []) := by
  have C0 := C
  obtain ⟨hx, hb, hr, hts, hown, hlocks, hml, hK, hN, hE, hA⟩ := C
  unfold zX10_row_92 at h
  refine lv_iconst (v := 0) hx hb dX10_row_92 (by decide) ?_
  exact WX10_row_93 C0 hk32 _ _ _ _ _ _ _ _ h hP hD hS (lv_sub hl [0, 1, 2, 3] rfl)
set_option maxHeartbeats 4000000 in
set_option maxRecDepth 100000 in
theorem WX10_row_32b {p : Program} {l : Launch} {e : Env} {s : State} {m : MethodId} {args : Array Value} {below : List Frame} {meth : Method} {c : Code} {D : va_G} {ty : Nat → ClassId} {eo : Nat → Nat} {A : Nat → Prop} {ad : Nat → Nat} {o1 : Int32} {o2 : dS} (C : dc_C p s m args meth c cX10_row (some .int) 5 RX10 wsX10_row D ty eo A) {k32 : dS → Int32 → Int32 → Int32 → Option (Int32 × dS)} (hk32 : ∀ (q : dS) (x1 : Int32) (x2 : Int32) (x3 : Int32) (H : Heap) (locs : List Loc) (ls : Array Slot), k32 q x1 x2 x3 = some (o1, o2) → va_P D vwCl (w10 ty ad q) H → va_D A (w10 ty ad q) → va_S A s.heap H locs → lv_has ls 5 [(0, .ref (ad 0)), (1, .int x1), (2, .int x2), (3, .int x3)] → W p l e ({ frames := 2, cells := 0, slots := 0, locals := 43 } : Room) s m args below meth c H locs 0 0 (MQ below (va_Qi (fun (r : Int32) (u : va_W) => o1 = r ∧ w10 ty ad o2 = u) (kz_B D ty A) A) args s 0 0 A) (F0 m 32 ls [])) (q : dS) (x1 : Int32) (x2 : Int32) (x3 : Int32) (H : Heap) (locs : List Loc) (ls : Array Slot) (h : zX10_row_32b k32 q x1 x2 x3 = some (o1, o2)) (hP : va_P D vwCl (w10 ty ad q) H) (hD : va_D A (w10 ty ad q)) (hS : va_S A s.heap H locs) (hl : lv_has ls 5 [(0, .ref (ad 0)), (1, .int x1), (2, .int x2), (3, .int x3)]) : W p l e ({ frames := 2, cells := 0, slots := 0, locals := 43 } : Room) s m args below meth c H locs 0 0 (MQ below (va_Qi (fun (r : Int32) (u : va_W) => o1 = r ∧ w10 ty ad o2 = u) (kz_B D ty A) A) args s 0 0 A) (F0 m 32 ls []) := by
  have C0 := C
  obtain ⟨hx, hb, hr, hts, hown, hlocks, hml, hK, hN, hE, hA⟩ := C
  unfold zX10_row_32b at h
  refine lv_iload_n hx hb dX10_row_32 rfl (lv_at hl 3 rfl) ?_
  refine lv_iconst (v := 2) hx hb dX10_row_33 (by decide) ?_
  refine lv_iadd hx hb dX10_row_34 ?_
  refine lv_iload_n hx hb dX10_row_35 rfl (lv_at hl 1 rfl) ?_
  refine lv_icmp_gt (tgt := 156) hx hb dX10_row_36 (by decide) (fun c9 => ?_) (fun c9 => ?_)
  · rw [if_pos c9] at h
    refine lv_aload_n hx hb dX10_row_156 rfl (lv_at hl 0 rfl) ?_
    refine lv_iload_n hx hb dX10_row_157 rfl (lv_at hl 2 rfl) ?_
    obtain ⟨r1, q3, h2, h⟩ := dB_some h
    refine dw_ki (va_runV (As := [.int x2]) (rest := []) ⟨hx, hb, hml, hown, hts⟩ (qX10_settled l D ty eo _ ad q x2 r1 q3 h2) (cwV 1 hts gX10_row_X10_settled rfl rfl rfl (by decide +kernel) ⟨Nat.le_of_ble_eq_true rfl, Nat.le_of_ble_eq_true rfl⟩) (dw_preV (ci := 10) (q0 := 0) hK hN hE hP hD hS hA rfl rfl) rfl rfl hl.1 rfl (lv_room (Nat.le_of_ble_eq_true rfl)) dX10_row_158 ⟨Nat.le_of_ble_eq_true rfl, Nat.le_of_ble_eq_true rfl⟩) hD hS hA (fun r9 u9 H locs hw hp hd hs => ?_)
    clear hP hD hS
    obtain ⟨rfl, rfl⟩ := hw
    have hP := hp; have hD := hd; have hS := hs; clear hp hd hs
    cases h
    exact kz_iret hx hb hr hlocks hP hK hD hS dX10_row_161 ⟨rfl, rfl⟩
  · rw [if_neg c9] at h
    refine lv_aload_n hx hb dX10_row_39 rfl (lv_at hl 0 rfl) ?_
    obtain ⟨r4, q6, h5, h⟩ := dB_some h
    refine dw_ki (va_runV (As := []) (rest := []) ⟨hx, hb, hml, hown, hts⟩ (qX10_size l D ty eo _ ad q  r4 q6 h5) (cwV 0 hts gX10_row_X10_size rfl rfl rfl (by decide +kernel) ⟨Nat.le_of_ble_eq_true rfl, Nat.le_of_ble_eq_true rfl⟩) (dw_preV (ci := 10) (q0 := 0) hK hN hE hP hD hS hA rfl rfl) rfl rfl hl.1 rfl (lv_room (Nat.le_of_ble_eq_true rfl)) dX10_row_40 ⟨Nat.le_of_ble_eq_true rfl, Nat.le_of_ble_eq_true rfl⟩) hD hS hA (fun r9 u9 H locs hw hp hd hs => ?_)
    clear hP hD hS
    obtain ⟨rfl, rfl⟩ := hw
    have hP := hp; have hD := hd; have hS := hs; clear hp hd hs
    refine lv_bipush (v := 6) hx hb dX10_row_43 (by decide) ?_
    refine lv_icmp_ge (tgt := 92) hx hb dX10_row_45 (by decide) (fun c9 => ?_) (fun c9 => ?_)
    · rw [if_pos c9] at h
      exact WX10_row_92 C0 hk32 _ _ _ _ _ _ _ h hP hD hS (lv_sub hl [0, 1, 2, 3] rfl)
    · rw [if_neg c9] at h
      refine lv_aload_n hx hb dX10_row_48 rfl (lv_at hl 0 rfl) ?_
      refine va_get (D := D) (ci := 10) (v := .ref (ad 7)) (C := RX10) (T := TX10) (N := 56) hx hb hts u9_wsX10_row_X10 hown hK hP 0 rfl rfl 11 (by decide) (hts (.fieldLink RX10 45 "TurnedFloorsModel" "tape" "[B") f9_wsX10_row_82) (fun _ h9 => h9) rfl dX10_row_49 ?_
      refine lv_iload_n hx hb dX10_row_52 rfl (lv_at hl 3 rfl) ?_
      obtain ⟨g7, h⟩ := dG_some h
      refine va_bald hx hb hK hP 7 3 rfl rfl (dg_in g7) dX10_row_53 ?_
      obtain ⟨v8, ev8, h⟩ := dL_some h
      refine kz_topi v8 ev8 ?_
      obtain ⟨r9, h10, h⟩ := dV_some h
      refine dw_ks (va_runS (As := [.int v8]) (rest := []) ⟨hx, hb, hml, hown, hts⟩ (qX10_isRank l D ty eo _ v8 _ h10) (va_cwS 1 hts gX10_row_X10_isRank rfl rfl rfl (by decide +kernel) ⟨Nat.le_of_ble_eq_true rfl, Nat.le_of_ble_eq_true rfl⟩) (kz_preS hK hN hE hP hD hS hA [] (by decide) rfl) rfl rfl hl.1 rfl (lv_room (Nat.le_of_ble_eq_true rfl)) dX10_row_54 ⟨Nat.le_of_ble_eq_true rfl, Nat.le_of_ble_eq_true rfl⟩) hP hD hS hA (fun _ _ h9 => h9.2.symm) (fun r9 u9 H locs hw hp hd hs => ?_)
      obtain ⟨rfl, -⟩ := hw
      clear hP hD hS
      have hP := hp; have hD := hd; have hS := hs; clear hp hd hs
      refine lv_if_eq (tgt := 92) hx hb dX10_row_57 (by decide) (fun c9 => ?_) (fun c9 => ?_)
      · rw [if_pos c9] at h
        exact WX10_row_92 C0 hk32 _ _ _ _ _ _ _ h hP hD hS (lv_sub hl [0, 1, 2, 3] rfl)
      · rw [if_neg c9] at h
        refine lv_aload_n hx hb dX10_row_60 rfl (lv_at hl 0 rfl) ?_
        refine va_get (D := D) (ci := 10) (v := .ref (ad 7)) (C := RX10) (T := TX10) (N := 56) hx hb hts u9_wsX10_row_X10 hown hK hP 0 rfl rfl 11 (by decide) (hts (.fieldLink RX10 45 "TurnedFloorsModel" "tape" "[B") f9_wsX10_row_82) (fun _ h9 => h9) rfl dX10_row_61 ?_
        refine lv_iload_n hx hb dX10_row_64 rfl (lv_at hl 3 rfl) ?_
        refine lv_iconst (v := 1) hx hb dX10_row_65 (by decide) ?_
        refine lv_iadd hx hb dX10_row_66 ?_
        obtain ⟨g11, h⟩ := dG_some h
        refine va_bald hx hb hK hP 7 3 rfl rfl (dg_in g11) dX10_row_67 ?_
        obtain ⟨v12, ev12, h⟩ := dL_some h
        refine kz_topi v12 ev12 ?_
        obtain ⟨r13, h14, h⟩ := dV_some h
        refine dw_ks (va_runS (As := [.int v12]) (rest := []) ⟨hx, hb, hml, hown, hts⟩ (qX10_isBit l D ty eo _ v12 _ h14) (va_cwS 1 hts gX10_row_X10_isBit rfl rfl rfl (by decide +kernel) ⟨Nat.le_of_ble_eq_true rfl, Nat.le_of_ble_eq_true rfl⟩) (kz_preS hK hN hE hP hD hS hA [] (by decide) rfl) rfl rfl hl.1 rfl (lv_room (Nat.le_of_ble_eq_true rfl)) dX10_row_68 ⟨Nat.le_of_ble_eq_true rfl, Nat.le_of_ble_eq_true rfl⟩) hP hD hS hA (fun _ _ h9 => h9.2.symm) (fun r9 u9 H locs hw hp hd hs => ?_)
        obtain ⟨rfl, -⟩ := hw
        clear hP hD hS
        have hP := hp; have hD := hd; have hS := hs; clear hp hd hs
        refine lv_if_eq (tgt := 92) hx hb dX10_row_71 (by decide) (fun c9 => ?_) (fun c9 => ?_)
        · rw [if_pos c9] at h
          exact WX10_row_92 C0 hk32 _ _ _ _ _ _ _ h hP hD hS (lv_sub hl [0, 1, 2, 3] rfl)
        · rw [if_neg c9] at h
          refine lv_aload_n hx hb dX10_row_74 rfl (lv_at hl 0 rfl) ?_
          refine lv_aload_n hx hb dX10_row_75 rfl (lv_at hl 0 rfl) ?_
          refine va_get (D := D) (ci := 10) (v := .ref (ad 7)) (C := RX10) (T := TX10) (N := 56) hx hb hts u9_wsX10_row_X10 hown hK hP 0 rfl rfl 11 (by decide) (hts (.fieldLink RX10 45 "TurnedFloorsModel" "tape" "[B") f9_wsX10_row_82) (fun _ h9 => h9) rfl dX10_row_76 ?_
          refine lv_iload_n hx hb dX10_row_79 rfl (lv_at hl 3 rfl) ?_
          obtain ⟨g15, h⟩ := dG_some h
          refine va_bald hx hb hK hP 7 3 rfl rfl (dg_in g15) dX10_row_80 ?_
          obtain ⟨v16, ev16, h⟩ := dL_some h
          refine kz_topi v16 ev16 ?_
          obtain ⟨r17, q19, h18, h⟩ := dB_some h
          refine dw_ki (va_runV (As := [.int v16]) (rest := []) ⟨hx, hb, hml, hown, hts⟩ (qX10_placeOf l D ty eo _ ad q6 v16 r17 q19 h18) (cwV 1 hts gX10_row_X10_placeOf rfl rfl rfl (by decide +kernel) ⟨Nat.le_of_ble_eq_true rfl, Nat.le_of_ble_eq_true rfl⟩) (dw_preV (ci := 10) (q0 := 0) hK hN hE hP hD hS hA rfl rfl) rfl rfl hl.1 rfl (lv_room (Nat.le_of_ble_eq_true rfl)) dX10_row_81 ⟨Nat.le_of_ble_eq_true rfl, Nat.le_of_ble_eq_true rfl⟩) hD hS hA (fun r9 u9 H locs hw hp hd hs => ?_)
          clear hP hD hS
          obtain ⟨rfl, rfl⟩ := hw
          have hP := hp; have hD := hd; have hS := hs; clear hp hd hs
          refine lv_iconst (v := (-1)) hx hb dX10_row_84 (by decide) ?_
          refine lv_icmp_ne (tgt := 92) hx hb dX10_row_85 (by decide) (fun c9 => ?_) (fun c9 => ?_)
          · rw [if_neg c9] at h
            exact WX10_row_92 C0 hk32 _ _ _ _ _ _ _ h hP hD hS (lv_sub hl [0, 1, 2, 3] rfl)
          · rw [if_pos c9] at h
            refine lv_iconst (v := 1) hx hb dX10_row_88 (by decide) ?_
            refine lv_goto (tgt := 93) hx hb dX10_row_89 (by decide) ?_
            exact WX10_row_93 C0 hk32 _ _ _ _ _ _ _ _ h hP hD hS (lv_sub hl [0, 1, 2, 3] rfl)
set_option maxHeartbeats 4000000 in
set_option maxRecDepth 100000 in
theorem WX10_row_32 {p : Program} {l : Launch} {e : Env} {s : State} {m : MethodId} {args : Array Value} {below : List Frame} {meth : Method} {c : Code} {D : va_G} {ty : Nat → ClassId} {eo : Nat → Nat} {A : Nat → Prop} {ad : Nat → Nat} {o1 : Int32} {o2 : dS} (C : dc_C p s m args meth c cX10_row (some .int) 5 RX10 wsX10_row D ty eo A)   (n : Nat) (q : dS) (x1 : Int32) (x2 : Int32) (x3 : Int32) (H : Heap) (locs : List Loc) (ls : Array Slot) (h : zX10_row_32  n q x1 x2 x3 = some (o1, o2)) (hP : va_P D vwCl (w10 ty ad q) H) (hD : va_D A (w10 ty ad q)) (hS : va_S A s.heap H locs) (hl : lv_has ls 5 [(0, .ref (ad 0)), (1, .int x1), (2, .int x2), (3, .int x3)]) : W p l e ({ frames := 2, cells := 0, slots := 0, locals := 43 } : Room) s m args below meth c H locs 0 0 (MQ below (va_Qi (fun (r : Int32) (u : va_W) => o1 = r ∧ w10 ty ad o2 = u) (kz_B D ty A) A) args s 0 0 A) (F0 m 32 ls []) := by
  exact dFix_W (F := fun k (a : dS × Int32 × Int32 × Int32) => zX10_row_32b  (fun q x1 x2 x3 => k (q, x1, x2, x3)) a.1 a.2.1 a.2.2.1 a.2.2.2) (o := (o1, o2)) (P := fun (a : dS × Int32 × Int32 × Int32) H locs ls => va_P D vwCl (w10 ty ad a.1) H ∧ va_D A (w10 ty ad a.1) ∧ va_S A s.heap H locs ∧ lv_has ls 5 [(0, .ref (ad 0)), (1, .int a.2.1), (2, .int a.2.2.1), (3, .int a.2.2.2)]) (G := fun H locs ls => W p l e ({ frames := 2, cells := 0, slots := 0, locals := 43 } : Room) s m args below meth c H locs 0 0 (MQ below (va_Qi (fun (r : Int32) (u : va_W) => o1 = r ∧ w10 ty ad o2 = u) (kz_B D ty A) A) args s 0 0 A) (F0 m 32 ls []))
    (fun k hk a H locs ls h hp => WX10_row_32b C  (fun q x1 x2 x3 H locs ls h h1 h2 h3 h4 => hk (q, x1, x2, x3) H locs ls h ⟨h1, h2, h3, h4⟩) a.1 a.2.1 a.2.2.1 a.2.2.2 H locs ls h hp.1 hp.2.1 hp.2.2.1 hp.2.2.2) n (q, x1, x2, x3) H locs ls h ⟨hP, hD, hS, hl⟩
set_option maxHeartbeats 4000000 in
set_option maxRecDepth 100000 in
theorem qX10_row (l : Launch) (D : va_G) (ty : Nat → ClassId) (eo : Nat → Nat) (sz : Nat) (ad : Nat → Nat) (q : dS)  (o1 : Int32) (o2 : dS) (h : zX10_row q = some (o1, o2)) : Met l yX10_row wsX10_row ({ frames := 2, cells := 0, slots := 0, locals := 43 } : Room) (va_Pc [.ref (ad 0)] (kz_pre D ty eo (w10 ty ad q) sz)) (va_Qi (fun (r : Int32) (u : va_W) => o1 = r ∧ w10 ty ad o2 = u) (kz_B D ty (va_A (w10 ty ad q) sz)) (va_A (w10 ty ad q) sz)) 0 0 (va_A (w10 ty ad q) sz) := by
  refine Met.ofW (cc := cX10_row) (maxL := 5) (ret := (some .int)) (by decide) rfl ?_
  intro p e s m args below meth c s₁ B hml hv
  obtain ⟨rfl, hsz, hP, hK, hD0, hN, hE⟩ := hv
  have hx := B.exec
  have hb := B.bytes
  have hr := B.returns
  have hts := atoms_spec (ws := wsX10_row) B.pre
  have hown : s.vm.findClass RX10 = some m.cls := findClass_of_methodNamed B.named
  have hlocks := B.notSynchronized
  subst hsz
  have hD := hD0.self (sz := s.heap.size)
  generalize hAe : va_A (w10 ty ad q) s.heap.size = A at hD hE ⊢
  have hA : ∀ q : Nat, s.heap.size ≤ q → A q := fun q h => by rw [← hAe]; exact Or.inr h
  clear hAe
  have hS : va_S A s.heap s.heap [] := va_S.rf
  have hl := lv_entry ([.ref (ad 0)]) (n := 5) (Nat.le_of_ble_eq_true rfl)
  rw [lg_entry_eq]
  generalize (lg_sl ([.ref (ad 0)]) ++ List.replicate (5 - (lg_sl ([.ref (ad 0)])).length) Slot.unset).toArray = ls at hl ⊢
  have hl : lv_has ls 5 [(0, .ref (ad 0))] := hl
  have C : dc_C p s m _ meth c cX10_row (some .int) 5 RX10 wsX10_row D ty eo A := ⟨hx, hb, hr, hts, hown, hlocks, hml, hK, hN, hE, hA⟩
  unfold zX10_row at h
  refine lv_aload_n hx hb dX10_row_0 rfl (lv_at hl 0 rfl) ?_
  refine va_get (D := D) (ci := 10) (v := .int (q.1 0 13)) (C := RX10) (T := TX10) (N := 56) hx hb hts u9_wsX10_row_X10 hown hK hP 0 rfl rfl 13 (by decide) (hts (.fieldLink RX10 169 "TurnedFloorsModel" "taped" "I") f9_wsX10_row_83) (fun _ h9 => h9) rfl dX10_row_1 ?_
  refine lv_istore_n (lv' := [(1, .int (q.1 0 13)), (0, .ref (ad 0))]) hx hb dX10_row_4 rfl hl (by decide) rfl (fun ls hl => ?_)
  refine lv_aload_n hx hb dX10_row_5 rfl (lv_at hl 1 rfl) ?_
  refine lv_iconst (v := 0) hx hb dX10_row_6 (by decide) ?_
  refine va_put (D := D) (ci := 10) (v := .int 0) (ty := .int) (C := RX10) (T := TX10) (N := 56) hx hb hts u9_wsX10_row_X10 tyX10 tyX10_ok nmX10 hown hK hP hD hS 0 rfl rfl 13 (by decide) (hts (.fieldLink RX10 169 "TurnedFloorsModel" "taped" "I") f9_wsX10_row_83) (fun _ h9 => h9) rfl (by decide +kernel) rfl rfl (Nat.le_of_ble_eq_true rfl) dX10_row_7 (fun H locs hp hd hs => ?_)
  obtain ⟨q1, eq1, h⟩ := dL_some h
  refine kz_re (w2 := w10 ty ad q1) hp hd hs (by rw [← eq1]; exact w10_f13 ty ad q 0) ?_
  clear hp hd hs hP hD hS
  intro hP hD hS
  refine lv_iload_n hx hb dX10_row_10 rfl (lv_at hl 0 rfl) ?_
  refine lv_if_ne (tgt := 21) hx hb dX10_row_11 (by decide) (fun c9 => ?_) (fun c9 => ?_)
  · rw [if_neg c9] at h
    refine lv_iconst (v := 0) hx hb dX10_row_21 (by decide) ?_
    refine lv_istore_n (lv' := [(2, .int 0), (1, .int (q.1 0 13)), (0, .ref (ad 0))]) hx hb dX10_row_22 rfl hl (by decide) rfl (fun ls hl => ?_)
    refine lv_aload_n hx hb dX10_row_23 rfl (lv_at hl 2 rfl) ?_
    refine lv_iload_n hx hb dX10_row_24 rfl (lv_at hl 1 rfl) ?_
    refine lv_iconst (v := 2) hx hb dX10_row_25 (by decide) ?_
    refine lv_irem hx hb dX10_row_26 (by decide) ?_
    refine va_put (D := D) (ci := 10) (v := .int ((q.1 0 13) - (q.1 0 13) / 2 * 2 : Int32)) (ty := .int) (C := RX10) (T := TX10) (N := 56) hx hb hts u9_wsX10_row_X10 tyX10 tyX10_ok nmX10 hown hK hP hD hS 0 rfl rfl 6 (by decide) (hts (.fieldLink RX10 172 "TurnedFloorsModel" "bricks0" "I") f9_wsX10_row_81) (fun _ h9 => h9) rfl (by decide +kernel) rfl rfl (Nat.le_of_ble_eq_true rfl) dX10_row_27 (fun H locs hp hd hs => ?_)
    obtain ⟨q2, eq2, h⟩ := dL_some h
    refine kz_re (w2 := w10 ty ad q2) hp hd hs (by rw [← eq2]; exact w10_f6 ty ad q1 ((q.1 0 13) - (q.1 0 13) / 2 * 2 : Int32)) ?_
    clear hp hd hs hP hD hS
    intro hP hD hS
    refine lv_iconst (v := 0) hx hb dX10_row_30 (by decide) ?_
    refine lv_istore_n (lv' := [(3, .int 0), (2, .int 0), (1, .int (q.1 0 13)), (0, .ref (ad 0))]) hx hb dX10_row_31 rfl hl (by decide) rfl (fun ls hl => ?_)
    exact WX10_row_32 C  _ _ _ _ _ _ _ _ h hP hD hS (lv_sub hl [3, 2, 1, 0] rfl)
  · rw [if_pos c9] at h
    refine lv_aload_n hx hb dX10_row_14 rfl (lv_at hl 1 rfl) ?_
    refine lv_bipush (v := (-6)) hx hb dX10_row_15 (by decide) ?_
    obtain ⟨r3, q5, h4, h⟩ := dB_some h
    refine dw_ki (va_runV (As := [.int (-6)]) (rest := []) ⟨hx, hb, hml, hown, hts⟩ (qX10_refuses l D ty eo _ ad q1 (-6) r3 q5 h4) (cwV 1 hts gX10_row_X10_refuses rfl rfl rfl (by decide +kernel) ⟨Nat.le_of_ble_eq_true rfl, Nat.le_of_ble_eq_true rfl⟩) (dw_preV (ci := 10) (q0 := 0) hK hN hE hP hD hS hA rfl rfl) rfl rfl hl.1 rfl (lv_room (Nat.le_of_ble_eq_true rfl)) dX10_row_17 ⟨Nat.le_of_ble_eq_true rfl, Nat.le_of_ble_eq_true rfl⟩) hD hS hA (fun r9 u9 H locs hw hp hd hs => ?_)
    clear hP hD hS
    obtain ⟨rfl, rfl⟩ := hw
    have hP := hp; have hD := hd; have hS := hs; clear hp hd hs
    cases h
    exact kz_iret hx hb hr hlocks hP hK hD hS dX10_row_20 ⟨rfl, rfl⟩

set_option maxHeartbeats 4000000 in
set_option maxRecDepth 100000 in
theorem qX10_bricks (l : Launch) (D : va_G) (ty : Nat → ClassId) (eo : Nat → Nat) (sz : Nat) (ad : Nat → Nat) (q : dS)  (o1 : Int32) (o2 : dS) (h : zX10_bricks q = some (o1, o2)) : Met l yX10_bricks wsX10_bricks ({ frames := 0, cells := 0, slots := 0, locals := 0 } : Room) (va_Pc [.ref (ad 0)] (kz_pre D ty eo (w10 ty ad q) sz)) (va_Qi (fun (r : Int32) (u : va_W) => o1 = r ∧ w10 ty ad o2 = u) (kz_B D ty (va_A (w10 ty ad q) sz)) (va_A (w10 ty ad q) sz)) 0 0 (va_A (w10 ty ad q) sz) := by
  refine Met.ofW (cc := cX10_bricks) (maxL := 1) (ret := (some .int)) (by decide) rfl ?_
  intro p e s m args below meth c s₁ B hml hv
  obtain ⟨rfl, hsz, hP, hK, hD0, hN, hE⟩ := hv
  have hx := B.exec
  have hb := B.bytes
  have hr := B.returns
  have hts := atoms_spec (ws := wsX10_bricks) B.pre
  have hown : s.vm.findClass RX10 = some m.cls := findClass_of_methodNamed B.named
  have hlocks := B.notSynchronized
  subst hsz
  have hD := hD0.self (sz := s.heap.size)
  generalize hAe : va_A (w10 ty ad q) s.heap.size = A at hD hE ⊢
  have hA : ∀ q : Nat, s.heap.size ≤ q → A q := fun q h => by rw [← hAe]; exact Or.inr h
  clear hAe
  have hS : va_S A s.heap s.heap [] := va_S.rf
  have hl := lv_entry ([.ref (ad 0)]) (n := 1) (Nat.le_of_ble_eq_true rfl)
  rw [lg_entry_eq]
  generalize (lg_sl ([.ref (ad 0)]) ++ List.replicate (1 - (lg_sl ([.ref (ad 0)])).length) Slot.unset).toArray = ls at hl ⊢
  have hl : lv_has ls 1 [(0, .ref (ad 0))] := hl
  have C : dc_C p s m _ meth c cX10_bricks (some .int) 1 RX10 wsX10_bricks D ty eo A := ⟨hx, hb, hr, hts, hown, hlocks, hml, hK, hN, hE, hA⟩
  unfold zX10_bricks at h
  refine lv_aload_n hx hb dX10_bricks_0 rfl (lv_at hl 0 rfl) ?_
  refine va_get (D := D) (ci := 10) (v := .int (q.1 0 6)) (C := RX10) (T := TX10) (N := 56) hx hb hts u9_wsX10_bricks_X10 hown hK hP 0 rfl rfl 6 (by decide) (hts (.fieldLink RX10 172 "TurnedFloorsModel" "bricks0" "I") f9_wsX10_bricks_85) (fun _ h9 => h9) rfl dX10_bricks_1 ?_
  cases h
  exact kz_iret hx hb hr hlocks hP hK hD hS dX10_bricks_4 ⟨rfl, rfl⟩

set_option maxHeartbeats 4000000 in
set_option maxRecDepth 100000 in
theorem WX10_feed_55b {p : Program} {l : Launch} {e : Env} {s : State} {m : MethodId} {args : Array Value} {below : List Frame} {meth : Method} {c : Code} {D : va_G} {ty : Nat → ClassId} {eo : Nat → Nat} {A : Nat → Prop} {ad : Nat → Nat} {o1 : Int32} {o2 : dS} (C : dc_C p s m args meth c cX10_feed (some .int) 7 RX10 wsX10_feed D ty eo A) {k55 : dS → Int32 → Option (Int32 × dS)} (hk55 : ∀ (q : dS) (x6 : Int32) (H : Heap) (locs : List Loc) (ls : Array Slot), k55 q x6 = some (o1, o2) → va_P D vwCl (w10 ty ad q) H → va_D A (w10 ty ad q) → va_S A s.heap H locs → lv_has ls 7 [(0, .ref (ad 0)), (6, .int x6)] → W p l e ({ frames := 0, cells := 0, slots := 0, locals := 0 } : Room) s m args below meth c H locs 0 0 (MQ below (va_Qi (fun (r : Int32) (u : va_W) => o1 = r ∧ w10 ty ad o2 = u) (kz_B D ty A) A) args s 0 0 A) (F0 m 55 ls [])) (q : dS) (x6 : Int32) (H : Heap) (locs : List Loc) (ls : Array Slot) (h : zX10_feed_55b k55 q x6 = some (o1, o2)) (hP : va_P D vwCl (w10 ty ad q) H) (hD : va_D A (w10 ty ad q)) (hS : va_S A s.heap H locs) (hl : lv_has ls 7 [(0, .ref (ad 0)), (6, .int x6)]) : W p l e ({ frames := 0, cells := 0, slots := 0, locals := 0 } : Room) s m args below meth c H locs 0 0 (MQ below (va_Qi (fun (r : Int32) (u : va_W) => o1 = r ∧ w10 ty ad o2 = u) (kz_B D ty A) A) args s 0 0 A) (F0 m 55 ls []) := by
  have C0 := C
  obtain ⟨hx, hb, hr, hts, hown, hlocks, hml, hK, hN, hE, hA⟩ := C
  unfold zX10_feed_55b at h
  refine lv_iload hx hb dX10_feed_55 (lv_at hl 1 rfl) ?_
  refine lv_bipush (v := 20) hx hb dX10_feed_57 (by decide) ?_
  refine lv_icmp_ge (tgt := 101) hx hb dX10_feed_59 (by decide) (fun c9 => ?_) (fun c9 => ?_)
  · rw [if_pos c9] at h
    refine lv_aload_n hx hb dX10_feed_101 rfl (lv_at hl 0 rfl) ?_
    refine lv_dup hx hb dX10_feed_102 rfl ?_
    refine va_get (D := D) (ci := 10) (v := .int (q.1 0 13)) (C := RX10) (T := TX10) (N := 56) hx hb hts u9_wsX10_feed_X10 hown hK hP 0 rfl rfl 13 (by decide) (hts (.fieldLink RX10 169 "TurnedFloorsModel" "taped" "I") f9_wsX10_feed_87) (fun _ h9 => h9) rfl dX10_feed_103 ?_
    refine lv_bipush (v := 20) hx hb dX10_feed_106 (by decide) ?_
    refine lv_iadd hx hb dX10_feed_108 ?_
    refine va_put (D := D) (ci := 10) (v := .int ((q.1 0 13) + 20 : Int32)) (ty := .int) (C := RX10) (T := TX10) (N := 56) hx hb hts u9_wsX10_feed_X10 tyX10 tyX10_ok nmX10 hown hK hP hD hS 0 rfl rfl 13 (by decide) (hts (.fieldLink RX10 169 "TurnedFloorsModel" "taped" "I") f9_wsX10_feed_87) (fun _ h9 => h9) rfl (by decide +kernel) rfl rfl (Nat.le_of_ble_eq_true rfl) dX10_feed_109 (fun H locs hp hd hs => ?_)
    obtain ⟨q1, eq1, h⟩ := dL_some h
    refine kz_re (w2 := w10 ty ad q1) hp hd hs (by rw [← eq1]; exact w10_f13 ty ad q ((q.1 0 13) + 20 : Int32)) ?_
    clear hp hd hs hP hD hS
    intro hP hD hS
    refine lv_aload_n hx hb dX10_feed_112 rfl (lv_at hl 0 rfl) ?_
    refine va_get (D := D) (ci := 10) (v := .int (q1.1 0 13)) (C := RX10) (T := TX10) (N := 56) hx hb hts u9_wsX10_feed_X10 hown hK hP 0 rfl rfl 13 (by decide) (hts (.fieldLink RX10 169 "TurnedFloorsModel" "taped" "I") f9_wsX10_feed_87) (fun _ h9 => h9) rfl dX10_feed_113 ?_
    cases h
    exact kz_iret hx hb hr hlocks hP hK hD hS dX10_feed_116 ⟨rfl, rfl⟩
  · rw [if_neg c9] at h
    refine lv_aload_n hx hb dX10_feed_62 rfl (lv_at hl 0 rfl) ?_
    refine va_get (D := D) (ci := 10) (v := .ref (ad 7)) (C := RX10) (T := TX10) (N := 56) hx hb hts u9_wsX10_feed_X10 hown hK hP 0 rfl rfl 11 (by decide) (hts (.fieldLink RX10 45 "TurnedFloorsModel" "tape" "[B") f9_wsX10_feed_88) (fun _ h9 => h9) rfl dX10_feed_63 ?_
    refine lv_aload_n hx hb dX10_feed_66 rfl (lv_at hl 0 rfl) ?_
    refine va_get (D := D) (ci := 10) (v := .int (q.1 0 13)) (C := RX10) (T := TX10) (N := 56) hx hb hts u9_wsX10_feed_X10 hown hK hP 0 rfl rfl 13 (by decide) (hts (.fieldLink RX10 169 "TurnedFloorsModel" "taped" "I") f9_wsX10_feed_87) (fun _ h9 => h9) rfl dX10_feed_67 ?_
    refine lv_iload hx hb dX10_feed_70 (lv_at hl 1 rfl) ?_
    refine lv_iadd hx hb dX10_feed_72 ?_
    refine lv_aload_n hx hb dX10_feed_73 rfl (lv_at hl 0 rfl) ?_
    refine va_get (D := D) (ci := 10) (v := .ref (ad 8)) (C := RX10) (T := TX10) (N := 56) hx hb hts u9_wsX10_feed_X10 hown hK hP 0 rfl rfl 12 (by decide) (hts (.fieldLink RX10 48 "TurnedFloorsModel" "five" "[I") f9_wsX10_feed_89) (fun _ h9 => h9) rfl dX10_feed_74 ?_
    refine lv_iload hx hb dX10_feed_77 (lv_at hl 1 rfl) ?_
    refine lv_iconst (v := 4) hx hb dX10_feed_79 (by decide) ?_
    refine lv_idiv hx hb dX10_feed_80 (by decide) ?_
    obtain ⟨g2, h⟩ := dG_some h
    refine va_iald hx hb hK hP 8 0 rfl rfl (dg_in g2) dX10_feed_81 ?_
    obtain ⟨v3, ev3, h⟩ := dL_some h
    refine kz_topi v3 ev3 ?_
    refine lv_bipush (v := 24) hx hb dX10_feed_82 (by decide) ?_
    refine lv_bipush (v := 8) hx hb dX10_feed_84 (by decide) ?_
    refine lv_iload hx hb dX10_feed_86 (lv_at hl 1 rfl) ?_
    refine lv_iconst (v := 4) hx hb dX10_feed_88 (by decide) ?_
    refine lv_irem hx hb dX10_feed_89 (by decide) ?_
    refine lv_imul hx hb dX10_feed_90 ?_
    refine lv_isub hx hb dX10_feed_91 ?_
    refine lv_ishr hx hb dX10_feed_92 ?_
    obtain ⟨v4, ev4, h⟩ := dL_some h
    refine kz_topi v4 ev4 ?_
    refine lv_i2b (v := (Int32.toInt8 v4).toInt32) hx hb dX10_feed_93 rfl ?_
    obtain ⟨g5, h⟩ := dG_some h
    refine va_bast hx hb hK hP hD hS 7 3 rfl rfl (dg_in g5) dX10_feed_94 (fun H locs hp hd hs => ?_)
    obtain ⟨q6, eq6, h⟩ := dL_some h
    refine kz_re (w2 := w10 ty ad q6) hp hd hs (by rw [← eq6]; exact w10_a7 ty ad q (Int32.toNatClampNeg ((q.1 0 13) + x6)) (vp_nar .byte ((Int32.toInt8 v4).toInt32))) ?_
    clear hp hd hs hP hD hS
    intro hP hD hS
    refine lv_iinc (v := x6 + 1) (lv' := [(6, .int (x6 + 1)), (0, .ref (ad 0))]) hx hb dX10_feed_95 hl (k := 1) rfl rfl (by decide) rfl (fun ls hl => ?_)
    refine lv_goto (tgt := 55) hx hb dX10_feed_98 (by decide) ?_
    exact hk55 _ _ _ _ _ h hP hD hS (lv_sub hl [1, 0] rfl)
set_option maxHeartbeats 4000000 in
set_option maxRecDepth 100000 in
theorem WX10_feed_55 {p : Program} {l : Launch} {e : Env} {s : State} {m : MethodId} {args : Array Value} {below : List Frame} {meth : Method} {c : Code} {D : va_G} {ty : Nat → ClassId} {eo : Nat → Nat} {A : Nat → Prop} {ad : Nat → Nat} {o1 : Int32} {o2 : dS} (C : dc_C p s m args meth c cX10_feed (some .int) 7 RX10 wsX10_feed D ty eo A)   (n : Nat) (q : dS) (x6 : Int32) (H : Heap) (locs : List Loc) (ls : Array Slot) (h : zX10_feed_55  n q x6 = some (o1, o2)) (hP : va_P D vwCl (w10 ty ad q) H) (hD : va_D A (w10 ty ad q)) (hS : va_S A s.heap H locs) (hl : lv_has ls 7 [(0, .ref (ad 0)), (6, .int x6)]) : W p l e ({ frames := 0, cells := 0, slots := 0, locals := 0 } : Room) s m args below meth c H locs 0 0 (MQ below (va_Qi (fun (r : Int32) (u : va_W) => o1 = r ∧ w10 ty ad o2 = u) (kz_B D ty A) A) args s 0 0 A) (F0 m 55 ls []) := by
  exact dFix_W (F := fun k (a : dS × Int32) => zX10_feed_55b  (fun q x6 => k (q, x6)) a.1 a.2) (o := (o1, o2)) (P := fun (a : dS × Int32) H locs ls => va_P D vwCl (w10 ty ad a.1) H ∧ va_D A (w10 ty ad a.1) ∧ va_S A s.heap H locs ∧ lv_has ls 7 [(0, .ref (ad 0)), (6, .int a.2)]) (G := fun H locs ls => W p l e ({ frames := 0, cells := 0, slots := 0, locals := 0 } : Room) s m args below meth c H locs 0 0 (MQ below (va_Qi (fun (r : Int32) (u : va_W) => o1 = r ∧ w10 ty ad o2 = u) (kz_B D ty A) A) args s 0 0 A) (F0 m 55 ls []))
    (fun k hk a H locs ls h hp => WX10_feed_55b C  (fun q x6 H locs ls h h1 h2 h3 h4 => hk (q, x6) H locs ls h ⟨h1, h2, h3, h4⟩) a.1 a.2 H locs ls h hp.1 hp.2.1 hp.2.2.1 hp.2.2.2) n (q, x6) H locs ls h ⟨hP, hD, hS, hl⟩
set_option maxHeartbeats 4000000 in
set_option maxRecDepth 100000 in
theorem qX10_feed (l : Launch) (D : va_G) (ty : Nat → ClassId) (eo : Nat → Nat) (sz : Nat) (ad : Nat → Nat) (q : dS) (p1 : Int32) (p2 : Int32) (p3 : Int32) (p4 : Int32) (p5 : Int32) (o1 : Int32) (o2 : dS) (h : zX10_feed q p1 p2 p3 p4 p5 = some (o1, o2)) : Met l yX10_feed wsX10_feed ({ frames := 0, cells := 0, slots := 0, locals := 0 } : Room) (va_Pc [.ref (ad 0), .int p1, .int p2, .int p3, .int p4, .int p5] (kz_pre D ty eo (w10 ty ad q) sz)) (va_Qi (fun (r : Int32) (u : va_W) => o1 = r ∧ w10 ty ad o2 = u) (kz_B D ty (va_A (w10 ty ad q) sz)) (va_A (w10 ty ad q) sz)) 0 0 (va_A (w10 ty ad q) sz) := by
  refine Met.ofW (cc := cX10_feed) (maxL := 7) (ret := (some .int)) (by decide) rfl ?_
  intro p e s m args below meth c s₁ B hml hv
  obtain ⟨rfl, hsz, hP, hK, hD0, hN, hE⟩ := hv
  have hx := B.exec
  have hb := B.bytes
  have hr := B.returns
  have hts := atoms_spec (ws := wsX10_feed) B.pre
  have hown : s.vm.findClass RX10 = some m.cls := findClass_of_methodNamed B.named
  have hlocks := B.notSynchronized
  subst hsz
  have hD := hD0.self (sz := s.heap.size)
  generalize hAe : va_A (w10 ty ad q) s.heap.size = A at hD hE ⊢
  have hA : ∀ q : Nat, s.heap.size ≤ q → A q := fun q h => by rw [← hAe]; exact Or.inr h
  clear hAe
  have hS : va_S A s.heap s.heap [] := va_S.rf
  have hl := lv_entry ([.ref (ad 0), .int p1, .int p2, .int p3, .int p4, .int p5]) (n := 7) (Nat.le_of_ble_eq_true rfl)
  rw [lg_entry_eq]
  generalize (lg_sl ([.ref (ad 0), .int p1, .int p2, .int p3, .int p4, .int p5]) ++ List.replicate (7 - (lg_sl ([.ref (ad 0), .int p1, .int p2, .int p3, .int p4, .int p5])).length) Slot.unset).toArray = ls at hl ⊢
  have hl : lv_has ls 7 [(0, .ref (ad 0)), (1, .int p1), (2, .int p2), (3, .int p3), (4, .int p4), (5, .int p5)] := hl
  have C : dc_C p s m _ meth c cX10_feed (some .int) 7 RX10 wsX10_feed D ty eo A := ⟨hx, hb, hr, hts, hown, hlocks, hml, hK, hN, hE, hA⟩
  unfold zX10_feed at h
  refine lv_aload_n hx hb dX10_feed_0 rfl (lv_at hl 0 rfl) ?_
  refine va_get (D := D) (ci := 10) (v := .int (q.1 0 13)) (C := RX10) (T := TX10) (N := 56) hx hb hts u9_wsX10_feed_X10 hown hK hP 0 rfl rfl 13 (by decide) (hts (.fieldLink RX10 169 "TurnedFloorsModel" "taped" "I") f9_wsX10_feed_87) (fun _ h9 => h9) rfl dX10_feed_1 ?_
  refine lv_bipush (v := 20) hx hb dX10_feed_4 (by decide) ?_
  refine lv_iadd hx hb dX10_feed_6 ?_
  refine lv_sipush (v := 400) hx hb dX10_feed_7 (by decide) ?_
  refine lv_icmp_le (tgt := 15) hx hb dX10_feed_10 (by decide) (fun c9 => ?_) (fun c9 => ?_)
  · rw [if_pos c9] at h
    refine lv_aload_n hx hb dX10_feed_15 rfl (lv_at hl 0 rfl) ?_
    refine va_get (D := D) (ci := 10) (v := .ref (ad 8)) (C := RX10) (T := TX10) (N := 56) hx hb hts u9_wsX10_feed_X10 hown hK hP 0 rfl rfl 12 (by decide) (hts (.fieldLink RX10 48 "TurnedFloorsModel" "five" "[I") f9_wsX10_feed_89) (fun _ h9 => h9) rfl dX10_feed_16 ?_
    refine lv_iconst (v := 0) hx hb dX10_feed_19 (by decide) ?_
    refine lv_iload_n hx hb dX10_feed_20 rfl (lv_at hl 1 rfl) ?_
    refine va_iast hx hb hK hP hD hS 8 0 rfl rfl (by simp only [vp_in]; decide) dX10_feed_21 (fun H locs hp hd hs => ?_)
    obtain ⟨q1, eq1, h⟩ := dL_some h
    refine kz_re (w2 := w10 ty ad q1) hp hd hs (by rw [(by decide +kernel : Int32.toNatClampNeg 0 = 0), ← eq1]; exact w10_a8 ty ad q 0 p1) ?_
    clear hp hd hs hP hD hS
    intro hP hD hS
    refine lv_aload_n hx hb dX10_feed_22 rfl (lv_at hl 0 rfl) ?_
    refine va_get (D := D) (ci := 10) (v := .ref (ad 8)) (C := RX10) (T := TX10) (N := 56) hx hb hts u9_wsX10_feed_X10 hown hK hP 0 rfl rfl 12 (by decide) (hts (.fieldLink RX10 48 "TurnedFloorsModel" "five" "[I") f9_wsX10_feed_89) (fun _ h9 => h9) rfl dX10_feed_23 ?_
    refine lv_iconst (v := 1) hx hb dX10_feed_26 (by decide) ?_
    refine lv_iload_n hx hb dX10_feed_27 rfl (lv_at hl 2 rfl) ?_
    refine va_iast hx hb hK hP hD hS 8 0 rfl rfl (by simp only [vp_in]; decide) dX10_feed_28 (fun H locs hp hd hs => ?_)
    obtain ⟨q2, eq2, h⟩ := dL_some h
    refine kz_re (w2 := w10 ty ad q2) hp hd hs (by rw [(by decide +kernel : Int32.toNatClampNeg 1 = 1), ← eq2]; exact w10_a8 ty ad q1 1 p2) ?_
    clear hp hd hs hP hD hS
    intro hP hD hS
    refine lv_aload_n hx hb dX10_feed_29 rfl (lv_at hl 0 rfl) ?_
    refine va_get (D := D) (ci := 10) (v := .ref (ad 8)) (C := RX10) (T := TX10) (N := 56) hx hb hts u9_wsX10_feed_X10 hown hK hP 0 rfl rfl 12 (by decide) (hts (.fieldLink RX10 48 "TurnedFloorsModel" "five" "[I") f9_wsX10_feed_89) (fun _ h9 => h9) rfl dX10_feed_30 ?_
    refine lv_iconst (v := 2) hx hb dX10_feed_33 (by decide) ?_
    refine lv_iload_n hx hb dX10_feed_34 rfl (lv_at hl 3 rfl) ?_
    refine va_iast hx hb hK hP hD hS 8 0 rfl rfl (by simp only [vp_in]; decide) dX10_feed_35 (fun H locs hp hd hs => ?_)
    obtain ⟨q3, eq3, h⟩ := dL_some h
    refine kz_re (w2 := w10 ty ad q3) hp hd hs (by rw [(by decide +kernel : Int32.toNatClampNeg 2 = 2), ← eq3]; exact w10_a8 ty ad q2 2 p3) ?_
    clear hp hd hs hP hD hS
    intro hP hD hS
    refine lv_aload_n hx hb dX10_feed_36 rfl (lv_at hl 0 rfl) ?_
    refine va_get (D := D) (ci := 10) (v := .ref (ad 8)) (C := RX10) (T := TX10) (N := 56) hx hb hts u9_wsX10_feed_X10 hown hK hP 0 rfl rfl 12 (by decide) (hts (.fieldLink RX10 48 "TurnedFloorsModel" "five" "[I") f9_wsX10_feed_89) (fun _ h9 => h9) rfl dX10_feed_37 ?_
    refine lv_iconst (v := 3) hx hb dX10_feed_40 (by decide) ?_
    refine lv_iload hx hb dX10_feed_41 (lv_at hl 4 rfl) ?_
    refine va_iast hx hb hK hP hD hS 8 0 rfl rfl (by simp only [vp_in]; decide) dX10_feed_43 (fun H locs hp hd hs => ?_)
    obtain ⟨q4, eq4, h⟩ := dL_some h
    refine kz_re (w2 := w10 ty ad q4) hp hd hs (by rw [(by decide +kernel : Int32.toNatClampNeg 3 = 3), ← eq4]; exact w10_a8 ty ad q3 3 p4) ?_
    clear hp hd hs hP hD hS
    intro hP hD hS
    refine lv_aload_n hx hb dX10_feed_44 rfl (lv_at hl 0 rfl) ?_
    refine va_get (D := D) (ci := 10) (v := .ref (ad 8)) (C := RX10) (T := TX10) (N := 56) hx hb hts u9_wsX10_feed_X10 hown hK hP 0 rfl rfl 12 (by decide) (hts (.fieldLink RX10 48 "TurnedFloorsModel" "five" "[I") f9_wsX10_feed_89) (fun _ h9 => h9) rfl dX10_feed_45 ?_
    refine lv_iconst (v := 4) hx hb dX10_feed_48 (by decide) ?_
    refine lv_iload hx hb dX10_feed_49 (lv_at hl 5 rfl) ?_
    refine va_iast hx hb hK hP hD hS 8 0 rfl rfl (by simp only [vp_in]; decide) dX10_feed_51 (fun H locs hp hd hs => ?_)
    obtain ⟨q5, eq5, h⟩ := dL_some h
    refine kz_re (w2 := w10 ty ad q5) hp hd hs (by rw [(by decide +kernel : Int32.toNatClampNeg 4 = 4), ← eq5]; exact w10_a8 ty ad q4 4 p5) ?_
    clear hp hd hs hP hD hS
    intro hP hD hS
    refine lv_iconst (v := 0) hx hb dX10_feed_52 (by decide) ?_
    refine lv_istore (lv' := [(6, .int 0), (0, .ref (ad 0)), (1, .int p1), (2, .int p2), (3, .int p3), (4, .int p4), (5, .int p5)]) hx hb dX10_feed_53 hl (by decide) rfl (fun ls hl => ?_)
    exact WX10_feed_55 C  _ _ _ _ _ _ h hP hD hS (lv_sub hl [1, 0] rfl)
  · rw [if_neg c9] at h
    refine lv_iconst (v := (-1)) hx hb dX10_feed_13 (by decide) ?_
    cases h
    exact kz_iret hx hb hr hlocks hP hK hD hS dX10_feed_14 ⟨rfl, rfl⟩

set_option maxHeartbeats 4000000 in
set_option maxRecDepth 100000 in
theorem qX10_end (l : Launch) (D : va_G) (ty : Nat → ClassId) (eo : Nat → Nat) (sz : Nat) (ad : Nat → Nat) (q : dS) (p1 : Int32) (o1 : Int32) (o2 : dS) (h : zX10_end q p1 = some (o1, o2)) : Met l yX10_end wsX10_end ({ frames := 1, cells := 0, slots := 0, locals := 22 } : Room) (va_Pc [.ref (ad 0), .int p1] (kz_pre D ty eo (w10 ty ad q) sz)) (va_Qi (fun (r : Int32) (u : va_W) => o1 = r ∧ w10 ty ad o2 = u) (kz_B D ty (va_A (w10 ty ad q) sz)) (va_A (w10 ty ad q) sz)) 0 0 (va_A (w10 ty ad q) sz) := by
  refine Met.ofW (cc := cX10_end) (maxL := 2) (ret := (some .int)) (by decide) rfl ?_
  intro p e s m args below meth c s₁ B hml hv
  obtain ⟨rfl, hsz, hP, hK, hD0, hN, hE⟩ := hv
  have hx := B.exec
  have hb := B.bytes
  have hr := B.returns
  have hts := atoms_spec (ws := wsX10_end) B.pre
  have hown : s.vm.findClass RX10 = some m.cls := findClass_of_methodNamed B.named
  have hlocks := B.notSynchronized
  subst hsz
  have hD := hD0.self (sz := s.heap.size)
  generalize hAe : va_A (w10 ty ad q) s.heap.size = A at hD hE ⊢
  have hA : ∀ q : Nat, s.heap.size ≤ q → A q := fun q h => by rw [← hAe]; exact Or.inr h
  clear hAe
  have hS : va_S A s.heap s.heap [] := va_S.rf
  have hl := lv_entry ([.ref (ad 0), .int p1]) (n := 2) (Nat.le_of_ble_eq_true rfl)
  rw [lg_entry_eq]
  generalize (lg_sl ([.ref (ad 0), .int p1]) ++ List.replicate (2 - (lg_sl ([.ref (ad 0), .int p1])).length) Slot.unset).toArray = ls at hl ⊢
  have hl : lv_has ls 2 [(0, .ref (ad 0)), (1, .int p1)] := hl
  have C : dc_C p s m _ meth c cX10_end (some .int) 2 RX10 wsX10_end D ty eo A := ⟨hx, hb, hr, hts, hown, hlocks, hml, hK, hN, hE, hA⟩
  unfold zX10_end at h
  refine lv_iload_n hx hb dX10_end_0 rfl (lv_at hl 1 rfl) ?_
  refine lv_iconst (v := 0) hx hb dX10_end_1 (by decide) ?_
  refine lv_aload_n hx hb dX10_end_2 rfl (lv_at hl 0 rfl) ?_
  refine va_get (D := D) (ci := 10) (v := .int (q.1 0 13)) (C := RX10) (T := TX10) (N := 56) hx hb hts u9_wsX10_end_X10 hown hK hP 0 rfl rfl 13 (by decide) (hts (.fieldLink RX10 169 "TurnedFloorsModel" "taped" "I") f9_wsX10_end_91) (fun _ h9 => h9) rfl dX10_end_3 ?_
  obtain ⟨r1, h2, h⟩ := dV_some h
  refine dw_ks (va_runS (As := [.int p1, .int 0, .int (q.1 0 13)]) (rest := []) ⟨hx, hb, hml, hown, hts⟩ (qX10_lies l D ty eo _ p1 0 (q.1 0 13) _ h2) (va_cwS 3 hts gX10_end_X10_lies rfl rfl rfl (by decide +kernel) ⟨Nat.le_of_ble_eq_true rfl, Nat.le_of_ble_eq_true rfl⟩) (kz_preS hK hN hE hP hD hS hA [] (by decide) rfl) rfl rfl hl.1 rfl (lv_room (Nat.le_of_ble_eq_true rfl)) dX10_end_6 ⟨Nat.le_of_ble_eq_true rfl, Nat.le_of_ble_eq_true rfl⟩) hP hD hS hA (fun _ _ h9 => h9.2.symm) (fun r9 u9 H locs hw hp hd hs => ?_)
  obtain ⟨rfl, -⟩ := hw
  clear hP hD hS
  have hP := hp; have hD := hd; have hS := hs; clear hp hd hs
  refine lv_if_ne (tgt := 14) hx hb dX10_end_9 (by decide) (fun c9 => ?_) (fun c9 => ?_)
  · rw [if_neg c9] at h
    refine lv_aload_n hx hb dX10_end_14 rfl (lv_at hl 0 rfl) ?_
    refine lv_iload_n hx hb dX10_end_15 rfl (lv_at hl 1 rfl) ?_
    refine va_put (D := D) (ci := 10) (v := .int p1) (ty := .int) (C := RX10) (T := TX10) (N := 56) hx hb hts u9_wsX10_end_X10 tyX10 tyX10_ok nmX10 hown hK hP hD hS 0 rfl rfl 13 (by decide) (hts (.fieldLink RX10 169 "TurnedFloorsModel" "taped" "I") f9_wsX10_end_91) (fun _ h9 => h9) rfl (by decide +kernel) rfl rfl (Nat.le_of_ble_eq_true rfl) dX10_end_16 (fun H locs hp hd hs => ?_)
    obtain ⟨q3, eq3, h⟩ := dL_some h
    refine kz_re (w2 := w10 ty ad q3) hp hd hs (by rw [← eq3]; exact w10_f13 ty ad q p1) ?_
    clear hp hd hs hP hD hS
    intro hP hD hS
    refine lv_iload_n hx hb dX10_end_19 rfl (lv_at hl 1 rfl) ?_
    cases h
    exact kz_iret hx hb hr hlocks hP hK hD hS dX10_end_20 ⟨rfl, rfl⟩
  · rw [if_pos c9] at h
    refine lv_iconst (v := (-1)) hx hb dX10_end_12 (by decide) ?_
    cases h
    exact kz_iret hx hb hr hlocks hP hK hD hS dX10_end_13 ⟨rfl, rfl⟩

set_option maxHeartbeats 4000000 in
set_option maxRecDepth 100000 in
theorem WX10_isSmall_17 {p : Program} {l : Launch} {e : Env} {s : State} {m : MethodId} {args : Array Value} {below : List Frame} {meth : Method} {c : Code} {D : va_G} {ty : Nat → ClassId} {eo : Nat → Nat} {A : Nat → Prop} {o1 : Int32} (C : dc_C p s m args meth c cX10_isSmall (some .boolean) 1 RX10 wsX10_isSmall D ty eo A)   (y0 : Int32) (H : Heap) (locs : List Loc) (ls : Array Slot) (h : zX10_isSmall_17  y0 = some o1) (hP : va_P D vwCl (([] : va_W)) H) (hD : va_D A (([] : va_W))) (hS : va_S A s.heap H locs) (hl : lv_has ls 1 []) : W p l e ({ frames := 0, cells := 0, slots := 0, locals := 0 } : Room) s m args below meth c H locs 0 0 (MQ below (va_Qi (fun (r : Int32) (u : va_W) => o1 = r ∧ ([] : va_W) = u) (kz_B D ty A) A) args s 0 0 A) (F0 m 17 ls [.int y0]) := by
  have C0 := C
  obtain ⟨hx, hb, hr, hts, hown, hlocks, hml, hK, hN, hE, hA⟩ := C
  unfold zX10_isSmall_17 at h
  obtain ⟨g1, h⟩ := dG_some h
  cases h
  exact kz_zret hx hb hr hlocks (dbl_nar g1) hP hK hD hS dX10_isSmall_17 ⟨rfl, rfl⟩
set_option maxHeartbeats 4000000 in
set_option maxRecDepth 100000 in
theorem WX10_isSmall_16 {p : Program} {l : Launch} {e : Env} {s : State} {m : MethodId} {args : Array Value} {below : List Frame} {meth : Method} {c : Code} {D : va_G} {ty : Nat → ClassId} {eo : Nat → Nat} {A : Nat → Prop} {o1 : Int32} (C : dc_C p s m args meth c cX10_isSmall (some .boolean) 1 RX10 wsX10_isSmall D ty eo A)    (H : Heap) (locs : List Loc) (ls : Array Slot) (h : zX10_isSmall_16   = some o1) (hP : va_P D vwCl (([] : va_W)) H) (hD : va_D A (([] : va_W))) (hS : va_S A s.heap H locs) (hl : lv_has ls 1 []) : W p l e ({ frames := 0, cells := 0, slots := 0, locals := 0 } : Room) s m args below meth c H locs 0 0 (MQ below (va_Qi (fun (r : Int32) (u : va_W) => o1 = r ∧ ([] : va_W) = u) (kz_B D ty A) A) args s 0 0 A) (F0 m 16 ls []) := by
  have C0 := C
  obtain ⟨hx, hb, hr, hts, hown, hlocks, hml, hK, hN, hE, hA⟩ := C
  unfold zX10_isSmall_16 at h
  refine lv_iconst (v := 0) hx hb dX10_isSmall_16 (by decide) ?_
  exact WX10_isSmall_17 C0  _ _ _ _ h hP hD hS (lv_sub hl [] rfl)
set_option maxHeartbeats 4000000 in
set_option maxRecDepth 100000 in
theorem qX10_isSmall (l : Launch) (D : va_G) (ty : Nat → ClassId) (eo : Nat → Nat) (sz : Nat) (p1 : Int32) (o1 : Int32) (h : zX10_isSmall p1 = some o1) : Met l yX10_isSmall wsX10_isSmall ({ frames := 0, cells := 0, slots := 0, locals := 0 } : Room) (va_Pc [.int p1] (kz_pre D ty eo (([] : va_W)) sz)) (va_Qi (fun (r : Int32) (u : va_W) => o1 = r ∧ ([] : va_W) = u) (kz_B D ty (va_A (([] : va_W)) sz)) (va_A (([] : va_W)) sz)) 0 0 (va_A (([] : va_W)) sz) := by
  refine Met.ofW (cc := cX10_isSmall) (maxL := 1) (ret := (some .boolean)) (by decide) rfl ?_
  intro p e s m args below meth c s₁ B hml hv
  obtain ⟨rfl, hsz, hP, hK, hD0, hN, hE⟩ := hv
  have hx := B.exec
  have hb := B.bytes
  have hr := B.returns
  have hts := atoms_spec (ws := wsX10_isSmall) B.pre
  have hown : s.vm.findClass RX10 = some m.cls := findClass_of_methodNamed B.named
  have hlocks := B.notSynchronized
  subst hsz
  have hD := hD0.self (sz := s.heap.size)
  generalize hAe : va_A (([] : va_W)) s.heap.size = A at hD hE ⊢
  have hA : ∀ q : Nat, s.heap.size ≤ q → A q := fun q h => by rw [← hAe]; exact Or.inr h
  clear hAe
  have hS : va_S A s.heap s.heap [] := va_S.rf
  have hl := lv_entry ([.int p1]) (n := 1) (Nat.le_of_ble_eq_true rfl)
  rw [lg_entry_eq]
  generalize (lg_sl ([.int p1]) ++ List.replicate (1 - (lg_sl ([.int p1])).length) Slot.unset).toArray = ls at hl ⊢
  have hl : lv_has ls 1 [(0, .int p1)] := hl
  have C : dc_C p s m _ meth c cX10_isSmall (some .boolean) 1 RX10 wsX10_isSmall D ty eo A := ⟨hx, hb, hr, hts, hown, hlocks, hml, hK, hN, hE, hA⟩
  unfold zX10_isSmall at h
  refine lv_iload_n hx hb dX10_isSmall_0 rfl (lv_at hl 0 rfl) ?_
  refine lv_bipush (v := 97) hx hb dX10_isSmall_1 (by decide) ?_
  refine lv_icmp_lt (tgt := 16) hx hb dX10_isSmall_3 (by decide) (fun c9 => ?_) (fun c9 => ?_)
  · rw [if_pos c9] at h
    exact WX10_isSmall_16 C  _ _ _ h hP hD hS (lv_sub hl [] rfl)
  · rw [if_neg c9] at h
    refine lv_iload_n hx hb dX10_isSmall_6 rfl (lv_at hl 0 rfl) ?_
    refine lv_bipush (v := 122) hx hb dX10_isSmall_7 (by decide) ?_
    refine lv_icmp_gt (tgt := 16) hx hb dX10_isSmall_9 (by decide) (fun c9 => ?_) (fun c9 => ?_)
    · rw [if_pos c9] at h
      exact WX10_isSmall_16 C  _ _ _ h hP hD hS (lv_sub hl [] rfl)
    · rw [if_neg c9] at h
      refine lv_iconst (v := 1) hx hb dX10_isSmall_12 (by decide) ?_
      refine lv_goto (tgt := 17) hx hb dX10_isSmall_13 (by decide) ?_
      exact WX10_isSmall_17 C  _ _ _ _ h hP hD hS (lv_sub hl [] rfl)

set_option maxHeartbeats 4000000 in
set_option maxRecDepth 100000 in
theorem WX10_isDigit_17 {p : Program} {l : Launch} {e : Env} {s : State} {m : MethodId} {args : Array Value} {below : List Frame} {meth : Method} {c : Code} {D : va_G} {ty : Nat → ClassId} {eo : Nat → Nat} {A : Nat → Prop} {o1 : Int32} (C : dc_C p s m args meth c cX10_isDigit (some .boolean) 1 RX10 wsX10_isDigit D ty eo A)   (y0 : Int32) (H : Heap) (locs : List Loc) (ls : Array Slot) (h : zX10_isDigit_17  y0 = some o1) (hP : va_P D vwCl (([] : va_W)) H) (hD : va_D A (([] : va_W))) (hS : va_S A s.heap H locs) (hl : lv_has ls 1 []) : W p l e ({ frames := 0, cells := 0, slots := 0, locals := 0 } : Room) s m args below meth c H locs 0 0 (MQ below (va_Qi (fun (r : Int32) (u : va_W) => o1 = r ∧ ([] : va_W) = u) (kz_B D ty A) A) args s 0 0 A) (F0 m 17 ls [.int y0]) := by
  have C0 := C
  obtain ⟨hx, hb, hr, hts, hown, hlocks, hml, hK, hN, hE, hA⟩ := C
  unfold zX10_isDigit_17 at h
  obtain ⟨g1, h⟩ := dG_some h
  cases h
  exact kz_zret hx hb hr hlocks (dbl_nar g1) hP hK hD hS dX10_isDigit_17 ⟨rfl, rfl⟩
set_option maxHeartbeats 4000000 in
set_option maxRecDepth 100000 in
theorem WX10_isDigit_16 {p : Program} {l : Launch} {e : Env} {s : State} {m : MethodId} {args : Array Value} {below : List Frame} {meth : Method} {c : Code} {D : va_G} {ty : Nat → ClassId} {eo : Nat → Nat} {A : Nat → Prop} {o1 : Int32} (C : dc_C p s m args meth c cX10_isDigit (some .boolean) 1 RX10 wsX10_isDigit D ty eo A)    (H : Heap) (locs : List Loc) (ls : Array Slot) (h : zX10_isDigit_16   = some o1) (hP : va_P D vwCl (([] : va_W)) H) (hD : va_D A (([] : va_W))) (hS : va_S A s.heap H locs) (hl : lv_has ls 1 []) : W p l e ({ frames := 0, cells := 0, slots := 0, locals := 0 } : Room) s m args below meth c H locs 0 0 (MQ below (va_Qi (fun (r : Int32) (u : va_W) => o1 = r ∧ ([] : va_W) = u) (kz_B D ty A) A) args s 0 0 A) (F0 m 16 ls []) := by
  have C0 := C
  obtain ⟨hx, hb, hr, hts, hown, hlocks, hml, hK, hN, hE, hA⟩ := C
  unfold zX10_isDigit_16 at h
  refine lv_iconst (v := 0) hx hb dX10_isDigit_16 (by decide) ?_
  exact WX10_isDigit_17 C0  _ _ _ _ h hP hD hS (lv_sub hl [] rfl)
set_option maxHeartbeats 4000000 in
set_option maxRecDepth 100000 in
theorem qX10_isDigit (l : Launch) (D : va_G) (ty : Nat → ClassId) (eo : Nat → Nat) (sz : Nat) (p1 : Int32) (o1 : Int32) (h : zX10_isDigit p1 = some o1) : Met l yX10_isDigit wsX10_isDigit ({ frames := 0, cells := 0, slots := 0, locals := 0 } : Room) (va_Pc [.int p1] (kz_pre D ty eo (([] : va_W)) sz)) (va_Qi (fun (r : Int32) (u : va_W) => o1 = r ∧ ([] : va_W) = u) (kz_B D ty (va_A (([] : va_W)) sz)) (va_A (([] : va_W)) sz)) 0 0 (va_A (([] : va_W)) sz) := by
  refine Met.ofW (cc := cX10_isDigit) (maxL := 1) (ret := (some .boolean)) (by decide) rfl ?_
  intro p e s m args below meth c s₁ B hml hv
  obtain ⟨rfl, hsz, hP, hK, hD0, hN, hE⟩ := hv
  have hx := B.exec
  have hb := B.bytes
  have hr := B.returns
  have hts := atoms_spec (ws := wsX10_isDigit) B.pre
  have hown : s.vm.findClass RX10 = some m.cls := findClass_of_methodNamed B.named
  have hlocks := B.notSynchronized
  subst hsz
  have hD := hD0.self (sz := s.heap.size)
  generalize hAe : va_A (([] : va_W)) s.heap.size = A at hD hE ⊢
  have hA : ∀ q : Nat, s.heap.size ≤ q → A q := fun q h => by rw [← hAe]; exact Or.inr h
  clear hAe
  have hS : va_S A s.heap s.heap [] := va_S.rf
  have hl := lv_entry ([.int p1]) (n := 1) (Nat.le_of_ble_eq_true rfl)
  rw [lg_entry_eq]
  generalize (lg_sl ([.int p1]) ++ List.replicate (1 - (lg_sl ([.int p1])).length) Slot.unset).toArray = ls at hl ⊢
  have hl : lv_has ls 1 [(0, .int p1)] := hl
  have C : dc_C p s m _ meth c cX10_isDigit (some .boolean) 1 RX10 wsX10_isDigit D ty eo A := ⟨hx, hb, hr, hts, hown, hlocks, hml, hK, hN, hE, hA⟩
  unfold zX10_isDigit at h
  refine lv_iload_n hx hb dX10_isDigit_0 rfl (lv_at hl 0 rfl) ?_
  refine lv_bipush (v := 48) hx hb dX10_isDigit_1 (by decide) ?_
  refine lv_icmp_lt (tgt := 16) hx hb dX10_isDigit_3 (by decide) (fun c9 => ?_) (fun c9 => ?_)
  · rw [if_pos c9] at h
    exact WX10_isDigit_16 C  _ _ _ h hP hD hS (lv_sub hl [] rfl)
  · rw [if_neg c9] at h
    refine lv_iload_n hx hb dX10_isDigit_6 rfl (lv_at hl 0 rfl) ?_
    refine lv_bipush (v := 57) hx hb dX10_isDigit_7 (by decide) ?_
    refine lv_icmp_gt (tgt := 16) hx hb dX10_isDigit_9 (by decide) (fun c9 => ?_) (fun c9 => ?_)
    · rw [if_pos c9] at h
      exact WX10_isDigit_16 C  _ _ _ h hP hD hS (lv_sub hl [] rfl)
    · rw [if_neg c9] at h
      refine lv_iconst (v := 1) hx hb dX10_isDigit_12 (by decide) ?_
      refine lv_goto (tgt := 17) hx hb dX10_isDigit_13 (by decide) ?_
      exact WX10_isDigit_17 C  _ _ _ _ h hP hD hS (lv_sub hl [] rfl)

set_option maxHeartbeats 4000000 in
set_option maxRecDepth 100000 in
theorem WX10_wordOf_104 {p : Program} {l : Launch} {e : Env} {s : State} {m : MethodId} {args : Array Value} {below : List Frame} {meth : Method} {c : Code} {D : va_G} {ty : Nat → ClassId} {eo : Nat → Nat} {A : Nat → Prop} {ad : Nat → Nat} {o1 : Int32} {o2 : dS} (C : dc_C p s m args meth c cX10_wordOf (some .int) 8 RX10 wsX10_wordOf D ty eo A) {k5 : dS → Int32 → Int32 → Int32 → Int32 → Option (Int32 × dS)} (hk5 : ∀ (q : dS) (x1 : Int32) (x2 : Int32) (x3 : Int32) (x4 : Int32) (H : Heap) (locs : List Loc) (ls : Array Slot), k5 q x1 x2 x3 x4 = some (o1, o2) → va_P D vwCl (w10 ty ad q) H → va_D A (w10 ty ad q) → va_S A s.heap H locs → lv_has ls 8 [(0, .ref (ad 0)), (1, .int x1), (2, .int x2), (3, .int x3), (4, .int x4)] → W p l e ({ frames := 0, cells := 0, slots := 0, locals := 0 } : Room) s m args below meth c H locs 0 0 (MQ below (va_Qi (fun (r : Int32) (u : va_W) => o1 = r ∧ w10 ty ad o2 = u) (kz_B D ty A) A) args s 0 0 A) (F0 m 5 ls [])) (q : dS) (x1 : Int32) (x2 : Int32) (x3 : Int32) (x4 : Int32) (x5 : Int32) (x6 : Int32) (H : Heap) (locs : List Loc) (ls : Array Slot) (h : zX10_wordOf_104 k5 q x1 x2 x3 x4 x5 x6 = some (o1, o2)) (hP : va_P D vwCl (w10 ty ad q) H) (hD : va_D A (w10 ty ad q)) (hS : va_S A s.heap H locs) (hl : lv_has ls 8 [(0, .ref (ad 0)), (1, .int x1), (2, .int x2), (3, .int x3), (4, .int x4), (5, .int x5), (6, .int x6)]) : W p l e ({ frames := 0, cells := 0, slots := 0, locals := 0 } : Room) s m args below meth c H locs 0 0 (MQ below (va_Qi (fun (r : Int32) (u : va_W) => o1 = r ∧ w10 ty ad o2 = u) (kz_B D ty A) A) args s 0 0 A) (F0 m 104 ls []) := by
  have C0 := C
  obtain ⟨hx, hb, hr, hts, hown, hlocks, hml, hK, hN, hE, hA⟩ := C
  unfold zX10_wordOf_104 at h
  refine lv_iload hx hb dX10_wordOf_104 (lv_at hl 6 rfl) ?_
  refine lv_if_eq (tgt := 111) hx hb dX10_wordOf_106 (by decide) (fun c9 => ?_) (fun c9 => ?_)
  · rw [if_pos c9] at h
    refine lv_iload hx hb dX10_wordOf_111 (lv_at hl 4 rfl) ?_
    refine lv_iload hx hb dX10_wordOf_113 (lv_at hl 5 rfl) ?_
    refine lv_iconst (v := 1) hx hb dX10_wordOf_115 (by decide) ?_
    refine lv_iadd hx hb dX10_wordOf_116 ?_
    refine lv_iadd hx hb dX10_wordOf_117 ?_
    refine lv_istore (lv' := [(4, .int (x4 + (x5 + 1 : Int32))), (0, .ref (ad 0)), (1, .int x1), (2, .int x2), (3, .int x3), (5, .int x5), (6, .int x6)]) hx hb dX10_wordOf_118 hl (by decide) rfl (fun ls hl => ?_)
    refine lv_iinc (v := x3 + 1) (lv' := [(3, .int (x3 + 1)), (4, .int (x4 + (x5 + 1 : Int32))), (0, .ref (ad 0)), (1, .int x1), (2, .int x2), (5, .int x5), (6, .int x6)]) hx hb dX10_wordOf_120 hl (k := 4) rfl rfl (by decide) rfl (fun ls hl => ?_)
    refine lv_goto (tgt := 5) hx hb dX10_wordOf_123 (by decide) ?_
    exact hk5 _ _ _ _ _ _ _ _ h hP hD hS (lv_sub hl [2, 3, 4, 0, 1] rfl)
  · rw [if_neg c9] at h
    refine lv_iload_n hx hb dX10_wordOf_109 rfl (lv_at hl 3 rfl) ?_
    cases h
    exact kz_iret hx hb hr hlocks hP hK hD hS dX10_wordOf_110 ⟨rfl, rfl⟩
set_option maxHeartbeats 4000000 in
set_option maxRecDepth 100000 in
theorem WX10_wordOf_96 {p : Program} {l : Launch} {e : Env} {s : State} {m : MethodId} {args : Array Value} {below : List Frame} {meth : Method} {c : Code} {D : va_G} {ty : Nat → ClassId} {eo : Nat → Nat} {A : Nat → Prop} {ad : Nat → Nat} {o1 : Int32} {o2 : dS} (C : dc_C p s m args meth c cX10_wordOf (some .int) 8 RX10 wsX10_wordOf D ty eo A) {k5 : dS → Int32 → Int32 → Int32 → Int32 → Option (Int32 × dS)} {k57 : dS → Int32 → Int32 → Int32 → Int32 → Int32 → Int32 → Int32 → Option (Int32 × dS)} (hk5 : ∀ (q : dS) (x1 : Int32) (x2 : Int32) (x3 : Int32) (x4 : Int32) (H : Heap) (locs : List Loc) (ls : Array Slot), k5 q x1 x2 x3 x4 = some (o1, o2) → va_P D vwCl (w10 ty ad q) H → va_D A (w10 ty ad q) → va_S A s.heap H locs → lv_has ls 8 [(0, .ref (ad 0)), (1, .int x1), (2, .int x2), (3, .int x3), (4, .int x4)] → W p l e ({ frames := 0, cells := 0, slots := 0, locals := 0 } : Room) s m args below meth c H locs 0 0 (MQ below (va_Qi (fun (r : Int32) (u : va_W) => o1 = r ∧ w10 ty ad o2 = u) (kz_B D ty A) A) args s 0 0 A) (F0 m 5 ls [])) (hk57 : ∀ (q : dS) (x1 : Int32) (x2 : Int32) (x3 : Int32) (x4 : Int32) (x5 : Int32) (x6 : Int32) (x7 : Int32) (H : Heap) (locs : List Loc) (ls : Array Slot), k57 q x1 x2 x3 x4 x5 x6 x7 = some (o1, o2) → va_P D vwCl (w10 ty ad q) H → va_D A (w10 ty ad q) → va_S A s.heap H locs → lv_has ls 8 [(0, .ref (ad 0)), (1, .int x1), (2, .int x2), (3, .int x3), (4, .int x4), (5, .int x5), (6, .int x6), (7, .int x7)] → W p l e ({ frames := 0, cells := 0, slots := 0, locals := 0 } : Room) s m args below meth c H locs 0 0 (MQ below (va_Qi (fun (r : Int32) (u : va_W) => o1 = r ∧ w10 ty ad o2 = u) (kz_B D ty A) A) args s 0 0 A) (F0 m 57 ls [])) (q : dS) (x1 : Int32) (x2 : Int32) (x3 : Int32) (x4 : Int32) (x5 : Int32) (x7 : Int32) (y0 : Int32) (H : Heap) (locs : List Loc) (ls : Array Slot) (h : zX10_wordOf_96 k5 k57 q x1 x2 x3 x4 x5 x7 y0 = some (o1, o2)) (hP : va_P D vwCl (w10 ty ad q) H) (hD : va_D A (w10 ty ad q)) (hS : va_S A s.heap H locs) (hl : lv_has ls 8 [(0, .ref (ad 0)), (1, .int x1), (2, .int x2), (3, .int x3), (4, .int x4), (5, .int x5), (7, .int x7)]) : W p l e ({ frames := 0, cells := 0, slots := 0, locals := 0 } : Room) s m args below meth c H locs 0 0 (MQ below (va_Qi (fun (r : Int32) (u : va_W) => o1 = r ∧ w10 ty ad o2 = u) (kz_B D ty A) A) args s 0 0 A) (F0 m 96 ls [.int y0]) := by
  have C0 := C
  obtain ⟨hx, hb, hr, hts, hown, hlocks, hml, hK, hN, hE, hA⟩ := C
  unfold zX10_wordOf_96 at h
  refine lv_istore (lv' := [(6, .int y0), (0, .ref (ad 0)), (1, .int x1), (2, .int x2), (3, .int x3), (4, .int x4), (5, .int x5), (7, .int x7)]) hx hb dX10_wordOf_96 hl (by decide) rfl (fun ls hl => ?_)
  refine lv_iinc (v := x7 + 1) (lv' := [(7, .int (x7 + 1)), (6, .int y0), (0, .ref (ad 0)), (1, .int x1), (2, .int x2), (3, .int x3), (4, .int x4), (5, .int x5)]) hx hb dX10_wordOf_98 hl (k := 7) rfl rfl (by decide) rfl (fun ls hl => ?_)
  refine lv_goto (tgt := 57) hx hb dX10_wordOf_101 (by decide) ?_
  exact hk57 _ _ _ _ _ _ _ _ _ _ _ h hP hD hS (lv_sub hl [2, 3, 4, 5, 6, 7, 1, 0] rfl)
set_option maxHeartbeats 4000000 in
set_option maxRecDepth 100000 in
theorem WX10_wordOf_57b {p : Program} {l : Launch} {e : Env} {s : State} {m : MethodId} {args : Array Value} {below : List Frame} {meth : Method} {c : Code} {D : va_G} {ty : Nat → ClassId} {eo : Nat → Nat} {A : Nat → Prop} {ad : Nat → Nat} {o1 : Int32} {o2 : dS} (C : dc_C p s m args meth c cX10_wordOf (some .int) 8 RX10 wsX10_wordOf D ty eo A) {k5 : dS → Int32 → Int32 → Int32 → Int32 → Option (Int32 × dS)} {k57 : dS → Int32 → Int32 → Int32 → Int32 → Int32 → Int32 → Int32 → Option (Int32 × dS)} (hk5 : ∀ (q : dS) (x1 : Int32) (x2 : Int32) (x3 : Int32) (x4 : Int32) (H : Heap) (locs : List Loc) (ls : Array Slot), k5 q x1 x2 x3 x4 = some (o1, o2) → va_P D vwCl (w10 ty ad q) H → va_D A (w10 ty ad q) → va_S A s.heap H locs → lv_has ls 8 [(0, .ref (ad 0)), (1, .int x1), (2, .int x2), (3, .int x3), (4, .int x4)] → W p l e ({ frames := 0, cells := 0, slots := 0, locals := 0 } : Room) s m args below meth c H locs 0 0 (MQ below (va_Qi (fun (r : Int32) (u : va_W) => o1 = r ∧ w10 ty ad o2 = u) (kz_B D ty A) A) args s 0 0 A) (F0 m 5 ls [])) (hk57 : ∀ (q : dS) (x1 : Int32) (x2 : Int32) (x3 : Int32) (x4 : Int32) (x5 : Int32) (x6 : Int32) (x7 : Int32) (H : Heap) (locs : List Loc) (ls : Array Slot), k57 q x1 x2 x3 x4 x5 x6 x7 = some (o1, o2) → va_P D vwCl (w10 ty ad q) H → va_D A (w10 ty ad q) → va_S A s.heap H locs → lv_has ls 8 [(0, .ref (ad 0)), (1, .int x1), (2, .int x2), (3, .int x3), (4, .int x4), (5, .int x5), (6, .int x6), (7, .int x7)] → W p l e ({ frames := 0, cells := 0, slots := 0, locals := 0 } : Room) s m args below meth c H locs 0 0 (MQ below (va_Qi (fun (r : Int32) (u : va_W) => o1 = r ∧ w10 ty ad o2 = u) (kz_B D ty A) A) args s 0 0 A) (F0 m 57 ls [])) (q : dS) (x1 : Int32) (x2 : Int32) (x3 : Int32) (x4 : Int32) (x5 : Int32) (x6 : Int32) (x7 : Int32) (H : Heap) (locs : List Loc) (ls : Array Slot) (h : zX10_wordOf_57b k5 k57 q x1 x2 x3 x4 x5 x6 x7 = some (o1, o2)) (hP : va_P D vwCl (w10 ty ad q) H) (hD : va_D A (w10 ty ad q)) (hS : va_S A s.heap H locs) (hl : lv_has ls 8 [(0, .ref (ad 0)), (1, .int x1), (2, .int x2), (3, .int x3), (4, .int x4), (5, .int x5), (6, .int x6), (7, .int x7)]) : W p l e ({ frames := 0, cells := 0, slots := 0, locals := 0 } : Room) s m args below meth c H locs 0 0 (MQ below (va_Qi (fun (r : Int32) (u : va_W) => o1 = r ∧ w10 ty ad o2 = u) (kz_B D ty A) A) args s 0 0 A) (F0 m 57 ls []) := by
  have C0 := C
  obtain ⟨hx, hb, hr, hts, hown, hlocks, hml, hK, hN, hE, hA⟩ := C
  unfold zX10_wordOf_57b at h
  refine lv_iload hx hb dX10_wordOf_57 (lv_at hl 7 rfl) ?_
  refine lv_iload hx hb dX10_wordOf_59 (lv_at hl 5 rfl) ?_
  refine lv_icmp_ge (tgt := 104) hx hb dX10_wordOf_61 (by decide) (fun c9 => ?_) (fun c9 => ?_)
  · rw [if_pos c9] at h
    exact WX10_wordOf_104 C0 hk5 _ _ _ _ _ _ _ _ _ _ h hP hD hS (lv_sub hl [0, 1, 2, 3, 4, 5, 6] rfl)
  · rw [if_neg c9] at h
    refine lv_iload hx hb dX10_wordOf_64 (lv_at hl 6 rfl) ?_
    refine lv_if_eq (tgt := 104) hx hb dX10_wordOf_66 (by decide) (fun c9 => ?_) (fun c9 => ?_)
    · rw [if_pos c9] at h
      exact WX10_wordOf_104 C0 hk5 _ _ _ _ _ _ _ _ _ _ h hP hD hS (lv_sub hl [0, 1, 2, 3, 4, 5, 6] rfl)
    · rw [if_neg c9] at h
      refine lv_aload_n hx hb dX10_wordOf_69 rfl (lv_at hl 0 rfl) ?_
      refine va_get (D := D) (ci := 10) (v := .ref (ad 6)) (C := RX10) (T := TX10) (N := 56) hx hb hts u9_wsX10_wordOf_X10 hown hK hP 0 rfl rfl 7 (by decide) (hts (.fieldLink RX10 41 "TurnedFloorsModel" "words" "[B") f9_wsX10_wordOf_93) (fun _ h9 => h9) rfl dX10_wordOf_70 ?_
      refine lv_iload hx hb dX10_wordOf_73 (lv_at hl 4 rfl) ?_
      refine lv_iload hx hb dX10_wordOf_75 (lv_at hl 7 rfl) ?_
      refine lv_iadd hx hb dX10_wordOf_77 ?_
      obtain ⟨g1, h⟩ := dG_some h
      refine va_bald hx hb hK hP 6 3 rfl rfl (dg_in g1) dX10_wordOf_78 ?_
      obtain ⟨v2, ev2, h⟩ := dL_some h
      refine kz_topi v2 ev2 ?_
      refine lv_aload_n hx hb dX10_wordOf_79 rfl (lv_at hl 0 rfl) ?_
      refine va_get (D := D) (ci := 10) (v := .ref (ad 7)) (C := RX10) (T := TX10) (N := 56) hx hb hts u9_wsX10_wordOf_X10 hown hK hP 0 rfl rfl 11 (by decide) (hts (.fieldLink RX10 45 "TurnedFloorsModel" "tape" "[B") f9_wsX10_wordOf_94) (fun _ h9 => h9) rfl dX10_wordOf_80 ?_
      refine lv_iload_n hx hb dX10_wordOf_83 rfl (lv_at hl 1 rfl) ?_
      refine lv_iload hx hb dX10_wordOf_84 (lv_at hl 7 rfl) ?_
      refine lv_iadd hx hb dX10_wordOf_86 ?_
      obtain ⟨g3, h⟩ := dG_some h
      refine va_bald hx hb hK hP 7 3 rfl rfl (dg_in g3) dX10_wordOf_87 ?_
      obtain ⟨v4, ev4, h⟩ := dL_some h
      refine kz_topi v4 ev4 ?_
      refine lv_icmp_ne (tgt := 95) hx hb dX10_wordOf_88 (by decide) (fun c9 => ?_) (fun c9 => ?_)
      · rw [if_neg c9] at h
        refine lv_iconst (v := 0) hx hb dX10_wordOf_95 (by decide) ?_
        exact WX10_wordOf_96 C0 hk5 hk57 _ _ _ _ _ _ _ _ _ _ _ h hP hD hS (lv_sub hl [0, 1, 2, 3, 4, 5, 7] rfl)
      · rw [if_pos c9] at h
        refine lv_iconst (v := 1) hx hb dX10_wordOf_91 (by decide) ?_
        refine lv_goto (tgt := 96) hx hb dX10_wordOf_92 (by decide) ?_
        exact WX10_wordOf_96 C0 hk5 hk57 _ _ _ _ _ _ _ _ _ _ _ h hP hD hS (lv_sub hl [0, 1, 2, 3, 4, 5, 7] rfl)
set_option maxHeartbeats 4000000 in
set_option maxRecDepth 100000 in
theorem WX10_wordOf_57 {p : Program} {l : Launch} {e : Env} {s : State} {m : MethodId} {args : Array Value} {below : List Frame} {meth : Method} {c : Code} {D : va_G} {ty : Nat → ClassId} {eo : Nat → Nat} {A : Nat → Prop} {ad : Nat → Nat} {o1 : Int32} {o2 : dS} (C : dc_C p s m args meth c cX10_wordOf (some .int) 8 RX10 wsX10_wordOf D ty eo A) {k5 : dS → Int32 → Int32 → Int32 → Int32 → Option (Int32 × dS)} (hk5 : ∀ (q : dS) (x1 : Int32) (x2 : Int32) (x3 : Int32) (x4 : Int32) (H : Heap) (locs : List Loc) (ls : Array Slot), k5 q x1 x2 x3 x4 = some (o1, o2) → va_P D vwCl (w10 ty ad q) H → va_D A (w10 ty ad q) → va_S A s.heap H locs → lv_has ls 8 [(0, .ref (ad 0)), (1, .int x1), (2, .int x2), (3, .int x3), (4, .int x4)] → W p l e ({ frames := 0, cells := 0, slots := 0, locals := 0 } : Room) s m args below meth c H locs 0 0 (MQ below (va_Qi (fun (r : Int32) (u : va_W) => o1 = r ∧ w10 ty ad o2 = u) (kz_B D ty A) A) args s 0 0 A) (F0 m 5 ls [])) (n : Nat) (q : dS) (x1 : Int32) (x2 : Int32) (x3 : Int32) (x4 : Int32) (x5 : Int32) (x6 : Int32) (x7 : Int32) (H : Heap) (locs : List Loc) (ls : Array Slot) (h : zX10_wordOf_57 k5 n q x1 x2 x3 x4 x5 x6 x7 = some (o1, o2)) (hP : va_P D vwCl (w10 ty ad q) H) (hD : va_D A (w10 ty ad q)) (hS : va_S A s.heap H locs) (hl : lv_has ls 8 [(0, .ref (ad 0)), (1, .int x1), (2, .int x2), (3, .int x3), (4, .int x4), (5, .int x5), (6, .int x6), (7, .int x7)]) : W p l e ({ frames := 0, cells := 0, slots := 0, locals := 0 } : Room) s m args below meth c H locs 0 0 (MQ below (va_Qi (fun (r : Int32) (u : va_W) => o1 = r ∧ w10 ty ad o2 = u) (kz_B D ty A) A) args s 0 0 A) (F0 m 57 ls []) := by
  exact dFix_W (F := fun k (a : dS × Int32 × Int32 × Int32 × Int32 × Int32 × Int32 × Int32) => zX10_wordOf_57b k5 (fun q x1 x2 x3 x4 x5 x6 x7 => k (q, x1, x2, x3, x4, x5, x6, x7)) a.1 a.2.1 a.2.2.1 a.2.2.2.1 a.2.2.2.2.1 a.2.2.2.2.2.1 a.2.2.2.2.2.2.1 a.2.2.2.2.2.2.2) (o := (o1, o2)) (P := fun (a : dS × Int32 × Int32 × Int32 × Int32 × Int32 × Int32 × Int32) H locs ls => va_P D vwCl (w10 ty ad a.1) H ∧ va_D A (w10 ty ad a.1) ∧ va_S A s.heap H locs ∧ lv_has ls 8 [(0, .ref (ad 0)), (1, .int a.2.1), (2, .int a.2.2.1), (3, .int a.2.2.2.1), (4, .int a.2.2.2.2.1), (5, .int a.2.2.2.2.2.1), (6, .int a.2.2.2.2.2.2.1), (7, .int a.2.2.2.2.2.2.2)]) (G := fun H locs ls => W p l e ({ frames := 0, cells := 0, slots := 0, locals := 0 } : Room) s m args below meth c H locs 0 0 (MQ below (va_Qi (fun (r : Int32) (u : va_W) => o1 = r ∧ w10 ty ad o2 = u) (kz_B D ty A) A) args s 0 0 A) (F0 m 57 ls []))
    (fun k hk a H locs ls h hp => WX10_wordOf_57b C hk5 (fun q x1 x2 x3 x4 x5 x6 x7 H locs ls h h1 h2 h3 h4 => hk (q, x1, x2, x3, x4, x5, x6, x7) H locs ls h ⟨h1, h2, h3, h4⟩) a.1 a.2.1 a.2.2.1 a.2.2.2.1 a.2.2.2.2.1 a.2.2.2.2.2.1 a.2.2.2.2.2.2.1 a.2.2.2.2.2.2.2 H locs ls h hp.1 hp.2.1 hp.2.2.1 hp.2.2.2) n (q, x1, x2, x3, x4, x5, x6, x7) H locs ls h ⟨hP, hD, hS, hl⟩
set_option maxHeartbeats 4000000 in
set_option maxRecDepth 100000 in
theorem WX10_wordOf_52 {p : Program} {l : Launch} {e : Env} {s : State} {m : MethodId} {args : Array Value} {below : List Frame} {meth : Method} {c : Code} {D : va_G} {ty : Nat → ClassId} {eo : Nat → Nat} {A : Nat → Prop} {ad : Nat → Nat} {o1 : Int32} {o2 : dS} (C : dc_C p s m args meth c cX10_wordOf (some .int) 8 RX10 wsX10_wordOf D ty eo A) {k5 : dS → Int32 → Int32 → Int32 → Int32 → Option (Int32 × dS)} (hk5 : ∀ (q : dS) (x1 : Int32) (x2 : Int32) (x3 : Int32) (x4 : Int32) (H : Heap) (locs : List Loc) (ls : Array Slot), k5 q x1 x2 x3 x4 = some (o1, o2) → va_P D vwCl (w10 ty ad q) H → va_D A (w10 ty ad q) → va_S A s.heap H locs → lv_has ls 8 [(0, .ref (ad 0)), (1, .int x1), (2, .int x2), (3, .int x3), (4, .int x4)] → W p l e ({ frames := 0, cells := 0, slots := 0, locals := 0 } : Room) s m args below meth c H locs 0 0 (MQ below (va_Qi (fun (r : Int32) (u : va_W) => o1 = r ∧ w10 ty ad o2 = u) (kz_B D ty A) A) args s 0 0 A) (F0 m 5 ls [])) (q : dS) (x1 : Int32) (x2 : Int32) (x3 : Int32) (x4 : Int32) (x5 : Int32) (y0 : Int32) (H : Heap) (locs : List Loc) (ls : Array Slot) (h : zX10_wordOf_52 k5 q x1 x2 x3 x4 x5 y0 = some (o1, o2)) (hP : va_P D vwCl (w10 ty ad q) H) (hD : va_D A (w10 ty ad q)) (hS : va_S A s.heap H locs) (hl : lv_has ls 8 [(0, .ref (ad 0)), (1, .int x1), (2, .int x2), (3, .int x3), (4, .int x4), (5, .int x5)]) : W p l e ({ frames := 0, cells := 0, slots := 0, locals := 0 } : Room) s m args below meth c H locs 0 0 (MQ below (va_Qi (fun (r : Int32) (u : va_W) => o1 = r ∧ w10 ty ad o2 = u) (kz_B D ty A) A) args s 0 0 A) (F0 m 52 ls [.int y0]) := by
  have C0 := C
  obtain ⟨hx, hb, hr, hts, hown, hlocks, hml, hK, hN, hE, hA⟩ := C
  unfold zX10_wordOf_52 at h
  refine lv_istore (lv' := [(6, .int y0), (0, .ref (ad 0)), (1, .int x1), (2, .int x2), (3, .int x3), (4, .int x4), (5, .int x5)]) hx hb dX10_wordOf_52 hl (by decide) rfl (fun ls hl => ?_)
  refine lv_iconst (v := 0) hx hb dX10_wordOf_54 (by decide) ?_
  refine lv_istore (lv' := [(7, .int 0), (6, .int y0), (0, .ref (ad 0)), (1, .int x1), (2, .int x2), (3, .int x3), (4, .int x4), (5, .int x5)]) hx hb dX10_wordOf_55 hl (by decide) rfl (fun ls hl => ?_)
  exact WX10_wordOf_57 C0 hk5 _ _ _ _ _ _ _ _ _ _ _ _ h hP hD hS (lv_sub hl [2, 3, 4, 5, 6, 7, 1, 0] rfl)
set_option maxHeartbeats 4000000 in
set_option maxRecDepth 100000 in
theorem WX10_wordOf_18b {p : Program} {l : Launch} {e : Env} {s : State} {m : MethodId} {args : Array Value} {below : List Frame} {meth : Method} {c : Code} {D : va_G} {ty : Nat → ClassId} {eo : Nat → Nat} {A : Nat → Prop} {ad : Nat → Nat} {o1 : Int32} {o2 : dS} (C : dc_C p s m args meth c cX10_wordOf (some .int) 8 RX10 wsX10_wordOf D ty eo A) {k5 : dS → Int32 → Int32 → Int32 → Int32 → Option (Int32 × dS)} {k18 : dS → Int32 → Int32 → Int32 → Int32 → Int32 → Option (Int32 × dS)} (hk5 : ∀ (q : dS) (x1 : Int32) (x2 : Int32) (x3 : Int32) (x4 : Int32) (H : Heap) (locs : List Loc) (ls : Array Slot), k5 q x1 x2 x3 x4 = some (o1, o2) → va_P D vwCl (w10 ty ad q) H → va_D A (w10 ty ad q) → va_S A s.heap H locs → lv_has ls 8 [(0, .ref (ad 0)), (1, .int x1), (2, .int x2), (3, .int x3), (4, .int x4)] → W p l e ({ frames := 0, cells := 0, slots := 0, locals := 0 } : Room) s m args below meth c H locs 0 0 (MQ below (va_Qi (fun (r : Int32) (u : va_W) => o1 = r ∧ w10 ty ad o2 = u) (kz_B D ty A) A) args s 0 0 A) (F0 m 5 ls [])) (hk18 : ∀ (q : dS) (x1 : Int32) (x2 : Int32) (x3 : Int32) (x4 : Int32) (x5 : Int32) (H : Heap) (locs : List Loc) (ls : Array Slot), k18 q x1 x2 x3 x4 x5 = some (o1, o2) → va_P D vwCl (w10 ty ad q) H → va_D A (w10 ty ad q) → va_S A s.heap H locs → lv_has ls 8 [(0, .ref (ad 0)), (1, .int x1), (2, .int x2), (3, .int x3), (4, .int x4), (5, .int x5)] → W p l e ({ frames := 0, cells := 0, slots := 0, locals := 0 } : Room) s m args below meth c H locs 0 0 (MQ below (va_Qi (fun (r : Int32) (u : va_W) => o1 = r ∧ w10 ty ad o2 = u) (kz_B D ty A) A) args s 0 0 A) (F0 m 18 ls [])) (q : dS) (x1 : Int32) (x2 : Int32) (x3 : Int32) (x4 : Int32) (x5 : Int32) (H : Heap) (locs : List Loc) (ls : Array Slot) (h : zX10_wordOf_18b k5 k18 q x1 x2 x3 x4 x5 = some (o1, o2)) (hP : va_P D vwCl (w10 ty ad q) H) (hD : va_D A (w10 ty ad q)) (hS : va_S A s.heap H locs) (hl : lv_has ls 8 [(0, .ref (ad 0)), (1, .int x1), (2, .int x2), (3, .int x3), (4, .int x4), (5, .int x5)]) : W p l e ({ frames := 0, cells := 0, slots := 0, locals := 0 } : Room) s m args below meth c H locs 0 0 (MQ below (va_Qi (fun (r : Int32) (u : va_W) => o1 = r ∧ w10 ty ad o2 = u) (kz_B D ty A) A) args s 0 0 A) (F0 m 18 ls []) := by
  have C0 := C
  obtain ⟨hx, hb, hr, hts, hown, hlocks, hml, hK, hN, hE, hA⟩ := C
  unfold zX10_wordOf_18b at h
  refine lv_aload_n hx hb dX10_wordOf_18 rfl (lv_at hl 0 rfl) ?_
  refine va_get (D := D) (ci := 10) (v := .ref (ad 6)) (C := RX10) (T := TX10) (N := 56) hx hb hts u9_wsX10_wordOf_X10 hown hK hP 0 rfl rfl 7 (by decide) (hts (.fieldLink RX10 41 "TurnedFloorsModel" "words" "[B") f9_wsX10_wordOf_93) (fun _ h9 => h9) rfl dX10_wordOf_19 ?_
  refine lv_iload hx hb dX10_wordOf_22 (lv_at hl 4 rfl) ?_
  refine lv_iload hx hb dX10_wordOf_24 (lv_at hl 5 rfl) ?_
  refine lv_iadd hx hb dX10_wordOf_26 ?_
  obtain ⟨g1, h⟩ := dG_some h
  refine va_bald hx hb hK hP 6 3 rfl rfl (dg_in g1) dX10_wordOf_27 ?_
  obtain ⟨v2, ev2, h⟩ := dL_some h
  refine kz_topi v2 ev2 ?_
  refine lv_bipush (v := 32) hx hb dX10_wordOf_28 (by decide) ?_
  refine lv_icmp_eq (tgt := 39) hx hb dX10_wordOf_30 (by decide) (fun c9 => ?_) (fun c9 => ?_)
  · rw [if_pos c9] at h
    refine lv_iload hx hb dX10_wordOf_39 (lv_at hl 5 rfl) ?_
    refine lv_iload_n hx hb dX10_wordOf_41 rfl (lv_at hl 2 rfl) ?_
    refine lv_iload_n hx hb dX10_wordOf_42 rfl (lv_at hl 1 rfl) ?_
    refine lv_isub hx hb dX10_wordOf_43 ?_
    refine lv_icmp_ne (tgt := 51) hx hb dX10_wordOf_44 (by decide) (fun c9 => ?_) (fun c9 => ?_)
    · rw [if_neg c9] at h
      refine lv_iconst (v := 0) hx hb dX10_wordOf_51 (by decide) ?_
      exact WX10_wordOf_52 C0 hk5 _ _ _ _ _ _ _ _ _ _ h hP hD hS (lv_sub hl [0, 1, 2, 3, 4, 5] rfl)
    · rw [if_pos c9] at h
      refine lv_iconst (v := 1) hx hb dX10_wordOf_47 (by decide) ?_
      refine lv_goto (tgt := 52) hx hb dX10_wordOf_48 (by decide) ?_
      exact WX10_wordOf_52 C0 hk5 _ _ _ _ _ _ _ _ _ _ h hP hD hS (lv_sub hl [0, 1, 2, 3, 4, 5] rfl)
  · rw [if_neg c9] at h
    refine lv_iinc (v := x5 + 1) (lv' := [(5, .int (x5 + 1)), (0, .ref (ad 0)), (1, .int x1), (2, .int x2), (3, .int x3), (4, .int x4)]) hx hb dX10_wordOf_33 hl (k := 5) rfl rfl (by decide) rfl (fun ls hl => ?_)
    refine lv_goto (tgt := 18) hx hb dX10_wordOf_36 (by decide) ?_
    exact hk18 _ _ _ _ _ _ _ _ _ h hP hD hS (lv_sub hl [1, 2, 3, 4, 5, 0] rfl)
set_option maxHeartbeats 4000000 in
set_option maxRecDepth 100000 in
theorem WX10_wordOf_18 {p : Program} {l : Launch} {e : Env} {s : State} {m : MethodId} {args : Array Value} {below : List Frame} {meth : Method} {c : Code} {D : va_G} {ty : Nat → ClassId} {eo : Nat → Nat} {A : Nat → Prop} {ad : Nat → Nat} {o1 : Int32} {o2 : dS} (C : dc_C p s m args meth c cX10_wordOf (some .int) 8 RX10 wsX10_wordOf D ty eo A) {k5 : dS → Int32 → Int32 → Int32 → Int32 → Option (Int32 × dS)} (hk5 : ∀ (q : dS) (x1 : Int32) (x2 : Int32) (x3 : Int32) (x4 : Int32) (H : Heap) (locs : List Loc) (ls : Array Slot), k5 q x1 x2 x3 x4 = some (o1, o2) → va_P D vwCl (w10 ty ad q) H → va_D A (w10 ty ad q) → va_S A s.heap H locs → lv_has ls 8 [(0, .ref (ad 0)), (1, .int x1), (2, .int x2), (3, .int x3), (4, .int x4)] → W p l e ({ frames := 0, cells := 0, slots := 0, locals := 0 } : Room) s m args below meth c H locs 0 0 (MQ below (va_Qi (fun (r : Int32) (u : va_W) => o1 = r ∧ w10 ty ad o2 = u) (kz_B D ty A) A) args s 0 0 A) (F0 m 5 ls [])) (n : Nat) (q : dS) (x1 : Int32) (x2 : Int32) (x3 : Int32) (x4 : Int32) (x5 : Int32) (H : Heap) (locs : List Loc) (ls : Array Slot) (h : zX10_wordOf_18 k5 n q x1 x2 x3 x4 x5 = some (o1, o2)) (hP : va_P D vwCl (w10 ty ad q) H) (hD : va_D A (w10 ty ad q)) (hS : va_S A s.heap H locs) (hl : lv_has ls 8 [(0, .ref (ad 0)), (1, .int x1), (2, .int x2), (3, .int x3), (4, .int x4), (5, .int x5)]) : W p l e ({ frames := 0, cells := 0, slots := 0, locals := 0 } : Room) s m args below meth c H locs 0 0 (MQ below (va_Qi (fun (r : Int32) (u : va_W) => o1 = r ∧ w10 ty ad o2 = u) (kz_B D ty A) A) args s 0 0 A) (F0 m 18 ls []) := by
  exact dFix_W (F := fun k (a : dS × Int32 × Int32 × Int32 × Int32 × Int32) => zX10_wordOf_18b k5 (fun q x1 x2 x3 x4 x5 => k (q, x1, x2, x3, x4, x5)) a.1 a.2.1 a.2.2.1 a.2.2.2.1 a.2.2.2.2.1 a.2.2.2.2.2) (o := (o1, o2)) (P := fun (a : dS × Int32 × Int32 × Int32 × Int32 × Int32) H locs ls => va_P D vwCl (w10 ty ad a.1) H ∧ va_D A (w10 ty ad a.1) ∧ va_S A s.heap H locs ∧ lv_has ls 8 [(0, .ref (ad 0)), (1, .int a.2.1), (2, .int a.2.2.1), (3, .int a.2.2.2.1), (4, .int a.2.2.2.2.1), (5, .int a.2.2.2.2.2)]) (G := fun H locs ls => W p l e ({ frames := 0, cells := 0, slots := 0, locals := 0 } : Room) s m args below meth c H locs 0 0 (MQ below (va_Qi (fun (r : Int32) (u : va_W) => o1 = r ∧ w10 ty ad o2 = u) (kz_B D ty A) A) args s 0 0 A) (F0 m 18 ls []))
    (fun k hk a H locs ls h hp => WX10_wordOf_18b C hk5 (fun q x1 x2 x3 x4 x5 H locs ls h h1 h2 h3 h4 => hk (q, x1, x2, x3, x4, x5) H locs ls h ⟨h1, h2, h3, h4⟩) a.1 a.2.1 a.2.2.1 a.2.2.2.1 a.2.2.2.2.1 a.2.2.2.2.2 H locs ls h hp.1 hp.2.1 hp.2.2.1 hp.2.2.2) n (q, x1, x2, x3, x4, x5) H locs ls h ⟨hP, hD, hS, hl⟩
set_option maxHeartbeats 4000000 in
set_option maxRecDepth 100000 in
theorem WX10_wordOf_5b {p : Program} {l : Launch} {e : Env} {s : State} {m : MethodId} {args : Array Value} {below : List Frame} {meth : Method} {c : Code} {D : va_G} {ty : Nat → ClassId} {eo : Nat → Nat} {A : Nat → Prop} {ad : Nat → Nat} {o1 : Int32} {o2 : dS} (C : dc_C p s m args meth c cX10_wordOf (some .int) 8 RX10 wsX10_wordOf D ty eo A) {k5 : dS → Int32 → Int32 → Int32 → Int32 → Option (Int32 × dS)} (hk5 : ∀ (q : dS) (x1 : Int32) (x2 : Int32) (x3 : Int32) (x4 : Int32) (H : Heap) (locs : List Loc) (ls : Array Slot), k5 q x1 x2 x3 x4 = some (o1, o2) → va_P D vwCl (w10 ty ad q) H → va_D A (w10 ty ad q) → va_S A s.heap H locs → lv_has ls 8 [(0, .ref (ad 0)), (1, .int x1), (2, .int x2), (3, .int x3), (4, .int x4)] → W p l e ({ frames := 0, cells := 0, slots := 0, locals := 0 } : Room) s m args below meth c H locs 0 0 (MQ below (va_Qi (fun (r : Int32) (u : va_W) => o1 = r ∧ w10 ty ad o2 = u) (kz_B D ty A) A) args s 0 0 A) (F0 m 5 ls [])) (q : dS) (x1 : Int32) (x2 : Int32) (x3 : Int32) (x4 : Int32) (H : Heap) (locs : List Loc) (ls : Array Slot) (h : zX10_wordOf_5b k5 q x1 x2 x3 x4 = some (o1, o2)) (hP : va_P D vwCl (w10 ty ad q) H) (hD : va_D A (w10 ty ad q)) (hS : va_S A s.heap H locs) (hl : lv_has ls 8 [(0, .ref (ad 0)), (1, .int x1), (2, .int x2), (3, .int x3), (4, .int x4)]) : W p l e ({ frames := 0, cells := 0, slots := 0, locals := 0 } : Room) s m args below meth c H locs 0 0 (MQ below (va_Qi (fun (r : Int32) (u : va_W) => o1 = r ∧ w10 ty ad o2 = u) (kz_B D ty A) A) args s 0 0 A) (F0 m 5 ls []) := by
  have C0 := C
  obtain ⟨hx, hb, hr, hts, hown, hlocks, hml, hK, hN, hE, hA⟩ := C
  unfold zX10_wordOf_5b at h
  refine lv_iload hx hb dX10_wordOf_5 (lv_at hl 4 rfl) ?_
  refine lv_aload_n hx hb dX10_wordOf_7 rfl (lv_at hl 0 rfl) ?_
  refine va_get (D := D) (ci := 10) (v := .ref (ad 6)) (C := RX10) (T := TX10) (N := 56) hx hb hts u9_wsX10_wordOf_X10 hown hK hP 0 rfl rfl 7 (by decide) (hts (.fieldLink RX10 41 "TurnedFloorsModel" "words" "[B") f9_wsX10_wordOf_93) (fun _ h9 => h9) rfl dX10_wordOf_8 ?_
  refine va_alen (v := 128) hx hb hK hP 6 3 rfl rfl rfl dX10_wordOf_11 ?_
  refine lv_icmp_ge (tgt := 126) hx hb dX10_wordOf_12 (by decide) (fun c9 => ?_) (fun c9 => ?_)
  · rw [if_pos c9] at h
    refine lv_iconst (v := 0) hx hb dX10_wordOf_126 (by decide) ?_
    cases h
    exact kz_iret hx hb hr hlocks hP hK hD hS dX10_wordOf_127 ⟨rfl, rfl⟩
  · rw [if_neg c9] at h
    refine lv_iconst (v := 0) hx hb dX10_wordOf_15 (by decide) ?_
    refine lv_istore (lv' := [(5, .int 0), (0, .ref (ad 0)), (1, .int x1), (2, .int x2), (3, .int x3), (4, .int x4)]) hx hb dX10_wordOf_16 hl (by decide) rfl (fun ls hl => ?_)
    exact WX10_wordOf_18 C0 hk5 _ _ _ _ _ _ _ _ _ _ h hP hD hS (lv_sub hl [1, 2, 3, 4, 5, 0] rfl)
set_option maxHeartbeats 4000000 in
set_option maxRecDepth 100000 in
theorem WX10_wordOf_5 {p : Program} {l : Launch} {e : Env} {s : State} {m : MethodId} {args : Array Value} {below : List Frame} {meth : Method} {c : Code} {D : va_G} {ty : Nat → ClassId} {eo : Nat → Nat} {A : Nat → Prop} {ad : Nat → Nat} {o1 : Int32} {o2 : dS} (C : dc_C p s m args meth c cX10_wordOf (some .int) 8 RX10 wsX10_wordOf D ty eo A)   (n : Nat) (q : dS) (x1 : Int32) (x2 : Int32) (x3 : Int32) (x4 : Int32) (H : Heap) (locs : List Loc) (ls : Array Slot) (h : zX10_wordOf_5  n q x1 x2 x3 x4 = some (o1, o2)) (hP : va_P D vwCl (w10 ty ad q) H) (hD : va_D A (w10 ty ad q)) (hS : va_S A s.heap H locs) (hl : lv_has ls 8 [(0, .ref (ad 0)), (1, .int x1), (2, .int x2), (3, .int x3), (4, .int x4)]) : W p l e ({ frames := 0, cells := 0, slots := 0, locals := 0 } : Room) s m args below meth c H locs 0 0 (MQ below (va_Qi (fun (r : Int32) (u : va_W) => o1 = r ∧ w10 ty ad o2 = u) (kz_B D ty A) A) args s 0 0 A) (F0 m 5 ls []) := by
  exact dFix_W (F := fun k (a : dS × Int32 × Int32 × Int32 × Int32) => zX10_wordOf_5b  (fun q x1 x2 x3 x4 => k (q, x1, x2, x3, x4)) a.1 a.2.1 a.2.2.1 a.2.2.2.1 a.2.2.2.2) (o := (o1, o2)) (P := fun (a : dS × Int32 × Int32 × Int32 × Int32) H locs ls => va_P D vwCl (w10 ty ad a.1) H ∧ va_D A (w10 ty ad a.1) ∧ va_S A s.heap H locs ∧ lv_has ls 8 [(0, .ref (ad 0)), (1, .int a.2.1), (2, .int a.2.2.1), (3, .int a.2.2.2.1), (4, .int a.2.2.2.2)]) (G := fun H locs ls => W p l e ({ frames := 0, cells := 0, slots := 0, locals := 0 } : Room) s m args below meth c H locs 0 0 (MQ below (va_Qi (fun (r : Int32) (u : va_W) => o1 = r ∧ w10 ty ad o2 = u) (kz_B D ty A) A) args s 0 0 A) (F0 m 5 ls []))
    (fun k hk a H locs ls h hp => WX10_wordOf_5b C  (fun q x1 x2 x3 x4 H locs ls h h1 h2 h3 h4 => hk (q, x1, x2, x3, x4) H locs ls h ⟨h1, h2, h3, h4⟩) a.1 a.2.1 a.2.2.1 a.2.2.2.1 a.2.2.2.2 H locs ls h hp.1 hp.2.1 hp.2.2.1 hp.2.2.2) n (q, x1, x2, x3, x4) H locs ls h ⟨hP, hD, hS, hl⟩
set_option maxHeartbeats 4000000 in
set_option maxRecDepth 100000 in
theorem qX10_wordOf (l : Launch) (D : va_G) (ty : Nat → ClassId) (eo : Nat → Nat) (sz : Nat) (ad : Nat → Nat) (q : dS) (p1 : Int32) (p2 : Int32) (o1 : Int32) (o2 : dS) (h : zX10_wordOf q p1 p2 = some (o1, o2)) : Met l yX10_wordOf wsX10_wordOf ({ frames := 0, cells := 0, slots := 0, locals := 0 } : Room) (va_Pc [.ref (ad 0), .int p1, .int p2] (kz_pre D ty eo (w10 ty ad q) sz)) (va_Qi (fun (r : Int32) (u : va_W) => o1 = r ∧ w10 ty ad o2 = u) (kz_B D ty (va_A (w10 ty ad q) sz)) (va_A (w10 ty ad q) sz)) 0 0 (va_A (w10 ty ad q) sz) := by
  refine Met.ofW (cc := cX10_wordOf) (maxL := 8) (ret := (some .int)) (by decide) rfl ?_
  intro p e s m args below meth c s₁ B hml hv
  obtain ⟨rfl, hsz, hP, hK, hD0, hN, hE⟩ := hv
  have hx := B.exec
  have hb := B.bytes
  have hr := B.returns
  have hts := atoms_spec (ws := wsX10_wordOf) B.pre
  have hown : s.vm.findClass RX10 = some m.cls := findClass_of_methodNamed B.named
  have hlocks := B.notSynchronized
  subst hsz
  have hD := hD0.self (sz := s.heap.size)
  generalize hAe : va_A (w10 ty ad q) s.heap.size = A at hD hE ⊢
  have hA : ∀ q : Nat, s.heap.size ≤ q → A q := fun q h => by rw [← hAe]; exact Or.inr h
  clear hAe
  have hS : va_S A s.heap s.heap [] := va_S.rf
  have hl := lv_entry ([.ref (ad 0), .int p1, .int p2]) (n := 8) (Nat.le_of_ble_eq_true rfl)
  rw [lg_entry_eq]
  generalize (lg_sl ([.ref (ad 0), .int p1, .int p2]) ++ List.replicate (8 - (lg_sl ([.ref (ad 0), .int p1, .int p2])).length) Slot.unset).toArray = ls at hl ⊢
  have hl : lv_has ls 8 [(0, .ref (ad 0)), (1, .int p1), (2, .int p2)] := hl
  have C : dc_C p s m _ meth c cX10_wordOf (some .int) 8 RX10 wsX10_wordOf D ty eo A := ⟨hx, hb, hr, hts, hown, hlocks, hml, hK, hN, hE, hA⟩
  unfold zX10_wordOf at h
  refine lv_iconst (v := 1) hx hb dX10_wordOf_0 (by decide) ?_
  refine lv_istore_n (lv' := [(3, .int 1), (0, .ref (ad 0)), (1, .int p1), (2, .int p2)]) hx hb dX10_wordOf_1 rfl hl (by decide) rfl (fun ls hl => ?_)
  refine lv_iconst (v := 0) hx hb dX10_wordOf_2 (by decide) ?_
  refine lv_istore (lv' := [(4, .int 0), (3, .int 1), (0, .ref (ad 0)), (1, .int p1), (2, .int p2)]) hx hb dX10_wordOf_3 hl (by decide) rfl (fun ls hl => ?_)
  exact WX10_wordOf_5 C  _ _ _ _ _ _ _ _ _ h hP hD hS (lv_sub hl [2, 3, 4, 1, 0] rfl)
