theorem u9_wsX3_rowsToOrder_X3 : ∀ w ∈ u_ws RX3 TX3 20, w ∈ wsX3_rowsToOrder := by
  first | exact fun w h => List.mem_cons_of_mem _ (List.mem_append_right _ h) | decide +kernel
theorem f9_wsX3_rowsToOrder_808 : (Cond.fieldLink RX3 42 "TurnedFloors$Paper" "marks" "[I") ∈ wsX3_rowsToOrder := by decide +kernel
theorem f9_wsX3_rowsToOrder_809 : (Cond.constant RX3 128 1000000000) ∈ wsX3_rowsToOrder := by decide +kernel
theorem f9_wsX3_rowsToOrder_810 : (Cond.methodLink RX3 100 Lib.Math.min.name) ∈ wsX3_rowsToOrder := by decide +kernel
theorem f9_wsX3_rowsToOrder_811 : (Cond.static Lib.Math.min.name) ∈ wsX3_rowsToOrder := by decide +kernel
theorem f9_wsX3_rowsToOrder_812 : (Cond.initialized "java/lang/Math") ∈ wsX3_rowsToOrder := by decide +kernel
theorem f9_wsX3_rowsToOrder_813 : (Cond.code Lib.Math.min.name Lib.Math.min.code 2 (some .int)) ∈ wsX3_rowsToOrder := by decide +kernel
theorem f9_wsX3_rowsToOrder_814 : (Cond.fieldLink RX3 51 "TurnedFloors$Paper" "floors" "I") ∈ wsX3_rowsToOrder := by decide +kernel
theorem f9_wsX3_rowsToOrder_815 : (Cond.fieldLink RX3 55 "TurnedFloors$Paper" "size" "I") ∈ wsX3_rowsToOrder := by decide +kernel
theorem f9_wsX3_rowsToOrder_816 : (Cond.fieldLink RX3 45 "TurnedFloors$Paper" "line" "[I") ∈ wsX3_rowsToOrder := by decide +kernel
theorem f9_wsX3_rowsToOrder_817 : (Cond.fieldLink RX3 39 "TurnedFloors$Paper" "toOrder" "[I") ∈ wsX3_rowsToOrder := by decide +kernel
theorem f9_wsX3_rowsToOrder_818 : (Cond.fieldLink RX3 58 "TurnedFloors$Paper" "start" "I") ∈ wsX3_rowsToOrder := by decide +kernel
theorem u9_wsX9_many_X9 : ∀ w ∈ u_ws RX9 TX9 19, w ∈ wsX9_many := by
  first | exact fun w h => List.mem_cons_of_mem _ (List.mem_append_right _ h) | decide +kernel
theorem f9_wsX9_many_820 : (Cond.fieldLink RX9 80 "TurnedFloors" "paper" "LTurnedFloors$Paper;") ∈ wsX9_many := by decide +kernel
set_option maxHeartbeats 4000000 in
set_option maxRecDepth 100000 in
theorem WX3_rowsToOrder_s32_200 {p : Program} {l : Launch} {e : Env} {s : State} {m : MethodId} {args : Array Value} {below : List Frame} {meth : Method} {c : Code} {D : va_G} {ty : Nat → ClassId} {eo : Nat → Nat} {A : Nat → Prop} {ad : Nat → Nat} {o1 : Int32} {o2 : dK} (C : dc_C p s m args meth c cX3_rowsToOrder (some .int) 7 RX3 wsX3_rowsToOrder D ty eo A)   (q : dK) (x2 : Int32) (H : Heap) (locs : List Loc) (ls : Array Slot) (h : zX3_rowsToOrder_s32_200  q x2 = some (o1, o2)) (hP : va_P D vwCl (wF ty ad q) H) (hD : va_D A (wF ty ad q)) (hS : va_S A s.heap H locs) (hl : lv_has ls 7 [(2, .int x2)]) : W p l e ({ frames := 3, cells := 0, slots := 0, locals := 72 } : Room) s m args below meth c H locs 0 0 (MQ below (va_Qi (fun (r : Int32) (u : va_W) => o1 = r ∧ wF ty ad o2 = u) (kz_B D ty A) A) args s 0 0 A) (F0 m 200 ls []) := by
  have C0 := C
  obtain ⟨hx, hb, hr, hts, hown, hlocks, hml, hK, hN, hE, hA⟩ := C
  unfold zX3_rowsToOrder_s32_200 at h
  refine lv_iload_n hx hb dX3_rowsToOrder_200 rfl (lv_at hl 0 rfl) ?_
  cases h
  exact kz_iret hx hb hr hlocks hP hK hD hS dX3_rowsToOrder_201 ⟨rfl, rfl⟩
set_option maxHeartbeats 4000000 in
set_option maxRecDepth 100000 in
theorem WX3_rowsToOrder_s32_188 {p : Program} {l : Launch} {e : Env} {s : State} {m : MethodId} {args : Array Value} {below : List Frame} {meth : Method} {c : Code} {D : va_G} {ty : Nat → ClassId} {eo : Nat → Nat} {A : Nat → Prop} {ad : Nat → Nat} {o1 : Int32} {o2 : dK} (C : dc_C p s m args meth c cX3_rowsToOrder (some .int) 7 RX3 wsX3_rowsToOrder D ty eo A) {k53 : dK → Int32 → Int32 → Int32 → Option (Int32 × dK)} {k102 : dK → Int32 → Int32 → Int32 → Int32 → Int32 → Option (Int32 × dK)} (hk53 : ∀ (q : dK) (x1 : Int32) (x2 : Int32) (x3 : Int32) (H : Heap) (locs : List Loc) (ls : Array Slot), k53 q x1 x2 x3 = some (o1, o2) → va_P D vwCl (wF ty ad q) H → va_D A (wF ty ad q) → va_S A s.heap H locs → lv_has ls 7 [(0, .ref (ad 32)), (1, .int x1), (2, .int x2), (3, .int x3)] → W p l e ({ frames := 3, cells := 0, slots := 0, locals := 72 } : Room) s m args below meth c H locs 0 0 (MQ below (va_Qi (fun (r : Int32) (u : va_W) => o1 = r ∧ wF ty ad o2 = u) (kz_B D ty A) A) args s 0 0 A) (F0 m 53 ls [])) (hk102 : ∀ (q : dK) (x1 : Int32) (x2 : Int32) (x3 : Int32) (x4 : Int32) (x5 : Int32) (H : Heap) (locs : List Loc) (ls : Array Slot), k102 q x1 x2 x3 x4 x5 = some (o1, o2) → va_P D vwCl (wF ty ad q) H → va_D A (wF ty ad q) → va_S A s.heap H locs → lv_has ls 7 [(0, .ref (ad 32)), (1, .int x1), (2, .int x2), (3, .int x3), (4, .int x4), (5, .int x5)] → W p l e ({ frames := 3, cells := 0, slots := 0, locals := 72 } : Room) s m args below meth c H locs 0 0 (MQ below (va_Qi (fun (r : Int32) (u : va_W) => o1 = r ∧ wF ty ad o2 = u) (kz_B D ty A) A) args s 0 0 A) (F0 m 102 ls [])) (q : dK) (x1 : Int32) (x2 : Int32) (x3 : Int32) (x4 : Int32) (x5 : Int32) (H : Heap) (locs : List Loc) (ls : Array Slot) (h : zX3_rowsToOrder_s32_188 k53 k102 q x1 x2 x3 x4 x5 = some (o1, o2)) (hP : va_P D vwCl (wF ty ad q) H) (hD : va_D A (wF ty ad q)) (hS : va_S A s.heap H locs) (hl : lv_has ls 7 [(0, .ref (ad 32)), (1, .int x1), (2, .int x2), (3, .int x3), (4, .int x4), (5, .int x5)]) : W p l e ({ frames := 3, cells := 0, slots := 0, locals := 72 } : Room) s m args below meth c H locs 0 0 (MQ below (va_Qi (fun (r : Int32) (u : va_W) => o1 = r ∧ wF ty ad o2 = u) (kz_B D ty A) A) args s 0 0 A) (F0 m 188 ls []) := by
  have C0 := C
  obtain ⟨hx, hb, hr, hts, hown, hlocks, hml, hK, hN, hE, hA⟩ := C
  unfold zX3_rowsToOrder_s32_188 at h
  refine lv_iinc (v := x5 + 1) (lv' := [(5, .int (x5 + 1)), (0, .ref (ad 32)), (1, .int x1), (2, .int x2), (3, .int x3), (4, .int x4)]) hx hb dX3_rowsToOrder_188 hl (k := 5) rfl rfl (by decide) rfl (fun ls hl => ?_)
  refine lv_goto (tgt := 102) hx hb dX3_rowsToOrder_191 (by decide) ?_
  exact hk102 _ _ _ _ _ _ _ _ _ h hP hD hS (lv_sub hl [1, 2, 3, 4, 5, 0] rfl)
set_option maxHeartbeats 4000000 in
set_option maxRecDepth 100000 in
theorem WX3_rowsToOrder_s32_161 {p : Program} {l : Launch} {e : Env} {s : State} {m : MethodId} {args : Array Value} {below : List Frame} {meth : Method} {c : Code} {D : va_G} {ty : Nat → ClassId} {eo : Nat → Nat} {A : Nat → Prop} {ad : Nat → Nat} {o1 : Int32} {o2 : dK} (C : dc_C p s m args meth c cX3_rowsToOrder (some .int) 7 RX3 wsX3_rowsToOrder D ty eo A) {k53 : dK → Int32 → Int32 → Int32 → Option (Int32 × dK)} {k102 : dK → Int32 → Int32 → Int32 → Int32 → Int32 → Option (Int32 × dK)} (hk53 : ∀ (q : dK) (x1 : Int32) (x2 : Int32) (x3 : Int32) (H : Heap) (locs : List Loc) (ls : Array Slot), k53 q x1 x2 x3 = some (o1, o2) → va_P D vwCl (wF ty ad q) H → va_D A (wF ty ad q) → va_S A s.heap H locs → lv_has ls 7 [(0, .ref (ad 32)), (1, .int x1), (2, .int x2), (3, .int x3)] → W p l e ({ frames := 3, cells := 0, slots := 0, locals := 72 } : Room) s m args below meth c H locs 0 0 (MQ below (va_Qi (fun (r : Int32) (u : va_W) => o1 = r ∧ wF ty ad o2 = u) (kz_B D ty A) A) args s 0 0 A) (F0 m 53 ls [])) (hk102 : ∀ (q : dK) (x1 : Int32) (x2 : Int32) (x3 : Int32) (x4 : Int32) (x5 : Int32) (H : Heap) (locs : List Loc) (ls : Array Slot), k102 q x1 x2 x3 x4 x5 = some (o1, o2) → va_P D vwCl (wF ty ad q) H → va_D A (wF ty ad q) → va_S A s.heap H locs → lv_has ls 7 [(0, .ref (ad 32)), (1, .int x1), (2, .int x2), (3, .int x3), (4, .int x4), (5, .int x5)] → W p l e ({ frames := 3, cells := 0, slots := 0, locals := 72 } : Room) s m args below meth c H locs 0 0 (MQ below (va_Qi (fun (r : Int32) (u : va_W) => o1 = r ∧ wF ty ad o2 = u) (kz_B D ty A) A) args s 0 0 A) (F0 m 102 ls [])) (q : dK) (x1 : Int32) (x2 : Int32) (x3 : Int32) (x4 : Int32) (x5 : Int32) (x6 : Int32) (H : Heap) (locs : List Loc) (ls : Array Slot) (h : zX3_rowsToOrder_s32_161 k53 k102 q x1 x2 x3 x4 x5 x6 = some (o1, o2)) (hP : va_P D vwCl (wF ty ad q) H) (hD : va_D A (wF ty ad q)) (hS : va_S A s.heap H locs) (hl : lv_has ls 7 [(0, .ref (ad 32)), (1, .int x1), (2, .int x2), (3, .int x3), (4, .int x4), (5, .int x5), (6, .int x6)]) : W p l e ({ frames := 3, cells := 0, slots := 0, locals := 72 } : Room) s m args below meth c H locs 0 0 (MQ below (va_Qi (fun (r : Int32) (u : va_W) => o1 = r ∧ wF ty ad o2 = u) (kz_B D ty A) A) args s 0 0 A) (F0 m 161 ls []) := by
  have C0 := C
  obtain ⟨hx, hb, hr, hts, hown, hlocks, hml, hK, hN, hE, hA⟩ := C
  unfold zX3_rowsToOrder_s32_161 at h
  refine lv_aload_n hx hb dX3_rowsToOrder_161 rfl (lv_at hl 0 rfl) ?_
  refine va_get (D := D) (ci := 3) (v := .ref (ad 43)) (C := RX3) (T := TX3) (N := 20) hx hb hts u9_wsX3_rowsToOrder_X3 hown hK hP 32 rfl rfl 10 (by decide) (hts (.fieldLink RX3 42 "TurnedFloors$Paper" "marks" "[I") f9_wsX3_rowsToOrder_808) (fun _ h9 => h9) rfl dX3_rowsToOrder_162 ?_
  refine lv_iload hx hb dX3_rowsToOrder_165 (lv_at hl 6 rfl) ?_
  refine lv_ldc (v := 1000000000) hx hb hown (hts (.constant RX3 128 1000000000) f9_wsX3_rowsToOrder_809) dX3_rowsToOrder_167 ?_
  refine lv_aload_n hx hb dX3_rowsToOrder_169 rfl (lv_at hl 0 rfl) ?_
  refine va_get (D := D) (ci := 3) (v := .ref (ad 43)) (C := RX3) (T := TX3) (N := 20) hx hb hts u9_wsX3_rowsToOrder_X3 hown hK hP 32 rfl rfl 10 (by decide) (hts (.fieldLink RX3 42 "TurnedFloors$Paper" "marks" "[I") f9_wsX3_rowsToOrder_808) (fun _ h9 => h9) rfl dX3_rowsToOrder_170 ?_
  refine lv_iload hx hb dX3_rowsToOrder_173 (lv_at hl 6 rfl) ?_
  obtain ⟨g1, h⟩ := dG_some h
  refine va_iald hx hb hK hP 43 0 rfl rfl (dg_in g1) dX3_rowsToOrder_175 ?_
  obtain ⟨v2, ev2, h⟩ := dL_some h
  refine kz_topi v2 ev2 ?_
  refine lv_aload_n hx hb dX3_rowsToOrder_176 rfl (lv_at hl 0 rfl) ?_
  refine va_get (D := D) (ci := 3) (v := .ref (ad 43)) (C := RX3) (T := TX3) (N := 20) hx hb hts u9_wsX3_rowsToOrder_X3 hown hK hP 32 rfl rfl 10 (by decide) (hts (.fieldLink RX3 42 "TurnedFloors$Paper" "marks" "[I") f9_wsX3_rowsToOrder_808) (fun _ h9 => h9) rfl dX3_rowsToOrder_177 ?_
  refine lv_iload hx hb dX3_rowsToOrder_180 (lv_at hl 4 rfl) ?_
  obtain ⟨g3, h⟩ := dG_some h
  refine va_iald hx hb hK hP 43 0 rfl rfl (dg_in g3) dX3_rowsToOrder_182 ?_
  obtain ⟨v4, ev4, h⟩ := dL_some h
  refine kz_topi v4 ev4 ?_
  refine lv_iadd hx hb dX3_rowsToOrder_183 ?_
  refine va_mmin hx hb (hml.trans hl.1.symm) hown (hts (.methodLink RX3 100 Lib.Math.min.name) f9_wsX3_rowsToOrder_810) (hts (.static Lib.Math.min.name) f9_wsX3_rowsToOrder_811) (hts (.initialized "java/lang/Math") f9_wsX3_rowsToOrder_812) (hts (.code Lib.Math.min.name Lib.Math.min.code 2 (some .int)) f9_wsX3_rowsToOrder_813) (Nat.le_of_ble_eq_true rfl) (Nat.le_of_ble_eq_true rfl) (Nat.le_of_ble_eq_true rfl) (Nat.le_of_ble_eq_true rfl) dX3_rowsToOrder_184 ?_
  refine kz_topi (mnI 1000000000 (v2 + v4)) rfl ?_
  obtain ⟨g5, h⟩ := dG_some h
  refine va_iast hx hb hK hP hD hS 43 0 rfl rfl (dg_in g5) dX3_rowsToOrder_187 (fun H locs hp hd hs => ?_)
  obtain ⟨q6, eq6, h⟩ := dL_some h
  refine kz_re (w2 := wF ty ad q6) hp hd hs (by rw [← eq6]; exact wF_a43 ty ad q (Int32.toNatClampNeg x6) (mnI 1000000000 (v2 + v4))) ?_
  clear hp hd hs hP hD hS
  intro hP hD hS
  exact WX3_rowsToOrder_s32_188 C0 hk53 hk102 _ _ _ _ _ _ _ _ _ h hP hD hS (lv_sub hl [0, 1, 2, 3, 4, 5] rfl)
set_option maxHeartbeats 4000000 in
set_option maxRecDepth 100000 in
theorem WX3_rowsToOrder_s32_102b {p : Program} {l : Launch} {e : Env} {s : State} {m : MethodId} {args : Array Value} {below : List Frame} {meth : Method} {c : Code} {D : va_G} {ty : Nat → ClassId} {eo : Nat → Nat} {A : Nat → Prop} {ad : Nat → Nat} {o1 : Int32} {o2 : dK} (C : dc_C p s m args meth c cX3_rowsToOrder (some .int) 7 RX3 wsX3_rowsToOrder D ty eo A) {k53 : dK → Int32 → Int32 → Int32 → Option (Int32 × dK)} {k102 : dK → Int32 → Int32 → Int32 → Int32 → Int32 → Option (Int32 × dK)} (hk53 : ∀ (q : dK) (x1 : Int32) (x2 : Int32) (x3 : Int32) (H : Heap) (locs : List Loc) (ls : Array Slot), k53 q x1 x2 x3 = some (o1, o2) → va_P D vwCl (wF ty ad q) H → va_D A (wF ty ad q) → va_S A s.heap H locs → lv_has ls 7 [(0, .ref (ad 32)), (1, .int x1), (2, .int x2), (3, .int x3)] → W p l e ({ frames := 3, cells := 0, slots := 0, locals := 72 } : Room) s m args below meth c H locs 0 0 (MQ below (va_Qi (fun (r : Int32) (u : va_W) => o1 = r ∧ wF ty ad o2 = u) (kz_B D ty A) A) args s 0 0 A) (F0 m 53 ls [])) (hk102 : ∀ (q : dK) (x1 : Int32) (x2 : Int32) (x3 : Int32) (x4 : Int32) (x5 : Int32) (H : Heap) (locs : List Loc) (ls : Array Slot), k102 q x1 x2 x3 x4 x5 = some (o1, o2) → va_P D vwCl (wF ty ad q) H → va_D A (wF ty ad q) → va_S A s.heap H locs → lv_has ls 7 [(0, .ref (ad 32)), (1, .int x1), (2, .int x2), (3, .int x3), (4, .int x4), (5, .int x5)] → W p l e ({ frames := 3, cells := 0, slots := 0, locals := 72 } : Room) s m args below meth c H locs 0 0 (MQ below (va_Qi (fun (r : Int32) (u : va_W) => o1 = r ∧ wF ty ad o2 = u) (kz_B D ty A) A) args s 0 0 A) (F0 m 102 ls [])) (q : dK) (x1 : Int32) (x2 : Int32) (x3 : Int32) (x4 : Int32) (x5 : Int32) (H : Heap) (locs : List Loc) (ls : Array Slot) (h : zX3_rowsToOrder_s32_102b k53 k102 q x1 x2 x3 x4 x5 = some (o1, o2)) (hP : va_P D vwCl (wF ty ad q) H) (hD : va_D A (wF ty ad q)) (hS : va_S A s.heap H locs) (hl : lv_has ls 7 [(0, .ref (ad 32)), (1, .int x1), (2, .int x2), (3, .int x3), (4, .int x4), (5, .int x5)]) : W p l e ({ frames := 3, cells := 0, slots := 0, locals := 72 } : Room) s m args below meth c H locs 0 0 (MQ below (va_Qi (fun (r : Int32) (u : va_W) => o1 = r ∧ wF ty ad o2 = u) (kz_B D ty A) A) args s 0 0 A) (F0 m 102 ls []) := by
  have C0 := C
  obtain ⟨hx, hb, hr, hts, hown, hlocks, hml, hK, hN, hE, hA⟩ := C
  unfold zX3_rowsToOrder_s32_102b at h
  refine lv_iload hx hb dX3_rowsToOrder_102 (lv_at hl 5 rfl) ?_
  refine lv_aload_n hx hb dX3_rowsToOrder_104 rfl (lv_at hl 0 rfl) ?_
  refine va_get (D := D) (ci := 3) (v := .int (q.1 32 13)) (C := RX3) (T := TX3) (N := 20) hx hb hts u9_wsX3_rowsToOrder_X3 hown hK hP 32 rfl rfl 13 (by decide) (hts (.fieldLink RX3 51 "TurnedFloors$Paper" "floors" "I") f9_wsX3_rowsToOrder_814) (fun _ h9 => h9) rfl dX3_rowsToOrder_105 ?_
  refine lv_icmp_gt (tgt := 194) hx hb dX3_rowsToOrder_108 (by decide) (fun c9 => ?_) (fun c9 => ?_)
  · rw [if_pos c9] at h
    refine lv_iinc (v := x3 + 1) (lv' := [(3, .int (x3 + 1)), (0, .ref (ad 32)), (1, .int x1), (2, .int x2), (4, .int x4), (5, .int x5)]) hx hb dX3_rowsToOrder_194 hl (k := 3) rfl rfl (by decide) rfl (fun ls hl => ?_)
    refine lv_goto (tgt := 53) hx hb dX3_rowsToOrder_197 (by decide) ?_
    exact hk53 _ _ _ _ _ _ _ h hP hD hS (lv_sub hl [1, 2, 3, 0] rfl)
  · rw [if_neg c9] at h
    refine lv_aload_n hx hb dX3_rowsToOrder_111 rfl (lv_at hl 0 rfl) ?_
    refine lv_iload hx hb dX3_rowsToOrder_112 (lv_at hl 4 rfl) ?_
    refine lv_iload hx hb dX3_rowsToOrder_114 (lv_at hl 5 rfl) ?_
    obtain ⟨r1, q3, h2, h⟩ := dB_some h
    refine dw_ki (va_runV (As := [.int x4, .int x5]) (rest := []) ⟨hx, hb, hml, hown, hts⟩ (qX3_isCloser_s32 l D ty eo _ ad q x4 x5 r1 q3 h2) (cwV 2 hts gX3_rowsToOrder_X3_isCloser rfl rfl rfl (by decide +kernel) ⟨Nat.le_of_ble_eq_true rfl, Nat.le_of_ble_eq_true rfl⟩) (dw_preV (ci := 3) (q0 := 32) hK hN hE hP hD hS hA rfl rfl) rfl rfl hl.1 rfl (lv_room (Nat.le_of_ble_eq_true rfl)) dX3_rowsToOrder_116 ⟨Nat.le_of_ble_eq_true rfl, Nat.le_of_ble_eq_true rfl⟩) hD hS hA (fun r9 u9 H locs hw hp hd hs => ?_)
    clear hP hD hS
    obtain ⟨rfl, rfl⟩ := hw
    have hP := hp; have hD := hd; have hS := hs; clear hp hd hs
    refine lv_if_eq (tgt := 188) hx hb dX3_rowsToOrder_119 (by decide) (fun c9 => ?_) (fun c9 => ?_)
    · rw [if_pos c9] at h
      exact WX3_rowsToOrder_s32_188 C0 hk53 hk102 _ _ _ _ _ _ _ _ _ h hP hD hS (lv_sub hl [0, 1, 2, 3, 4, 5] rfl)
    · rw [if_neg c9] at h
      refine lv_aload_n hx hb dX3_rowsToOrder_122 rfl (lv_at hl 0 rfl) ?_
      refine lv_iload hx hb dX3_rowsToOrder_123 (lv_at hl 4 rfl) ?_
      refine lv_iload hx hb dX3_rowsToOrder_125 (lv_at hl 5 rfl) ?_
      obtain ⟨r4, q6, h5, h⟩ := dB_some h
      refine dw_ki (va_runV (As := [.int x4, .int x5]) (rest := []) ⟨hx, hb, hml, hown, hts⟩ (qX3_turned_s32 l D ty eo _ ad q3 x4 x5 r4 q6 h5) (cwV 2 hts gX3_rowsToOrder_X3_turned rfl rfl rfl (by decide +kernel) ⟨Nat.le_of_ble_eq_true rfl, Nat.le_of_ble_eq_true rfl⟩) (dw_preV (ci := 3) (q0 := 32) hK hN hE hP hD hS hA rfl rfl) rfl rfl hl.1 rfl (lv_room (Nat.le_of_ble_eq_true rfl)) dX3_rowsToOrder_127 ⟨Nat.le_of_ble_eq_true rfl, Nat.le_of_ble_eq_true rfl⟩) hD hS hA (fun r9 u9 H locs hw hp hd hs => ?_)
      clear hP hD hS
      obtain ⟨rfl, rfl⟩ := hw
      have hP := hp; have hD := hd; have hS := hs; clear hp hd hs
      refine lv_istore (lv' := [(6, .int r4), (0, .ref (ad 32)), (1, .int x1), (2, .int x2), (3, .int x3), (4, .int x4), (5, .int x5)]) hx hb dX3_rowsToOrder_130 hl (by decide) rfl (fun ls hl => ?_)
      refine lv_aload_n hx hb dX3_rowsToOrder_132 rfl (lv_at hl 1 rfl) ?_
      refine va_get (D := D) (ci := 3) (v := .ref (ad 43)) (C := RX3) (T := TX3) (N := 20) hx hb hts u9_wsX3_rowsToOrder_X3 hown hK hP 32 rfl rfl 10 (by decide) (hts (.fieldLink RX3 42 "TurnedFloors$Paper" "marks" "[I") f9_wsX3_rowsToOrder_808) (fun _ h9 => h9) rfl dX3_rowsToOrder_133 ?_
      refine lv_iload hx hb dX3_rowsToOrder_136 (lv_at hl 0 rfl) ?_
      obtain ⟨g7, h⟩ := dG_some h
      refine va_iald hx hb hK hP 43 0 rfl rfl (dg_in g7) dX3_rowsToOrder_138 ?_
      obtain ⟨v8, ev8, h⟩ := dL_some h
      refine kz_topi v8 ev8 ?_
      refine lv_if_ne (tgt := 161) hx hb dX3_rowsToOrder_139 (by decide) (fun c9 => ?_) (fun c9 => ?_)
      · rw [if_neg c9] at h
        exact WX3_rowsToOrder_s32_161 C0 hk53 hk102 _ _ _ _ _ _ _ _ _ _ h hP hD hS (lv_sub hl [1, 2, 3, 4, 5, 6, 0] rfl)
      · rw [if_pos c9] at h
        refine lv_iload_n hx hb dX3_rowsToOrder_142 rfl (lv_at hl 2 rfl) ?_
        refine lv_aload_n hx hb dX3_rowsToOrder_143 rfl (lv_at hl 1 rfl) ?_
        refine va_get (D := D) (ci := 3) (v := .int (q6.1 32 14)) (C := RX3) (T := TX3) (N := 20) hx hb hts u9_wsX3_rowsToOrder_X3 hown hK hP 32 rfl rfl 14 (by decide) (hts (.fieldLink RX3 55 "TurnedFloors$Paper" "size" "I") f9_wsX3_rowsToOrder_815) (fun _ h9 => h9) rfl dX3_rowsToOrder_144 ?_
        refine lv_icmp_ge (tgt := 161) hx hb dX3_rowsToOrder_147 (by decide) (fun c9 => ?_) (fun c9 => ?_)
        · rw [if_pos c9] at h
          exact WX3_rowsToOrder_s32_161 C0 hk53 hk102 _ _ _ _ _ _ _ _ _ _ h hP hD hS (lv_sub hl [1, 2, 3, 4, 5, 6, 0] rfl)
        · rw [if_neg c9] at h
          refine lv_aload_n hx hb dX3_rowsToOrder_150 rfl (lv_at hl 1 rfl) ?_
          refine va_get (D := D) (ci := 3) (v := .ref (ad 44)) (C := RX3) (T := TX3) (N := 20) hx hb hts u9_wsX3_rowsToOrder_X3 hown hK hP 32 rfl rfl 11 (by decide) (hts (.fieldLink RX3 45 "TurnedFloors$Paper" "line" "[I") f9_wsX3_rowsToOrder_816) (fun _ h9 => h9) rfl dX3_rowsToOrder_151 ?_
          refine lv_iload_n hx hb dX3_rowsToOrder_154 rfl (lv_at hl 2 rfl) ?_
          refine lv_iload hx hb dX3_rowsToOrder_155 (lv_at hl 0 rfl) ?_
          obtain ⟨g9, h⟩ := dG_some h
          refine va_iast hx hb hK hP hD hS 44 0 rfl rfl (dg_in g9) dX3_rowsToOrder_157 (fun H locs hp hd hs => ?_)
          obtain ⟨q10, eq10, h⟩ := dL_some h
          refine kz_re (w2 := wF ty ad q10) hp hd hs (by rw [← eq10]; exact wF_a44 ty ad q6 (Int32.toNatClampNeg x1) r4) ?_
          clear hp hd hs hP hD hS
          intro hP hD hS
          refine lv_iinc (v := x1 + 1) (lv' := [(1, .int (x1 + 1)), (6, .int r4), (0, .ref (ad 32)), (2, .int x2), (3, .int x3), (4, .int x4), (5, .int x5)]) hx hb dX3_rowsToOrder_158 hl (k := 2) rfl rfl (by decide) rfl (fun ls hl => ?_)
          exact WX3_rowsToOrder_s32_161 C0 hk53 hk102 _ _ _ _ _ _ _ _ _ _ h hP hD hS (lv_sub hl [2, 0, 3, 4, 5, 6, 1] rfl)
set_option maxHeartbeats 4000000 in
set_option maxRecDepth 100000 in
theorem WX3_rowsToOrder_s32_102 {p : Program} {l : Launch} {e : Env} {s : State} {m : MethodId} {args : Array Value} {below : List Frame} {meth : Method} {c : Code} {D : va_G} {ty : Nat → ClassId} {eo : Nat → Nat} {A : Nat → Prop} {ad : Nat → Nat} {o1 : Int32} {o2 : dK} (C : dc_C p s m args meth c cX3_rowsToOrder (some .int) 7 RX3 wsX3_rowsToOrder D ty eo A) {k53 : dK → Int32 → Int32 → Int32 → Option (Int32 × dK)} (hk53 : ∀ (q : dK) (x1 : Int32) (x2 : Int32) (x3 : Int32) (H : Heap) (locs : List Loc) (ls : Array Slot), k53 q x1 x2 x3 = some (o1, o2) → va_P D vwCl (wF ty ad q) H → va_D A (wF ty ad q) → va_S A s.heap H locs → lv_has ls 7 [(0, .ref (ad 32)), (1, .int x1), (2, .int x2), (3, .int x3)] → W p l e ({ frames := 3, cells := 0, slots := 0, locals := 72 } : Room) s m args below meth c H locs 0 0 (MQ below (va_Qi (fun (r : Int32) (u : va_W) => o1 = r ∧ wF ty ad o2 = u) (kz_B D ty A) A) args s 0 0 A) (F0 m 53 ls [])) (n : Nat) (q : dK) (x1 : Int32) (x2 : Int32) (x3 : Int32) (x4 : Int32) (x5 : Int32) (H : Heap) (locs : List Loc) (ls : Array Slot) (h : zX3_rowsToOrder_s32_102 k53 n q x1 x2 x3 x4 x5 = some (o1, o2)) (hP : va_P D vwCl (wF ty ad q) H) (hD : va_D A (wF ty ad q)) (hS : va_S A s.heap H locs) (hl : lv_has ls 7 [(0, .ref (ad 32)), (1, .int x1), (2, .int x2), (3, .int x3), (4, .int x4), (5, .int x5)]) : W p l e ({ frames := 3, cells := 0, slots := 0, locals := 72 } : Room) s m args below meth c H locs 0 0 (MQ below (va_Qi (fun (r : Int32) (u : va_W) => o1 = r ∧ wF ty ad o2 = u) (kz_B D ty A) A) args s 0 0 A) (F0 m 102 ls []) := by
  exact dFix_W (F := fun k (a : dK × Int32 × Int32 × Int32 × Int32 × Int32) => zX3_rowsToOrder_s32_102b k53 (fun q x1 x2 x3 x4 x5 => k (q, x1, x2, x3, x4, x5)) a.1 a.2.1 a.2.2.1 a.2.2.2.1 a.2.2.2.2.1 a.2.2.2.2.2) (o := (o1, o2)) (P := fun (a : dK × Int32 × Int32 × Int32 × Int32 × Int32) H locs ls => va_P D vwCl (wF ty ad a.1) H ∧ va_D A (wF ty ad a.1) ∧ va_S A s.heap H locs ∧ lv_has ls 7 [(0, .ref (ad 32)), (1, .int a.2.1), (2, .int a.2.2.1), (3, .int a.2.2.2.1), (4, .int a.2.2.2.2.1), (5, .int a.2.2.2.2.2)]) (G := fun H locs ls => W p l e ({ frames := 3, cells := 0, slots := 0, locals := 72 } : Room) s m args below meth c H locs 0 0 (MQ below (va_Qi (fun (r : Int32) (u : va_W) => o1 = r ∧ wF ty ad o2 = u) (kz_B D ty A) A) args s 0 0 A) (F0 m 102 ls []))
    (fun k hk a H locs ls h hp => WX3_rowsToOrder_s32_102b C hk53 (fun q x1 x2 x3 x4 x5 H locs ls h h1 h2 h3 h4 => hk (q, x1, x2, x3, x4, x5) H locs ls h ⟨h1, h2, h3, h4⟩) a.1 a.2.1 a.2.2.1 a.2.2.2.1 a.2.2.2.2.1 a.2.2.2.2.2 H locs ls h hp.1 hp.2.1 hp.2.2.1 hp.2.2.2) n (q, x1, x2, x3, x4, x5) H locs ls h ⟨hP, hD, hS, hl⟩
set_option maxHeartbeats 4000000 in
set_option maxRecDepth 100000 in
theorem WX3_rowsToOrder_s32_99 {p : Program} {l : Launch} {e : Env} {s : State} {m : MethodId} {args : Array Value} {below : List Frame} {meth : Method} {c : Code} {D : va_G} {ty : Nat → ClassId} {eo : Nat → Nat} {A : Nat → Prop} {ad : Nat → Nat} {o1 : Int32} {o2 : dK} (C : dc_C p s m args meth c cX3_rowsToOrder (some .int) 7 RX3 wsX3_rowsToOrder D ty eo A) {k53 : dK → Int32 → Int32 → Int32 → Option (Int32 × dK)} (hk53 : ∀ (q : dK) (x1 : Int32) (x2 : Int32) (x3 : Int32) (H : Heap) (locs : List Loc) (ls : Array Slot), k53 q x1 x2 x3 = some (o1, o2) → va_P D vwCl (wF ty ad q) H → va_D A (wF ty ad q) → va_S A s.heap H locs → lv_has ls 7 [(0, .ref (ad 32)), (1, .int x1), (2, .int x2), (3, .int x3)] → W p l e ({ frames := 3, cells := 0, slots := 0, locals := 72 } : Room) s m args below meth c H locs 0 0 (MQ below (va_Qi (fun (r : Int32) (u : va_W) => o1 = r ∧ wF ty ad o2 = u) (kz_B D ty A) A) args s 0 0 A) (F0 m 53 ls [])) (q : dK) (x1 : Int32) (x2 : Int32) (x3 : Int32) (x4 : Int32) (H : Heap) (locs : List Loc) (ls : Array Slot) (h : zX3_rowsToOrder_s32_99 k53 q x1 x2 x3 x4 = some (o1, o2)) (hP : va_P D vwCl (wF ty ad q) H) (hD : va_D A (wF ty ad q)) (hS : va_S A s.heap H locs) (hl : lv_has ls 7 [(0, .ref (ad 32)), (1, .int x1), (2, .int x2), (3, .int x3), (4, .int x4)]) : W p l e ({ frames := 3, cells := 0, slots := 0, locals := 72 } : Room) s m args below meth c H locs 0 0 (MQ below (va_Qi (fun (r : Int32) (u : va_W) => o1 = r ∧ wF ty ad o2 = u) (kz_B D ty A) A) args s 0 0 A) (F0 m 99 ls []) := by
  have C0 := C
  obtain ⟨hx, hb, hr, hts, hown, hlocks, hml, hK, hN, hE, hA⟩ := C
  unfold zX3_rowsToOrder_s32_99 at h
  refine lv_iconst (v := 1) hx hb dX3_rowsToOrder_99 (by decide) ?_
  refine lv_istore (lv' := [(5, .int 1), (0, .ref (ad 32)), (1, .int x1), (2, .int x2), (3, .int x3), (4, .int x4)]) hx hb dX3_rowsToOrder_100 hl (by decide) rfl (fun ls hl => ?_)
  exact WX3_rowsToOrder_s32_102 C0 hk53 _ _ _ _ _ _ _ _ _ _ h hP hD hS (lv_sub hl [1, 2, 3, 4, 5, 0] rfl)
set_option maxHeartbeats 4000000 in
set_option maxRecDepth 100000 in
theorem WX3_rowsToOrder_s32_53b {p : Program} {l : Launch} {e : Env} {s : State} {m : MethodId} {args : Array Value} {below : List Frame} {meth : Method} {c : Code} {D : va_G} {ty : Nat → ClassId} {eo : Nat → Nat} {A : Nat → Prop} {ad : Nat → Nat} {o1 : Int32} {o2 : dK} (C : dc_C p s m args meth c cX3_rowsToOrder (some .int) 7 RX3 wsX3_rowsToOrder D ty eo A) {k53 : dK → Int32 → Int32 → Int32 → Option (Int32 × dK)} (hk53 : ∀ (q : dK) (x1 : Int32) (x2 : Int32) (x3 : Int32) (H : Heap) (locs : List Loc) (ls : Array Slot), k53 q x1 x2 x3 = some (o1, o2) → va_P D vwCl (wF ty ad q) H → va_D A (wF ty ad q) → va_S A s.heap H locs → lv_has ls 7 [(0, .ref (ad 32)), (1, .int x1), (2, .int x2), (3, .int x3)] → W p l e ({ frames := 3, cells := 0, slots := 0, locals := 72 } : Room) s m args below meth c H locs 0 0 (MQ below (va_Qi (fun (r : Int32) (u : va_W) => o1 = r ∧ wF ty ad o2 = u) (kz_B D ty A) A) args s 0 0 A) (F0 m 53 ls [])) (q : dK) (x1 : Int32) (x2 : Int32) (x3 : Int32) (H : Heap) (locs : List Loc) (ls : Array Slot) (h : zX3_rowsToOrder_s32_53b k53 q x1 x2 x3 = some (o1, o2)) (hP : va_P D vwCl (wF ty ad q) H) (hD : va_D A (wF ty ad q)) (hS : va_S A s.heap H locs) (hl : lv_has ls 7 [(0, .ref (ad 32)), (1, .int x1), (2, .int x2), (3, .int x3)]) : W p l e ({ frames := 3, cells := 0, slots := 0, locals := 72 } : Room) s m args below meth c H locs 0 0 (MQ below (va_Qi (fun (r : Int32) (u : va_W) => o1 = r ∧ wF ty ad o2 = u) (kz_B D ty A) A) args s 0 0 A) (F0 m 53 ls []) := by
  have C0 := C
  obtain ⟨hx, hb, hr, hts, hown, hlocks, hml, hK, hN, hE, hA⟩ := C
  unfold zX3_rowsToOrder_s32_53b at h
  refine lv_iload_n hx hb dX3_rowsToOrder_53 rfl (lv_at hl 3 rfl) ?_
  refine lv_aload_n hx hb dX3_rowsToOrder_54 rfl (lv_at hl 0 rfl) ?_
  refine va_get (D := D) (ci := 3) (v := .int (q.1 32 14)) (C := RX3) (T := TX3) (N := 20) hx hb hts u9_wsX3_rowsToOrder_X3 hown hK hP 32 rfl rfl 14 (by decide) (hts (.fieldLink RX3 55 "TurnedFloors$Paper" "size" "I") f9_wsX3_rowsToOrder_815) (fun _ h9 => h9) rfl dX3_rowsToOrder_55 ?_
  refine lv_icmp_ge (tgt := 200) hx hb dX3_rowsToOrder_58 (by decide) (fun c9 => ?_) (fun c9 => ?_)
  · rw [if_pos c9] at h
    exact WX3_rowsToOrder_s32_200 C0  _ _ _ _ _ h hP hD hS (lv_sub hl [2] rfl)
  · rw [if_neg c9] at h
    refine lv_iload_n hx hb dX3_rowsToOrder_61 rfl (lv_at hl 3 rfl) ?_
    refine lv_iload_n hx hb dX3_rowsToOrder_62 rfl (lv_at hl 1 rfl) ?_
    refine lv_icmp_ge (tgt := 200) hx hb dX3_rowsToOrder_63 (by decide) (fun c9 => ?_) (fun c9 => ?_)
    · rw [if_pos c9] at h
      exact WX3_rowsToOrder_s32_200 C0  _ _ _ _ _ h hP hD hS (lv_sub hl [2] rfl)
    · rw [if_neg c9] at h
      refine lv_aload_n hx hb dX3_rowsToOrder_66 rfl (lv_at hl 0 rfl) ?_
      refine va_get (D := D) (ci := 3) (v := .ref (ad 44)) (C := RX3) (T := TX3) (N := 20) hx hb hts u9_wsX3_rowsToOrder_X3 hown hK hP 32 rfl rfl 11 (by decide) (hts (.fieldLink RX3 45 "TurnedFloors$Paper" "line" "[I") f9_wsX3_rowsToOrder_816) (fun _ h9 => h9) rfl dX3_rowsToOrder_67 ?_
      refine lv_iload_n hx hb dX3_rowsToOrder_70 rfl (lv_at hl 3 rfl) ?_
      obtain ⟨g1, h⟩ := dG_some h
      refine va_iald hx hb hK hP 44 0 rfl rfl (dg_in g1) dX3_rowsToOrder_71 ?_
      obtain ⟨v2, ev2, h⟩ := dL_some h
      refine kz_topi v2 ev2 ?_
      refine lv_istore (lv' := [(4, .int v2), (0, .ref (ad 32)), (1, .int x1), (2, .int x2), (3, .int x3)]) hx hb dX3_rowsToOrder_72 hl (by decide) rfl (fun ls hl => ?_)
      refine lv_aload_n hx hb dX3_rowsToOrder_74 rfl (lv_at hl 1 rfl) ?_
      refine va_get (D := D) (ci := 3) (v := .ref (ad 42)) (C := RX3) (T := TX3) (N := 20) hx hb hts u9_wsX3_rowsToOrder_X3 hown hK hP 32 rfl rfl 9 (by decide) (hts (.fieldLink RX3 39 "TurnedFloors$Paper" "toOrder" "[I") f9_wsX3_rowsToOrder_817) (fun _ h9 => h9) rfl dX3_rowsToOrder_75 ?_
      refine lv_iload hx hb dX3_rowsToOrder_78 (lv_at hl 0 rfl) ?_
      obtain ⟨g3, h⟩ := dG_some h
      refine va_iald hx hb hK hP 42 0 rfl rfl (dg_in g3) dX3_rowsToOrder_80 ?_
      obtain ⟨v4, ev4, h⟩ := dL_some h
      refine kz_topi v4 ev4 ?_
      refine lv_if_ne (tgt := 99) hx hb dX3_rowsToOrder_81 (by decide) (fun c9 => ?_) (fun c9 => ?_)
      · rw [if_neg c9] at h
        exact WX3_rowsToOrder_s32_99 C0 hk53 _ _ _ _ _ _ _ _ h hP hD hS (lv_sub hl [1, 2, 3, 4, 0] rfl)
      · rw [if_pos c9] at h
        refine lv_ldc (v := 1000000000) hx hb hown (hts (.constant RX3 128 1000000000) f9_wsX3_rowsToOrder_809) dX3_rowsToOrder_84 ?_
        refine lv_iload_n hx hb dX3_rowsToOrder_86 rfl (lv_at hl 3 rfl) ?_
        refine lv_aload_n hx hb dX3_rowsToOrder_87 rfl (lv_at hl 1 rfl) ?_
        refine va_get (D := D) (ci := 3) (v := .ref (ad 43)) (C := RX3) (T := TX3) (N := 20) hx hb hts u9_wsX3_rowsToOrder_X3 hown hK hP 32 rfl rfl 10 (by decide) (hts (.fieldLink RX3 42 "TurnedFloors$Paper" "marks" "[I") f9_wsX3_rowsToOrder_808) (fun _ h9 => h9) rfl dX3_rowsToOrder_88 ?_
        refine lv_iload hx hb dX3_rowsToOrder_91 (lv_at hl 0 rfl) ?_
        obtain ⟨g5, h⟩ := dG_some h
        refine va_iald hx hb hK hP 43 0 rfl rfl (dg_in g5) dX3_rowsToOrder_93 ?_
        obtain ⟨v6, ev6, h⟩ := dL_some h
        refine kz_topi v6 ev6 ?_
        refine lv_iadd hx hb dX3_rowsToOrder_94 ?_
        refine va_mmin hx hb (hml.trans hl.1.symm) hown (hts (.methodLink RX3 100 Lib.Math.min.name) f9_wsX3_rowsToOrder_810) (hts (.static Lib.Math.min.name) f9_wsX3_rowsToOrder_811) (hts (.initialized "java/lang/Math") f9_wsX3_rowsToOrder_812) (hts (.code Lib.Math.min.name Lib.Math.min.code 2 (some .int)) f9_wsX3_rowsToOrder_813) (Nat.le_of_ble_eq_true rfl) (Nat.le_of_ble_eq_true rfl) (Nat.le_of_ble_eq_true rfl) (Nat.le_of_ble_eq_true rfl) dX3_rowsToOrder_95 ?_
        refine kz_topi (mnI 1000000000 (x2 + v6)) rfl ?_
        refine lv_istore_n (lv' := [(2, .int (mnI 1000000000 (x2 + v6))), (4, .int v2), (0, .ref (ad 32)), (1, .int x1), (3, .int x3)]) hx hb dX3_rowsToOrder_98 rfl hl (by decide) rfl (fun ls hl => ?_)
        exact WX3_rowsToOrder_s32_99 C0 hk53 _ _ _ _ _ _ _ _ h hP hD hS (lv_sub hl [2, 3, 0, 4, 1] rfl)
set_option maxHeartbeats 4000000 in
set_option maxRecDepth 100000 in
theorem WX3_rowsToOrder_s32_53 {p : Program} {l : Launch} {e : Env} {s : State} {m : MethodId} {args : Array Value} {below : List Frame} {meth : Method} {c : Code} {D : va_G} {ty : Nat → ClassId} {eo : Nat → Nat} {A : Nat → Prop} {ad : Nat → Nat} {o1 : Int32} {o2 : dK} (C : dc_C p s m args meth c cX3_rowsToOrder (some .int) 7 RX3 wsX3_rowsToOrder D ty eo A)   (n : Nat) (q : dK) (x1 : Int32) (x2 : Int32) (x3 : Int32) (H : Heap) (locs : List Loc) (ls : Array Slot) (h : zX3_rowsToOrder_s32_53  n q x1 x2 x3 = some (o1, o2)) (hP : va_P D vwCl (wF ty ad q) H) (hD : va_D A (wF ty ad q)) (hS : va_S A s.heap H locs) (hl : lv_has ls 7 [(0, .ref (ad 32)), (1, .int x1), (2, .int x2), (3, .int x3)]) : W p l e ({ frames := 3, cells := 0, slots := 0, locals := 72 } : Room) s m args below meth c H locs 0 0 (MQ below (va_Qi (fun (r : Int32) (u : va_W) => o1 = r ∧ wF ty ad o2 = u) (kz_B D ty A) A) args s 0 0 A) (F0 m 53 ls []) := by
  exact dFix_W (F := fun k (a : dK × Int32 × Int32 × Int32) => zX3_rowsToOrder_s32_53b  (fun q x1 x2 x3 => k (q, x1, x2, x3)) a.1 a.2.1 a.2.2.1 a.2.2.2) (o := (o1, o2)) (P := fun (a : dK × Int32 × Int32 × Int32) H locs ls => va_P D vwCl (wF ty ad a.1) H ∧ va_D A (wF ty ad a.1) ∧ va_S A s.heap H locs ∧ lv_has ls 7 [(0, .ref (ad 32)), (1, .int a.2.1), (2, .int a.2.2.1), (3, .int a.2.2.2)]) (G := fun H locs ls => W p l e ({ frames := 3, cells := 0, slots := 0, locals := 72 } : Room) s m args below meth c H locs 0 0 (MQ below (va_Qi (fun (r : Int32) (u : va_W) => o1 = r ∧ wF ty ad o2 = u) (kz_B D ty A) A) args s 0 0 A) (F0 m 53 ls []))
    (fun k hk a H locs ls h hp => WX3_rowsToOrder_s32_53b C  (fun q x1 x2 x3 H locs ls h h1 h2 h3 h4 => hk (q, x1, x2, x3) H locs ls h ⟨h1, h2, h3, h4⟩) a.1 a.2.1 a.2.2.1 a.2.2.2 H locs ls h hp.1 hp.2.1 hp.2.2.1 hp.2.2.2) n (q, x1, x2, x3) H locs ls h ⟨hP, hD, hS, hl⟩
set_option maxHeartbeats 4000000 in
set_option maxRecDepth 100000 in
theorem qX3_rowsToOrder_s32 (l : Launch) (D : va_G) (ty : Nat → ClassId) (eo : Nat → Nat) (sz : Nat) (ad : Nat → Nat) (q : dK)  (o1 : Int32) (o2 : dK) (h : zX3_rowsToOrder_s32 q = some (o1, o2)) : Met l yX3_rowsToOrder wsX3_rowsToOrder ({ frames := 3, cells := 0, slots := 0, locals := 72 } : Room) (va_Pc [.ref (ad 32)] (kz_pre D ty eo (wF ty ad q) sz)) (va_Qi (fun (r : Int32) (u : va_W) => o1 = r ∧ wF ty ad o2 = u) (kz_B D ty (va_A (wF ty ad q) sz)) (va_A (wF ty ad q) sz)) 0 0 (va_A (wF ty ad q) sz) := by
  refine Met.ofW (cc := cX3_rowsToOrder) (maxL := 7) (ret := (some .int)) (by decide) rfl ?_
  intro p e s m args below meth c s₁ B hml hv
  obtain ⟨rfl, hsz, hP, hK, hD0, hN, hE⟩ := hv
  have hx := B.exec
  have hb := B.bytes
  have hr := B.returns
  have hts := atoms_spec (ws := wsX3_rowsToOrder) B.pre
  have hown : s.vm.findClass RX3 = some m.cls := findClass_of_methodNamed B.named
  have hlocks := B.notSynchronized
  subst hsz
  have hD := hD0.self (sz := s.heap.size)
  generalize hAe : va_A (wF ty ad q) s.heap.size = A at hD hE ⊢
  have hA : ∀ q : Nat, s.heap.size ≤ q → A q := fun q h => by rw [← hAe]; exact Or.inr h
  clear hAe
  have hS : va_S A s.heap s.heap [] := va_S.rf
  have hl := lv_entry ([.ref (ad 32)]) (n := 7) (Nat.le_of_ble_eq_true rfl)
  rw [lg_entry_eq]
  generalize (lg_sl ([.ref (ad 32)]) ++ List.replicate (7 - (lg_sl ([.ref (ad 32)])).length) Slot.unset).toArray = ls at hl ⊢
  have hl : lv_has ls 7 [(0, .ref (ad 32))] := hl
  have C : dc_C p s m _ meth c cX3_rowsToOrder (some .int) 7 RX3 wsX3_rowsToOrder D ty eo A := ⟨hx, hb, hr, hts, hown, hlocks, hml, hK, hN, hE, hA⟩
  unfold zX3_rowsToOrder_s32 at h
  refine lv_aload_n hx hb dX3_rowsToOrder_0 rfl (lv_at hl 0 rfl) ?_
  obtain ⟨q3, h2, h⟩ := dV_some h
  refine dw_kv (va_runV (As := []) (rest := []) ⟨hx, hb, hml, hown, hts⟩ (qX3_measure_s32 l D ty eo _ ad q  q3 h2) (cwV 0 hts gX3_rowsToOrder_X3_measure rfl rfl rfl (by decide +kernel) ⟨Nat.le_of_ble_eq_true rfl, Nat.le_of_ble_eq_true rfl⟩) (dw_preV (ci := 3) (q0 := 32) hK hN hE hP hD hS hA rfl rfl) rfl rfl hl.1 rfl (lv_room (Nat.le_of_ble_eq_true rfl)) dX3_rowsToOrder_1 ⟨Nat.le_of_ble_eq_true rfl, Nat.le_of_ble_eq_true rfl⟩) hD hS hA (fun u9 H locs hw hp hd hs => ?_)
  clear hP hD hS
  obtain rfl := hw
  have hP := hp; have hD := hd; have hS := hs; clear hp hd hs
  refine lv_aload_n hx hb dX3_rowsToOrder_4 rfl (lv_at hl 0 rfl) ?_
  refine va_get (D := D) (ci := 3) (v := .ref (ad 42)) (C := RX3) (T := TX3) (N := 20) hx hb hts u9_wsX3_rowsToOrder_X3 hown hK hP 32 rfl rfl 9 (by decide) (hts (.fieldLink RX3 39 "TurnedFloors$Paper" "toOrder" "[I") f9_wsX3_rowsToOrder_817) (fun _ h9 => h9) rfl dX3_rowsToOrder_5 ?_
  refine lv_aload_n hx hb dX3_rowsToOrder_8 rfl (lv_at hl 0 rfl) ?_
  refine va_get (D := D) (ci := 3) (v := .int (q3.1 32 15)) (C := RX3) (T := TX3) (N := 20) hx hb hts u9_wsX3_rowsToOrder_X3 hown hK hP 32 rfl rfl 15 (by decide) (hts (.fieldLink RX3 58 "TurnedFloors$Paper" "start" "I") f9_wsX3_rowsToOrder_818) (fun _ h9 => h9) rfl dX3_rowsToOrder_9 ?_
  obtain ⟨g4, h⟩ := dG_some h
  refine va_iald hx hb hK hP 42 0 rfl rfl (dg_in g4) dX3_rowsToOrder_12 ?_
  obtain ⟨v5, ev5, h⟩ := dL_some h
  refine kz_topi v5 ev5 ?_
  refine lv_iconst (v := (-1)) hx hb dX3_rowsToOrder_13 (by decide) ?_
  refine lv_icmp_ne (tgt := 19) hx hb dX3_rowsToOrder_14 (by decide) (fun c9 => ?_) (fun c9 => ?_)
  · rw [if_neg c9] at h
    refine lv_aload_n hx hb dX3_rowsToOrder_19 rfl (lv_at hl 0 rfl) ?_
    refine va_get (D := D) (ci := 3) (v := .ref (ad 43)) (C := RX3) (T := TX3) (N := 20) hx hb hts u9_wsX3_rowsToOrder_X3 hown hK hP 32 rfl rfl 10 (by decide) (hts (.fieldLink RX3 42 "TurnedFloors$Paper" "marks" "[I") f9_wsX3_rowsToOrder_808) (fun _ h9 => h9) rfl dX3_rowsToOrder_20 ?_
    refine lv_iconst (v := 0) hx hb dX3_rowsToOrder_23 (by decide) ?_
    refine dw_kv1 (j := 43) rfl (va_runS (As := [.ref (ad 43), .int 0]) (rest := []) ⟨hx, hb, hml, hown, hts⟩ (cJ7_fillI l D ty eo _ (ad 43) (Int32.toNatClampNeg (q3.1 32 104)) _ 0 (cl_lt _)) (va_cwS 2 hts gX3_rowsToOrder_J7_fill_53178 rfl rfl rfl (by decide +kernel) ⟨Nat.le_of_ble_eq_true rfl, Nat.le_of_ble_eq_true rfl⟩) (kz_preS hK hN hE hP hD hS hA [43] (by decide) rfl) rfl rfl hl.1 rfl (lv_room (Nat.le_of_ble_eq_true rfl)) dX3_rowsToOrder_24 ⟨Nat.le_of_ble_eq_true rfl, Nat.le_of_ble_eq_true rfl⟩) hP hD hS hA (fun u9 h9 => h9.symm) (fun H locs hp hd hs => ?_)
    obtain ⟨q6, eq6, h⟩ := dL_some h
    refine kz_re (w2 := wF ty ad q6) hp hd hs (by rw [← eq6]; exact rfl) ?_
    clear hp hd hs hP hD hS
    intro hP hD hS
    refine lv_aload_n hx hb dX3_rowsToOrder_27 rfl (lv_at hl 0 rfl) ?_
    refine va_get (D := D) (ci := 3) (v := .ref (ad 43)) (C := RX3) (T := TX3) (N := 20) hx hb hts u9_wsX3_rowsToOrder_X3 hown hK hP 32 rfl rfl 10 (by decide) (hts (.fieldLink RX3 42 "TurnedFloors$Paper" "marks" "[I") f9_wsX3_rowsToOrder_808) (fun _ h9 => h9) rfl dX3_rowsToOrder_28 ?_
    refine lv_aload_n hx hb dX3_rowsToOrder_31 rfl (lv_at hl 0 rfl) ?_
    refine va_get (D := D) (ci := 3) (v := .int (q6.1 32 15)) (C := RX3) (T := TX3) (N := 20) hx hb hts u9_wsX3_rowsToOrder_X3 hown hK hP 32 rfl rfl 15 (by decide) (hts (.fieldLink RX3 58 "TurnedFloors$Paper" "start" "I") f9_wsX3_rowsToOrder_818) (fun _ h9 => h9) rfl dX3_rowsToOrder_32 ?_
    refine lv_iconst (v := 1) hx hb dX3_rowsToOrder_35 (by decide) ?_
    obtain ⟨g7, h⟩ := dG_some h
    refine va_iast hx hb hK hP hD hS 43 0 rfl rfl (dg_in g7) dX3_rowsToOrder_36 (fun H locs hp hd hs => ?_)
    obtain ⟨q8, eq8, h⟩ := dL_some h
    refine kz_re (w2 := wF ty ad q8) hp hd hs (by rw [← eq8]; exact wF_a43 ty ad q6 (Int32.toNatClampNeg (q6.1 32 15)) 1) ?_
    clear hp hd hs hP hD hS
    intro hP hD hS
    refine lv_aload_n hx hb dX3_rowsToOrder_37 rfl (lv_at hl 0 rfl) ?_
    refine va_get (D := D) (ci := 3) (v := .ref (ad 44)) (C := RX3) (T := TX3) (N := 20) hx hb hts u9_wsX3_rowsToOrder_X3 hown hK hP 32 rfl rfl 11 (by decide) (hts (.fieldLink RX3 45 "TurnedFloors$Paper" "line" "[I") f9_wsX3_rowsToOrder_816) (fun _ h9 => h9) rfl dX3_rowsToOrder_38 ?_
    refine lv_iconst (v := 0) hx hb dX3_rowsToOrder_41 (by decide) ?_
    refine lv_aload_n hx hb dX3_rowsToOrder_42 rfl (lv_at hl 0 rfl) ?_
    refine va_get (D := D) (ci := 3) (v := .int (q8.1 32 15)) (C := RX3) (T := TX3) (N := 20) hx hb hts u9_wsX3_rowsToOrder_X3 hown hK hP 32 rfl rfl 15 (by decide) (hts (.fieldLink RX3 58 "TurnedFloors$Paper" "start" "I") f9_wsX3_rowsToOrder_818) (fun _ h9 => h9) rfl dX3_rowsToOrder_43 ?_
    obtain ⟨g9, h⟩ := dG_some h
    refine va_iast hx hb hK hP hD hS 44 0 rfl rfl (dg_in g9) dX3_rowsToOrder_46 (fun H locs hp hd hs => ?_)
    obtain ⟨q10, eq10, h⟩ := dL_some h
    refine kz_re (w2 := wF ty ad q10) hp hd hs (by rw [(by decide +kernel : Int32.toNatClampNeg 0 = 0), ← eq10]; exact wF_a44 ty ad q8 0 (q8.1 32 15)) ?_
    clear hp hd hs hP hD hS
    intro hP hD hS
    refine lv_iconst (v := 1) hx hb dX3_rowsToOrder_47 (by decide) ?_
    refine lv_istore_n (lv' := [(1, .int 1), (0, .ref (ad 32))]) hx hb dX3_rowsToOrder_48 rfl hl (by decide) rfl (fun ls hl => ?_)
    refine lv_iconst (v := 0) hx hb dX3_rowsToOrder_49 (by decide) ?_
    refine lv_istore_n (lv' := [(2, .int 0), (1, .int 1), (0, .ref (ad 32))]) hx hb dX3_rowsToOrder_50 rfl hl (by decide) rfl (fun ls hl => ?_)
    refine lv_iconst (v := 0) hx hb dX3_rowsToOrder_51 (by decide) ?_
    refine lv_istore_n (lv' := [(3, .int 0), (2, .int 0), (1, .int 1), (0, .ref (ad 32))]) hx hb dX3_rowsToOrder_52 rfl hl (by decide) rfl (fun ls hl => ?_)
    exact WX3_rowsToOrder_s32_53 C  _ _ _ _ _ _ _ _ h hP hD hS (lv_sub hl [3, 2, 1, 0] rfl)
  · rw [if_pos c9] at h
    refine lv_iconst (v := 0) hx hb dX3_rowsToOrder_17 (by decide) ?_
    cases h
    exact kz_iret hx hb hr hlocks hP hK hD hS dX3_rowsToOrder_18 ⟨rfl, rfl⟩

set_option maxHeartbeats 4000000 in
set_option maxRecDepth 100000 in
theorem qX9_many_s0 (l : Launch) (D : va_G) (ty : Nat → ClassId) (eo : Nat → Nat) (sz : Nat) (ad : Nat → Nat) (nc ns : Nat) (q : dK)  (o1 : Int32) (o2 : dK) (h : zX9_many_s0 nc ns q = some (o1, o2)) : Met l yX9_many wsX9_many ({ frames := 6, cells := nc, slots := ns, locals := 160 } : Room) (va_Pc [.ref (ad 0)] (kz_pre D ty eo (wF ty ad q) sz)) (va_Qi (fun (r : Int32) (u : va_W) => o1 = r ∧ ∃ ad9 : Nat → Nat, dAg ad ad9 ∧ wF ty ad9 o2 = u) (kz_B D ty (va_A (wF ty ad q) sz)) (va_A (wF ty ad q) sz)) nc ns (va_A (wF ty ad q) sz) := by
  have hag : dAg ad ad := fun _ _ => rfl
  refine Met.ofW (cc := cX9_many) (maxL := 1) (ret := (some .int)) (by decide) rfl ?_
  intro p e s m args below meth c s₁ B hml hv
  obtain ⟨rfl, hsz, hP, hK, hD0, hN, hE⟩ := hv
  have hx := B.exec
  have hb := B.bytes
  have hr := B.returns
  have hts := atoms_spec (ws := wsX9_many) B.pre
  have hown : s.vm.findClass RX9 = some m.cls := findClass_of_methodNamed B.named
  have hlocks := B.notSynchronized
  subst hsz
  have hD := hD0.self (sz := s.heap.size)
  generalize hAe : va_A (wF ty ad q) s.heap.size = A at hD hE ⊢
  have hA : ∀ q : Nat, s.heap.size ≤ q → A q := fun q h => by rw [← hAe]; exact Or.inr h
  clear hAe
  have hS : va_S A s.heap s.heap [] := va_S.rf
  have hl := lv_entry ([.ref (ad 0)]) (n := 1) (Nat.le_of_ble_eq_true rfl)
  rw [lg_entry_eq]
  generalize (lg_sl ([.ref (ad 0)]) ++ List.replicate (1 - (lg_sl ([.ref (ad 0)])).length) Slot.unset).toArray = ls at hl ⊢
  have hl : lv_has ls 1 [(0, .ref (ad 0))] := hl
  have C : dc_C p s m _ meth c cX9_many (some .int) 1 RX9 wsX9_many D ty eo A := ⟨hx, hb, hr, hts, hown, hlocks, hml, hK, hN, hE, hA⟩
  unfold zX9_many_s0 at h
  refine lv_aload_n hx hb dX9_many_0 rfl (lv_at hl 0 rfl) ?_
  refine lv_aload_n hx hb dX9_many_1 rfl (lv_at hl 0 rfl) ?_
  obtain ⟨q3, h2, h⟩ := dV_some h
  refine dw_kq (va_runV (As := []) (rest := [.ref (ad 0)]) ⟨hx, hb, hml, hown, hts⟩ (qX9_seated_s0 l D ty eo _ ad q  q3 h2) (cwV 0 hts gX9_many_X9_seated rfl rfl rfl (by decide +kernel) ⟨Nat.le_of_ble_eq_true rfl, Nat.le_of_ble_eq_true rfl⟩) (dw_preV (ci := 9) (q0 := 0) hK hN hE hP hD hS hA rfl rfl) rfl rfl hl.1 rfl (lv_room (Nat.le_of_ble_eq_true rfl)) dX9_many_2 ⟨Nat.zero_le _, Nat.zero_le _⟩) hP hD hS hA (fun r9 u9 H locs hw hp hd hs => ?_)
  clear hP hD hS
  obtain ⟨rfl, rfl⟩ := hw
  have hP := hp; have hD := hd; have hS := hs; clear hp hd hs
  obtain ⟨q6, h5, h⟩ := dV_some h
  refine dw_kv (va_runV (As := [.ref (ad 20)]) (rest := []) ⟨hx, hb, hml, hown, hts⟩ (qX9_spread_s0_s20 l D ty eo _ ad nc ns q3  q6 h5) (cwV 1 hts gX9_many_X9_spread rfl rfl rfl (by decide +kernel) ⟨Nat.le_of_ble_eq_true rfl, Nat.le_of_ble_eq_true rfl⟩) (dw_preV (ci := 9) (q0 := 0) hK hN hE hP hD hS hA rfl rfl) rfl rfl hl.1 rfl (lv_room (Nat.le_of_ble_eq_true rfl)) dX9_many_5 ⟨by show 0 + nc ≤ nc; omega, by show 0 + ns ≤ ns; omega⟩) hD hS hA (fun u9 H locs hw hp hd hs => ?_)
  clear hP hD hS
  obtain ⟨ad, hag1, rfl⟩ := hw
  replace hag := dAg_t hag hag1
  rw [dAg_s hag1 0 (by decide)] at hl
  clear hag1
  refine dw_up (c2 := nc) (s2 := ns) (by omega) (by omega) ?_
  have hP := hp; have hD := hd; have hS := hs; clear hp hd hs
  refine lv_aload_n hx hb dX9_many_8 rfl (lv_at hl 0 rfl) ?_
  refine va_get (D := D) (ci := 9) (v := .ref (ad 32)) (C := RX9) (T := TX9) (N := 19) hx hb hts u9_wsX9_many_X9 hown hK hP 0 rfl rfl 10 (by decide) (hts (.fieldLink RX9 80 "TurnedFloors" "paper" "LTurnedFloors$Paper;") f9_wsX9_many_820) (fun _ h9 => h9) rfl dX9_many_9 ?_
  obtain ⟨r7, q9, h8, h⟩ := dB_some h
  refine dw_ki (va_runV (As := []) (rest := []) ⟨hx, hb, hml, hown, hts⟩ (qX3_rowsToOrder_s32 l D ty eo _ ad q6  r7 q9 h8) (cwV 0 hts gX9_many_X3_rowsToOrder rfl rfl rfl (by decide +kernel) ⟨Nat.le_of_ble_eq_true rfl, Nat.le_of_ble_eq_true rfl⟩) (dw_preV (ci := 3) (q0 := 32) hK hN hE hP hD hS hA rfl rfl) rfl rfl hl.1 rfl (lv_room (Nat.le_of_ble_eq_true rfl)) dX9_many_12 ⟨Nat.le_refl _, Nat.le_refl _⟩) hD hS hA (fun r9 u9 H locs hw hp hd hs => ?_)
  clear hP hD hS
  obtain ⟨rfl, rfl⟩ := hw
  have hP := hp; have hD := hd; have hS := hs; clear hp hd hs
  cases h
  exact kz_iret hx hb hr hlocks hP hK hD hS dX9_many_15 ⟨rfl, ad, hag, rfl⟩
