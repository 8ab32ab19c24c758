theorem u9_wsX10_yearPasses_X10 : ∀ w ∈ u_ws RX10 TX10 56, w ∈ wsX10_yearPasses := by
  first | exact fun w h => List.mem_cons_of_mem _ (List.mem_append_right _ h) | decide +kernel
theorem f9_wsX10_yearPasses_160 : (Cond.fieldLink RX10 66 "TurnedFloorsModel" "tipping" "[Z") ∈ wsX10_yearPasses := by decide +kernel
theorem f9_wsX10_yearPasses_161 : (Cond.fieldLink RX10 28 "TurnedFloorsModel" "kept" "[I") ∈ wsX10_yearPasses := by decide +kernel
theorem u9_wsX10_keeps_X10 : ∀ w ∈ u_ws RX10 TX10 56, w ∈ wsX10_keeps := by
  first | exact fun w h => List.mem_cons_of_mem _ (List.mem_append_right _ h) | decide +kernel
theorem f9_wsX10_keeps_163 : (Cond.fieldLink RX10 69 "TurnedFloorsModel" "left0" "[I") ∈ wsX10_keeps := by decide +kernel
theorem f9_wsX10_keeps_164 : (Cond.fieldLink RX10 11 "TurnedFloorsModel" "undoMany" "I") ∈ wsX10_keeps := by decide +kernel
theorem f9_wsX10_keeps_165 : (Cond.fieldLink RX10 28 "TurnedFloorsModel" "kept" "[I") ∈ wsX10_keeps := by decide +kernel
theorem u9_wsX10_undo_X10 : ∀ w ∈ u_ws RX10 TX10 56, w ∈ wsX10_undo := by
  first | exact fun w h => List.mem_cons_of_mem _ (List.mem_append_right _ h) | decide +kernel
theorem f9_wsX10_undo_167 : (Cond.fieldLink RX10 69 "TurnedFloorsModel" "left0" "[I") ∈ wsX10_undo := by decide +kernel
theorem f9_wsX10_undo_168 : (Cond.fieldLink RX10 28 "TurnedFloorsModel" "kept" "[I") ∈ wsX10_undo := by decide +kernel
theorem f9_wsX10_undo_169 : (Cond.fieldLink RX10 11 "TurnedFloorsModel" "undoMany" "I") ∈ wsX10_undo := by decide +kernel
theorem u9_wsX10_rightsKept_X10 : ∀ w ∈ u_ws RX10 TX10 56, w ∈ wsX10_rightsKept := by
  first | exact fun w h => List.mem_cons_of_mem _ (List.mem_append_right _ h) | decide +kernel
theorem f9_wsX10_rightsKept_171 : (Cond.fieldLink RX10 28 "TurnedFloorsModel" "kept" "[I") ∈ wsX10_rightsKept := by decide +kernel
theorem u9_wsX10_swapsKept_X10 : ∀ w ∈ u_ws RX10 TX10 56, w ∈ wsX10_swapsKept := by
  first | exact fun w h => List.mem_cons_of_mem _ (List.mem_append_right _ h) | decide +kernel
theorem f9_wsX10_swapsKept_173 : (Cond.fieldLink RX10 28 "TurnedFloorsModel" "kept" "[I") ∈ wsX10_swapsKept := by decide +kernel
theorem u9_wsX10_passesKept_X10 : ∀ w ∈ u_ws RX10 TX10 56, w ∈ wsX10_passesKept := by
  first | exact fun w h => List.mem_cons_of_mem _ (List.mem_append_right _ h) | decide +kernel
theorem f9_wsX10_passesKept_175 : (Cond.fieldLink RX10 28 "TurnedFloorsModel" "kept" "[I") ∈ wsX10_passesKept := by decide +kernel
set_option maxHeartbeats 4000000 in
set_option maxRecDepth 100000 in
theorem WX10_yearPasses_95 {p : Program} {l : Launch} {e : Env} {s : State} {m : MethodId} {args : Array Value} {below : List Frame} {meth : Method} {c : Code} {D : va_G} {ty : Nat → ClassId} {eo : Nat → Nat} {A : Nat → Prop} {ad : Nat → Nat} {o1 : Int32} {o2 : dS} (C : dc_C p s m args meth c cX10_yearPasses (some .int) 3 RX10 wsX10_yearPasses D ty eo A) {k31 : dS → Int32 → Int32 → Option (Int32 × dS)} (hk31 : ∀ (q : dS) (x1 : Int32) (x2 : Int32) (H : Heap) (locs : List Loc) (ls : Array Slot), k31 q x1 x2 = some (o1, o2) → va_P D vwCl (w10 ty ad q) H → va_D A (w10 ty ad q) → va_S A s.heap H locs → lv_has ls 3 [(0, .ref (ad 0)), (1, .int x1), (2, .int x2)] → W p l e ({ frames := 88, cells := 0, slots := 0, locals := 2244 } : Room) s m args below meth c H locs 0 0 (MQ below (va_Qi (fun (r : Int32) (u : va_W) => o1 = r ∧ w10 ty ad o2 = u) (kz_B D ty A) A) args s 0 0 A) (F0 m 31 ls [])) (q : dS) (x2 : Int32) (y0 : Int32) (y1 : Int32) (H : Heap) (locs : List Loc) (ls : Array Slot) (h : zX10_yearPasses_95 k31 q x2 y0 y1 = some (o1, o2)) (hP : va_P D vwCl (w10 ty ad q) H) (hD : va_D A (w10 ty ad q)) (hS : va_S A s.heap H locs) (hl : lv_has ls 3 [(0, .ref (ad 0)), (2, .int x2)]) : W p l e ({ frames := 88, cells := 0, slots := 0, locals := 2244 } : Room) s m args below meth c H locs 0 0 (MQ below (va_Qi (fun (r : Int32) (u : va_W) => o1 = r ∧ w10 ty ad o2 = u) (kz_B D ty A) A) args s 0 0 A) (F0 m 95 ls [.int y0, .int y1]) := by
  have C0 := C
  obtain ⟨hx, hb, hr, hts, hown, hlocks, hml, hK, hN, hE, hA⟩ := C
  unfold zX10_yearPasses_95 at h
  refine lv_iadd hx hb dX10_yearPasses_95 ?_
  refine lv_istore_n (lv' := [(1, .int (y1 + y0)), (0, .ref (ad 0)), (2, .int x2)]) hx hb dX10_yearPasses_96 rfl hl (by decide) rfl (fun ls hl => ?_)
  refine lv_iinc (v := x2 + 1) (lv' := [(2, .int (x2 + 1)), (1, .int (y1 + y0)), (0, .ref (ad 0))]) hx hb dX10_yearPasses_97 hl (k := 2) rfl rfl (by decide) rfl (fun ls hl => ?_)
  refine lv_goto (tgt := 31) hx hb dX10_yearPasses_100 (by decide) ?_
  exact hk31 _ _ _ _ _ _ h hP hD hS (lv_sub hl [2, 1, 0] rfl)
set_option maxHeartbeats 4000000 in
set_option maxRecDepth 100000 in
theorem WX10_yearPasses_79 {p : Program} {l : Launch} {e : Env} {s : State} {m : MethodId} {args : Array Value} {below : List Frame} {meth : Method} {c : Code} {D : va_G} {ty : Nat → ClassId} {eo : Nat → Nat} {A : Nat → Prop} {ad : Nat → Nat} {o1 : Int32} {o2 : dS} (C : dc_C p s m args meth c cX10_yearPasses (some .int) 3 RX10 wsX10_yearPasses D ty eo A) {k31 : dS → Int32 → Int32 → Option (Int32 × dS)} (hk31 : ∀ (q : dS) (x1 : Int32) (x2 : Int32) (H : Heap) (locs : List Loc) (ls : Array Slot), k31 q x1 x2 = some (o1, o2) → va_P D vwCl (w10 ty ad q) H → va_D A (w10 ty ad q) → va_S A s.heap H locs → lv_has ls 3 [(0, .ref (ad 0)), (1, .int x1), (2, .int x2)] → W p l e ({ frames := 88, cells := 0, slots := 0, locals := 2244 } : Room) s m args below meth c H locs 0 0 (MQ below (va_Qi (fun (r : Int32) (u : va_W) => o1 = r ∧ w10 ty ad o2 = u) (kz_B D ty A) A) args s 0 0 A) (F0 m 31 ls [])) (q : dS) (x1 : Int32) (x2 : Int32) (y0 : Int32) (y1 : Int32) (H : Heap) (locs : List Loc) (ls : Array Slot) (h : zX10_yearPasses_79 k31 q x1 x2 y0 y1 = some (o1, o2)) (hP : va_P D vwCl (w10 ty ad q) H) (hD : va_D A (w10 ty ad q)) (hS : va_S A s.heap H locs) (hl : lv_has ls 3 [(0, .ref (ad 0)), (1, .int x1), (2, .int x2)]) : W p l e ({ frames := 88, cells := 0, slots := 0, locals := 2244 } : Room) s m args below meth c H locs 0 0 (MQ below (va_Qi (fun (r : Int32) (u : va_W) => o1 = r ∧ w10 ty ad o2 = u) (kz_B D ty A) A) args s 0 0 A) (F0 m 79 ls [.int y0, .int y1, .ref (ad 2)]) := by
  have C0 := C
  obtain ⟨hx, hb, hr, hts, hown, hlocks, hml, hK, hN, hE, hA⟩ := C
  unfold zX10_yearPasses_79 at h
  obtain ⟨g1, h⟩ := dG_some h
  refine va_iast hx hb hK hP hD hS 2 0 rfl rfl (dg_in g1) dX10_yearPasses_79 (fun H locs hp hd hs => ?_)
  obtain ⟨q2, eq2, h⟩ := dL_some h
  refine kz_re (w2 := w10 ty ad q2) hp hd hs (by rw [← eq2]; exact w10_a2 ty ad q (Int32.toNatClampNeg y1) y0) ?_
  clear hp hd hs hP hD hS
  intro hP hD hS
  refine lv_iload_n hx hb dX10_yearPasses_80 rfl (lv_at hl 1 rfl) ?_
  refine lv_aload_n hx hb dX10_yearPasses_81 rfl (lv_at hl 0 rfl) ?_
  refine va_get (D := D) (ci := 10) (v := .ref (ad 13)) (C := RX10) (T := TX10) (N := 56) hx hb hts u9_wsX10_yearPasses_X10 hown hK hP 0 rfl rfl 29 (by decide) (hts (.fieldLink RX10 66 "TurnedFloorsModel" "tipping" "[Z") f9_wsX10_yearPasses_160) (fun _ h9 => h9) rfl dX10_yearPasses_82 ?_
  refine lv_iload_n hx hb dX10_yearPasses_85 rfl (lv_at hl 2 rfl) ?_
  obtain ⟨g3, h⟩ := dG_some h
  refine va_zald hx hb hK hP 13 2 rfl rfl (dg_in g3) dX10_yearPasses_86 ?_
  obtain ⟨v4, ev4, h⟩ := dL_some h
  refine kz_topi v4 ev4 ?_
  refine lv_if_eq (tgt := 94) hx hb dX10_yearPasses_87 (by decide) (fun c9 => ?_) (fun c9 => ?_)
  · rw [if_pos c9] at h
    refine lv_iconst (v := 0) hx hb dX10_yearPasses_94 (by decide) ?_
    exact WX10_yearPasses_95 C0 hk31 _ _ _ _ _ _ _ h hP hD hS (lv_sub hl [0, 2] rfl)
  · rw [if_neg c9] at h
    refine lv_iconst (v := 1) hx hb dX10_yearPasses_90 (by decide) ?_
    refine lv_goto (tgt := 95) hx hb dX10_yearPasses_91 (by decide) ?_
    exact WX10_yearPasses_95 C0 hk31 _ _ _ _ _ _ _ h hP hD hS (lv_sub hl [0, 2] rfl)
set_option maxHeartbeats 4000000 in
set_option maxRecDepth 100000 in
theorem WX10_yearPasses_31b {p : Program} {l : Launch} {e : Env} {s : State} {m : MethodId} {args : Array Value} {below : List Frame} {meth : Method} {c : Code} {D : va_G} {ty : Nat → ClassId} {eo : Nat → Nat} {A : Nat → Prop} {ad : Nat → Nat} {o1 : Int32} {o2 : dS} (C : dc_C p s m args meth c cX10_yearPasses (some .int) 3 RX10 wsX10_yearPasses D ty eo A) {k31 : dS → Int32 → Int32 → Option (Int32 × dS)} (hk31 : ∀ (q : dS) (x1 : Int32) (x2 : Int32) (H : Heap) (locs : List Loc) (ls : Array Slot), k31 q x1 x2 = some (o1, o2) → va_P D vwCl (w10 ty ad q) H → va_D A (w10 ty ad q) → va_S A s.heap H locs → lv_has ls 3 [(0, .ref (ad 0)), (1, .int x1), (2, .int x2)] → W p l e ({ frames := 88, cells := 0, slots := 0, locals := 2244 } : Room) s m args below meth c H locs 0 0 (MQ below (va_Qi (fun (r : Int32) (u : va_W) => o1 = r ∧ w10 ty ad o2 = u) (kz_B D ty A) A) args s 0 0 A) (F0 m 31 ls [])) (q : dS) (x1 : Int32) (x2 : Int32) (H : Heap) (locs : List Loc) (ls : Array Slot) (h : zX10_yearPasses_31b k31 q x1 x2 = some (o1, o2)) (hP : va_P D vwCl (w10 ty ad q) H) (hD : va_D A (w10 ty ad q)) (hS : va_S A s.heap H locs) (hl : lv_has ls 3 [(0, .ref (ad 0)), (1, .int x1), (2, .int x2)]) : W p l e ({ frames := 88, cells := 0, slots := 0, locals := 2244 } : Room) s m args below meth c H locs 0 0 (MQ below (va_Qi (fun (r : Int32) (u : va_W) => o1 = r ∧ w10 ty ad o2 = u) (kz_B D ty A) A) args s 0 0 A) (F0 m 31 ls []) := by
  have C0 := C
  obtain ⟨hx, hb, hr, hts, hown, hlocks, hml, hK, hN, hE, hA⟩ := C
  unfold zX10_yearPasses_31b at h
  refine lv_iload_n hx hb dX10_yearPasses_31 rfl (lv_at hl 2 rfl) ?_
  refine lv_aload_n hx hb dX10_yearPasses_32 rfl (lv_at hl 0 rfl) ?_
  obtain ⟨r1, q3, h2, h⟩ := dB_some h
  refine dw_ki (va_runV (As := []) (rest := [.int x2]) ⟨hx, hb, hml, hown, hts⟩ (qX10_size l D ty eo _ ad q  r1 q3 h2) (cwV 0 hts gX10_yearPasses_X10_size rfl rfl rfl (by decide +kernel) ⟨Nat.le_of_ble_eq_true rfl, Nat.le_of_ble_eq_true rfl⟩) (dw_preV (ci := 10) (q0 := 0) hK hN hE hP hD hS hA rfl rfl) rfl rfl hl.1 rfl (lv_room (Nat.le_of_ble_eq_true rfl)) dX10_yearPasses_33 ⟨Nat.le_of_ble_eq_true rfl, Nat.le_of_ble_eq_true rfl⟩) hD hS hA (fun r9 u9 H locs hw hp hd hs => ?_)
  clear hP hD hS
  obtain ⟨rfl, rfl⟩ := hw
  have hP := hp; have hD := hd; have hS := hs; clear hp hd hs
  refine lv_icmp_ge (tgt := 103) hx hb dX10_yearPasses_36 (by decide) (fun c9 => ?_) (fun c9 => ?_)
  · rw [if_pos c9] at h
    refine lv_aload_n hx hb dX10_yearPasses_103 rfl (lv_at hl 0 rfl) ?_
    refine va_get (D := D) (ci := 10) (v := .ref (ad 2)) (C := RX10) (T := TX10) (N := 56) hx hb hts u9_wsX10_yearPasses_X10 hown hK hP 0 rfl rfl 2 (by decide) (hts (.fieldLink RX10 28 "TurnedFloorsModel" "kept" "[I") f9_wsX10_yearPasses_161) (fun _ h9 => h9) rfl dX10_yearPasses_104 ?_
    refine lv_bipush (v := 13) hx hb dX10_yearPasses_107 (by decide) ?_
    refine lv_dup2_11 hx hb dX10_yearPasses_109 rfl rfl ?_
    refine va_iald hx hb hK hP 2 0 rfl rfl (by simp only [vp_in]; decide) dX10_yearPasses_110 ?_
    refine kz_topi (q3.1 2 13) (congrArg (q3.1 2) (by decide +kernel : Int32.toNatClampNeg 13 = 13)) ?_
    refine lv_iconst (v := 1) hx hb dX10_yearPasses_111 (by decide) ?_
    refine lv_iadd hx hb dX10_yearPasses_112 ?_
    refine va_iast hx hb hK hP hD hS 2 0 rfl rfl (by simp only [vp_in]; decide) dX10_yearPasses_113 (fun H locs hp hd hs => ?_)
    obtain ⟨q4, eq4, h⟩ := dL_some h
    refine kz_re (w2 := w10 ty ad q4) hp hd hs (by rw [(by decide +kernel : Int32.toNatClampNeg 13 = 13), ← eq4]; exact w10_a2 ty ad q3 13 ((q3.1 2 13) + 1 : Int32)) ?_
    clear hp hd hs hP hD hS
    intro hP hD hS
    refine lv_iload_n hx hb dX10_yearPasses_114 rfl (lv_at hl 1 rfl) ?_
    cases h
    exact kz_iret hx hb hr hlocks hP hK hD hS dX10_yearPasses_115 ⟨rfl, rfl⟩
  · rw [if_neg c9] at h
    refine lv_aload_n hx hb dX10_yearPasses_39 rfl (lv_at hl 0 rfl) ?_
    refine va_get (D := D) (ci := 10) (v := .ref (ad 2)) (C := RX10) (T := TX10) (N := 56) hx hb hts u9_wsX10_yearPasses_X10 hown hK hP 0 rfl rfl 2 (by decide) (hts (.fieldLink RX10 28 "TurnedFloorsModel" "kept" "[I") f9_wsX10_yearPasses_161) (fun _ h9 => h9) rfl dX10_yearPasses_40 ?_
    refine lv_bipush (v := 6) hx hb dX10_yearPasses_43 (by decide) ?_
    refine lv_iload_n hx hb dX10_yearPasses_45 rfl (lv_at hl 2 rfl) ?_
    refine lv_iadd hx hb dX10_yearPasses_46 ?_
    refine lv_aload_n hx hb dX10_yearPasses_47 rfl (lv_at hl 0 rfl) ?_
    refine va_get (D := D) (ci := 10) (v := .ref (ad 13)) (C := RX10) (T := TX10) (N := 56) hx hb hts u9_wsX10_yearPasses_X10 hown hK hP 0 rfl rfl 29 (by decide) (hts (.fieldLink RX10 66 "TurnedFloorsModel" "tipping" "[Z") f9_wsX10_yearPasses_160) (fun _ h9 => h9) rfl dX10_yearPasses_48 ?_
    refine lv_iload_n hx hb dX10_yearPasses_51 rfl (lv_at hl 2 rfl) ?_
    obtain ⟨g5, h⟩ := dG_some h
    refine va_zald hx hb hK hP 13 2 rfl rfl (dg_in g5) dX10_yearPasses_52 ?_
    obtain ⟨v6, ev6, h⟩ := dL_some h
    refine kz_topi v6 ev6 ?_
    refine lv_if_eq (tgt := 70) hx hb dX10_yearPasses_53 (by decide) (fun c9 => ?_) (fun c9 => ?_)
    · rw [if_pos c9] at h
      refine lv_aload_n hx hb dX10_yearPasses_70 rfl (lv_at hl 0 rfl) ?_
      refine va_get (D := D) (ci := 10) (v := .ref (ad 2)) (C := RX10) (T := TX10) (N := 56) hx hb hts u9_wsX10_yearPasses_X10 hown hK hP 0 rfl rfl 2 (by decide) (hts (.fieldLink RX10 28 "TurnedFloorsModel" "kept" "[I") f9_wsX10_yearPasses_161) (fun _ h9 => h9) rfl dX10_yearPasses_71 ?_
      refine lv_bipush (v := 6) hx hb dX10_yearPasses_74 (by decide) ?_
      refine lv_iload_n hx hb dX10_yearPasses_76 rfl (lv_at hl 2 rfl) ?_
      refine lv_iadd hx hb dX10_yearPasses_77 ?_
      obtain ⟨g7, h⟩ := dG_some h
      refine va_iald hx hb hK hP 2 0 rfl rfl (dg_in g7) dX10_yearPasses_78 ?_
      obtain ⟨v8, ev8, h⟩ := dL_some h
      refine kz_topi v8 ev8 ?_
      exact WX10_yearPasses_79 C0 hk31 _ _ _ _ _ _ _ _ h hP hD hS (lv_sub hl [0, 1, 2] rfl)
    · rw [if_neg c9] at h
      refine lv_iconst (v := 1) hx hb dX10_yearPasses_56 (by decide) ?_
      refine lv_aload_n hx hb dX10_yearPasses_57 rfl (lv_at hl 0 rfl) ?_
      refine va_get (D := D) (ci := 10) (v := .ref (ad 2)) (C := RX10) (T := TX10) (N := 56) hx hb hts u9_wsX10_yearPasses_X10 hown hK hP 0 rfl rfl 2 (by decide) (hts (.fieldLink RX10 28 "TurnedFloorsModel" "kept" "[I") f9_wsX10_yearPasses_161) (fun _ h9 => h9) rfl dX10_yearPasses_58 ?_
      refine lv_bipush (v := 6) hx hb dX10_yearPasses_61 (by decide) ?_
      refine lv_iload_n hx hb dX10_yearPasses_63 rfl (lv_at hl 2 rfl) ?_
      refine lv_iadd hx hb dX10_yearPasses_64 ?_
      obtain ⟨g9, h⟩ := dG_some h
      refine va_iald hx hb hK hP 2 0 rfl rfl (dg_in g9) dX10_yearPasses_65 ?_
      obtain ⟨v10, ev10, h⟩ := dL_some h
      refine kz_topi v10 ev10 ?_
      refine lv_isub hx hb dX10_yearPasses_66 ?_
      refine lv_goto (tgt := 79) hx hb dX10_yearPasses_67 (by decide) ?_
      exact WX10_yearPasses_79 C0 hk31 _ _ _ _ _ _ _ _ h hP hD hS (lv_sub hl [0, 1, 2] rfl)
set_option maxHeartbeats 4000000 in
set_option maxRecDepth 100000 in
theorem WX10_yearPasses_31 {p : Program} {l : Launch} {e : Env} {s : State} {m : MethodId} {args : Array Value} {below : List Frame} {meth : Method} {c : Code} {D : va_G} {ty : Nat → ClassId} {eo : Nat → Nat} {A : Nat → Prop} {ad : Nat → Nat} {o1 : Int32} {o2 : dS} (C : dc_C p s m args meth c cX10_yearPasses (some .int) 3 RX10 wsX10_yearPasses D ty eo A)   (n : Nat) (q : dS) (x1 : Int32) (x2 : Int32) (H : Heap) (locs : List Loc) (ls : Array Slot) (h : zX10_yearPasses_31  n q x1 x2 = some (o1, o2)) (hP : va_P D vwCl (w10 ty ad q) H) (hD : va_D A (w10 ty ad q)) (hS : va_S A s.heap H locs) (hl : lv_has ls 3 [(0, .ref (ad 0)), (1, .int x1), (2, .int x2)]) : W p l e ({ frames := 88, cells := 0, slots := 0, locals := 2244 } : Room) s m args below meth c H locs 0 0 (MQ below (va_Qi (fun (r : Int32) (u : va_W) => o1 = r ∧ w10 ty ad o2 = u) (kz_B D ty A) A) args s 0 0 A) (F0 m 31 ls []) := by
  exact dFix_W (F := fun k (a : dS × Int32 × Int32) => zX10_yearPasses_31b  (fun q x1 x2 => k (q, x1, x2)) a.1 a.2.1 a.2.2) (o := (o1, o2)) (P := fun (a : dS × Int32 × Int32) H locs ls => va_P D vwCl (w10 ty ad a.1) H ∧ va_D A (w10 ty ad a.1) ∧ va_S A s.heap H locs ∧ lv_has ls 3 [(0, .ref (ad 0)), (1, .int a.2.1), (2, .int a.2.2)]) (G := fun H locs ls => W p l e ({ frames := 88, cells := 0, slots := 0, locals := 2244 } : Room) s m args below meth c H locs 0 0 (MQ below (va_Qi (fun (r : Int32) (u : va_W) => o1 = r ∧ w10 ty ad o2 = u) (kz_B D ty A) A) args s 0 0 A) (F0 m 31 ls []))
    (fun k hk a H locs ls h hp => WX10_yearPasses_31b C  (fun q x1 x2 H locs ls h h1 h2 h3 h4 => hk (q, x1, x2) H locs ls h ⟨h1, h2, h3, h4⟩) a.1 a.2.1 a.2.2 H locs ls h hp.1 hp.2.1 hp.2.2.1 hp.2.2.2) n (q, x1, x2) H locs ls h ⟨hP, hD, hS, hl⟩
set_option maxHeartbeats 4000000 in
set_option maxRecDepth 100000 in
theorem WX10_yearPasses_4b {p : Program} {l : Launch} {e : Env} {s : State} {m : MethodId} {args : Array Value} {below : List Frame} {meth : Method} {c : Code} {D : va_G} {ty : Nat → ClassId} {eo : Nat → Nat} {A : Nat → Prop} {ad : Nat → Nat} {o1 : Int32} {o2 : dS} (C : dc_C p s m args meth c cX10_yearPasses (some .int) 3 RX10 wsX10_yearPasses D ty eo A) {k4 : dS → Int32 → Int32 → Option (Int32 × dS)} (hk4 : ∀ (q : dS) (x1 : Int32) (x2 : Int32) (H : Heap) (locs : List Loc) (ls : Array Slot), k4 q x1 x2 = some (o1, o2) → va_P D vwCl (w10 ty ad q) H → va_D A (w10 ty ad q) → va_S A s.heap H locs → lv_has ls 3 [(0, .ref (ad 0)), (1, .int x1), (2, .int x2)] → W p l e ({ frames := 88, cells := 0, slots := 0, locals := 2244 } : Room) s m args below meth c H locs 0 0 (MQ below (va_Qi (fun (r : Int32) (u : va_W) => o1 = r ∧ w10 ty ad o2 = u) (kz_B D ty A) A) args s 0 0 A) (F0 m 4 ls [])) (q : dS) (x1 : Int32) (x2 : Int32) (H : Heap) (locs : List Loc) (ls : Array Slot) (h : zX10_yearPasses_4b k4 q x1 x2 = some (o1, o2)) (hP : va_P D vwCl (w10 ty ad q) H) (hD : va_D A (w10 ty ad q)) (hS : va_S A s.heap H locs) (hl : lv_has ls 3 [(0, .ref (ad 0)), (1, .int x1), (2, .int x2)]) : W p l e ({ frames := 88, cells := 0, slots := 0, locals := 2244 } : Room) s m args below meth c H locs 0 0 (MQ below (va_Qi (fun (r : Int32) (u : va_W) => o1 = r ∧ w10 ty ad o2 = u) (kz_B D ty A) A) args s 0 0 A) (F0 m 4 ls []) := by
  have C0 := C
  obtain ⟨hx, hb, hr, hts, hown, hlocks, hml, hK, hN, hE, hA⟩ := C
  unfold zX10_yearPasses_4b at h
  refine lv_iload_n hx hb dX10_yearPasses_4 rfl (lv_at hl 2 rfl) ?_
  refine lv_aload_n hx hb dX10_yearPasses_5 rfl (lv_at hl 0 rfl) ?_
  obtain ⟨r1, q3, h2, h⟩ := dB_some h
  refine dw_ki (va_runV (As := []) (rest := [.int x2]) ⟨hx, hb, hml, hown, hts⟩ (qX10_size l D ty eo _ ad q  r1 q3 h2) (cwV 0 hts gX10_yearPasses_X10_size rfl rfl rfl (by decide +kernel) ⟨Nat.le_of_ble_eq_true rfl, Nat.le_of_ble_eq_true rfl⟩) (dw_preV (ci := 10) (q0 := 0) hK hN hE hP hD hS hA rfl rfl) rfl rfl hl.1 rfl (lv_room (Nat.le_of_ble_eq_true rfl)) dX10_yearPasses_6 ⟨Nat.le_of_ble_eq_true rfl, Nat.le_of_ble_eq_true rfl⟩) hD hS hA (fun r9 u9 H locs hw hp hd hs => ?_)
  clear hP hD hS
  obtain ⟨rfl, rfl⟩ := hw
  have hP := hp; have hD := hd; have hS := hs; clear hp hd hs
  refine lv_icmp_ge (tgt := 29) hx hb dX10_yearPasses_9 (by decide) (fun c9 => ?_) (fun c9 => ?_)
  · rw [if_pos c9] at h
    refine lv_iconst (v := 0) hx hb dX10_yearPasses_29 (by decide) ?_
    refine lv_istore_n (lv' := [(2, .int 0), (0, .ref (ad 0)), (1, .int x1)]) hx hb dX10_yearPasses_30 rfl hl (by decide) rfl (fun ls hl => ?_)
    exact WX10_yearPasses_31 C0  _ _ _ _ _ _ _ h hP hD hS (lv_sub hl [1, 2, 0] rfl)
  · rw [if_neg c9] at h
    refine lv_aload_n hx hb dX10_yearPasses_12 rfl (lv_at hl 0 rfl) ?_
    refine va_get (D := D) (ci := 10) (v := .ref (ad 13)) (C := RX10) (T := TX10) (N := 56) hx hb hts u9_wsX10_yearPasses_X10 hown hK hP 0 rfl rfl 29 (by decide) (hts (.fieldLink RX10 66 "TurnedFloorsModel" "tipping" "[Z") f9_wsX10_yearPasses_160) (fun _ h9 => h9) rfl dX10_yearPasses_13 ?_
    refine lv_iload_n hx hb dX10_yearPasses_16 rfl (lv_at hl 2 rfl) ?_
    refine lv_aload_n hx hb dX10_yearPasses_17 rfl (lv_at hl 0 rfl) ?_
    refine lv_iload_n hx hb dX10_yearPasses_18 rfl (lv_at hl 2 rfl) ?_
    obtain ⟨r4, q6, h5, h⟩ := dB_some h
    refine dw_ki (va_runV (As := [.int x2]) (rest := [.int x2, .ref (ad 13)]) ⟨hx, hb, hml, hown, hts⟩ (qX10_tipsAt l D ty eo _ ad q3 x2 r4 q6 h5) (cwV 1 hts gX10_yearPasses_X10_tipsAt rfl rfl rfl (by decide +kernel) ⟨Nat.le_of_ble_eq_true rfl, Nat.le_of_ble_eq_true rfl⟩) (dw_preV (ci := 10) (q0 := 0) hK hN hE hP hD hS hA rfl rfl) rfl rfl hl.1 rfl (lv_room (Nat.le_of_ble_eq_true rfl)) dX10_yearPasses_19 ⟨Nat.le_of_ble_eq_true rfl, Nat.le_of_ble_eq_true rfl⟩) hD hS hA (fun r9 u9 H locs hw hp hd hs => ?_)
    clear hP hD hS
    obtain ⟨rfl, rfl⟩ := hw
    have hP := hp; have hD := hd; have hS := hs; clear hp hd hs
    obtain ⟨g7, h⟩ := dG_some h
    refine va_zast hx hb hK hP hD hS 13 2 rfl rfl (dg_in g7) dX10_yearPasses_22 (fun H locs hp hd hs => ?_)
    obtain ⟨q8, eq8, h⟩ := dL_some h
    refine kz_re (w2 := w10 ty ad q8) hp hd hs (by rw [← eq8]; exact w10_a13 ty ad q6 (Int32.toNatClampNeg x2) (vp_nar .boolean r4)) ?_
    clear hp hd hs hP hD hS
    intro hP hD hS
    refine lv_iinc (v := x2 + 1) (lv' := [(2, .int (x2 + 1)), (0, .ref (ad 0)), (1, .int x1)]) hx hb dX10_yearPasses_23 hl (k := 2) rfl rfl (by decide) rfl (fun ls hl => ?_)
    refine lv_goto (tgt := 4) hx hb dX10_yearPasses_26 (by decide) ?_
    exact hk4 _ _ _ _ _ _ h hP hD hS (lv_sub hl [1, 2, 0] rfl)
set_option maxHeartbeats 4000000 in
set_option maxRecDepth 100000 in
theorem WX10_yearPasses_4 {p : Program} {l : Launch} {e : Env} {s : State} {m : MethodId} {args : Array Value} {below : List Frame} {meth : Method} {c : Code} {D : va_G} {ty : Nat → ClassId} {eo : Nat → Nat} {A : Nat → Prop} {ad : Nat → Nat} {o1 : Int32} {o2 : dS} (C : dc_C p s m args meth c cX10_yearPasses (some .int) 3 RX10 wsX10_yearPasses D ty eo A)   (n : Nat) (q : dS) (x1 : Int32) (x2 : Int32) (H : Heap) (locs : List Loc) (ls : Array Slot) (h : zX10_yearPasses_4  n q x1 x2 = some (o1, o2)) (hP : va_P D vwCl (w10 ty ad q) H) (hD : va_D A (w10 ty ad q)) (hS : va_S A s.heap H locs) (hl : lv_has ls 3 [(0, .ref (ad 0)), (1, .int x1), (2, .int x2)]) : W p l e ({ frames := 88, cells := 0, slots := 0, locals := 2244 } : Room) s m args below meth c H locs 0 0 (MQ below (va_Qi (fun (r : Int32) (u : va_W) => o1 = r ∧ w10 ty ad o2 = u) (kz_B D ty A) A) args s 0 0 A) (F0 m 4 ls []) := by
  exact dFix_W (F := fun k (a : dS × Int32 × Int32) => zX10_yearPasses_4b  (fun q x1 x2 => k (q, x1, x2)) a.1 a.2.1 a.2.2) (o := (o1, o2)) (P := fun (a : dS × Int32 × Int32) H locs ls => va_P D vwCl (w10 ty ad a.1) H ∧ va_D A (w10 ty ad a.1) ∧ va_S A s.heap H locs ∧ lv_has ls 3 [(0, .ref (ad 0)), (1, .int a.2.1), (2, .int a.2.2)]) (G := fun H locs ls => W p l e ({ frames := 88, cells := 0, slots := 0, locals := 2244 } : Room) s m args below meth c H locs 0 0 (MQ below (va_Qi (fun (r : Int32) (u : va_W) => o1 = r ∧ w10 ty ad o2 = u) (kz_B D ty A) A) args s 0 0 A) (F0 m 4 ls []))
    (fun k hk a H locs ls h hp => WX10_yearPasses_4b C  (fun q x1 x2 H locs ls h h1 h2 h3 h4 => hk (q, x1, x2) H locs ls h ⟨h1, h2, h3, h4⟩) a.1 a.2.1 a.2.2 H locs ls h hp.1 hp.2.1 hp.2.2.1 hp.2.2.2) n (q, x1, x2) H locs ls h ⟨hP, hD, hS, hl⟩
set_option maxHeartbeats 4000000 in
set_option maxRecDepth 100000 in
theorem qX10_yearPasses (l : Launch) (D : va_G) (ty : Nat → ClassId) (eo : Nat → Nat) (sz : Nat) (ad : Nat → Nat) (q : dS)  (o1 : Int32) (o2 : dS) (h : zX10_yearPasses q = some (o1, o2)) : Met l yX10_yearPasses wsX10_yearPasses ({ frames := 88, cells := 0, slots := 0, locals := 2244 } : Room) (va_Pc [.ref (ad 0)] (kz_pre D ty eo (w10 ty ad q) sz)) (va_Qi (fun (r : Int32) (u : va_W) => o1 = r ∧ w10 ty ad o2 = u) (kz_B D ty (va_A (w10 ty ad q) sz)) (va_A (w10 ty ad q) sz)) 0 0 (va_A (w10 ty ad q) sz) := by
  refine Met.ofW (cc := cX10_yearPasses) (maxL := 3) (ret := (some .int)) (by decide) rfl ?_
  intro p e s m args below meth c s₁ B hml hv
  obtain ⟨rfl, hsz, hP, hK, hD0, hN, hE⟩ := hv
  have hx := B.exec
  have hb := B.bytes
  have hr := B.returns
  have hts := atoms_spec (ws := wsX10_yearPasses) B.pre
  have hown : s.vm.findClass RX10 = some m.cls := findClass_of_methodNamed B.named
  have hlocks := B.notSynchronized
  subst hsz
  have hD := hD0.self (sz := s.heap.size)
  generalize hAe : va_A (w10 ty ad q) s.heap.size = A at hD hE ⊢
  have hA : ∀ q : Nat, s.heap.size ≤ q → A q := fun q h => by rw [← hAe]; exact Or.inr h
  clear hAe
  have hS : va_S A s.heap s.heap [] := va_S.rf
  have hl := lv_entry ([.ref (ad 0)]) (n := 3) (Nat.le_of_ble_eq_true rfl)
  rw [lg_entry_eq]
  generalize (lg_sl ([.ref (ad 0)]) ++ List.replicate (3 - (lg_sl ([.ref (ad 0)])).length) Slot.unset).toArray = ls at hl ⊢
  have hl : lv_has ls 3 [(0, .ref (ad 0))] := hl
  have C : dc_C p s m _ meth c cX10_yearPasses (some .int) 3 RX10 wsX10_yearPasses D ty eo A := ⟨hx, hb, hr, hts, hown, hlocks, hml, hK, hN, hE, hA⟩
  unfold zX10_yearPasses at h
  refine lv_iconst (v := 0) hx hb dX10_yearPasses_0 (by decide) ?_
  refine lv_istore_n (lv' := [(1, .int 0), (0, .ref (ad 0))]) hx hb dX10_yearPasses_1 rfl hl (by decide) rfl (fun ls hl => ?_)
  refine lv_iconst (v := 0) hx hb dX10_yearPasses_2 (by decide) ?_
  refine lv_istore_n (lv' := [(2, .int 0), (1, .int 0), (0, .ref (ad 0))]) hx hb dX10_yearPasses_3 rfl hl (by decide) rfl (fun ls hl => ?_)
  exact WX10_yearPasses_4 C  _ _ _ _ _ _ _ h hP hD hS (lv_sub hl [2, 1, 0] rfl)

set_option maxHeartbeats 4000000 in
set_option maxRecDepth 100000 in
theorem WX10_keeps_54b {p : Program} {l : Launch} {e : Env} {s : State} {m : MethodId} {args : Array Value} {below : List Frame} {meth : Method} {c : Code} {D : va_G} {ty : Nat → ClassId} {eo : Nat → Nat} {A : Nat → Prop} {ad : Nat → Nat} {o2 : dS} (C : dc_C p s m args meth c cX10_keeps none 4 RX10 wsX10_keeps D ty eo A) {k54 : dS → Int32 → Int32 → Int32 → Option (dS)} (hk54 : ∀ (q : dS) (x1 : Int32) (x2 : Int32) (x3 : Int32) (H : Heap) (locs : List Loc) (ls : Array Slot), k54 q x1 x2 x3 = some o2 → va_P D vwCl (w10 ty ad q) H → va_D A (w10 ty ad q) → va_S A s.heap H locs → lv_has ls 4 [(0, .ref (ad 0)), (1, .int x1), (2, .int x2), (3, .int x3)] → W p l e ({ frames := 0, cells := 0, slots := 0, locals := 0 } : Room) s m args below meth c H locs 0 0 (MQ below (va_Qv (fun (u : va_W) => w10 ty ad o2 = u) (kz_B D ty A) A) args s 0 0 A) (F0 m 54 ls [])) (q : dS) (x1 : Int32) (x2 : Int32) (x3 : Int32) (H : Heap) (locs : List Loc) (ls : Array Slot) (h : zX10_keeps_54b k54 q x1 x2 x3 = some o2) (hP : va_P D vwCl (w10 ty ad q) H) (hD : va_D A (w10 ty ad q)) (hS : va_S A s.heap H locs) (hl : lv_has ls 4 [(0, .ref (ad 0)), (1, .int x1), (2, .int x2), (3, .int x3)]) : W p l e ({ frames := 0, cells := 0, slots := 0, locals := 0 } : Room) s m args below meth c H locs 0 0 (MQ below (va_Qv (fun (u : va_W) => w10 ty ad o2 = u) (kz_B D ty A) A) args s 0 0 A) (F0 m 54 ls []) := by
  have C0 := C
  obtain ⟨hx, hb, hr, hts, hown, hlocks, hml, hK, hN, hE, hA⟩ := C
  unfold zX10_keeps_54b at h
  refine lv_iload_n hx hb dX10_keeps_54 rfl (lv_at hl 3 rfl) ?_
  refine lv_bipush (v := 14) hx hb dX10_keeps_55 (by decide) ?_
  refine lv_icmp_ge (tgt := 85) hx hb dX10_keeps_57 (by decide) (fun c9 => ?_) (fun c9 => ?_)
  · rw [if_pos c9] at h
    refine lv_aload_n hx hb dX10_keeps_85 rfl (lv_at hl 0 rfl) ?_
    refine va_get (D := D) (ci := 10) (v := .ref (ad 14)) (C := RX10) (T := TX10) (N := 56) hx hb hts u9_wsX10_keeps_X10 hown hK hP 0 rfl rfl 30 (by decide) (hts (.fieldLink RX10 69 "TurnedFloorsModel" "left0" "[I") f9_wsX10_keeps_163) (fun _ h9 => h9) rfl dX10_keeps_86 ?_
    refine lv_iload_n hx hb dX10_keeps_89 rfl (lv_at hl 2 rfl) ?_
    refine lv_aload_n hx hb dX10_keeps_90 rfl (lv_at hl 0 rfl) ?_
    refine va_get (D := D) (ci := 10) (v := .int (q.1 0 32)) (C := RX10) (T := TX10) (N := 56) hx hb hts u9_wsX10_keeps_X10 hown hK hP 0 rfl rfl 32 (by decide) (hts (.fieldLink RX10 11 "TurnedFloorsModel" "undoMany" "I") f9_wsX10_keeps_164) (fun _ h9 => h9) rfl dX10_keeps_91 ?_
    refine lv_imul hx hb dX10_keeps_94 ?_
    refine lv_bipush (v := 14) hx hb dX10_keeps_95 (by decide) ?_
    refine lv_iadd hx hb dX10_keeps_97 ?_
    refine lv_iload_n hx hb dX10_keeps_98 rfl (lv_at hl 1 rfl) ?_
    obtain ⟨g1, h⟩ := dG_some h
    refine va_iast hx hb hK hP hD hS 14 0 rfl rfl (dg_in g1) dX10_keeps_99 (fun H locs hp hd hs => ?_)
    obtain ⟨q2, eq2, h⟩ := dL_some h
    refine kz_re (w2 := w10 ty ad q2) hp hd hs (by rw [← eq2]; exact w10_a14 ty ad q (Int32.toNatClampNeg ((x2 * (q.1 0 32)) + 14 : Int32)) x1) ?_
    clear hp hd hs hP hD hS
    intro hP hD hS
    refine lv_aload_n hx hb dX10_keeps_100 rfl (lv_at hl 0 rfl) ?_
    refine lv_dup hx hb dX10_keeps_101 rfl ?_
    refine va_get (D := D) (ci := 10) (v := .int (q2.1 0 32)) (C := RX10) (T := TX10) (N := 56) hx hb hts u9_wsX10_keeps_X10 hown hK hP 0 rfl rfl 32 (by decide) (hts (.fieldLink RX10 11 "TurnedFloorsModel" "undoMany" "I") f9_wsX10_keeps_164) (fun _ h9 => h9) rfl dX10_keeps_102 ?_
    refine lv_iconst (v := 1) hx hb dX10_keeps_105 (by decide) ?_
    refine lv_iadd hx hb dX10_keeps_106 ?_
    refine va_put (D := D) (ci := 10) (v := .int ((q2.1 0 32) + 1 : Int32)) (ty := .int) (C := RX10) (T := TX10) (N := 56) hx hb hts u9_wsX10_keeps_X10 tyX10 tyX10_ok nmX10 hown hK hP hD hS 0 rfl rfl 32 (by decide) (hts (.fieldLink RX10 11 "TurnedFloorsModel" "undoMany" "I") f9_wsX10_keeps_164) (fun _ h9 => h9) rfl (by decide +kernel) rfl rfl (Nat.le_of_ble_eq_true rfl) dX10_keeps_107 (fun H locs hp hd hs => ?_)
    obtain ⟨q3, eq3, h⟩ := dL_some h
    refine kz_re (w2 := w10 ty ad q3) hp hd hs (by rw [← eq3]; exact w10_f32 ty ad q2 ((q2.1 0 32) + 1 : Int32)) ?_
    clear hp hd hs hP hD hS
    intro hP hD hS
    cases h
    exact kz_vret hx hb hr hlocks hP hK hD hS dX10_keeps_110 rfl
  · rw [if_neg c9] at h
    refine lv_aload_n hx hb dX10_keeps_60 rfl (lv_at hl 0 rfl) ?_
    refine va_get (D := D) (ci := 10) (v := .ref (ad 14)) (C := RX10) (T := TX10) (N := 56) hx hb hts u9_wsX10_keeps_X10 hown hK hP 0 rfl rfl 30 (by decide) (hts (.fieldLink RX10 69 "TurnedFloorsModel" "left0" "[I") f9_wsX10_keeps_163) (fun _ h9 => h9) rfl dX10_keeps_61 ?_
    refine lv_iload_n hx hb dX10_keeps_64 rfl (lv_at hl 2 rfl) ?_
    refine lv_aload_n hx hb dX10_keeps_65 rfl (lv_at hl 0 rfl) ?_
    refine va_get (D := D) (ci := 10) (v := .int (q.1 0 32)) (C := RX10) (T := TX10) (N := 56) hx hb hts u9_wsX10_keeps_X10 hown hK hP 0 rfl rfl 32 (by decide) (hts (.fieldLink RX10 11 "TurnedFloorsModel" "undoMany" "I") f9_wsX10_keeps_164) (fun _ h9 => h9) rfl dX10_keeps_66 ?_
    refine lv_imul hx hb dX10_keeps_69 ?_
    refine lv_iload_n hx hb dX10_keeps_70 rfl (lv_at hl 3 rfl) ?_
    refine lv_iadd hx hb dX10_keeps_71 ?_
    refine lv_aload_n hx hb dX10_keeps_72 rfl (lv_at hl 0 rfl) ?_
    refine va_get (D := D) (ci := 10) (v := .ref (ad 2)) (C := RX10) (T := TX10) (N := 56) hx hb hts u9_wsX10_keeps_X10 hown hK hP 0 rfl rfl 2 (by decide) (hts (.fieldLink RX10 28 "TurnedFloorsModel" "kept" "[I") f9_wsX10_keeps_165) (fun _ h9 => h9) rfl dX10_keeps_73 ?_
    refine lv_iload_n hx hb dX10_keeps_76 rfl (lv_at hl 3 rfl) ?_
    obtain ⟨g4, h⟩ := dG_some h
    refine va_iald hx hb hK hP 2 0 rfl rfl (dg_in g4) dX10_keeps_77 ?_
    obtain ⟨v5, ev5, h⟩ := dL_some h
    refine kz_topi v5 ev5 ?_
    obtain ⟨g6, h⟩ := dG_some h
    refine va_iast hx hb hK hP hD hS 14 0 rfl rfl (dg_in g6) dX10_keeps_78 (fun H locs hp hd hs => ?_)
    obtain ⟨q7, eq7, h⟩ := dL_some h
    refine kz_re (w2 := w10 ty ad q7) hp hd hs (by rw [← eq7]; exact w10_a14 ty ad q (Int32.toNatClampNeg ((x2 * (q.1 0 32)) + x3)) v5) ?_
    clear hp hd hs hP hD hS
    intro hP hD hS
    refine lv_iinc (v := x3 + 1) (lv' := [(3, .int (x3 + 1)), (0, .ref (ad 0)), (1, .int x1), (2, .int x2)]) hx hb dX10_keeps_79 hl (k := 3) rfl rfl (by decide) rfl (fun ls hl => ?_)
    refine lv_goto (tgt := 54) hx hb dX10_keeps_82 (by decide) ?_
    exact hk54 _ _ _ _ _ _ _ h hP hD hS (lv_sub hl [1, 2, 3, 0] rfl)
set_option maxHeartbeats 4000000 in
set_option maxRecDepth 100000 in
theorem WX10_keeps_54 {p : Program} {l : Launch} {e : Env} {s : State} {m : MethodId} {args : Array Value} {below : List Frame} {meth : Method} {c : Code} {D : va_G} {ty : Nat → ClassId} {eo : Nat → Nat} {A : Nat → Prop} {ad : Nat → Nat} {o2 : dS} (C : dc_C p s m args meth c cX10_keeps none 4 RX10 wsX10_keeps D ty eo A)   (n : Nat) (q : dS) (x1 : Int32) (x2 : Int32) (x3 : Int32) (H : Heap) (locs : List Loc) (ls : Array Slot) (h : zX10_keeps_54  n q x1 x2 x3 = some o2) (hP : va_P D vwCl (w10 ty ad q) H) (hD : va_D A (w10 ty ad q)) (hS : va_S A s.heap H locs) (hl : lv_has ls 4 [(0, .ref (ad 0)), (1, .int x1), (2, .int x2), (3, .int x3)]) : W p l e ({ frames := 0, cells := 0, slots := 0, locals := 0 } : Room) s m args below meth c H locs 0 0 (MQ below (va_Qv (fun (u : va_W) => w10 ty ad o2 = u) (kz_B D ty A) A) args s 0 0 A) (F0 m 54 ls []) := by
  exact dFix_W (F := fun k (a : dS × Int32 × Int32 × Int32) => zX10_keeps_54b  (fun q x1 x2 x3 => k (q, x1, x2, x3)) a.1 a.2.1 a.2.2.1 a.2.2.2) (o := o2) (P := fun (a : dS × Int32 × Int32 × Int32) H locs ls => va_P D vwCl (w10 ty ad a.1) H ∧ va_D A (w10 ty ad a.1) ∧ va_S A s.heap H locs ∧ lv_has ls 4 [(0, .ref (ad 0)), (1, .int a.2.1), (2, .int a.2.2.1), (3, .int a.2.2.2)]) (G := fun H locs ls => W p l e ({ frames := 0, cells := 0, slots := 0, locals := 0 } : Room) s m args below meth c H locs 0 0 (MQ below (va_Qv (fun (u : va_W) => w10 ty ad o2 = u) (kz_B D ty A) A) args s 0 0 A) (F0 m 54 ls []))
    (fun k hk a H locs ls h hp => WX10_keeps_54b C  (fun q x1 x2 x3 H locs ls h h1 h2 h3 h4 => hk (q, x1, x2, x3) H locs ls h ⟨h1, h2, h3, h4⟩) a.1 a.2.1 a.2.2.1 a.2.2.2 H locs ls h hp.1 hp.2.1 hp.2.2.1 hp.2.2.2) n (q, x1, x2, x3) H locs ls h ⟨hP, hD, hS, hl⟩
set_option maxHeartbeats 4000000 in
set_option maxRecDepth 100000 in
theorem WX10_keeps_52 {p : Program} {l : Launch} {e : Env} {s : State} {m : MethodId} {args : Array Value} {below : List Frame} {meth : Method} {c : Code} {D : va_G} {ty : Nat → ClassId} {eo : Nat → Nat} {A : Nat → Prop} {ad : Nat → Nat} {o2 : dS} (C : dc_C p s m args meth c cX10_keeps none 4 RX10 wsX10_keeps D ty eo A)   (q : dS) (x1 : Int32) (x2 : Int32) (H : Heap) (locs : List Loc) (ls : Array Slot) (h : zX10_keeps_52  q x1 x2 = some o2) (hP : va_P D vwCl (w10 ty ad q) H) (hD : va_D A (w10 ty ad q)) (hS : va_S A s.heap H locs) (hl : lv_has ls 4 [(0, .ref (ad 0)), (1, .int x1), (2, .int x2)]) : W p l e ({ frames := 0, cells := 0, slots := 0, locals := 0 } : Room) s m args below meth c H locs 0 0 (MQ below (va_Qv (fun (u : va_W) => w10 ty ad o2 = u) (kz_B D ty A) A) args s 0 0 A) (F0 m 52 ls []) := by
  have C0 := C
  obtain ⟨hx, hb, hr, hts, hown, hlocks, hml, hK, hN, hE, hA⟩ := C
  unfold zX10_keeps_52 at h
  refine lv_iconst (v := 0) hx hb dX10_keeps_52 (by decide) ?_
  refine lv_istore_n (lv' := [(3, .int 0), (0, .ref (ad 0)), (1, .int x1), (2, .int x2)]) hx hb dX10_keeps_53 rfl hl (by decide) rfl (fun ls hl => ?_)
  exact WX10_keeps_54 C0  _ _ _ _ _ _ _ _ h hP hD hS (lv_sub hl [1, 2, 3, 0] rfl)
set_option maxHeartbeats 4000000 in
set_option maxRecDepth 100000 in
theorem WX10_keeps_14b {p : Program} {l : Launch} {e : Env} {s : State} {m : MethodId} {args : Array Value} {below : List Frame} {meth : Method} {c : Code} {D : va_G} {ty : Nat → ClassId} {eo : Nat → Nat} {A : Nat → Prop} {ad : Nat → Nat} {o2 : dS} (C : dc_C p s m args meth c cX10_keeps none 4 RX10 wsX10_keeps D ty eo A) {k14 : dS → Int32 → Int32 → Int32 → Option (dS)} (hk14 : ∀ (q : dS) (x1 : Int32) (x2 : Int32) (x3 : Int32) (H : Heap) (locs : List Loc) (ls : Array Slot), k14 q x1 x2 x3 = some o2 → va_P D vwCl (w10 ty ad q) H → va_D A (w10 ty ad q) → va_S A s.heap H locs → lv_has ls 4 [(0, .ref (ad 0)), (1, .int x1), (2, .int x2), (3, .int x3)] → W p l e ({ frames := 0, cells := 0, slots := 0, locals := 0 } : Room) s m args below meth c H locs 0 0 (MQ below (va_Qv (fun (u : va_W) => w10 ty ad o2 = u) (kz_B D ty A) A) args s 0 0 A) (F0 m 14 ls [])) (q : dS) (x1 : Int32) (x2 : Int32) (x3 : Int32) (H : Heap) (locs : List Loc) (ls : Array Slot) (h : zX10_keeps_14b k14 q x1 x2 x3 = some o2) (hP : va_P D vwCl (w10 ty ad q) H) (hD : va_D A (w10 ty ad q)) (hS : va_S A s.heap H locs) (hl : lv_has ls 4 [(0, .ref (ad 0)), (1, .int x1), (2, .int x2), (3, .int x3)]) : W p l e ({ frames := 0, cells := 0, slots := 0, locals := 0 } : Room) s m args below meth c H locs 0 0 (MQ below (va_Qv (fun (u : va_W) => w10 ty ad o2 = u) (kz_B D ty A) A) args s 0 0 A) (F0 m 14 ls []) := by
  have C0 := C
  obtain ⟨hx, hb, hr, hts, hown, hlocks, hml, hK, hN, hE, hA⟩ := C
  unfold zX10_keeps_14b at h
  refine lv_iload_n hx hb dX10_keeps_14 rfl (lv_at hl 3 rfl) ?_
  refine lv_bipush (v := 15) hx hb dX10_keeps_15 (by decide) ?_
  refine lv_iload_n hx hb dX10_keeps_17 rfl (lv_at hl 2 rfl) ?_
  refine lv_imul hx hb dX10_keeps_18 ?_
  refine lv_icmp_ge (tgt := 42) hx hb dX10_keeps_19 (by decide) (fun c9 => ?_) (fun c9 => ?_)
  · rw [if_pos c9] at h
    refine lv_aload_n hx hb dX10_keeps_42 rfl (lv_at hl 0 rfl) ?_
    refine lv_dup hx hb dX10_keeps_43 rfl ?_
    refine va_get (D := D) (ci := 10) (v := .int (q.1 0 32)) (C := RX10) (T := TX10) (N := 56) hx hb hts u9_wsX10_keeps_X10 hown hK hP 0 rfl rfl 32 (by decide) (hts (.fieldLink RX10 11 "TurnedFloorsModel" "undoMany" "I") f9_wsX10_keeps_164) (fun _ h9 => h9) rfl dX10_keeps_44 ?_
    refine lv_iconst (v := 1) hx hb dX10_keeps_47 (by decide) ?_
    refine lv_isub hx hb dX10_keeps_48 ?_
    refine va_put (D := D) (ci := 10) (v := .int ((q.1 0 32) - 1 : Int32)) (ty := .int) (C := RX10) (T := TX10) (N := 56) hx hb hts u9_wsX10_keeps_X10 tyX10 tyX10_ok nmX10 hown hK hP hD hS 0 rfl rfl 32 (by decide) (hts (.fieldLink RX10 11 "TurnedFloorsModel" "undoMany" "I") f9_wsX10_keeps_164) (fun _ h9 => h9) rfl (by decide +kernel) rfl rfl (Nat.le_of_ble_eq_true rfl) dX10_keeps_49 (fun H locs hp hd hs => ?_)
    obtain ⟨q1, eq1, h⟩ := dL_some h
    refine kz_re (w2 := w10 ty ad q1) hp hd hs (by rw [← eq1]; exact w10_f32 ty ad q ((q.1 0 32) - 1 : Int32)) ?_
    clear hp hd hs hP hD hS
    intro hP hD hS
    exact WX10_keeps_52 C0  _ _ _ _ _ _ h hP hD hS (lv_sub hl [0, 1, 2] rfl)
  · rw [if_neg c9] at h
    refine lv_aload_n hx hb dX10_keeps_22 rfl (lv_at hl 0 rfl) ?_
    refine va_get (D := D) (ci := 10) (v := .ref (ad 14)) (C := RX10) (T := TX10) (N := 56) hx hb hts u9_wsX10_keeps_X10 hown hK hP 0 rfl rfl 30 (by decide) (hts (.fieldLink RX10 69 "TurnedFloorsModel" "left0" "[I") f9_wsX10_keeps_163) (fun _ h9 => h9) rfl dX10_keeps_23 ?_
    refine lv_iload_n hx hb dX10_keeps_26 rfl (lv_at hl 3 rfl) ?_
    refine lv_aload_n hx hb dX10_keeps_27 rfl (lv_at hl 0 rfl) ?_
    refine va_get (D := D) (ci := 10) (v := .ref (ad 14)) (C := RX10) (T := TX10) (N := 56) hx hb hts u9_wsX10_keeps_X10 hown hK hP 0 rfl rfl 30 (by decide) (hts (.fieldLink RX10 69 "TurnedFloorsModel" "left0" "[I") f9_wsX10_keeps_163) (fun _ h9 => h9) rfl dX10_keeps_28 ?_
    refine lv_iload_n hx hb dX10_keeps_31 rfl (lv_at hl 3 rfl) ?_
    refine lv_iload_n hx hb dX10_keeps_32 rfl (lv_at hl 2 rfl) ?_
    refine lv_iadd hx hb dX10_keeps_33 ?_
    obtain ⟨g2, h⟩ := dG_some h
    refine va_iald hx hb hK hP 14 0 rfl rfl (dg_in g2) dX10_keeps_34 ?_
    obtain ⟨v3, ev3, h⟩ := dL_some h
    refine kz_topi v3 ev3 ?_
    obtain ⟨g4, h⟩ := dG_some h
    refine va_iast hx hb hK hP hD hS 14 0 rfl rfl (dg_in g4) dX10_keeps_35 (fun H locs hp hd hs => ?_)
    obtain ⟨q5, eq5, h⟩ := dL_some h
    refine kz_re (w2 := w10 ty ad q5) hp hd hs (by rw [← eq5]; exact w10_a14 ty ad q (Int32.toNatClampNeg x3) v3) ?_
    clear hp hd hs hP hD hS
    intro hP hD hS
    refine lv_iinc (v := x3 + 1) (lv' := [(3, .int (x3 + 1)), (0, .ref (ad 0)), (1, .int x1), (2, .int x2)]) hx hb dX10_keeps_36 hl (k := 3) rfl rfl (by decide) rfl (fun ls hl => ?_)
    refine lv_goto (tgt := 14) hx hb dX10_keeps_39 (by decide) ?_
    exact hk14 _ _ _ _ _ _ _ h hP hD hS (lv_sub hl [1, 2, 3, 0] rfl)
set_option maxHeartbeats 4000000 in
set_option maxRecDepth 100000 in
theorem WX10_keeps_14 {p : Program} {l : Launch} {e : Env} {s : State} {m : MethodId} {args : Array Value} {below : List Frame} {meth : Method} {c : Code} {D : va_G} {ty : Nat → ClassId} {eo : Nat → Nat} {A : Nat → Prop} {ad : Nat → Nat} {o2 : dS} (C : dc_C p s m args meth c cX10_keeps none 4 RX10 wsX10_keeps D ty eo A)   (n : Nat) (q : dS) (x1 : Int32) (x2 : Int32) (x3 : Int32) (H : Heap) (locs : List Loc) (ls : Array Slot) (h : zX10_keeps_14  n q x1 x2 x3 = some o2) (hP : va_P D vwCl (w10 ty ad q) H) (hD : va_D A (w10 ty ad q)) (hS : va_S A s.heap H locs) (hl : lv_has ls 4 [(0, .ref (ad 0)), (1, .int x1), (2, .int x2), (3, .int x3)]) : W p l e ({ frames := 0, cells := 0, slots := 0, locals := 0 } : Room) s m args below meth c H locs 0 0 (MQ below (va_Qv (fun (u : va_W) => w10 ty ad o2 = u) (kz_B D ty A) A) args s 0 0 A) (F0 m 14 ls []) := by
  exact dFix_W (F := fun k (a : dS × Int32 × Int32 × Int32) => zX10_keeps_14b  (fun q x1 x2 x3 => k (q, x1, x2, x3)) a.1 a.2.1 a.2.2.1 a.2.2.2) (o := o2) (P := fun (a : dS × Int32 × Int32 × Int32) H locs ls => va_P D vwCl (w10 ty ad a.1) H ∧ va_D A (w10 ty ad a.1) ∧ va_S A s.heap H locs ∧ lv_has ls 4 [(0, .ref (ad 0)), (1, .int a.2.1), (2, .int a.2.2.1), (3, .int a.2.2.2)]) (G := fun H locs ls => W p l e ({ frames := 0, cells := 0, slots := 0, locals := 0 } : Room) s m args below meth c H locs 0 0 (MQ below (va_Qv (fun (u : va_W) => w10 ty ad o2 = u) (kz_B D ty A) A) args s 0 0 A) (F0 m 14 ls []))
    (fun k hk a H locs ls h hp => WX10_keeps_14b C  (fun q x1 x2 x3 H locs ls h h1 h2 h3 h4 => hk (q, x1, x2, x3) H locs ls h ⟨h1, h2, h3, h4⟩) a.1 a.2.1 a.2.2.1 a.2.2.2 H locs ls h hp.1 hp.2.1 hp.2.2.1 hp.2.2.2) n (q, x1, x2, x3) H locs ls h ⟨hP, hD, hS, hl⟩
set_option maxHeartbeats 4000000 in
set_option maxRecDepth 100000 in
theorem qX10_keeps (l : Launch) (D : va_G) (ty : Nat → ClassId) (eo : Nat → Nat) (sz : Nat) (ad : Nat → Nat) (q : dS) (p1 : Int32) (o2 : dS) (h : zX10_keeps q p1 = some o2) : Met l yX10_keeps wsX10_keeps ({ frames := 0, cells := 0, slots := 0, locals := 0 } : Room) (va_Pc [.ref (ad 0), .int p1] (kz_pre D ty eo (w10 ty ad q) sz)) (va_Qv (fun (u : va_W) => w10 ty ad o2 = u) (kz_B D ty (va_A (w10 ty ad q) sz)) (va_A (w10 ty ad q) sz)) 0 0 (va_A (w10 ty ad q) sz) := by
  refine Met.ofW (cc := cX10_keeps) (maxL := 4) (ret := none) (by decide) rfl ?_
  intro p e s m args below meth c s₁ B hml hv
  obtain ⟨rfl, hsz, hP, hK, hD0, hN, hE⟩ := hv
  have hx := B.exec
  have hb := B.bytes
  have hr := B.returns
  have hts := atoms_spec (ws := wsX10_keeps) B.pre
  have hown : s.vm.findClass RX10 = some m.cls := findClass_of_methodNamed B.named
  have hlocks := B.notSynchronized
  subst hsz
  have hD := hD0.self (sz := s.heap.size)
  generalize hAe : va_A (w10 ty ad q) s.heap.size = A at hD hE ⊢
  have hA : ∀ q : Nat, s.heap.size ≤ q → A q := fun q h => by rw [← hAe]; exact Or.inr h
  clear hAe
  have hS : va_S A s.heap s.heap [] := va_S.rf
  have hl := lv_entry ([.ref (ad 0), .int p1]) (n := 4) (Nat.le_of_ble_eq_true rfl)
  rw [lg_entry_eq]
  generalize (lg_sl ([.ref (ad 0), .int p1]) ++ List.replicate (4 - (lg_sl ([.ref (ad 0), .int p1])).length) Slot.unset).toArray = ls at hl ⊢
  have hl : lv_has ls 4 [(0, .ref (ad 0)), (1, .int p1)] := hl
  have C : dc_C p s m _ meth c cX10_keeps none 4 RX10 wsX10_keeps D ty eo A := ⟨hx, hb, hr, hts, hown, hlocks, hml, hK, hN, hE, hA⟩
  unfold zX10_keeps at h
  refine lv_bipush (v := 15) hx hb dX10_keeps_0 (by decide) ?_
  refine lv_istore_n (lv' := [(2, .int 15), (0, .ref (ad 0)), (1, .int p1)]) hx hb dX10_keeps_2 rfl hl (by decide) rfl (fun ls hl => ?_)
  refine lv_aload_n hx hb dX10_keeps_3 rfl (lv_at hl 1 rfl) ?_
  refine va_get (D := D) (ci := 10) (v := .int (q.1 0 32)) (C := RX10) (T := TX10) (N := 56) hx hb hts u9_wsX10_keeps_X10 hown hK hP 0 rfl rfl 32 (by decide) (hts (.fieldLink RX10 11 "TurnedFloorsModel" "undoMany" "I") f9_wsX10_keeps_164) (fun _ h9 => h9) rfl dX10_keeps_4 ?_
  refine lv_bipush (v := 16) hx hb dX10_keeps_7 (by decide) ?_
  refine lv_icmp_ne (tgt := 52) hx hb dX10_keeps_9 (by decide) (fun c9 => ?_) (fun c9 => ?_)
  · rw [if_neg c9] at h
    exact WX10_keeps_52 C  _ _ _ _ _ _ h hP hD hS (lv_sub hl [1, 2, 0] rfl)
  · rw [if_pos c9] at h
    refine lv_iconst (v := 0) hx hb dX10_keeps_12 (by decide) ?_
    refine lv_istore_n (lv' := [(3, .int 0), (2, .int 15), (0, .ref (ad 0)), (1, .int p1)]) hx hb dX10_keeps_13 rfl hl (by decide) rfl (fun ls hl => ?_)
    exact WX10_keeps_14 C  _ _ _ _ _ _ _ _ h hP hD hS (lv_sub hl [2, 3, 1, 0] rfl)

set_option maxHeartbeats 4000000 in
set_option maxRecDepth 100000 in
theorem WX10_undo_34b {p : Program} {l : Launch} {e : Env} {s : State} {m : MethodId} {args : Array Value} {below : List Frame} {meth : Method} {c : Code} {D : va_G} {ty : Nat → ClassId} {eo : Nat → Nat} {A : Nat → Prop} {ad : Nat → Nat} {o1 : Int32} {o2 : dS} (C : dc_C p s m args meth c cX10_undo (some .int) 3 RX10 wsX10_undo D ty eo A) {k34 : dS → Int32 → Int32 → Option (Int32 × dS)} (hk34 : ∀ (q : dS) (x1 : Int32) (x2 : Int32) (H : Heap) (locs : List Loc) (ls : Array Slot), k34 q x1 x2 = some (o1, o2) → va_P D vwCl (w10 ty ad q) H → va_D A (w10 ty ad q) → va_S A s.heap H locs → lv_has ls 3 [(0, .ref (ad 0)), (1, .int x1), (2, .int x2)] → W p l e ({ frames := 1, cells := 0, slots := 0, locals := 21 } : Room) s m args below meth c H locs 0 0 (MQ below (va_Qi (fun (r : Int32) (u : va_W) => o1 = r ∧ w10 ty ad o2 = u) (kz_B D ty A) A) args s 0 0 A) (F0 m 34 ls [])) (q : dS) (x1 : Int32) (x2 : Int32) (H : Heap) (locs : List Loc) (ls : Array Slot) (h : zX10_undo_34b k34 q x1 x2 = some (o1, o2)) (hP : va_P D vwCl (w10 ty ad q) H) (hD : va_D A (w10 ty ad q)) (hS : va_S A s.heap H locs) (hl : lv_has ls 3 [(0, .ref (ad 0)), (1, .int x1), (2, .int x2)]) : W p l e ({ frames := 1, cells := 0, slots := 0, locals := 21 } : Room) s m args below meth c H locs 0 0 (MQ below (va_Qi (fun (r : Int32) (u : va_W) => o1 = r ∧ w10 ty ad o2 = u) (kz_B D ty A) A) args s 0 0 A) (F0 m 34 ls []) := by
  have C0 := C
  obtain ⟨hx, hb, hr, hts, hown, hlocks, hml, hK, hN, hE, hA⟩ := C
  unfold zX10_undo_34b at h
  refine lv_iload_n hx hb dX10_undo_34 rfl (lv_at hl 2 rfl) ?_
  refine lv_bipush (v := 14) hx hb dX10_undo_35 (by decide) ?_
  refine lv_icmp_ge (tgt := 60) hx hb dX10_undo_37 (by decide) (fun c9 => ?_) (fun c9 => ?_)
  · rw [if_pos c9] at h
    refine lv_aload_n hx hb dX10_undo_60 rfl (lv_at hl 0 rfl) ?_
    refine lv_aload_n hx hb dX10_undo_61 rfl (lv_at hl 0 rfl) ?_
    refine va_get (D := D) (ci := 10) (v := .ref (ad 14)) (C := RX10) (T := TX10) (N := 56) hx hb hts u9_wsX10_undo_X10 hown hK hP 0 rfl rfl 30 (by decide) (hts (.fieldLink RX10 69 "TurnedFloorsModel" "left0" "[I") f9_wsX10_undo_167) (fun _ h9 => h9) rfl dX10_undo_62 ?_
    refine lv_iload_n hx hb dX10_undo_65 rfl (lv_at hl 1 rfl) ?_
    refine lv_bipush (v := 14) hx hb dX10_undo_66 (by decide) ?_
    refine lv_iadd hx hb dX10_undo_68 ?_
    obtain ⟨g1, h⟩ := dG_some h
    refine va_iald hx hb hK hP 14 0 rfl rfl (dg_in g1) dX10_undo_69 ?_
    obtain ⟨v2, ev2, h⟩ := dL_some h
    refine kz_topi v2 ev2 ?_
    obtain ⟨r3, q5, h4, h⟩ := dB_some h
    refine dw_ki (va_runV (As := [.int v2]) (rest := []) ⟨hx, hb, hml, hown, hts⟩ (qX10_good l D ty eo _ ad q v2 r3 q5 h4) (cwV 1 hts gX10_undo_X10_good rfl rfl rfl (by decide +kernel) ⟨Nat.le_of_ble_eq_true rfl, Nat.le_of_ble_eq_true rfl⟩) (dw_preV (ci := 10) (q0 := 0) hK hN hE hP hD hS hA rfl rfl) rfl rfl hl.1 rfl (lv_room (Nat.le_of_ble_eq_true rfl)) dX10_undo_70 ⟨Nat.le_of_ble_eq_true rfl, Nat.le_of_ble_eq_true rfl⟩) hD hS hA (fun r9 u9 H locs hw hp hd hs => ?_)
    clear hP hD hS
    obtain ⟨rfl, rfl⟩ := hw
    have hP := hp; have hD := hd; have hS := hs; clear hp hd hs
    cases h
    exact kz_iret hx hb hr hlocks hP hK hD hS dX10_undo_73 ⟨rfl, rfl⟩
  · rw [if_neg c9] at h
    refine lv_aload_n hx hb dX10_undo_40 rfl (lv_at hl 0 rfl) ?_
    refine va_get (D := D) (ci := 10) (v := .ref (ad 2)) (C := RX10) (T := TX10) (N := 56) hx hb hts u9_wsX10_undo_X10 hown hK hP 0 rfl rfl 2 (by decide) (hts (.fieldLink RX10 28 "TurnedFloorsModel" "kept" "[I") f9_wsX10_undo_168) (fun _ h9 => h9) rfl dX10_undo_41 ?_
    refine lv_iload_n hx hb dX10_undo_44 rfl (lv_at hl 2 rfl) ?_
    refine lv_aload_n hx hb dX10_undo_45 rfl (lv_at hl 0 rfl) ?_
    refine va_get (D := D) (ci := 10) (v := .ref (ad 14)) (C := RX10) (T := TX10) (N := 56) hx hb hts u9_wsX10_undo_X10 hown hK hP 0 rfl rfl 30 (by decide) (hts (.fieldLink RX10 69 "TurnedFloorsModel" "left0" "[I") f9_wsX10_undo_167) (fun _ h9 => h9) rfl dX10_undo_46 ?_
    refine lv_iload_n hx hb dX10_undo_49 rfl (lv_at hl 1 rfl) ?_
    refine lv_iload_n hx hb dX10_undo_50 rfl (lv_at hl 2 rfl) ?_
    refine lv_iadd hx hb dX10_undo_51 ?_
    obtain ⟨g6, h⟩ := dG_some h
    refine va_iald hx hb hK hP 14 0 rfl rfl (dg_in g6) dX10_undo_52 ?_
    obtain ⟨v7, ev7, h⟩ := dL_some h
    refine kz_topi v7 ev7 ?_
    obtain ⟨g8, h⟩ := dG_some h
    refine va_iast hx hb hK hP hD hS 2 0 rfl rfl (dg_in g8) dX10_undo_53 (fun H locs hp hd hs => ?_)
    obtain ⟨q9, eq9, h⟩ := dL_some h
    refine kz_re (w2 := w10 ty ad q9) hp hd hs (by rw [← eq9]; exact w10_a2 ty ad q (Int32.toNatClampNeg x2) v7) ?_
    clear hp hd hs hP hD hS
    intro hP hD hS
    refine lv_iinc (v := x2 + 1) (lv' := [(2, .int (x2 + 1)), (0, .ref (ad 0)), (1, .int x1)]) hx hb dX10_undo_54 hl (k := 2) rfl rfl (by decide) rfl (fun ls hl => ?_)
    refine lv_goto (tgt := 34) hx hb dX10_undo_57 (by decide) ?_
    exact hk34 _ _ _ _ _ _ h hP hD hS (lv_sub hl [1, 2, 0] rfl)
set_option maxHeartbeats 4000000 in
set_option maxRecDepth 100000 in
theorem WX10_undo_34 {p : Program} {l : Launch} {e : Env} {s : State} {m : MethodId} {args : Array Value} {below : List Frame} {meth : Method} {c : Code} {D : va_G} {ty : Nat → ClassId} {eo : Nat → Nat} {A : Nat → Prop} {ad : Nat → Nat} {o1 : Int32} {o2 : dS} (C : dc_C p s m args meth c cX10_undo (some .int) 3 RX10 wsX10_undo D ty eo A)   (n : Nat) (q : dS) (x1 : Int32) (x2 : Int32) (H : Heap) (locs : List Loc) (ls : Array Slot) (h : zX10_undo_34  n q x1 x2 = some (o1, o2)) (hP : va_P D vwCl (w10 ty ad q) H) (hD : va_D A (w10 ty ad q)) (hS : va_S A s.heap H locs) (hl : lv_has ls 3 [(0, .ref (ad 0)), (1, .int x1), (2, .int x2)]) : W p l e ({ frames := 1, cells := 0, slots := 0, locals := 21 } : Room) s m args below meth c H locs 0 0 (MQ below (va_Qi (fun (r : Int32) (u : va_W) => o1 = r ∧ w10 ty ad o2 = u) (kz_B D ty A) A) args s 0 0 A) (F0 m 34 ls []) := by
  exact dFix_W (F := fun k (a : dS × Int32 × Int32) => zX10_undo_34b  (fun q x1 x2 => k (q, x1, x2)) a.1 a.2.1 a.2.2) (o := (o1, o2)) (P := fun (a : dS × Int32 × Int32) H locs ls => va_P D vwCl (w10 ty ad a.1) H ∧ va_D A (w10 ty ad a.1) ∧ va_S A s.heap H locs ∧ lv_has ls 3 [(0, .ref (ad 0)), (1, .int a.2.1), (2, .int a.2.2)]) (G := fun H locs ls => W p l e ({ frames := 1, cells := 0, slots := 0, locals := 21 } : Room) s m args below meth c H locs 0 0 (MQ below (va_Qi (fun (r : Int32) (u : va_W) => o1 = r ∧ w10 ty ad o2 = u) (kz_B D ty A) A) args s 0 0 A) (F0 m 34 ls []))
    (fun k hk a H locs ls h hp => WX10_undo_34b C  (fun q x1 x2 H locs ls h h1 h2 h3 h4 => hk (q, x1, x2) H locs ls h ⟨h1, h2, h3, h4⟩) a.1 a.2.1 a.2.2 H locs ls h hp.1 hp.2.1 hp.2.2.1 hp.2.2.2) n (q, x1, x2) H locs ls h ⟨hP, hD, hS, hl⟩
set_option maxHeartbeats 4000000 in
set_option maxRecDepth 100000 in
theorem qX10_undo (l : Launch) (D : va_G) (ty : Nat → ClassId) (eo : Nat → Nat) (sz : Nat) (ad : Nat → Nat) (q : dS)  (o1 : Int32) (o2 : dS) (h : zX10_undo q = some (o1, o2)) : Met l yX10_undo wsX10_undo ({ frames := 1, cells := 0, slots := 0, locals := 21 } : Room) (va_Pc [.ref (ad 0)] (kz_pre D ty eo (w10 ty ad q) sz)) (va_Qi (fun (r : Int32) (u : va_W) => o1 = r ∧ w10 ty ad o2 = u) (kz_B D ty (va_A (w10 ty ad q) sz)) (va_A (w10 ty ad q) sz)) 0 0 (va_A (w10 ty ad q) sz) := by
  refine Met.ofW (cc := cX10_undo) (maxL := 3) (ret := (some .int)) (by decide) rfl ?_
  intro p e s m args below meth c s₁ B hml hv
  obtain ⟨rfl, hsz, hP, hK, hD0, hN, hE⟩ := hv
  have hx := B.exec
  have hb := B.bytes
  have hr := B.returns
  have hts := atoms_spec (ws := wsX10_undo) B.pre
  have hown : s.vm.findClass RX10 = some m.cls := findClass_of_methodNamed B.named
  have hlocks := B.notSynchronized
  subst hsz
  have hD := hD0.self (sz := s.heap.size)
  generalize hAe : va_A (w10 ty ad q) s.heap.size = A at hD hE ⊢
  have hA : ∀ q : Nat, s.heap.size ≤ q → A q := fun q h => by rw [← hAe]; exact Or.inr h
  clear hAe
  have hS : va_S A s.heap s.heap [] := va_S.rf
  have hl := lv_entry ([.ref (ad 0)]) (n := 3) (Nat.le_of_ble_eq_true rfl)
  rw [lg_entry_eq]
  generalize (lg_sl ([.ref (ad 0)]) ++ List.replicate (3 - (lg_sl ([.ref (ad 0)])).length) Slot.unset).toArray = ls at hl ⊢
  have hl : lv_has ls 3 [(0, .ref (ad 0))] := hl
  have C : dc_C p s m _ meth c cX10_undo (some .int) 3 RX10 wsX10_undo D ty eo A := ⟨hx, hb, hr, hts, hown, hlocks, hml, hK, hN, hE, hA⟩
  unfold zX10_undo at h
  refine lv_aload_n hx hb dX10_undo_0 rfl (lv_at hl 0 rfl) ?_
  refine va_get (D := D) (ci := 10) (v := .int (q.1 0 32)) (C := RX10) (T := TX10) (N := 56) hx hb hts u9_wsX10_undo_X10 hown hK hP 0 rfl rfl 32 (by decide) (hts (.fieldLink RX10 11 "TurnedFloorsModel" "undoMany" "I") f9_wsX10_undo_169) (fun _ h9 => h9) rfl dX10_undo_1 ?_
  refine lv_if_ne (tgt := 14) hx hb dX10_undo_4 (by decide) (fun c9 => ?_) (fun c9 => ?_)
  · rw [if_neg c9] at h
    refine lv_aload_n hx hb dX10_undo_14 rfl (lv_at hl 0 rfl) ?_
    refine lv_dup hx hb dX10_undo_15 rfl ?_
    refine va_get (D := D) (ci := 10) (v := .int (q.1 0 32)) (C := RX10) (T := TX10) (N := 56) hx hb hts u9_wsX10_undo_X10 hown hK hP 0 rfl rfl 32 (by decide) (hts (.fieldLink RX10 11 "TurnedFloorsModel" "undoMany" "I") f9_wsX10_undo_169) (fun _ h9 => h9) rfl dX10_undo_16 ?_
    refine lv_iconst (v := 1) hx hb dX10_undo_19 (by decide) ?_
    refine lv_isub hx hb dX10_undo_20 ?_
    refine va_put (D := D) (ci := 10) (v := .int ((q.1 0 32) - 1 : Int32)) (ty := .int) (C := RX10) (T := TX10) (N := 56) hx hb hts u9_wsX10_undo_X10 tyX10 tyX10_ok nmX10 hown hK hP hD hS 0 rfl rfl 32 (by decide) (hts (.fieldLink RX10 11 "TurnedFloorsModel" "undoMany" "I") f9_wsX10_undo_169) (fun _ h9 => h9) rfl (by decide +kernel) rfl rfl (Nat.le_of_ble_eq_true rfl) dX10_undo_21 (fun H locs hp hd hs => ?_)
    obtain ⟨q1, eq1, h⟩ := dL_some h
    refine kz_re (w2 := w10 ty ad q1) hp hd hs (by rw [← eq1]; exact w10_f32 ty ad q ((q.1 0 32) - 1 : Int32)) ?_
    clear hp hd hs hP hD hS
    intro hP hD hS
    refine lv_bipush (v := 15) hx hb dX10_undo_24 (by decide) ?_
    refine lv_aload_n hx hb dX10_undo_26 rfl (lv_at hl 0 rfl) ?_
    refine va_get (D := D) (ci := 10) (v := .int (q1.1 0 32)) (C := RX10) (T := TX10) (N := 56) hx hb hts u9_wsX10_undo_X10 hown hK hP 0 rfl rfl 32 (by decide) (hts (.fieldLink RX10 11 "TurnedFloorsModel" "undoMany" "I") f9_wsX10_undo_169) (fun _ h9 => h9) rfl dX10_undo_27 ?_
    refine lv_imul hx hb dX10_undo_30 ?_
    refine lv_istore_n (lv' := [(1, .int (15 * (q1.1 0 32) : Int32)), (0, .ref (ad 0))]) hx hb dX10_undo_31 rfl hl (by decide) rfl (fun ls hl => ?_)
    refine lv_iconst (v := 0) hx hb dX10_undo_32 (by decide) ?_
    refine lv_istore_n (lv' := [(2, .int 0), (1, .int (15 * (q1.1 0 32) : Int32)), (0, .ref (ad 0))]) hx hb dX10_undo_33 rfl hl (by decide) rfl (fun ls hl => ?_)
    exact WX10_undo_34 C  _ _ _ _ _ _ _ h hP hD hS (lv_sub hl [2, 1, 0] rfl)
  · rw [if_pos c9] at h
    refine lv_aload_n hx hb dX10_undo_7 rfl (lv_at hl 0 rfl) ?_
    refine lv_bipush (v := (-3)) hx hb dX10_undo_8 (by decide) ?_
    obtain ⟨r2, q4, h3, h⟩ := dB_some h
    refine dw_ki (va_runV (As := [.int (-3)]) (rest := []) ⟨hx, hb, hml, hown, hts⟩ (qX10_refuses l D ty eo _ ad q (-3) r2 q4 h3) (cwV 1 hts gX10_undo_X10_refuses rfl rfl rfl (by decide +kernel) ⟨Nat.le_of_ble_eq_true rfl, Nat.le_of_ble_eq_true rfl⟩) (dw_preV (ci := 10) (q0 := 0) hK hN hE hP hD hS hA rfl rfl) rfl rfl hl.1 rfl (lv_room (Nat.le_of_ble_eq_true rfl)) dX10_undo_10 ⟨Nat.le_of_ble_eq_true rfl, Nat.le_of_ble_eq_true rfl⟩) hD hS hA (fun r9 u9 H locs hw hp hd hs => ?_)
    clear hP hD hS
    obtain ⟨rfl, rfl⟩ := hw
    have hP := hp; have hD := hd; have hS := hs; clear hp hd hs
    cases h
    exact kz_iret hx hb hr hlocks hP hK hD hS dX10_undo_13 ⟨rfl, rfl⟩

set_option maxHeartbeats 4000000 in
set_option maxRecDepth 100000 in
theorem WX10_goodOr_17 {p : Program} {l : Launch} {e : Env} {s : State} {m : MethodId} {args : Array Value} {below : List Frame} {meth : Method} {c : Code} {D : va_G} {ty : Nat → ClassId} {eo : Nat → Nat} {A : Nat → Prop} {ad : Nat → Nat} {o1 : Int32} {o2 : dS} (C : dc_C p s m args meth c cX10_goodOr (some .int) 2 RX10 wsX10_goodOr D ty eo A)   (q : dS) (y0 : Int32) (H : Heap) (locs : List Loc) (ls : Array Slot) (h : zX10_goodOr_17  q y0 = some (o1, o2)) (hP : va_P D vwCl (w10 ty ad q) H) (hD : va_D A (w10 ty ad q)) (hS : va_S A s.heap H locs) (hl : lv_has ls 2 []) : W p l e ({ frames := 1, cells := 0, slots := 0, locals := 21 } : Room) s m args below meth c H locs 0 0 (MQ below (va_Qi (fun (r : Int32) (u : va_W) => o1 = r ∧ w10 ty ad o2 = u) (kz_B D ty A) A) args s 0 0 A) (F0 m 17 ls [.int y0]) := by
  have C0 := C
  obtain ⟨hx, hb, hr, hts, hown, hlocks, hml, hK, hN, hE, hA⟩ := C
  unfold zX10_goodOr_17 at h
  cases h
  exact kz_iret hx hb hr hlocks hP hK hD hS dX10_goodOr_17 ⟨rfl, rfl⟩
set_option maxHeartbeats 4000000 in
set_option maxRecDepth 100000 in
theorem qX10_goodOr (l : Launch) (D : va_G) (ty : Nat → ClassId) (eo : Nat → Nat) (sz : Nat) (ad : Nat → Nat) (q : dS) (p1 : Int32) (o1 : Int32) (o2 : dS) (h : zX10_goodOr q p1 = some (o1, o2)) : Met l yX10_goodOr wsX10_goodOr ({ frames := 1, cells := 0, slots := 0, locals := 21 } : Room) (va_Pc [.ref (ad 0), .int p1] (kz_pre D ty eo (w10 ty ad q) sz)) (va_Qi (fun (r : Int32) (u : va_W) => o1 = r ∧ w10 ty ad o2 = u) (kz_B D ty (va_A (w10 ty ad q) sz)) (va_A (w10 ty ad q) sz)) 0 0 (va_A (w10 ty ad q) sz) := by
  refine Met.ofW (cc := cX10_goodOr) (maxL := 2) (ret := (some .int)) (by decide) rfl ?_
  intro p e s m args below meth c s₁ B hml hv
  obtain ⟨rfl, hsz, hP, hK, hD0, hN, hE⟩ := hv
  have hx := B.exec
  have hb := B.bytes
  have hr := B.returns
  have hts := atoms_spec (ws := wsX10_goodOr) B.pre
  have hown : s.vm.findClass RX10 = some m.cls := findClass_of_methodNamed B.named
  have hlocks := B.notSynchronized
  subst hsz
  have hD := hD0.self (sz := s.heap.size)
  generalize hAe : va_A (w10 ty ad q) s.heap.size = A at hD hE ⊢
  have hA : ∀ q : Nat, s.heap.size ≤ q → A q := fun q h => by rw [← hAe]; exact Or.inr h
  clear hAe
  have hS : va_S A s.heap s.heap [] := va_S.rf
  have hl := lv_entry ([.ref (ad 0), .int p1]) (n := 2) (Nat.le_of_ble_eq_true rfl)
  rw [lg_entry_eq]
  generalize (lg_sl ([.ref (ad 0), .int p1]) ++ List.replicate (2 - (lg_sl ([.ref (ad 0), .int p1])).length) Slot.unset).toArray = ls at hl ⊢
  have hl : lv_has ls 2 [(0, .ref (ad 0)), (1, .int p1)] := hl
  have C : dc_C p s m _ meth c cX10_goodOr (some .int) 2 RX10 wsX10_goodOr D ty eo A := ⟨hx, hb, hr, hts, hown, hlocks, hml, hK, hN, hE, hA⟩
  unfold zX10_goodOr at h
  refine lv_iload_n hx hb dX10_goodOr_0 rfl (lv_at hl 1 rfl) ?_
  refine lv_if_ge (tgt := 12) hx hb dX10_goodOr_1 (by decide) (fun c9 => ?_) (fun c9 => ?_)
  · rw [if_pos c9] at h
    refine lv_aload_n hx hb dX10_goodOr_12 rfl (lv_at hl 0 rfl) ?_
    refine lv_iload_n hx hb dX10_goodOr_13 rfl (lv_at hl 1 rfl) ?_
    obtain ⟨r1, q3, h2, h⟩ := dB_some h
    refine dw_ki (va_runV (As := [.int p1]) (rest := []) ⟨hx, hb, hml, hown, hts⟩ (qX10_good l D ty eo _ ad q p1 r1 q3 h2) (cwV 1 hts gX10_goodOr_X10_good rfl rfl rfl (by decide +kernel) ⟨Nat.le_of_ble_eq_true rfl, Nat.le_of_ble_eq_true rfl⟩) (dw_preV (ci := 10) (q0 := 0) hK hN hE hP hD hS hA rfl rfl) rfl rfl hl.1 rfl (lv_room (Nat.le_of_ble_eq_true rfl)) dX10_goodOr_14 ⟨Nat.le_of_ble_eq_true rfl, Nat.le_of_ble_eq_true rfl⟩) hD hS hA (fun r9 u9 H locs hw hp hd hs => ?_)
    clear hP hD hS
    obtain ⟨rfl, rfl⟩ := hw
    have hP := hp; have hD := hd; have hS := hs; clear hp hd hs
    exact WX10_goodOr_17 C  _ _ _ _ _ h hP hD hS (lv_sub hl [] rfl)
  · rw [if_neg c9] at h
    refine lv_aload_n hx hb dX10_goodOr_4 rfl (lv_at hl 0 rfl) ?_
    refine lv_iload_n hx hb dX10_goodOr_5 rfl (lv_at hl 1 rfl) ?_
    obtain ⟨r4, q6, h5, h⟩ := dB_some h
    refine dw_ki (va_runV (As := [.int p1]) (rest := []) ⟨hx, hb, hml, hown, hts⟩ (qX10_refuses l D ty eo _ ad q p1 r4 q6 h5) (cwV 1 hts gX10_goodOr_X10_refuses rfl rfl rfl (by decide +kernel) ⟨Nat.le_of_ble_eq_true rfl, Nat.le_of_ble_eq_true rfl⟩) (dw_preV (ci := 10) (q0 := 0) hK hN hE hP hD hS hA rfl rfl) rfl rfl hl.1 rfl (lv_room (Nat.le_of_ble_eq_true rfl)) dX10_goodOr_6 ⟨Nat.le_of_ble_eq_true rfl, Nat.le_of_ble_eq_true rfl⟩) hD hS hA (fun r9 u9 H locs hw hp hd hs => ?_)
    clear hP hD hS
    obtain ⟨rfl, rfl⟩ := hw
    have hP := hp; have hD := hd; have hS := hs; clear hp hd hs
    refine lv_goto (tgt := 17) hx hb dX10_goodOr_9 (by decide) ?_
    exact WX10_goodOr_17 C  _ _ _ _ _ h hP hD hS (lv_sub hl [] rfl)

set_option maxHeartbeats 4000000 in
set_option maxRecDepth 100000 in
theorem qX10_turnsKept (l : Launch) (D : va_G) (ty : Nat → ClassId) (eo : Nat → Nat) (sz : Nat) (ad : Nat → Nat) (q : dS) (p1 : Int32) (o1 : Int32) (o2 : dS) (h : zX10_turnsKept q p1 = some (o1, o2)) : Met l yX10_turnsKept wsX10_turnsKept ({ frames := 88, cells := 0, slots := 0, locals := 2245 } : Room) (va_Pc [.ref (ad 0), .int p1] (kz_pre D ty eo (w10 ty ad q) sz)) (va_Qi (fun (r : Int32) (u : va_W) => o1 = r ∧ w10 ty ad o2 = u) (kz_B D ty (va_A (w10 ty ad q) sz)) (va_A (w10 ty ad q) sz)) 0 0 (va_A (w10 ty ad q) sz) := by
  refine Met.ofW (cc := cX10_turnsKept) (maxL := 2) (ret := (some .int)) (by decide) rfl ?_
  intro p e s m args below meth c s₁ B hml hv
  obtain ⟨rfl, hsz, hP, hK, hD0, hN, hE⟩ := hv
  have hx := B.exec
  have hb := B.bytes
  have hr := B.returns
  have hts := atoms_spec (ws := wsX10_turnsKept) B.pre
  have hown : s.vm.findClass RX10 = some m.cls := findClass_of_methodNamed B.named
  have hlocks := B.notSynchronized
  subst hsz
  have hD := hD0.self (sz := s.heap.size)
  generalize hAe : va_A (w10 ty ad q) s.heap.size = A at hD hE ⊢
  have hA : ∀ q : Nat, s.heap.size ≤ q → A q := fun q h => by rw [← hAe]; exact Or.inr h
  clear hAe
  have hS : va_S A s.heap s.heap [] := va_S.rf
  have hl := lv_entry ([.ref (ad 0), .int p1]) (n := 2) (Nat.le_of_ble_eq_true rfl)
  rw [lg_entry_eq]
  generalize (lg_sl ([.ref (ad 0), .int p1]) ++ List.replicate (2 - (lg_sl ([.ref (ad 0), .int p1])).length) Slot.unset).toArray = ls at hl ⊢
  have hl : lv_has ls 2 [(0, .ref (ad 0)), (1, .int p1)] := hl
  have C : dc_C p s m _ meth c cX10_turnsKept (some .int) 2 RX10 wsX10_turnsKept D ty eo A := ⟨hx, hb, hr, hts, hown, hlocks, hml, hK, hN, hE, hA⟩
  unfold zX10_turnsKept at h
  refine lv_iload_n hx hb dX10_turnsKept_0 rfl (lv_at hl 1 rfl) ?_
  refine lv_iconst (v := 1) hx hb dX10_turnsKept_1 (by decide) ?_
  refine lv_bipush (v := 6) hx hb dX10_turnsKept_2 (by decide) ?_
  obtain ⟨r1, h2, h⟩ := dV_some h
  refine dw_ks (va_runS (As := [.int p1, .int 1, .int 6]) (rest := []) ⟨hx, hb, hml, hown, hts⟩ (qX10_lies l D ty eo _ p1 1 6 _ h2) (va_cwS 3 hts gX10_turnsKept_X10_lies rfl rfl rfl (by decide +kernel) ⟨Nat.le_of_ble_eq_true rfl, Nat.le_of_ble_eq_true rfl⟩) (kz_preS hK hN hE hP hD hS hA [] (by decide) rfl) rfl rfl hl.1 rfl (lv_room (Nat.le_of_ble_eq_true rfl)) dX10_turnsKept_4 ⟨Nat.le_of_ble_eq_true rfl, Nat.le_of_ble_eq_true rfl⟩) hP hD hS hA (fun _ _ h9 => h9.2.symm) (fun r9 u9 H locs hw hp hd hs => ?_)
  obtain ⟨rfl, -⟩ := hw
  clear hP hD hS
  have hP := hp; have hD := hd; have hS := hs; clear hp hd hs
  refine lv_if_ne (tgt := 12) hx hb dX10_turnsKept_7 (by decide) (fun c9 => ?_) (fun c9 => ?_)
  · rw [if_neg c9] at h
    refine lv_aload_n hx hb dX10_turnsKept_12 rfl (lv_at hl 0 rfl) ?_
    refine lv_iload_n hx hb dX10_turnsKept_13 rfl (lv_at hl 1 rfl) ?_
    obtain ⟨r3, q5, h4, h⟩ := dB_some h
    refine dw_ki (va_runV (As := [.int p1]) (rest := []) ⟨hx, hb, hml, hown, hts⟩ (qX10_canTurn l D ty eo _ ad q p1 r3 q5 h4) (cwV 1 hts gX10_turnsKept_X10_canTurn rfl rfl rfl (by decide +kernel) ⟨Nat.le_of_ble_eq_true rfl, Nat.le_of_ble_eq_true rfl⟩) (dw_preV (ci := 10) (q0 := 0) hK hN hE hP hD hS hA rfl rfl) rfl rfl hl.1 rfl (lv_room (Nat.le_of_ble_eq_true rfl)) dX10_turnsKept_14 ⟨Nat.le_of_ble_eq_true rfl, Nat.le_of_ble_eq_true rfl⟩) hD hS hA (fun r9 u9 H locs hw hp hd hs => ?_)
    clear hP hD hS
    obtain ⟨rfl, rfl⟩ := hw
    have hP := hp; have hD := hd; have hS := hs; clear hp hd hs
    refine lv_if_ne (tgt := 23) hx hb dX10_turnsKept_17 (by decide) (fun c9 => ?_) (fun c9 => ?_)
    · rw [if_neg c9] at h
      refine lv_aload_n hx hb dX10_turnsKept_23 rfl (lv_at hl 0 rfl) ?_
      refine lv_iconst (v := 0) hx hb dX10_turnsKept_24 (by decide) ?_
      obtain ⟨q8, h7, h⟩ := dV_some h
      refine dw_kv (va_runV (As := [.int 0]) (rest := []) ⟨hx, hb, hml, hown, hts⟩ (qX10_keeps l D ty eo _ ad q5 0 q8 h7) (cwV 1 hts gX10_turnsKept_X10_keeps rfl rfl rfl (by decide +kernel) ⟨Nat.le_of_ble_eq_true rfl, Nat.le_of_ble_eq_true rfl⟩) (dw_preV (ci := 10) (q0 := 0) hK hN hE hP hD hS hA rfl rfl) rfl rfl hl.1 rfl (lv_room (Nat.le_of_ble_eq_true rfl)) dX10_turnsKept_25 ⟨Nat.le_of_ble_eq_true rfl, Nat.le_of_ble_eq_true rfl⟩) hD hS hA (fun u9 H locs hw hp hd hs => ?_)
      clear hP hD hS
      obtain rfl := hw
      have hP := hp; have hD := hd; have hS := hs; clear hp hd hs
      refine lv_aload_n hx hb dX10_turnsKept_28 rfl (lv_at hl 0 rfl) ?_
      refine lv_iload_n hx hb dX10_turnsKept_29 rfl (lv_at hl 1 rfl) ?_
      obtain ⟨r9, q11, h10, h⟩ := dB_some h
      refine dw_ki (va_runV (As := [.int p1]) (rest := []) ⟨hx, hb, hml, hown, hts⟩ (qX10_turns l D ty eo _ ad q8 p1 r9 q11 h10) (cwV 1 hts gX10_turnsKept_X10_turns rfl rfl rfl (by decide +kernel) ⟨Nat.le_of_ble_eq_true rfl, Nat.le_of_ble_eq_true rfl⟩) (dw_preV (ci := 10) (q0 := 0) hK hN hE hP hD hS hA rfl rfl) rfl rfl hl.1 rfl (lv_room (Nat.le_of_ble_eq_true rfl)) dX10_turnsKept_30 ⟨Nat.le_of_ble_eq_true rfl, Nat.le_of_ble_eq_true rfl⟩) hD hS hA (fun r9 u9 H locs hw hp hd hs => ?_)
      clear hP hD hS
      obtain ⟨rfl, rfl⟩ := hw
      have hP := hp; have hD := hd; have hS := hs; clear hp hd hs
      cases h
      exact kz_iret hx hb hr hlocks hP hK hD hS dX10_turnsKept_33 ⟨rfl, rfl⟩
    · rw [if_pos c9] at h
      refine lv_bipush (v := (-3)) hx hb dX10_turnsKept_20 (by decide) ?_
      cases h
      exact kz_iret hx hb hr hlocks hP hK hD hS dX10_turnsKept_22 ⟨rfl, rfl⟩
  · rw [if_pos c9] at h
    refine lv_iconst (v := (-1)) hx hb dX10_turnsKept_10 (by decide) ?_
    cases h
    exact kz_iret hx hb hr hlocks hP hK hD hS dX10_turnsKept_11 ⟨rfl, rfl⟩

set_option maxHeartbeats 4000000 in
set_option maxRecDepth 100000 in
theorem qX10_rightsKept (l : Launch) (D : va_G) (ty : Nat → ClassId) (eo : Nat → Nat) (sz : Nat) (ad : Nat → Nat) (q : dS) (p1 : Int32) (o1 : Int32) (o2 : dS) (h : zX10_rightsKept q p1 = some (o1, o2)) : Met l yX10_rightsKept wsX10_rightsKept ({ frames := 2, cells := 0, slots := 0, locals := 43 } : Room) (va_Pc [.ref (ad 0), .int p1] (kz_pre D ty eo (w10 ty ad q) sz)) (va_Qi (fun (r : Int32) (u : va_W) => o1 = r ∧ w10 ty ad o2 = u) (kz_B D ty (va_A (w10 ty ad q) sz)) (va_A (w10 ty ad q) sz)) 0 0 (va_A (w10 ty ad q) sz) := by
  refine Met.ofW (cc := cX10_rightsKept) (maxL := 2) (ret := (some .int)) (by decide) rfl ?_
  intro p e s m args below meth c s₁ B hml hv
  obtain ⟨rfl, hsz, hP, hK, hD0, hN, hE⟩ := hv
  have hx := B.exec
  have hb := B.bytes
  have hr := B.returns
  have hts := atoms_spec (ws := wsX10_rightsKept) B.pre
  have hown : s.vm.findClass RX10 = some m.cls := findClass_of_methodNamed B.named
  have hlocks := B.notSynchronized
  subst hsz
  have hD := hD0.self (sz := s.heap.size)
  generalize hAe : va_A (w10 ty ad q) s.heap.size = A at hD hE ⊢
  have hA : ∀ q : Nat, s.heap.size ≤ q → A q := fun q h => by rw [← hAe]; exact Or.inr h
  clear hAe
  have hS : va_S A s.heap s.heap [] := va_S.rf
  have hl := lv_entry ([.ref (ad 0), .int p1]) (n := 2) (Nat.le_of_ble_eq_true rfl)
  rw [lg_entry_eq]
  generalize (lg_sl ([.ref (ad 0), .int p1]) ++ List.replicate (2 - (lg_sl ([.ref (ad 0), .int p1])).length) Slot.unset).toArray = ls at hl ⊢
  have hl : lv_has ls 2 [(0, .ref (ad 0)), (1, .int p1)] := hl
  have C : dc_C p s m _ meth c cX10_rightsKept (some .int) 2 RX10 wsX10_rightsKept D ty eo A := ⟨hx, hb, hr, hts, hown, hlocks, hml, hK, hN, hE, hA⟩
  unfold zX10_rightsKept at h
  refine lv_iload_n hx hb dX10_rightsKept_0 rfl (lv_at hl 1 rfl) ?_
  refine lv_iconst (v := 0) hx hb dX10_rightsKept_1 (by decide) ?_
  refine lv_iconst (v := 5) hx hb dX10_rightsKept_2 (by decide) ?_
  obtain ⟨r1, h2, h⟩ := dV_some h
  refine dw_ks (va_runS (As := [.int p1, .int 0, .int 5]) (rest := []) ⟨hx, hb, hml, hown, hts⟩ (qX10_lies l D ty eo _ p1 0 5 _ h2) (va_cwS 3 hts gX10_rightsKept_X10_lies rfl rfl rfl (by decide +kernel) ⟨Nat.le_of_ble_eq_true rfl, Nat.le_of_ble_eq_true rfl⟩) (kz_preS hK hN hE hP hD hS hA [] (by decide) rfl) rfl rfl hl.1 rfl (lv_room (Nat.le_of_ble_eq_true rfl)) dX10_rightsKept_3 ⟨Nat.le_of_ble_eq_true rfl, Nat.le_of_ble_eq_true rfl⟩) hP hD hS hA (fun _ _ h9 => h9.2.symm) (fun r9 u9 H locs hw hp hd hs => ?_)
  obtain ⟨rfl, -⟩ := hw
  clear hP hD hS
  have hP := hp; have hD := hd; have hS := hs; clear hp hd hs
  refine lv_if_ne (tgt := 11) hx hb dX10_rightsKept_6 (by decide) (fun c9 => ?_) (fun c9 => ?_)
  · rw [if_neg c9] at h
    refine lv_aload_n hx hb dX10_rightsKept_11 rfl (lv_at hl 0 rfl) ?_
    refine lv_iload_n hx hb dX10_rightsKept_12 rfl (lv_at hl 1 rfl) ?_
    obtain ⟨r3, q5, h4, h⟩ := dB_some h
    refine dw_ki (va_runV (As := [.int p1]) (rest := []) ⟨hx, hb, hml, hown, hts⟩ (qX10_isPlace l D ty eo _ ad q p1 r3 q5 h4) (cwV 1 hts gX10_rightsKept_X10_isPlace rfl rfl rfl (by decide +kernel) ⟨Nat.le_of_ble_eq_true rfl, Nat.le_of_ble_eq_true rfl⟩) (dw_preV (ci := 10) (q0 := 0) hK hN hE hP hD hS hA rfl rfl) rfl rfl hl.1 rfl (lv_room (Nat.le_of_ble_eq_true rfl)) dX10_rightsKept_13 ⟨Nat.le_of_ble_eq_true rfl, Nat.le_of_ble_eq_true rfl⟩) hD hS hA (fun r9 u9 H locs hw hp hd hs => ?_)
    clear hP hD hS
    obtain ⟨rfl, rfl⟩ := hw
    have hP := hp; have hD := hd; have hS := hs; clear hp hd hs
    refine lv_if_ne (tgt := 22) hx hb dX10_rightsKept_16 (by decide) (fun c9 => ?_) (fun c9 => ?_)
    · rw [if_neg c9] at h
      refine lv_aload_n hx hb dX10_rightsKept_22 rfl (lv_at hl 0 rfl) ?_
      refine lv_iconst (v := 1) hx hb dX10_rightsKept_23 (by decide) ?_
      obtain ⟨q8, h7, h⟩ := dV_some h
      refine dw_kv (va_runV (As := [.int 1]) (rest := []) ⟨hx, hb, hml, hown, hts⟩ (qX10_keeps l D ty eo _ ad q5 1 q8 h7) (cwV 1 hts gX10_rightsKept_X10_keeps rfl rfl rfl (by decide +kernel) ⟨Nat.le_of_ble_eq_true rfl, Nat.le_of_ble_eq_true rfl⟩) (dw_preV (ci := 10) (q0 := 0) hK hN hE hP hD hS hA rfl rfl) rfl rfl hl.1 rfl (lv_room (Nat.le_of_ble_eq_true rfl)) dX10_rightsKept_24 ⟨Nat.le_of_ble_eq_true rfl, Nat.le_of_ble_eq_true rfl⟩) hD hS hA (fun u9 H locs hw hp hd hs => ?_)
      clear hP hD hS
      obtain rfl := hw
      have hP := hp; have hD := hd; have hS := hs; clear hp hd hs
      refine lv_aload_n hx hb dX10_rightsKept_27 rfl (lv_at hl 0 rfl) ?_
      refine va_get (D := D) (ci := 10) (v := .ref (ad 2)) (C := RX10) (T := TX10) (N := 56) hx hb hts u9_wsX10_rightsKept_X10 hown hK hP 0 rfl rfl 2 (by decide) (hts (.fieldLink RX10 28 "TurnedFloorsModel" "kept" "[I") f9_wsX10_rightsKept_171) (fun _ h9 => h9) rfl dX10_rightsKept_28 ?_
      refine lv_bipush (v := 6) hx hb dX10_rightsKept_31 (by decide) ?_
      refine lv_iload_n hx hb dX10_rightsKept_33 rfl (lv_at hl 1 rfl) ?_
      refine lv_iadd hx hb dX10_rightsKept_34 ?_
      refine lv_iconst (v := 1) hx hb dX10_rightsKept_35 (by decide) ?_
      refine lv_aload_n hx hb dX10_rightsKept_36 rfl (lv_at hl 0 rfl) ?_
      refine va_get (D := D) (ci := 10) (v := .ref (ad 2)) (C := RX10) (T := TX10) (N := 56) hx hb hts u9_wsX10_rightsKept_X10 hown hK hP 0 rfl rfl 2 (by decide) (hts (.fieldLink RX10 28 "TurnedFloorsModel" "kept" "[I") f9_wsX10_rightsKept_171) (fun _ h9 => h9) rfl dX10_rightsKept_37 ?_
      refine lv_bipush (v := 6) hx hb dX10_rightsKept_40 (by decide) ?_
      refine lv_iload_n hx hb dX10_rightsKept_42 rfl (lv_at hl 1 rfl) ?_
      refine lv_iadd hx hb dX10_rightsKept_43 ?_
      obtain ⟨g9, h⟩ := dG_some h
      refine va_iald hx hb hK hP 2 0 rfl rfl (dg_in g9) dX10_rightsKept_44 ?_
      obtain ⟨v10, ev10, h⟩ := dL_some h
      refine kz_topi v10 ev10 ?_
      refine lv_isub hx hb dX10_rightsKept_45 ?_
      obtain ⟨g11, h⟩ := dG_some h
      refine va_iast hx hb hK hP hD hS 2 0 rfl rfl (dg_in g11) dX10_rightsKept_46 (fun H locs hp hd hs => ?_)
      obtain ⟨q12, eq12, h⟩ := dL_some h
      refine kz_re (w2 := w10 ty ad q12) hp hd hs (by rw [← eq12]; exact w10_a2 ty ad q8 (Int32.toNatClampNeg (6 + p1 : Int32)) (1 - v10 : Int32)) ?_
      clear hp hd hs hP hD hS
      intro hP hD hS
      refine lv_aload_n hx hb dX10_rightsKept_47 rfl (lv_at hl 0 rfl) ?_
      refine va_get (D := D) (ci := 10) (v := .ref (ad 2)) (C := RX10) (T := TX10) (N := 56) hx hb hts u9_wsX10_rightsKept_X10 hown hK hP 0 rfl rfl 2 (by decide) (hts (.fieldLink RX10 28 "TurnedFloorsModel" "kept" "[I") f9_wsX10_rightsKept_171) (fun _ h9 => h9) rfl dX10_rightsKept_48 ?_
      refine lv_bipush (v := 6) hx hb dX10_rightsKept_51 (by decide) ?_
      refine lv_iload_n hx hb dX10_rightsKept_53 rfl (lv_at hl 1 rfl) ?_
      refine lv_iadd hx hb dX10_rightsKept_54 ?_
      obtain ⟨g13, h⟩ := dG_some h
      refine va_iald hx hb hK hP 2 0 rfl rfl (dg_in g13) dX10_rightsKept_55 ?_
      obtain ⟨v14, ev14, h⟩ := dL_some h
      refine kz_topi v14 ev14 ?_
      cases h
      exact kz_iret hx hb hr hlocks hP hK hD hS dX10_rightsKept_56 ⟨rfl, rfl⟩
    · rw [if_pos c9] at h
      refine lv_bipush (v := (-3)) hx hb dX10_rightsKept_19 (by decide) ?_
      cases h
      exact kz_iret hx hb hr hlocks hP hK hD hS dX10_rightsKept_21 ⟨rfl, rfl⟩
  · rw [if_pos c9] at h
    refine lv_iconst (v := (-1)) hx hb dX10_rightsKept_9 (by decide) ?_
    cases h
    exact kz_iret hx hb hr hlocks hP hK hD hS dX10_rightsKept_10 ⟨rfl, rfl⟩

set_option maxHeartbeats 4000000 in
set_option maxRecDepth 100000 in
theorem qX10_swapsKept (l : Launch) (D : va_G) (ty : Nat → ClassId) (eo : Nat → Nat) (sz : Nat) (ad : Nat → Nat) (q : dS) (p1 : Int32) (o1 : Int32) (o2 : dS) (h : zX10_swapsKept q p1 = some (o1, o2)) : Met l yX10_swapsKept wsX10_swapsKept ({ frames := 2, cells := 0, slots := 0, locals := 43 } : Room) (va_Pc [.ref (ad 0), .int p1] (kz_pre D ty eo (w10 ty ad q) sz)) (va_Qi (fun (r : Int32) (u : va_W) => o1 = r ∧ w10 ty ad o2 = u) (kz_B D ty (va_A (w10 ty ad q) sz)) (va_A (w10 ty ad q) sz)) 0 0 (va_A (w10 ty ad q) sz) := by
  refine Met.ofW (cc := cX10_swapsKept) (maxL := 2) (ret := (some .int)) (by decide) rfl ?_
  intro p e s m args below meth c s₁ B hml hv
  obtain ⟨rfl, hsz, hP, hK, hD0, hN, hE⟩ := hv
  have hx := B.exec
  have hb := B.bytes
  have hr := B.returns
  have hts := atoms_spec (ws := wsX10_swapsKept) B.pre
  have hown : s.vm.findClass RX10 = some m.cls := findClass_of_methodNamed B.named
  have hlocks := B.notSynchronized
  subst hsz
  have hD := hD0.self (sz := s.heap.size)
  generalize hAe : va_A (w10 ty ad q) s.heap.size = A at hD hE ⊢
  have hA : ∀ q : Nat, s.heap.size ≤ q → A q := fun q h => by rw [← hAe]; exact Or.inr h
  clear hAe
  have hS : va_S A s.heap s.heap [] := va_S.rf
  have hl := lv_entry ([.ref (ad 0), .int p1]) (n := 2) (Nat.le_of_ble_eq_true rfl)
  rw [lg_entry_eq]
  generalize (lg_sl ([.ref (ad 0), .int p1]) ++ List.replicate (2 - (lg_sl ([.ref (ad 0), .int p1])).length) Slot.unset).toArray = ls at hl ⊢
  have hl : lv_has ls 2 [(0, .ref (ad 0)), (1, .int p1)] := hl
  have C : dc_C p s m _ meth c cX10_swapsKept (some .int) 2 RX10 wsX10_swapsKept D ty eo A := ⟨hx, hb, hr, hts, hown, hlocks, hml, hK, hN, hE, hA⟩
  unfold zX10_swapsKept at h
  refine lv_iload_n hx hb dX10_swapsKept_0 rfl (lv_at hl 1 rfl) ?_
  refine lv_iconst (v := 0) hx hb dX10_swapsKept_1 (by decide) ?_
  refine lv_iconst (v := 4) hx hb dX10_swapsKept_2 (by decide) ?_
  obtain ⟨r1, h2, h⟩ := dV_some h
  refine dw_ks (va_runS (As := [.int p1, .int 0, .int 4]) (rest := []) ⟨hx, hb, hml, hown, hts⟩ (qX10_lies l D ty eo _ p1 0 4 _ h2) (va_cwS 3 hts gX10_swapsKept_X10_lies rfl rfl rfl (by decide +kernel) ⟨Nat.le_of_ble_eq_true rfl, Nat.le_of_ble_eq_true rfl⟩) (kz_preS hK hN hE hP hD hS hA [] (by decide) rfl) rfl rfl hl.1 rfl (lv_room (Nat.le_of_ble_eq_true rfl)) dX10_swapsKept_3 ⟨Nat.le_of_ble_eq_true rfl, Nat.le_of_ble_eq_true rfl⟩) hP hD hS hA (fun _ _ h9 => h9.2.symm) (fun r9 u9 H locs hw hp hd hs => ?_)
  obtain ⟨rfl, -⟩ := hw
  clear hP hD hS
  have hP := hp; have hD := hd; have hS := hs; clear hp hd hs
  refine lv_if_ne (tgt := 11) hx hb dX10_swapsKept_6 (by decide) (fun c9 => ?_) (fun c9 => ?_)
  · rw [if_neg c9] at h
    refine lv_aload_n hx hb dX10_swapsKept_11 rfl (lv_at hl 0 rfl) ?_
    refine lv_iload_n hx hb dX10_swapsKept_12 rfl (lv_at hl 1 rfl) ?_
    refine lv_iconst (v := 1) hx hb dX10_swapsKept_13 (by decide) ?_
    refine lv_iadd hx hb dX10_swapsKept_14 ?_
    obtain ⟨r3, q5, h4, h⟩ := dB_some h
    refine dw_ki (va_runV (As := [.int (p1 + 1 : Int32)]) (rest := []) ⟨hx, hb, hml, hown, hts⟩ (qX10_isPlace l D ty eo _ ad q (p1 + 1 : Int32) r3 q5 h4) (cwV 1 hts gX10_swapsKept_X10_isPlace rfl rfl rfl (by decide +kernel) ⟨Nat.le_of_ble_eq_true rfl, Nat.le_of_ble_eq_true rfl⟩) (dw_preV (ci := 10) (q0 := 0) hK hN hE hP hD hS hA rfl rfl) rfl rfl hl.1 rfl (lv_room (Nat.le_of_ble_eq_true rfl)) dX10_swapsKept_15 ⟨Nat.le_of_ble_eq_true rfl, Nat.le_of_ble_eq_true rfl⟩) hD hS hA (fun r9 u9 H locs hw hp hd hs => ?_)
    clear hP hD hS
    obtain ⟨rfl, rfl⟩ := hw
    have hP := hp; have hD := hd; have hS := hs; clear hp hd hs
    refine lv_if_ne (tgt := 24) hx hb dX10_swapsKept_18 (by decide) (fun c9 => ?_) (fun c9 => ?_)
    · rw [if_neg c9] at h
      refine lv_aload_n hx hb dX10_swapsKept_24 rfl (lv_at hl 0 rfl) ?_
      refine lv_iconst (v := 2) hx hb dX10_swapsKept_25 (by decide) ?_
      obtain ⟨q8, h7, h⟩ := dV_some h
      refine dw_kv (va_runV (As := [.int 2]) (rest := []) ⟨hx, hb, hml, hown, hts⟩ (qX10_keeps l D ty eo _ ad q5 2 q8 h7) (cwV 1 hts gX10_swapsKept_X10_keeps rfl rfl rfl (by decide +kernel) ⟨Nat.le_of_ble_eq_true rfl, Nat.le_of_ble_eq_true rfl⟩) (dw_preV (ci := 10) (q0 := 0) hK hN hE hP hD hS hA rfl rfl) rfl rfl hl.1 rfl (lv_room (Nat.le_of_ble_eq_true rfl)) dX10_swapsKept_26 ⟨Nat.le_of_ble_eq_true rfl, Nat.le_of_ble_eq_true rfl⟩) hD hS hA (fun u9 H locs hw hp hd hs => ?_)
      clear hP hD hS
      obtain rfl := hw
      have hP := hp; have hD := hd; have hS := hs; clear hp hd hs
      refine lv_aload_n hx hb dX10_swapsKept_29 rfl (lv_at hl 0 rfl) ?_
      refine lv_iload_n hx hb dX10_swapsKept_30 rfl (lv_at hl 1 rfl) ?_
      refine lv_iload_n hx hb dX10_swapsKept_31 rfl (lv_at hl 1 rfl) ?_
      refine lv_iconst (v := 1) hx hb dX10_swapsKept_32 (by decide) ?_
      refine lv_iadd hx hb dX10_swapsKept_33 ?_
      obtain ⟨q11, h10, h⟩ := dV_some h
      refine dw_kv (va_runV (As := [.int p1, .int (p1 + 1 : Int32)]) (rest := []) ⟨hx, hb, hml, hown, hts⟩ (qX10_exchanges l D ty eo _ ad q8 p1 (p1 + 1 : Int32) q11 h10) (cwV 2 hts gX10_swapsKept_X10_exchanges rfl rfl rfl (by decide +kernel) ⟨Nat.le_of_ble_eq_true rfl, Nat.le_of_ble_eq_true rfl⟩) (dw_preV (ci := 10) (q0 := 0) hK hN hE hP hD hS hA rfl rfl) rfl rfl hl.1 rfl (lv_room (Nat.le_of_ble_eq_true rfl)) dX10_swapsKept_34 ⟨Nat.le_of_ble_eq_true rfl, Nat.le_of_ble_eq_true rfl⟩) hD hS hA (fun u9 H locs hw hp hd hs => ?_)
      clear hP hD hS
      obtain rfl := hw
      have hP := hp; have hD := hd; have hS := hs; clear hp hd hs
      refine lv_aload_n hx hb dX10_swapsKept_37 rfl (lv_at hl 0 rfl) ?_
      refine va_get (D := D) (ci := 10) (v := .ref (ad 2)) (C := RX10) (T := TX10) (N := 56) hx hb hts u9_wsX10_swapsKept_X10 hown hK hP 0 rfl rfl 2 (by decide) (hts (.fieldLink RX10 28 "TurnedFloorsModel" "kept" "[I") f9_wsX10_swapsKept_173) (fun _ h9 => h9) rfl dX10_swapsKept_38 ?_
      refine lv_iconst (v := 0) hx hb dX10_swapsKept_41 (by decide) ?_
      refine lv_iload_n hx hb dX10_swapsKept_42 rfl (lv_at hl 1 rfl) ?_
      refine lv_iadd hx hb dX10_swapsKept_43 ?_
      obtain ⟨g12, h⟩ := dG_some h
      refine va_iald hx hb hK hP 2 0 rfl rfl (dg_in g12) dX10_swapsKept_44 ?_
      obtain ⟨v13, ev13, h⟩ := dL_some h
      refine kz_topi v13 ev13 ?_
      cases h
      exact kz_iret hx hb hr hlocks hP hK hD hS dX10_swapsKept_45 ⟨rfl, rfl⟩
    · rw [if_pos c9] at h
      refine lv_bipush (v := (-3)) hx hb dX10_swapsKept_21 (by decide) ?_
      cases h
      exact kz_iret hx hb hr hlocks hP hK hD hS dX10_swapsKept_23 ⟨rfl, rfl⟩
  · rw [if_pos c9] at h
    refine lv_iconst (v := (-1)) hx hb dX10_swapsKept_9 (by decide) ?_
    cases h
    exact kz_iret hx hb hr hlocks hP hK hD hS dX10_swapsKept_10 ⟨rfl, rfl⟩

set_option maxHeartbeats 4000000 in
set_option maxRecDepth 100000 in
theorem qX10_passesKept (l : Launch) (D : va_G) (ty : Nat → ClassId) (eo : Nat → Nat) (sz : Nat) (ad : Nat → Nat) (q : dS)  (o1 : Int32) (o2 : dS) (h : zX10_passesKept q = some (o1, o2)) : Met l yX10_passesKept wsX10_passesKept ({ frames := 89, cells := 0, slots := 0, locals := 2266 } : Room) (va_Pc [.ref (ad 0)] (kz_pre D ty eo (w10 ty ad q) sz)) (va_Qi (fun (r : Int32) (u : va_W) => o1 = r ∧ w10 ty ad o2 = u) (kz_B D ty (va_A (w10 ty ad q) sz)) (va_A (w10 ty ad q) sz)) 0 0 (va_A (w10 ty ad q) sz) := by
  refine Met.ofW (cc := cX10_passesKept) (maxL := 1) (ret := (some .int)) (by decide) rfl ?_
  intro p e s m args below meth c s₁ B hml hv
  obtain ⟨rfl, hsz, hP, hK, hD0, hN, hE⟩ := hv
  have hx := B.exec
  have hb := B.bytes
  have hr := B.returns
  have hts := atoms_spec (ws := wsX10_passesKept) B.pre
  have hown : s.vm.findClass RX10 = some m.cls := findClass_of_methodNamed B.named
  have hlocks := B.notSynchronized
  subst hsz
  have hD := hD0.self (sz := s.heap.size)
  generalize hAe : va_A (w10 ty ad q) s.heap.size = A at hD hE ⊢
  have hA : ∀ q : Nat, s.heap.size ≤ q → A q := fun q h => by rw [← hAe]; exact Or.inr h
  clear hAe
  have hS : va_S A s.heap s.heap [] := va_S.rf
  have hl := lv_entry ([.ref (ad 0)]) (n := 1) (Nat.le_of_ble_eq_true rfl)
  rw [lg_entry_eq]
  generalize (lg_sl ([.ref (ad 0)]) ++ List.replicate (1 - (lg_sl ([.ref (ad 0)])).length) Slot.unset).toArray = ls at hl ⊢
  have hl : lv_has ls 1 [(0, .ref (ad 0))] := hl
  have C : dc_C p s m _ meth c cX10_passesKept (some .int) 1 RX10 wsX10_passesKept D ty eo A := ⟨hx, hb, hr, hts, hown, hlocks, hml, hK, hN, hE, hA⟩
  unfold zX10_passesKept at h
  refine lv_aload_n hx hb dX10_passesKept_0 rfl (lv_at hl 0 rfl) ?_
  refine va_get (D := D) (ci := 10) (v := .ref (ad 2)) (C := RX10) (T := TX10) (N := 56) hx hb hts u9_wsX10_passesKept_X10 hown hK hP 0 rfl rfl 2 (by decide) (hts (.fieldLink RX10 28 "TurnedFloorsModel" "kept" "[I") f9_wsX10_passesKept_175) (fun _ h9 => h9) rfl dX10_passesKept_1 ?_
  refine lv_bipush (v := 13) hx hb dX10_passesKept_4 (by decide) ?_
  refine va_iald hx hb hK hP 2 0 rfl rfl (by simp only [vp_in]; decide) dX10_passesKept_6 ?_
  refine kz_topi (q.1 2 13) (congrArg (q.1 2) (by decide +kernel : Int32.toNatClampNeg 13 = 13)) ?_
  refine lv_sipush (v := 999) hx hb dX10_passesKept_7 (by decide) ?_
  refine lv_icmp_ne (tgt := 16) hx hb dX10_passesKept_10 (by decide) (fun c9 => ?_) (fun c9 => ?_)
  · rw [if_neg c9] at h
    refine lv_aload_n hx hb dX10_passesKept_16 rfl (lv_at hl 0 rfl) ?_
    refine lv_iconst (v := 3) hx hb dX10_passesKept_17 (by decide) ?_
    obtain ⟨q3, h2, h⟩ := dV_some h
    refine dw_kv (va_runV (As := [.int 3]) (rest := []) ⟨hx, hb, hml, hown, hts⟩ (qX10_keeps l D ty eo _ ad q 3 q3 h2) (cwV 1 hts gX10_passesKept_X10_keeps rfl rfl rfl (by decide +kernel) ⟨Nat.le_of_ble_eq_true rfl, Nat.le_of_ble_eq_true rfl⟩) (dw_preV (ci := 10) (q0 := 0) hK hN hE hP hD hS hA rfl rfl) rfl rfl hl.1 rfl (lv_room (Nat.le_of_ble_eq_true rfl)) dX10_passesKept_18 ⟨Nat.le_of_ble_eq_true rfl, Nat.le_of_ble_eq_true rfl⟩) hD hS hA (fun u9 H locs hw hp hd hs => ?_)
    clear hP hD hS
    obtain rfl := hw
    have hP := hp; have hD := hd; have hS := hs; clear hp hd hs
    refine lv_aload_n hx hb dX10_passesKept_21 rfl (lv_at hl 0 rfl) ?_
    obtain ⟨r4, q6, h5, h⟩ := dB_some h
    refine dw_ki (va_runV (As := []) (rest := []) ⟨hx, hb, hml, hown, hts⟩ (qX10_yearPasses l D ty eo _ ad q3  r4 q6 h5) (cwV 0 hts gX10_passesKept_X10_yearPasses rfl rfl rfl (by decide +kernel) ⟨Nat.le_of_ble_eq_true rfl, Nat.le_of_ble_eq_true rfl⟩) (dw_preV (ci := 10) (q0 := 0) hK hN hE hP hD hS hA rfl rfl) rfl rfl hl.1 rfl (lv_room (Nat.le_of_ble_eq_true rfl)) dX10_passesKept_22 ⟨Nat.le_of_ble_eq_true rfl, Nat.le_of_ble_eq_true rfl⟩) hD hS hA (fun r9 u9 H locs hw hp hd hs => ?_)
    clear hP hD hS
    obtain ⟨rfl, rfl⟩ := hw
    have hP := hp; have hD := hd; have hS := hs; clear hp hd hs
    cases h
    exact kz_iret hx hb hr hlocks hP hK hD hS dX10_passesKept_25 ⟨rfl, rfl⟩
  · rw [if_pos c9] at h
    refine lv_bipush (v := (-3)) hx hb dX10_passesKept_13 (by decide) ?_
    cases h
    exact kz_iret hx hb hr hlocks hP hK hD hS dX10_passesKept_15 ⟨rfl, rfl⟩

set_option maxHeartbeats 4000000 in
set_option maxRecDepth 100000 in
theorem qX10_turn (l : Launch) (D : va_G) (ty : Nat → ClassId) (eo : Nat → Nat) (sz : Nat) (ad : Nat → Nat) (q : dS) (p1 : Int32) (o1 : Int32) (o2 : dS) (h : zX10_turn q p1 = some (o1, o2)) : Met l yX10_turn wsX10_turn ({ frames := 89, cells := 0, slots := 0, locals := 2266 } : Room) (va_Pc [.ref (ad 0), .int p1] (kz_pre D ty eo (w10 ty ad q) sz)) (va_Qi (fun (r : Int32) (u : va_W) => o1 = r ∧ w10 ty ad o2 = u) (kz_B D ty (va_A (w10 ty ad q) sz)) (va_A (w10 ty ad q) sz)) 0 0 (va_A (w10 ty ad q) sz) := by
  refine Met.ofW (cc := cX10_turn) (maxL := 2) (ret := (some .int)) (by decide) rfl ?_
  intro p e s m args below meth c s₁ B hml hv
  obtain ⟨rfl, hsz, hP, hK, hD0, hN, hE⟩ := hv
  have hx := B.exec
  have hb := B.bytes
  have hr := B.returns
  have hts := atoms_spec (ws := wsX10_turn) B.pre
  have hown : s.vm.findClass RX10 = some m.cls := findClass_of_methodNamed B.named
  have hlocks := B.notSynchronized
  subst hsz
  have hD := hD0.self (sz := s.heap.size)
  generalize hAe : va_A (w10 ty ad q) s.heap.size = A at hD hE ⊢
  have hA : ∀ q : Nat, s.heap.size ≤ q → A q := fun q h => by rw [← hAe]; exact Or.inr h
  clear hAe
  have hS : va_S A s.heap s.heap [] := va_S.rf
  have hl := lv_entry ([.ref (ad 0), .int p1]) (n := 2) (Nat.le_of_ble_eq_true rfl)
  rw [lg_entry_eq]
  generalize (lg_sl ([.ref (ad 0), .int p1]) ++ List.replicate (2 - (lg_sl ([.ref (ad 0), .int p1])).length) Slot.unset).toArray = ls at hl ⊢
  have hl : lv_has ls 2 [(0, .ref (ad 0)), (1, .int p1)] := hl
  have C : dc_C p s m _ meth c cX10_turn (some .int) 2 RX10 wsX10_turn D ty eo A := ⟨hx, hb, hr, hts, hown, hlocks, hml, hK, hN, hE, hA⟩
  unfold zX10_turn at h
  refine lv_aload_n hx hb dX10_turn_0 rfl (lv_at hl 0 rfl) ?_
  refine lv_aload_n hx hb dX10_turn_1 rfl (lv_at hl 0 rfl) ?_
  refine lv_iload_n hx hb dX10_turn_2 rfl (lv_at hl 1 rfl) ?_
  obtain ⟨r1, q3, h2, h⟩ := dB_some h
  refine dw_ki (va_runV (As := [.int p1]) (rest := [.ref (ad 0)]) ⟨hx, hb, hml, hown, hts⟩ (qX10_turnsKept l D ty eo _ ad q p1 r1 q3 h2) (cwV 1 hts gX10_turn_X10_turnsKept rfl rfl rfl (by decide +kernel) ⟨Nat.le_of_ble_eq_true rfl, Nat.le_of_ble_eq_true rfl⟩) (dw_preV (ci := 10) (q0 := 0) hK hN hE hP hD hS hA rfl rfl) rfl rfl hl.1 rfl (lv_room (Nat.le_of_ble_eq_true rfl)) dX10_turn_3 ⟨Nat.le_of_ble_eq_true rfl, Nat.le_of_ble_eq_true rfl⟩) hD hS hA (fun r9 u9 H locs hw hp hd hs => ?_)
  clear hP hD hS
  obtain ⟨rfl, rfl⟩ := hw
  have hP := hp; have hD := hd; have hS := hs; clear hp hd hs
  obtain ⟨r4, q6, h5, h⟩ := dB_some h
  refine dw_ki (va_runV (As := [.int r1]) (rest := []) ⟨hx, hb, hml, hown, hts⟩ (qX10_goodOr l D ty eo _ ad q3 r1 r4 q6 h5) (cwV 1 hts gX10_turn_X10_goodOr rfl rfl rfl (by decide +kernel) ⟨Nat.le_of_ble_eq_true rfl, Nat.le_of_ble_eq_true rfl⟩) (dw_preV (ci := 10) (q0 := 0) hK hN hE hP hD hS hA rfl rfl) rfl rfl hl.1 rfl (lv_room (Nat.le_of_ble_eq_true rfl)) dX10_turn_6 ⟨Nat.le_of_ble_eq_true rfl, Nat.le_of_ble_eq_true rfl⟩) hD hS hA (fun r9 u9 H locs hw hp hd hs => ?_)
  clear hP hD hS
  obtain ⟨rfl, rfl⟩ := hw
  have hP := hp; have hD := hd; have hS := hs; clear hp hd hs
  cases h
  exact kz_iret hx hb hr hlocks hP hK hD hS dX10_turn_9 ⟨rfl, rfl⟩

set_option maxHeartbeats 4000000 in
set_option maxRecDepth 100000 in
theorem qX10_right (l : Launch) (D : va_G) (ty : Nat → ClassId) (eo : Nat → Nat) (sz : Nat) (ad : Nat → Nat) (q : dS) (p1 : Int32) (o1 : Int32) (o2 : dS) (h : zX10_right q p1 = some (o1, o2)) : Met l yX10_right wsX10_right ({ frames := 3, cells := 0, slots := 0, locals := 64 } : Room) (va_Pc [.ref (ad 0), .int p1] (kz_pre D ty eo (w10 ty ad q) sz)) (va_Qi (fun (r : Int32) (u : va_W) => o1 = r ∧ w10 ty ad o2 = u) (kz_B D ty (va_A (w10 ty ad q) sz)) (va_A (w10 ty ad q) sz)) 0 0 (va_A (w10 ty ad q) sz) := by
  refine Met.ofW (cc := cX10_right) (maxL := 2) (ret := (some .int)) (by decide) rfl ?_
  intro p e s m args below meth c s₁ B hml hv
  obtain ⟨rfl, hsz, hP, hK, hD0, hN, hE⟩ := hv
  have hx := B.exec
  have hb := B.bytes
  have hr := B.returns
  have hts := atoms_spec (ws := wsX10_right) B.pre
  have hown : s.vm.findClass RX10 = some m.cls := findClass_of_methodNamed B.named
  have hlocks := B.notSynchronized
  subst hsz
  have hD := hD0.self (sz := s.heap.size)
  generalize hAe : va_A (w10 ty ad q) s.heap.size = A at hD hE ⊢
  have hA : ∀ q : Nat, s.heap.size ≤ q → A q := fun q h => by rw [← hAe]; exact Or.inr h
  clear hAe
  have hS : va_S A s.heap s.heap [] := va_S.rf
  have hl := lv_entry ([.ref (ad 0), .int p1]) (n := 2) (Nat.le_of_ble_eq_true rfl)
  rw [lg_entry_eq]
  generalize (lg_sl ([.ref (ad 0), .int p1]) ++ List.replicate (2 - (lg_sl ([.ref (ad 0), .int p1])).length) Slot.unset).toArray = ls at hl ⊢
  have hl : lv_has ls 2 [(0, .ref (ad 0)), (1, .int p1)] := hl
  have C : dc_C p s m _ meth c cX10_right (some .int) 2 RX10 wsX10_right D ty eo A := ⟨hx, hb, hr, hts, hown, hlocks, hml, hK, hN, hE, hA⟩
  unfold zX10_right at h
  refine lv_aload_n hx hb dX10_right_0 rfl (lv_at hl 0 rfl) ?_
  refine lv_aload_n hx hb dX10_right_1 rfl (lv_at hl 0 rfl) ?_
  refine lv_iload_n hx hb dX10_right_2 rfl (lv_at hl 1 rfl) ?_
  obtain ⟨r1, q3, h2, h⟩ := dB_some h
  refine dw_ki (va_runV (As := [.int p1]) (rest := [.ref (ad 0)]) ⟨hx, hb, hml, hown, hts⟩ (qX10_rightsKept l D ty eo _ ad q p1 r1 q3 h2) (cwV 1 hts gX10_right_X10_rightsKept rfl rfl rfl (by decide +kernel) ⟨Nat.le_of_ble_eq_true rfl, Nat.le_of_ble_eq_true rfl⟩) (dw_preV (ci := 10) (q0 := 0) hK hN hE hP hD hS hA rfl rfl) rfl rfl hl.1 rfl (lv_room (Nat.le_of_ble_eq_true rfl)) dX10_right_3 ⟨Nat.le_of_ble_eq_true rfl, Nat.le_of_ble_eq_true rfl⟩) hD hS hA (fun r9 u9 H locs hw hp hd hs => ?_)
  clear hP hD hS
  obtain ⟨rfl, rfl⟩ := hw
  have hP := hp; have hD := hd; have hS := hs; clear hp hd hs
  obtain ⟨r4, q6, h5, h⟩ := dB_some h
  refine dw_ki (va_runV (As := [.int r1]) (rest := []) ⟨hx, hb, hml, hown, hts⟩ (qX10_goodOr l D ty eo _ ad q3 r1 r4 q6 h5) (cwV 1 hts gX10_right_X10_goodOr rfl rfl rfl (by decide +kernel) ⟨Nat.le_of_ble_eq_true rfl, Nat.le_of_ble_eq_true rfl⟩) (dw_preV (ci := 10) (q0 := 0) hK hN hE hP hD hS hA rfl rfl) rfl rfl hl.1 rfl (lv_room (Nat.le_of_ble_eq_true rfl)) dX10_right_6 ⟨Nat.le_of_ble_eq_true rfl, Nat.le_of_ble_eq_true rfl⟩) hD hS hA (fun r9 u9 H locs hw hp hd hs => ?_)
  clear hP hD hS
  obtain ⟨rfl, rfl⟩ := hw
  have hP := hp; have hD := hd; have hS := hs; clear hp hd hs
  cases h
  exact kz_iret hx hb hr hlocks hP hK hD hS dX10_right_9 ⟨rfl, rfl⟩

set_option maxHeartbeats 4000000 in
set_option maxRecDepth 100000 in
theorem qX10_swap (l : Launch) (D : va_G) (ty : Nat → ClassId) (eo : Nat → Nat) (sz : Nat) (ad : Nat → Nat) (q : dS) (p1 : Int32) (o1 : Int32) (o2 : dS) (h : zX10_swap q p1 = some (o1, o2)) : Met l yX10_swap wsX10_swap ({ frames := 3, cells := 0, slots := 0, locals := 64 } : Room) (va_Pc [.ref (ad 0), .int p1] (kz_pre D ty eo (w10 ty ad q) sz)) (va_Qi (fun (r : Int32) (u : va_W) => o1 = r ∧ w10 ty ad o2 = u) (kz_B D ty (va_A (w10 ty ad q) sz)) (va_A (w10 ty ad q) sz)) 0 0 (va_A (w10 ty ad q) sz) := by
  refine Met.ofW (cc := cX10_swap) (maxL := 2) (ret := (some .int)) (by decide) rfl ?_
  intro p e s m args below meth c s₁ B hml hv
  obtain ⟨rfl, hsz, hP, hK, hD0, hN, hE⟩ := hv
  have hx := B.exec
  have hb := B.bytes
  have hr := B.returns
  have hts := atoms_spec (ws := wsX10_swap) B.pre
  have hown : s.vm.findClass RX10 = some m.cls := findClass_of_methodNamed B.named
  have hlocks := B.notSynchronized
  subst hsz
  have hD := hD0.self (sz := s.heap.size)
  generalize hAe : va_A (w10 ty ad q) s.heap.size = A at hD hE ⊢
  have hA : ∀ q : Nat, s.heap.size ≤ q → A q := fun q h => by rw [← hAe]; exact Or.inr h
  clear hAe
  have hS : va_S A s.heap s.heap [] := va_S.rf
  have hl := lv_entry ([.ref (ad 0), .int p1]) (n := 2) (Nat.le_of_ble_eq_true rfl)
  rw [lg_entry_eq]
  generalize (lg_sl ([.ref (ad 0), .int p1]) ++ List.replicate (2 - (lg_sl ([.ref (ad 0), .int p1])).length) Slot.unset).toArray = ls at hl ⊢
  have hl : lv_has ls 2 [(0, .ref (ad 0)), (1, .int p1)] := hl
  have C : dc_C p s m _ meth c cX10_swap (some .int) 2 RX10 wsX10_swap D ty eo A := ⟨hx, hb, hr, hts, hown, hlocks, hml, hK, hN, hE, hA⟩
  unfold zX10_swap at h
  refine lv_aload_n hx hb dX10_swap_0 rfl (lv_at hl 0 rfl) ?_
  refine lv_aload_n hx hb dX10_swap_1 rfl (lv_at hl 0 rfl) ?_
  refine lv_iload_n hx hb dX10_swap_2 rfl (lv_at hl 1 rfl) ?_
  obtain ⟨r1, q3, h2, h⟩ := dB_some h
  refine dw_ki (va_runV (As := [.int p1]) (rest := [.ref (ad 0)]) ⟨hx, hb, hml, hown, hts⟩ (qX10_swapsKept l D ty eo _ ad q p1 r1 q3 h2) (cwV 1 hts gX10_swap_X10_swapsKept rfl rfl rfl (by decide +kernel) ⟨Nat.le_of_ble_eq_true rfl, Nat.le_of_ble_eq_true rfl⟩) (dw_preV (ci := 10) (q0 := 0) hK hN hE hP hD hS hA rfl rfl) rfl rfl hl.1 rfl (lv_room (Nat.le_of_ble_eq_true rfl)) dX10_swap_3 ⟨Nat.le_of_ble_eq_true rfl, Nat.le_of_ble_eq_true rfl⟩) hD hS hA (fun r9 u9 H locs hw hp hd hs => ?_)
  clear hP hD hS
  obtain ⟨rfl, rfl⟩ := hw
  have hP := hp; have hD := hd; have hS := hs; clear hp hd hs
  obtain ⟨r4, q6, h5, h⟩ := dB_some h
  refine dw_ki (va_runV (As := [.int r1]) (rest := []) ⟨hx, hb, hml, hown, hts⟩ (qX10_goodOr l D ty eo _ ad q3 r1 r4 q6 h5) (cwV 1 hts gX10_swap_X10_goodOr rfl rfl rfl (by decide +kernel) ⟨Nat.le_of_ble_eq_true rfl, Nat.le_of_ble_eq_true rfl⟩) (dw_preV (ci := 10) (q0 := 0) hK hN hE hP hD hS hA rfl rfl) rfl rfl hl.1 rfl (lv_room (Nat.le_of_ble_eq_true rfl)) dX10_swap_6 ⟨Nat.le_of_ble_eq_true rfl, Nat.le_of_ble_eq_true rfl⟩) hD hS hA (fun r9 u9 H locs hw hp hd hs => ?_)
  clear hP hD hS
  obtain ⟨rfl, rfl⟩ := hw
  have hP := hp; have hD := hd; have hS := hs; clear hp hd hs
  cases h
  exact kz_iret hx hb hr hlocks hP hK hD hS dX10_swap_9 ⟨rfl, rfl⟩

set_option maxHeartbeats 4000000 in
set_option maxRecDepth 100000 in
theorem qX10_pass (l : Launch) (D : va_G) (ty : Nat → ClassId) (eo : Nat → Nat) (sz : Nat) (ad : Nat → Nat) (q : dS)  (o1 : Int32) (o2 : dS) (h : zX10_pass q = some (o1, o2)) : Met l yX10_pass wsX10_pass ({ frames := 90, cells := 0, slots := 0, locals := 2286 } : Room) (va_Pc [.ref (ad 0)] (kz_pre D ty eo (w10 ty ad q) sz)) (va_Qi (fun (r : Int32) (u : va_W) => o1 = r ∧ w10 ty ad o2 = u) (kz_B D ty (va_A (w10 ty ad q) sz)) (va_A (w10 ty ad q) sz)) 0 0 (va_A (w10 ty ad q) sz) := by
  refine Met.ofW (cc := cX10_pass) (maxL := 1) (ret := (some .int)) (by decide) rfl ?_
  intro p e s m args below meth c s₁ B hml hv
  obtain ⟨rfl, hsz, hP, hK, hD0, hN, hE⟩ := hv
  have hx := B.exec
  have hb := B.bytes
  have hr := B.returns
  have hts := atoms_spec (ws := wsX10_pass) B.pre
  have hown : s.vm.findClass RX10 = some m.cls := findClass_of_methodNamed B.named
  have hlocks := B.notSynchronized
  subst hsz
  have hD := hD0.self (sz := s.heap.size)
  generalize hAe : va_A (w10 ty ad q) s.heap.size = A at hD hE ⊢
  have hA : ∀ q : Nat, s.heap.size ≤ q → A q := fun q h => by rw [← hAe]; exact Or.inr h
  clear hAe
  have hS : va_S A s.heap s.heap [] := va_S.rf
  have hl := lv_entry ([.ref (ad 0)]) (n := 1) (Nat.le_of_ble_eq_true rfl)
  rw [lg_entry_eq]
  generalize (lg_sl ([.ref (ad 0)]) ++ List.replicate (1 - (lg_sl ([.ref (ad 0)])).length) Slot.unset).toArray = ls at hl ⊢
  have hl : lv_has ls 1 [(0, .ref (ad 0))] := hl
  have C : dc_C p s m _ meth c cX10_pass (some .int) 1 RX10 wsX10_pass D ty eo A := ⟨hx, hb, hr, hts, hown, hlocks, hml, hK, hN, hE, hA⟩
  unfold zX10_pass at h
  refine lv_aload_n hx hb dX10_pass_0 rfl (lv_at hl 0 rfl) ?_
  refine lv_aload_n hx hb dX10_pass_1 rfl (lv_at hl 0 rfl) ?_
  obtain ⟨r1, q3, h2, h⟩ := dB_some h
  refine dw_ki (va_runV (As := []) (rest := [.ref (ad 0)]) ⟨hx, hb, hml, hown, hts⟩ (qX10_passesKept l D ty eo _ ad q  r1 q3 h2) (cwV 0 hts gX10_pass_X10_passesKept rfl rfl rfl (by decide +kernel) ⟨Nat.le_of_ble_eq_true rfl, Nat.le_of_ble_eq_true rfl⟩) (dw_preV (ci := 10) (q0 := 0) hK hN hE hP hD hS hA rfl rfl) rfl rfl hl.1 rfl (lv_room (Nat.le_of_ble_eq_true rfl)) dX10_pass_2 ⟨Nat.le_of_ble_eq_true rfl, Nat.le_of_ble_eq_true rfl⟩) hD hS hA (fun r9 u9 H locs hw hp hd hs => ?_)
  clear hP hD hS
  obtain ⟨rfl, rfl⟩ := hw
  have hP := hp; have hD := hd; have hS := hs; clear hp hd hs
  obtain ⟨r4, q6, h5, h⟩ := dB_some h
  refine dw_ki (va_runV (As := [.int r1]) (rest := []) ⟨hx, hb, hml, hown, hts⟩ (qX10_goodOr l D ty eo _ ad q3 r1 r4 q6 h5) (cwV 1 hts gX10_pass_X10_goodOr rfl rfl rfl (by decide +kernel) ⟨Nat.le_of_ble_eq_true rfl, Nat.le_of_ble_eq_true rfl⟩) (dw_preV (ci := 10) (q0 := 0) hK hN hE hP hD hS hA rfl rfl) rfl rfl hl.1 rfl (lv_room (Nat.le_of_ble_eq_true rfl)) dX10_pass_5 ⟨Nat.le_of_ble_eq_true rfl, Nat.le_of_ble_eq_true rfl⟩) hD hS hA (fun r9 u9 H locs hw hp hd hs => ?_)
  clear hP hD hS
  obtain ⟨rfl, rfl⟩ := hw
  have hP := hp; have hD := hd; have hS := hs; clear hp hd hs
  cases h
  exact kz_iret hx hb hr hlocks hP hK hD hS dX10_pass_8 ⟨rfl, rfl⟩

set_option maxHeartbeats 4000000 in
set_option maxRecDepth 100000 in
theorem WX10_allOrders_4b {p : Program} {l : Launch} {e : Env} {s : State} {m : MethodId} {args : Array Value} {below : List Frame} {meth : Method} {c : Code} {D : va_G} {ty : Nat → ClassId} {eo : Nat → Nat} {A : Nat → Prop} {o1 : Int32} (C : dc_C p s m args meth c cX10_allOrders (some .int) 3 RX10 wsX10_allOrders D ty eo A) {k4 : Int32 → Int32 → Int32 → Option (Int32)} (hk4 : ∀ (x0 : Int32) (x1 : Int32) (x2 : Int32) (H : Heap) (locs : List Loc) (ls : Array Slot), k4 x0 x1 x2 = some o1 → va_P D vwCl (([] : va_W)) H → va_D A (([] : va_W)) → va_S A s.heap H locs → lv_has ls 3 [(0, .int x0), (1, .int x1), (2, .int x2)] → W p l e ({ frames := 0, cells := 0, slots := 0, locals := 0 } : Room) s m args below meth c H locs 0 0 (MQ below (va_Qi (fun (r : Int32) (u : va_W) => o1 = r ∧ ([] : va_W) = u) (kz_B D ty A) A) args s 0 0 A) (F0 m 4 ls [])) (x0 : Int32) (x1 : Int32) (x2 : Int32) (H : Heap) (locs : List Loc) (ls : Array Slot) (h : zX10_allOrders_4b k4 x0 x1 x2 = some o1) (hP : va_P D vwCl (([] : va_W)) H) (hD : va_D A (([] : va_W))) (hS : va_S A s.heap H locs) (hl : lv_has ls 3 [(0, .int x0), (1, .int x1), (2, .int x2)]) : W p l e ({ frames := 0, cells := 0, slots := 0, locals := 0 } : Room) s m args below meth c H locs 0 0 (MQ below (va_Qi (fun (r : Int32) (u : va_W) => o1 = r ∧ ([] : va_W) = u) (kz_B D ty A) A) args s 0 0 A) (F0 m 4 ls []) := by
  have C0 := C
  obtain ⟨hx, hb, hr, hts, hown, hlocks, hml, hK, hN, hE, hA⟩ := C
  unfold zX10_allOrders_4b at h
  refine lv_iload_n hx hb dX10_allOrders_4 rfl (lv_at hl 2 rfl) ?_
  refine lv_iload_n hx hb dX10_allOrders_5 rfl (lv_at hl 0 rfl) ?_
  refine lv_icmp_gt (tgt := 19) hx hb dX10_allOrders_6 (by decide) (fun c9 => ?_) (fun c9 => ?_)
  · rw [if_pos c9] at h
    refine lv_iload_n hx hb dX10_allOrders_19 rfl (lv_at hl 1 rfl) ?_
    cases h
    exact kz_iret hx hb hr hlocks hP hK hD hS dX10_allOrders_20 ⟨rfl, rfl⟩
  · rw [if_neg c9] at h
    refine lv_iload_n hx hb dX10_allOrders_9 rfl (lv_at hl 1 rfl) ?_
    refine lv_iload_n hx hb dX10_allOrders_10 rfl (lv_at hl 2 rfl) ?_
    refine lv_imul hx hb dX10_allOrders_11 ?_
    refine lv_istore_n (lv' := [(1, .int (x1 * x2)), (0, .int x0), (2, .int x2)]) hx hb dX10_allOrders_12 rfl hl (by decide) rfl (fun ls hl => ?_)
    refine lv_iinc (v := x2 + 1) (lv' := [(2, .int (x2 + 1)), (1, .int (x1 * x2)), (0, .int x0)]) hx hb dX10_allOrders_13 hl (k := 2) rfl rfl (by decide) rfl (fun ls hl => ?_)
    refine lv_goto (tgt := 4) hx hb dX10_allOrders_16 (by decide) ?_
    exact hk4 _ _ _ _ _ _ h hP hD hS (lv_sub hl [2, 1, 0] rfl)
set_option maxHeartbeats 4000000 in
set_option maxRecDepth 100000 in
theorem WX10_allOrders_4 {p : Program} {l : Launch} {e : Env} {s : State} {m : MethodId} {args : Array Value} {below : List Frame} {meth : Method} {c : Code} {D : va_G} {ty : Nat → ClassId} {eo : Nat → Nat} {A : Nat → Prop} {o1 : Int32} (C : dc_C p s m args meth c cX10_allOrders (some .int) 3 RX10 wsX10_allOrders D ty eo A)   (n : Nat) (x0 : Int32) (x1 : Int32) (x2 : Int32) (H : Heap) (locs : List Loc) (ls : Array Slot) (h : zX10_allOrders_4  n x0 x1 x2 = some o1) (hP : va_P D vwCl (([] : va_W)) H) (hD : va_D A (([] : va_W))) (hS : va_S A s.heap H locs) (hl : lv_has ls 3 [(0, .int x0), (1, .int x1), (2, .int x2)]) : W p l e ({ frames := 0, cells := 0, slots := 0, locals := 0 } : Room) s m args below meth c H locs 0 0 (MQ below (va_Qi (fun (r : Int32) (u : va_W) => o1 = r ∧ ([] : va_W) = u) (kz_B D ty A) A) args s 0 0 A) (F0 m 4 ls []) := by
  exact dFix_W (F := fun k (a : Int32 × Int32 × Int32) => zX10_allOrders_4b  (fun x0 x1 x2 => k (x0, x1, x2)) a.1 a.2.1 a.2.2) (o := o1) (P := fun (a : Int32 × Int32 × Int32) H locs ls => va_P D vwCl (([] : va_W)) H ∧ va_D A (([] : va_W)) ∧ va_S A s.heap H locs ∧ lv_has ls 3 [(0, .int a.1), (1, .int a.2.1), (2, .int a.2.2)]) (G := fun H locs ls => W p l e ({ frames := 0, cells := 0, slots := 0, locals := 0 } : Room) s m args below meth c H locs 0 0 (MQ below (va_Qi (fun (r : Int32) (u : va_W) => o1 = r ∧ ([] : va_W) = u) (kz_B D ty A) A) args s 0 0 A) (F0 m 4 ls []))
    (fun k hk a H locs ls h hp => WX10_allOrders_4b C  (fun x0 x1 x2 H locs ls h h1 h2 h3 h4 => hk (x0, x1, x2) H locs ls h ⟨h1, h2, h3, h4⟩) a.1 a.2.1 a.2.2 H locs ls h hp.1 hp.2.1 hp.2.2.1 hp.2.2.2) n (x0, x1, x2) H locs ls h ⟨hP, hD, hS, hl⟩
set_option maxHeartbeats 4000000 in
set_option maxRecDepth 100000 in
theorem qX10_allOrders (l : Launch) (D : va_G) (ty : Nat → ClassId) (eo : Nat → Nat) (sz : Nat) (p1 : Int32) (o1 : Int32) (h : zX10_allOrders p1 = some o1) : Met l yX10_allOrders wsX10_allOrders ({ frames := 0, cells := 0, slots := 0, locals := 0 } : Room) (va_Pc [.int p1] (kz_pre D ty eo (([] : va_W)) sz)) (va_Qi (fun (r : Int32) (u : va_W) => o1 = r ∧ ([] : va_W) = u) (kz_B D ty (va_A (([] : va_W)) sz)) (va_A (([] : va_W)) sz)) 0 0 (va_A (([] : va_W)) sz) := by
  refine Met.ofW (cc := cX10_allOrders) (maxL := 3) (ret := (some .int)) (by decide) rfl ?_
  intro p e s m args below meth c s₁ B hml hv
  obtain ⟨rfl, hsz, hP, hK, hD0, hN, hE⟩ := hv
  have hx := B.exec
  have hb := B.bytes
  have hr := B.returns
  have hts := atoms_spec (ws := wsX10_allOrders) B.pre
  have hown : s.vm.findClass RX10 = some m.cls := findClass_of_methodNamed B.named
  have hlocks := B.notSynchronized
  subst hsz
  have hD := hD0.self (sz := s.heap.size)
  generalize hAe : va_A (([] : va_W)) s.heap.size = A at hD hE ⊢
  have hA : ∀ q : Nat, s.heap.size ≤ q → A q := fun q h => by rw [← hAe]; exact Or.inr h
  clear hAe
  have hS : va_S A s.heap s.heap [] := va_S.rf
  have hl := lv_entry ([.int p1]) (n := 3) (Nat.le_of_ble_eq_true rfl)
  rw [lg_entry_eq]
  generalize (lg_sl ([.int p1]) ++ List.replicate (3 - (lg_sl ([.int p1])).length) Slot.unset).toArray = ls at hl ⊢
  have hl : lv_has ls 3 [(0, .int p1)] := hl
  have C : dc_C p s m _ meth c cX10_allOrders (some .int) 3 RX10 wsX10_allOrders D ty eo A := ⟨hx, hb, hr, hts, hown, hlocks, hml, hK, hN, hE, hA⟩
  unfold zX10_allOrders at h
  refine lv_iconst (v := 1) hx hb dX10_allOrders_0 (by decide) ?_
  refine lv_istore_n (lv' := [(1, .int 1), (0, .int p1)]) hx hb dX10_allOrders_1 rfl hl (by decide) rfl (fun ls hl => ?_)
  refine lv_iconst (v := 2) hx hb dX10_allOrders_2 (by decide) ?_
  refine lv_istore_n (lv' := [(2, .int 2), (1, .int 1), (0, .int p1)]) hx hb dX10_allOrders_3 rfl hl (by decide) rfl (fun ls hl => ?_)
  exact WX10_allOrders_4 C  _ _ _ _ _ _ _ h hP hD hS (lv_sub hl [2, 1, 0] rfl)
