section
theorem u9_wsX10_yearPasses_X10 : ∀ w ∈ u_ws RX10 TX10 56, w ∈ wsX10_yearPasses := fun w h => List.mem_cons_of_mem _ (vW10_wsX100 w h)
theorem f9_wsX10_yearPasses_160 : (Cond.fieldLink RX10 66 "TurnedFloorsModel" "tipping" "[Z") ∈ wsX10_yearPasses := List.mem_cons_of_mem _ mvW10_302
theorem f9_wsX10_yearPasses_161 : (Cond.fieldLink RX10 28 "TurnedFloorsModel" "kept" "[I") ∈ wsX10_yearPasses := List.mem_cons_of_mem _ mvW10_20
theorem u9_wsX10_keeps_X10 : ∀ w ∈ u_ws RX10 TX10 56, w ∈ wsX10_keeps := fun w h => List.mem_cons_of_mem _ (vW10_wsX100 w h)
theorem f9_wsX10_keeps_163 : (Cond.fieldLink RX10 69 "TurnedFloorsModel" "left0" "[I") ∈ wsX10_keeps := List.mem_cons_of_mem _ mvW10_250
theorem f9_wsX10_keeps_164 : (Cond.fieldLink RX10 11 "TurnedFloorsModel" "undoMany" "I") ∈ wsX10_keeps := List.mem_cons_of_mem _ mvW10_33
theorem f9_wsX10_keeps_165 : (Cond.fieldLink RX10 28 "TurnedFloorsModel" "kept" "[I") ∈ wsX10_keeps := List.mem_cons_of_mem _ mvW10_20
theorem u9_wsX10_undo_X10 : ∀ w ∈ u_ws RX10 TX10 56, w ∈ wsX10_undo := fun w h => List.mem_cons_of_mem _ (vW10_wsX100 w h)
theorem f9_wsX10_undo_167 : (Cond.fieldLink RX10 69 "TurnedFloorsModel" "left0" "[I") ∈ wsX10_undo := List.mem_cons_of_mem _ mvW10_250
theorem f9_wsX10_undo_168 : (Cond.fieldLink RX10 28 "TurnedFloorsModel" "kept" "[I") ∈ wsX10_undo := List.mem_cons_of_mem _ mvW10_20
theorem f9_wsX10_undo_169 : (Cond.fieldLink RX10 11 "TurnedFloorsModel" "undoMany" "I") ∈ wsX10_undo := List.mem_cons_of_mem _ mvW10_33
theorem u9_wsX10_rightsKept_X10 : ∀ w ∈ u_ws RX10 TX10 56, w ∈ wsX10_rightsKept := fun w h => List.mem_cons_of_mem _ (vW10_wsX100 w h)
theorem f9_wsX10_rightsKept_171 : (Cond.fieldLink RX10 28 "TurnedFloorsModel" "kept" "[I") ∈ wsX10_rightsKept := List.mem_cons_of_mem _ mvW10_20
theorem u9_wsX10_swapsKept_X10 : ∀ w ∈ u_ws RX10 TX10 56, w ∈ wsX10_swapsKept := fun w h => List.mem_cons_of_mem _ (vW10_wsX100 w h)
theorem f9_wsX10_swapsKept_173 : (Cond.fieldLink RX10 28 "TurnedFloorsModel" "kept" "[I") ∈ wsX10_swapsKept := List.mem_cons_of_mem _ mvW10_20
theorem u9_wsX10_passesKept_X10 : ∀ w ∈ u_ws RX10 TX10 56, w ∈ wsX10_passesKept := fun w h => List.mem_cons_of_mem _ (vW10_wsX100 w h)
theorem f9_wsX10_passesKept_175 : (Cond.fieldLink RX10 28 "TurnedFloorsModel" "kept" "[I") ∈ wsX10_passesKept := List.mem_cons_of_mem _ mvW10_20
set_option maxHeartbeats 4000000 in
set_option maxRecDepth 100000 in
theorem WX10_yearPasses_95 {p : Program} {l : Launch} {e : Env} {s : State} {m : MethodId} {args : Array Value} {below : List Frame} {meth : Method} {c : Code} {D : va_G} {ty : Nat → ClassId} {eo : Nat → Nat} {A : Nat → Prop} {ad : Nat → Nat} {o1 : Int32} {o2 : dS} (C : dc_C p s m args meth c cX10_yearPasses (some .int) 3 RX10 wsX10_yearPasses D ty eo A) {k31 : dS → Int32 → Int32 → Option (Int32 × dS)} (hk31 : ∀ (q : dS) (x1 : Int32) (x2 : Int32) (H : Heap) (locs : List Loc) (ls : Array Slot), k31 q x1 x2 = some (o1, o2) → va_P D vwCl (w10 ty ad q) H → va_D A (w10 ty ad q) → va_S A s.heap H locs → lv_has ls 3 [(0, .ref (ad 0)), (1, .int x1), (2, .int x2)] → W p l e ({ frames := 88, cells := 0, slots := 0, locals := 2244 } : Room) s m args below meth c H locs 0 0 (MQ below (va_Qi (fun (r : Int32) (u : va_W) => o1 = r ∧ w10 ty ad o2 = u) (kz_B D ty A) A) args s 0 0 A) (F0 m 31 ls [])) (q : dS) (x2 : Int32) (y0 : Int32) (y1 : Int32) (H : Heap) (locs : List Loc) (ls : Array Slot) (h : zX10_yearPasses_95 k31 q x2 y0 y1 = some (o1, o2)) (hP : va_P D vwCl (w10 ty ad q) H) (hD : va_D A (w10 ty ad q)) (hS : va_S A s.heap H locs) (hl : lv_has ls 3 [(0, .ref (ad 0)), (2, .int x2)]) : W p l e ({ frames := 88, cells := 0, slots := 0, locals := 2244 } : Room) s m args below meth c H locs 0 0 (MQ below (va_Qi (fun (r : Int32) (u : va_W) => o1 = r ∧ w10 ty ad o2 = u) (kz_B D ty A) A) args s 0 0 A) (F0 m 95 ls [.int y0, .int y1]) := by
  have C0 := C
  obtain ⟨hx, hb, hr, hts, hown, hlocks, hml, hK, hN, hE, hA⟩ := C
  unfold zX10_yearPasses_95 at h
  refine lv_iadd hx hb dX10_yearPasses_95 ?_
  refine lv_istore_n (lv' := [(1, .int (y1 + y0)), (0, .ref (ad 0)), (2, .int x2)]) hx hb dX10_yearPasses_96 rfl hl (by decide) rfl (fun ls hl => ?_)
  refine lv_iinc (v := x2 + 1) (lv' := [(2, .int (x2 + 1)), (1, .int (y1 + y0)), (0, .ref (ad 0))]) hx hb dX10_yearPasses_97 hl (k := 2) rfl rfl (by decide) rfl (fun ls hl => ?_)
  refine lv_goto (tgt := 31) hx hb dX10_yearPasses_100 (by decide) ?_
  exact hk31 _ _ _ _ _ _ h hP hD hS (lv_sub hl [2, 1, 0] rfl)
set_option maxHeartbeats 4000000 in
set_option maxRecDepth 100000 in
theorem WX10_yearPasses_79 {p : Program} {l : Launch} {e : Env} {s : State} {m : MethodId} {args : Array Value} {below : List Frame} {meth : Method} {c : Code} {D : va_G} {ty : Nat → ClassId} {eo : Nat → Nat} {A : Nat → Prop} {ad : Nat → Nat} {o1 : Int32} {o2 : dS} (C : dc_C p s m args meth c cX10_yearPasses (some .int) 3 RX10 wsX10_yearPasses D ty eo A) {k31 : dS → Int32 → Int32 → Option (Int32 × dS)} (hk31 : ∀ (q : dS) (x1 : Int32) (x2 : Int32) (H : Heap) (locs : List Loc) (ls : Array Slot), k31 q x1 x2 = some (o1, o2) → va_P D vwCl (w10 ty ad q) H → va_D A (w10 ty ad q) → va_S A s.heap H locs → lv_has ls 3 [(0, .ref (ad 0)), (1, .int x1), (2, .int x2)] → W p l e ({ frames := 88, cells := 0, slots := 0, locals := 2244 } : Room) s m args below meth c H locs 0 0 (MQ below (va_Qi (fun (r : Int32) (u : va_W) => o1 = r ∧ w10 ty ad o2 = u) (kz_B D ty A) A) args s 0 0 A) (F0 m 31 ls [])) (q : dS) (x1 : Int32) (x2 : Int32) (y0 : Int32) (y1 : Int32) (H : Heap) (locs : List Loc) (ls : Array Slot) (h : zX10_yearPasses_79 k31 q x1 x2 y0 y1 = some (o1, o2)) (hP : va_P D vwCl (w10 ty ad q) H) (hD : va_D A (w10 ty ad q)) (hS : va_S A s.heap H locs) (hl : lv_has ls 3 [(0, .ref (ad 0)), (1, .int x1), (2, .int x2)]) : W p l e ({ frames := 88, cells := 0, slots := 0, locals := 2244 } : Room) s m args below meth c H locs 0 0 (MQ below (va_Qi (fun (r : Int32) (u : va_W) => o1 = r ∧ w10 ty ad o2 = u) (kz_B D ty A) A) args s 0 0 A) (F0 m 79 ls [.int y0, .int y1, .ref (ad 2)]) := by
  have C0 := C
  obtain ⟨hx, hb, hr, hts, hown, hlocks, hml, hK, hN, hE, hA⟩ := C
  unfold zX10_yearPasses_79 at h
  obtain ⟨g1, h⟩ := dG_some h
  refine va_iast hx hb hK hP hD hS 2 0 rfl rfl (dg_in g1) dX10_yearPasses_79 (fun H locs hp hd hs => ?_)
  obtain ⟨q2, eq2, h⟩ := dL_some h
  refine kz_re (w2 := w10 ty ad q2) hp hd hs (by rw [← eq2]; exact w10_a2 ty ad q (Int32.toNatClampNeg y1) y0) ?_
  clear hp hd hs hP hD hS
  intro hP hD hS
  refine lv_iload_n hx hb dX10_yearPasses_80 rfl (lv_at hl 1 rfl) ?_
  refine lv_aload_n hx hb dX10_yearPasses_81 rfl (lv_at hl 0 rfl) ?_
  refine va_get (D := D) (ci := 10) (v := .ref (ad 13)) (C := RX10) (T := TX10) (N := 56) hx hb hts u9_wsX10_yearPasses_X10 hown hK hP 0 rfl rfl 29 (by decide) (hts (.fieldLink RX10 66 "TurnedFloorsModel" "tipping" "[Z") f9_wsX10_yearPasses_160) (fun _ h9 => h9) rfl dX10_yearPasses_82 ?_
  refine lv_iload_n hx hb dX10_yearPasses_85 rfl (lv_at hl 2 rfl) ?_
  obtain ⟨g3, h⟩ := dG_some h
  refine va_zald hx hb hK hP 13 2 rfl rfl (dg_in g3) dX10_yearPasses_86 ?_
  obtain ⟨v4, ev4, h⟩ := dL_some h
  refine kz_topi v4 ev4 ?_
  refine lv_if_eq (tgt := 94) hx hb dX10_yearPasses_87 (by decide) (fun c9 => ?_) (fun c9 => ?_)
  · rw [if_pos c9] at h
    refine lv_iconst (v := 0) hx hb dX10_yearPasses_94 (by decide) ?_
    exact WX10_yearPasses_95 C0 hk31 _ _ _ _ _ _ _ h hP hD hS (lv_sub hl [0, 2] rfl)
  · rw [if_neg c9] at h
    refine lv_iconst (v := 1) hx hb dX10_yearPasses_90 (by decide) ?_
    refine lv_goto (tgt := 95) hx hb dX10_yearPasses_91 (by decide) ?_
    exact WX10_yearPasses_95 C0 hk31 _ _ _ _ _ _ _ h hP hD hS (lv_sub hl [0, 2] rfl)
set_option maxHeartbeats 4000000 in
set_option maxRecDepth 100000 in
theorem WX10_yearPasses_31b {p : Program} {l : Launch} {e : Env} {s : State} {m : MethodId} {args : Array Value} {below : List Frame} {meth : Method} {c : Code} {D : va_G} {ty : Nat → ClassId} {eo : Nat → Nat} {A : Nat → Prop} {ad : Nat → Nat} {o1 : Int32} {o2 : dS} (C : dc_C p s m args meth c cX10_yearPasses (some .int) 3 RX10 wsX10_yearPasses D ty eo A) {k31 : dS → Int32 → Int32 → Option (Int32 × dS)} (hk31 : ∀ (q : dS) (x1 : Int32) (x2 : Int32) (H : Heap) (locs : List Loc) (ls : Array Slot), k31 q x1 x2 = some (o1, o2) → va_P D vwCl (w10 ty ad q) H → va_D A (w10 ty ad q) → va_S A s.heap H locs → lv_has ls 3 [(0, .ref (ad 0)), (1, .int x1), (2, .int x2)] → W p l e ({ frames := 88, cells := 0, slots := 0, locals := 2244 } : Room) s m args below meth c H locs 0 0 (MQ below (va_Qi (fun (r : Int32) (u : va_W) => o1 = r ∧ w10 ty ad o2 = u) (kz_B D ty A) A) args s 0 0 A) (F0 m 31 ls [])) (q : dS) (x1 : Int32) (x2 : Int32) (H : Heap) (locs : List Loc) (ls : Array Slot) (h : zX10_yearPasses_31b k31 q x1 x2 = some (o1, o2)) (hP : va_P D vwCl (w10 ty ad q) H) (hD : va_D A (w10 ty ad q)) (hS : va_S A s.heap H locs) (hl : lv_has ls 3 [(0, .ref (ad 0)), (1, .int x1), (2, .int x2)]) : W p l e ({ frames := 88, cells := 0, slots := 0, locals := 2244 } : Room) s m args below meth c H locs 0 0 (MQ below (va_Qi (fun (r : Int32) (u : va_W) => o1 = r ∧ w10 ty ad o2 = u) (kz_B D ty A) A) args s 0 0 A) (F0 m 31 ls []) := by
  have C0 := C
  obtain ⟨hx, hb, hr, hts, hown, hlocks, hml, hK, hN, hE, hA⟩ := C
  unfold zX10_yearPasses_31b at h
  refine lv_iload_n hx hb dX10_yearPasses_31 rfl (lv_at hl 2 rfl) ?_
  refine lv_aload_n hx hb dX10_yearPasses_32 rfl (lv_at hl 0 rfl) ?_
  obtain ⟨r1, q3, h2, h⟩ := dB_some h
  refine dw_ki (va_runV (As := []) (rest := [.int x2]) ⟨hx, hb, hml, hown, hts⟩ (qX10_size l D ty eo _ ad q  r1 q3 h2) (cwV 0 hts gX10_yearPasses_X10_size rfl rfl rfl hd_X10_size_v ⟨Nat.le_of_ble_eq_true rfl, Nat.le_of_ble_eq_true rfl⟩) (pv10_10_0 hK hN hE hP hD hS hA) rfl rfl hl.1 rfl (lv_room (Nat.le_of_ble_eq_true rfl)) dX10_yearPasses_33 ⟨Nat.le_of_ble_eq_true rfl, Nat.le_of_ble_eq_true rfl⟩) hD hS hA (fun r9 u9 H locs hw hp hd hs => ?_)
  clear hP hD hS
  obtain ⟨rfl, rfl⟩ := hw
  have hP := hp; have hD := hd; have hS := hs; clear hp hd hs
  refine lv_icmp_ge (tgt := 103) hx hb dX10_yearPasses_36 (by decide) (fun c9 => ?_) (fun c9 => ?_)
  · rw [if_pos c9] at h
    refine lv_aload_n hx hb dX10_yearPasses_103 rfl (lv_at hl 0 rfl) ?_
    refine va_get (D := D) (ci := 10) (v := .ref (ad 2)) (C := RX10) (T := TX10) (N := 56) hx hb hts u9_wsX10_yearPasses_X10 hown hK hP 0 rfl rfl 2 (by decide) (hts (.fieldLink RX10 28 "TurnedFloorsModel" "kept" "[I") f9_wsX10_yearPasses_161) (fun _ h9 => h9) rfl dX10_yearPasses_104 ?_
    refine lv_bipush (v := 13) hx hb dX10_yearPasses_107 (by decide) ?_
    refine lv_dup2_11 hx hb dX10_yearPasses_109 rfl rfl ?_
    refine va_iald hx hb hK hP 2 0 rfl rfl (by simp only [vp_in]; decide) dX10_yearPasses_110 ?_
    refine kz_topi (q3.1 2 13) (congrArg (q3.1 2) (by decide +kernel : Int32.toNatClampNeg 13 = 13)) ?_
    refine lv_iconst (v := 1) hx hb dX10_yearPasses_111 (by decide) ?_
    refine lv_iadd hx hb dX10_yearPasses_112 ?_
    refine va_iast hx hb hK hP hD hS 2 0 rfl rfl (by simp only [vp_in]; decide) dX10_yearPasses_113 (fun H locs hp hd hs => ?_)
    obtain ⟨q4, eq4, h⟩ := dL_some h
    refine kz_re (w2 := w10 ty ad q4) hp hd hs (by rw [(by decide +kernel : Int32.toNatClampNeg 13 = 13), ← eq4]; exact w10_a2 ty ad q3 13 ((q3.1 2 13) + 1 : Int32)) ?_
    clear hp hd hs hP hD hS
    intro hP hD hS
    refine lv_iload_n hx hb dX10_yearPasses_114 rfl (lv_at hl 1 rfl) ?_
    cases h
    exact kz_iret hx hb hr hlocks hP hK hD hS dX10_yearPasses_115 ⟨rfl, rfl⟩
  · rw [if_neg c9] at h
    refine lv_aload_n hx hb dX10_yearPasses_39 rfl (lv_at hl 0 rfl) ?_
    refine va_get (D := D) (ci := 10) (v := .ref (ad 2)) (C := RX10) (T := TX10) (N := 56) hx hb hts u9_wsX10_yearPasses_X10 hown hK hP 0 rfl rfl 2 (by decide) (hts (.fieldLink RX10 28 "TurnedFloorsModel" "kept" "[I") f9_wsX10_yearPasses_161) (fun _ h9 => h9) rfl dX10_yearPasses_40 ?_
    refine lv_bipush (v := 6) hx hb dX10_yearPasses_43 (by decide) ?_
    refine lv_iload_n hx hb dX10_yearPasses_45 rfl (lv_at hl 2 rfl) ?_
    refine lv_iadd hx hb dX10_yearPasses_46 ?_
    refine lv_aload_n hx hb dX10_yearPasses_47 rfl (lv_at hl 0 rfl) ?_
    refine va_get (D := D) (ci := 10) (v := .ref (ad 13)) (C := RX10) (T := TX10) (N := 56) hx hb hts u9_wsX10_yearPasses_X10 hown hK hP 0 rfl rfl 29 (by decide) (hts (.fieldLink RX10 66 "TurnedFloorsModel" "tipping" "[Z") f9_wsX10_yearPasses_160) (fun _ h9 => h9) rfl dX10_yearPasses_48 ?_
    refine lv_iload_n hx hb dX10_yearPasses_51 rfl (lv_at hl 2 rfl) ?_
    obtain ⟨g5, h⟩ := dG_some h
    refine va_zald hx hb hK hP 13 2 rfl rfl (dg_in g5) dX10_yearPasses_52 ?_
    obtain ⟨v6, ev6, h⟩ := dL_some h
    refine kz_topi v6 ev6 ?_
    refine lv_if_eq (tgt := 70) hx hb dX10_yearPasses_53 (by decide) (fun c9 => ?_) (fun c9 => ?_)
    · rw [if_pos c9] at h
      refine lv_aload_n hx hb dX10_yearPasses_70 rfl (lv_at hl 0 rfl) ?_
      refine va_get (D := D) (ci := 10) (v := .ref (ad 2)) (C := RX10) (T := TX10) (N := 56) hx hb hts u9_wsX10_yearPasses_X10 hown hK hP 0 rfl rfl 2 (by decide) (hts (.fieldLink RX10 28 "TurnedFloorsModel" "kept" "[I") f9_wsX10_yearPasses_161) (fun _ h9 => h9) rfl dX10_yearPasses_71 ?_
      refine lv_bipush (v := 6) hx hb dX10_yearPasses_74 (by decide) ?_
      refine lv_iload_n hx hb dX10_yearPasses_76 rfl (lv_at hl 2 rfl) ?_
      refine lv_iadd hx hb dX10_yearPasses_77 ?_
      obtain ⟨g7, h⟩ := dG_some h
      refine va_iald hx hb hK hP 2 0 rfl rfl (dg_in g7) dX10_yearPasses_78 ?_
      obtain ⟨v8, ev8, h⟩ := dL_some h
      refine kz_topi v8 ev8 ?_
      exact WX10_yearPasses_79 C0 hk31 _ _ _ _ _ _ _ _ h hP hD hS (lv_sub hl [0, 1, 2] rfl)
    · rw [if_neg c9] at h
      refine lv_iconst (v := 1) hx hb dX10_yearPasses_56 (by decide) ?_
      refine lv_aload_n hx hb dX10_yearPasses_57 rfl (lv_at hl 0 rfl) ?_
      refine va_get (D := D) (ci := 10) (v := .ref (ad 2)) (C := RX10) (T := TX10) (N := 56) hx hb hts u9_wsX10_yearPasses_X10 hown hK hP 0 rfl rfl 2 (by decide) (hts (.fieldLink RX10 28 "TurnedFloorsModel" "kept" "[I") f9_wsX10_yearPasses_161) (fun _ h9 => h9) rfl dX10_yearPasses_58 ?_
      refine lv_bipush (v := 6) hx hb dX10_yearPasses_61 (by decide) ?_
      refine lv_iload_n hx hb dX10_yearPasses_63 rfl (lv_at hl 2 rfl) ?_
      refine lv_iadd hx hb dX10_yearPasses_64 ?_
      obtain ⟨g9, h⟩ := dG_some h
      refine va_iald hx hb hK hP 2 0 rfl rfl (dg_in g9) dX10_yearPasses_65 ?_
      obtain ⟨v10, ev10, h⟩ := dL_some h
      refine kz_topi v10 ev10 ?_
      refine lv_isub hx hb dX10_yearPasses_66 ?_
      refine lv_goto (tgt := 79) hx hb dX10_yearPasses_67 (by decide) ?_
      exact WX10_yearPasses_79 C0 hk31 _ _ _ _ _ _ _ _ h hP hD hS (lv_sub hl [0, 1, 2] rfl)
set_option maxHeartbeats 4000000 in
set_option maxRecDepth 100000 in
theorem WX10_yearPasses_31 {p : Program} {l : Launch} {e : Env} {s : State} {m : MethodId} {args : Array Value} {below : List Frame} {meth : Method} {c : Code} {D : va_G} {ty : Nat → ClassId} {eo : Nat → Nat} {A : Nat → Prop} {ad : Nat → Nat} {o1 : Int32} {o2 : dS} (C : dc_C p s m args meth c cX10_yearPasses (some .int) 3 RX10 wsX10_yearPasses D ty eo A)   (n : Nat) (q : dS) (x1 : Int32) (x2 : Int32) (H : Heap) (locs : List Loc) (ls : Array Slot) (h : zX10_yearPasses_31  n q x1 x2 = some (o1, o2)) (hP : va_P D vwCl (w10 ty ad q) H) (hD : va_D A (w10 ty ad q)) (hS : va_S A s.heap H locs) (hl : lv_has ls 3 [(0, .ref (ad 0)), (1, .int x1), (2, .int x2)]) : W p l e ({ frames := 88, cells := 0, slots := 0, locals := 2244 } : Room) s m args below meth c H locs 0 0 (MQ below (va_Qi (fun (r : Int32) (u : va_W) => o1 = r ∧ w10 ty ad o2 = u) (kz_B D ty A) A) args s 0 0 A) (F0 m 31 ls []) := by
  exact dFix_W (F := fun k (a : dS × Int32 × Int32) => zX10_yearPasses_31b  (fun q x1 x2 => k (q, x1, x2)) a.1 a.2.1 a.2.2) (o := (o1, o2)) (P := fun (a : dS × Int32 × Int32) H locs ls => va_P D vwCl (w10 ty ad a.1) H ∧ va_D A (w10 ty ad a.1) ∧ va_S A s.heap H locs ∧ lv_has ls 3 [(0, .ref (ad 0)), (1, .int a.2.1), (2, .int a.2.2)]) (G := fun H locs ls => W p l e ({ frames := 88, cells := 0, slots := 0, locals := 2244 } : Room) s m args below meth c H locs 0 0 (MQ below (va_Qi (fun (r : Int32) (u : va_W) => o1 = r ∧ w10 ty ad o2 = u) (kz_B D ty A) A) args s 0 0 A) (F0 m 31 ls []))
    (fun k hk a H locs ls h hp => WX10_yearPasses_31b C  (fun q x1 x2 H locs ls h h1 h2 h3 h4 => hk (q, x1, x2) H locs ls h ⟨h1, h2, h3, h4⟩) a.1 a.2.1 a.2.2 H locs ls h hp.1 hp.2.1 hp.2.2.1 hp.2.2.2) n (q, x1, x2) H locs ls h ⟨hP, hD, hS, hl⟩
set_option maxHeartbeats 4000000 in
set_option maxRecDepth 100000 in
theorem WX10_yearPasses_4b {p : Program} {l : Launch} {e : Env} {s : State} {m : MethodId} {args : Array Value} {below : List Frame} {meth : Method} {c : Code} {D : va_G} {ty : Nat → ClassId} {eo : Nat → Nat} {A : Nat → Prop} {ad : Nat → Nat} {o1 : Int32} {o2 : dS} (C : dc_C p s m args meth c cX10_yearPasses (some .int) 3 RX10 wsX10_yearPasses D ty eo A) {k4 : dS → Int32 → Int32 → Option (Int32 × dS)} (hk4 : ∀ (q : dS) (x1 : Int32) (x2 : Int32) (H : Heap) (locs : List Loc) (ls : Array Slot), k4 q x1 x2 = some (o1, o2) → va_P D vwCl (w10 ty ad q) H → va_D A (w10 ty ad q) → va_S A s.heap H locs → lv_has ls 3 [(0, .ref (ad 0)), (1, .int x1), (2, .int x2)] → W p l e ({ frames := 88, cells := 0, slots := 0, locals := 2244 } : Room) s m args below meth c H locs 0 0 (MQ below (va_Qi (fun (r : Int32) (u : va_W) => o1 = r ∧ w10 ty ad o2 = u) (kz_B D ty A) A) args s 0 0 A) (F0 m 4 ls [])) (q : dS) (x1 : Int32) (x2 : Int32) (H : Heap) (locs : List Loc) (ls : Array Slot) (h : zX10_yearPasses_4b k4 q x1 x2 = some (o1, o2)) (hP : va_P D vwCl (w10 ty ad q) H) (hD : va_D A (w10 ty ad q)) (hS : va_S A s.heap H locs) (hl : lv_has ls 3 [(0, .ref (ad 0)), (1, .int x1), (2, .int x2)]) : W p l e ({ frames := 88, cells := 0, slots := 0, locals := 2244 } : Room) s m args below meth c H locs 0 0 (MQ below (va_Qi (fun (r : Int32) (u : va_W) => o1 = r ∧ w10 ty ad o2 = u) (kz_B D ty A) A) args s 0 0 A) (F0 m 4 ls []) := by
  have C0 := C
  obtain ⟨hx, hb, hr, hts, hown, hlocks, hml, hK, hN, hE, hA⟩ := C
  unfold zX10_yearPasses_4b at h
  refine lv_iload_n hx hb dX10_yearPasses_4 rfl (lv_at hl 2 rfl) ?_
  refine lv_aload_n hx hb dX10_yearPasses_5 rfl (lv_at hl 0 rfl) ?_
  obtain ⟨r1, q3, h2, h⟩ := dB_some h
  refine dw_ki (va_runV (As := []) (rest := [.int x2]) ⟨hx, hb, hml, hown, hts⟩ (qX10_size l D ty eo _ ad q  r1 q3 h2) (cwV 0 hts gX10_yearPasses_X10_size rfl rfl rfl hd_X10_size_v ⟨Nat.le_of_ble_eq_true rfl, Nat.le_of_ble_eq_true rfl⟩) (pv10_10_0 hK hN hE hP hD hS hA) rfl rfl hl.1 rfl (lv_room (Nat.le_of_ble_eq_true rfl)) dX10_yearPasses_6 ⟨Nat.le_of_ble_eq_true rfl, Nat.le_of_ble_eq_true rfl⟩) hD hS hA (fun r9 u9 H locs hw hp hd hs => ?_)
  clear hP hD hS
  obtain ⟨rfl, rfl⟩ := hw
  have hP := hp; have hD := hd; have hS := hs; clear hp hd hs
  refine lv_icmp_ge (tgt := 29) hx hb dX10_yearPasses_9 (by decide) (fun c9 => ?_) (fun c9 => ?_)
  · rw [if_pos c9] at h
    refine lv_iconst (v := 0) hx hb dX10_yearPasses_29 (by decide) ?_
    refine lv_istore_n (lv' := [(2, .int 0), (0, .ref (ad 0)), (1, .int x1)]) hx hb dX10_yearPasses_30 rfl hl (by decide) rfl (fun ls hl => ?_)
    exact WX10_yearPasses_31 C0  _ _ _ _ _ _ _ h hP hD hS (lv_sub hl [1, 2, 0] rfl)
  · rw [if_neg c9] at h
    refine lv_aload_n hx hb dX10_yearPasses_12 rfl (lv_at hl 0 rfl) ?_
    refine va_get (D := D) (ci := 10) (v := .ref (ad 13)) (C := RX10) (T := TX10) (N := 56) hx hb hts u9_wsX10_yearPasses_X10 hown hK hP 0 rfl rfl 29 (by decide) (hts (.fieldLink RX10 66 "TurnedFloorsModel" "tipping" "[Z") f9_wsX10_yearPasses_160) (fun _ h9 => h9) rfl dX10_yearPasses_13 ?_
    refine lv_iload_n hx hb dX10_yearPasses_16 rfl (lv_at hl 2 rfl) ?_
    refine lv_aload_n hx hb dX10_yearPasses_17 rfl (lv_at hl 0 rfl) ?_
    refine lv_iload_n hx hb dX10_yearPasses_18 rfl (lv_at hl 2 rfl) ?_
    obtain ⟨r4, q6, h5, h⟩ := dB_some h
    refine dw_ki (va_runV (As := [.int x2]) (rest := [.int x2, .ref (ad 13)]) ⟨hx, hb, hml, hown, hts⟩ (qX10_tipsAt l D ty eo _ ad q3 x2 r4 q6 h5) (cwV 1 hts gX10_yearPasses_X10_tipsAt rfl rfl rfl hd_X10_tipsAt_v ⟨Nat.le_of_ble_eq_true rfl, Nat.le_of_ble_eq_true rfl⟩) (pv10_10_0 hK hN hE hP hD hS hA) rfl rfl hl.1 rfl (lv_room (Nat.le_of_ble_eq_true rfl)) dX10_yearPasses_19 ⟨Nat.le_of_ble_eq_true rfl, Nat.le_of_ble_eq_true rfl⟩) hD hS hA (fun r9 u9 H locs hw hp hd hs => ?_)
    clear hP hD hS
    obtain ⟨rfl, rfl⟩ := hw
    have hP := hp; have hD := hd; have hS := hs; clear hp hd hs
    obtain ⟨g7, h⟩ := dG_some h
    refine va_zast hx hb hK hP hD hS 13 2 rfl rfl (dg_in g7) dX10_yearPasses_22 (fun H locs hp hd hs => ?_)
    obtain ⟨q8, eq8, h⟩ := dL_some h
    refine kz_re (w2 := w10 ty ad q8) hp hd hs (by rw [← eq8]; exact w10_a13 ty ad q6 (Int32.toNatClampNeg x2) (vp_nar .boolean r4)) ?_
    clear hp hd hs hP hD hS
    intro hP hD hS
    refine lv_iinc (v := x2 + 1) (lv' := [(2, .int (x2 + 1)), (0, .ref (ad 0)), (1, .int x1)]) hx hb dX10_yearPasses_23 hl (k := 2) rfl rfl (by decide) rfl (fun ls hl => ?_)
    refine lv_goto (tgt := 4) hx hb dX10_yearPasses_26 (by decide) ?_
    exact hk4 _ _ _ _ _ _ h hP hD hS (lv_sub hl [1, 2, 0] rfl)
set_option maxHeartbeats 4000000 in
set_option maxRecDepth 100000 in
theorem WX10_yearPasses_4 {p : Program} {l : Launch} {e : Env} {s : State} {m : MethodId} {args : Array Value} {below : List Frame} {meth : Method} {c : Code} {D : va_G} {ty : Nat → ClassId} {eo : Nat → Nat} {A : Nat → Prop} {ad : Nat → Nat} {o1 : Int32} {o2 : dS} (C : dc_C p s m args meth c cX10_yearPasses (some .int) 3 RX10 wsX10_yearPasses D ty eo A)   (n : Nat) (q : dS) (x1 : Int32) (x2 : Int32) (H : Heap) (locs : List Loc) (ls : Array Slot) (h : zX10_yearPasses_4  n q x1 x2 = some (o1, o2)) (hP : va_P D vwCl (w10 ty ad q) H) (hD : va_D A (w10 ty ad q)) (hS : va_S A s.heap H locs) (hl : lv_has ls 3 [(0, .ref (ad 0)), (1, .int x1), (2, .int x2)]) : W p l e ({ frames := 88, cells := 0, slots := 0, locals := 2244 } : Room) s m args below meth c H locs 0 0 (MQ below (va_Qi (fun (r : Int32) (u : va_W) => o1 = r ∧ w10 ty ad o2 = u) (kz_B D ty A) A) args s 0 0 A) (F0 m 4 ls []) := by
  exact dFix_W (F := fun k (a : dS × Int32 × Int32) => zX10_yearPasses_4b  (fun q x1 x2 => k (q, x1, x2)) a.1 a.2.1 a.2.2) (o := (o1, o2)) (P := fun (a : dS × Int32 × Int32) H locs ls => va_P D vwCl (w10 ty ad a.1) H ∧ va_D A (w10 ty ad a.1) ∧ va_S A s.heap H locs ∧ lv_has ls 3 [(0, .ref (ad 0)), (1, .int a.2.1), (2, .int a.2.2)]) (G := fun H locs ls => W p l e ({ frames := 88, cells := 0, slots := 0, locals := 2244 } : Room) s m args below meth c H locs 0 0 (MQ below (va_Qi (fun (r : Int32) (u : va_W) => o1 = r ∧ w10 ty ad o2 = u) (kz_B D ty A) A) args s 0 0 A) (F0 m 4 ls []))
    (fun k hk a H locs ls h hp => WX10_yearPasses_4b C  (fun q x1 x2 H locs ls h h1 h2 h3 h4 => hk (q, x1, x2) H locs ls h ⟨h1, h2, h3, h4⟩) a.1 a.2.1 a.2.2 H locs ls h hp.1 hp.2.1 hp.2.2.1 hp.2.2.2) n (q, x1, x2) H locs ls h ⟨hP, hD, hS, hl⟩
set_option maxHeartbeats 4000000 in
set_option maxRecDepth 100000 in
theorem qX10_yearPasses (l : Launch) (D : va_G) (ty : Nat → ClassId) (eo : Nat → Nat) (sz : Nat) (ad : Nat → Nat) (q : dS)  (o1 : Int32) (o2 : dS) (h : zX10_yearPasses q = some (o1, o2)) : Met l yX10_yearPasses wsX10_yearPasses ({ frames := 88, cells := 0, slots := 0, locals := 2244 } : Room) (va_Pc [.ref (ad 0)] (kz_pre D ty eo (w10 ty ad q) sz)) (va_Qi (fun (r : Int32) (u : va_W) => o1 = r ∧ w10 ty ad o2 = u) (kz_B D ty (va_A (w10 ty ad q) sz)) (va_A (w10 ty ad q) sz)) 0 0 (va_A (w10 ty ad q) sz) := by
  refine Met.ofW (cc := cX10_yearPasses) (maxL := 3) (ret := (some .int)) (by decide) rfl ?_
  intro p e s m args below meth c s₁ B hml hv
  obtain ⟨rfl, hsz, hP, hK, hD0, hN, hE⟩ := hv
  have hx := B.exec
  have hb := B.bytes
  have hr := B.returns
  have hts := atoms_spec (ws := wsX10_yearPasses) B.pre
  have hown : s.vm.findClass RX10 = some m.cls := findClass_of_methodNamed B.named
  have hlocks := B.notSynchronized
  subst hsz
  have hD := hD0.self (sz := s.heap.size)
  generalize hAe : va_A (w10 ty ad q) s.heap.size = A at hD hE ⊢
  have hA : ∀ q : Nat, s.heap.size ≤ q → A q := fun q h => by rw [← hAe]; exact Or.inr h
  clear hAe
  have hS : va_S A s.heap s.heap [] := va_S.rf
  have hl := lv_entry ([.ref (ad 0)]) (n := 3) (Nat.le_of_ble_eq_true rfl)
  rw [lg_entry_eq]
  generalize (lg_sl ([.ref (ad 0)]) ++ List.replicate (3 - (lg_sl ([.ref (ad 0)])).length) Slot.unset).toArray = ls at hl ⊢
  have hl : lv_has ls 3 [(0, .ref (ad 0))] := hl
  have C : dc_C p s m _ meth c cX10_yearPasses (some .int) 3 RX10 wsX10_yearPasses D ty eo A := ⟨hx, hb, hr, hts, hown, hlocks, hml, hK, hN, hE, hA⟩
  unfold zX10_yearPasses at h
  refine lv_iconst (v := 0) hx hb dX10_yearPasses_0 (by decide) ?_
  refine lv_istore_n (lv' := [(1, .int 0), (0, .ref (ad 0))]) hx hb dX10_yearPasses_1 rfl hl (by decide) rfl (fun ls hl => ?_)
  refine lv_iconst (v := 0) hx hb dX10_yearPasses_2 (by decide) ?_
  refine lv_istore_n (lv' := [(2, .int 0), (1, .int 0), (0, .ref (ad 0))]) hx hb dX10_yearPasses_3 rfl hl (by decide) rfl (fun ls hl => ?_)
  exact WX10_yearPasses_4 C  _ _ _ _ _ _ _ h hP hD hS (lv_sub hl [2, 1, 0] rfl)

set_option maxHeartbeats 4000000 in
set_option maxRecDepth 100000 in
theorem WX10_keeps_54b {p : Program} {l : Launch} {e : Env} {s : State} {m : MethodId} {args : Array Value} {below : List Frame} {meth : Method} {c : Code} {D : va_G} {ty : Nat → ClassId} {eo : Nat → Nat} {A : Nat → Prop} {ad : Nat → Nat} {o2 : dS} (C : dc_C p s m args meth c cX10_keeps none 4 RX10 wsX10_keeps D ty eo A) {k54 : dS → Int32 → Int32 → Int32 → Option (dS)} (hk54 : ∀ (q : dS) (x1 : Int32) (x2 : Int32) (x3 : Int32) (H : Heap) (locs : List Loc) (ls : Array Slot), k54 q x1 x2 x3 = some o2 → va_P D vwCl (w10 ty ad q) H → va_D A (w10 ty ad q) → va_S A s.heap H locs → lv_has ls 4 [(0, .ref (ad 0)), (1, .int x1), (2, .int x2), (3, .int x3)] → W p l e ({ frames := 0, cells := 0, slots := 0, locals := 0 } : Room) s m args below meth c H locs 0 0 (MQ below (va_Qv (fun (u : va_W) => w10 ty ad o2 = u) (kz_B D ty A) A) args s 0 0 A) (F0 m 54 ls [])) (q : dS) (x1 : Int32) (x2 : Int32) (x3 : Int32) (H : Heap) (locs : List Loc) (ls : Array Slot) (h : zX10_keeps_54b k54 q x1 x2 x3 = some o2) (hP : va_P D vwCl (w10 ty ad q) H) (hD : va_D A (w10 ty ad q)) (hS : va_S A s.heap H locs) (hl : lv_has ls 4 [(0, .ref (ad 0)), (1, .int x1), (2, .int x2), (3, .int x3)]) : W p l e ({ frames := 0, cells := 0, slots := 0, locals := 0 } : Room) s m args below meth c H locs 0 0 (MQ below (va_Qv (fun (u : va_W) => w10 ty ad o2 = u) (kz_B D ty A) A) args s 0 0 A) (F0 m 54 ls []) := by
  have C0 := C
  obtain ⟨hx, hb, hr, hts, hown, hlocks, hml, hK, hN, hE, hA⟩ := C
  unfold zX10_keeps_54b at h
  refine lv_iload_n hx hb dX10_keeps_54 rfl (lv_at hl 3 rfl) ?_
  refine lv_bipush (v := 14) hx hb dX10_keeps_55 (by decide) ?_
  refine lv_icmp_ge (tgt := 85) hx hb dX10_keeps_57 (by decide) (fun c9 => ?_) (fun c9 => ?_)
  · rw [if_pos c9] at h
    refine lv_aload_n hx hb dX10_keeps_85 rfl (lv_at hl 0 rfl) ?_
    refine va_get (D := D) (ci := 10) (v := .ref (ad 14)) (C := RX10) (T := TX10) (N := 56) hx hb hts u9_wsX10_keeps_X10 hown hK hP 0 rfl rfl 30 (by decide) (hts (.fieldLink RX10 69 "TurnedFloorsModel" "left0" "[I") f9_wsX10_keeps_163) (fun _ h9 => h9) rfl dX10_keeps_86 ?_
    refine lv_iload_n hx hb dX10_keeps_89 rfl (lv_at hl 2 rfl) ?_
    refine lv_aload_n hx hb dX10_keeps_90 rfl (lv_at hl 0 rfl) ?_
    refine va_get (D := D) (ci := 10) (v := .int (q.1 0 32)) (C := RX10) (T := TX10) (N := 56) hx hb hts u9_wsX10_keeps_X10 hown hK hP 0 rfl rfl 32 (by decide) (hts (.fieldLink RX10 11 "TurnedFloorsModel" "undoMany" "I") f9_wsX10_keeps_164) (fun _ h9 => h9) rfl dX10_keeps_91 ?_
    refine lv_imul hx hb dX10_keeps_94 ?_
    refine lv_bipush (v := 14) hx hb dX10_keeps_95 (by decide) ?_
    refine lv_iadd hx hb dX10_keeps_97 ?_
    refine lv_iload_n hx hb dX10_keeps_98 rfl (lv_at hl 1 rfl) ?_
    obtain ⟨g1, h⟩ := dG_some h
    refine va_iast hx hb hK hP hD hS 14 0 rfl rfl (dg_in g1) dX10_keeps_99 (fun H locs hp hd hs => ?_)
    obtain ⟨q2, eq2, h⟩ := dL_some h
    refine kz_re (w2 := w10 ty ad q2) hp hd hs (by rw [← eq2]; exact w10_a14 ty ad q (Int32.toNatClampNeg ((x2 * (q.1 0 32)) + 14 : Int32)) x1) ?_
    clear hp hd hs hP hD hS
    intro hP hD hS
    refine lv_aload_n hx hb dX10_keeps_100 rfl (lv_at hl 0 rfl) ?_
    refine lv_dup hx hb dX10_keeps_101 rfl ?_
    refine va_get (D := D) (ci := 10) (v := .int (q2.1 0 32)) (C := RX10) (T := TX10) (N := 56) hx hb hts u9_wsX10_keeps_X10 hown hK hP 0 rfl rfl 32 (by decide) (hts (.fieldLink RX10 11 "TurnedFloorsModel" "undoMany" "I") f9_wsX10_keeps_164) (fun _ h9 => h9) rfl dX10_keeps_102 ?_
    refine lv_iconst (v := 1) hx hb dX10_keeps_105 (by decide) ?_
    refine lv_iadd hx hb dX10_keeps_106 ?_
    refine va_put (D := D) (ci := 10) (v := .int ((q2.1 0 32) + 1 : Int32)) (ty := .int) (C := RX10) (T := TX10) (N := 56) hx hb hts u9_wsX10_keeps_X10 tyX10 tyX10_ok nmX10 hown hK hP hD hS 0 rfl rfl 32 (by decide) (hts (.fieldLink RX10 11 "TurnedFloorsModel" "undoMany" "I") f9_wsX10_keeps_164) (fun _ h9 => h9) rfl (by decide +kernel) rfl rfl (Nat.le_of_ble_eq_true rfl) dX10_keeps_107 (fun H locs hp hd hs => ?_)
    obtain ⟨q3, eq3, h⟩ := dL_some h
    refine kz_re (w2 := w10 ty ad q3) hp hd hs (by rw [← eq3]; exact w10_f32 ty ad q2 ((q2.1 0 32) + 1 : Int32)) ?_
    clear hp hd hs hP hD hS
    intro hP hD hS
    cases h
    exact kz_vret hx hb hr hlocks hP hK hD hS dX10_keeps_110 rfl
  · rw [if_neg c9] at h
    refine lv_aload_n hx hb dX10_keeps_60 rfl (lv_at hl 0 rfl) ?_
    refine va_get (D := D) (ci := 10) (v := .ref (ad 14)) (C := RX10) (T := TX10) (N := 56) hx hb hts u9_wsX10_keeps_X10 hown hK hP 0 rfl rfl 30 (by decide) (hts (.fieldLink RX10 69 "TurnedFloorsModel" "left0" "[I") f9_wsX10_keeps_163) (fun _ h9 => h9) rfl dX10_keeps_61 ?_
    refine lv_iload_n hx hb dX10_keeps_64 rfl (lv_at hl 2 rfl) ?_
    refine lv_aload_n hx hb dX10_keeps_65 rfl (lv_at hl 0 rfl) ?_
    refine va_get (D := D) (ci := 10) (v := .int (q.1 0 32)) (C := RX10) (T := TX10) (N := 56) hx hb hts u9_wsX10_keeps_X10 hown hK hP 0 rfl rfl 32 (by decide) (hts (.fieldLink RX10 11 "TurnedFloorsModel" "undoMany" "I") f9_wsX10_keeps_164) (fun _ h9 => h9) rfl dX10_keeps_66 ?_
    refine lv_imul hx hb dX10_keeps_69 ?_
    refine lv_iload_n hx hb dX10_keeps_70 rfl (lv_at hl 3 rfl) ?_
    refine lv_iadd hx hb dX10_keeps_71 ?_
    refine lv_aload_n hx hb dX10_keeps_72 rfl (lv_at hl 0 rfl) ?_
    refine va_get (D := D) (ci := 10) (v := .ref (ad 2)) (C := RX10) (T := TX10) (N := 56) hx hb hts u9_wsX10_keeps_X10 hown hK hP 0 rfl rfl 2 (by decide) (hts (.fieldLink RX10 28 "TurnedFloorsModel" "kept" "[I") f9_wsX10_keeps_165) (fun _ h9 => h9) rfl dX10_keeps_73 ?_
    refine lv_iload_n hx hb dX10_keeps_76 rfl (lv_at hl 3 rfl) ?_
    obtain ⟨g4, h⟩ := dG_some h
    refine va_iald hx hb hK hP 2 0 rfl rfl (dg_in g4) dX10_keeps_77 ?_
    obtain ⟨v5, ev5, h⟩ := dL_some h
    refine kz_topi v5 ev5 ?_
    obtain ⟨g6, h⟩ := dG_some h
    refine va_iast hx hb hK hP hD hS 14 0 rfl rfl (dg_in g6) dX10_keeps_78 (fun H locs hp hd hs => ?_)
    obtain ⟨q7, eq7, h⟩ := dL_some h
    refine kz_re (w2 := w10 ty ad q7) hp hd hs (by rw [← eq7]; exact w10_a14 ty ad q (Int32.toNatClampNeg ((x2 * (q.1 0 32)) + x3)) v5) ?_
    clear hp hd hs hP hD hS
    intro hP hD hS
    refine lv_iinc (v := x3 + 1) (lv' := [(3, .int (x3 + 1)), (0, .ref (ad 0)), (1, .int x1), (2, .int x2)]) hx hb dX10_keeps_79 hl (k := 3) rfl rfl (by decide) rfl (fun ls hl => ?_)
    refine lv_goto (tgt := 54) hx hb dX10_keeps_82 (by decide) ?_
    exact hk54 _ _ _ _ _ _ _ h hP hD hS (lv_sub hl [1, 2, 3, 0] rfl)
set_option maxHeartbeats 4000000 in
set_option maxRecDepth 100000 in
theorem WX10_keeps_54 {p : Program} {l : Launch} {e : Env} {s : State} {m : MethodId} {args : Array Value} {below : List Frame} {meth : Method} {c : Code} {D : va_G} {ty : Nat → ClassId} {eo : Nat → Nat} {A : Nat → Prop} {ad : Nat → Nat} {o2 : dS} (C : dc_C p s m args meth c cX10_keeps none 4 RX10 wsX10_keeps D ty eo A)   (n : Nat) (q : dS) (x1 : Int32) (x2 : Int32) (x3 : Int32) (H : Heap) (locs : List Loc) (ls : Array Slot) (h : zX10_keeps_54  n q x1 x2 x3 = some o2) (hP : va_P D vwCl (w10 ty ad q) H) (hD : va_D A (w10 ty ad q)) (hS : va_S A s.heap H locs) (hl : lv_has ls 4 [(0, .ref (ad 0)), (1, .int x1), (2, .int x2), (3, .int x3)]) : W p l e ({ frames := 0, cells := 0, slots := 0, locals := 0 } : Room) s m args below meth c H locs 0 0 (MQ below (va_Qv (fun (u : va_W) => w10 ty ad o2 = u) (kz_B D ty A) A) args s 0 0 A) (F0 m 54 ls []) := by
  exact dFix_W (F := fun k (a : dS × Int32 × Int32 × Int32) => zX10_keeps_54b  (fun q x1 x2 x3 => k (q, x1, x2, x3)) a.1 a.2.1 a.2.2.1 a.2.2.2) (o := o2) (P := fun (a : dS × Int32 × Int32 × Int32) H locs ls => va_P D vwCl (w10 ty ad a.1) H ∧ va_D A (w10 ty ad a.1) ∧ va_S A s.heap H locs ∧ lv_has ls 4 [(0, .ref (ad 0)), (1, .int a.2.1), (2, .int a.2.2.1), (3, .int a.2.2.2)]) (G := fun H locs ls => W p l e ({ frames := 0, cells := 0, slots := 0, locals := 0 } : Room) s m args below meth c H locs 0 0 (MQ below (va_Qv (fun (u : va_W) => w10 ty ad o2 = u) (kz_B D ty A) A) args s 0 0 A) (F0 m 54 ls []))
    (fun k hk a H locs ls h hp => WX10_keeps_54b C  (fun q x1 x2 x3 H locs ls h h1 h2 h3 h4 => hk (q, x1, x2, x3) H locs ls h ⟨h1, h2, h3, h4⟩) a.1 a.2.1 a.2.2.1 a.2.2.2 H locs ls h hp.1 hp.2.1 hp.2.2.1 hp.2.2.2) n (q, x1, x2, x3) H locs ls h ⟨hP, hD, hS, hl⟩
set_option maxHeartbeats 4000000 in
set_option maxRecDepth 100000 in
theorem WX10_keeps_52 {p : Program} {l : Launch} {e : Env} {s : State} {m : MethodId} {args : Array Value} {below : List Frame} {meth : Method} {c : Code} {D : va_G} {ty : Nat → ClassId} {eo : Nat → Nat} {A : Nat → Prop} {ad : Nat → Nat} {o2 : dS} (C : dc_C p s m args meth c cX10_keeps none 4 RX10 wsX10_keeps D ty eo A)   (q : dS) (x1 : Int32) (x2 : Int32) (H : Heap) (locs : List Loc) (ls : Array Slot) (h : zX10_keeps_52  q x1 x2 = some o2) (hP : va_P D vwCl (w10 ty ad q) H) (hD : va_D A (w10 ty ad q)) (hS : va_S A s.heap H locs) (hl : lv_has ls 4 [(0, .ref (ad 0)), (1, .int x1), (2, .int x2)]) : W p l e ({ frames := 0, cells := 0, slots := 0, locals := 0 } : Room) s m args below meth c H locs 0 0 (MQ below (va_Qv (fun (u : va_W) => w10 ty ad o2 = u) (kz_B D ty A) A) args s 0 0 A) (F0 m 52 ls []) := by
  have C0 := C
  obtain ⟨hx, hb, hr, hts, hown, hlocks, hml, hK, hN, hE, hA⟩ := C
  unfold zX10_keeps_52 at h
  refine lv_iconst (v := 0) hx hb dX10_keeps_52 (by decide) ?_
  refine lv_istore_n (lv' := [(3, .int 0), (0, .ref (ad 0)), (1, .int x1), (2, .int x2)]) hx hb dX10_keeps_53 rfl hl (by decide) rfl (fun ls hl => ?_)
  exact WX10_keeps_54 C0  _ _ _ _ _ _ _ _ h hP hD hS (lv_sub hl [1, 2, 3, 0] rfl)
set_option maxHeartbeats 4000000 in
set_option maxRecDepth 100000 in
theorem WX10_keeps_14b {p : Program} {l : Launch} {e : Env} {s : State} {m : MethodId} {args : Array Value} {below : List Frame} {meth : Method} {c : Code} {D : va_G} {ty : Nat → ClassId} {eo : Nat → Nat} {A : Nat → Prop} {ad : Nat → Nat} {o2 : dS} (C : dc_C p s m args meth c cX10_keeps none 4 RX10 wsX10_keeps D ty eo A) {k14 : dS → Int32 → Int32 → Int32 → Option (dS)} (hk14 : ∀ (q : dS) (x1 : Int32) (x2 : Int32) (x3 : Int32) (H : Heap) (locs : List Loc) (ls : Array Slot), k14 q x1 x2 x3 = some o2 → va_P D vwCl (w10 ty ad q) H → va_D A (w10 ty ad q) → va_S A s.heap H locs → lv_has ls 4 [(0, .ref (ad 0)), (1, .int x1), (2, .int x2), (3, .int x3)] → W p l e ({ frames := 0, cells := 0, slots := 0, locals := 0 } : Room) s m args below meth c H locs 0 0 (MQ below (va_Qv (fun (u : va_W) => w10 ty ad o2 = u) (kz_B D ty A) A) args s 0 0 A) (F0 m 14 ls [])) (q : dS) (x1 : Int32) (x2 : Int32) (x3 : Int32) (H : Heap) (locs : List Loc) (ls : Array Slot) (h : zX10_keeps_14b k14 q x1 x2 x3 = some o2) (hP : va_P D vwCl (w10 ty ad q) H) (hD : va_D A (w10 ty ad q)) (hS : va_S A s.heap H locs) (hl : lv_has ls 4 [(0, .ref (ad 0)), (1, .int x1), (2, .int x2), (3, .int x3)]) : W p l e ({ frames := 0, cells := 0, slots := 0, locals := 0 } : Room) s m args below meth c H locs 0 0 (MQ below (va_Qv (fun (u : va_W) => w10 ty ad o2 = u) (kz_B D ty A) A) args s 0 0 A) (F0 m 14 ls []) := by
  have C0 := C
  obtain ⟨hx, hb, hr, hts, hown, hlocks, hml, hK, hN, hE, hA⟩ := C
  unfold zX10_keeps_14b at h
  refine lv_iload_n hx hb dX10_keeps_14 rfl (lv_at hl 3 rfl) ?_
  refine lv_bipush (v := 15) hx hb dX10_keeps_15 (by decide) ?_
  refine lv_iload_n hx hb dX10_keeps_17 rfl (lv_at hl 2 rfl) ?_
  refine lv_imul hx hb dX10_keeps_18 ?_
  refine lv_icmp_ge (tgt := 42) hx hb dX10_keeps_19 (by decide) (fun c9 => ?_) (fun c9 => ?_)
  · rw [if_pos c9] at h
    refine lv_aload_n hx hb dX10_keeps_42 rfl (lv_at hl 0 rfl) ?_
    refine lv_dup hx hb dX10_keeps_43 rfl ?_
    refine va_get (D := D) (ci := 10) (v := .int (q.1 0 32)) (C := RX10) (T := TX10) (N := 56) hx hb hts u9_wsX10_keeps_X10 hown hK hP 0 rfl rfl 32 (by decide) (hts (.fieldLink RX10 11 "TurnedFloorsModel" "undoMany" "I") f9_wsX10_keeps_164) (fun _ h9 => h9) rfl dX10_keeps_44 ?_
    refine lv_iconst (v := 1) hx hb dX10_keeps_47 (by decide) ?_
    refine lv_isub hx hb dX10_keeps_48 ?_
    refine va_put (D := D) (ci := 10) (v := .int ((q.1 0 32) - 1 : Int32)) (ty := .int) (C := RX10) (T := TX10) (N := 56) hx hb hts u9_wsX10_keeps_X10 tyX10 tyX10_ok nmX10 hown hK hP hD hS 0 rfl rfl 32 (by decide) (hts (.fieldLink RX10 11 "TurnedFloorsModel" "undoMany" "I") f9_wsX10_keeps_164) (fun _ h9 => h9) rfl (by decide +kernel) rfl rfl (Nat.le_of_ble_eq_true rfl) dX10_keeps_49 (fun H locs hp hd hs => ?_)
    obtain ⟨q1, eq1, h⟩ := dL_some h
    refine kz_re (w2 := w10 ty ad q1) hp hd hs (by rw [← eq1]; exact w10_f32 ty ad q ((q.1 0 32) - 1 : Int32)) ?_
    clear hp hd hs hP hD hS
    intro hP hD hS
    exact WX10_keeps_52 C0  _ _ _ _ _ _ h hP hD hS (lv_sub hl [0, 1, 2] rfl)
  · rw [if_neg c9] at h
    refine lv_aload_n hx hb dX10_keeps_22 rfl (lv_at hl 0 rfl) ?_
    refine va_get (D := D) (ci := 10) (v := .ref (ad 14)) (C := RX10) (T := TX10) (N := 56) hx hb hts u9_wsX10_keeps_X10 hown hK hP 0 rfl rfl 30 (by decide) (hts (.fieldLink RX10 69 "TurnedFloorsModel" "left0" "[I") f9_wsX10_keeps_163) (fun _ h9 => h9) rfl dX10_keeps_23 ?_
    refine lv_iload_n hx hb dX10_keeps_26 rfl (lv_at hl 3 rfl) ?_
    refine lv_aload_n hx hb dX10_keeps_27 rfl (lv_at hl 0 rfl) ?_
    refine va_get (D := D) (ci := 10) (v := .ref (ad 14)) (C := RX10) (T := TX10) (N := 56) hx hb hts u9_wsX10_keeps_X10 hown hK hP 0 rfl rfl 30 (by decide) (hts (.fieldLink RX10 69 "TurnedFloorsModel" "left0" "[I") f9_wsX10_keeps_163) (fun _ h9 => h9) rfl dX10_keeps_28 ?_
    refine lv_iload_n hx hb dX10_keeps_31 rfl (lv_at hl 3 rfl) ?_
    refine lv_iload_n hx hb dX10_keeps_32 rfl (lv_at hl 2 rfl) ?_
    refine lv_iadd hx hb dX10_keeps_33 ?_
    obtain ⟨g2, h⟩ := dG_some h
    refine va_iald hx hb hK hP 14 0 rfl rfl (dg_in g2) dX10_keeps_34 ?_
    obtain ⟨v3, ev3, h⟩ := dL_some h
    refine kz_topi v3 ev3 ?_
    obtain ⟨g4, h⟩ := dG_some h
    refine va_iast hx hb hK hP hD hS 14 0 rfl rfl (dg_in g4) dX10_keeps_35 (fun H locs hp hd hs => ?_)
    obtain ⟨q5, eq5, h⟩ := dL_some h
    refine kz_re (w2 := w10 ty ad q5) hp hd hs (by rw [← eq5]; exact w10_a14 ty ad q (Int32.toNatClampNeg x3) v3) ?_
    clear hp hd hs hP hD hS
    intro hP hD hS
    refine lv_iinc (v := x3 + 1) (lv' := [(3, .int (x3 + 1)), (0, .ref (ad 0)), (1, .int x1), (2, .int x2)]) hx hb dX10_keeps_36 hl (k := 3) rfl rfl (by decide) rfl (fun ls hl => ?_)
    refine lv_goto (tgt := 14) hx hb dX10_keeps_39 (by decide) ?_
    exact hk14 _ _ _ _ _ _ _ h hP hD hS (lv_sub hl [1, 2, 3, 0] rfl)
set_option maxHeartbeats 4000000 in
set_option maxRecDepth 100000 in
theorem WX10_keeps_14 {p : Program} {l : Launch} {e : Env} {s : State} {m : MethodId} {args : Array Value} {below : List Frame} {meth : Method} {c : Code} {D : va_G} {ty : Nat → ClassId} {eo : Nat → Nat} {A : Nat → Prop} {ad : Nat → Nat} {o2 : dS} (C : dc_C p s m args meth c cX10_keeps none 4 RX10 wsX10_keeps D ty eo A)   (n : Nat) (q : dS) (x1 : Int32) (x2 : Int32) (x3 : Int32) (H : Heap) (locs : List Loc) (ls : Array Slot) (h : zX10_keeps_14  n q x1 x2 x3 = some o2) (hP : va_P D vwCl (w10 ty ad q) H) (hD : va_D A (w10 ty ad q)) (hS : va_S A s.heap H locs) (hl : lv_has ls 4 [(0, .ref (ad 0)), (1, .int x1), (2, .int x2), (3, .int x3)]) : W p l e ({ frames := 0, cells := 0, slots := 0, locals := 0 } : Room) s m args below meth c H locs 0 0 (MQ below (va_Qv (fun (u : va_W) => w10 ty ad o2 = u) (kz_B D ty A) A) args s 0 0 A) (F0 m 14 ls []) := by
  exact dFix_W (F := fun k (a : dS × Int32 × Int32 × Int32) => zX10_keeps_14b  (fun q x1 x2 x3 => k (q, x1, x2, x3)) a.1 a.2.1 a.2.2.1 a.2.2.2) (o := o2) (P := fun (a : dS × Int32 × Int32 × Int32) H locs ls => va_P D vwCl (w10 ty ad a.1) H ∧ va_D A (w10 ty ad a.1) ∧ va_S A s.heap H locs ∧ lv_has ls 4 [(0, .ref (ad 0)), (1, .int a.2.1), (2, .int a.2.2.1), (3, .int a.2.2.2)]) (G := fun H locs ls => W p l e ({ frames := 0, cells := 0, slots := 0, locals := 0 } : Room) s m args below meth c H locs 0 0 (MQ below (va_Qv (fun (u : va_W) => w10 ty ad o2 = u) (kz_B D ty A) A) args s 0 0 A) (F0 m 14 ls []))
    (fun k hk a H locs ls h hp => WX10_keeps_14b C  (fun q x1 x2 x3 H locs ls h h1 h2 h3 h4 => hk (q, x1, x2, x3) H locs ls h ⟨h1, h2, h3, h4⟩) a.1 a.2.1 a.2.2.1 a.2.2.2 H locs ls h hp.1 hp.2.1 hp.2.2.1 hp.2.2.2) n (q, x1, x2, x3) H locs ls h ⟨hP, hD, hS, hl⟩
set_option maxHeartbeats 4000000 in
set_option maxRecDepth 100000 in
theorem qX10_keeps (l : Launch) (D : va_G) (ty : Nat → ClassId) (eo : Nat → Nat) (sz : Nat) (ad : Nat → Nat) (q : dS) (p1 : Int32) (o2 : dS) (h : zX10_keeps q p1 = some o2) : Met l yX10_keeps wsX10_keeps ({ frames := 0, cells := 0, slots := 0, locals := 0 } : Room) (va_Pc [.ref (ad 0), .int p1] (kz_pre D ty eo (w10 ty ad q) sz)) (va_Qv (fun (u : va_W) => w10 ty ad o2 = u) (kz_B D ty (va_A (w10 ty ad q) sz)) (va_A (w10 ty ad q) sz)) 0 0 (va_A (w10 ty ad q) sz) := by
  refine Met.ofW (cc := cX10_keeps) (maxL := 4) (ret := none) (by decide) rfl ?_
  intro p e s m args below meth c s₁ B hml hv
  obtain ⟨rfl, hsz, hP, hK, hD0, hN, hE⟩ := hv
  have hx := B.exec
  have hb := B.bytes
  have hr := B.returns
  have hts := atoms_spec (ws := wsX10_keeps) B.pre
  have hown : s.vm.findClass RX10 = some m.cls := findClass_of_methodNamed B.named
  have hlocks := B.notSynchronized
  subst hsz
  have hD := hD0.self (sz := s.heap.size)
  generalize hAe : va_A (w10 ty ad q) s.heap.size = A at hD hE ⊢
  have hA : ∀ q : Nat, s.heap.size ≤ q → A q := fun q h => by rw [← hAe]; exact Or.inr h
  clear hAe
  have hS : va_S A s.heap s.heap [] := va_S.rf
  have hl := lv_entry ([.ref (ad 0), .int p1]) (n := 4) (Nat.le_of_ble_eq_true rfl)
  rw [lg_entry_eq]
  generalize (lg_sl ([.ref (ad 0), .int p1]) ++ List.replicate (4 - (lg_sl ([.ref (ad 0), .int p1])).length) Slot.unset).toArray = ls at hl ⊢
  have hl : lv_has ls 4 [(0, .ref (ad 0)), (1, .int p1)] := hl
  have C : dc_C p s m _ meth c cX10_keeps none 4 RX10 wsX10_keeps D ty eo A := ⟨hx, hb, hr, hts, hown, hlocks, hml, hK, hN, hE, hA⟩
  unfold zX10_keeps at h
  refine lv_bipush (v := 15) hx hb dX10_keeps_0 (by decide) ?_
  refine lv_istore_n (lv' := [(2, .int 15), (0, .ref (ad 0)), (1, .int p1)]) hx hb dX10_keeps_2 rfl hl (by decide) rfl (fun ls hl => ?_)
  refine lv_aload_n hx hb dX10_keeps_3 rfl (lv_at hl 1 rfl) ?_
  refine va_get (D := D) (ci := 10) (v := .int (q.1 0 32)) (C := RX10) (T := TX10) (N := 56) hx hb hts u9_wsX10_keeps_X10 hown hK hP 0 rfl rfl 32 (by decide) (hts (.fieldLink RX10 11 "TurnedFloorsModel" "undoMany" "I") f9_wsX10_keeps_164) (fun _ h9 => h9) rfl dX10_keeps_4 ?_
  refine lv_bipush (v := 16) hx hb dX10_keeps_7 (by decide) ?_
  refine lv_icmp_ne (tgt := 52) hx hb dX10_keeps_9 (by decide) (fun c9 => ?_) (fun c9 => ?_)
  · rw [if_neg c9] at h
    exact WX10_keeps_52 C  _ _ _ _ _ _ h hP hD hS (lv_sub hl [1, 2, 0] rfl)
  · rw [if_pos c9] at h
    refine lv_iconst (v := 0) hx hb dX10_keeps_12 (by decide) ?_
    refine lv_istore_n (lv' := [(3, .int 0), (2, .int 15), (0, .ref (ad 0)), (1, .int p1)]) hx hb dX10_keeps_13 rfl hl (by decide) rfl (fun ls hl => ?_)
    exact WX10_keeps_14 C  _ _ _ _ _ _ _ _ h hP hD hS (lv_sub hl [2, 3, 1, 0] rfl)

set_option maxHeartbeats 4000000 in
set_option maxRecDepth 100000 in
theorem WX10_undo_34b {p : Program} {l : Launch} {e : Env} {s : State} {m : MethodId} {args : Array Value} {below : List Frame} {meth : Method} {c : Code} {D : va_G} {ty : Nat → ClassId} {eo : Nat → Nat} {A : Nat → Prop} {ad : Nat → Nat} {o1 : Int32} {o2 : dS} (C : dc_C p s m args meth c cX10_undo (some .int) 3 RX10 wsX10_undo D ty eo A) {k34 : dS → Int32 → Int32 → Option (Int32 × dS)} (hk34 : ∀ (q : dS) (x1 : Int32) (x2 : Int32) (H : Heap) (locs : List Loc) (ls : Array Slot), k34 q x1 x2 = some (o1, o2) → va_P D vwCl (w10 ty ad q) H → va_D A (w10 ty ad q) → va_S A s.heap H locs → lv_has ls 3 [(0, .ref (ad 0)), (1, .int x1), (2, .int x2)] → W p l e ({ frames := 1, cells := 0, slots := 0, locals := 21 } : Room) s m args below meth c H locs 0 0 (MQ below (va_Qi (fun (r : Int32) (u : va_W) => o1 = r ∧ w10 ty ad o2 = u) (kz_B D ty A) A) args s 0 0 A) (F0 m 34 ls [])) (q : dS) (x1 : Int32) (x2 : Int32) (H : Heap) (locs : List Loc) (ls : Array Slot) (h : zX10_undo_34b k34 q x1 x2 = some (o1, o2)) (hP : va_P D vwCl (w10 ty ad q) H) (hD : va_D A (w10 ty ad q)) (hS : va_S A s.heap H locs) (hl : lv_has ls 3 [(0, .ref (ad 0)), (1, .int x1), (2, .int x2)]) : W p l e ({ frames := 1, cells := 0, slots := 0, locals := 21 } : Room) s m args below meth c H locs 0 0 (MQ below (va_Qi (fun (r : Int32) (u : va_W) => o1 = r ∧ w10 ty ad o2 = u) (kz_B D ty A) A) args s 0 0 A) (F0 m 34 ls []) := by
  have C0 := C
  obtain ⟨hx, hb, hr, hts, hown, hlocks, hml, hK, hN, hE, hA⟩ := C
  unfold zX10_undo_34b at h
  refine lv_iload_n hx hb dX10_undo_34 rfl (lv_at hl 2 rfl) ?_
  refine lv_bipush (v := 14) hx hb dX10_undo_35 (by decide) ?_
  refine lv_icmp_ge (tgt := 60) hx hb dX10_undo_37 (by decide) (fun c9 => ?_) (fun c9 => ?_)
  · rw [if_pos c9] at h
    refine lv_aload_n hx hb dX10_undo_60 rfl (lv_at hl 0 rfl) ?_
    refine lv_aload_n hx hb dX10_undo_61 rfl (lv_at hl 0 rfl) ?_
    refine va_get (D := D) (ci := 10) (v := .ref (ad 14)) (C := RX10) (T := TX10) (N := 56) hx hb hts u9_wsX10_undo_X10 hown hK hP 0 rfl rfl 30 (by decide) (hts (.fieldLink RX10 69 "TurnedFloorsModel" "left0" "[I") f9_wsX10_undo_167) (fun _ h9 => h9) rfl dX10_undo_62 ?_
    refine lv_iload_n hx hb dX10_undo_65 rfl (lv_at hl 1 rfl) ?_
    refine lv_bipush (v := 14) hx hb dX10_undo_66 (by decide) ?_
    refine lv_iadd hx hb dX10_undo_68 ?_
    obtain ⟨g1, h⟩ := dG_some h
    refine va_iald hx hb hK hP 14 0 rfl rfl (dg_in g1) dX10_undo_69 ?_
    obtain ⟨v2, ev2, h⟩ := dL_some h
    refine kz_topi v2 ev2 ?_
    obtain ⟨r3, q5, h4, h⟩ := dB_some h
    refine dw_ki (va_runV (As := [.int v2]) (rest := []) ⟨hx, hb, hml, hown, hts⟩ (qX10_good l D ty eo _ ad q v2 r3 q5 h4) (cwV 1 hts gX10_undo_X10_good rfl rfl rfl hd_X10_good_v ⟨Nat.le_of_ble_eq_true rfl, Nat.le_of_ble_eq_true rfl⟩) (pv10_10_0 hK hN hE hP hD hS hA) rfl rfl hl.1 rfl (lv_room (Nat.le_of_ble_eq_true rfl)) dX10_undo_70 ⟨Nat.le_of_ble_eq_true rfl, Nat.le_of_ble_eq_true rfl⟩) hD hS hA (fun r9 u9 H locs hw hp hd hs => ?_)
    clear hP hD hS
    obtain ⟨rfl, rfl⟩ := hw
    have hP := hp; have hD := hd; have hS := hs; clear hp hd hs
    cases h
    exact kz_iret hx hb hr hlocks hP hK hD hS dX10_undo_73 ⟨rfl, rfl⟩
  · rw [if_neg c9] at h
    refine lv_aload_n hx hb dX10_undo_40 rfl (lv_at hl 0 rfl) ?_
    refine va_get (D := D) (ci := 10) (v := .ref (ad 2)) (C := RX10) (T := TX10) (N := 56) hx hb hts u9_wsX10_undo_X10 hown hK hP 0 rfl rfl 2 (by decide) (hts (.fieldLink RX10 28 "TurnedFloorsModel" "kept" "[I") f9_wsX10_undo_168) (fun _ h9 => h9) rfl dX10_undo_41 ?_
    refine lv_iload_n hx hb dX10_undo_44 rfl (lv_at hl 2 rfl) ?_
    refine lv_aload_n hx hb dX10_undo_45 rfl (lv_at hl 0 rfl) ?_
    refine va_get (D := D) (ci := 10) (v := .ref (ad 14)) (C := RX10) (T := TX10) (N := 56) hx hb hts u9_wsX10_undo_X10 hown hK hP 0 rfl rfl 30 (by decide) (hts (.fieldLink RX10 69 "TurnedFloorsModel" "left0" "[I") f9_wsX10_undo_167) (fun _ h9 => h9) rfl dX10_undo_46 ?_
    refine lv_iload_n hx hb dX10_undo_49 rfl (lv_at hl 1 rfl) ?_
    refine lv_iload_n hx hb dX10_undo_50 rfl (lv_at hl 2 rfl) ?_
    refine lv_iadd hx hb dX10_undo_51 ?_
    obtain ⟨g6, h⟩ := dG_some h
    refine va_iald hx hb hK hP 14 0 rfl rfl (dg_in g6) dX10_undo_52 ?_
    obtain ⟨v7, ev7, h⟩ := dL_some h
    refine kz_topi v7 ev7 ?_
    obtain ⟨g8, h⟩ := dG_some h
    refine va_iast hx hb hK hP hD hS 2 0 rfl rfl (dg_in g8) dX10_undo_53 (fun H locs hp hd hs => ?_)
    obtain ⟨q9, eq9, h⟩ := dL_some h
    refine kz_re (w2 := w10 ty ad q9) hp hd hs (by rw [← eq9]; exact w10_a2 ty ad q (Int32.toNatClampNeg x2) v7) ?_
    clear hp hd hs hP hD hS
    intro hP hD hS
    refine lv_iinc (v := x2 + 1) (lv' := [(2, .int (x2 + 1)), (0, .ref (ad 0)), (1, .int x1)]) hx hb dX10_undo_54 hl (k := 2) rfl rfl (by decide) rfl (fun ls hl => ?_)
    refine lv_goto (tgt := 34) hx hb dX10_undo_57 (by decide) ?_
    exact hk34 _ _ _ _ _ _ h hP hD hS (lv_sub hl [1, 2, 0] rfl)
set_option maxHeartbeats 4000000 in
set_option maxRecDepth 100000 in
theorem WX10_undo_34 {p : Program} {l : Launch} {e : Env} {s : State} {m : MethodId} {args : Array Value} {below : List Frame} {meth : Method} {c : Code} {D : va_G} {ty : Nat → ClassId} {eo : Nat → Nat} {A : Nat → Prop} {ad : Nat → Nat} {o1 : Int32} {o2 : dS} (C : dc_C p s m args meth c cX10_undo (some .int) 3 RX10 wsX10_undo D ty eo A)   (n : Nat) (q : dS) (x1 : Int32) (x2 : Int32) (H : Heap) (locs : List Loc) (ls : Array Slot) (h : zX10_undo_34  n q x1 x2 = some (o1, o2)) (hP : va_P D vwCl (w10 ty ad q) H) (hD : va_D A (w10 ty ad q)) (hS : va_S A s.heap H locs) (hl : lv_has ls 3 [(0, .ref (ad 0)), (1, .int x1), (2, .int x2)]) : W p l e ({ frames := 1, cells := 0, slots := 0, locals := 21 } : Room) s m args below meth c H locs 0 0 (MQ below (va_Qi (fun (r : Int32) (u : va_W) => o1 = r ∧ w10 ty ad o2 = u) (kz_B D ty A) A) args s 0 0 A) (F0 m 34 ls []) := by
  exact dFix_W (F := fun k (a : dS × Int32 × Int32) => zX10_undo_34b  (fun q x1 x2 => k (q, x1, x2)) a.1 a.2.1 a.2.2) (o := (o1, o2)) (P := fun (a : dS × Int32 × Int32) H locs ls => va_P D vwCl (w10 ty ad a.1) H ∧ va_D A (w10 ty ad a.1) ∧ va_S A s.heap H locs ∧ lv_has ls 3 [(0, .ref (ad 0)), (1, .int a.2.1), (2, .int a.2.2)]) (G := fun H locs ls => W p l e ({ frames := 1, cells := 0, slots := 0, locals := 21 } : Room) s m args below meth c H locs 0 0 (MQ below (va_Qi (fun (r : Int32) (u : va_W) => o1 = r ∧ w10 ty ad o2 = u) (kz_B D ty A) A) args s 0 0 A) (F0 m 34 ls []))
    (fun k hk a H locs ls h hp => WX10_undo_34b C  (fun q x1 x2 H locs ls h h1 h2 h3 h4 => hk (q, x1, x2) H locs ls h ⟨h1, h2, h3, h4⟩) a.1 a.2.1 a.2.2 H locs ls h hp.1 hp.2.1 hp.2.2.1 hp.2.2.2) n (q, x1, x2) H locs ls h ⟨hP, hD, hS, hl⟩
set_option maxHeartbeats 4000000 in
set_option maxRecDepth 100000 in
theorem qX10_undo (l : Launch) (D : va_G) (ty : Nat → ClassId) (eo : Nat → Nat) (sz : Nat) (ad : Nat → Nat) (q : dS)  (o1 : Int32) (o2 : dS) (h : zX10_undo q = some (o1, o2)) : Met l yX10_undo wsX10_undo ({ frames := 1, cells := 0, slots := 0, locals := 21 } : Room) (va_Pc [.ref (ad 0)] (kz_pre D ty eo (w10 ty ad q) sz)) (va_Qi (fun (r : Int32) (u : va_W) => o1 = r ∧ w10 ty ad o2 = u) (kz_B D ty (va_A (w10 ty ad q) sz)) (va_A (w10 ty ad q) sz)) 0 0 (va_A (w10 ty ad q) sz) := by
  refine Met.ofW (cc := cX10_undo) (maxL := 3) (ret := (some .int)) (by decide) rfl ?_
  intro p e s m args below meth c s₁ B hml hv
  obtain ⟨rfl, hsz, hP, hK, hD0, hN, hE⟩ := hv
  have hx := B.exec
  have hb := B.bytes
  have hr := B.returns
  have hts := atoms_spec (ws := wsX10_undo) B.pre
  have hown : s.vm.findClass RX10 = some m.cls := findClass_of_methodNamed B.named
  have hlocks := B.notSynchronized
  subst hsz
  have hD := hD0.self (sz := s.heap.size)
  generalize hAe : va_A (w10 ty ad q) s.heap.size = A at hD hE ⊢
  have hA : ∀ q : Nat, s.heap.size ≤ q → A q := fun q h => by rw [← hAe]; exact Or.inr h
  clear hAe
  have hS : va_S A s.heap s.heap [] := va_S.rf
  have hl := lv_entry ([.ref (ad 0)]) (n := 3) (Nat.le_of_ble_eq_true rfl)
  rw [lg_entry_eq]
  generalize (lg_sl ([.ref (ad 0)]) ++ List.replicate (3 - (lg_sl ([.ref (ad 0)])).length) Slot.unset).toArray = ls at hl ⊢
  have hl : lv_has ls 3 [(0, .ref (ad 0))] := hl
  have C : dc_C p s m _ meth c cX10_undo (some .int) 3 RX10 wsX10_undo D ty eo A := ⟨hx, hb, hr, hts, hown, hlocks, hml, hK, hN, hE, hA⟩
  unfold zX10_undo at h
  refine lv_aload_n hx hb dX10_undo_0 rfl (lv_at hl 0 rfl) ?_
  refine va_get (D := D) (ci := 10) (v := .int (q.1 0 32)) (C := RX10) (T := TX10) (N := 56) hx hb hts u9_wsX10_undo_X10 hown hK hP 0 rfl rfl 32 (by decide) (hts (.fieldLink RX10 11 "TurnedFloorsModel" "undoMany" "I") f9_wsX10_undo_169) (fun _ h9 => h9) rfl dX10_undo_1 ?_
  refine lv_if_ne (tgt := 14) hx hb dX10_undo_4 (by decide) (fun c9 => ?_) (fun c9 => ?_)
  · rw [if_neg c9] at h
    refine lv_aload_n hx hb dX10_undo_14 rfl (lv_at hl 0 rfl) ?_
    refine lv_dup hx hb dX10_undo_15 rfl ?_
    refine va_get (D := D) (ci := 10) (v := .int (q.1 0 32)) (C := RX10) (T := TX10) (N := 56) hx hb hts u9_wsX10_undo_X10 hown hK hP 0 rfl rfl 32 (by decide) (hts (.fieldLink RX10 11 "TurnedFloorsModel" "undoMany" "I") f9_wsX10_undo_169) (fun _ h9 => h9) rfl dX10_undo_16 ?_
    refine lv_iconst (v := 1) hx hb dX10_undo_19 (by decide) ?_
    refine lv_isub hx hb dX10_undo_20 ?_
    refine va_put (D := D) (ci := 10) (v := .int ((q.1 0 32) - 1 : Int32)) (ty := .int) (C := RX10) (T := TX10) (N := 56) hx hb hts u9_wsX10_undo_X10 tyX10 tyX10_ok nmX10 hown hK hP hD hS 0 rfl rfl 32 (by decide) (hts (.fieldLink RX10 11 "TurnedFloorsModel" "undoMany" "I") f9_wsX10_undo_169) (fun _ h9 => h9) rfl (by decide +kernel) rfl rfl (Nat.le_of_ble_eq_true rfl) dX10_undo_21 (fun H locs hp hd hs => ?_)
    obtain ⟨q1, eq1, h⟩ := dL_some h
    refine kz_re (w2 := w10 ty ad q1) hp hd hs (by rw [← eq1]; exact w10_f32 ty ad q ((q.1 0 32) - 1 : Int32)) ?_
    clear hp hd hs hP hD hS
    intro hP hD hS
    refine lv_bipush (v := 15) hx hb dX10_undo_24 (by decide) ?_
    refine lv_aload_n hx hb dX10_undo_26 rfl (lv_at hl 0 rfl) ?_
    refine va_get (D := D) (ci := 10) (v := .int (q1.1 0 32)) (C := RX10) (T := TX10) (N := 56) hx hb hts u9_wsX10_undo_X10 hown hK hP 0 rfl rfl 32 (by decide) (hts (.fieldLink RX10 11 "TurnedFloorsModel" "undoMany" "I") f9_wsX10_undo_169) (fun _ h9 => h9) rfl dX10_undo_27 ?_
    refine lv_imul hx hb dX10_undo_30 ?_
    refine lv_istore_n (lv' := [(1, .int (15 * (q1.1 0 32) : Int32)), (0, .ref (ad 0))]) hx hb dX10_undo_31 rfl hl (by decide) rfl (fun ls hl => ?_)
    refine lv_iconst (v := 0) hx hb dX10_undo_32 (by decide) ?_
    refine lv_istore_n (lv' := [(2, .int 0), (1, .int (15 * (q1.1 0 32) : Int32)), (0, .ref (ad 0))]) hx hb dX10_undo_33 rfl hl (by decide) rfl (fun ls hl => ?_)
    exact WX10_undo_34 C  _ _ _ _ _ _ _ h hP hD hS (lv_sub hl [2, 1, 0] rfl)
  · rw [if_pos c9] at h
    refine lv_aload_n hx hb dX10_undo_7 rfl (lv_at hl 0 rfl) ?_
    refine lv_bipush (v := (-3)) hx hb dX10_undo_8 (by decide) ?_
    obtain ⟨r2, q4, h3, h⟩ := dB_some h
    refine dw_ki (va_runV (As := [.int (-3)]) (rest := []) ⟨hx, hb, hml, hown, hts⟩ (qX10_refuses l D ty eo _ ad q (-3) r2 q4 h3) (cwV 1 hts gX10_undo_X10_refuses rfl rfl rfl hd_X10_refuses_v ⟨Nat.le_of_ble_eq_true rfl, Nat.le_of_ble_eq_true rfl⟩) (pv10_10_0 hK hN hE hP hD hS hA) rfl rfl hl.1 rfl (lv_room (Nat.le_of_ble_eq_true rfl)) dX10_undo_10 ⟨Nat.le_of_ble_eq_true rfl, Nat.le_of_ble_eq_true rfl⟩) hD hS hA (fun r9 u9 H locs hw hp hd hs => ?_)
    clear hP hD hS
    obtain ⟨rfl, rfl⟩ := hw
    have hP := hp; have hD := hd; have hS := hs; clear hp hd hs
    cases h
    exact kz_iret hx hb hr hlocks hP hK hD hS dX10_undo_13 ⟨rfl, rfl⟩

set_option maxHeartbeats 4000000 in
set_option maxRecDepth 100000 in
theorem WX10_goodOr_17 {p : Program} {l : Launch} {e : Env} {s : State} {m : MethodId} {args : Array Value} {below : List Frame} {meth : Method} {c : Code} {D : va_G} {ty : Nat → ClassId} {eo : Nat → Nat} {A : Nat → Prop} {ad : Nat → Nat} {o1 : Int32} {o2 : dS} (C : dc_C p s m args meth c cX10_goodOr (some .int) 2 RX10 wsX10_goodOr D ty eo A)   (q : dS) (y0 : Int32) (H : Heap) (locs : List Loc) (ls : Array Slot) (h : zX10_goodOr_17  q y0 = some (o1, o2)) (hP : va_P D vwCl (w10 ty ad q) H) (hD : va_D A (w10 ty ad q)) (hS : va_S A s.heap H locs) (hl : lv_has ls 2 []) : W p l e ({ frames := 1, cells := 0, slots := 0, locals := 21 } : Room) s m args below meth c H locs 0 0 (MQ below (va_Qi (fun (r : Int32) (u : va_W) => o1 = r ∧ w10 ty ad o2 = u) (kz_B D ty A) A) args s 0 0 A) (F0 m 17 ls [.int y0]) := by
  have C0 := C
  obtain ⟨hx, hb, hr, hts, hown, hlocks, hml, hK, hN, hE, hA⟩ := C
  unfold zX10_goodOr_17 at h
  cases h
  exact kz_iret hx hb hr hlocks hP hK hD hS dX10_goodOr_17 ⟨rfl, rfl⟩
set_option maxHeartbeats 4000000 in
set_option maxRecDepth 100000 in
theorem qX10_goodOr (l : Launch) (D : va_G) (ty : Nat → ClassId) (eo : Nat → Nat) (sz : Nat) (ad : Nat → Nat) (q : dS) (p1 : Int32) (o1 : Int32) (o2 : dS) (h : zX10_goodOr q p1 = some (o1, o2)) : Met l yX10_goodOr wsX10_goodOr ({ frames := 1, cells := 0, slots := 0, locals := 21 } : Room) (va_Pc [.ref (ad 0), .int p1] (kz_pre D ty eo (w10 ty ad q) sz)) (va_Qi (fun (r : Int32) (u : va_W) => o1 = r ∧ w10 ty ad o2 = u) (kz_B D ty (va_A (w10 ty ad q) sz)) (va_A (w10 ty ad q) sz)) 0 0 (va_A (w10 ty ad q) sz) := by
  refine Met.ofW (cc := cX10_goodOr) (maxL := 2) (ret := (some .int)) (by decide) rfl ?_
  intro p e s m args below meth c s₁ B hml hv
  obtain ⟨rfl, hsz, hP, hK, hD0, hN, hE⟩ := hv
  have hx := B.exec
  have hb := B.bytes
  have hr := B.returns
  have hts := atoms_spec (ws := wsX10_goodOr) B.pre
  have hown : s.vm.findClass RX10 = some m.cls := findClass_of_methodNamed B.named
  have hlocks := B.notSynchronized
  subst hsz
  have hD := hD0.self (sz := s.heap.size)
  generalize hAe : va_A (w10 ty ad q) s.heap.size = A at hD hE ⊢
  have hA : ∀ q : Nat, s.heap.size ≤ q → A q := fun q h => by rw [← hAe]; exact Or.inr h
  clear hAe
  have hS : va_S A s.heap s.heap [] := va_S.rf
  have hl := lv_entry ([.ref (ad 0), .int p1]) (n := 2) (Nat.le_of_ble_eq_true rfl)
  rw [lg_entry_eq]
  generalize (lg_sl ([.ref (ad 0), .int p1]) ++ List.replicate (2 - (lg_sl ([.ref (ad 0), .int p1])).length) Slot.unset).toArray = ls at hl ⊢
  have hl : lv_has ls 2 [(0, .ref (ad 0)), (1, .int p1)] := hl
  have C : dc_C p s m _ meth c cX10_goodOr (some .int) 2 RX10 wsX10_goodOr D ty eo A := ⟨hx, hb, hr, hts, hown, hlocks, hml, hK, hN, hE, hA⟩
  unfold zX10_goodOr at h
  refine lv_iload_n hx hb dX10_goodOr_0 rfl (lv_at hl 1 rfl) ?_
  refine lv_if_ge (tgt := 12) hx hb dX10_goodOr_1 (by decide) (fun c9 => ?_) (fun c9 => ?_)
  · rw [if_pos c9] at h
    refine lv_aload_n hx hb dX10_goodOr_12 rfl (lv_at hl 0 rfl) ?_
    refine lv_iload_n hx hb dX10_goodOr_13 rfl (lv_at hl 1 rfl) ?_
    obtain ⟨r1, q3, h2, h⟩ := dB_some h
    refine dw_ki (va_runV (As := [.int p1]) (rest := []) ⟨hx, hb, hml, hown, hts⟩ (qX10_good l D ty eo _ ad q p1 r1 q3 h2) (cwV 1 hts gX10_goodOr_X10_good rfl rfl rfl hd_X10_good_v ⟨Nat.le_of_ble_eq_true rfl, Nat.le_of_ble_eq_true rfl⟩) (pv10_10_0 hK hN hE hP hD hS hA) rfl rfl hl.1 rfl (lv_room (Nat.le_of_ble_eq_true rfl)) dX10_goodOr_14 ⟨Nat.le_of_ble_eq_true rfl, Nat.le_of_ble_eq_true rfl⟩) hD hS hA (fun r9 u9 H locs hw hp hd hs => ?_)
    clear hP hD hS
    obtain ⟨rfl, rfl⟩ := hw
    have hP := hp; have hD := hd; have hS := hs; clear hp hd hs
    exact WX10_goodOr_17 C  _ _ _ _ _ h hP hD hS (lv_sub hl [] rfl)
  · rw [if_neg c9] at h
    refine lv_aload_n hx hb dX10_goodOr_4 rfl (lv_at hl 0 rfl) ?_
    refine lv_iload_n hx hb dX10_goodOr_5 rfl (lv_at hl 1 rfl) ?_
    obtain ⟨r4, q6, h5, h⟩ := dB_some h
    refine dw_ki (va_runV (As := [.int p1]) (rest := []) ⟨hx, hb, hml, hown, hts⟩ (qX10_refuses l D ty eo _ ad q p1 r4 q6 h5) (cwV 1 hts gX10_goodOr_X10_refuses rfl rfl rfl hd_X10_refuses_v ⟨Nat.le_of_ble_eq_true rfl, Nat.le_of_ble_eq_true rfl⟩) (pv10_10_0 hK hN hE hP hD hS hA) rfl rfl hl.1 rfl (lv_room (Nat.le_of_ble_eq_true rfl)) dX10_goodOr_6 ⟨Nat.le_of_ble_eq_true rfl, Nat.le_of_ble_eq_true rfl⟩) hD hS hA (fun r9 u9 H locs hw hp hd hs => ?_)
    clear hP hD hS
    obtain ⟨rfl, rfl⟩ := hw
    have hP := hp; have hD := hd; have hS := hs; clear hp hd hs
    refine lv_goto (tgt := 17) hx hb dX10_goodOr_9 (by decide) ?_
    exact WX10_goodOr_17 C  _ _ _ _ _ h hP hD hS (lv_sub hl [] rfl)

set_option maxHeartbeats 4000000 in
set_option maxRecDepth 100000 in
theorem qX10_turnsKept (l : Launch) (D : va_G) (ty : Nat → ClassId) (eo : Nat → Nat) (sz : Nat) (ad : Nat → Nat) (q : dS) (p1 : Int32) (o1 : Int32) (o2 : dS) (h : zX10_turnsKept q p1 = some (o1, o2)) : Met l yX10_turnsKept wsX10_turnsKept ({ frames := 88, cells := 0, slots := 0, locals := 2245 } : Room) (va_Pc [.ref (ad 0), .int p1] (kz_pre D ty eo (w10 ty ad q) sz)) (va_Qi (fun (r : Int32) (u : va_W) => o1 = r ∧ w10 ty ad o2 = u) (kz_B D ty (va_A (w10 ty ad q) sz)) (va_A (w10 ty ad q) sz)) 0 0 (va_A (w10 ty ad q) sz) := by
  refine Met.ofW (cc := cX10_turnsKept) (maxL := 2) (ret := (some .int)) (by decide) rfl ?_
  intro p e s m args below meth c s₁ B hml hv
  obtain ⟨rfl, hsz, hP, hK, hD0, hN, hE⟩ := hv
  have hx := B.exec
  have hb := B.bytes
  have hr := B.returns
  have hts := atoms_spec (ws := wsX10_turnsKept) B.pre
  have hown : s.vm.findClass RX10 = some m.cls := findClass_of_methodNamed B.named
  have hlocks := B.notSynchronized
  subst hsz
  have hD := hD0.self (sz := s.heap.size)
  generalize hAe : va_A (w10 ty ad q) s.heap.size = A at hD hE ⊢
  have hA : ∀ q : Nat, s.heap.size ≤ q → A q := fun q h => by rw [← hAe]; exact Or.inr h
  clear hAe
  have hS : va_S A s.heap s.heap [] := va_S.rf
  have hl := lv_entry ([.ref (ad 0), .int p1]) (n := 2) (Nat.le_of_ble_eq_true rfl)
  rw [lg_entry_eq]
  generalize (lg_sl ([.ref (ad 0), .int p1]) ++ List.replicate (2 - (lg_sl ([.ref (ad 0), .int p1])).length) Slot.unset).toArray = ls at hl ⊢
  have hl : lv_has ls 2 [(0, .ref (ad 0)), (1, .int p1)] := hl
  have C : dc_C p s m _ meth c cX10_turnsKept (some .int) 2 RX10 wsX10_turnsKept D ty eo A := ⟨hx, hb, hr, hts, hown, hlocks, hml, hK, hN, hE, hA⟩
  unfold zX10_turnsKept at h
  refine lv_iload_n hx hb dX10_turnsKept_0 rfl (lv_at hl 1 rfl) ?_
  refine lv_iconst (v := 1) hx hb dX10_turnsKept_1 (by decide) ?_
  refine lv_bipush (v := 6) hx hb dX10_turnsKept_2 (by decide) ?_
  obtain ⟨r1, h2, h⟩ := dV_some h
  refine dw_ks (va_runS (As := [.int p1, .int 1, .int 6]) (rest := []) ⟨hx, hb, hml, hown, hts⟩ (qX10_lies l D ty eo _ p1 1 6 _ h2) (va_cwS 3 hts gX10_turnsKept_X10_lies rfl rfl rfl hd_X10_lies ⟨Nat.le_of_ble_eq_true rfl, Nat.le_of_ble_eq_true rfl⟩) (pvS_0 hK hN hE hP hD hS hA) rfl rfl hl.1 rfl (lv_room (Nat.le_of_ble_eq_true rfl)) dX10_turnsKept_4 ⟨Nat.le_of_ble_eq_true rfl, Nat.le_of_ble_eq_true rfl⟩) hP hD hS hA (fun _ _ h9 => h9.2.symm) (fun r9 u9 H locs hw hp hd hs => ?_)
  obtain ⟨rfl, -⟩ := hw
  clear hP hD hS
  have hP := hp; have hD := hd; have hS := hs; clear hp hd hs
  refine lv_if_ne (tgt := 12) hx hb dX10_turnsKept_7 (by decide) (fun c9 => ?_) (fun c9 => ?_)
  · rw [if_neg c9] at h
    refine lv_aload_n hx hb dX10_turnsKept_12 rfl (lv_at hl 0 rfl) ?_
    refine lv_iload_n hx hb dX10_turnsKept_13 rfl (lv_at hl 1 rfl) ?_
    obtain ⟨r3, q5, h4, h⟩ := dB_some h
    refine dw_ki (va_runV (As := [.int p1]) (rest := []) ⟨hx, hb, hml, hown, hts⟩ (qX10_canTurn l D ty eo _ ad q p1 r3 q5 h4) (cwV 1 hts gX10_turnsKept_X10_canTurn rfl rfl rfl hd_X10_canTurn_v ⟨Nat.le_of_ble_eq_true rfl, Nat.le_of_ble_eq_true rfl⟩) (pv10_10_0 hK hN hE hP hD hS hA) rfl rfl hl.1 rfl (lv_room (Nat.le_of_ble_eq_true rfl)) dX10_turnsKept_14 ⟨Nat.le_of_ble_eq_true rfl, Nat.le_of_ble_eq_true rfl⟩) hD hS hA (fun r9 u9 H locs hw hp hd hs => ?_)
    clear hP hD hS
    obtain ⟨rfl, rfl⟩ := hw
    have hP := hp; have hD := hd; have hS := hs; clear hp hd hs
    refine lv_if_ne (tgt := 23) hx hb dX10_turnsKept_17 (by decide) (fun c9 => ?_) (fun c9 => ?_)
    · rw [if_neg c9] at h
      refine lv_aload_n hx hb dX10_turnsKept_23 rfl (lv_at hl 0 rfl) ?_
      refine lv_iconst (v := 0) hx hb dX10_turnsKept_24 (by decide) ?_
      obtain ⟨q8, h7, h⟩ := dV_some h
      refine dw_kv (va_runV (As := [.int 0]) (rest := []) ⟨hx, hb, hml, hown, hts⟩ (qX10_keeps l D ty eo _ ad q5 0 q8 h7) (cwV 1 hts gX10_turnsKept_X10_keeps rfl rfl rfl hd_X10_keeps_v ⟨Nat.le_of_ble_eq_true rfl, Nat.le_of_ble_eq_true rfl⟩) (pv10_10_0 hK hN hE hP hD hS hA) rfl rfl hl.1 rfl (lv_room (Nat.le_of_ble_eq_true rfl)) dX10_turnsKept_25 ⟨Nat.le_of_ble_eq_true rfl, Nat.le_of_ble_eq_true rfl⟩) hD hS hA (fun u9 H locs hw hp hd hs => ?_)
      clear hP hD hS
      obtain rfl := hw
      have hP := hp; have hD := hd; have hS := hs; clear hp hd hs
      refine lv_aload_n hx hb dX10_turnsKept_28 rfl (lv_at hl 0 rfl) ?_
      refine lv_iload_n hx hb dX10_turnsKept_29 rfl (lv_at hl 1 rfl) ?_
      obtain ⟨r9, q11, h10, h⟩ := dB_some h
      refine dw_ki (va_runV (As := [.int p1]) (rest := []) ⟨hx, hb, hml, hown, hts⟩ (qX10_turns l D ty eo _ ad q8 p1 r9 q11 h10) (cwV 1 hts gX10_turnsKept_X10_turns rfl rfl rfl hd_X10_turns_v ⟨Nat.le_of_ble_eq_true rfl, Nat.le_of_ble_eq_true rfl⟩) (pv10_10_0 hK hN hE hP hD hS hA) rfl rfl hl.1 rfl (lv_room (Nat.le_of_ble_eq_true rfl)) dX10_turnsKept_30 ⟨Nat.le_of_ble_eq_true rfl, Nat.le_of_ble_eq_true rfl⟩) hD hS hA (fun r9 u9 H locs hw hp hd hs => ?_)
      clear hP hD hS
      obtain ⟨rfl, rfl⟩ := hw
      have hP := hp; have hD := hd; have hS := hs; clear hp hd hs
      cases h
      exact kz_iret hx hb hr hlocks hP hK hD hS dX10_turnsKept_33 ⟨rfl, rfl⟩
    · rw [if_pos c9] at h
      refine lv_bipush (v := (-3)) hx hb dX10_turnsKept_20 (by decide) ?_
      cases h
      exact kz_iret hx hb hr hlocks hP hK hD hS dX10_turnsKept_22 ⟨rfl, rfl⟩
  · rw [if_pos c9] at h
    refine lv_iconst (v := (-1)) hx hb dX10_turnsKept_10 (by decide) ?_
    cases h
    exact kz_iret hx hb hr hlocks hP hK hD hS dX10_turnsKept_11 ⟨rfl, rfl⟩

set_option maxHeartbeats 4000000 in
set_option maxRecDepth 100000 in
theorem qX10_rightsKept (l : Launch) (D : va_G) (ty : Nat → ClassId) (eo : Nat → Nat) (sz : Nat) (ad : Nat → Nat) (q : dS) (p1 : Int32) (o1 : Int32) (o2 : dS) (h : zX10_rightsKept q p1 = some (o1, o2)) : Met l yX10_rightsKept wsX10_rightsKept ({ frames := 2, cells := 0, slots := 0, locals := 43 } : Room) (va_Pc [.ref (ad 0), .int p1] (kz_pre D ty eo (w10 ty ad q) sz)) (va_Qi (fun (r : Int32) (u : va_W) => o1 = r ∧ w10 ty ad o2 = u) (kz_B D ty (va_A (w10 ty ad q) sz)) (va_A (w10 ty ad q) sz)) 0 0 (va_A (w10 ty ad q) sz) := by
  refine Met.ofW (cc := cX10_rightsKept) (maxL := 2) (ret := (some .int)) (by decide) rfl ?_
  intro p e s m args below meth c s₁ B hml hv
  obtain ⟨rfl, hsz, hP, hK, hD0, hN, hE⟩ := hv
  have hx := B.exec
  have hb := B.bytes
  have hr := B.returns
  have hts := atoms_spec (ws := wsX10_rightsKept) B.pre
  have hown : s.vm.findClass RX10 = some m.cls := findClass_of_methodNamed B.named
  have hlocks := B.notSynchronized
  subst hsz
  have hD := hD0.self (sz := s.heap.size)
  generalize hAe : va_A (w10 ty ad q) s.heap.size = A at hD hE ⊢
  have hA : ∀ q : Nat, s.heap.size ≤ q → A q := fun q h => by rw [← hAe]; exact Or.inr h
  clear hAe
  have hS : va_S A s.heap s.heap [] := va_S.rf
  have hl := lv_entry ([.ref (ad 0), .int p1]) (n := 2) (Nat.le_of_ble_eq_true rfl)
  rw [lg_entry_eq]
  generalize (lg_sl ([.ref (ad 0), .int p1]) ++ List.replicate (2 - (lg_sl ([.ref (ad 0), .int p1])).length) Slot.unset).toArray = ls at hl ⊢
  have hl : lv_has ls 2 [(0, .ref (ad 0)), (1, .int p1)] := hl
  have C : dc_C p s m _ meth c cX10_rightsKept (some .int) 2 RX10 wsX10_rightsKept D ty eo A := ⟨hx, hb, hr, hts, hown, hlocks, hml, hK, hN, hE, hA⟩
  unfold zX10_rightsKept at h
  refine lv_iload_n hx hb dX10_rightsKept_0 rfl (lv_at hl 1 rfl) ?_
  refine lv_iconst (v := 0) hx hb dX10_rightsKept_1 (by decide) ?_
  refine lv_iconst (v := 5) hx hb dX10_rightsKept_2 (by decide) ?_
  obtain ⟨r1, h2, h⟩ := dV_some h
  refine dw_ks (va_runS (As := [.int p1, .int 0, .int 5]) (rest := []) ⟨hx, hb, hml, hown, hts⟩ (qX10_lies l D ty eo _ p1 0 5 _ h2) (va_cwS 3 hts gX10_rightsKept_X10_lies rfl rfl rfl hd_X10_lies ⟨Nat.le_of_ble_eq_true rfl, Nat.le_of_ble_eq_true rfl⟩) (pvS_0 hK hN hE hP hD hS hA) rfl rfl hl.1 rfl (lv_room (Nat.le_of_ble_eq_true rfl)) dX10_rightsKept_3 ⟨Nat.le_of_ble_eq_true rfl, Nat.le_of_ble_eq_true rfl⟩) hP hD hS hA (fun _ _ h9 => h9.2.symm) (fun r9 u9 H locs hw hp hd hs => ?_)
  obtain ⟨rfl, -⟩ := hw
  clear hP hD hS
  have hP := hp; have hD := hd; have hS := hs; clear hp hd hs
  refine lv_if_ne (tgt := 11) hx hb dX10_rightsKept_6 (by decide) (fun c9 => ?_) (fun c9 => ?_)
  · rw [if_neg c9] at h
    refine lv_aload_n hx hb dX10_rightsKept_11 rfl (lv_at hl 0 rfl) ?_
    refine lv_iload_n hx hb dX10_rightsKept_12 rfl (lv_at hl 1 rfl) ?_
    obtain ⟨r3, q5, h4, h⟩ := dB_some h
    refine dw_ki (va_runV (As := [.int p1]) (rest := []) ⟨hx, hb, hml, hown, hts⟩ (qX10_isPlace l D ty eo _ ad q p1 r3 q5 h4) (cwV 1 hts gX10_rightsKept_X10_isPlace rfl rfl rfl hd_X10_isPlace_v ⟨Nat.le_of_ble_eq_true rfl, Nat.le_of_ble_eq_true rfl⟩) (pv10_10_0 hK hN hE hP hD hS hA) rfl rfl hl.1 rfl (lv_room (Nat.le_of_ble_eq_true rfl)) dX10_rightsKept_13 ⟨Nat.le_of_ble_eq_true rfl, Nat.le_of_ble_eq_true rfl⟩) hD hS hA (fun r9 u9 H locs hw hp hd hs => ?_)
    clear hP hD hS
    obtain ⟨rfl, rfl⟩ := hw
    have hP := hp; have hD := hd; have hS := hs; clear hp hd hs
    refine lv_if_ne (tgt := 22) hx hb dX10_rightsKept_16 (by decide) (fun c9 => ?_) (fun c9 => ?_)
    · rw [if_neg c9] at h
      refine lv_aload_n hx hb dX10_rightsKept_22 rfl (lv_at hl 0 rfl) ?_
      refine lv_iconst (v := 1) hx hb dX10_rightsKept_23 (by decide) ?_
      obtain ⟨q8, h7, h⟩ := dV_some h
      refine dw_kv (va_runV (As := [.int 1]) (rest := []) ⟨hx, hb, hml, hown, hts⟩ (qX10_keeps l D ty eo _ ad q5 1 q8 h7) (cwV 1 hts gX10_rightsKept_X10_keeps rfl rfl rfl hd_X10_keeps_v ⟨Nat.le_of_ble_eq_true rfl, Nat.le_of_ble_eq_true rfl⟩) (pv10_10_0 hK hN hE hP hD hS hA) rfl rfl hl.1 rfl (lv_room (Nat.le_of_ble_eq_true rfl)) dX10_rightsKept_24 ⟨Nat.le_of_ble_eq_true rfl, Nat.le_of_ble_eq_true rfl⟩) hD hS hA (fun u9 H locs hw hp hd hs => ?_)
      clear hP hD hS
      obtain rfl := hw
      have hP := hp; have hD := hd; have hS := hs; clear hp hd hs
      refine lv_aload_n hx hb dX10_rightsKept_27 rfl (lv_at hl 0 rfl) ?_
      refine va_get (D := D) (ci := 10) (v := .ref (ad 2)) (C := RX10) (T := TX10) (N := 56) hx hb hts u9_wsX10_rightsKept_X10 hown hK hP 0 rfl rfl 2 (by decide) (hts (.fieldLink RX10 28 "TurnedFloorsModel" "kept" "[I") f9_wsX10_rightsKept_171) (fun _ h9 => h9) rfl dX10_rightsKept_28 ?_
      refine lv_bipush (v := 6) hx hb dX10_rightsKept_31 (by decide) ?_
      refine lv_iload_n hx hb dX10_rightsKept_33 rfl (lv_at hl 1 rfl) ?_
      refine lv_iadd hx hb dX10_rightsKept_34 ?_
      refine lv_iconst (v := 1) hx hb dX10_rightsKept_35 (by decide) ?_
      refine lv_aload_n hx hb dX10_rightsKept_36 rfl (lv_at hl 0 rfl) ?_
      refine va_get (D := D) (ci := 10) (v := .ref (ad 2)) (C := RX10) (T := TX10) (N := 56) hx hb hts u9_wsX10_rightsKept_X10 hown hK hP 0 rfl rfl 2 (by decide) (hts (.fieldLink RX10 28 "TurnedFloorsModel" "kept" "[I") f9_wsX10_rightsKept_171) (fun _ h9 => h9) rfl dX10_rightsKept_37 ?_
      refine lv_bipush (v := 6) hx hb dX10_rightsKept_40 (by decide) ?_
      refine lv_iload_n hx hb dX10_rightsKept_42 rfl (lv_at hl 1 rfl) ?_
      refine lv_iadd hx hb dX10_rightsKept_43 ?_
      obtain ⟨g9, h⟩ := dG_some h
      refine va_iald hx hb hK hP 2 0 rfl rfl (dg_in g9) dX10_rightsKept_44 ?_
      obtain ⟨v10, ev10, h⟩ := dL_some h
      refine kz_topi v10 ev10 ?_
      refine lv_isub hx hb dX10_rightsKept_45 ?_
      obtain ⟨g11, h⟩ := dG_some h
      refine va_iast hx hb hK hP hD hS 2 0 rfl rfl (dg_in g11) dX10_rightsKept_46 (fun H locs hp hd hs => ?_)
      obtain ⟨q12, eq12, h⟩ := dL_some h
      refine kz_re (w2 := w10 ty ad q12) hp hd hs (by rw [← eq12]; exact w10_a2 ty ad q8 (Int32.toNatClampNeg (6 + p1 : Int32)) (1 - v10 : Int32)) ?_
      clear hp hd hs hP hD hS
      intro hP hD hS
      refine lv_aload_n hx hb dX10_rightsKept_47 rfl (lv_at hl 0 rfl) ?_
      refine va_get (D := D) (ci := 10) (v := .ref (ad 2)) (C := RX10) (T := TX10) (N := 56) hx hb hts u9_wsX10_rightsKept_X10 hown hK hP 0 rfl rfl 2 (by decide) (hts (.fieldLink RX10 28 "TurnedFloorsModel" "kept" "[I") f9_wsX10_rightsKept_171) (fun _ h9 => h9) rfl dX10_rightsKept_48 ?_
      refine lv_bipush (v := 6) hx hb dX10_rightsKept_51 (by decide) ?_
      refine lv_iload_n hx hb dX10_rightsKept_53 rfl (lv_at hl 1 rfl) ?_
      refine lv_iadd hx hb dX10_rightsKept_54 ?_
      obtain ⟨g13, h⟩ := dG_some h
      refine va_iald hx hb hK hP 2 0 rfl rfl (dg_in g13) dX10_rightsKept_55 ?_
      obtain ⟨v14, ev14, h⟩ := dL_some h
      refine kz_topi v14 ev14 ?_
      cases h
      exact kz_iret hx hb hr hlocks hP hK hD hS dX10_rightsKept_56 ⟨rfl, rfl⟩
    · rw [if_pos c9] at h
      refine lv_bipush (v := (-3)) hx hb dX10_rightsKept_19 (by decide) ?_
      cases h
      exact kz_iret hx hb hr hlocks hP hK hD hS dX10_rightsKept_21 ⟨rfl, rfl⟩
  · rw [if_pos c9] at h
    refine lv_iconst (v := (-1)) hx hb dX10_rightsKept_9 (by decide) ?_
    cases h
    exact kz_iret hx hb hr hlocks hP hK hD hS dX10_rightsKept_10 ⟨rfl, rfl⟩

set_option maxHeartbeats 4000000 in
set_option maxRecDepth 100000 in
theorem qX10_swapsKept (l : Launch) (D : va_G) (ty : Nat → ClassId) (eo : Nat → Nat) (sz : Nat) (ad : Nat → Nat) (q : dS) (p1 : Int32) (o1 : Int32) (o2 : dS) (h : zX10_swapsKept q p1 = some (o1, o2)) : Met l yX10_swapsKept wsX10_swapsKept ({ frames := 2, cells := 0, slots := 0, locals := 43 } : Room) (va_Pc [.ref (ad 0), .int p1] (kz_pre D ty eo (w10 ty ad q) sz)) (va_Qi (fun (r : Int32) (u : va_W) => o1 = r ∧ w10 ty ad o2 = u) (kz_B D ty (va_A (w10 ty ad q) sz)) (va_A (w10 ty ad q) sz)) 0 0 (va_A (w10 ty ad q) sz) := by
  refine Met.ofW (cc := cX10_swapsKept) (maxL := 2) (ret := (some .int)) (by decide) rfl ?_
  intro p e s m args below meth c s₁ B hml hv
  obtain ⟨rfl, hsz, hP, hK, hD0, hN, hE⟩ := hv
  have hx := B.exec
  have hb := B.bytes
  have hr := B.returns
  have hts := atoms_spec (ws := wsX10_swapsKept) B.pre
  have hown : s.vm.findClass RX10 = some m.cls := findClass_of_methodNamed B.named
  have hlocks := B.notSynchronized
  subst hsz
  have hD := hD0.self (sz := s.heap.size)
  generalize hAe : va_A (w10 ty ad q) s.heap.size = A at hD hE ⊢
  have hA : ∀ q : Nat, s.heap.size ≤ q → A q := fun q h => by rw [← hAe]; exact Or.inr h
  clear hAe
  have hS : va_S A s.heap s.heap [] := va_S.rf
  have hl := lv_entry ([.ref (ad 0), .int p1]) (n := 2) (Nat.le_of_ble_eq_true rfl)
  rw [lg_entry_eq]
  generalize (lg_sl ([.ref (ad 0), .int p1]) ++ List.replicate (2 - (lg_sl ([.ref (ad 0), .int p1])).length) Slot.unset).toArray = ls at hl ⊢
  have hl : lv_has ls 2 [(0, .ref (ad 0)), (1, .int p1)] := hl
  have C : dc_C p s m _ meth c cX10_swapsKept (some .int) 2 RX10 wsX10_swapsKept D ty eo A := ⟨hx, hb, hr, hts, hown, hlocks, hml, hK, hN, hE, hA⟩
  unfold zX10_swapsKept at h
  refine lv_iload_n hx hb dX10_swapsKept_0 rfl (lv_at hl 1 rfl) ?_
  refine lv_iconst (v := 0) hx hb dX10_swapsKept_1 (by decide) ?_
  refine lv_iconst (v := 4) hx hb dX10_swapsKept_2 (by decide) ?_
  obtain ⟨r1, h2, h⟩ := dV_some h
  refine dw_ks (va_runS (As := [.int p1, .int 0, .int 4]) (rest := []) ⟨hx, hb, hml, hown, hts⟩ (qX10_lies l D ty eo _ p1 0 4 _ h2) (va_cwS 3 hts gX10_swapsKept_X10_lies rfl rfl rfl hd_X10_lies ⟨Nat.le_of_ble_eq_true rfl, Nat.le_of_ble_eq_true rfl⟩) (pvS_0 hK hN hE hP hD hS hA) rfl rfl hl.1 rfl (lv_room (Nat.le_of_ble_eq_true rfl)) dX10_swapsKept_3 ⟨Nat.le_of_ble_eq_true rfl, Nat.le_of_ble_eq_true rfl⟩) hP hD hS hA (fun _ _ h9 => h9.2.symm) (fun r9 u9 H locs hw hp hd hs => ?_)
  obtain ⟨rfl, -⟩ := hw
  clear hP hD hS
  have hP := hp; have hD := hd; have hS := hs; clear hp hd hs
  refine lv_if_ne (tgt := 11) hx hb dX10_swapsKept_6 (by decide) (fun c9 => ?_) (fun c9 => ?_)
  · rw [if_neg c9] at h
    refine lv_aload_n hx hb dX10_swapsKept_11 rfl (lv_at hl 0 rfl) ?_
    refine lv_iload_n hx hb dX10_swapsKept_12 rfl (lv_at hl 1 rfl) ?_
    refine lv_iconst (v := 1) hx hb dX10_swapsKept_13 (by decide) ?_
    refine lv_iadd hx hb dX10_swapsKept_14 ?_
    obtain ⟨r3, q5, h4, h⟩ := dB_some h
    refine dw_ki (va_runV (As := [.int (p1 + 1 : Int32)]) (rest := []) ⟨hx, hb, hml, hown, hts⟩ (qX10_isPlace l D ty eo _ ad q (p1 + 1 : Int32) r3 q5 h4) (cwV 1 hts gX10_swapsKept_X10_isPlace rfl rfl rfl hd_X10_isPlace_v ⟨Nat.le_of_ble_eq_true rfl, Nat.le_of_ble_eq_true rfl⟩) (pv10_10_0 hK hN hE hP hD hS hA) rfl rfl hl.1 rfl (lv_room (Nat.le_of_ble_eq_true rfl)) dX10_swapsKept_15 ⟨Nat.le_of_ble_eq_true rfl, Nat.le_of_ble_eq_true rfl⟩) hD hS hA (fun r9 u9 H locs hw hp hd hs => ?_)
    clear hP hD hS
    obtain ⟨rfl, rfl⟩ := hw
    have hP := hp; have hD := hd; have hS := hs; clear hp hd hs
    refine lv_if_ne (tgt := 24) hx hb dX10_swapsKept_18 (by decide) (fun c9 => ?_) (fun c9 => ?_)
    · rw [if_neg c9] at h
      refine lv_aload_n hx hb dX10_swapsKept_24 rfl (lv_at hl 0 rfl) ?_
      refine lv_iconst (v := 2) hx hb dX10_swapsKept_25 (by decide) ?_
      obtain ⟨q8, h7, h⟩ := dV_some h
      refine dw_kv (va_runV (As := [.int 2]) (rest := []) ⟨hx, hb, hml, hown, hts⟩ (qX10_keeps l D ty eo _ ad q5 2 q8 h7) (cwV 1 hts gX10_swapsKept_X10_keeps rfl rfl rfl hd_X10_keeps_v ⟨Nat.le_of_ble_eq_true rfl, Nat.le_of_ble_eq_true rfl⟩) (pv10_10_0 hK hN hE hP hD hS hA) rfl rfl hl.1 rfl (lv_room (Nat.le_of_ble_eq_true rfl)) dX10_swapsKept_26 ⟨Nat.le_of_ble_eq_true rfl, Nat.le_of_ble_eq_true rfl⟩) hD hS hA (fun u9 H locs hw hp hd hs => ?_)
      clear hP hD hS
      obtain rfl := hw
      have hP := hp; have hD := hd; have hS := hs; clear hp hd hs
      refine lv_aload_n hx hb dX10_swapsKept_29 rfl (lv_at hl 0 rfl) ?_
      refine lv_iload_n hx hb dX10_swapsKept_30 rfl (lv_at hl 1 rfl) ?_
      refine lv_iload_n hx hb dX10_swapsKept_31 rfl (lv_at hl 1 rfl) ?_
      refine lv_iconst (v := 1) hx hb dX10_swapsKept_32 (by decide) ?_
      refine lv_iadd hx hb dX10_swapsKept_33 ?_
      obtain ⟨q11, h10, h⟩ := dV_some h
      refine dw_kv (va_runV (As := [.int p1, .int (p1 + 1 : Int32)]) (rest := []) ⟨hx, hb, hml, hown, hts⟩ (qX10_exchanges l D ty eo _ ad q8 p1 (p1 + 1 : Int32) q11 h10) (cwV 2 hts gX10_swapsKept_X10_exchanges rfl rfl rfl hd_X10_exchanges_v ⟨Nat.le_of_ble_eq_true rfl, Nat.le_of_ble_eq_true rfl⟩) (pv10_10_0 hK hN hE hP hD hS hA) rfl rfl hl.1 rfl (lv_room (Nat.le_of_ble_eq_true rfl)) dX10_swapsKept_34 ⟨Nat.le_of_ble_eq_true rfl, Nat.le_of_ble_eq_true rfl⟩) hD hS hA (fun u9 H locs hw hp hd hs => ?_)
      clear hP hD hS
      obtain rfl := hw
      have hP := hp; have hD := hd; have hS := hs; clear hp hd hs
      refine lv_aload_n hx hb dX10_swapsKept_37 rfl (lv_at hl 0 rfl) ?_
      refine va_get (D := D) (ci := 10) (v := .ref (ad 2)) (C := RX10) (T := TX10) (N := 56) hx hb hts u9_wsX10_swapsKept_X10 hown hK hP 0 rfl rfl 2 (by decide) (hts (.fieldLink RX10 28 "TurnedFloorsModel" "kept" "[I") f9_wsX10_swapsKept_173) (fun _ h9 => h9) rfl dX10_swapsKept_38 ?_
      refine lv_iconst (v := 0) hx hb dX10_swapsKept_41 (by decide) ?_
      refine lv_iload_n hx hb dX10_swapsKept_42 rfl (lv_at hl 1 rfl) ?_
      refine lv_iadd hx hb dX10_swapsKept_43 ?_
      obtain ⟨g12, h⟩ := dG_some h
      refine va_iald hx hb hK hP 2 0 rfl rfl (dg_in g12) dX10_swapsKept_44 ?_
      obtain ⟨v13, ev13, h⟩ := dL_some h
      refine kz_topi v13 ev13 ?_
      cases h
      exact kz_iret hx hb hr hlocks hP hK hD hS dX10_swapsKept_45 ⟨rfl, rfl⟩
    · rw [if_pos c9] at h
      refine lv_bipush (v := (-3)) hx hb dX10_swapsKept_21 (by decide) ?_
      cases h
      exact kz_iret hx hb hr hlocks hP hK hD hS dX10_swapsKept_23 ⟨rfl, rfl⟩
  · rw [if_pos c9] at h
    refine lv_iconst (v := (-1)) hx hb dX10_swapsKept_9 (by decide) ?_
    cases h
    exact kz_iret hx hb hr hlocks hP hK hD hS dX10_swapsKept_10 ⟨rfl, rfl⟩

set_option maxHeartbeats 4000000 in
set_option maxRecDepth 100000 in
theorem qX10_passesKept (l : Launch) (D : va_G) (ty : Nat → ClassId) (eo : Nat → Nat) (sz : Nat) (ad : Nat → Nat) (q : dS)  (o1 : Int32) (o2 : dS) (h : zX10_passesKept q = some (o1, o2)) : Met l yX10_passesKept wsX10_passesKept ({ frames := 89, cells := 0, slots := 0, locals := 2266 } : Room) (va_Pc [.ref (ad 0)] (kz_pre D ty eo (w10 ty ad q) sz)) (va_Qi (fun (r : Int32) (u : va_W) => o1 = r ∧ w10 ty ad o2 = u) (kz_B D ty (va_A (w10 ty ad q) sz)) (va_A (w10 ty ad q) sz)) 0 0 (va_A (w10 ty ad q) sz) := by
  refine Met.ofW (cc := cX10_passesKept) (maxL := 1) (ret := (some .int)) (by decide) rfl ?_
  intro p e s m args below meth c s₁ B hml hv
  obtain ⟨rfl, hsz, hP, hK, hD0, hN, hE⟩ := hv
  have hx := B.exec
  have hb := B.bytes
  have hr := B.returns
  have hts := atoms_spec (ws := wsX10_passesKept) B.pre
  have hown : s.vm.findClass RX10 = some m.cls := findClass_of_methodNamed B.named
  have hlocks := B.notSynchronized
  subst hsz
  have hD := hD0.self (sz := s.heap.size)
  generalize hAe : va_A (w10 ty ad q) s.heap.size = A at hD hE ⊢
  have hA : ∀ q : Nat, s.heap.size ≤ q → A q := fun q h => by rw [← hAe]; exact Or.inr h
  clear hAe
  have hS : va_S A s.heap s.heap [] := va_S.rf
  have hl := lv_entry ([.ref (ad 0)]) (n := 1) (Nat.le_of_ble_eq_true rfl)
  rw [lg_entry_eq]
  generalize (lg_sl ([.ref (ad 0)]) ++ List.replicate (1 - (lg_sl ([.ref (ad 0)])).length) Slot.unset).toArray = ls at hl ⊢
  have hl : lv_has ls 1 [(0, .ref (ad 0))] := hl
  have C : dc_C p s m _ meth c cX10_passesKept (some .int) 1 RX10 wsX10_passesKept D ty eo A := ⟨hx, hb, hr, hts, hown, hlocks, hml, hK, hN, hE, hA⟩
  unfold zX10_passesKept at h
  refine lv_aload_n hx hb dX10_passesKept_0 rfl (lv_at hl 0 rfl) ?_
  refine va_get (D := D) (ci := 10) (v := .ref (ad 2)) (C := RX10) (T := TX10) (N := 56) hx hb hts u9_wsX10_passesKept_X10 hown hK hP 0 rfl rfl 2 (by decide) (hts (.fieldLink RX10 28 "TurnedFloorsModel" "kept" "[I") f9_wsX10_passesKept_175) (fun _ h9 => h9) rfl dX10_passesKept_1 ?_
  refine lv_bipush (v := 13) hx hb dX10_passesKept_4 (by decide) ?_
  refine va_iald hx hb hK hP 2 0 rfl rfl (by simp only [vp_in]; decide) dX10_passesKept_6 ?_
  refine kz_topi (q.1 2 13) (congrArg (q.1 2) (by decide +kernel : Int32.toNatClampNeg 13 = 13)) ?_
  refine lv_sipush (v := 999) hx hb dX10_passesKept_7 (by decide) ?_
  refine lv_icmp_ne (tgt := 16) hx hb dX10_passesKept_10 (by decide) (fun c9 => ?_) (fun c9 => ?_)
  · rw [if_neg c9] at h
    refine lv_aload_n hx hb dX10_passesKept_16 rfl (lv_at hl 0 rfl) ?_
    refine lv_iconst (v := 3) hx hb dX10_passesKept_17 (by decide) ?_
    obtain ⟨q3, h2, h⟩ := dV_some h
    refine dw_kv (va_runV (As := [.int 3]) (rest := []) ⟨hx, hb, hml, hown, hts⟩ (qX10_keeps l D ty eo _ ad q 3 q3 h2) (cwV 1 hts gX10_passesKept_X10_keeps rfl rfl rfl hd_X10_keeps_v ⟨Nat.le_of_ble_eq_true rfl, Nat.le_of_ble_eq_true rfl⟩) (pv10_10_0 hK hN hE hP hD hS hA) rfl rfl hl.1 rfl (lv_room (Nat.le_of_ble_eq_true rfl)) dX10_passesKept_18 ⟨Nat.le_of_ble_eq_true rfl, Nat.le_of_ble_eq_true rfl⟩) hD hS hA (fun u9 H locs hw hp hd hs => ?_)
    clear hP hD hS
    obtain rfl := hw
    have hP := hp; have hD := hd; have hS := hs; clear hp hd hs
    refine lv_aload_n hx hb dX10_passesKept_21 rfl (lv_at hl 0 rfl) ?_
    obtain ⟨r4, q6, h5, h⟩ := dB_some h
    refine dw_ki (va_runV (As := []) (rest := []) ⟨hx, hb, hml, hown, hts⟩ (qX10_yearPasses l D ty eo _ ad q3  r4 q6 h5) (cwV 0 hts gX10_passesKept_X10_yearPasses rfl rfl rfl hd_X10_yearPasses_v ⟨Nat.le_of_ble_eq_true rfl, Nat.le_of_ble_eq_true rfl⟩) (pv10_10_0 hK hN hE hP hD hS hA) rfl rfl hl.1 rfl (lv_room (Nat.le_of_ble_eq_true rfl)) dX10_passesKept_22 ⟨Nat.le_of_ble_eq_true rfl, Nat.le_of_ble_eq_true rfl⟩) hD hS hA (fun r9 u9 H locs hw hp hd hs => ?_)
    clear hP hD hS
    obtain ⟨rfl, rfl⟩ := hw
    have hP := hp; have hD := hd; have hS := hs; clear hp hd hs
    cases h
    exact kz_iret hx hb hr hlocks hP hK hD hS dX10_passesKept_25 ⟨rfl, rfl⟩
  · rw [if_pos c9] at h
    refine lv_bipush (v := (-3)) hx hb dX10_passesKept_13 (by decide) ?_
    cases h
    exact kz_iret hx hb hr hlocks hP hK hD hS dX10_passesKept_15 ⟨rfl, rfl⟩

set_option maxHeartbeats 4000000 in
set_option maxRecDepth 100000 in
theorem qX10_turn (l : Launch) (D : va_G) (ty : Nat → ClassId) (eo : Nat → Nat) (sz : Nat) (ad : Nat → Nat) (q : dS) (p1 : Int32) (o1 : Int32) (o2 : dS) (h : zX10_turn q p1 = some (o1, o2)) : Met l yX10_turn wsX10_turn ({ frames := 89, cells := 0, slots := 0, locals := 2266 } : Room) (va_Pc [.ref (ad 0), .int p1] (kz_pre D ty eo (w10 ty ad q) sz)) (va_Qi (fun (r : Int32) (u : va_W) => o1 = r ∧ w10 ty ad o2 = u) (kz_B D ty (va_A (w10 ty ad q) sz)) (va_A (w10 ty ad q) sz)) 0 0 (va_A (w10 ty ad q) sz) := by
  refine Met.ofW (cc := cX10_turn) (maxL := 2) (ret := (some .int)) (by decide) rfl ?_
  intro p e s m args below meth c s₁ B hml hv
  obtain ⟨rfl, hsz, hP, hK, hD0, hN, hE⟩ := hv
  have hx := B.exec
  have hb := B.bytes
  have hr := B.returns
  have hts := atoms_spec (ws := wsX10_turn) B.pre
  have hown : s.vm.findClass RX10 = some m.cls := findClass_of_methodNamed B.named
  have hlocks := B.notSynchronized
  subst hsz
  have hD := hD0.self (sz := s.heap.size)
  generalize hAe : va_A (w10 ty ad q) s.heap.size = A at hD hE ⊢
  have hA : ∀ q : Nat, s.heap.size ≤ q → A q := fun q h => by rw [← hAe]; exact Or.inr h
  clear hAe
  have hS : va_S A s.heap s.heap [] := va_S.rf
  have hl := lv_entry ([.ref (ad 0), .int p1]) (n := 2) (Nat.le_of_ble_eq_true rfl)
  rw [lg_entry_eq]
  generalize (lg_sl ([.ref (ad 0), .int p1]) ++ List.replicate (2 - (lg_sl ([.ref (ad 0), .int p1])).length) Slot.unset).toArray = ls at hl ⊢
  have hl : lv_has ls 2 [(0, .ref (ad 0)), (1, .int p1)] := hl
  have C : dc_C p s m _ meth c cX10_turn (some .int) 2 RX10 wsX10_turn D ty eo A := ⟨hx, hb, hr, hts, hown, hlocks, hml, hK, hN, hE, hA⟩
  unfold zX10_turn at h
  refine lv_aload_n hx hb dX10_turn_0 rfl (lv_at hl 0 rfl) ?_
  refine lv_aload_n hx hb dX10_turn_1 rfl (lv_at hl 0 rfl) ?_
  refine lv_iload_n hx hb dX10_turn_2 rfl (lv_at hl 1 rfl) ?_
  obtain ⟨r1, q3, h2, h⟩ := dB_some h
  refine dw_ki (va_runV (As := [.int p1]) (rest := [.ref (ad 0)]) ⟨hx, hb, hml, hown, hts⟩ (qX10_turnsKept l D ty eo _ ad q p1 r1 q3 h2) (cwV 1 hts gX10_turn_X10_turnsKept rfl rfl rfl hd_X10_turnsKept_v ⟨Nat.le_of_ble_eq_true rfl, Nat.le_of_ble_eq_true rfl⟩) (pv10_10_0 hK hN hE hP hD hS hA) rfl rfl hl.1 rfl (lv_room (Nat.le_of_ble_eq_true rfl)) dX10_turn_3 ⟨Nat.le_of_ble_eq_true rfl, Nat.le_of_ble_eq_true rfl⟩) hD hS hA (fun r9 u9 H locs hw hp hd hs => ?_)
  clear hP hD hS
  obtain ⟨rfl, rfl⟩ := hw
  have hP := hp; have hD := hd; have hS := hs; clear hp hd hs
  obtain ⟨r4, q6, h5, h⟩ := dB_some h
  refine dw_ki (va_runV (As := [.int r1]) (rest := []) ⟨hx, hb, hml, hown, hts⟩ (qX10_goodOr l D ty eo _ ad q3 r1 r4 q6 h5) (cwV 1 hts gX10_turn_X10_goodOr rfl rfl rfl hd_X10_goodOr_v ⟨Nat.le_of_ble_eq_true rfl, Nat.le_of_ble_eq_true rfl⟩) (pv10_10_0 hK hN hE hP hD hS hA) rfl rfl hl.1 rfl (lv_room (Nat.le_of_ble_eq_true rfl)) dX10_turn_6 ⟨Nat.le_of_ble_eq_true rfl, Nat.le_of_ble_eq_true rfl⟩) hD hS hA (fun r9 u9 H locs hw hp hd hs => ?_)
  clear hP hD hS
  obtain ⟨rfl, rfl⟩ := hw
  have hP := hp; have hD := hd; have hS := hs; clear hp hd hs
  cases h
  exact kz_iret hx hb hr hlocks hP hK hD hS dX10_turn_9 ⟨rfl, rfl⟩

set_option maxHeartbeats 4000000 in
set_option maxRecDepth 100000 in
theorem qX10_right (l : Launch) (D : va_G) (ty : Nat → ClassId) (eo : Nat → Nat) (sz : Nat) (ad : Nat → Nat) (q : dS) (p1 : Int32) (o1 : Int32) (o2 : dS) (h : zX10_right q p1 = some (o1, o2)) : Met l yX10_right wsX10_right ({ frames := 3, cells := 0, slots := 0, locals := 64 } : Room) (va_Pc [.ref (ad 0), .int p1] (kz_pre D ty eo (w10 ty ad q) sz)) (va_Qi (fun (r : Int32) (u : va_W) => o1 = r ∧ w10 ty ad o2 = u) (kz_B D ty (va_A (w10 ty ad q) sz)) (va_A (w10 ty ad q) sz)) 0 0 (va_A (w10 ty ad q) sz) := by
  refine Met.ofW (cc := cX10_right) (maxL := 2) (ret := (some .int)) (by decide) rfl ?_
  intro p e s m args below meth c s₁ B hml hv
  obtain ⟨rfl, hsz, hP, hK, hD0, hN, hE⟩ := hv
  have hx := B.exec
  have hb := B.bytes
  have hr := B.returns
  have hts := atoms_spec (ws := wsX10_right) B.pre
  have hown : s.vm.findClass RX10 = some m.cls := findClass_of_methodNamed B.named
  have hlocks := B.notSynchronized
  subst hsz
  have hD := hD0.self (sz := s.heap.size)
  generalize hAe : va_A (w10 ty ad q) s.heap.size = A at hD hE ⊢
  have hA : ∀ q : Nat, s.heap.size ≤ q → A q := fun q h => by rw [← hAe]; exact Or.inr h
  clear hAe
  have hS : va_S A s.heap s.heap [] := va_S.rf
  have hl := lv_entry ([.ref (ad 0), .int p1]) (n := 2) (Nat.le_of_ble_eq_true rfl)
  rw [lg_entry_eq]
  generalize (lg_sl ([.ref (ad 0), .int p1]) ++ List.replicate (2 - (lg_sl ([.ref (ad 0), .int p1])).length) Slot.unset).toArray = ls at hl ⊢
  have hl : lv_has ls 2 [(0, .ref (ad 0)), (1, .int p1)] := hl
  have C : dc_C p s m _ meth c cX10_right (some .int) 2 RX10 wsX10_right D ty eo A := ⟨hx, hb, hr, hts, hown, hlocks, hml, hK, hN, hE, hA⟩
  unfold zX10_right at h
  refine lv_aload_n hx hb dX10_right_0 rfl (lv_at hl 0 rfl) ?_
  refine lv_aload_n hx hb dX10_right_1 rfl (lv_at hl 0 rfl) ?_
  refine lv_iload_n hx hb dX10_right_2 rfl (lv_at hl 1 rfl) ?_
  obtain ⟨r1, q3, h2, h⟩ := dB_some h
  refine dw_ki (va_runV (As := [.int p1]) (rest := [.ref (ad 0)]) ⟨hx, hb, hml, hown, hts⟩ (qX10_rightsKept l D ty eo _ ad q p1 r1 q3 h2) (cwV 1 hts gX10_right_X10_rightsKept rfl rfl rfl hd_X10_rightsKept_v ⟨Nat.le_of_ble_eq_true rfl, Nat.le_of_ble_eq_true rfl⟩) (pv10_10_0 hK hN hE hP hD hS hA) rfl rfl hl.1 rfl (lv_room (Nat.le_of_ble_eq_true rfl)) dX10_right_3 ⟨Nat.le_of_ble_eq_true rfl, Nat.le_of_ble_eq_true rfl⟩) hD hS hA (fun r9 u9 H locs hw hp hd hs => ?_)
  clear hP hD hS
  obtain ⟨rfl, rfl⟩ := hw
  have hP := hp; have hD := hd; have hS := hs; clear hp hd hs
  obtain ⟨r4, q6, h5, h⟩ := dB_some h
  refine dw_ki (va_runV (As := [.int r1]) (rest := []) ⟨hx, hb, hml, hown, hts⟩ (qX10_goodOr l D ty eo _ ad q3 r1 r4 q6 h5) (cwV 1 hts gX10_right_X10_goodOr rfl rfl rfl hd_X10_goodOr_v ⟨Nat.le_of_ble_eq_true rfl, Nat.le_of_ble_eq_true rfl⟩) (pv10_10_0 hK hN hE hP hD hS hA) rfl rfl hl.1 rfl (lv_room (Nat.le_of_ble_eq_true rfl)) dX10_right_6 ⟨Nat.le_of_ble_eq_true rfl, Nat.le_of_ble_eq_true rfl⟩) hD hS hA (fun r9 u9 H locs hw hp hd hs => ?_)
  clear hP hD hS
  obtain ⟨rfl, rfl⟩ := hw
  have hP := hp; have hD := hd; have hS := hs; clear hp hd hs
  cases h
  exact kz_iret hx hb hr hlocks hP hK hD hS dX10_right_9 ⟨rfl, rfl⟩

set_option maxHeartbeats 4000000 in
set_option maxRecDepth 100000 in
theorem qX10_swap (l : Launch) (D : va_G) (ty : Nat → ClassId) (eo : Nat → Nat) (sz : Nat) (ad : Nat → Nat) (q : dS) (p1 : Int32) (o1 : Int32) (o2 : dS) (h : zX10_swap q p1 = some (o1, o2)) : Met l yX10_swap wsX10_swap ({ frames := 3, cells := 0, slots := 0, locals := 64 } : Room) (va_Pc [.ref (ad 0), .int p1] (kz_pre D ty eo (w10 ty ad q) sz)) (va_Qi (fun (r : Int32) (u : va_W) => o1 = r ∧ w10 ty ad o2 = u) (kz_B D ty (va_A (w10 ty ad q) sz)) (va_A (w10 ty ad q) sz)) 0 0 (va_A (w10 ty ad q) sz) := by
  refine Met.ofW (cc := cX10_swap) (maxL := 2) (ret := (some .int)) (by decide) rfl ?_
  intro p e s m args below meth c s₁ B hml hv
  obtain ⟨rfl, hsz, hP, hK, hD0, hN, hE⟩ := hv
  have hx := B.exec
  have hb := B.bytes
  have hr := B.returns
  have hts := atoms_spec (ws := wsX10_swap) B.pre
  have hown : s.vm.findClass RX10 = some m.cls := findClass_of_methodNamed B.named
  have hlocks := B.notSynchronized
  subst hsz
  have hD := hD0.self (sz := s.heap.size)
  generalize hAe : va_A (w10 ty ad q) s.heap.size = A at hD hE ⊢
  have hA : ∀ q : Nat, s.heap.size ≤ q → A q := fun q h => by rw [← hAe]; exact Or.inr h
  clear hAe
  have hS : va_S A s.heap s.heap [] := va_S.rf
  have hl := lv_entry ([.ref (ad 0), .int p1]) (n := 2) (Nat.le_of_ble_eq_true rfl)
  rw [lg_entry_eq]
  generalize (lg_sl ([.ref (ad 0), .int p1]) ++ List.replicate (2 - (lg_sl ([.ref (ad 0), .int p1])).length) Slot.unset).toArray = ls at hl ⊢
  have hl : lv_has ls 2 [(0, .ref (ad 0)), (1, .int p1)] := hl
  have C : dc_C p s m _ meth c cX10_swap (some .int) 2 RX10 wsX10_swap D ty eo A := ⟨hx, hb, hr, hts, hown, hlocks, hml, hK, hN, hE, hA⟩
  unfold zX10_swap at h
  refine lv_aload_n hx hb dX10_swap_0 rfl (lv_at hl 0 rfl) ?_
  refine lv_aload_n hx hb dX10_swap_1 rfl (lv_at hl 0 rfl) ?_
  refine lv_iload_n hx hb dX10_swap_2 rfl (lv_at hl 1 rfl) ?_
  obtain ⟨r1, q3, h2, h⟩ := dB_some h
  refine dw_ki (va_runV (As := [.int p1]) (rest := [.ref (ad 0)]) ⟨hx, hb, hml, hown, hts⟩ (qX10_swapsKept l D ty eo _ ad q p1 r1 q3 h2) (cwV 1 hts gX10_swap_X10_swapsKept rfl rfl rfl hd_X10_swapsKept_v ⟨Nat.le_of_ble_eq_true rfl, Nat.le_of_ble_eq_true rfl⟩) (pv10_10_0 hK hN hE hP hD hS hA) rfl rfl hl.1 rfl (lv_room (Nat.le_of_ble_eq_true rfl)) dX10_swap_3 ⟨Nat.le_of_ble_eq_true rfl, Nat.le_of_ble_eq_true rfl⟩) hD hS hA (fun r9 u9 H locs hw hp hd hs => ?_)
  clear hP hD hS
  obtain ⟨rfl, rfl⟩ := hw
  have hP := hp; have hD := hd; have hS := hs; clear hp hd hs
  obtain ⟨r4, q6, h5, h⟩ := dB_some h
  refine dw_ki (va_runV (As := [.int r1]) (rest := []) ⟨hx, hb, hml, hown, hts⟩ (qX10_goodOr l D ty eo _ ad q3 r1 r4 q6 h5) (cwV 1 hts gX10_swap_X10_goodOr rfl rfl rfl hd_X10_goodOr_v ⟨Nat.le_of_ble_eq_true rfl, Nat.le_of_ble_eq_true rfl⟩) (pv10_10_0 hK hN hE hP hD hS hA) rfl rfl hl.1 rfl (lv_room (Nat.le_of_ble_eq_true rfl)) dX10_swap_6 ⟨Nat.le_of_ble_eq_true rfl, Nat.le_of_ble_eq_true rfl⟩) hD hS hA (fun r9 u9 H locs hw hp hd hs => ?_)
  clear hP hD hS
  obtain ⟨rfl, rfl⟩ := hw
  have hP := hp; have hD := hd; have hS := hs; clear hp hd hs
  cases h
  exact kz_iret hx hb hr hlocks hP hK hD hS dX10_swap_9 ⟨rfl, rfl⟩

set_option maxHeartbeats 4000000 in
set_option maxRecDepth 100000 in
theorem qX10_pass (l : Launch) (D : va_G) (ty : Nat → ClassId) (eo : Nat → Nat) (sz : Nat) (ad : Nat → Nat) (q : dS)  (o1 : Int32) (o2 : dS) (h : zX10_pass q = some (o1, o2)) : Met l yX10_pass wsX10_pass ({ frames := 90, cells := 0, slots := 0, locals := 2286 } : Room) (va_Pc [.ref (ad 0)] (kz_pre D ty eo (w10 ty ad q) sz)) (va_Qi (fun (r : Int32) (u : va_W) => o1 = r ∧ w10 ty ad o2 = u) (kz_B D ty (va_A (w10 ty ad q) sz)) (va_A (w10 ty ad q) sz)) 0 0 (va_A (w10 ty ad q) sz) := by
  refine Met.ofW (cc := cX10_pass) (maxL := 1) (ret := (some .int)) (by decide) rfl ?_
  intro p e s m args below meth c s₁ B hml hv
  obtain ⟨rfl, hsz, hP, hK, hD0, hN, hE⟩ := hv
  have hx := B.exec
  have hb := B.bytes
  have hr := B.returns
  have hts := atoms_spec (ws := wsX10_pass) B.pre
  have hown : s.vm.findClass RX10 = some m.cls := findClass_of_methodNamed B.named
  have hlocks := B.notSynchronized
  subst hsz
  have hD := hD0.self (sz := s.heap.size)
  generalize hAe : va_A (w10 ty ad q) s.heap.size = A at hD hE ⊢
  have hA : ∀ q : Nat, s.heap.size ≤ q → A q := fun q h => by rw [← hAe]; exact Or.inr h
  clear hAe
  have hS : va_S A s.heap s.heap [] := va_S.rf
  have hl := lv_entry ([.ref (ad 0)]) (n := 1) (Nat.le_of_ble_eq_true rfl)
  rw [lg_entry_eq]
  generalize (lg_sl ([.ref (ad 0)]) ++ List.replicate (1 - (lg_sl ([.ref (ad 0)])).length) Slot.unset).toArray = ls at hl ⊢
  have hl : lv_has ls 1 [(0, .ref (ad 0))] := hl
  have C : dc_C p s m _ meth c cX10_pass (some .int) 1 RX10 wsX10_pass D ty eo A := ⟨hx, hb, hr, hts, hown, hlocks, hml, hK, hN, hE, hA⟩
  unfold zX10_pass at h
  refine lv_aload_n hx hb dX10_pass_0 rfl (lv_at hl 0 rfl) ?_
  refine lv_aload_n hx hb dX10_pass_1 rfl (lv_at hl 0 rfl) ?_
  obtain ⟨r1, q3, h2, h⟩ := dB_some h
  refine dw_ki (va_runV (As := []) (rest := [.ref (ad 0)]) ⟨hx, hb, hml, hown, hts⟩ (qX10_passesKept l D ty eo _ ad q  r1 q3 h2) (cwV 0 hts gX10_pass_X10_passesKept rfl rfl rfl hd_X10_passesKept_v ⟨Nat.le_of_ble_eq_true rfl, Nat.le_of_ble_eq_true rfl⟩) (pv10_10_0 hK hN hE hP hD hS hA) rfl rfl hl.1 rfl (lv_room (Nat.le_of_ble_eq_true rfl)) dX10_pass_2 ⟨Nat.le_of_ble_eq_true rfl, Nat.le_of_ble_eq_true rfl⟩) hD hS hA (fun r9 u9 H locs hw hp hd hs => ?_)
  clear hP hD hS
  obtain ⟨rfl, rfl⟩ := hw
  have hP := hp; have hD := hd; have hS := hs; clear hp hd hs
  obtain ⟨r4, q6, h5, h⟩ := dB_some h
  refine dw_ki (va_runV (As := [.int r1]) (rest := []) ⟨hx, hb, hml, hown, hts⟩ (qX10_goodOr l D ty eo _ ad q3 r1 r4 q6 h5) (cwV 1 hts gX10_pass_X10_goodOr rfl rfl rfl hd_X10_goodOr_v ⟨Nat.le_of_ble_eq_true rfl, Nat.le_of_ble_eq_true rfl⟩) (pv10_10_0 hK hN hE hP hD hS hA) rfl rfl hl.1 rfl (lv_room (Nat.le_of_ble_eq_true rfl)) dX10_pass_5 ⟨Nat.le_of_ble_eq_true rfl, Nat.le_of_ble_eq_true rfl⟩) hD hS hA (fun r9 u9 H locs hw hp hd hs => ?_)
  clear hP hD hS
  obtain ⟨rfl, rfl⟩ := hw
  have hP := hp; have hD := hd; have hS := hs; clear hp hd hs
  cases h
  exact kz_iret hx hb hr hlocks hP hK hD hS dX10_pass_8 ⟨rfl, rfl⟩

set_option maxHeartbeats 4000000 in
set_option maxRecDepth 100000 in
theorem WX10_allOrders_4b {p : Program} {l : Launch} {e : Env} {s : State} {m : MethodId} {args : Array Value} {below : List Frame} {meth : Method} {c : Code} {D : va_G} {ty : Nat → ClassId} {eo : Nat → Nat} {A : Nat → Prop} {o1 : Int32} (C : dc_C p s m args meth c cX10_allOrders (some .int) 3 RX10 wsX10_allOrders D ty eo A) {k4 : Int32 → Int32 → Int32 → Option (Int32)} (hk4 : ∀ (x0 : Int32) (x1 : Int32) (x2 : Int32) (H : Heap) (locs : List Loc) (ls : Array Slot), k4 x0 x1 x2 = some o1 → va_P D vwCl (([] : va_W)) H → va_D A (([] : va_W)) → va_S A s.heap H locs → lv_has ls 3 [(0, .int x0), (1, .int x1), (2, .int x2)] → W p l e ({ frames := 0, cells := 0, slots := 0, locals := 0 } : Room) s m args below meth c H locs 0 0 (MQ below (va_Qi (fun (r : Int32) (u : va_W) => o1 = r ∧ ([] : va_W) = u) (kz_B D ty A) A) args s 0 0 A) (F0 m 4 ls [])) (x0 : Int32) (x1 : Int32) (x2 : Int32) (H : Heap) (locs : List Loc) (ls : Array Slot) (h : zX10_allOrders_4b k4 x0 x1 x2 = some o1) (hP : va_P D vwCl (([] : va_W)) H) (hD : va_D A (([] : va_W))) (hS : va_S A s.heap H locs) (hl : lv_has ls 3 [(0, .int x0), (1, .int x1), (2, .int x2)]) : W p l e ({ frames := 0, cells := 0, slots := 0, locals := 0 } : Room) s m args below meth c H locs 0 0 (MQ below (va_Qi (fun (r : Int32) (u : va_W) => o1 = r ∧ ([] : va_W) = u) (kz_B D ty A) A) args s 0 0 A) (F0 m 4 ls []) := by
  have C0 := C
  obtain ⟨hx, hb, hr, hts, hown, hlocks, hml, hK, hN, hE, hA⟩ := C
  unfold zX10_allOrders_4b at h
  refine lv_iload_n hx hb dX10_allOrders_4 rfl (lv_at hl 2 rfl) ?_
  refine lv_iload_n hx hb dX10_allOrders_5 rfl (lv_at hl 0 rfl) ?_
  refine lv_icmp_gt (tgt := 19) hx hb dX10_allOrders_6 (by decide) (fun c9 => ?_) (fun c9 => ?_)
  · rw [if_pos c9] at h
    refine lv_iload_n hx hb dX10_allOrders_19 rfl (lv_at hl 1 rfl) ?_
    cases h
    exact kz_iret hx hb hr hlocks hP hK hD hS dX10_allOrders_20 ⟨rfl, rfl⟩
  · rw [if_neg c9] at h
    refine lv_iload_n hx hb dX10_allOrders_9 rfl (lv_at hl 1 rfl) ?_
    refine lv_iload_n hx hb dX10_allOrders_10 rfl (lv_at hl 2 rfl) ?_
    refine lv_imul hx hb dX10_allOrders_11 ?_
    refine lv_istore_n (lv' := [(1, .int (x1 * x2)), (0, .int x0), (2, .int x2)]) hx hb dX10_allOrders_12 rfl hl (by decide) rfl (fun ls hl => ?_)
    refine lv_iinc (v := x2 + 1) (lv' := [(2, .int (x2 + 1)), (1, .int (x1 * x2)), (0, .int x0)]) hx hb dX10_allOrders_13 hl (k := 2) rfl rfl (by decide) rfl (fun ls hl => ?_)
    refine lv_goto (tgt := 4) hx hb dX10_allOrders_16 (by decide) ?_
    exact hk4 _ _ _ _ _ _ h hP hD hS (lv_sub hl [2, 1, 0] rfl)
set_option maxHeartbeats 4000000 in
set_option maxRecDepth 100000 in
theorem WX10_allOrders_4 {p : Program} {l : Launch} {e : Env} {s : State} {m : MethodId} {args : Array Value} {below : List Frame} {meth : Method} {c : Code} {D : va_G} {ty : Nat → ClassId} {eo : Nat → Nat} {A : Nat → Prop} {o1 : Int32} (C : dc_C p s m args meth c cX10_allOrders (some .int) 3 RX10 wsX10_allOrders D ty eo A)   (n : Nat) (x0 : Int32) (x1 : Int32) (x2 : Int32) (H : Heap) (locs : List Loc) (ls : Array Slot) (h : zX10_allOrders_4  n x0 x1 x2 = some o1) (hP : va_P D vwCl (([] : va_W)) H) (hD : va_D A (([] : va_W))) (hS : va_S A s.heap H locs) (hl : lv_has ls 3 [(0, .int x0), (1, .int x1), (2, .int x2)]) : W p l e ({ frames := 0, cells := 0, slots := 0, locals := 0 } : Room) s m args below meth c H locs 0 0 (MQ below (va_Qi (fun (r : Int32) (u : va_W) => o1 = r ∧ ([] : va_W) = u) (kz_B D ty A) A) args s 0 0 A) (F0 m 4 ls []) := by
  exact dFix_W (F := fun k (a : Int32 × Int32 × Int32) => zX10_allOrders_4b  (fun x0 x1 x2 => k (x0, x1, x2)) a.1 a.2.1 a.2.2) (o := o1) (P := fun (a : Int32 × Int32 × Int32) H locs ls => va_P D vwCl (([] : va_W)) H ∧ va_D A (([] : va_W)) ∧ va_S A s.heap H locs ∧ lv_has ls 3 [(0, .int a.1), (1, .int a.2.1), (2, .int a.2.2)]) (G := fun H locs ls => W p l e ({ frames := 0, cells := 0, slots := 0, locals := 0 } : Room) s m args below meth c H locs 0 0 (MQ below (va_Qi (fun (r : Int32) (u : va_W) => o1 = r ∧ ([] : va_W) = u) (kz_B D ty A) A) args s 0 0 A) (F0 m 4 ls []))
    (fun k hk a H locs ls h hp => WX10_allOrders_4b C  (fun x0 x1 x2 H locs ls h h1 h2 h3 h4 => hk (x0, x1, x2) H locs ls h ⟨h1, h2, h3, h4⟩) a.1 a.2.1 a.2.2 H locs ls h hp.1 hp.2.1 hp.2.2.1 hp.2.2.2) n (x0, x1, x2) H locs ls h ⟨hP, hD, hS, hl⟩
set_option maxHeartbeats 4000000 in
set_option maxRecDepth 100000 in
theorem qX10_allOrders (l : Launch) (D : va_G) (ty : Nat → ClassId) (eo : Nat → Nat) (sz : Nat) (p1 : Int32) (o1 : Int32) (h : zX10_allOrders p1 = some o1) : Met l yX10_allOrders wsX10_allOrders ({ frames := 0, cells := 0, slots := 0, locals := 0 } : Room) (va_Pc [.int p1] (kz_pre D ty eo (([] : va_W)) sz)) (va_Qi (fun (r : Int32) (u : va_W) => o1 = r ∧ ([] : va_W) = u) (kz_B D ty (va_A (([] : va_W)) sz)) (va_A (([] : va_W)) sz)) 0 0 (va_A (([] : va_W)) sz) := by
  refine Met.ofW (cc := cX10_allOrders) (maxL := 3) (ret := (some .int)) (by decide) rfl ?_
  intro p e s m args below meth c s₁ B hml hv
  obtain ⟨rfl, hsz, hP, hK, hD0, hN, hE⟩ := hv
  have hx := B.exec
  have hb := B.bytes
  have hr := B.returns
  have hts := atoms_spec (ws := wsX10_allOrders) B.pre
  have hown : s.vm.findClass RX10 = some m.cls := findClass_of_methodNamed B.named
  have hlocks := B.notSynchronized
  subst hsz
  have hD := hD0.self (sz := s.heap.size)
  generalize hAe : va_A (([] : va_W)) s.heap.size = A at hD hE ⊢
  have hA : ∀ q : Nat, s.heap.size ≤ q → A q := fun q h => by rw [← hAe]; exact Or.inr h
  clear hAe
  have hS : va_S A s.heap s.heap [] := va_S.rf
  have hl := lv_entry ([.int p1]) (n := 3) (Nat.le_of_ble_eq_true rfl)
  rw [lg_entry_eq]
  generalize (lg_sl ([.int p1]) ++ List.replicate (3 - (lg_sl ([.int p1])).length) Slot.unset).toArray = ls at hl ⊢
  have hl : lv_has ls 3 [(0, .int p1)] := hl
  have C : dc_C p s m _ meth c cX10_allOrders (some .int) 3 RX10 wsX10_allOrders D ty eo A := ⟨hx, hb, hr, hts, hown, hlocks, hml, hK, hN, hE, hA⟩
  unfold zX10_allOrders at h
  refine lv_iconst (v := 1) hx hb dX10_allOrders_0 (by decide) ?_
  refine lv_istore_n (lv' := [(1, .int 1), (0, .int p1)]) hx hb dX10_allOrders_1 rfl hl (by decide) rfl (fun ls hl => ?_)
  refine lv_iconst (v := 2) hx hb dX10_allOrders_2 (by decide) ?_
  refine lv_istore_n (lv' := [(2, .int 2), (1, .int 1), (0, .int p1)]) hx hb dX10_allOrders_3 rfl hl (by decide) rfl (fun ls hl => ?_)
  exact WX10_allOrders_4 C  _ _ _ _ _ _ _ h hP hD hS (lv_sub hl [2, 1, 0] rfl)
end
section
set_option maxRecDepth 20000 in
theorem ggX10_numberOf_X10_size : GoodIn wsX10_numberOf wsX10_size := wd_c vW10_ok mvW10_24
set_option maxRecDepth 20000 in
theorem gX10_numberOf_X10_size : GoodIn wsX10_numberOf (wsV RX10 125 RX10 yX10_size wsX10_size) := goodIn_app (wd_l vW10_ok _ pvW10_144) ggX10_numberOf_X10_size
theorem da9_dX10_numberOf_0 : (decode cX10_numberOf 0 = .ok (.iconst 0, 1)) ∧ (decode cX10_numberOf 1 = .ok (.istore_n 1, 1)) ∧ (decode cX10_numberOf 2 = .ok (.iconst 0, 1)) ∧ (decode cX10_numberOf 3 = .ok (.istore_n 2, 1)) ∧ (decode cX10_numberOf 4 = .ok (.iload_n 2, 1)) ∧ (decode cX10_numberOf 5 = .ok (.aload_n 0, 1)) ∧ (decode cX10_numberOf 6 = .ok (.invokevirtual 125, 3)) ∧ (decode cX10_numberOf 9 = .ok (.if_icmp .ge 66, 3)) ∧ (decode cX10_numberOf 12 = .ok (.iconst 0, 1)) ∧ (decode cX10_numberOf 13 = .ok (.istore_n 3, 1)) ∧ (decode cX10_numberOf 14 = .ok (.iload_n 2, 1)) ∧ (decode cX10_numberOf 15 = .ok (.iconst 1, 1)) ∧ (decode cX10_numberOf 16 = .ok (.iadd, 1)) ∧ (decode cX10_numberOf 17 = .ok (.istore 4, 2)) ∧ (decode cX10_numberOf 19 = .ok (.iload 4, 2)) ∧ (decode cX10_numberOf 21 = .ok (.aload_n 0, 1)) := by decide +kernel
theorem dX10_numberOf_0 : decode cX10_numberOf 0 = .ok (.iconst 0, 1) := da9_dX10_numberOf_0.1
theorem dX10_numberOf_1 : decode cX10_numberOf 1 = .ok (.istore_n 1, 1) := da9_dX10_numberOf_0.2.1
theorem dX10_numberOf_2 : decode cX10_numberOf 2 = .ok (.iconst 0, 1) := da9_dX10_numberOf_0.2.2.1
theorem dX10_numberOf_3 : decode cX10_numberOf 3 = .ok (.istore_n 2, 1) := da9_dX10_numberOf_0.2.2.2.1
theorem dX10_numberOf_4 : decode cX10_numberOf 4 = .ok (.iload_n 2, 1) := da9_dX10_numberOf_0.2.2.2.2.1
theorem dX10_numberOf_5 : decode cX10_numberOf 5 = .ok (.aload_n 0, 1) := da9_dX10_numberOf_0.2.2.2.2.2.1
theorem dX10_numberOf_6 : decode cX10_numberOf 6 = .ok (.invokevirtual 125, 3) := da9_dX10_numberOf_0.2.2.2.2.2.2.1
theorem dX10_numberOf_9 : decode cX10_numberOf 9 = .ok (.if_icmp .ge 66, 3) := da9_dX10_numberOf_0.2.2.2.2.2.2.2.1
theorem dX10_numberOf_12 : decode cX10_numberOf 12 = .ok (.iconst 0, 1) := da9_dX10_numberOf_0.2.2.2.2.2.2.2.2.1
theorem dX10_numberOf_13 : decode cX10_numberOf 13 = .ok (.istore_n 3, 1) := da9_dX10_numberOf_0.2.2.2.2.2.2.2.2.2.1
theorem dX10_numberOf_14 : decode cX10_numberOf 14 = .ok (.iload_n 2, 1) := da9_dX10_numberOf_0.2.2.2.2.2.2.2.2.2.2.1
theorem dX10_numberOf_15 : decode cX10_numberOf 15 = .ok (.iconst 1, 1) := da9_dX10_numberOf_0.2.2.2.2.2.2.2.2.2.2.2.1
theorem dX10_numberOf_16 : decode cX10_numberOf 16 = .ok (.iadd, 1) := da9_dX10_numberOf_0.2.2.2.2.2.2.2.2.2.2.2.2.1
theorem dX10_numberOf_17 : decode cX10_numberOf 17 = .ok (.istore 4, 2) := da9_dX10_numberOf_0.2.2.2.2.2.2.2.2.2.2.2.2.2.1
theorem dX10_numberOf_19 : decode cX10_numberOf 19 = .ok (.iload 4, 2) := da9_dX10_numberOf_0.2.2.2.2.2.2.2.2.2.2.2.2.2.2.1
theorem dX10_numberOf_21 : decode cX10_numberOf 21 = .ok (.aload_n 0, 1) := da9_dX10_numberOf_0.2.2.2.2.2.2.2.2.2.2.2.2.2.2.2
theorem da9_dX10_numberOf_22 : (decode cX10_numberOf 22 = .ok (.invokevirtual 125, 3)) ∧ (decode cX10_numberOf 25 = .ok (.if_icmp .ge 33, 3)) ∧ (decode cX10_numberOf 28 = .ok (.iload_n 3, 1)) ∧ (decode cX10_numberOf 29 = .ok (.aload_n 0, 1)) ∧ (decode cX10_numberOf 30 = .ok (.getfield 84, 3)) ∧ (decode cX10_numberOf 33 = .ok (.iload 4, 2)) ∧ (decode cX10_numberOf 35 = .ok (.iaload, 1)) ∧ (decode cX10_numberOf 36 = .ok (.aload_n 0, 1)) ∧ (decode cX10_numberOf 37 = .ok (.getfield 84, 3)) ∧ (decode cX10_numberOf 40 = .ok (.iload_n 2, 1)) ∧ (decode cX10_numberOf 41 = .ok (.iaload, 1)) ∧ (decode cX10_numberOf 42 = .ok (.if_icmp .ge 7, 3)) ∧ (decode cX10_numberOf 45 = .ok (.iconst 1, 1)) ∧ (decode cX10_numberOf 46 = .ok (.goto 4, 3)) ∧ (decode cX10_numberOf 49 = .ok (.iconst 0, 1)) ∧ (decode cX10_numberOf 50 = .ok (.iadd, 1)) := by decide +kernel
theorem dX10_numberOf_22 : decode cX10_numberOf 22 = .ok (.invokevirtual 125, 3) := da9_dX10_numberOf_22.1
theorem dX10_numberOf_25 : decode cX10_numberOf 25 = .ok (.if_icmp .ge 33, 3) := da9_dX10_numberOf_22.2.1
theorem dX10_numberOf_28 : decode cX10_numberOf 28 = .ok (.iload_n 3, 1) := da9_dX10_numberOf_22.2.2.1
theorem dX10_numberOf_29 : decode cX10_numberOf 29 = .ok (.aload_n 0, 1) := da9_dX10_numberOf_22.2.2.2.1
theorem dX10_numberOf_30 : decode cX10_numberOf 30 = .ok (.getfield 84, 3) := da9_dX10_numberOf_22.2.2.2.2.1
theorem dX10_numberOf_33 : decode cX10_numberOf 33 = .ok (.iload 4, 2) := da9_dX10_numberOf_22.2.2.2.2.2.1
theorem dX10_numberOf_35 : decode cX10_numberOf 35 = .ok (.iaload, 1) := da9_dX10_numberOf_22.2.2.2.2.2.2.1
theorem dX10_numberOf_36 : decode cX10_numberOf 36 = .ok (.aload_n 0, 1) := da9_dX10_numberOf_22.2.2.2.2.2.2.2.1
theorem dX10_numberOf_37 : decode cX10_numberOf 37 = .ok (.getfield 84, 3) := da9_dX10_numberOf_22.2.2.2.2.2.2.2.2.1
theorem dX10_numberOf_40 : decode cX10_numberOf 40 = .ok (.iload_n 2, 1) := da9_dX10_numberOf_22.2.2.2.2.2.2.2.2.2.1
theorem dX10_numberOf_41 : decode cX10_numberOf 41 = .ok (.iaload, 1) := da9_dX10_numberOf_22.2.2.2.2.2.2.2.2.2.2.1
theorem dX10_numberOf_42 : decode cX10_numberOf 42 = .ok (.if_icmp .ge 7, 3) := da9_dX10_numberOf_22.2.2.2.2.2.2.2.2.2.2.2.1
theorem dX10_numberOf_45 : decode cX10_numberOf 45 = .ok (.iconst 1, 1) := da9_dX10_numberOf_22.2.2.2.2.2.2.2.2.2.2.2.2.1
theorem dX10_numberOf_46 : decode cX10_numberOf 46 = .ok (.goto 4, 3) := da9_dX10_numberOf_22.2.2.2.2.2.2.2.2.2.2.2.2.2.1
theorem dX10_numberOf_49 : decode cX10_numberOf 49 = .ok (.iconst 0, 1) := da9_dX10_numberOf_22.2.2.2.2.2.2.2.2.2.2.2.2.2.2.1
theorem dX10_numberOf_50 : decode cX10_numberOf 50 = .ok (.iadd, 1) := da9_dX10_numberOf_22.2.2.2.2.2.2.2.2.2.2.2.2.2.2.2
theorem da9_dX10_numberOf_51 : (decode cX10_numberOf 51 = .ok (.istore_n 3, 1)) ∧ (decode cX10_numberOf 52 = .ok (.iinc 4 1, 3)) ∧ (decode cX10_numberOf 55 = .ok (.goto (-36), 3)) ∧ (decode cX10_numberOf 58 = .ok (.iload_n 1, 1)) ∧ (decode cX10_numberOf 59 = .ok (.aload_n 0, 1)) ∧ (decode cX10_numberOf 60 = .ok (.invokevirtual 125, 3)) ∧ (decode cX10_numberOf 63 = .ok (.iload_n 2, 1)) ∧ (decode cX10_numberOf 64 = .ok (.isub, 1)) ∧ (decode cX10_numberOf 65 = .ok (.imul, 1)) ∧ (decode cX10_numberOf 66 = .ok (.iload_n 3, 1)) ∧ (decode cX10_numberOf 67 = .ok (.iadd, 1)) ∧ (decode cX10_numberOf 68 = .ok (.istore_n 1, 1)) ∧ (decode cX10_numberOf 69 = .ok (.iinc 2 1, 3)) ∧ (decode cX10_numberOf 72 = .ok (.goto (-68), 3)) ∧ (decode cX10_numberOf 75 = .ok (.iload_n 1, 1)) ∧ (decode cX10_numberOf 76 = .ok (.ireturn, 1)) := by decide +kernel
theorem dX10_numberOf_51 : decode cX10_numberOf 51 = .ok (.istore_n 3, 1) := da9_dX10_numberOf_51.1
theorem dX10_numberOf_52 : decode cX10_numberOf 52 = .ok (.iinc 4 1, 3) := da9_dX10_numberOf_51.2.1
theorem dX10_numberOf_55 : decode cX10_numberOf 55 = .ok (.goto (-36), 3) := da9_dX10_numberOf_51.2.2.1
theorem dX10_numberOf_58 : decode cX10_numberOf 58 = .ok (.iload_n 1, 1) := da9_dX10_numberOf_51.2.2.2.1
theorem dX10_numberOf_59 : decode cX10_numberOf 59 = .ok (.aload_n 0, 1) := da9_dX10_numberOf_51.2.2.2.2.1
theorem dX10_numberOf_60 : decode cX10_numberOf 60 = .ok (.invokevirtual 125, 3) := da9_dX10_numberOf_51.2.2.2.2.2.1
theorem dX10_numberOf_63 : decode cX10_numberOf 63 = .ok (.iload_n 2, 1) := da9_dX10_numberOf_51.2.2.2.2.2.2.1
theorem dX10_numberOf_64 : decode cX10_numberOf 64 = .ok (.isub, 1) := da9_dX10_numberOf_51.2.2.2.2.2.2.2.1
theorem dX10_numberOf_65 : decode cX10_numberOf 65 = .ok (.imul, 1) := da9_dX10_numberOf_51.2.2.2.2.2.2.2.2.1
theorem dX10_numberOf_66 : decode cX10_numberOf 66 = .ok (.iload_n 3, 1) := da9_dX10_numberOf_51.2.2.2.2.2.2.2.2.2.1
theorem dX10_numberOf_67 : decode cX10_numberOf 67 = .ok (.iadd, 1) := da9_dX10_numberOf_51.2.2.2.2.2.2.2.2.2.2.1
theorem dX10_numberOf_68 : decode cX10_numberOf 68 = .ok (.istore_n 1, 1) := da9_dX10_numberOf_51.2.2.2.2.2.2.2.2.2.2.2.1
theorem dX10_numberOf_69 : decode cX10_numberOf 69 = .ok (.iinc 2 1, 3) := da9_dX10_numberOf_51.2.2.2.2.2.2.2.2.2.2.2.2.1
theorem dX10_numberOf_72 : decode cX10_numberOf 72 = .ok (.goto (-68), 3) := da9_dX10_numberOf_51.2.2.2.2.2.2.2.2.2.2.2.2.2.1
theorem dX10_numberOf_75 : decode cX10_numberOf 75 = .ok (.iload_n 1, 1) := da9_dX10_numberOf_51.2.2.2.2.2.2.2.2.2.2.2.2.2.2.1
theorem dX10_numberOf_76 : decode cX10_numberOf 76 = .ok (.ireturn, 1) := da9_dX10_numberOf_51.2.2.2.2.2.2.2.2.2.2.2.2.2.2.2
set_option maxRecDepth 20000 in
theorem ggX10_laysOrder_X10_size : GoodIn wsX10_laysOrder wsX10_size := wd_c vW10_ok mvW10_24
set_option maxRecDepth 20000 in
theorem gX10_laysOrder_X10_size : GoodIn wsX10_laysOrder (wsV RX10 125 RX10 yX10_size wsX10_size) := goodIn_app (wd_l vW10_ok _ pvW10_144) ggX10_laysOrder_X10_size
set_option maxRecDepth 20000 in
theorem ggX10_laysOrder_X10_allOrders : GoodIn wsX10_laysOrder wsX10_allOrders := wd_c vW10_ok mvW10_355
set_option maxRecDepth 20000 in
theorem gX10_laysOrder_X10_allOrders : GoodIn wsX10_laysOrder (va_wsS RX10 380 yX10_allOrders wsX10_allOrders) := goodIn_app (wd_l vW10_ok _ pvW10_207) ggX10_laysOrder_X10_allOrders
set_option maxRecDepth 20000 in
theorem ggX10_laysOrder_X10_isIn : GoodIn wsX10_laysOrder wsX10_isIn := wd_c vW10_ok mvW10_362
set_option maxRecDepth 20000 in
theorem gX10_laysOrder_X10_isIn : GoodIn wsX10_laysOrder (va_wsS RX10 383 yX10_isIn wsX10_isIn) := goodIn_app (wd_l vW10_ok _ pvW10_208) ggX10_laysOrder_X10_isIn
theorem da9_dX10_laysOrder_0 : (decode cX10_laysOrder 0 = .ok (.iconst 0, 1)) ∧ (decode cX10_laysOrder 1 = .ok (.istore_n 2, 1)) ∧ (decode cX10_laysOrder 2 = .ok (.iload_n 1, 1)) ∧ (decode cX10_laysOrder 3 = .ok (.istore_n 3, 1)) ∧ (decode cX10_laysOrder 4 = .ok (.iconst 0, 1)) ∧ (decode cX10_laysOrder 5 = .ok (.istore 4, 2)) ∧ (decode cX10_laysOrder 7 = .ok (.iload 4, 2)) ∧ (decode cX10_laysOrder 9 = .ok (.aload_n 0, 1)) ∧ (decode cX10_laysOrder 10 = .ok (.invokevirtual 125, 3)) ∧ (decode cX10_laysOrder 13 = .ok (.if_icmp .ge 97, 3)) ∧ (decode cX10_laysOrder 16 = .ok (.aload_n 0, 1)) ∧ (decode cX10_laysOrder 17 = .ok (.invokevirtual 125, 3)) ∧ (decode cX10_laysOrder 20 = .ok (.iconst 1, 1)) ∧ (decode cX10_laysOrder 21 = .ok (.isub, 1)) ∧ (decode cX10_laysOrder 22 = .ok (.iload 4, 2)) ∧ (decode cX10_laysOrder 24 = .ok (.isub, 1)) := by decide +kernel
theorem dX10_laysOrder_0 : decode cX10_laysOrder 0 = .ok (.iconst 0, 1) := da9_dX10_laysOrder_0.1
theorem dX10_laysOrder_1 : decode cX10_laysOrder 1 = .ok (.istore_n 2, 1) := da9_dX10_laysOrder_0.2.1
theorem dX10_laysOrder_2 : decode cX10_laysOrder 2 = .ok (.iload_n 1, 1) := da9_dX10_laysOrder_0.2.2.1
theorem dX10_laysOrder_3 : decode cX10_laysOrder 3 = .ok (.istore_n 3, 1) := da9_dX10_laysOrder_0.2.2.2.1
theorem dX10_laysOrder_4 : decode cX10_laysOrder 4 = .ok (.iconst 0, 1) := da9_dX10_laysOrder_0.2.2.2.2.1
theorem dX10_laysOrder_5 : decode cX10_laysOrder 5 = .ok (.istore 4, 2) := da9_dX10_laysOrder_0.2.2.2.2.2.1
theorem dX10_laysOrder_7 : decode cX10_laysOrder 7 = .ok (.iload 4, 2) := da9_dX10_laysOrder_0.2.2.2.2.2.2.1
theorem dX10_laysOrder_9 : decode cX10_laysOrder 9 = .ok (.aload_n 0, 1) := da9_dX10_laysOrder_0.2.2.2.2.2.2.2.1
theorem dX10_laysOrder_10 : decode cX10_laysOrder 10 = .ok (.invokevirtual 125, 3) := da9_dX10_laysOrder_0.2.2.2.2.2.2.2.2.1
theorem dX10_laysOrder_13 : decode cX10_laysOrder 13 = .ok (.if_icmp .ge 97, 3) := da9_dX10_laysOrder_0.2.2.2.2.2.2.2.2.2.1
theorem dX10_laysOrder_16 : decode cX10_laysOrder 16 = .ok (.aload_n 0, 1) := da9_dX10_laysOrder_0.2.2.2.2.2.2.2.2.2.2.1
theorem dX10_laysOrder_17 : decode cX10_laysOrder 17 = .ok (.invokevirtual 125, 3) := da9_dX10_laysOrder_0.2.2.2.2.2.2.2.2.2.2.2.1
theorem dX10_laysOrder_20 : decode cX10_laysOrder 20 = .ok (.iconst 1, 1) := da9_dX10_laysOrder_0.2.2.2.2.2.2.2.2.2.2.2.2.1
theorem dX10_laysOrder_21 : decode cX10_laysOrder 21 = .ok (.isub, 1) := da9_dX10_laysOrder_0.2.2.2.2.2.2.2.2.2.2.2.2.2.1
theorem dX10_laysOrder_22 : decode cX10_laysOrder 22 = .ok (.iload 4, 2) := da9_dX10_laysOrder_0.2.2.2.2.2.2.2.2.2.2.2.2.2.2.1
theorem dX10_laysOrder_24 : decode cX10_laysOrder 24 = .ok (.isub, 1) := da9_dX10_laysOrder_0.2.2.2.2.2.2.2.2.2.2.2.2.2.2.2
theorem da9_dX10_laysOrder_25 : (decode cX10_laysOrder 25 = .ok (.invokestatic 380, 3)) ∧ (decode cX10_laysOrder 28 = .ok (.istore 5, 2)) ∧ (decode cX10_laysOrder 30 = .ok (.iload_n 3, 1)) ∧ (decode cX10_laysOrder 31 = .ok (.iload 5, 2)) ∧ (decode cX10_laysOrder 33 = .ok (.idiv, 1)) ∧ (decode cX10_laysOrder 34 = .ok (.istore 6, 2)) ∧ (decode cX10_laysOrder 36 = .ok (.iload_n 3, 1)) ∧ (decode cX10_laysOrder 37 = .ok (.iload 5, 2)) ∧ (decode cX10_laysOrder 39 = .ok (.irem, 1)) ∧ (decode cX10_laysOrder 40 = .ok (.istore_n 3, 1)) ∧ (decode cX10_laysOrder 41 = .ok (.iconst 0, 1)) ∧ (decode cX10_laysOrder 42 = .ok (.istore 7, 2)) ∧ (decode cX10_laysOrder 44 = .ok (.iload_n 2, 1)) ∧ (decode cX10_laysOrder 45 = .ok (.iload 7, 2)) ∧ (decode cX10_laysOrder 47 = .ok (.invokestatic 383, 3)) ∧ (decode cX10_laysOrder 50 = .ok (.ifCond .ne 8, 3)) := by decide +kernel
theorem dX10_laysOrder_25 : decode cX10_laysOrder 25 = .ok (.invokestatic 380, 3) := da9_dX10_laysOrder_25.1
theorem dX10_laysOrder_28 : decode cX10_laysOrder 28 = .ok (.istore 5, 2) := da9_dX10_laysOrder_25.2.1
theorem dX10_laysOrder_30 : decode cX10_laysOrder 30 = .ok (.iload_n 3, 1) := da9_dX10_laysOrder_25.2.2.1
theorem dX10_laysOrder_31 : decode cX10_laysOrder 31 = .ok (.iload 5, 2) := da9_dX10_laysOrder_25.2.2.2.1
theorem dX10_laysOrder_33 : decode cX10_laysOrder 33 = .ok (.idiv, 1) := da9_dX10_laysOrder_25.2.2.2.2.1
theorem dX10_laysOrder_34 : decode cX10_laysOrder 34 = .ok (.istore 6, 2) := da9_dX10_laysOrder_25.2.2.2.2.2.1
theorem dX10_laysOrder_36 : decode cX10_laysOrder 36 = .ok (.iload_n 3, 1) := da9_dX10_laysOrder_25.2.2.2.2.2.2.1
theorem dX10_laysOrder_37 : decode cX10_laysOrder 37 = .ok (.iload 5, 2) := da9_dX10_laysOrder_25.2.2.2.2.2.2.2.1
theorem dX10_laysOrder_39 : decode cX10_laysOrder 39 = .ok (.irem, 1) := da9_dX10_laysOrder_25.2.2.2.2.2.2.2.2.1
theorem dX10_laysOrder_40 : decode cX10_laysOrder 40 = .ok (.istore_n 3, 1) := da9_dX10_laysOrder_25.2.2.2.2.2.2.2.2.2.1
theorem dX10_laysOrder_41 : decode cX10_laysOrder 41 = .ok (.iconst 0, 1) := da9_dX10_laysOrder_25.2.2.2.2.2.2.2.2.2.2.1
theorem dX10_laysOrder_42 : decode cX10_laysOrder 42 = .ok (.istore 7, 2) := da9_dX10_laysOrder_25.2.2.2.2.2.2.2.2.2.2.2.1
theorem dX10_laysOrder_44 : decode cX10_laysOrder 44 = .ok (.iload_n 2, 1) := da9_dX10_laysOrder_25.2.2.2.2.2.2.2.2.2.2.2.2.1
theorem dX10_laysOrder_45 : decode cX10_laysOrder 45 = .ok (.iload 7, 2) := da9_dX10_laysOrder_25.2.2.2.2.2.2.2.2.2.2.2.2.2.1
theorem dX10_laysOrder_47 : decode cX10_laysOrder 47 = .ok (.invokestatic 383, 3) := da9_dX10_laysOrder_25.2.2.2.2.2.2.2.2.2.2.2.2.2.2.1
theorem dX10_laysOrder_50 : decode cX10_laysOrder 50 = .ok (.ifCond .ne 8, 3) := da9_dX10_laysOrder_25.2.2.2.2.2.2.2.2.2.2.2.2.2.2.2
theorem da9_dX10_laysOrder_53 : (decode cX10_laysOrder 53 = .ok (.iload 6, 2)) ∧ (decode cX10_laysOrder 55 = .ok (.ifCond .le 28, 3)) ∧ (decode cX10_laysOrder 58 = .ok (.iload 6, 2)) ∧ (decode cX10_laysOrder 60 = .ok (.iload_n 2, 1)) ∧ (decode cX10_laysOrder 61 = .ok (.iload 7, 2)) ∧ (decode cX10_laysOrder 63 = .ok (.invokestatic 383, 3)) ∧ (decode cX10_laysOrder 66 = .ok (.ifCond .eq 7, 3)) ∧ (decode cX10_laysOrder 69 = .ok (.iconst 0, 1)) ∧ (decode cX10_laysOrder 70 = .ok (.goto 4, 3)) ∧ (decode cX10_laysOrder 73 = .ok (.iconst 1, 1)) ∧ (decode cX10_laysOrder 74 = .ok (.isub, 1)) ∧ (decode cX10_laysOrder 75 = .ok (.istore 6, 2)) ∧ (decode cX10_laysOrder 77 = .ok (.iinc 7 1, 3)) ∧ (decode cX10_laysOrder 80 = .ok (.goto (-36), 3)) ∧ (decode cX10_laysOrder 83 = .ok (.iload_n 2, 1)) ∧ (decode cX10_laysOrder 84 = .ok (.iconst 1, 1)) := by decide +kernel
theorem dX10_laysOrder_53 : decode cX10_laysOrder 53 = .ok (.iload 6, 2) := da9_dX10_laysOrder_53.1
theorem dX10_laysOrder_55 : decode cX10_laysOrder 55 = .ok (.ifCond .le 28, 3) := da9_dX10_laysOrder_53.2.1
theorem dX10_laysOrder_58 : decode cX10_laysOrder 58 = .ok (.iload 6, 2) := da9_dX10_laysOrder_53.2.2.1
theorem dX10_laysOrder_60 : decode cX10_laysOrder 60 = .ok (.iload_n 2, 1) := da9_dX10_laysOrder_53.2.2.2.1
theorem dX10_laysOrder_61 : decode cX10_laysOrder 61 = .ok (.iload 7, 2) := da9_dX10_laysOrder_53.2.2.2.2.1
theorem dX10_laysOrder_63 : decode cX10_laysOrder 63 = .ok (.invokestatic 383, 3) := da9_dX10_laysOrder_53.2.2.2.2.2.1
theorem dX10_laysOrder_66 : decode cX10_laysOrder 66 = .ok (.ifCond .eq 7, 3) := da9_dX10_laysOrder_53.2.2.2.2.2.2.1
theorem dX10_laysOrder_69 : decode cX10_laysOrder 69 = .ok (.iconst 0, 1) := da9_dX10_laysOrder_53.2.2.2.2.2.2.2.1
theorem dX10_laysOrder_70 : decode cX10_laysOrder 70 = .ok (.goto 4, 3) := da9_dX10_laysOrder_53.2.2.2.2.2.2.2.2.1
theorem dX10_laysOrder_73 : decode cX10_laysOrder 73 = .ok (.iconst 1, 1) := da9_dX10_laysOrder_53.2.2.2.2.2.2.2.2.2.1
theorem dX10_laysOrder_74 : decode cX10_laysOrder 74 = .ok (.isub, 1) := da9_dX10_laysOrder_53.2.2.2.2.2.2.2.2.2.2.1
theorem dX10_laysOrder_75 : decode cX10_laysOrder 75 = .ok (.istore 6, 2) := da9_dX10_laysOrder_53.2.2.2.2.2.2.2.2.2.2.2.1
theorem dX10_laysOrder_77 : decode cX10_laysOrder 77 = .ok (.iinc 7 1, 3) := da9_dX10_laysOrder_53.2.2.2.2.2.2.2.2.2.2.2.2.1
theorem dX10_laysOrder_80 : decode cX10_laysOrder 80 = .ok (.goto (-36), 3) := da9_dX10_laysOrder_53.2.2.2.2.2.2.2.2.2.2.2.2.2.1
theorem dX10_laysOrder_83 : decode cX10_laysOrder 83 = .ok (.iload_n 2, 1) := da9_dX10_laysOrder_53.2.2.2.2.2.2.2.2.2.2.2.2.2.2.1
theorem dX10_laysOrder_84 : decode cX10_laysOrder 84 = .ok (.iconst 1, 1) := da9_dX10_laysOrder_53.2.2.2.2.2.2.2.2.2.2.2.2.2.2.2
theorem da9_dX10_laysOrder_85 : (decode cX10_laysOrder 85 = .ok (.iload 7, 2)) ∧ (decode cX10_laysOrder 87 = .ok (.ishl, 1)) ∧ (decode cX10_laysOrder 88 = .ok (.ior, 1)) ∧ (decode cX10_laysOrder 89 = .ok (.istore_n 2, 1)) ∧ (decode cX10_laysOrder 90 = .ok (.aload_n 0, 1)) ∧ (decode cX10_laysOrder 91 = .ok (.getfield 75, 3)) ∧ (decode cX10_laysOrder 94 = .ok (.bipush 6, 2)) ∧ (decode cX10_laysOrder 96 = .ok (.iload_n 1, 1)) ∧ (decode cX10_laysOrder 97 = .ok (.imul, 1)) ∧ (decode cX10_laysOrder 98 = .ok (.iload 4, 2)) ∧ (decode cX10_laysOrder 100 = .ok (.iadd, 1)) ∧ (decode cX10_laysOrder 101 = .ok (.iload 7, 2)) ∧ (decode cX10_laysOrder 103 = .ok (.iastore, 1)) ∧ (decode cX10_laysOrder 104 = .ok (.iinc 4 1, 3)) ∧ (decode cX10_laysOrder 107 = .ok (.goto (-100), 3)) ∧ (decode cX10_laysOrder 110 = .ok (.return_, 1)) := by decide +kernel
theorem dX10_laysOrder_85 : decode cX10_laysOrder 85 = .ok (.iload 7, 2) := da9_dX10_laysOrder_85.1
theorem dX10_laysOrder_87 : decode cX10_laysOrder 87 = .ok (.ishl, 1) := da9_dX10_laysOrder_85.2.1
theorem dX10_laysOrder_88 : decode cX10_laysOrder 88 = .ok (.ior, 1) := da9_dX10_laysOrder_85.2.2.1
theorem dX10_laysOrder_89 : decode cX10_laysOrder 89 = .ok (.istore_n 2, 1) := da9_dX10_laysOrder_85.2.2.2.1
theorem dX10_laysOrder_90 : decode cX10_laysOrder 90 = .ok (.aload_n 0, 1) := da9_dX10_laysOrder_85.2.2.2.2.1
theorem dX10_laysOrder_91 : decode cX10_laysOrder 91 = .ok (.getfield 75, 3) := da9_dX10_laysOrder_85.2.2.2.2.2.1
theorem dX10_laysOrder_94 : decode cX10_laysOrder 94 = .ok (.bipush 6, 2) := da9_dX10_laysOrder_85.2.2.2.2.2.2.1
theorem dX10_laysOrder_96 : decode cX10_laysOrder 96 = .ok (.iload_n 1, 1) := da9_dX10_laysOrder_85.2.2.2.2.2.2.2.1
theorem dX10_laysOrder_97 : decode cX10_laysOrder 97 = .ok (.imul, 1) := da9_dX10_laysOrder_85.2.2.2.2.2.2.2.2.1
theorem dX10_laysOrder_98 : decode cX10_laysOrder 98 = .ok (.iload 4, 2) := da9_dX10_laysOrder_85.2.2.2.2.2.2.2.2.2.1
theorem dX10_laysOrder_100 : decode cX10_laysOrder 100 = .ok (.iadd, 1) := da9_dX10_laysOrder_85.2.2.2.2.2.2.2.2.2.2.1
theorem dX10_laysOrder_101 : decode cX10_laysOrder 101 = .ok (.iload 7, 2) := da9_dX10_laysOrder_85.2.2.2.2.2.2.2.2.2.2.2.1
theorem dX10_laysOrder_103 : decode cX10_laysOrder 103 = .ok (.iastore, 1) := da9_dX10_laysOrder_85.2.2.2.2.2.2.2.2.2.2.2.2.1
theorem dX10_laysOrder_104 : decode cX10_laysOrder 104 = .ok (.iinc 4 1, 3) := da9_dX10_laysOrder_85.2.2.2.2.2.2.2.2.2.2.2.2.2.1
theorem dX10_laysOrder_107 : decode cX10_laysOrder 107 = .ok (.goto (-100), 3) := da9_dX10_laysOrder_85.2.2.2.2.2.2.2.2.2.2.2.2.2.2.1
theorem dX10_laysOrder_110 : decode cX10_laysOrder 110 = .ok (.return_, 1) := da9_dX10_laysOrder_85.2.2.2.2.2.2.2.2.2.2.2.2.2.2.2
set_option maxRecDepth 20000 in
theorem ggX10_headsBehind_X10_size : GoodIn wsX10_headsBehind wsX10_size := wd_c vW10_ok mvW10_24
set_option maxRecDepth 20000 in
theorem gX10_headsBehind_X10_size : GoodIn wsX10_headsBehind (wsV RX10 125 RX10 yX10_size wsX10_size) := goodIn_app (wd_l vW10_ok _ pvW10_144) ggX10_headsBehind_X10_size
theorem da9_dX10_headsBehind_0 : (decode cX10_headsBehind 0 = .ok (.iconst 0, 1)) ∧ (decode cX10_headsBehind 1 = .ok (.istore_n 3, 1)) ∧ (decode cX10_headsBehind 2 = .ok (.iconst 0, 1)) ∧ (decode cX10_headsBehind 3 = .ok (.istore 4, 2)) ∧ (decode cX10_headsBehind 5 = .ok (.iload 4, 2)) ∧ (decode cX10_headsBehind 7 = .ok (.aload_n 0, 1)) ∧ (decode cX10_headsBehind 8 = .ok (.invokevirtual 125, 3)) ∧ (decode cX10_headsBehind 11 = .ok (.if_icmp .ge 42, 3)) ∧ (decode cX10_headsBehind 14 = .ok (.iload_n 3, 1)) ∧ (decode cX10_headsBehind 15 = .ok (.iload 4, 2)) ∧ (decode cX10_headsBehind 17 = .ok (.iload_n 2, 1)) ∧ (decode cX10_headsBehind 18 = .ok (.if_icmp .ge 18, 3)) ∧ (decode cX10_headsBehind 21 = .ok (.iconst 1, 1)) ∧ (decode cX10_headsBehind 22 = .ok (.iload_n 1, 1)) ∧ (decode cX10_headsBehind 23 = .ok (.iload_n 2, 1)) ∧ (decode cX10_headsBehind 24 = .ok (.iconst 1, 1)) := by decide +kernel
theorem dX10_headsBehind_0 : decode cX10_headsBehind 0 = .ok (.iconst 0, 1) := da9_dX10_headsBehind_0.1
theorem dX10_headsBehind_1 : decode cX10_headsBehind 1 = .ok (.istore_n 3, 1) := da9_dX10_headsBehind_0.2.1
theorem dX10_headsBehind_2 : decode cX10_headsBehind 2 = .ok (.iconst 0, 1) := da9_dX10_headsBehind_0.2.2.1
theorem dX10_headsBehind_3 : decode cX10_headsBehind 3 = .ok (.istore 4, 2) := da9_dX10_headsBehind_0.2.2.2.1
theorem dX10_headsBehind_5 : decode cX10_headsBehind 5 = .ok (.iload 4, 2) := da9_dX10_headsBehind_0.2.2.2.2.1
theorem dX10_headsBehind_7 : decode cX10_headsBehind 7 = .ok (.aload_n 0, 1) := da9_dX10_headsBehind_0.2.2.2.2.2.1
theorem dX10_headsBehind_8 : decode cX10_headsBehind 8 = .ok (.invokevirtual 125, 3) := da9_dX10_headsBehind_0.2.2.2.2.2.2.1
theorem dX10_headsBehind_11 : decode cX10_headsBehind 11 = .ok (.if_icmp .ge 42, 3) := da9_dX10_headsBehind_0.2.2.2.2.2.2.2.1
theorem dX10_headsBehind_14 : decode cX10_headsBehind 14 = .ok (.iload_n 3, 1) := da9_dX10_headsBehind_0.2.2.2.2.2.2.2.2.1
theorem dX10_headsBehind_15 : decode cX10_headsBehind 15 = .ok (.iload 4, 2) := da9_dX10_headsBehind_0.2.2.2.2.2.2.2.2.2.1
theorem dX10_headsBehind_17 : decode cX10_headsBehind 17 = .ok (.iload_n 2, 1) := da9_dX10_headsBehind_0.2.2.2.2.2.2.2.2.2.2.1
theorem dX10_headsBehind_18 : decode cX10_headsBehind 18 = .ok (.if_icmp .ge 18, 3) := da9_dX10_headsBehind_0.2.2.2.2.2.2.2.2.2.2.2.1
theorem dX10_headsBehind_21 : decode cX10_headsBehind 21 = .ok (.iconst 1, 1) := da9_dX10_headsBehind_0.2.2.2.2.2.2.2.2.2.2.2.2.1
theorem dX10_headsBehind_22 : decode cX10_headsBehind 22 = .ok (.iload_n 1, 1) := da9_dX10_headsBehind_0.2.2.2.2.2.2.2.2.2.2.2.2.2.1
theorem dX10_headsBehind_23 : decode cX10_headsBehind 23 = .ok (.iload_n 2, 1) := da9_dX10_headsBehind_0.2.2.2.2.2.2.2.2.2.2.2.2.2.2.1
theorem dX10_headsBehind_24 : decode cX10_headsBehind 24 = .ok (.iconst 1, 1) := da9_dX10_headsBehind_0.2.2.2.2.2.2.2.2.2.2.2.2.2.2.2
theorem da9_dX10_headsBehind_25 : (decode cX10_headsBehind 25 = .ok (.isub, 1)) ∧ (decode cX10_headsBehind 26 = .ok (.iload 4, 2)) ∧ (decode cX10_headsBehind 28 = .ok (.isub, 1)) ∧ (decode cX10_headsBehind 29 = .ok (.ishr, 1)) ∧ (decode cX10_headsBehind 30 = .ok (.iconst 1, 1)) ∧ (decode cX10_headsBehind 31 = .ok (.iand, 1)) ∧ (decode cX10_headsBehind 32 = .ok (.isub, 1)) ∧ (decode cX10_headsBehind 33 = .ok (.goto 9, 3)) ∧ (decode cX10_headsBehind 36 = .ok (.iload_n 1, 1)) ∧ (decode cX10_headsBehind 37 = .ok (.iload 4, 2)) ∧ (decode cX10_headsBehind 39 = .ok (.ishr, 1)) ∧ (decode cX10_headsBehind 40 = .ok (.iconst 1, 1)) ∧ (decode cX10_headsBehind 41 = .ok (.iand, 1)) ∧ (decode cX10_headsBehind 42 = .ok (.iload 4, 2)) ∧ (decode cX10_headsBehind 44 = .ok (.ishl, 1)) ∧ (decode cX10_headsBehind 45 = .ok (.ior, 1)) := by decide +kernel
theorem dX10_headsBehind_25 : decode cX10_headsBehind 25 = .ok (.isub, 1) := da9_dX10_headsBehind_25.1
theorem dX10_headsBehind_26 : decode cX10_headsBehind 26 = .ok (.iload 4, 2) := da9_dX10_headsBehind_25.2.1
theorem dX10_headsBehind_28 : decode cX10_headsBehind 28 = .ok (.isub, 1) := da9_dX10_headsBehind_25.2.2.1
theorem dX10_headsBehind_29 : decode cX10_headsBehind 29 = .ok (.ishr, 1) := da9_dX10_headsBehind_25.2.2.2.1
theorem dX10_headsBehind_30 : decode cX10_headsBehind 30 = .ok (.iconst 1, 1) := da9_dX10_headsBehind_25.2.2.2.2.1
theorem dX10_headsBehind_31 : decode cX10_headsBehind 31 = .ok (.iand, 1) := da9_dX10_headsBehind_25.2.2.2.2.2.1
theorem dX10_headsBehind_32 : decode cX10_headsBehind 32 = .ok (.isub, 1) := da9_dX10_headsBehind_25.2.2.2.2.2.2.1
theorem dX10_headsBehind_33 : decode cX10_headsBehind 33 = .ok (.goto 9, 3) := da9_dX10_headsBehind_25.2.2.2.2.2.2.2.1
theorem dX10_headsBehind_36 : decode cX10_headsBehind 36 = .ok (.iload_n 1, 1) := da9_dX10_headsBehind_25.2.2.2.2.2.2.2.2.1
theorem dX10_headsBehind_37 : decode cX10_headsBehind 37 = .ok (.iload 4, 2) := da9_dX10_headsBehind_25.2.2.2.2.2.2.2.2.2.1
theorem dX10_headsBehind_39 : decode cX10_headsBehind 39 = .ok (.ishr, 1) := da9_dX10_headsBehind_25.2.2.2.2.2.2.2.2.2.2.1
theorem dX10_headsBehind_40 : decode cX10_headsBehind 40 = .ok (.iconst 1, 1) := da9_dX10_headsBehind_25.2.2.2.2.2.2.2.2.2.2.2.1
theorem dX10_headsBehind_41 : decode cX10_headsBehind 41 = .ok (.iand, 1) := da9_dX10_headsBehind_25.2.2.2.2.2.2.2.2.2.2.2.2.1
theorem dX10_headsBehind_42 : decode cX10_headsBehind 42 = .ok (.iload 4, 2) := da9_dX10_headsBehind_25.2.2.2.2.2.2.2.2.2.2.2.2.2.1
theorem dX10_headsBehind_44 : decode cX10_headsBehind 44 = .ok (.ishl, 1) := da9_dX10_headsBehind_25.2.2.2.2.2.2.2.2.2.2.2.2.2.2.1
theorem dX10_headsBehind_45 : decode cX10_headsBehind 45 = .ok (.ior, 1) := da9_dX10_headsBehind_25.2.2.2.2.2.2.2.2.2.2.2.2.2.2.2
theorem da9_dX10_headsBehind_46 : (decode cX10_headsBehind 46 = .ok (.istore_n 3, 1)) ∧ (decode cX10_headsBehind 47 = .ok (.iinc 4 1, 3)) ∧ (decode cX10_headsBehind 50 = .ok (.goto (-45), 3)) ∧ (decode cX10_headsBehind 53 = .ok (.iload_n 3, 1)) ∧ (decode cX10_headsBehind 54 = .ok (.ireturn, 1)) := by decide +kernel
theorem dX10_headsBehind_46 : decode cX10_headsBehind 46 = .ok (.istore_n 3, 1) := da9_dX10_headsBehind_46.1
theorem dX10_headsBehind_47 : decode cX10_headsBehind 47 = .ok (.iinc 4 1, 3) := da9_dX10_headsBehind_46.2.1
theorem dX10_headsBehind_50 : decode cX10_headsBehind 50 = .ok (.goto (-45), 3) := da9_dX10_headsBehind_46.2.2.1
theorem dX10_headsBehind_53 : decode cX10_headsBehind 53 = .ok (.iload_n 3, 1) := da9_dX10_headsBehind_46.2.2.2.1
theorem dX10_headsBehind_54 : decode cX10_headsBehind 54 = .ok (.ireturn, 1) := da9_dX10_headsBehind_46.2.2.2.2
set_option maxRecDepth 20000 in
theorem ggX10_laysTables_X10_size : GoodIn wsX10_laysTables wsX10_size := wd_c vW10_ok mvW10_24
set_option maxRecDepth 20000 in
theorem gX10_laysTables_X10_size : GoodIn wsX10_laysTables (wsV RX10 125 RX10 yX10_size wsX10_size) := goodIn_app (wd_l vW10_ok _ pvW10_144) ggX10_laysTables_X10_size
set_option maxRecDepth 20000 in
theorem ggX10_laysTables_X10_allOrders : GoodIn wsX10_laysTables wsX10_allOrders := wd_c vW10_ok mvW10_355
set_option maxRecDepth 20000 in
theorem gX10_laysTables_X10_allOrders : GoodIn wsX10_laysTables (va_wsS RX10 380 yX10_allOrders wsX10_allOrders) := goodIn_app (wd_l vW10_ok _ pvW10_207) ggX10_laysTables_X10_allOrders
set_option maxRecDepth 20000 in
theorem ggX10_laysTables_X10_laysOrder : GoodIn wsX10_laysTables wsX10_laysOrder := wd_c vW10_ok mvW10_359
set_option maxRecDepth 20000 in
theorem gX10_laysTables_X10_laysOrder : GoodIn wsX10_laysTables (wsV RX10 392 RX10 yX10_laysOrder wsX10_laysOrder) := goodIn_app (wd_l vW10_ok _ pvW10_209) ggX10_laysTables_X10_laysOrder
set_option maxRecDepth 20000 in
theorem ggX10_laysTables_X10_numberOf : GoodIn wsX10_laysTables wsX10_numberOf := wd_c vW10_ok mvW10_366
set_option maxRecDepth 20000 in
theorem gX10_laysTables_X10_numberOf : GoodIn wsX10_laysTables (wsV RX10 395 RX10 yX10_numberOf wsX10_numberOf) := goodIn_app (wd_l vW10_ok _ pvW10_210) ggX10_laysTables_X10_numberOf
set_option maxRecDepth 20000 in
theorem ggX10_laysTables_X10_headsBehind : GoodIn wsX10_laysTables wsX10_headsBehind := wd_c vW10_ok mvW10_370
set_option maxRecDepth 20000 in
theorem gX10_laysTables_X10_headsBehind : GoodIn wsX10_laysTables (wsV RX10 398 RX10 yX10_headsBehind wsX10_headsBehind) := goodIn_app (wd_l vW10_ok _ pvW10_211) ggX10_laysTables_X10_headsBehind
theorem da9_dX10_laysTables_0 : (decode cX10_laysTables 0 = .ok (.aload_n 0, 1)) ∧ (decode cX10_laysTables 1 = .ok (.aload_n 0, 1)) ∧ (decode cX10_laysTables 2 = .ok (.invokevirtual 125, 3)) ∧ (decode cX10_laysTables 5 = .ok (.invokestatic 380, 3)) ∧ (decode cX10_laysTables 8 = .ok (.putfield 386, 3)) ∧ (decode cX10_laysTables 11 = .ok (.aload_n 0, 1)) ∧ (decode cX10_laysTables 12 = .ok (.iconst 1, 1)) ∧ (decode cX10_laysTables 13 = .ok (.aload_n 0, 1)) ∧ (decode cX10_laysTables 14 = .ok (.invokevirtual 125, 3)) ∧ (decode cX10_laysTables 17 = .ok (.ishl, 1)) ∧ (decode cX10_laysTables 18 = .ok (.putfield 389, 3)) ∧ (decode cX10_laysTables 21 = .ok (.iconst 0, 1)) ∧ (decode cX10_laysTables 22 = .ok (.istore_n 1, 1)) ∧ (decode cX10_laysTables 23 = .ok (.iload_n 1, 1)) ∧ (decode cX10_laysTables 24 = .ok (.aload_n 0, 1)) ∧ (decode cX10_laysTables 25 = .ok (.getfield 386, 3)) := by decide +kernel
theorem dX10_laysTables_0 : decode cX10_laysTables 0 = .ok (.aload_n 0, 1) := da9_dX10_laysTables_0.1
theorem dX10_laysTables_1 : decode cX10_laysTables 1 = .ok (.aload_n 0, 1) := da9_dX10_laysTables_0.2.1
theorem dX10_laysTables_2 : decode cX10_laysTables 2 = .ok (.invokevirtual 125, 3) := da9_dX10_laysTables_0.2.2.1
theorem dX10_laysTables_5 : decode cX10_laysTables 5 = .ok (.invokestatic 380, 3) := da9_dX10_laysTables_0.2.2.2.1
theorem dX10_laysTables_8 : decode cX10_laysTables 8 = .ok (.putfield 386, 3) := da9_dX10_laysTables_0.2.2.2.2.1
theorem dX10_laysTables_11 : decode cX10_laysTables 11 = .ok (.aload_n 0, 1) := da9_dX10_laysTables_0.2.2.2.2.2.1
theorem dX10_laysTables_12 : decode cX10_laysTables 12 = .ok (.iconst 1, 1) := da9_dX10_laysTables_0.2.2.2.2.2.2.1
theorem dX10_laysTables_13 : decode cX10_laysTables 13 = .ok (.aload_n 0, 1) := da9_dX10_laysTables_0.2.2.2.2.2.2.2.1
theorem dX10_laysTables_14 : decode cX10_laysTables 14 = .ok (.invokevirtual 125, 3) := da9_dX10_laysTables_0.2.2.2.2.2.2.2.2.1
theorem dX10_laysTables_17 : decode cX10_laysTables 17 = .ok (.ishl, 1) := da9_dX10_laysTables_0.2.2.2.2.2.2.2.2.2.1
theorem dX10_laysTables_18 : decode cX10_laysTables 18 = .ok (.putfield 389, 3) := da9_dX10_laysTables_0.2.2.2.2.2.2.2.2.2.2.1
theorem dX10_laysTables_21 : decode cX10_laysTables 21 = .ok (.iconst 0, 1) := da9_dX10_laysTables_0.2.2.2.2.2.2.2.2.2.2.2.1
theorem dX10_laysTables_22 : decode cX10_laysTables 22 = .ok (.istore_n 1, 1) := da9_dX10_laysTables_0.2.2.2.2.2.2.2.2.2.2.2.2.1
theorem dX10_laysTables_23 : decode cX10_laysTables 23 = .ok (.iload_n 1, 1) := da9_dX10_laysTables_0.2.2.2.2.2.2.2.2.2.2.2.2.2.1
theorem dX10_laysTables_24 : decode cX10_laysTables 24 = .ok (.aload_n 0, 1) := da9_dX10_laysTables_0.2.2.2.2.2.2.2.2.2.2.2.2.2.2.1
theorem dX10_laysTables_25 : decode cX10_laysTables 25 = .ok (.getfield 386, 3) := da9_dX10_laysTables_0.2.2.2.2.2.2.2.2.2.2.2.2.2.2.2
theorem da9_dX10_laysTables_28 : (decode cX10_laysTables 28 = .ok (.if_icmp .ge 91, 3)) ∧ (decode cX10_laysTables 31 = .ok (.aload_n 0, 1)) ∧ (decode cX10_laysTables 32 = .ok (.iload_n 1, 1)) ∧ (decode cX10_laysTables 33 = .ok (.invokevirtual 392, 3)) ∧ (decode cX10_laysTables 36 = .ok (.iconst 1, 1)) ∧ (decode cX10_laysTables 37 = .ok (.istore_n 2, 1)) ∧ (decode cX10_laysTables 38 = .ok (.iload_n 2, 1)) ∧ (decode cX10_laysTables 39 = .ok (.aload_n 0, 1)) ∧ (decode cX10_laysTables 40 = .ok (.invokevirtual 125, 3)) ∧ (decode cX10_laysTables 43 = .ok (.if_icmp .gt 70, 3)) ∧ (decode cX10_laysTables 46 = .ok (.iconst 0, 1)) ∧ (decode cX10_laysTables 47 = .ok (.istore_n 3, 1)) ∧ (decode cX10_laysTables 48 = .ok (.iload_n 3, 1)) ∧ (decode cX10_laysTables 49 = .ok (.aload_n 0, 1)) ∧ (decode cX10_laysTables 50 = .ok (.invokevirtual 125, 3)) ∧ (decode cX10_laysTables 53 = .ok (.if_icmp .ge 39, 3)) := by decide +kernel
theorem dX10_laysTables_28 : decode cX10_laysTables 28 = .ok (.if_icmp .ge 91, 3) := da9_dX10_laysTables_28.1
theorem dX10_laysTables_31 : decode cX10_laysTables 31 = .ok (.aload_n 0, 1) := da9_dX10_laysTables_28.2.1
theorem dX10_laysTables_32 : decode cX10_laysTables 32 = .ok (.iload_n 1, 1) := da9_dX10_laysTables_28.2.2.1
theorem dX10_laysTables_33 : decode cX10_laysTables 33 = .ok (.invokevirtual 392, 3) := da9_dX10_laysTables_28.2.2.2.1
theorem dX10_laysTables_36 : decode cX10_laysTables 36 = .ok (.iconst 1, 1) := da9_dX10_laysTables_28.2.2.2.2.1
theorem dX10_laysTables_37 : decode cX10_laysTables 37 = .ok (.istore_n 2, 1) := da9_dX10_laysTables_28.2.2.2.2.2.1
theorem dX10_laysTables_38 : decode cX10_laysTables 38 = .ok (.iload_n 2, 1) := da9_dX10_laysTables_28.2.2.2.2.2.2.1
theorem dX10_laysTables_39 : decode cX10_laysTables 39 = .ok (.aload_n 0, 1) := da9_dX10_laysTables_28.2.2.2.2.2.2.2.1
theorem dX10_laysTables_40 : decode cX10_laysTables 40 = .ok (.invokevirtual 125, 3) := da9_dX10_laysTables_28.2.2.2.2.2.2.2.2.1
theorem dX10_laysTables_43 : decode cX10_laysTables 43 = .ok (.if_icmp .gt 70, 3) := da9_dX10_laysTables_28.2.2.2.2.2.2.2.2.2.1
theorem dX10_laysTables_46 : decode cX10_laysTables 46 = .ok (.iconst 0, 1) := da9_dX10_laysTables_28.2.2.2.2.2.2.2.2.2.2.1
theorem dX10_laysTables_47 : decode cX10_laysTables 47 = .ok (.istore_n 3, 1) := da9_dX10_laysTables_28.2.2.2.2.2.2.2.2.2.2.2.1
theorem dX10_laysTables_48 : decode cX10_laysTables 48 = .ok (.iload_n 3, 1) := da9_dX10_laysTables_28.2.2.2.2.2.2.2.2.2.2.2.2.1
theorem dX10_laysTables_49 : decode cX10_laysTables 49 = .ok (.aload_n 0, 1) := da9_dX10_laysTables_28.2.2.2.2.2.2.2.2.2.2.2.2.2.1
theorem dX10_laysTables_50 : decode cX10_laysTables 50 = .ok (.invokevirtual 125, 3) := da9_dX10_laysTables_28.2.2.2.2.2.2.2.2.2.2.2.2.2.2.1
theorem dX10_laysTables_53 : decode cX10_laysTables 53 = .ok (.if_icmp .ge 39, 3) := da9_dX10_laysTables_28.2.2.2.2.2.2.2.2.2.2.2.2.2.2.2
theorem da9_dX10_laysTables_56 : (decode cX10_laysTables 56 = .ok (.aload_n 0, 1)) ∧ (decode cX10_laysTables 57 = .ok (.getfield 84, 3)) ∧ (decode cX10_laysTables 60 = .ok (.iload_n 3, 1)) ∧ (decode cX10_laysTables 61 = .ok (.aload_n 0, 1)) ∧ (decode cX10_laysTables 62 = .ok (.getfield 75, 3)) ∧ (decode cX10_laysTables 65 = .ok (.bipush 6, 2)) ∧ (decode cX10_laysTables 67 = .ok (.iload_n 1, 1)) ∧ (decode cX10_laysTables 68 = .ok (.imul, 1)) ∧ (decode cX10_laysTables 69 = .ok (.iload_n 3, 1)) ∧ (decode cX10_laysTables 70 = .ok (.iload_n 2, 1)) ∧ (decode cX10_laysTables 71 = .ok (.if_icmp .ge 11, 3)) ∧ (decode cX10_laysTables 74 = .ok (.iload_n 2, 1)) ∧ (decode cX10_laysTables 75 = .ok (.iconst 1, 1)) ∧ (decode cX10_laysTables 76 = .ok (.isub, 1)) ∧ (decode cX10_laysTables 77 = .ok (.iload_n 3, 1)) ∧ (decode cX10_laysTables 78 = .ok (.isub, 1)) := by decide +kernel
theorem dX10_laysTables_56 : decode cX10_laysTables 56 = .ok (.aload_n 0, 1) := da9_dX10_laysTables_56.1
theorem dX10_laysTables_57 : decode cX10_laysTables 57 = .ok (.getfield 84, 3) := da9_dX10_laysTables_56.2.1
theorem dX10_laysTables_60 : decode cX10_laysTables 60 = .ok (.iload_n 3, 1) := da9_dX10_laysTables_56.2.2.1
theorem dX10_laysTables_61 : decode cX10_laysTables 61 = .ok (.aload_n 0, 1) := da9_dX10_laysTables_56.2.2.2.1
theorem dX10_laysTables_62 : decode cX10_laysTables 62 = .ok (.getfield 75, 3) := da9_dX10_laysTables_56.2.2.2.2.1
theorem dX10_laysTables_65 : decode cX10_laysTables 65 = .ok (.bipush 6, 2) := da9_dX10_laysTables_56.2.2.2.2.2.1
theorem dX10_laysTables_67 : decode cX10_laysTables 67 = .ok (.iload_n 1, 1) := da9_dX10_laysTables_56.2.2.2.2.2.2.1
theorem dX10_laysTables_68 : decode cX10_laysTables 68 = .ok (.imul, 1) := da9_dX10_laysTables_56.2.2.2.2.2.2.2.1
theorem dX10_laysTables_69 : decode cX10_laysTables 69 = .ok (.iload_n 3, 1) := da9_dX10_laysTables_56.2.2.2.2.2.2.2.2.1
theorem dX10_laysTables_70 : decode cX10_laysTables 70 = .ok (.iload_n 2, 1) := da9_dX10_laysTables_56.2.2.2.2.2.2.2.2.2.1
theorem dX10_laysTables_71 : decode cX10_laysTables 71 = .ok (.if_icmp .ge 11, 3) := da9_dX10_laysTables_56.2.2.2.2.2.2.2.2.2.2.1
theorem dX10_laysTables_74 : decode cX10_laysTables 74 = .ok (.iload_n 2, 1) := da9_dX10_laysTables_56.2.2.2.2.2.2.2.2.2.2.2.1
theorem dX10_laysTables_75 : decode cX10_laysTables 75 = .ok (.iconst 1, 1) := da9_dX10_laysTables_56.2.2.2.2.2.2.2.2.2.2.2.2.1
theorem dX10_laysTables_76 : decode cX10_laysTables 76 = .ok (.isub, 1) := da9_dX10_laysTables_56.2.2.2.2.2.2.2.2.2.2.2.2.2.1
theorem dX10_laysTables_77 : decode cX10_laysTables 77 = .ok (.iload_n 3, 1) := da9_dX10_laysTables_56.2.2.2.2.2.2.2.2.2.2.2.2.2.2.1
theorem dX10_laysTables_78 : decode cX10_laysTables 78 = .ok (.isub, 1) := da9_dX10_laysTables_56.2.2.2.2.2.2.2.2.2.2.2.2.2.2.2
theorem da9_dX10_laysTables_79 : (decode cX10_laysTables 79 = .ok (.goto 4, 3)) ∧ (decode cX10_laysTables 82 = .ok (.iload_n 3, 1)) ∧ (decode cX10_laysTables 83 = .ok (.iadd, 1)) ∧ (decode cX10_laysTables 84 = .ok (.iaload, 1)) ∧ (decode cX10_laysTables 85 = .ok (.iastore, 1)) ∧ (decode cX10_laysTables 86 = .ok (.iinc 3 1, 3)) ∧ (decode cX10_laysTables 89 = .ok (.goto (-41), 3)) ∧ (decode cX10_laysTables 92 = .ok (.aload_n 0, 1)) ∧ (decode cX10_laysTables 93 = .ok (.getfield 78, 3)) ∧ (decode cX10_laysTables 96 = .ok (.bipush 7, 2)) ∧ (decode cX10_laysTables 98 = .ok (.iload_n 1, 1)) ∧ (decode cX10_laysTables 99 = .ok (.imul, 1)) ∧ (decode cX10_laysTables 100 = .ok (.iload_n 2, 1)) ∧ (decode cX10_laysTables 101 = .ok (.iadd, 1)) ∧ (decode cX10_laysTables 102 = .ok (.aload_n 0, 1)) ∧ (decode cX10_laysTables 103 = .ok (.invokevirtual 395, 3)) := by decide +kernel
theorem dX10_laysTables_79 : decode cX10_laysTables 79 = .ok (.goto 4, 3) := da9_dX10_laysTables_79.1
theorem dX10_laysTables_82 : decode cX10_laysTables 82 = .ok (.iload_n 3, 1) := da9_dX10_laysTables_79.2.1
theorem dX10_laysTables_83 : decode cX10_laysTables 83 = .ok (.iadd, 1) := da9_dX10_laysTables_79.2.2.1
theorem dX10_laysTables_84 : decode cX10_laysTables 84 = .ok (.iaload, 1) := da9_dX10_laysTables_79.2.2.2.1
theorem dX10_laysTables_85 : decode cX10_laysTables 85 = .ok (.iastore, 1) := da9_dX10_laysTables_79.2.2.2.2.1
theorem dX10_laysTables_86 : decode cX10_laysTables 86 = .ok (.iinc 3 1, 3) := da9_dX10_laysTables_79.2.2.2.2.2.1
theorem dX10_laysTables_89 : decode cX10_laysTables 89 = .ok (.goto (-41), 3) := da9_dX10_laysTables_79.2.2.2.2.2.2.1
theorem dX10_laysTables_92 : decode cX10_laysTables 92 = .ok (.aload_n 0, 1) := da9_dX10_laysTables_79.2.2.2.2.2.2.2.1
theorem dX10_laysTables_93 : decode cX10_laysTables 93 = .ok (.getfield 78, 3) := da9_dX10_laysTables_79.2.2.2.2.2.2.2.2.1
theorem dX10_laysTables_96 : decode cX10_laysTables 96 = .ok (.bipush 7, 2) := da9_dX10_laysTables_79.2.2.2.2.2.2.2.2.2.1
theorem dX10_laysTables_98 : decode cX10_laysTables 98 = .ok (.iload_n 1, 1) := da9_dX10_laysTables_79.2.2.2.2.2.2.2.2.2.2.1
theorem dX10_laysTables_99 : decode cX10_laysTables 99 = .ok (.imul, 1) := da9_dX10_laysTables_79.2.2.2.2.2.2.2.2.2.2.2.1
theorem dX10_laysTables_100 : decode cX10_laysTables 100 = .ok (.iload_n 2, 1) := da9_dX10_laysTables_79.2.2.2.2.2.2.2.2.2.2.2.2.1
theorem dX10_laysTables_101 : decode cX10_laysTables 101 = .ok (.iadd, 1) := da9_dX10_laysTables_79.2.2.2.2.2.2.2.2.2.2.2.2.2.1
theorem dX10_laysTables_102 : decode cX10_laysTables 102 = .ok (.aload_n 0, 1) := da9_dX10_laysTables_79.2.2.2.2.2.2.2.2.2.2.2.2.2.2.1
theorem dX10_laysTables_103 : decode cX10_laysTables 103 = .ok (.invokevirtual 395, 3) := da9_dX10_laysTables_79.2.2.2.2.2.2.2.2.2.2.2.2.2.2.2
theorem da9_dX10_laysTables_106 : (decode cX10_laysTables 106 = .ok (.iastore, 1)) ∧ (decode cX10_laysTables 107 = .ok (.iinc 2 1, 3)) ∧ (decode cX10_laysTables 110 = .ok (.goto (-72), 3)) ∧ (decode cX10_laysTables 113 = .ok (.iinc 1 1, 3)) ∧ (decode cX10_laysTables 116 = .ok (.goto (-93), 3)) ∧ (decode cX10_laysTables 119 = .ok (.iconst 0, 1)) ∧ (decode cX10_laysTables 120 = .ok (.istore_n 1, 1)) ∧ (decode cX10_laysTables 121 = .ok (.iload_n 1, 1)) ∧ (decode cX10_laysTables 122 = .ok (.aload_n 0, 1)) ∧ (decode cX10_laysTables 123 = .ok (.getfield 389, 3)) ∧ (decode cX10_laysTables 126 = .ok (.if_icmp .ge 42, 3)) ∧ (decode cX10_laysTables 129 = .ok (.iconst 1, 1)) ∧ (decode cX10_laysTables 130 = .ok (.istore_n 2, 1)) ∧ (decode cX10_laysTables 131 = .ok (.iload_n 2, 1)) ∧ (decode cX10_laysTables 132 = .ok (.aload_n 0, 1)) ∧ (decode cX10_laysTables 133 = .ok (.invokevirtual 125, 3)) := by decide +kernel
theorem dX10_laysTables_106 : decode cX10_laysTables 106 = .ok (.iastore, 1) := da9_dX10_laysTables_106.1
theorem dX10_laysTables_107 : decode cX10_laysTables 107 = .ok (.iinc 2 1, 3) := da9_dX10_laysTables_106.2.1
theorem dX10_laysTables_110 : decode cX10_laysTables 110 = .ok (.goto (-72), 3) := da9_dX10_laysTables_106.2.2.1
theorem dX10_laysTables_113 : decode cX10_laysTables 113 = .ok (.iinc 1 1, 3) := da9_dX10_laysTables_106.2.2.2.1
theorem dX10_laysTables_116 : decode cX10_laysTables 116 = .ok (.goto (-93), 3) := da9_dX10_laysTables_106.2.2.2.2.1
theorem dX10_laysTables_119 : decode cX10_laysTables 119 = .ok (.iconst 0, 1) := da9_dX10_laysTables_106.2.2.2.2.2.1
theorem dX10_laysTables_120 : decode cX10_laysTables 120 = .ok (.istore_n 1, 1) := da9_dX10_laysTables_106.2.2.2.2.2.2.1
theorem dX10_laysTables_121 : decode cX10_laysTables 121 = .ok (.iload_n 1, 1) := da9_dX10_laysTables_106.2.2.2.2.2.2.2.1
theorem dX10_laysTables_122 : decode cX10_laysTables 122 = .ok (.aload_n 0, 1) := da9_dX10_laysTables_106.2.2.2.2.2.2.2.2.1
theorem dX10_laysTables_123 : decode cX10_laysTables 123 = .ok (.getfield 389, 3) := da9_dX10_laysTables_106.2.2.2.2.2.2.2.2.2.1
theorem dX10_laysTables_126 : decode cX10_laysTables 126 = .ok (.if_icmp .ge 42, 3) := da9_dX10_laysTables_106.2.2.2.2.2.2.2.2.2.2.1
theorem dX10_laysTables_129 : decode cX10_laysTables 129 = .ok (.iconst 1, 1) := da9_dX10_laysTables_106.2.2.2.2.2.2.2.2.2.2.2.1
theorem dX10_laysTables_130 : decode cX10_laysTables 130 = .ok (.istore_n 2, 1) := da9_dX10_laysTables_106.2.2.2.2.2.2.2.2.2.2.2.2.1
theorem dX10_laysTables_131 : decode cX10_laysTables 131 = .ok (.iload_n 2, 1) := da9_dX10_laysTables_106.2.2.2.2.2.2.2.2.2.2.2.2.2.1
theorem dX10_laysTables_132 : decode cX10_laysTables 132 = .ok (.aload_n 0, 1) := da9_dX10_laysTables_106.2.2.2.2.2.2.2.2.2.2.2.2.2.2.1
theorem dX10_laysTables_133 : decode cX10_laysTables 133 = .ok (.invokevirtual 125, 3) := da9_dX10_laysTables_106.2.2.2.2.2.2.2.2.2.2.2.2.2.2.2
theorem da9_dX10_laysTables_136 : (decode cX10_laysTables 136 = .ok (.if_icmp .gt 26, 3)) ∧ (decode cX10_laysTables 139 = .ok (.aload_n 0, 1)) ∧ (decode cX10_laysTables 140 = .ok (.getfield 81, 3)) ∧ (decode cX10_laysTables 143 = .ok (.bipush 7, 2)) ∧ (decode cX10_laysTables 145 = .ok (.iload_n 1, 1)) ∧ (decode cX10_laysTables 146 = .ok (.imul, 1)) ∧ (decode cX10_laysTables 147 = .ok (.iload_n 2, 1)) ∧ (decode cX10_laysTables 148 = .ok (.iadd, 1)) ∧ (decode cX10_laysTables 149 = .ok (.aload_n 0, 1)) ∧ (decode cX10_laysTables 150 = .ok (.iload_n 1, 1)) ∧ (decode cX10_laysTables 151 = .ok (.iload_n 2, 1)) ∧ (decode cX10_laysTables 152 = .ok (.invokevirtual 398, 3)) ∧ (decode cX10_laysTables 155 = .ok (.iastore, 1)) ∧ (decode cX10_laysTables 156 = .ok (.iinc 2 1, 3)) ∧ (decode cX10_laysTables 159 = .ok (.goto (-28), 3)) ∧ (decode cX10_laysTables 162 = .ok (.iinc 1 1, 3)) := by decide +kernel
theorem dX10_laysTables_136 : decode cX10_laysTables 136 = .ok (.if_icmp .gt 26, 3) := da9_dX10_laysTables_136.1
theorem dX10_laysTables_139 : decode cX10_laysTables 139 = .ok (.aload_n 0, 1) := da9_dX10_laysTables_136.2.1
theorem dX10_laysTables_140 : decode cX10_laysTables 140 = .ok (.getfield 81, 3) := da9_dX10_laysTables_136.2.2.1
theorem dX10_laysTables_143 : decode cX10_laysTables 143 = .ok (.bipush 7, 2) := da9_dX10_laysTables_136.2.2.2.1
theorem dX10_laysTables_145 : decode cX10_laysTables 145 = .ok (.iload_n 1, 1) := da9_dX10_laysTables_136.2.2.2.2.1
theorem dX10_laysTables_146 : decode cX10_laysTables 146 = .ok (.imul, 1) := da9_dX10_laysTables_136.2.2.2.2.2.1
theorem dX10_laysTables_147 : decode cX10_laysTables 147 = .ok (.iload_n 2, 1) := da9_dX10_laysTables_136.2.2.2.2.2.2.1
theorem dX10_laysTables_148 : decode cX10_laysTables 148 = .ok (.iadd, 1) := da9_dX10_laysTables_136.2.2.2.2.2.2.2.1
theorem dX10_laysTables_149 : decode cX10_laysTables 149 = .ok (.aload_n 0, 1) := da9_dX10_laysTables_136.2.2.2.2.2.2.2.2.1
theorem dX10_laysTables_150 : decode cX10_laysTables 150 = .ok (.iload_n 1, 1) := da9_dX10_laysTables_136.2.2.2.2.2.2.2.2.2.1
theorem dX10_laysTables_151 : decode cX10_laysTables 151 = .ok (.iload_n 2, 1) := da9_dX10_laysTables_136.2.2.2.2.2.2.2.2.2.2.1
theorem dX10_laysTables_152 : decode cX10_laysTables 152 = .ok (.invokevirtual 398, 3) := da9_dX10_laysTables_136.2.2.2.2.2.2.2.2.2.2.2.1
theorem dX10_laysTables_155 : decode cX10_laysTables 155 = .ok (.iastore, 1) := da9_dX10_laysTables_136.2.2.2.2.2.2.2.2.2.2.2.2.1
theorem dX10_laysTables_156 : decode cX10_laysTables 156 = .ok (.iinc 2 1, 3) := da9_dX10_laysTables_136.2.2.2.2.2.2.2.2.2.2.2.2.2.1
theorem dX10_laysTables_159 : decode cX10_laysTables 159 = .ok (.goto (-28), 3) := da9_dX10_laysTables_136.2.2.2.2.2.2.2.2.2.2.2.2.2.2.1
theorem dX10_laysTables_162 : decode cX10_laysTables 162 = .ok (.iinc 1 1, 3) := da9_dX10_laysTables_136.2.2.2.2.2.2.2.2.2.2.2.2.2.2.2
theorem da9_dX10_laysTables_165 : (decode cX10_laysTables 165 = .ok (.goto (-44), 3)) ∧ (decode cX10_laysTables 168 = .ok (.return_, 1)) := by decide +kernel
theorem dX10_laysTables_165 : decode cX10_laysTables 165 = .ok (.goto (-44), 3) := da9_dX10_laysTables_165.1
theorem dX10_laysTables_168 : decode cX10_laysTables 168 = .ok (.return_, 1) := da9_dX10_laysTables_165.2
theorem da9_dX10_behind_0 : (decode cX10_behind 0 = .ok (.bipush 64, 2)) ∧ (decode cX10_behind 2 = .ok (.aload_n 0, 1)) ∧ (decode cX10_behind 3 = .ok (.getfield 78, 3)) ∧ (decode cX10_behind 6 = .ok (.bipush 7, 2)) ∧ (decode cX10_behind 8 = .ok (.iload_n 1, 1)) ∧ (decode cX10_behind 9 = .ok (.bipush 64, 2)) ∧ (decode cX10_behind 11 = .ok (.idiv, 1)) ∧ (decode cX10_behind 12 = .ok (.imul, 1)) ∧ (decode cX10_behind 13 = .ok (.iload_n 2, 1)) ∧ (decode cX10_behind 14 = .ok (.iadd, 1)) ∧ (decode cX10_behind 15 = .ok (.iaload, 1)) ∧ (decode cX10_behind 16 = .ok (.imul, 1)) ∧ (decode cX10_behind 17 = .ok (.aload_n 0, 1)) ∧ (decode cX10_behind 18 = .ok (.getfield 81, 3)) ∧ (decode cX10_behind 21 = .ok (.bipush 7, 2)) ∧ (decode cX10_behind 23 = .ok (.iload_n 1, 1)) := by decide +kernel
theorem dX10_behind_0 : decode cX10_behind 0 = .ok (.bipush 64, 2) := da9_dX10_behind_0.1
theorem dX10_behind_2 : decode cX10_behind 2 = .ok (.aload_n 0, 1) := da9_dX10_behind_0.2.1
theorem dX10_behind_3 : decode cX10_behind 3 = .ok (.getfield 78, 3) := da9_dX10_behind_0.2.2.1
theorem dX10_behind_6 : decode cX10_behind 6 = .ok (.bipush 7, 2) := da9_dX10_behind_0.2.2.2.1
theorem dX10_behind_8 : decode cX10_behind 8 = .ok (.iload_n 1, 1) := da9_dX10_behind_0.2.2.2.2.1
theorem dX10_behind_9 : decode cX10_behind 9 = .ok (.bipush 64, 2) := da9_dX10_behind_0.2.2.2.2.2.1
theorem dX10_behind_11 : decode cX10_behind 11 = .ok (.idiv, 1) := da9_dX10_behind_0.2.2.2.2.2.2.1
theorem dX10_behind_12 : decode cX10_behind 12 = .ok (.imul, 1) := da9_dX10_behind_0.2.2.2.2.2.2.2.1
theorem dX10_behind_13 : decode cX10_behind 13 = .ok (.iload_n 2, 1) := da9_dX10_behind_0.2.2.2.2.2.2.2.2.1
theorem dX10_behind_14 : decode cX10_behind 14 = .ok (.iadd, 1) := da9_dX10_behind_0.2.2.2.2.2.2.2.2.2.1
theorem dX10_behind_15 : decode cX10_behind 15 = .ok (.iaload, 1) := da9_dX10_behind_0.2.2.2.2.2.2.2.2.2.2.1
theorem dX10_behind_16 : decode cX10_behind 16 = .ok (.imul, 1) := da9_dX10_behind_0.2.2.2.2.2.2.2.2.2.2.2.1
theorem dX10_behind_17 : decode cX10_behind 17 = .ok (.aload_n 0, 1) := da9_dX10_behind_0.2.2.2.2.2.2.2.2.2.2.2.2.1
theorem dX10_behind_18 : decode cX10_behind 18 = .ok (.getfield 81, 3) := da9_dX10_behind_0.2.2.2.2.2.2.2.2.2.2.2.2.2.1
theorem dX10_behind_21 : decode cX10_behind 21 = .ok (.bipush 7, 2) := da9_dX10_behind_0.2.2.2.2.2.2.2.2.2.2.2.2.2.2.1
theorem dX10_behind_23 : decode cX10_behind 23 = .ok (.iload_n 1, 1) := da9_dX10_behind_0.2.2.2.2.2.2.2.2.2.2.2.2.2.2.2
theorem da9_dX10_behind_24 : (decode cX10_behind 24 = .ok (.bipush 64, 2)) ∧ (decode cX10_behind 26 = .ok (.irem, 1)) ∧ (decode cX10_behind 27 = .ok (.imul, 1)) ∧ (decode cX10_behind 28 = .ok (.iload_n 2, 1)) ∧ (decode cX10_behind 29 = .ok (.iadd, 1)) ∧ (decode cX10_behind 30 = .ok (.iaload, 1)) ∧ (decode cX10_behind 31 = .ok (.iadd, 1)) ∧ (decode cX10_behind 32 = .ok (.ireturn, 1)) := by decide +kernel
theorem dX10_behind_24 : decode cX10_behind 24 = .ok (.bipush 64, 2) := da9_dX10_behind_24.1
theorem dX10_behind_26 : decode cX10_behind 26 = .ok (.irem, 1) := da9_dX10_behind_24.2.1
theorem dX10_behind_27 : decode cX10_behind 27 = .ok (.imul, 1) := da9_dX10_behind_24.2.2.1
theorem dX10_behind_28 : decode cX10_behind 28 = .ok (.iload_n 2, 1) := da9_dX10_behind_24.2.2.2.1
theorem dX10_behind_29 : decode cX10_behind 29 = .ok (.iadd, 1) := da9_dX10_behind_24.2.2.2.2.1
theorem dX10_behind_30 : decode cX10_behind 30 = .ok (.iaload, 1) := da9_dX10_behind_24.2.2.2.2.2.1
theorem dX10_behind_31 : decode cX10_behind 31 = .ok (.iadd, 1) := da9_dX10_behind_24.2.2.2.2.2.2.1
theorem dX10_behind_32 : decode cX10_behind 32 = .ok (.ireturn, 1) := da9_dX10_behind_24.2.2.2.2.2.2.2
set_option maxRecDepth 20000 in
theorem ggX10_rankOf_X10_size : GoodIn wsX10_rankOf wsX10_size := wd_c vW10_ok mvW10_24
set_option maxRecDepth 20000 in
theorem gX10_rankOf_X10_size : GoodIn wsX10_rankOf (wsV RX10 125 RX10 yX10_size wsX10_size) := goodIn_app (wd_l vW10_ok _ pvW10_144) ggX10_rankOf_X10_size
set_option maxRecDepth 20000 in
theorem ggX10_rankOf_X10_lessThan : GoodIn wsX10_rankOf wsX10_lessThan := wd_c vW10_ok mvW10_106
set_option maxRecDepth 20000 in
theorem gX10_rankOf_X10_lessThan : GoodIn wsX10_rankOf (wsV RX10 401 RX10 yX10_lessThan wsX10_lessThan) := goodIn_app (wd_l vW10_ok _ pvW10_212) ggX10_rankOf_X10_lessThan
theorem da9_dX10_rankOf_0 : (decode cX10_rankOf 0 = .ok (.iconst (-1), 1)) ∧ (decode cX10_rankOf 1 = .ok (.istore_n 2, 1)) ∧ (decode cX10_rankOf 2 = .ok (.iconst 0, 1)) ∧ (decode cX10_rankOf 3 = .ok (.istore_n 3, 1)) ∧ (decode cX10_rankOf 4 = .ok (.iload_n 3, 1)) ∧ (decode cX10_rankOf 5 = .ok (.aload_n 0, 1)) ∧ (decode cX10_rankOf 6 = .ok (.invokevirtual 125, 3)) ∧ (decode cX10_rankOf 9 = .ok (.if_icmp .ge 38, 3)) ∧ (decode cX10_rankOf 12 = .ok (.aload_n 0, 1)) ∧ (decode cX10_rankOf 13 = .ok (.aload_n 0, 1)) ∧ (decode cX10_rankOf 14 = .ok (.getfield 28, 3)) ∧ (decode cX10_rankOf 17 = .ok (.iconst 0, 1)) ∧ (decode cX10_rankOf 18 = .ok (.iload_n 3, 1)) ∧ (decode cX10_rankOf 19 = .ok (.iadd, 1)) ∧ (decode cX10_rankOf 20 = .ok (.iaload, 1)) ∧ (decode cX10_rankOf 21 = .ok (.invokevirtual 401, 3)) := by decide +kernel
theorem dX10_rankOf_0 : decode cX10_rankOf 0 = .ok (.iconst (-1), 1) := da9_dX10_rankOf_0.1
theorem dX10_rankOf_1 : decode cX10_rankOf 1 = .ok (.istore_n 2, 1) := da9_dX10_rankOf_0.2.1
theorem dX10_rankOf_2 : decode cX10_rankOf 2 = .ok (.iconst 0, 1) := da9_dX10_rankOf_0.2.2.1
theorem dX10_rankOf_3 : decode cX10_rankOf 3 = .ok (.istore_n 3, 1) := da9_dX10_rankOf_0.2.2.2.1
theorem dX10_rankOf_4 : decode cX10_rankOf 4 = .ok (.iload_n 3, 1) := da9_dX10_rankOf_0.2.2.2.2.1
theorem dX10_rankOf_5 : decode cX10_rankOf 5 = .ok (.aload_n 0, 1) := da9_dX10_rankOf_0.2.2.2.2.2.1
theorem dX10_rankOf_6 : decode cX10_rankOf 6 = .ok (.invokevirtual 125, 3) := da9_dX10_rankOf_0.2.2.2.2.2.2.1
theorem dX10_rankOf_9 : decode cX10_rankOf 9 = .ok (.if_icmp .ge 38, 3) := da9_dX10_rankOf_0.2.2.2.2.2.2.2.1
theorem dX10_rankOf_12 : decode cX10_rankOf 12 = .ok (.aload_n 0, 1) := da9_dX10_rankOf_0.2.2.2.2.2.2.2.2.1
theorem dX10_rankOf_13 : decode cX10_rankOf 13 = .ok (.aload_n 0, 1) := da9_dX10_rankOf_0.2.2.2.2.2.2.2.2.2.1
theorem dX10_rankOf_14 : decode cX10_rankOf 14 = .ok (.getfield 28, 3) := da9_dX10_rankOf_0.2.2.2.2.2.2.2.2.2.2.1
theorem dX10_rankOf_17 : decode cX10_rankOf 17 = .ok (.iconst 0, 1) := da9_dX10_rankOf_0.2.2.2.2.2.2.2.2.2.2.2.1
theorem dX10_rankOf_18 : decode cX10_rankOf 18 = .ok (.iload_n 3, 1) := da9_dX10_rankOf_0.2.2.2.2.2.2.2.2.2.2.2.2.1
theorem dX10_rankOf_19 : decode cX10_rankOf 19 = .ok (.iadd, 1) := da9_dX10_rankOf_0.2.2.2.2.2.2.2.2.2.2.2.2.2.1
theorem dX10_rankOf_20 : decode cX10_rankOf 20 = .ok (.iaload, 1) := da9_dX10_rankOf_0.2.2.2.2.2.2.2.2.2.2.2.2.2.2.1
theorem dX10_rankOf_21 : decode cX10_rankOf 21 = .ok (.invokevirtual 401, 3) := da9_dX10_rankOf_0.2.2.2.2.2.2.2.2.2.2.2.2.2.2.2
theorem da9_dX10_rankOf_24 : (decode cX10_rankOf 24 = .ok (.iload_n 1, 1)) ∧ (decode cX10_rankOf 25 = .ok (.if_icmp .ne 14, 3)) ∧ (decode cX10_rankOf 28 = .ok (.aload_n 0, 1)) ∧ (decode cX10_rankOf 29 = .ok (.getfield 28, 3)) ∧ (decode cX10_rankOf 32 = .ok (.iconst 0, 1)) ∧ (decode cX10_rankOf 33 = .ok (.iload_n 3, 1)) ∧ (decode cX10_rankOf 34 = .ok (.iadd, 1)) ∧ (decode cX10_rankOf 35 = .ok (.iaload, 1)) ∧ (decode cX10_rankOf 36 = .ok (.goto 4, 3)) ∧ (decode cX10_rankOf 39 = .ok (.iload_n 2, 1)) ∧ (decode cX10_rankOf 40 = .ok (.istore_n 2, 1)) ∧ (decode cX10_rankOf 41 = .ok (.iinc 3 1, 3)) ∧ (decode cX10_rankOf 44 = .ok (.goto (-40), 3)) ∧ (decode cX10_rankOf 47 = .ok (.iload_n 2, 1)) ∧ (decode cX10_rankOf 48 = .ok (.ireturn, 1)) := by decide +kernel
theorem dX10_rankOf_24 : decode cX10_rankOf 24 = .ok (.iload_n 1, 1) := da9_dX10_rankOf_24.1
theorem dX10_rankOf_25 : decode cX10_rankOf 25 = .ok (.if_icmp .ne 14, 3) := da9_dX10_rankOf_24.2.1
theorem dX10_rankOf_28 : decode cX10_rankOf 28 = .ok (.aload_n 0, 1) := da9_dX10_rankOf_24.2.2.1
theorem dX10_rankOf_29 : decode cX10_rankOf 29 = .ok (.getfield 28, 3) := da9_dX10_rankOf_24.2.2.2.1
theorem dX10_rankOf_32 : decode cX10_rankOf 32 = .ok (.iconst 0, 1) := da9_dX10_rankOf_24.2.2.2.2.1
theorem dX10_rankOf_33 : decode cX10_rankOf 33 = .ok (.iload_n 3, 1) := da9_dX10_rankOf_24.2.2.2.2.2.1
theorem dX10_rankOf_34 : decode cX10_rankOf 34 = .ok (.iadd, 1) := da9_dX10_rankOf_24.2.2.2.2.2.2.1
theorem dX10_rankOf_35 : decode cX10_rankOf 35 = .ok (.iaload, 1) := da9_dX10_rankOf_24.2.2.2.2.2.2.2.1
theorem dX10_rankOf_36 : decode cX10_rankOf 36 = .ok (.goto 4, 3) := da9_dX10_rankOf_24.2.2.2.2.2.2.2.2.1
theorem dX10_rankOf_39 : decode cX10_rankOf 39 = .ok (.iload_n 2, 1) := da9_dX10_rankOf_24.2.2.2.2.2.2.2.2.2.1
theorem dX10_rankOf_40 : decode cX10_rankOf 40 = .ok (.istore_n 2, 1) := da9_dX10_rankOf_24.2.2.2.2.2.2.2.2.2.2.1
theorem dX10_rankOf_41 : decode cX10_rankOf 41 = .ok (.iinc 3 1, 3) := da9_dX10_rankOf_24.2.2.2.2.2.2.2.2.2.2.2.1
theorem dX10_rankOf_44 : decode cX10_rankOf 44 = .ok (.goto (-40), 3) := da9_dX10_rankOf_24.2.2.2.2.2.2.2.2.2.2.2.2.1
theorem dX10_rankOf_47 : decode cX10_rankOf 47 = .ok (.iload_n 2, 1) := da9_dX10_rankOf_24.2.2.2.2.2.2.2.2.2.2.2.2.2.1
theorem dX10_rankOf_48 : decode cX10_rankOf 48 = .ok (.ireturn, 1) := da9_dX10_rankOf_24.2.2.2.2.2.2.2.2.2.2.2.2.2.2
end
section
theorem u9_wsX10_numberOf_X10 : ∀ w ∈ u_ws RX10 TX10 56, w ∈ wsX10_numberOf := fun w h => List.mem_cons_of_mem _ (vW10_wsX100 w h)
theorem f9_wsX10_numberOf_177 : (Cond.fieldLink RX10 84 "TurnedFloorsModel" "line" "[I") ∈ wsX10_numberOf := List.mem_cons_of_mem _ mvW10_349
theorem u9_wsX10_laysOrder_X10 : ∀ w ∈ u_ws RX10 TX10 56, w ∈ wsX10_laysOrder := fun w h => List.mem_cons_of_mem _ (vW10_wsX100 w h)
theorem f9_wsX10_laysOrder_179 : (Cond.fieldLink RX10 75 "TurnedFloorsModel" "rankAt" "[I") ∈ wsX10_laysOrder := List.mem_cons_of_mem _ mvW10_350
theorem u9_wsX10_laysTables_X10 : ∀ w ∈ u_ws RX10 TX10 56, w ∈ wsX10_laysTables := fun w h => List.mem_cons_of_mem _ (vW10_wsX100 w h)
theorem f9_wsX10_laysTables_181 : (Cond.fieldLink RX10 81 "TurnedFloorsModel" "headsBy" "[I") ∈ wsX10_laysTables := List.mem_cons_of_mem _ mvW10_352
theorem f9_wsX10_laysTables_182 : (Cond.fieldLink RX10 389 "TurnedFloorsModel" "headMany" "I") ∈ wsX10_laysTables := List.mem_cons_of_mem _ mvW10_348
theorem f9_wsX10_laysTables_183 : (Cond.fieldLink RX10 78 "TurnedFloorsModel" "orderBy" "[I") ∈ wsX10_laysTables := List.mem_cons_of_mem _ mvW10_351
theorem f9_wsX10_laysTables_184 : (Cond.fieldLink RX10 84 "TurnedFloorsModel" "line" "[I") ∈ wsX10_laysTables := List.mem_cons_of_mem _ mvW10_349
theorem f9_wsX10_laysTables_185 : (Cond.fieldLink RX10 75 "TurnedFloorsModel" "rankAt" "[I") ∈ wsX10_laysTables := List.mem_cons_of_mem _ mvW10_350
theorem f9_wsX10_laysTables_186 : (Cond.fieldLink RX10 386 "TurnedFloorsModel" "orderMany" "I") ∈ wsX10_laysTables := List.mem_cons_of_mem _ mvW10_335
theorem u9_wsX10_behind_X10 : ∀ w ∈ u_ws RX10 TX10 56, w ∈ wsX10_behind := fun w h => List.mem_cons_of_mem _ (vW10_wsX100 w h)
theorem f9_wsX10_behind_188 : (Cond.fieldLink RX10 78 "TurnedFloorsModel" "orderBy" "[I") ∈ wsX10_behind := List.mem_cons_of_mem _ mvW10_351
theorem f9_wsX10_behind_189 : (Cond.fieldLink RX10 81 "TurnedFloorsModel" "headsBy" "[I") ∈ wsX10_behind := List.mem_cons_of_mem _ mvW10_352
theorem u9_wsX10_rankOf_X10 : ∀ w ∈ u_ws RX10 TX10 56, w ∈ wsX10_rankOf := fun w h => List.mem_cons_of_mem _ (vW10_wsX100 w h)
theorem f9_wsX10_rankOf_191 : (Cond.fieldLink RX10 28 "TurnedFloorsModel" "kept" "[I") ∈ wsX10_rankOf := List.mem_cons_of_mem _ mvW10_20
set_option maxHeartbeats 4000000 in
set_option maxRecDepth 100000 in
theorem WX10_numberOf_50 {p : Program} {l : Launch} {e : Env} {s : State} {m : MethodId} {args : Array Value} {below : List Frame} {meth : Method} {c : Code} {D : va_G} {ty : Nat → ClassId} {eo : Nat → Nat} {A : Nat → Prop} {ad : Nat → Nat} {o1 : Int32} {o2 : dS} (C : dc_C p s m args meth c cX10_numberOf (some .int) 5 RX10 wsX10_numberOf D ty eo A) {k4 : dS → Int32 → Int32 → Option (Int32 × dS)} {k19 : dS → Int32 → Int32 → Int32 → Int32 → Option (Int32 × dS)} (hk4 : ∀ (q : dS) (x1 : Int32) (x2 : Int32) (H : Heap) (locs : List Loc) (ls : Array Slot), k4 q x1 x2 = some (o1, o2) → va_P D vwCl (w10 ty ad q) H → va_D A (w10 ty ad q) → va_S A s.heap H locs → lv_has ls 5 [(0, .ref (ad 0)), (1, .int x1), (2, .int x2)] → W p l e ({ frames := 1, cells := 0, slots := 0, locals := 20 } : Room) s m args below meth c H locs 0 0 (MQ below (va_Qi (fun (r : Int32) (u : va_W) => o1 = r ∧ w10 ty ad o2 = u) (kz_B D ty A) A) args s 0 0 A) (F0 m 4 ls [])) (hk19 : ∀ (q : dS) (x1 : Int32) (x2 : Int32) (x3 : Int32) (x4 : Int32) (H : Heap) (locs : List Loc) (ls : Array Slot), k19 q x1 x2 x3 x4 = some (o1, o2) → va_P D vwCl (w10 ty ad q) H → va_D A (w10 ty ad q) → va_S A s.heap H locs → lv_has ls 5 [(0, .ref (ad 0)), (1, .int x1), (2, .int x2), (3, .int x3), (4, .int x4)] → W p l e ({ frames := 1, cells := 0, slots := 0, locals := 20 } : Room) s m args below meth c H locs 0 0 (MQ below (va_Qi (fun (r : Int32) (u : va_W) => o1 = r ∧ w10 ty ad o2 = u) (kz_B D ty A) A) args s 0 0 A) (F0 m 19 ls [])) (q : dS) (x1 : Int32) (x2 : Int32) (x4 : Int32) (y0 : Int32) (y1 : Int32) (H : Heap) (locs : List Loc) (ls : Array Slot) (h : zX10_numberOf_50 k4 k19 q x1 x2 x4 y0 y1 = some (o1, o2)) (hP : va_P D vwCl (w10 ty ad q) H) (hD : va_D A (w10 ty ad q)) (hS : va_S A s.heap H locs) (hl : lv_has ls 5 [(0, .ref (ad 0)), (1, .int x1), (2, .int x2), (4, .int x4)]) : W p l e ({ frames := 1, cells := 0, slots := 0, locals := 20 } : Room) s m args below meth c H locs 0 0 (MQ below (va_Qi (fun (r : Int32) (u : va_W) => o1 = r ∧ w10 ty ad o2 = u) (kz_B D ty A) A) args s 0 0 A) (F0 m 50 ls [.int y0, .int y1]) := by
  have C0 := C
  obtain ⟨hx, hb, hr, hts, hown, hlocks, hml, hK, hN, hE, hA⟩ := C
  unfold zX10_numberOf_50 at h
  refine lv_iadd hx hb dX10_numberOf_50 ?_
  refine lv_istore_n (lv' := [(3, .int (y1 + y0)), (0, .ref (ad 0)), (1, .int x1), (2, .int x2), (4, .int x4)]) hx hb dX10_numberOf_51 rfl hl (by decide) rfl (fun ls hl => ?_)
  refine lv_iinc (v := x4 + 1) (lv' := [(4, .int (x4 + 1)), (3, .int (y1 + y0)), (0, .ref (ad 0)), (1, .int x1), (2, .int x2)]) hx hb dX10_numberOf_52 hl (k := 4) rfl rfl (by decide) rfl (fun ls hl => ?_)
  refine lv_goto (tgt := 19) hx hb dX10_numberOf_55 (by decide) ?_
  exact hk19 _ _ _ _ _ _ _ _ h hP hD hS (lv_sub hl [2, 3, 4, 1, 0] rfl)
set_option maxHeartbeats 4000000 in
set_option maxRecDepth 100000 in
theorem WX10_numberOf_19b {p : Program} {l : Launch} {e : Env} {s : State} {m : MethodId} {args : Array Value} {below : List Frame} {meth : Method} {c : Code} {D : va_G} {ty : Nat → ClassId} {eo : Nat → Nat} {A : Nat → Prop} {ad : Nat → Nat} {o1 : Int32} {o2 : dS} (C : dc_C p s m args meth c cX10_numberOf (some .int) 5 RX10 wsX10_numberOf D ty eo A) {k4 : dS → Int32 → Int32 → Option (Int32 × dS)} {k19 : dS → Int32 → Int32 → Int32 → Int32 → Option (Int32 × dS)} (hk4 : ∀ (q : dS) (x1 : Int32) (x2 : Int32) (H : Heap) (locs : List Loc) (ls : Array Slot), k4 q x1 x2 = some (o1, o2) → va_P D vwCl (w10 ty ad q) H → va_D A (w10 ty ad q) → va_S A s.heap H locs → lv_has ls 5 [(0, .ref (ad 0)), (1, .int x1), (2, .int x2)] → W p l e ({ frames := 1, cells := 0, slots := 0, locals := 20 } : Room) s m args below meth c H locs 0 0 (MQ below (va_Qi (fun (r : Int32) (u : va_W) => o1 = r ∧ w10 ty ad o2 = u) (kz_B D ty A) A) args s 0 0 A) (F0 m 4 ls [])) (hk19 : ∀ (q : dS) (x1 : Int32) (x2 : Int32) (x3 : Int32) (x4 : Int32) (H : Heap) (locs : List Loc) (ls : Array Slot), k19 q x1 x2 x3 x4 = some (o1, o2) → va_P D vwCl (w10 ty ad q) H → va_D A (w10 ty ad q) → va_S A s.heap H locs → lv_has ls 5 [(0, .ref (ad 0)), (1, .int x1), (2, .int x2), (3, .int x3), (4, .int x4)] → W p l e ({ frames := 1, cells := 0, slots := 0, locals := 20 } : Room) s m args below meth c H locs 0 0 (MQ below (va_Qi (fun (r : Int32) (u : va_W) => o1 = r ∧ w10 ty ad o2 = u) (kz_B D ty A) A) args s 0 0 A) (F0 m 19 ls [])) (q : dS) (x1 : Int32) (x2 : Int32) (x3 : Int32) (x4 : Int32) (H : Heap) (locs : List Loc) (ls : Array Slot) (h : zX10_numberOf_19b k4 k19 q x1 x2 x3 x4 = some (o1, o2)) (hP : va_P D vwCl (w10 ty ad q) H) (hD : va_D A (w10 ty ad q)) (hS : va_S A s.heap H locs) (hl : lv_has ls 5 [(0, .ref (ad 0)), (1, .int x1), (2, .int x2), (3, .int x3), (4, .int x4)]) : W p l e ({ frames := 1, cells := 0, slots := 0, locals := 20 } : Room) s m args below meth c H locs 0 0 (MQ below (va_Qi (fun (r : Int32) (u : va_W) => o1 = r ∧ w10 ty ad o2 = u) (kz_B D ty A) A) args s 0 0 A) (F0 m 19 ls []) := by
  have C0 := C
  obtain ⟨hx, hb, hr, hts, hown, hlocks, hml, hK, hN, hE, hA⟩ := C
  unfold zX10_numberOf_19b at h
  refine lv_iload hx hb dX10_numberOf_19 (lv_at hl 4 rfl) ?_
  refine lv_aload_n hx hb dX10_numberOf_21 rfl (lv_at hl 0 rfl) ?_
  obtain ⟨r1, q3, h2, h⟩ := dB_some h
  refine dw_ki (va_runV (As := []) (rest := [.int x4]) ⟨hx, hb, hml, hown, hts⟩ (qX10_size l D ty eo _ ad q  r1 q3 h2) (cwV 0 hts gX10_numberOf_X10_size rfl rfl rfl hd_X10_size_v ⟨Nat.le_of_ble_eq_true rfl, Nat.le_of_ble_eq_true rfl⟩) (pv10_10_0 hK hN hE hP hD hS hA) rfl rfl hl.1 rfl (lv_room (Nat.le_of_ble_eq_true rfl)) dX10_numberOf_22 ⟨Nat.le_of_ble_eq_true rfl, Nat.le_of_ble_eq_true rfl⟩) hD hS hA (fun r9 u9 H locs hw hp hd hs => ?_)
  clear hP hD hS
  obtain ⟨rfl, rfl⟩ := hw
  have hP := hp; have hD := hd; have hS := hs; clear hp hd hs
  refine lv_icmp_ge (tgt := 58) hx hb dX10_numberOf_25 (by decide) (fun c9 => ?_) (fun c9 => ?_)
  · rw [if_pos c9] at h
    refine lv_iload_n hx hb dX10_numberOf_58 rfl (lv_at hl 1 rfl) ?_
    refine lv_aload_n hx hb dX10_numberOf_59 rfl (lv_at hl 0 rfl) ?_
    obtain ⟨r4, q6, h5, h⟩ := dB_some h
    refine dw_ki (va_runV (As := []) (rest := [.int x1]) ⟨hx, hb, hml, hown, hts⟩ (qX10_size l D ty eo _ ad q3  r4 q6 h5) (cwV 0 hts gX10_numberOf_X10_size rfl rfl rfl hd_X10_size_v ⟨Nat.le_of_ble_eq_true rfl, Nat.le_of_ble_eq_true rfl⟩) (pv10_10_0 hK hN hE hP hD hS hA) rfl rfl hl.1 rfl (lv_room (Nat.le_of_ble_eq_true rfl)) dX10_numberOf_60 ⟨Nat.le_of_ble_eq_true rfl, Nat.le_of_ble_eq_true rfl⟩) hD hS hA (fun r9 u9 H locs hw hp hd hs => ?_)
    clear hP hD hS
    obtain ⟨rfl, rfl⟩ := hw
    have hP := hp; have hD := hd; have hS := hs; clear hp hd hs
    refine lv_iload_n hx hb dX10_numberOf_63 rfl (lv_at hl 2 rfl) ?_
    refine lv_isub hx hb dX10_numberOf_64 ?_
    refine lv_imul hx hb dX10_numberOf_65 ?_
    refine lv_iload_n hx hb dX10_numberOf_66 rfl (lv_at hl 3 rfl) ?_
    refine lv_iadd hx hb dX10_numberOf_67 ?_
    refine lv_istore_n (lv' := [(1, .int ((x1 * (r4 - x2)) + x3)), (0, .ref (ad 0)), (2, .int x2), (3, .int x3), (4, .int x4)]) hx hb dX10_numberOf_68 rfl hl (by decide) rfl (fun ls hl => ?_)
    refine lv_iinc (v := x2 + 1) (lv' := [(2, .int (x2 + 1)), (1, .int ((x1 * (r4 - x2)) + x3)), (0, .ref (ad 0)), (3, .int x3), (4, .int x4)]) hx hb dX10_numberOf_69 hl (k := 2) rfl rfl (by decide) rfl (fun ls hl => ?_)
    refine lv_goto (tgt := 4) hx hb dX10_numberOf_72 (by decide) ?_
    exact hk4 _ _ _ _ _ _ h hP hD hS (lv_sub hl [2, 1, 0] rfl)
  · rw [if_neg c9] at h
    refine lv_iload_n hx hb dX10_numberOf_28 rfl (lv_at hl 3 rfl) ?_
    refine lv_aload_n hx hb dX10_numberOf_29 rfl (lv_at hl 0 rfl) ?_
    refine va_get (D := D) (ci := 10) (v := .ref (ad 19)) (C := RX10) (T := TX10) (N := 56) hx hb hts u9_wsX10_numberOf_X10 hown hK hP 0 rfl rfl 36 (by decide) (hts (.fieldLink RX10 84 "TurnedFloorsModel" "line" "[I") f9_wsX10_numberOf_177) (fun _ h9 => h9) rfl dX10_numberOf_30 ?_
    refine lv_iload hx hb dX10_numberOf_33 (lv_at hl 4 rfl) ?_
    obtain ⟨g7, h⟩ := dG_some h
    refine va_iald hx hb hK hP 19 0 rfl rfl (dg_in g7) dX10_numberOf_35 ?_
    obtain ⟨v8, ev8, h⟩ := dL_some h
    refine kz_topi v8 ev8 ?_
    refine lv_aload_n hx hb dX10_numberOf_36 rfl (lv_at hl 0 rfl) ?_
    refine va_get (D := D) (ci := 10) (v := .ref (ad 19)) (C := RX10) (T := TX10) (N := 56) hx hb hts u9_wsX10_numberOf_X10 hown hK hP 0 rfl rfl 36 (by decide) (hts (.fieldLink RX10 84 "TurnedFloorsModel" "line" "[I") f9_wsX10_numberOf_177) (fun _ h9 => h9) rfl dX10_numberOf_37 ?_
    refine lv_iload_n hx hb dX10_numberOf_40 rfl (lv_at hl 2 rfl) ?_
    obtain ⟨g9, h⟩ := dG_some h
    refine va_iald hx hb hK hP 19 0 rfl rfl (dg_in g9) dX10_numberOf_41 ?_
    obtain ⟨v10, ev10, h⟩ := dL_some h
    refine kz_topi v10 ev10 ?_
    refine lv_icmp_ge (tgt := 49) hx hb dX10_numberOf_42 (by decide) (fun c9 => ?_) (fun c9 => ?_)
    · rw [if_pos c9] at h
      refine lv_iconst (v := 0) hx hb dX10_numberOf_49 (by decide) ?_
      exact WX10_numberOf_50 C0 hk4 hk19 _ _ _ _ _ _ _ _ _ h hP hD hS (lv_sub hl [0, 1, 2, 4] rfl)
    · rw [if_neg c9] at h
      refine lv_iconst (v := 1) hx hb dX10_numberOf_45 (by decide) ?_
      refine lv_goto (tgt := 50) hx hb dX10_numberOf_46 (by decide) ?_
      exact WX10_numberOf_50 C0 hk4 hk19 _ _ _ _ _ _ _ _ _ h hP hD hS (lv_sub hl [0, 1, 2, 4] rfl)
set_option maxHeartbeats 4000000 in
set_option maxRecDepth 100000 in
theorem WX10_numberOf_19 {p : Program} {l : Launch} {e : Env} {s : State} {m : MethodId} {args : Array Value} {below : List Frame} {meth : Method} {c : Code} {D : va_G} {ty : Nat → ClassId} {eo : Nat → Nat} {A : Nat → Prop} {ad : Nat → Nat} {o1 : Int32} {o2 : dS} (C : dc_C p s m args meth c cX10_numberOf (some .int) 5 RX10 wsX10_numberOf D ty eo A) {k4 : dS → Int32 → Int32 → Option (Int32 × dS)} (hk4 : ∀ (q : dS) (x1 : Int32) (x2 : Int32) (H : Heap) (locs : List Loc) (ls : Array Slot), k4 q x1 x2 = some (o1, o2) → va_P D vwCl (w10 ty ad q) H → va_D A (w10 ty ad q) → va_S A s.heap H locs → lv_has ls 5 [(0, .ref (ad 0)), (1, .int x1), (2, .int x2)] → W p l e ({ frames := 1, cells := 0, slots := 0, locals := 20 } : Room) s m args below meth c H locs 0 0 (MQ below (va_Qi (fun (r : Int32) (u : va_W) => o1 = r ∧ w10 ty ad o2 = u) (kz_B D ty A) A) args s 0 0 A) (F0 m 4 ls [])) (n : Nat) (q : dS) (x1 : Int32) (x2 : Int32) (x3 : Int32) (x4 : Int32) (H : Heap) (locs : List Loc) (ls : Array Slot) (h : zX10_numberOf_19 k4 n q x1 x2 x3 x4 = some (o1, o2)) (hP : va_P D vwCl (w10 ty ad q) H) (hD : va_D A (w10 ty ad q)) (hS : va_S A s.heap H locs) (hl : lv_has ls 5 [(0, .ref (ad 0)), (1, .int x1), (2, .int x2), (3, .int x3), (4, .int x4)]) : W p l e ({ frames := 1, cells := 0, slots := 0, locals := 20 } : Room) s m args below meth c H locs 0 0 (MQ below (va_Qi (fun (r : Int32) (u : va_W) => o1 = r ∧ w10 ty ad o2 = u) (kz_B D ty A) A) args s 0 0 A) (F0 m 19 ls []) := by
  exact dFix_W (F := fun k (a : dS × Int32 × Int32 × Int32 × Int32) => zX10_numberOf_19b k4 (fun q x1 x2 x3 x4 => k (q, x1, x2, x3, x4)) a.1 a.2.1 a.2.2.1 a.2.2.2.1 a.2.2.2.2) (o := (o1, o2)) (P := fun (a : dS × Int32 × Int32 × Int32 × Int32) H locs ls => va_P D vwCl (w10 ty ad a.1) H ∧ va_D A (w10 ty ad a.1) ∧ va_S A s.heap H locs ∧ lv_has ls 5 [(0, .ref (ad 0)), (1, .int a.2.1), (2, .int a.2.2.1), (3, .int a.2.2.2.1), (4, .int a.2.2.2.2)]) (G := fun H locs ls => W p l e ({ frames := 1, cells := 0, slots := 0, locals := 20 } : Room) s m args below meth c H locs 0 0 (MQ below (va_Qi (fun (r : Int32) (u : va_W) => o1 = r ∧ w10 ty ad o2 = u) (kz_B D ty A) A) args s 0 0 A) (F0 m 19 ls []))
    (fun k hk a H locs ls h hp => WX10_numberOf_19b C hk4 (fun q x1 x2 x3 x4 H locs ls h h1 h2 h3 h4 => hk (q, x1, x2, x3, x4) H locs ls h ⟨h1, h2, h3, h4⟩) a.1 a.2.1 a.2.2.1 a.2.2.2.1 a.2.2.2.2 H locs ls h hp.1 hp.2.1 hp.2.2.1 hp.2.2.2) n (q, x1, x2, x3, x4) H locs ls h ⟨hP, hD, hS, hl⟩
set_option maxHeartbeats 4000000 in
set_option maxRecDepth 100000 in
theorem WX10_numberOf_4b {p : Program} {l : Launch} {e : Env} {s : State} {m : MethodId} {args : Array Value} {below : List Frame} {meth : Method} {c : Code} {D : va_G} {ty : Nat → ClassId} {eo : Nat → Nat} {A : Nat → Prop} {ad : Nat → Nat} {o1 : Int32} {o2 : dS} (C : dc_C p s m args meth c cX10_numberOf (some .int) 5 RX10 wsX10_numberOf D ty eo A) {k4 : dS → Int32 → Int32 → Option (Int32 × dS)} (hk4 : ∀ (q : dS) (x1 : Int32) (x2 : Int32) (H : Heap) (locs : List Loc) (ls : Array Slot), k4 q x1 x2 = some (o1, o2) → va_P D vwCl (w10 ty ad q) H → va_D A (w10 ty ad q) → va_S A s.heap H locs → lv_has ls 5 [(0, .ref (ad 0)), (1, .int x1), (2, .int x2)] → W p l e ({ frames := 1, cells := 0, slots := 0, locals := 20 } : Room) s m args below meth c H locs 0 0 (MQ below (va_Qi (fun (r : Int32) (u : va_W) => o1 = r ∧ w10 ty ad o2 = u) (kz_B D ty A) A) args s 0 0 A) (F0 m 4 ls [])) (q : dS) (x1 : Int32) (x2 : Int32) (H : Heap) (locs : List Loc) (ls : Array Slot) (h : zX10_numberOf_4b k4 q x1 x2 = some (o1, o2)) (hP : va_P D vwCl (w10 ty ad q) H) (hD : va_D A (w10 ty ad q)) (hS : va_S A s.heap H locs) (hl : lv_has ls 5 [(0, .ref (ad 0)), (1, .int x1), (2, .int x2)]) : W p l e ({ frames := 1, cells := 0, slots := 0, locals := 20 } : Room) s m args below meth c H locs 0 0 (MQ below (va_Qi (fun (r : Int32) (u : va_W) => o1 = r ∧ w10 ty ad o2 = u) (kz_B D ty A) A) args s 0 0 A) (F0 m 4 ls []) := by
  have C0 := C
  obtain ⟨hx, hb, hr, hts, hown, hlocks, hml, hK, hN, hE, hA⟩ := C
  unfold zX10_numberOf_4b at h
  refine lv_iload_n hx hb dX10_numberOf_4 rfl (lv_at hl 2 rfl) ?_
  refine lv_aload_n hx hb dX10_numberOf_5 rfl (lv_at hl 0 rfl) ?_
  obtain ⟨r1, q3, h2, h⟩ := dB_some h
  refine dw_ki (va_runV (As := []) (rest := [.int x2]) ⟨hx, hb, hml, hown, hts⟩ (qX10_size l D ty eo _ ad q  r1 q3 h2) (cwV 0 hts gX10_numberOf_X10_size rfl rfl rfl hd_X10_size_v ⟨Nat.le_of_ble_eq_true rfl, Nat.le_of_ble_eq_true rfl⟩) (pv10_10_0 hK hN hE hP hD hS hA) rfl rfl hl.1 rfl (lv_room (Nat.le_of_ble_eq_true rfl)) dX10_numberOf_6 ⟨Nat.le_of_ble_eq_true rfl, Nat.le_of_ble_eq_true rfl⟩) hD hS hA (fun r9 u9 H locs hw hp hd hs => ?_)
  clear hP hD hS
  obtain ⟨rfl, rfl⟩ := hw
  have hP := hp; have hD := hd; have hS := hs; clear hp hd hs
  refine lv_icmp_ge (tgt := 75) hx hb dX10_numberOf_9 (by decide) (fun c9 => ?_) (fun c9 => ?_)
  · rw [if_pos c9] at h
    refine lv_iload_n hx hb dX10_numberOf_75 rfl (lv_at hl 1 rfl) ?_
    cases h
    exact kz_iret hx hb hr hlocks hP hK hD hS dX10_numberOf_76 ⟨rfl, rfl⟩
  · rw [if_neg c9] at h
    refine lv_iconst (v := 0) hx hb dX10_numberOf_12 (by decide) ?_
    refine lv_istore_n (lv' := [(3, .int 0), (0, .ref (ad 0)), (1, .int x1), (2, .int x2)]) hx hb dX10_numberOf_13 rfl hl (by decide) rfl (fun ls hl => ?_)
    refine lv_iload_n hx hb dX10_numberOf_14 rfl (lv_at hl 3 rfl) ?_
    refine lv_iconst (v := 1) hx hb dX10_numberOf_15 (by decide) ?_
    refine lv_iadd hx hb dX10_numberOf_16 ?_
    refine lv_istore (lv' := [(4, .int (x2 + 1 : Int32)), (3, .int 0), (0, .ref (ad 0)), (1, .int x1), (2, .int x2)]) hx hb dX10_numberOf_17 hl (by decide) rfl (fun ls hl => ?_)
    exact WX10_numberOf_19 C0 hk4 _ _ _ _ _ _ _ _ _ h hP hD hS (lv_sub hl [2, 3, 4, 1, 0] rfl)
set_option maxHeartbeats 4000000 in
set_option maxRecDepth 100000 in
theorem WX10_numberOf_4 {p : Program} {l : Launch} {e : Env} {s : State} {m : MethodId} {args : Array Value} {below : List Frame} {meth : Method} {c : Code} {D : va_G} {ty : Nat → ClassId} {eo : Nat → Nat} {A : Nat → Prop} {ad : Nat → Nat} {o1 : Int32} {o2 : dS} (C : dc_C p s m args meth c cX10_numberOf (some .int) 5 RX10 wsX10_numberOf D ty eo A)   (n : Nat) (q : dS) (x1 : Int32) (x2 : Int32) (H : Heap) (locs : List Loc) (ls : Array Slot) (h : zX10_numberOf_4  n q x1 x2 = some (o1, o2)) (hP : va_P D vwCl (w10 ty ad q) H) (hD : va_D A (w10 ty ad q)) (hS : va_S A s.heap H locs) (hl : lv_has ls 5 [(0, .ref (ad 0)), (1, .int x1), (2, .int x2)]) : W p l e ({ frames := 1, cells := 0, slots := 0, locals := 20 } : Room) s m args below meth c H locs 0 0 (MQ below (va_Qi (fun (r : Int32) (u : va_W) => o1 = r ∧ w10 ty ad o2 = u) (kz_B D ty A) A) args s 0 0 A) (F0 m 4 ls []) := by
  exact dFix_W (F := fun k (a : dS × Int32 × Int32) => zX10_numberOf_4b  (fun q x1 x2 => k (q, x1, x2)) a.1 a.2.1 a.2.2) (o := (o1, o2)) (P := fun (a : dS × Int32 × Int32) H locs ls => va_P D vwCl (w10 ty ad a.1) H ∧ va_D A (w10 ty ad a.1) ∧ va_S A s.heap H locs ∧ lv_has ls 5 [(0, .ref (ad 0)), (1, .int a.2.1), (2, .int a.2.2)]) (G := fun H locs ls => W p l e ({ frames := 1, cells := 0, slots := 0, locals := 20 } : Room) s m args below meth c H locs 0 0 (MQ below (va_Qi (fun (r : Int32) (u : va_W) => o1 = r ∧ w10 ty ad o2 = u) (kz_B D ty A) A) args s 0 0 A) (F0 m 4 ls []))
    (fun k hk a H locs ls h hp => WX10_numberOf_4b C  (fun q x1 x2 H locs ls h h1 h2 h3 h4 => hk (q, x1, x2) H locs ls h ⟨h1, h2, h3, h4⟩) a.1 a.2.1 a.2.2 H locs ls h hp.1 hp.2.1 hp.2.2.1 hp.2.2.2) n (q, x1, x2) H locs ls h ⟨hP, hD, hS, hl⟩
set_option maxHeartbeats 4000000 in
set_option maxRecDepth 100000 in
theorem qX10_numberOf (l : Launch) (D : va_G) (ty : Nat → ClassId) (eo : Nat → Nat) (sz : Nat) (ad : Nat → Nat) (q : dS)  (o1 : Int32) (o2 : dS) (h : zX10_numberOf q = some (o1, o2)) : Met l yX10_numberOf wsX10_numberOf ({ frames := 1, cells := 0, slots := 0, locals := 20 } : Room) (va_Pc [.ref (ad 0)] (kz_pre D ty eo (w10 ty ad q) sz)) (va_Qi (fun (r : Int32) (u : va_W) => o1 = r ∧ w10 ty ad o2 = u) (kz_B D ty (va_A (w10 ty ad q) sz)) (va_A (w10 ty ad q) sz)) 0 0 (va_A (w10 ty ad q) sz) := by
  refine Met.ofW (cc := cX10_numberOf) (maxL := 5) (ret := (some .int)) (by decide) rfl ?_
  intro p e s m args below meth c s₁ B hml hv
  obtain ⟨rfl, hsz, hP, hK, hD0, hN, hE⟩ := hv
  have hx := B.exec
  have hb := B.bytes
  have hr := B.returns
  have hts := atoms_spec (ws := wsX10_numberOf) B.pre
  have hown : s.vm.findClass RX10 = some m.cls := findClass_of_methodNamed B.named
  have hlocks := B.notSynchronized
  subst hsz
  have hD := hD0.self (sz := s.heap.size)
  generalize hAe : va_A (w10 ty ad q) s.heap.size = A at hD hE ⊢
  have hA : ∀ q : Nat, s.heap.size ≤ q → A q := fun q h => by rw [← hAe]; exact Or.inr h
  clear hAe
  have hS : va_S A s.heap s.heap [] := va_S.rf
  have hl := lv_entry ([.ref (ad 0)]) (n := 5) (Nat.le_of_ble_eq_true rfl)
  rw [lg_entry_eq]
  generalize (lg_sl ([.ref (ad 0)]) ++ List.replicate (5 - (lg_sl ([.ref (ad 0)])).length) Slot.unset).toArray = ls at hl ⊢
  have hl : lv_has ls 5 [(0, .ref (ad 0))] := hl
  have C : dc_C p s m _ meth c cX10_numberOf (some .int) 5 RX10 wsX10_numberOf D ty eo A := ⟨hx, hb, hr, hts, hown, hlocks, hml, hK, hN, hE, hA⟩
  unfold zX10_numberOf at h
  refine lv_iconst (v := 0) hx hb dX10_numberOf_0 (by decide) ?_
  refine lv_istore_n (lv' := [(1, .int 0), (0, .ref (ad 0))]) hx hb dX10_numberOf_1 rfl hl (by decide) rfl (fun ls hl => ?_)
  refine lv_iconst (v := 0) hx hb dX10_numberOf_2 (by decide) ?_
  refine lv_istore_n (lv' := [(2, .int 0), (1, .int 0), (0, .ref (ad 0))]) hx hb dX10_numberOf_3 rfl hl (by decide) rfl (fun ls hl => ?_)
  exact WX10_numberOf_4 C  _ _ _ _ _ _ _ h hP hD hS (lv_sub hl [2, 1, 0] rfl)

set_option maxHeartbeats 4000000 in
set_option maxRecDepth 100000 in
theorem WX10_laysOrder_74 {p : Program} {l : Launch} {e : Env} {s : State} {m : MethodId} {args : Array Value} {below : List Frame} {meth : Method} {c : Code} {D : va_G} {ty : Nat → ClassId} {eo : Nat → Nat} {A : Nat → Prop} {ad : Nat → Nat} {o2 : dS} (C : dc_C p s m args meth c cX10_laysOrder none 8 RX10 wsX10_laysOrder D ty eo A) {k7 : dS → Int32 → Int32 → Int32 → Int32 → Option (dS)} {k44 : dS → Int32 → Int32 → Int32 → Int32 → Int32 → Int32 → Option (dS)} (hk7 : ∀ (q : dS) (x1 : Int32) (x2 : Int32) (x3 : Int32) (x4 : Int32) (H : Heap) (locs : List Loc) (ls : Array Slot), k7 q x1 x2 x3 x4 = some o2 → va_P D vwCl (w10 ty ad q) H → va_D A (w10 ty ad q) → va_S A s.heap H locs → lv_has ls 8 [(0, .ref (ad 0)), (1, .int x1), (2, .int x2), (3, .int x3), (4, .int x4)] → W p l e ({ frames := 1, cells := 0, slots := 0, locals := 22 } : Room) s m args below meth c H locs 0 0 (MQ below (va_Qv (fun (u : va_W) => w10 ty ad o2 = u) (kz_B D ty A) A) args s 0 0 A) (F0 m 7 ls [])) (hk44 : ∀ (q : dS) (x1 : Int32) (x2 : Int32) (x3 : Int32) (x4 : Int32) (x6 : Int32) (x7 : Int32) (H : Heap) (locs : List Loc) (ls : Array Slot), k44 q x1 x2 x3 x4 x6 x7 = some o2 → va_P D vwCl (w10 ty ad q) H → va_D A (w10 ty ad q) → va_S A s.heap H locs → lv_has ls 8 [(0, .ref (ad 0)), (1, .int x1), (2, .int x2), (3, .int x3), (4, .int x4), (6, .int x6), (7, .int x7)] → W p l e ({ frames := 1, cells := 0, slots := 0, locals := 22 } : Room) s m args below meth c H locs 0 0 (MQ below (va_Qv (fun (u : va_W) => w10 ty ad o2 = u) (kz_B D ty A) A) args s 0 0 A) (F0 m 44 ls [])) (q : dS) (x1 : Int32) (x2 : Int32) (x3 : Int32) (x4 : Int32) (x7 : Int32) (y0 : Int32) (y1 : Int32) (H : Heap) (locs : List Loc) (ls : Array Slot) (h : zX10_laysOrder_74 k7 k44 q x1 x2 x3 x4 x7 y0 y1 = some o2) (hP : va_P D vwCl (w10 ty ad q) H) (hD : va_D A (w10 ty ad q)) (hS : va_S A s.heap H locs) (hl : lv_has ls 8 [(0, .ref (ad 0)), (1, .int x1), (2, .int x2), (3, .int x3), (4, .int x4), (7, .int x7)]) : W p l e ({ frames := 1, cells := 0, slots := 0, locals := 22 } : Room) s m args below meth c H locs 0 0 (MQ below (va_Qv (fun (u : va_W) => w10 ty ad o2 = u) (kz_B D ty A) A) args s 0 0 A) (F0 m 74 ls [.int y0, .int y1]) := by
  have C0 := C
  obtain ⟨hx, hb, hr, hts, hown, hlocks, hml, hK, hN, hE, hA⟩ := C
  unfold zX10_laysOrder_74 at h
  refine lv_isub hx hb dX10_laysOrder_74 ?_
  refine lv_istore (lv' := [(6, .int (y1 - y0)), (0, .ref (ad 0)), (1, .int x1), (2, .int x2), (3, .int x3), (4, .int x4), (7, .int x7)]) hx hb dX10_laysOrder_75 hl (by decide) rfl (fun ls hl => ?_)
  refine lv_iinc (v := x7 + 1) (lv' := [(7, .int (x7 + 1)), (6, .int (y1 - y0)), (0, .ref (ad 0)), (1, .int x1), (2, .int x2), (3, .int x3), (4, .int x4)]) hx hb dX10_laysOrder_77 hl (k := 6) rfl rfl (by decide) rfl (fun ls hl => ?_)
  refine lv_goto (tgt := 44) hx hb dX10_laysOrder_80 (by decide) ?_
  exact hk44 _ _ _ _ _ _ _ _ _ _ h hP hD hS (lv_sub hl [2, 3, 4, 5, 6, 1, 0] rfl)
set_option maxHeartbeats 4000000 in
set_option maxRecDepth 100000 in
theorem WX10_laysOrder_58 {p : Program} {l : Launch} {e : Env} {s : State} {m : MethodId} {args : Array Value} {below : List Frame} {meth : Method} {c : Code} {D : va_G} {ty : Nat → ClassId} {eo : Nat → Nat} {A : Nat → Prop} {ad : Nat → Nat} {o2 : dS} (C : dc_C p s m args meth c cX10_laysOrder none 8 RX10 wsX10_laysOrder D ty eo A) {k7 : dS → Int32 → Int32 → Int32 → Int32 → Option (dS)} {k44 : dS → Int32 → Int32 → Int32 → Int32 → Int32 → Int32 → Option (dS)} (hk7 : ∀ (q : dS) (x1 : Int32) (x2 : Int32) (x3 : Int32) (x4 : Int32) (H : Heap) (locs : List Loc) (ls : Array Slot), k7 q x1 x2 x3 x4 = some o2 → va_P D vwCl (w10 ty ad q) H → va_D A (w10 ty ad q) → va_S A s.heap H locs → lv_has ls 8 [(0, .ref (ad 0)), (1, .int x1), (2, .int x2), (3, .int x3), (4, .int x4)] → W p l e ({ frames := 1, cells := 0, slots := 0, locals := 22 } : Room) s m args below meth c H locs 0 0 (MQ below (va_Qv (fun (u : va_W) => w10 ty ad o2 = u) (kz_B D ty A) A) args s 0 0 A) (F0 m 7 ls [])) (hk44 : ∀ (q : dS) (x1 : Int32) (x2 : Int32) (x3 : Int32) (x4 : Int32) (x6 : Int32) (x7 : Int32) (H : Heap) (locs : List Loc) (ls : Array Slot), k44 q x1 x2 x3 x4 x6 x7 = some o2 → va_P D vwCl (w10 ty ad q) H → va_D A (w10 ty ad q) → va_S A s.heap H locs → lv_has ls 8 [(0, .ref (ad 0)), (1, .int x1), (2, .int x2), (3, .int x3), (4, .int x4), (6, .int x6), (7, .int x7)] → W p l e ({ frames := 1, cells := 0, slots := 0, locals := 22 } : Room) s m args below meth c H locs 0 0 (MQ below (va_Qv (fun (u : va_W) => w10 ty ad o2 = u) (kz_B D ty A) A) args s 0 0 A) (F0 m 44 ls [])) (q : dS) (x1 : Int32) (x2 : Int32) (x3 : Int32) (x4 : Int32) (x6 : Int32) (x7 : Int32) (H : Heap) (locs : List Loc) (ls : Array Slot) (h : zX10_laysOrder_58 k7 k44 q x1 x2 x3 x4 x6 x7 = some o2) (hP : va_P D vwCl (w10 ty ad q) H) (hD : va_D A (w10 ty ad q)) (hS : va_S A s.heap H locs) (hl : lv_has ls 8 [(0, .ref (ad 0)), (1, .int x1), (2, .int x2), (3, .int x3), (4, .int x4), (6, .int x6), (7, .int x7)]) : W p l e ({ frames := 1, cells := 0, slots := 0, locals := 22 } : Room) s m args below meth c H locs 0 0 (MQ below (va_Qv (fun (u : va_W) => w10 ty ad o2 = u) (kz_B D ty A) A) args s 0 0 A) (F0 m 58 ls []) := by
  have C0 := C
  obtain ⟨hx, hb, hr, hts, hown, hlocks, hml, hK, hN, hE, hA⟩ := C
  unfold zX10_laysOrder_58 at h
  refine lv_iload hx hb dX10_laysOrder_58 (lv_at hl 5 rfl) ?_
  refine lv_iload_n hx hb dX10_laysOrder_60 rfl (lv_at hl 2 rfl) ?_
  refine lv_iload hx hb dX10_laysOrder_61 (lv_at hl 6 rfl) ?_
  obtain ⟨r1, h2, h⟩ := dV_some h
  refine dw_ks (va_runS (As := [.int x2, .int x7]) (rest := [.int x6]) ⟨hx, hb, hml, hown, hts⟩ (qX10_isIn l D ty eo _ x2 x7 _ h2) (va_cwS 2 hts gX10_laysOrder_X10_isIn rfl rfl rfl hd_X10_isIn ⟨Nat.le_of_ble_eq_true rfl, Nat.le_of_ble_eq_true rfl⟩) (pvS_0 hK hN hE hP hD hS hA) rfl rfl hl.1 rfl (lv_room (Nat.le_of_ble_eq_true rfl)) dX10_laysOrder_63 ⟨Nat.le_of_ble_eq_true rfl, Nat.le_of_ble_eq_true rfl⟩) hP hD hS hA (fun _ _ h9 => h9.2.symm) (fun r9 u9 H locs hw hp hd hs => ?_)
  obtain ⟨rfl, -⟩ := hw
  clear hP hD hS
  have hP := hp; have hD := hd; have hS := hs; clear hp hd hs
  refine lv_if_eq (tgt := 73) hx hb dX10_laysOrder_66 (by decide) (fun c9 => ?_) (fun c9 => ?_)
  · rw [if_pos c9] at h
    refine lv_iconst (v := 1) hx hb dX10_laysOrder_73 (by decide) ?_
    exact WX10_laysOrder_74 C0 hk7 hk44 _ _ _ _ _ _ _ _ _ _ _ h hP hD hS (lv_sub hl [0, 1, 2, 3, 4, 6] rfl)
  · rw [if_neg c9] at h
    refine lv_iconst (v := 0) hx hb dX10_laysOrder_69 (by decide) ?_
    refine lv_goto (tgt := 74) hx hb dX10_laysOrder_70 (by decide) ?_
    exact WX10_laysOrder_74 C0 hk7 hk44 _ _ _ _ _ _ _ _ _ _ _ h hP hD hS (lv_sub hl [0, 1, 2, 3, 4, 6] rfl)
set_option maxHeartbeats 4000000 in
set_option maxRecDepth 100000 in
theorem WX10_laysOrder_44b {p : Program} {l : Launch} {e : Env} {s : State} {m : MethodId} {args : Array Value} {below : List Frame} {meth : Method} {c : Code} {D : va_G} {ty : Nat → ClassId} {eo : Nat → Nat} {A : Nat → Prop} {ad : Nat → Nat} {o2 : dS} (C : dc_C p s m args meth c cX10_laysOrder none 8 RX10 wsX10_laysOrder D ty eo A) {k7 : dS → Int32 → Int32 → Int32 → Int32 → Option (dS)} {k44 : dS → Int32 → Int32 → Int32 → Int32 → Int32 → Int32 → Option (dS)} (hk7 : ∀ (q : dS) (x1 : Int32) (x2 : Int32) (x3 : Int32) (x4 : Int32) (H : Heap) (locs : List Loc) (ls : Array Slot), k7 q x1 x2 x3 x4 = some o2 → va_P D vwCl (w10 ty ad q) H → va_D A (w10 ty ad q) → va_S A s.heap H locs → lv_has ls 8 [(0, .ref (ad 0)), (1, .int x1), (2, .int x2), (3, .int x3), (4, .int x4)] → W p l e ({ frames := 1, cells := 0, slots := 0, locals := 22 } : Room) s m args below meth c H locs 0 0 (MQ below (va_Qv (fun (u : va_W) => w10 ty ad o2 = u) (kz_B D ty A) A) args s 0 0 A) (F0 m 7 ls [])) (hk44 : ∀ (q : dS) (x1 : Int32) (x2 : Int32) (x3 : Int32) (x4 : Int32) (x6 : Int32) (x7 : Int32) (H : Heap) (locs : List Loc) (ls : Array Slot), k44 q x1 x2 x3 x4 x6 x7 = some o2 → va_P D vwCl (w10 ty ad q) H → va_D A (w10 ty ad q) → va_S A s.heap H locs → lv_has ls 8 [(0, .ref (ad 0)), (1, .int x1), (2, .int x2), (3, .int x3), (4, .int x4), (6, .int x6), (7, .int x7)] → W p l e ({ frames := 1, cells := 0, slots := 0, locals := 22 } : Room) s m args below meth c H locs 0 0 (MQ below (va_Qv (fun (u : va_W) => w10 ty ad o2 = u) (kz_B D ty A) A) args s 0 0 A) (F0 m 44 ls [])) (q : dS) (x1 : Int32) (x2 : Int32) (x3 : Int32) (x4 : Int32) (x6 : Int32) (x7 : Int32) (H : Heap) (locs : List Loc) (ls : Array Slot) (h : zX10_laysOrder_44b k7 k44 q x1 x2 x3 x4 x6 x7 = some o2) (hP : va_P D vwCl (w10 ty ad q) H) (hD : va_D A (w10 ty ad q)) (hS : va_S A s.heap H locs) (hl : lv_has ls 8 [(0, .ref (ad 0)), (1, .int x1), (2, .int x2), (3, .int x3), (4, .int x4), (6, .int x6), (7, .int x7)]) : W p l e ({ frames := 1, cells := 0, slots := 0, locals := 22 } : Room) s m args below meth c H locs 0 0 (MQ below (va_Qv (fun (u : va_W) => w10 ty ad o2 = u) (kz_B D ty A) A) args s 0 0 A) (F0 m 44 ls []) := by
  have C0 := C
  obtain ⟨hx, hb, hr, hts, hown, hlocks, hml, hK, hN, hE, hA⟩ := C
  unfold zX10_laysOrder_44b at h
  refine lv_iload_n hx hb dX10_laysOrder_44 rfl (lv_at hl 2 rfl) ?_
  refine lv_iload hx hb dX10_laysOrder_45 (lv_at hl 6 rfl) ?_
  obtain ⟨r1, h2, h⟩ := dV_some h
  refine dw_ks (va_runS (As := [.int x2, .int x7]) (rest := []) ⟨hx, hb, hml, hown, hts⟩ (qX10_isIn l D ty eo _ x2 x7 _ h2) (va_cwS 2 hts gX10_laysOrder_X10_isIn rfl rfl rfl hd_X10_isIn ⟨Nat.le_of_ble_eq_true rfl, Nat.le_of_ble_eq_true rfl⟩) (pvS_0 hK hN hE hP hD hS hA) rfl rfl hl.1 rfl (lv_room (Nat.le_of_ble_eq_true rfl)) dX10_laysOrder_47 ⟨Nat.le_of_ble_eq_true rfl, Nat.le_of_ble_eq_true rfl⟩) hP hD hS hA (fun _ _ h9 => h9.2.symm) (fun r9 u9 H locs hw hp hd hs => ?_)
  obtain ⟨rfl, -⟩ := hw
  clear hP hD hS
  have hP := hp; have hD := hd; have hS := hs; clear hp hd hs
  refine lv_if_ne (tgt := 58) hx hb dX10_laysOrder_50 (by decide) (fun c9 => ?_) (fun c9 => ?_)
  · rw [if_neg c9] at h
    exact WX10_laysOrder_58 C0 hk7 hk44 _ _ _ _ _ _ _ _ _ _ h hP hD hS (lv_sub hl [0, 1, 2, 3, 4, 5, 6] rfl)
  · rw [if_pos c9] at h
    refine lv_iload hx hb dX10_laysOrder_53 (lv_at hl 5 rfl) ?_
    refine lv_if_le (tgt := 83) hx hb dX10_laysOrder_55 (by decide) (fun c9 => ?_) (fun c9 => ?_)
    · rw [if_pos c9] at h
      refine lv_iload_n hx hb dX10_laysOrder_83 rfl (lv_at hl 2 rfl) ?_
      refine lv_iconst (v := 1) hx hb dX10_laysOrder_84 (by decide) ?_
      refine lv_iload hx hb dX10_laysOrder_85 (lv_at hl 6 rfl) ?_
      refine lv_ishl hx hb dX10_laysOrder_87 ?_
      refine lv_ior hx hb dX10_laysOrder_88 ?_
      refine lv_istore_n (lv' := [(2, .int (x2 ||| (1 <<< ((x7 : Int32) &&& 31) : Int32))), (0, .ref (ad 0)), (1, .int x1), (3, .int x3), (4, .int x4), (6, .int x6), (7, .int x7)]) hx hb dX10_laysOrder_89 rfl hl (by decide) rfl (fun ls hl => ?_)
      refine lv_aload_n hx hb dX10_laysOrder_90 rfl (lv_at hl 1 rfl) ?_
      refine va_get (D := D) (ci := 10) (v := .ref (ad 16)) (C := RX10) (T := TX10) (N := 56) hx hb hts u9_wsX10_laysOrder_X10 hown hK hP 0 rfl rfl 33 (by decide) (hts (.fieldLink RX10 75 "TurnedFloorsModel" "rankAt" "[I") f9_wsX10_laysOrder_179) (fun _ h9 => h9) rfl dX10_laysOrder_91 ?_
      refine lv_bipush (v := 6) hx hb dX10_laysOrder_94 (by decide) ?_
      refine lv_iload_n hx hb dX10_laysOrder_96 rfl (lv_at hl 2 rfl) ?_
      refine lv_imul hx hb dX10_laysOrder_97 ?_
      refine lv_iload hx hb dX10_laysOrder_98 (lv_at hl 4 rfl) ?_
      refine lv_iadd hx hb dX10_laysOrder_100 ?_
      refine lv_iload hx hb dX10_laysOrder_101 (lv_at hl 6 rfl) ?_
      obtain ⟨g3, h⟩ := dG_some h
      refine va_iast hx hb hK hP hD hS 16 0 rfl rfl (dg_in g3) dX10_laysOrder_103 (fun H locs hp hd hs => ?_)
      obtain ⟨q4, eq4, h⟩ := dL_some h
      refine kz_re (w2 := w10 ty ad q4) hp hd hs (by rw [← eq4]; exact w10_a16 ty ad q (Int32.toNatClampNeg ((6 * x1 : Int32) + x4)) x7) ?_
      clear hp hd hs hP hD hS
      intro hP hD hS
      refine lv_iinc (v := x4 + 1) (lv' := [(4, .int (x4 + 1)), (2, .int (x2 ||| (1 <<< ((x7 : Int32) &&& 31) : Int32))), (0, .ref (ad 0)), (1, .int x1), (3, .int x3), (6, .int x6), (7, .int x7)]) hx hb dX10_laysOrder_104 hl (k := 4) rfl rfl (by decide) rfl (fun ls hl => ?_)
      refine lv_goto (tgt := 7) hx hb dX10_laysOrder_107 (by decide) ?_
      exact hk7 _ _ _ _ _ _ _ _ h hP hD hS (lv_sub hl [2, 3, 1, 4, 0] rfl)
    · rw [if_neg c9] at h
      exact WX10_laysOrder_58 C0 hk7 hk44 _ _ _ _ _ _ _ _ _ _ h hP hD hS (lv_sub hl [0, 1, 2, 3, 4, 5, 6] rfl)
set_option maxHeartbeats 4000000 in
set_option maxRecDepth 100000 in
theorem WX10_laysOrder_44 {p : Program} {l : Launch} {e : Env} {s : State} {m : MethodId} {args : Array Value} {below : List Frame} {meth : Method} {c : Code} {D : va_G} {ty : Nat → ClassId} {eo : Nat → Nat} {A : Nat → Prop} {ad : Nat → Nat} {o2 : dS} (C : dc_C p s m args meth c cX10_laysOrder none 8 RX10 wsX10_laysOrder D ty eo A) {k7 : dS → Int32 → Int32 → Int32 → Int32 → Option (dS)} (hk7 : ∀ (q : dS) (x1 : Int32) (x2 : Int32) (x3 : Int32) (x4 : Int32) (H : Heap) (locs : List Loc) (ls : Array Slot), k7 q x1 x2 x3 x4 = some o2 → va_P D vwCl (w10 ty ad q) H → va_D A (w10 ty ad q) → va_S A s.heap H locs → lv_has ls 8 [(0, .ref (ad 0)), (1, .int x1), (2, .int x2), (3, .int x3), (4, .int x4)] → W p l e ({ frames := 1, cells := 0, slots := 0, locals := 22 } : Room) s m args below meth c H locs 0 0 (MQ below (va_Qv (fun (u : va_W) => w10 ty ad o2 = u) (kz_B D ty A) A) args s 0 0 A) (F0 m 7 ls [])) (n : Nat) (q : dS) (x1 : Int32) (x2 : Int32) (x3 : Int32) (x4 : Int32) (x6 : Int32) (x7 : Int32) (H : Heap) (locs : List Loc) (ls : Array Slot) (h : zX10_laysOrder_44 k7 n q x1 x2 x3 x4 x6 x7 = some o2) (hP : va_P D vwCl (w10 ty ad q) H) (hD : va_D A (w10 ty ad q)) (hS : va_S A s.heap H locs) (hl : lv_has ls 8 [(0, .ref (ad 0)), (1, .int x1), (2, .int x2), (3, .int x3), (4, .int x4), (6, .int x6), (7, .int x7)]) : W p l e ({ frames := 1, cells := 0, slots := 0, locals := 22 } : Room) s m args below meth c H locs 0 0 (MQ below (va_Qv (fun (u : va_W) => w10 ty ad o2 = u) (kz_B D ty A) A) args s 0 0 A) (F0 m 44 ls []) := by
  exact dFix_W (F := fun k (a : dS × Int32 × Int32 × Int32 × Int32 × Int32 × Int32) => zX10_laysOrder_44b k7 (fun q x1 x2 x3 x4 x6 x7 => k (q, x1, x2, x3, x4, x6, x7)) a.1 a.2.1 a.2.2.1 a.2.2.2.1 a.2.2.2.2.1 a.2.2.2.2.2.1 a.2.2.2.2.2.2) (o := o2) (P := fun (a : dS × Int32 × Int32 × Int32 × Int32 × Int32 × Int32) H locs ls => va_P D vwCl (w10 ty ad a.1) H ∧ va_D A (w10 ty ad a.1) ∧ va_S A s.heap H locs ∧ lv_has ls 8 [(0, .ref (ad 0)), (1, .int a.2.1), (2, .int a.2.2.1), (3, .int a.2.2.2.1), (4, .int a.2.2.2.2.1), (6, .int a.2.2.2.2.2.1), (7, .int a.2.2.2.2.2.2)]) (G := fun H locs ls => W p l e ({ frames := 1, cells := 0, slots := 0, locals := 22 } : Room) s m args below meth c H locs 0 0 (MQ below (va_Qv (fun (u : va_W) => w10 ty ad o2 = u) (kz_B D ty A) A) args s 0 0 A) (F0 m 44 ls []))
    (fun k hk a H locs ls h hp => WX10_laysOrder_44b C hk7 (fun q x1 x2 x3 x4 x6 x7 H locs ls h h1 h2 h3 h4 => hk (q, x1, x2, x3, x4, x6, x7) H locs ls h ⟨h1, h2, h3, h4⟩) a.1 a.2.1 a.2.2.1 a.2.2.2.1 a.2.2.2.2.1 a.2.2.2.2.2.1 a.2.2.2.2.2.2 H locs ls h hp.1 hp.2.1 hp.2.2.1 hp.2.2.2) n (q, x1, x2, x3, x4, x6, x7) H locs ls h ⟨hP, hD, hS, hl⟩
set_option maxHeartbeats 4000000 in
set_option maxRecDepth 100000 in
theorem WX10_laysOrder_7b {p : Program} {l : Launch} {e : Env} {s : State} {m : MethodId} {args : Array Value} {below : List Frame} {meth : Method} {c : Code} {D : va_G} {ty : Nat → ClassId} {eo : Nat → Nat} {A : Nat → Prop} {ad : Nat → Nat} {o2 : dS} (C : dc_C p s m args meth c cX10_laysOrder none 8 RX10 wsX10_laysOrder D ty eo A) {k7 : dS → Int32 → Int32 → Int32 → Int32 → Option (dS)} (hk7 : ∀ (q : dS) (x1 : Int32) (x2 : Int32) (x3 : Int32) (x4 : Int32) (H : Heap) (locs : List Loc) (ls : Array Slot), k7 q x1 x2 x3 x4 = some o2 → va_P D vwCl (w10 ty ad q) H → va_D A (w10 ty ad q) → va_S A s.heap H locs → lv_has ls 8 [(0, .ref (ad 0)), (1, .int x1), (2, .int x2), (3, .int x3), (4, .int x4)] → W p l e ({ frames := 1, cells := 0, slots := 0, locals := 22 } : Room) s m args below meth c H locs 0 0 (MQ below (va_Qv (fun (u : va_W) => w10 ty ad o2 = u) (kz_B D ty A) A) args s 0 0 A) (F0 m 7 ls [])) (q : dS) (x1 : Int32) (x2 : Int32) (x3 : Int32) (x4 : Int32) (H : Heap) (locs : List Loc) (ls : Array Slot) (h : zX10_laysOrder_7b k7 q x1 x2 x3 x4 = some o2) (hP : va_P D vwCl (w10 ty ad q) H) (hD : va_D A (w10 ty ad q)) (hS : va_S A s.heap H locs) (hl : lv_has ls 8 [(0, .ref (ad 0)), (1, .int x1), (2, .int x2), (3, .int x3), (4, .int x4)]) : W p l e ({ frames := 1, cells := 0, slots := 0, locals := 22 } : Room) s m args below meth c H locs 0 0 (MQ below (va_Qv (fun (u : va_W) => w10 ty ad o2 = u) (kz_B D ty A) A) args s 0 0 A) (F0 m 7 ls []) := by
  have C0 := C
  obtain ⟨hx, hb, hr, hts, hown, hlocks, hml, hK, hN, hE, hA⟩ := C
  unfold zX10_laysOrder_7b at h
  refine lv_iload hx hb dX10_laysOrder_7 (lv_at hl 4 rfl) ?_
  refine lv_aload_n hx hb dX10_laysOrder_9 rfl (lv_at hl 0 rfl) ?_
  obtain ⟨r1, q3, h2, h⟩ := dB_some h
  refine dw_ki (va_runV (As := []) (rest := [.int x4]) ⟨hx, hb, hml, hown, hts⟩ (qX10_size l D ty eo _ ad q  r1 q3 h2) (cwV 0 hts gX10_laysOrder_X10_size rfl rfl rfl hd_X10_size_v ⟨Nat.le_of_ble_eq_true rfl, Nat.le_of_ble_eq_true rfl⟩) (pv10_10_0 hK hN hE hP hD hS hA) rfl rfl hl.1 rfl (lv_room (Nat.le_of_ble_eq_true rfl)) dX10_laysOrder_10 ⟨Nat.le_of_ble_eq_true rfl, Nat.le_of_ble_eq_true rfl⟩) hD hS hA (fun r9 u9 H locs hw hp hd hs => ?_)
  clear hP hD hS
  obtain ⟨rfl, rfl⟩ := hw
  have hP := hp; have hD := hd; have hS := hs; clear hp hd hs
  refine lv_icmp_ge (tgt := 110) hx hb dX10_laysOrder_13 (by decide) (fun c9 => ?_) (fun c9 => ?_)
  · rw [if_pos c9] at h
    cases h
    exact kz_vret hx hb hr hlocks hP hK hD hS dX10_laysOrder_110 rfl
  · rw [if_neg c9] at h
    refine lv_aload_n hx hb dX10_laysOrder_16 rfl (lv_at hl 0 rfl) ?_
    obtain ⟨r4, q6, h5, h⟩ := dB_some h
    refine dw_ki (va_runV (As := []) (rest := []) ⟨hx, hb, hml, hown, hts⟩ (qX10_size l D ty eo _ ad q3  r4 q6 h5) (cwV 0 hts gX10_laysOrder_X10_size rfl rfl rfl hd_X10_size_v ⟨Nat.le_of_ble_eq_true rfl, Nat.le_of_ble_eq_true rfl⟩) (pv10_10_0 hK hN hE hP hD hS hA) rfl rfl hl.1 rfl (lv_room (Nat.le_of_ble_eq_true rfl)) dX10_laysOrder_17 ⟨Nat.le_of_ble_eq_true rfl, Nat.le_of_ble_eq_true rfl⟩) hD hS hA (fun r9 u9 H locs hw hp hd hs => ?_)
    clear hP hD hS
    obtain ⟨rfl, rfl⟩ := hw
    have hP := hp; have hD := hd; have hS := hs; clear hp hd hs
    refine lv_iconst (v := 1) hx hb dX10_laysOrder_20 (by decide) ?_
    refine lv_isub hx hb dX10_laysOrder_21 ?_
    refine lv_iload hx hb dX10_laysOrder_22 (lv_at hl 4 rfl) ?_
    refine lv_isub hx hb dX10_laysOrder_24 ?_
    obtain ⟨r7, h8, h⟩ := dV_some h
    refine dw_ks (va_runS (As := [.int ((r4 - 1 : Int32) - x4)]) (rest := []) ⟨hx, hb, hml, hown, hts⟩ (qX10_allOrders l D ty eo _ ((r4 - 1 : Int32) - x4) _ h8) (va_cwS 1 hts gX10_laysOrder_X10_allOrders rfl rfl rfl hd_X10_allOrders ⟨Nat.le_of_ble_eq_true rfl, Nat.le_of_ble_eq_true rfl⟩) (pvS_0 hK hN hE hP hD hS hA) rfl rfl hl.1 rfl (lv_room (Nat.le_of_ble_eq_true rfl)) dX10_laysOrder_25 ⟨Nat.le_of_ble_eq_true rfl, Nat.le_of_ble_eq_true rfl⟩) hP hD hS hA (fun _ _ h9 => h9.2.symm) (fun r9 u9 H locs hw hp hd hs => ?_)
    obtain ⟨rfl, -⟩ := hw
    clear hP hD hS
    have hP := hp; have hD := hd; have hS := hs; clear hp hd hs
    refine lv_istore (lv' := [(5, .int r7), (0, .ref (ad 0)), (1, .int x1), (2, .int x2), (3, .int x3), (4, .int x4)]) hx hb dX10_laysOrder_28 hl (by decide) rfl (fun ls hl => ?_)
    refine lv_iload_n hx hb dX10_laysOrder_30 rfl (lv_at hl 4 rfl) ?_
    refine lv_iload hx hb dX10_laysOrder_31 (lv_at hl 0 rfl) ?_
    obtain ⟨g9, h⟩ := dG_some h
    refine lv_idiv hx hb dX10_laysOrder_33 (dnz_ne g9) ?_
    refine lv_istore (lv' := [(6, .int (x3 / r7)), (5, .int r7), (0, .ref (ad 0)), (1, .int x1), (2, .int x2), (3, .int x3), (4, .int x4)]) hx hb dX10_laysOrder_34 hl (by decide) rfl (fun ls hl => ?_)
    refine lv_iload_n hx hb dX10_laysOrder_36 rfl (lv_at hl 5 rfl) ?_
    refine lv_iload hx hb dX10_laysOrder_37 (lv_at hl 1 rfl) ?_
    obtain ⟨g10, h⟩ := dG_some h
    refine lv_irem hx hb dX10_laysOrder_39 (dnz_ne g10) ?_
    refine lv_istore_n (lv' := [(3, .int (x3 - x3 / r7 * r7)), (6, .int (x3 / r7)), (5, .int r7), (0, .ref (ad 0)), (1, .int x1), (2, .int x2), (4, .int x4)]) hx hb dX10_laysOrder_40 rfl hl (by decide) rfl (fun ls hl => ?_)
    refine lv_iconst (v := 0) hx hb dX10_laysOrder_41 (by decide) ?_
    refine lv_istore (lv' := [(7, .int 0), (3, .int (x3 - x3 / r7 * r7)), (6, .int (x3 / r7)), (5, .int r7), (0, .ref (ad 0)), (1, .int x1), (2, .int x2), (4, .int x4)]) hx hb dX10_laysOrder_42 hl (by decide) rfl (fun ls hl => ?_)
    exact WX10_laysOrder_44 C0 hk7 _ _ _ _ _ _ _ _ _ _ _ h hP hD hS (lv_sub hl [4, 5, 6, 1, 7, 2, 0] rfl)
set_option maxHeartbeats 4000000 in
set_option maxRecDepth 100000 in
theorem WX10_laysOrder_7 {p : Program} {l : Launch} {e : Env} {s : State} {m : MethodId} {args : Array Value} {below : List Frame} {meth : Method} {c : Code} {D : va_G} {ty : Nat → ClassId} {eo : Nat → Nat} {A : Nat → Prop} {ad : Nat → Nat} {o2 : dS} (C : dc_C p s m args meth c cX10_laysOrder none 8 RX10 wsX10_laysOrder D ty eo A)   (n : Nat) (q : dS) (x1 : Int32) (x2 : Int32) (x3 : Int32) (x4 : Int32) (H : Heap) (locs : List Loc) (ls : Array Slot) (h : zX10_laysOrder_7  n q x1 x2 x3 x4 = some o2) (hP : va_P D vwCl (w10 ty ad q) H) (hD : va_D A (w10 ty ad q)) (hS : va_S A s.heap H locs) (hl : lv_has ls 8 [(0, .ref (ad 0)), (1, .int x1), (2, .int x2), (3, .int x3), (4, .int x4)]) : W p l e ({ frames := 1, cells := 0, slots := 0, locals := 22 } : Room) s m args below meth c H locs 0 0 (MQ below (va_Qv (fun (u : va_W) => w10 ty ad o2 = u) (kz_B D ty A) A) args s 0 0 A) (F0 m 7 ls []) := by
  exact dFix_W (F := fun k (a : dS × Int32 × Int32 × Int32 × Int32) => zX10_laysOrder_7b  (fun q x1 x2 x3 x4 => k (q, x1, x2, x3, x4)) a.1 a.2.1 a.2.2.1 a.2.2.2.1 a.2.2.2.2) (o := o2) (P := fun (a : dS × Int32 × Int32 × Int32 × Int32) H locs ls => va_P D vwCl (w10 ty ad a.1) H ∧ va_D A (w10 ty ad a.1) ∧ va_S A s.heap H locs ∧ lv_has ls 8 [(0, .ref (ad 0)), (1, .int a.2.1), (2, .int a.2.2.1), (3, .int a.2.2.2.1), (4, .int a.2.2.2.2)]) (G := fun H locs ls => W p l e ({ frames := 1, cells := 0, slots := 0, locals := 22 } : Room) s m args below meth c H locs 0 0 (MQ below (va_Qv (fun (u : va_W) => w10 ty ad o2 = u) (kz_B D ty A) A) args s 0 0 A) (F0 m 7 ls []))
    (fun k hk a H locs ls h hp => WX10_laysOrder_7b C  (fun q x1 x2 x3 x4 H locs ls h h1 h2 h3 h4 => hk (q, x1, x2, x3, x4) H locs ls h ⟨h1, h2, h3, h4⟩) a.1 a.2.1 a.2.2.1 a.2.2.2.1 a.2.2.2.2 H locs ls h hp.1 hp.2.1 hp.2.2.1 hp.2.2.2) n (q, x1, x2, x3, x4) H locs ls h ⟨hP, hD, hS, hl⟩
set_option maxHeartbeats 4000000 in
set_option maxRecDepth 100000 in
theorem qX10_laysOrder (l : Launch) (D : va_G) (ty : Nat → ClassId) (eo : Nat → Nat) (sz : Nat) (ad : Nat → Nat) (q : dS) (p1 : Int32) (o2 : dS) (h : zX10_laysOrder q p1 = some o2) : Met l yX10_laysOrder wsX10_laysOrder ({ frames := 1, cells := 0, slots := 0, locals := 22 } : Room) (va_Pc [.ref (ad 0), .int p1] (kz_pre D ty eo (w10 ty ad q) sz)) (va_Qv (fun (u : va_W) => w10 ty ad o2 = u) (kz_B D ty (va_A (w10 ty ad q) sz)) (va_A (w10 ty ad q) sz)) 0 0 (va_A (w10 ty ad q) sz) := by
  refine Met.ofW (cc := cX10_laysOrder) (maxL := 8) (ret := none) (by decide) rfl ?_
  intro p e s m args below meth c s₁ B hml hv
  obtain ⟨rfl, hsz, hP, hK, hD0, hN, hE⟩ := hv
  have hx := B.exec
  have hb := B.bytes
  have hr := B.returns
  have hts := atoms_spec (ws := wsX10_laysOrder) B.pre
  have hown : s.vm.findClass RX10 = some m.cls := findClass_of_methodNamed B.named
  have hlocks := B.notSynchronized
  subst hsz
  have hD := hD0.self (sz := s.heap.size)
  generalize hAe : va_A (w10 ty ad q) s.heap.size = A at hD hE ⊢
  have hA : ∀ q : Nat, s.heap.size ≤ q → A q := fun q h => by rw [← hAe]; exact Or.inr h
  clear hAe
  have hS : va_S A s.heap s.heap [] := va_S.rf
  have hl := lv_entry ([.ref (ad 0), .int p1]) (n := 8) (Nat.le_of_ble_eq_true rfl)
  rw [lg_entry_eq]
  generalize (lg_sl ([.ref (ad 0), .int p1]) ++ List.replicate (8 - (lg_sl ([.ref (ad 0), .int p1])).length) Slot.unset).toArray = ls at hl ⊢
  have hl : lv_has ls 8 [(0, .ref (ad 0)), (1, .int p1)] := hl
  have C : dc_C p s m _ meth c cX10_laysOrder none 8 RX10 wsX10_laysOrder D ty eo A := ⟨hx, hb, hr, hts, hown, hlocks, hml, hK, hN, hE, hA⟩
  unfold zX10_laysOrder at h
  refine lv_iconst (v := 0) hx hb dX10_laysOrder_0 (by decide) ?_
  refine lv_istore_n (lv' := [(2, .int 0), (0, .ref (ad 0)), (1, .int p1)]) hx hb dX10_laysOrder_1 rfl hl (by decide) rfl (fun ls hl => ?_)
  refine lv_iload_n hx hb dX10_laysOrder_2 rfl (lv_at hl 2 rfl) ?_
  refine lv_istore_n (lv' := [(3, .int p1), (2, .int 0), (0, .ref (ad 0)), (1, .int p1)]) hx hb dX10_laysOrder_3 rfl hl (by decide) rfl (fun ls hl => ?_)
  refine lv_iconst (v := 0) hx hb dX10_laysOrder_4 (by decide) ?_
  refine lv_istore (lv' := [(4, .int 0), (3, .int p1), (2, .int 0), (0, .ref (ad 0)), (1, .int p1)]) hx hb dX10_laysOrder_5 hl (by decide) rfl (fun ls hl => ?_)
  exact WX10_laysOrder_7 C  _ _ _ _ _ _ _ _ _ h hP hD hS (lv_sub hl [3, 4, 2, 1, 0] rfl)

set_option maxHeartbeats 4000000 in
set_option maxRecDepth 100000 in
theorem WX10_headsBehind_42 {p : Program} {l : Launch} {e : Env} {s : State} {m : MethodId} {args : Array Value} {below : List Frame} {meth : Method} {c : Code} {D : va_G} {ty : Nat → ClassId} {eo : Nat → Nat} {A : Nat → Prop} {ad : Nat → Nat} {o1 : Int32} {o2 : dS} (C : dc_C p s m args meth c cX10_headsBehind (some .int) 5 RX10 wsX10_headsBehind D ty eo A) {k5 : dS → Int32 → Int32 → Int32 → Int32 → Option (Int32 × dS)} (hk5 : ∀ (q : dS) (x1 : Int32) (x2 : Int32) (x3 : Int32) (x4 : Int32) (H : Heap) (locs : List Loc) (ls : Array Slot), k5 q x1 x2 x3 x4 = some (o1, o2) → va_P D vwCl (w10 ty ad q) H → va_D A (w10 ty ad q) → va_S A s.heap H locs → lv_has ls 5 [(0, .ref (ad 0)), (1, .int x1), (2, .int x2), (3, .int x3), (4, .int x4)] → W p l e ({ frames := 1, cells := 0, slots := 0, locals := 20 } : Room) s m args below meth c H locs 0 0 (MQ below (va_Qi (fun (r : Int32) (u : va_W) => o1 = r ∧ w10 ty ad o2 = u) (kz_B D ty A) A) args s 0 0 A) (F0 m 5 ls [])) (q : dS) (x1 : Int32) (x2 : Int32) (x4 : Int32) (y0 : Int32) (y1 : Int32) (H : Heap) (locs : List Loc) (ls : Array Slot) (h : zX10_headsBehind_42 k5 q x1 x2 x4 y0 y1 = some (o1, o2)) (hP : va_P D vwCl (w10 ty ad q) H) (hD : va_D A (w10 ty ad q)) (hS : va_S A s.heap H locs) (hl : lv_has ls 5 [(0, .ref (ad 0)), (1, .int x1), (2, .int x2), (4, .int x4)]) : W p l e ({ frames := 1, cells := 0, slots := 0, locals := 20 } : Room) s m args below meth c H locs 0 0 (MQ below (va_Qi (fun (r : Int32) (u : va_W) => o1 = r ∧ w10 ty ad o2 = u) (kz_B D ty A) A) args s 0 0 A) (F0 m 42 ls [.int y0, .int y1]) := by
  have C0 := C
  obtain ⟨hx, hb, hr, hts, hown, hlocks, hml, hK, hN, hE, hA⟩ := C
  unfold zX10_headsBehind_42 at h
  refine lv_iload hx hb dX10_headsBehind_42 (lv_at hl 3 rfl) ?_
  refine lv_ishl hx hb dX10_headsBehind_44 ?_
  refine lv_ior hx hb dX10_headsBehind_45 ?_
  refine lv_istore_n (lv' := [(3, .int (y1 ||| (y0 <<< ((x4 : Int32) &&& 31)))), (0, .ref (ad 0)), (1, .int x1), (2, .int x2), (4, .int x4)]) hx hb dX10_headsBehind_46 rfl hl (by decide) rfl (fun ls hl => ?_)
  refine lv_iinc (v := x4 + 1) (lv' := [(4, .int (x4 + 1)), (3, .int (y1 ||| (y0 <<< ((x4 : Int32) &&& 31)))), (0, .ref (ad 0)), (1, .int x1), (2, .int x2)]) hx hb dX10_headsBehind_47 hl (k := 4) rfl rfl (by decide) rfl (fun ls hl => ?_)
  refine lv_goto (tgt := 5) hx hb dX10_headsBehind_50 (by decide) ?_
  exact hk5 _ _ _ _ _ _ _ _ h hP hD hS (lv_sub hl [2, 3, 4, 1, 0] rfl)
set_option maxHeartbeats 4000000 in
set_option maxRecDepth 100000 in
theorem WX10_headsBehind_5b {p : Program} {l : Launch} {e : Env} {s : State} {m : MethodId} {args : Array Value} {below : List Frame} {meth : Method} {c : Code} {D : va_G} {ty : Nat → ClassId} {eo : Nat → Nat} {A : Nat → Prop} {ad : Nat → Nat} {o1 : Int32} {o2 : dS} (C : dc_C p s m args meth c cX10_headsBehind (some .int) 5 RX10 wsX10_headsBehind D ty eo A) {k5 : dS → Int32 → Int32 → Int32 → Int32 → Option (Int32 × dS)} (hk5 : ∀ (q : dS) (x1 : Int32) (x2 : Int32) (x3 : Int32) (x4 : Int32) (H : Heap) (locs : List Loc) (ls : Array Slot), k5 q x1 x2 x3 x4 = some (o1, o2) → va_P D vwCl (w10 ty ad q) H → va_D A (w10 ty ad q) → va_S A s.heap H locs → lv_has ls 5 [(0, .ref (ad 0)), (1, .int x1), (2, .int x2), (3, .int x3), (4, .int x4)] → W p l e ({ frames := 1, cells := 0, slots := 0, locals := 20 } : Room) s m args below meth c H locs 0 0 (MQ below (va_Qi (fun (r : Int32) (u : va_W) => o1 = r ∧ w10 ty ad o2 = u) (kz_B D ty A) A) args s 0 0 A) (F0 m 5 ls [])) (q : dS) (x1 : Int32) (x2 : Int32) (x3 : Int32) (x4 : Int32) (H : Heap) (locs : List Loc) (ls : Array Slot) (h : zX10_headsBehind_5b k5 q x1 x2 x3 x4 = some (o1, o2)) (hP : va_P D vwCl (w10 ty ad q) H) (hD : va_D A (w10 ty ad q)) (hS : va_S A s.heap H locs) (hl : lv_has ls 5 [(0, .ref (ad 0)), (1, .int x1), (2, .int x2), (3, .int x3), (4, .int x4)]) : W p l e ({ frames := 1, cells := 0, slots := 0, locals := 20 } : Room) s m args below meth c H locs 0 0 (MQ below (va_Qi (fun (r : Int32) (u : va_W) => o1 = r ∧ w10 ty ad o2 = u) (kz_B D ty A) A) args s 0 0 A) (F0 m 5 ls []) := by
  have C0 := C
  obtain ⟨hx, hb, hr, hts, hown, hlocks, hml, hK, hN, hE, hA⟩ := C
  unfold zX10_headsBehind_5b at h
  refine lv_iload hx hb dX10_headsBehind_5 (lv_at hl 4 rfl) ?_
  refine lv_aload_n hx hb dX10_headsBehind_7 rfl (lv_at hl 0 rfl) ?_
  obtain ⟨r1, q3, h2, h⟩ := dB_some h
  refine dw_ki (va_runV (As := []) (rest := [.int x4]) ⟨hx, hb, hml, hown, hts⟩ (qX10_size l D ty eo _ ad q  r1 q3 h2) (cwV 0 hts gX10_headsBehind_X10_size rfl rfl rfl hd_X10_size_v ⟨Nat.le_of_ble_eq_true rfl, Nat.le_of_ble_eq_true rfl⟩) (pv10_10_0 hK hN hE hP hD hS hA) rfl rfl hl.1 rfl (lv_room (Nat.le_of_ble_eq_true rfl)) dX10_headsBehind_8 ⟨Nat.le_of_ble_eq_true rfl, Nat.le_of_ble_eq_true rfl⟩) hD hS hA (fun r9 u9 H locs hw hp hd hs => ?_)
  clear hP hD hS
  obtain ⟨rfl, rfl⟩ := hw
  have hP := hp; have hD := hd; have hS := hs; clear hp hd hs
  refine lv_icmp_ge (tgt := 53) hx hb dX10_headsBehind_11 (by decide) (fun c9 => ?_) (fun c9 => ?_)
  · rw [if_pos c9] at h
    refine lv_iload_n hx hb dX10_headsBehind_53 rfl (lv_at hl 3 rfl) ?_
    cases h
    exact kz_iret hx hb hr hlocks hP hK hD hS dX10_headsBehind_54 ⟨rfl, rfl⟩
  · rw [if_neg c9] at h
    refine lv_iload_n hx hb dX10_headsBehind_14 rfl (lv_at hl 3 rfl) ?_
    refine lv_iload hx hb dX10_headsBehind_15 (lv_at hl 4 rfl) ?_
    refine lv_iload_n hx hb dX10_headsBehind_17 rfl (lv_at hl 2 rfl) ?_
    refine lv_icmp_ge (tgt := 36) hx hb dX10_headsBehind_18 (by decide) (fun c9 => ?_) (fun c9 => ?_)
    · rw [if_pos c9] at h
      refine lv_iload_n hx hb dX10_headsBehind_36 rfl (lv_at hl 1 rfl) ?_
      refine lv_iload hx hb dX10_headsBehind_37 (lv_at hl 4 rfl) ?_
      refine lv_ishr hx hb dX10_headsBehind_39 ?_
      refine lv_iconst (v := 1) hx hb dX10_headsBehind_40 (by decide) ?_
      refine lv_iand hx hb dX10_headsBehind_41 ?_
      exact WX10_headsBehind_42 C0 hk5 _ _ _ _ _ _ _ _ _ h hP hD hS (lv_sub hl [0, 1, 2, 4] rfl)
    · rw [if_neg c9] at h
      refine lv_iconst (v := 1) hx hb dX10_headsBehind_21 (by decide) ?_
      refine lv_iload_n hx hb dX10_headsBehind_22 rfl (lv_at hl 1 rfl) ?_
      refine lv_iload_n hx hb dX10_headsBehind_23 rfl (lv_at hl 2 rfl) ?_
      refine lv_iconst (v := 1) hx hb dX10_headsBehind_24 (by decide) ?_
      refine lv_isub hx hb dX10_headsBehind_25 ?_
      refine lv_iload hx hb dX10_headsBehind_26 (lv_at hl 4 rfl) ?_
      refine lv_isub hx hb dX10_headsBehind_28 ?_
      refine lv_ishr hx hb dX10_headsBehind_29 ?_
      refine lv_iconst (v := 1) hx hb dX10_headsBehind_30 (by decide) ?_
      refine lv_iand hx hb dX10_headsBehind_31 ?_
      obtain ⟨v4, ev4, h⟩ := dL_some h
      refine kz_topi v4 ev4 ?_
      refine lv_isub hx hb dX10_headsBehind_32 ?_
      refine lv_goto (tgt := 42) hx hb dX10_headsBehind_33 (by decide) ?_
      exact WX10_headsBehind_42 C0 hk5 _ _ _ _ _ _ _ _ _ h hP hD hS (lv_sub hl [0, 1, 2, 4] rfl)
set_option maxHeartbeats 4000000 in
set_option maxRecDepth 100000 in
theorem WX10_headsBehind_5 {p : Program} {l : Launch} {e : Env} {s : State} {m : MethodId} {args : Array Value} {below : List Frame} {meth : Method} {c : Code} {D : va_G} {ty : Nat → ClassId} {eo : Nat → Nat} {A : Nat → Prop} {ad : Nat → Nat} {o1 : Int32} {o2 : dS} (C : dc_C p s m args meth c cX10_headsBehind (some .int) 5 RX10 wsX10_headsBehind D ty eo A)   (n : Nat) (q : dS) (x1 : Int32) (x2 : Int32) (x3 : Int32) (x4 : Int32) (H : Heap) (locs : List Loc) (ls : Array Slot) (h : zX10_headsBehind_5  n q x1 x2 x3 x4 = some (o1, o2)) (hP : va_P D vwCl (w10 ty ad q) H) (hD : va_D A (w10 ty ad q)) (hS : va_S A s.heap H locs) (hl : lv_has ls 5 [(0, .ref (ad 0)), (1, .int x1), (2, .int x2), (3, .int x3), (4, .int x4)]) : W p l e ({ frames := 1, cells := 0, slots := 0, locals := 20 } : Room) s m args below meth c H locs 0 0 (MQ below (va_Qi (fun (r : Int32) (u : va_W) => o1 = r ∧ w10 ty ad o2 = u) (kz_B D ty A) A) args s 0 0 A) (F0 m 5 ls []) := by
  exact dFix_W (F := fun k (a : dS × Int32 × Int32 × Int32 × Int32) => zX10_headsBehind_5b  (fun q x1 x2 x3 x4 => k (q, x1, x2, x3, x4)) a.1 a.2.1 a.2.2.1 a.2.2.2.1 a.2.2.2.2) (o := (o1, o2)) (P := fun (a : dS × Int32 × Int32 × Int32 × Int32) H locs ls => va_P D vwCl (w10 ty ad a.1) H ∧ va_D A (w10 ty ad a.1) ∧ va_S A s.heap H locs ∧ lv_has ls 5 [(0, .ref (ad 0)), (1, .int a.2.1), (2, .int a.2.2.1), (3, .int a.2.2.2.1), (4, .int a.2.2.2.2)]) (G := fun H locs ls => W p l e ({ frames := 1, cells := 0, slots := 0, locals := 20 } : Room) s m args below meth c H locs 0 0 (MQ below (va_Qi (fun (r : Int32) (u : va_W) => o1 = r ∧ w10 ty ad o2 = u) (kz_B D ty A) A) args s 0 0 A) (F0 m 5 ls []))
    (fun k hk a H locs ls h hp => WX10_headsBehind_5b C  (fun q x1 x2 x3 x4 H locs ls h h1 h2 h3 h4 => hk (q, x1, x2, x3, x4) H locs ls h ⟨h1, h2, h3, h4⟩) a.1 a.2.1 a.2.2.1 a.2.2.2.1 a.2.2.2.2 H locs ls h hp.1 hp.2.1 hp.2.2.1 hp.2.2.2) n (q, x1, x2, x3, x4) H locs ls h ⟨hP, hD, hS, hl⟩
set_option maxHeartbeats 4000000 in
set_option maxRecDepth 100000 in
theorem qX10_headsBehind (l : Launch) (D : va_G) (ty : Nat → ClassId) (eo : Nat → Nat) (sz : Nat) (ad : Nat → Nat) (q : dS) (p1 : Int32) (p2 : Int32) (o1 : Int32) (o2 : dS) (h : zX10_headsBehind q p1 p2 = some (o1, o2)) : Met l yX10_headsBehind wsX10_headsBehind ({ frames := 1, cells := 0, slots := 0, locals := 20 } : Room) (va_Pc [.ref (ad 0), .int p1, .int p2] (kz_pre D ty eo (w10 ty ad q) sz)) (va_Qi (fun (r : Int32) (u : va_W) => o1 = r ∧ w10 ty ad o2 = u) (kz_B D ty (va_A (w10 ty ad q) sz)) (va_A (w10 ty ad q) sz)) 0 0 (va_A (w10 ty ad q) sz) := by
  refine Met.ofW (cc := cX10_headsBehind) (maxL := 5) (ret := (some .int)) (by decide) rfl ?_
  intro p e s m args below meth c s₁ B hml hv
  obtain ⟨rfl, hsz, hP, hK, hD0, hN, hE⟩ := hv
  have hx := B.exec
  have hb := B.bytes
  have hr := B.returns
  have hts := atoms_spec (ws := wsX10_headsBehind) B.pre
  have hown : s.vm.findClass RX10 = some m.cls := findClass_of_methodNamed B.named
  have hlocks := B.notSynchronized
  subst hsz
  have hD := hD0.self (sz := s.heap.size)
  generalize hAe : va_A (w10 ty ad q) s.heap.size = A at hD hE ⊢
  have hA : ∀ q : Nat, s.heap.size ≤ q → A q := fun q h => by rw [← hAe]; exact Or.inr h
  clear hAe
  have hS : va_S A s.heap s.heap [] := va_S.rf
  have hl := lv_entry ([.ref (ad 0), .int p1, .int p2]) (n := 5) (Nat.le_of_ble_eq_true rfl)
  rw [lg_entry_eq]
  generalize (lg_sl ([.ref (ad 0), .int p1, .int p2]) ++ List.replicate (5 - (lg_sl ([.ref (ad 0), .int p1, .int p2])).length) Slot.unset).toArray = ls at hl ⊢
  have hl : lv_has ls 5 [(0, .ref (ad 0)), (1, .int p1), (2, .int p2)] := hl
  have C : dc_C p s m _ meth c cX10_headsBehind (some .int) 5 RX10 wsX10_headsBehind D ty eo A := ⟨hx, hb, hr, hts, hown, hlocks, hml, hK, hN, hE, hA⟩
  unfold zX10_headsBehind at h
  refine lv_iconst (v := 0) hx hb dX10_headsBehind_0 (by decide) ?_
  refine lv_istore_n (lv' := [(3, .int 0), (0, .ref (ad 0)), (1, .int p1), (2, .int p2)]) hx hb dX10_headsBehind_1 rfl hl (by decide) rfl (fun ls hl => ?_)
  refine lv_iconst (v := 0) hx hb dX10_headsBehind_2 (by decide) ?_
  refine lv_istore (lv' := [(4, .int 0), (3, .int 0), (0, .ref (ad 0)), (1, .int p1), (2, .int p2)]) hx hb dX10_headsBehind_3 hl (by decide) rfl (fun ls hl => ?_)
  exact WX10_headsBehind_5 C  _ _ _ _ _ _ _ _ _ h hP hD hS (lv_sub hl [2, 3, 4, 1, 0] rfl)

set_option maxHeartbeats 4000000 in
set_option maxRecDepth 100000 in
theorem WX10_laysTables_131b {p : Program} {l : Launch} {e : Env} {s : State} {m : MethodId} {args : Array Value} {below : List Frame} {meth : Method} {c : Code} {D : va_G} {ty : Nat → ClassId} {eo : Nat → Nat} {A : Nat → Prop} {ad : Nat → Nat} {o2 : dS} (C : dc_C p s m args meth c cX10_laysTables none 4 RX10 wsX10_laysTables D ty eo A) {k121 : dS → Int32 → Option (dS)} {k131 : dS → Int32 → Int32 → Option (dS)} (hk121 : ∀ (q : dS) (x1 : Int32) (H : Heap) (locs : List Loc) (ls : Array Slot), k121 q x1 = some o2 → va_P D vwCl (w10 ty ad q) H → va_D A (w10 ty ad q) → va_S A s.heap H locs → lv_has ls 4 [(0, .ref (ad 0)), (1, .int x1)] → W p l e ({ frames := 2, cells := 0, slots := 0, locals := 49 } : Room) s m args below meth c H locs 0 0 (MQ below (va_Qv (fun (u : va_W) => w10 ty ad o2 = u) (kz_B D ty A) A) args s 0 0 A) (F0 m 121 ls [])) (hk131 : ∀ (q : dS) (x1 : Int32) (x2 : Int32) (H : Heap) (locs : List Loc) (ls : Array Slot), k131 q x1 x2 = some o2 → va_P D vwCl (w10 ty ad q) H → va_D A (w10 ty ad q) → va_S A s.heap H locs → lv_has ls 4 [(0, .ref (ad 0)), (1, .int x1), (2, .int x2)] → W p l e ({ frames := 2, cells := 0, slots := 0, locals := 49 } : Room) s m args below meth c H locs 0 0 (MQ below (va_Qv (fun (u : va_W) => w10 ty ad o2 = u) (kz_B D ty A) A) args s 0 0 A) (F0 m 131 ls [])) (q : dS) (x1 : Int32) (x2 : Int32) (H : Heap) (locs : List Loc) (ls : Array Slot) (h : zX10_laysTables_131b k121 k131 q x1 x2 = some o2) (hP : va_P D vwCl (w10 ty ad q) H) (hD : va_D A (w10 ty ad q)) (hS : va_S A s.heap H locs) (hl : lv_has ls 4 [(0, .ref (ad 0)), (1, .int x1), (2, .int x2)]) : W p l e ({ frames := 2, cells := 0, slots := 0, locals := 49 } : Room) s m args below meth c H locs 0 0 (MQ below (va_Qv (fun (u : va_W) => w10 ty ad o2 = u) (kz_B D ty A) A) args s 0 0 A) (F0 m 131 ls []) := by
  have C0 := C
  obtain ⟨hx, hb, hr, hts, hown, hlocks, hml, hK, hN, hE, hA⟩ := C
  unfold zX10_laysTables_131b at h
  refine lv_iload_n hx hb dX10_laysTables_131 rfl (lv_at hl 2 rfl) ?_
  refine lv_aload_n hx hb dX10_laysTables_132 rfl (lv_at hl 0 rfl) ?_
  obtain ⟨r1, q3, h2, h⟩ := dB_some h
  refine dw_ki (va_runV (As := []) (rest := [.int x2]) ⟨hx, hb, hml, hown, hts⟩ (qX10_size l D ty eo _ ad q  r1 q3 h2) (cwV 0 hts gX10_laysTables_X10_size rfl rfl rfl hd_X10_size_v ⟨Nat.le_of_ble_eq_true rfl, Nat.le_of_ble_eq_true rfl⟩) (pv10_10_0 hK hN hE hP hD hS hA) rfl rfl hl.1 rfl (lv_room (Nat.le_of_ble_eq_true rfl)) dX10_laysTables_133 ⟨Nat.le_of_ble_eq_true rfl, Nat.le_of_ble_eq_true rfl⟩) hD hS hA (fun r9 u9 H locs hw hp hd hs => ?_)
  clear hP hD hS
  obtain ⟨rfl, rfl⟩ := hw
  have hP := hp; have hD := hd; have hS := hs; clear hp hd hs
  refine lv_icmp_gt (tgt := 162) hx hb dX10_laysTables_136 (by decide) (fun c9 => ?_) (fun c9 => ?_)
  · rw [if_pos c9] at h
    refine lv_iinc (v := x1 + 1) (lv' := [(1, .int (x1 + 1)), (0, .ref (ad 0)), (2, .int x2)]) hx hb dX10_laysTables_162 hl (k := 1) rfl rfl (by decide) rfl (fun ls hl => ?_)
    refine lv_goto (tgt := 121) hx hb dX10_laysTables_165 (by decide) ?_
    exact hk121 _ _ _ _ _ h hP hD hS (lv_sub hl [1, 0] rfl)
  · rw [if_neg c9] at h
    refine lv_aload_n hx hb dX10_laysTables_139 rfl (lv_at hl 0 rfl) ?_
    refine va_get (D := D) (ci := 10) (v := .ref (ad 18)) (C := RX10) (T := TX10) (N := 56) hx hb hts u9_wsX10_laysTables_X10 hown hK hP 0 rfl rfl 35 (by decide) (hts (.fieldLink RX10 81 "TurnedFloorsModel" "headsBy" "[I") f9_wsX10_laysTables_181) (fun _ h9 => h9) rfl dX10_laysTables_140 ?_
    refine lv_bipush (v := 7) hx hb dX10_laysTables_143 (by decide) ?_
    refine lv_iload_n hx hb dX10_laysTables_145 rfl (lv_at hl 1 rfl) ?_
    refine lv_imul hx hb dX10_laysTables_146 ?_
    refine lv_iload_n hx hb dX10_laysTables_147 rfl (lv_at hl 2 rfl) ?_
    refine lv_iadd hx hb dX10_laysTables_148 ?_
    refine lv_aload_n hx hb dX10_laysTables_149 rfl (lv_at hl 0 rfl) ?_
    refine lv_iload_n hx hb dX10_laysTables_150 rfl (lv_at hl 1 rfl) ?_
    refine lv_iload_n hx hb dX10_laysTables_151 rfl (lv_at hl 2 rfl) ?_
    obtain ⟨r4, q6, h5, h⟩ := dB_some h
    refine dw_ki (va_runV (As := [.int x1, .int x2]) (rest := [.int ((7 * x1 : Int32) + x2), .ref (ad 18)]) ⟨hx, hb, hml, hown, hts⟩ (qX10_headsBehind l D ty eo _ ad q3 x1 x2 r4 q6 h5) (cwV 2 hts gX10_laysTables_X10_headsBehind rfl rfl rfl hd_X10_headsBehind_v ⟨Nat.le_of_ble_eq_true rfl, Nat.le_of_ble_eq_true rfl⟩) (pv10_10_0 hK hN hE hP hD hS hA) rfl rfl hl.1 rfl (lv_room (Nat.le_of_ble_eq_true rfl)) dX10_laysTables_152 ⟨Nat.le_of_ble_eq_true rfl, Nat.le_of_ble_eq_true rfl⟩) hD hS hA (fun r9 u9 H locs hw hp hd hs => ?_)
    clear hP hD hS
    obtain ⟨rfl, rfl⟩ := hw
    have hP := hp; have hD := hd; have hS := hs; clear hp hd hs
    obtain ⟨g7, h⟩ := dG_some h
    refine va_iast hx hb hK hP hD hS 18 0 rfl rfl (dg_in g7) dX10_laysTables_155 (fun H locs hp hd hs => ?_)
    obtain ⟨q8, eq8, h⟩ := dL_some h
    refine kz_re (w2 := w10 ty ad q8) hp hd hs (by rw [← eq8]; exact w10_a18 ty ad q6 (Int32.toNatClampNeg ((7 * x1 : Int32) + x2)) r4) ?_
    clear hp hd hs hP hD hS
    intro hP hD hS
    refine lv_iinc (v := x2 + 1) (lv' := [(2, .int (x2 + 1)), (0, .ref (ad 0)), (1, .int x1)]) hx hb dX10_laysTables_156 hl (k := 2) rfl rfl (by decide) rfl (fun ls hl => ?_)
    refine lv_goto (tgt := 131) hx hb dX10_laysTables_159 (by decide) ?_
    exact hk131 _ _ _ _ _ _ h hP hD hS (lv_sub hl [1, 2, 0] rfl)
set_option maxHeartbeats 4000000 in
set_option maxRecDepth 100000 in
theorem WX10_laysTables_131 {p : Program} {l : Launch} {e : Env} {s : State} {m : MethodId} {args : Array Value} {below : List Frame} {meth : Method} {c : Code} {D : va_G} {ty : Nat → ClassId} {eo : Nat → Nat} {A : Nat → Prop} {ad : Nat → Nat} {o2 : dS} (C : dc_C p s m args meth c cX10_laysTables none 4 RX10 wsX10_laysTables D ty eo A) {k121 : dS → Int32 → Option (dS)} (hk121 : ∀ (q : dS) (x1 : Int32) (H : Heap) (locs : List Loc) (ls : Array Slot), k121 q x1 = some o2 → va_P D vwCl (w10 ty ad q) H → va_D A (w10 ty ad q) → va_S A s.heap H locs → lv_has ls 4 [(0, .ref (ad 0)), (1, .int x1)] → W p l e ({ frames := 2, cells := 0, slots := 0, locals := 49 } : Room) s m args below meth c H locs 0 0 (MQ below (va_Qv (fun (u : va_W) => w10 ty ad o2 = u) (kz_B D ty A) A) args s 0 0 A) (F0 m 121 ls [])) (n : Nat) (q : dS) (x1 : Int32) (x2 : Int32) (H : Heap) (locs : List Loc) (ls : Array Slot) (h : zX10_laysTables_131 k121 n q x1 x2 = some o2) (hP : va_P D vwCl (w10 ty ad q) H) (hD : va_D A (w10 ty ad q)) (hS : va_S A s.heap H locs) (hl : lv_has ls 4 [(0, .ref (ad 0)), (1, .int x1), (2, .int x2)]) : W p l e ({ frames := 2, cells := 0, slots := 0, locals := 49 } : Room) s m args below meth c H locs 0 0 (MQ below (va_Qv (fun (u : va_W) => w10 ty ad o2 = u) (kz_B D ty A) A) args s 0 0 A) (F0 m 131 ls []) := by
  exact dFix_W (F := fun k (a : dS × Int32 × Int32) => zX10_laysTables_131b k121 (fun q x1 x2 => k (q, x1, x2)) a.1 a.2.1 a.2.2) (o := o2) (P := fun (a : dS × Int32 × Int32) H locs ls => va_P D vwCl (w10 ty ad a.1) H ∧ va_D A (w10 ty ad a.1) ∧ va_S A s.heap H locs ∧ lv_has ls 4 [(0, .ref (ad 0)), (1, .int a.2.1), (2, .int a.2.2)]) (G := fun H locs ls => W p l e ({ frames := 2, cells := 0, slots := 0, locals := 49 } : Room) s m args below meth c H locs 0 0 (MQ below (va_Qv (fun (u : va_W) => w10 ty ad o2 = u) (kz_B D ty A) A) args s 0 0 A) (F0 m 131 ls []))
    (fun k hk a H locs ls h hp => WX10_laysTables_131b C hk121 (fun q x1 x2 H locs ls h h1 h2 h3 h4 => hk (q, x1, x2) H locs ls h ⟨h1, h2, h3, h4⟩) a.1 a.2.1 a.2.2 H locs ls h hp.1 hp.2.1 hp.2.2.1 hp.2.2.2) n (q, x1, x2) H locs ls h ⟨hP, hD, hS, hl⟩
set_option maxHeartbeats 4000000 in
set_option maxRecDepth 100000 in
theorem WX10_laysTables_121b {p : Program} {l : Launch} {e : Env} {s : State} {m : MethodId} {args : Array Value} {below : List Frame} {meth : Method} {c : Code} {D : va_G} {ty : Nat → ClassId} {eo : Nat → Nat} {A : Nat → Prop} {ad : Nat → Nat} {o2 : dS} (C : dc_C p s m args meth c cX10_laysTables none 4 RX10 wsX10_laysTables D ty eo A) {k121 : dS → Int32 → Option (dS)} (hk121 : ∀ (q : dS) (x1 : Int32) (H : Heap) (locs : List Loc) (ls : Array Slot), k121 q x1 = some o2 → va_P D vwCl (w10 ty ad q) H → va_D A (w10 ty ad q) → va_S A s.heap H locs → lv_has ls 4 [(0, .ref (ad 0)), (1, .int x1)] → W p l e ({ frames := 2, cells := 0, slots := 0, locals := 49 } : Room) s m args below meth c H locs 0 0 (MQ below (va_Qv (fun (u : va_W) => w10 ty ad o2 = u) (kz_B D ty A) A) args s 0 0 A) (F0 m 121 ls [])) (q : dS) (x1 : Int32) (H : Heap) (locs : List Loc) (ls : Array Slot) (h : zX10_laysTables_121b k121 q x1 = some o2) (hP : va_P D vwCl (w10 ty ad q) H) (hD : va_D A (w10 ty ad q)) (hS : va_S A s.heap H locs) (hl : lv_has ls 4 [(0, .ref (ad 0)), (1, .int x1)]) : W p l e ({ frames := 2, cells := 0, slots := 0, locals := 49 } : Room) s m args below meth c H locs 0 0 (MQ below (va_Qv (fun (u : va_W) => w10 ty ad o2 = u) (kz_B D ty A) A) args s 0 0 A) (F0 m 121 ls []) := by
  have C0 := C
  obtain ⟨hx, hb, hr, hts, hown, hlocks, hml, hK, hN, hE, hA⟩ := C
  unfold zX10_laysTables_121b at h
  refine lv_iload_n hx hb dX10_laysTables_121 rfl (lv_at hl 1 rfl) ?_
  refine lv_aload_n hx hb dX10_laysTables_122 rfl (lv_at hl 0 rfl) ?_
  refine va_get (D := D) (ci := 10) (v := .int (q.1 0 38)) (C := RX10) (T := TX10) (N := 56) hx hb hts u9_wsX10_laysTables_X10 hown hK hP 0 rfl rfl 38 (by decide) (hts (.fieldLink RX10 389 "TurnedFloorsModel" "headMany" "I") f9_wsX10_laysTables_182) (fun _ h9 => h9) rfl dX10_laysTables_123 ?_
  refine lv_icmp_ge (tgt := 168) hx hb dX10_laysTables_126 (by decide) (fun c9 => ?_) (fun c9 => ?_)
  · rw [if_pos c9] at h
    cases h
    exact kz_vret hx hb hr hlocks hP hK hD hS dX10_laysTables_168 rfl
  · rw [if_neg c9] at h
    refine lv_iconst (v := 1) hx hb dX10_laysTables_129 (by decide) ?_
    refine lv_istore_n (lv' := [(2, .int 1), (0, .ref (ad 0)), (1, .int x1)]) hx hb dX10_laysTables_130 rfl hl (by decide) rfl (fun ls hl => ?_)
    exact WX10_laysTables_131 C0 hk121 _ _ _ _ _ _ _ h hP hD hS (lv_sub hl [1, 2, 0] rfl)
set_option maxHeartbeats 4000000 in
set_option maxRecDepth 100000 in
theorem WX10_laysTables_121 {p : Program} {l : Launch} {e : Env} {s : State} {m : MethodId} {args : Array Value} {below : List Frame} {meth : Method} {c : Code} {D : va_G} {ty : Nat → ClassId} {eo : Nat → Nat} {A : Nat → Prop} {ad : Nat → Nat} {o2 : dS} (C : dc_C p s m args meth c cX10_laysTables none 4 RX10 wsX10_laysTables D ty eo A)   (n : Nat) (q : dS) (x1 : Int32) (H : Heap) (locs : List Loc) (ls : Array Slot) (h : zX10_laysTables_121  n q x1 = some o2) (hP : va_P D vwCl (w10 ty ad q) H) (hD : va_D A (w10 ty ad q)) (hS : va_S A s.heap H locs) (hl : lv_has ls 4 [(0, .ref (ad 0)), (1, .int x1)]) : W p l e ({ frames := 2, cells := 0, slots := 0, locals := 49 } : Room) s m args below meth c H locs 0 0 (MQ below (va_Qv (fun (u : va_W) => w10 ty ad o2 = u) (kz_B D ty A) A) args s 0 0 A) (F0 m 121 ls []) := by
  exact dFix_W (F := fun k (a : dS × Int32) => zX10_laysTables_121b  (fun q x1 => k (q, x1)) a.1 a.2) (o := o2) (P := fun (a : dS × Int32) H locs ls => va_P D vwCl (w10 ty ad a.1) H ∧ va_D A (w10 ty ad a.1) ∧ va_S A s.heap H locs ∧ lv_has ls 4 [(0, .ref (ad 0)), (1, .int a.2)]) (G := fun H locs ls => W p l e ({ frames := 2, cells := 0, slots := 0, locals := 49 } : Room) s m args below meth c H locs 0 0 (MQ below (va_Qv (fun (u : va_W) => w10 ty ad o2 = u) (kz_B D ty A) A) args s 0 0 A) (F0 m 121 ls []))
    (fun k hk a H locs ls h hp => WX10_laysTables_121b C  (fun q x1 H locs ls h h1 h2 h3 h4 => hk (q, x1) H locs ls h ⟨h1, h2, h3, h4⟩) a.1 a.2 H locs ls h hp.1 hp.2.1 hp.2.2.1 hp.2.2.2) n (q, x1) H locs ls h ⟨hP, hD, hS, hl⟩
set_option maxHeartbeats 4000000 in
set_option maxRecDepth 100000 in
theorem WX10_laysTables_83 {p : Program} {l : Launch} {e : Env} {s : State} {m : MethodId} {args : Array Value} {below : List Frame} {meth : Method} {c : Code} {D : va_G} {ty : Nat → ClassId} {eo : Nat → Nat} {A : Nat → Prop} {ad : Nat → Nat} {o2 : dS} (C : dc_C p s m args meth c cX10_laysTables none 4 RX10 wsX10_laysTables D ty eo A) {k23 : dS → Int32 → Option (dS)} {k38 : dS → Int32 → Int32 → Option (dS)} {k48 : dS → Int32 → Int32 → Int32 → Option (dS)} (hk23 : ∀ (q : dS) (x1 : Int32) (H : Heap) (locs : List Loc) (ls : Array Slot), k23 q x1 = some o2 → va_P D vwCl (w10 ty ad q) H → va_D A (w10 ty ad q) → va_S A s.heap H locs → lv_has ls 4 [(0, .ref (ad 0)), (1, .int x1)] → W p l e ({ frames := 2, cells := 0, slots := 0, locals := 49 } : Room) s m args below meth c H locs 0 0 (MQ below (va_Qv (fun (u : va_W) => w10 ty ad o2 = u) (kz_B D ty A) A) args s 0 0 A) (F0 m 23 ls [])) (hk38 : ∀ (q : dS) (x1 : Int32) (x2 : Int32) (H : Heap) (locs : List Loc) (ls : Array Slot), k38 q x1 x2 = some o2 → va_P D vwCl (w10 ty ad q) H → va_D A (w10 ty ad q) → va_S A s.heap H locs → lv_has ls 4 [(0, .ref (ad 0)), (1, .int x1), (2, .int x2)] → W p l e ({ frames := 2, cells := 0, slots := 0, locals := 49 } : Room) s m args below meth c H locs 0 0 (MQ below (va_Qv (fun (u : va_W) => w10 ty ad o2 = u) (kz_B D ty A) A) args s 0 0 A) (F0 m 38 ls [])) (hk48 : ∀ (q : dS) (x1 : Int32) (x2 : Int32) (x3 : Int32) (H : Heap) (locs : List Loc) (ls : Array Slot), k48 q x1 x2 x3 = some o2 → va_P D vwCl (w10 ty ad q) H → va_D A (w10 ty ad q) → va_S A s.heap H locs → lv_has ls 4 [(0, .ref (ad 0)), (1, .int x1), (2, .int x2), (3, .int x3)] → W p l e ({ frames := 2, cells := 0, slots := 0, locals := 49 } : Room) s m args below meth c H locs 0 0 (MQ below (va_Qv (fun (u : va_W) => w10 ty ad o2 = u) (kz_B D ty A) A) args s 0 0 A) (F0 m 48 ls [])) (q : dS) (x1 : Int32) (x2 : Int32) (x3 : Int32) (y0 : Int32) (y1 : Int32) (y3 : Int32) (H : Heap) (locs : List Loc) (ls : Array Slot) (h : zX10_laysTables_83 k23 k38 k48 q x1 x2 x3 y0 y1 y3 = some o2) (hP : va_P D vwCl (w10 ty ad q) H) (hD : va_D A (w10 ty ad q)) (hS : va_S A s.heap H locs) (hl : lv_has ls 4 [(0, .ref (ad 0)), (1, .int x1), (2, .int x2), (3, .int x3)]) : W p l e ({ frames := 2, cells := 0, slots := 0, locals := 49 } : Room) s m args below meth c H locs 0 0 (MQ below (va_Qv (fun (u : va_W) => w10 ty ad o2 = u) (kz_B D ty A) A) args s 0 0 A) (F0 m 83 ls [.int y0, .int y1, .ref (ad 16), .int y3, .ref (ad 19)]) := by
  have C0 := C
  obtain ⟨hx, hb, hr, hts, hown, hlocks, hml, hK, hN, hE, hA⟩ := C
  unfold zX10_laysTables_83 at h
  refine lv_iadd hx hb dX10_laysTables_83 ?_
  obtain ⟨g1, h⟩ := dG_some h
  refine va_iald hx hb hK hP 16 0 rfl rfl (dg_in g1) dX10_laysTables_84 ?_
  obtain ⟨v2, ev2, h⟩ := dL_some h
  refine kz_topi v2 ev2 ?_
  obtain ⟨g3, h⟩ := dG_some h
  refine va_iast hx hb hK hP hD hS 19 0 rfl rfl (dg_in g3) dX10_laysTables_85 (fun H locs hp hd hs => ?_)
  obtain ⟨q4, eq4, h⟩ := dL_some h
  refine kz_re (w2 := w10 ty ad q4) hp hd hs (by rw [← eq4]; exact w10_a19 ty ad q (Int32.toNatClampNeg y3) v2) ?_
  clear hp hd hs hP hD hS
  intro hP hD hS
  refine lv_iinc (v := x3 + 1) (lv' := [(3, .int (x3 + 1)), (0, .ref (ad 0)), (1, .int x1), (2, .int x2)]) hx hb dX10_laysTables_86 hl (k := 3) rfl rfl (by decide) rfl (fun ls hl => ?_)
  refine lv_goto (tgt := 48) hx hb dX10_laysTables_89 (by decide) ?_
  exact hk48 _ _ _ _ _ _ _ h hP hD hS (lv_sub hl [1, 2, 3, 0] rfl)
set_option maxHeartbeats 4000000 in
set_option maxRecDepth 100000 in
theorem WX10_laysTables_48b {p : Program} {l : Launch} {e : Env} {s : State} {m : MethodId} {args : Array Value} {below : List Frame} {meth : Method} {c : Code} {D : va_G} {ty : Nat → ClassId} {eo : Nat → Nat} {A : Nat → Prop} {ad : Nat → Nat} {o2 : dS} (C : dc_C p s m args meth c cX10_laysTables none 4 RX10 wsX10_laysTables D ty eo A) {k23 : dS → Int32 → Option (dS)} {k38 : dS → Int32 → Int32 → Option (dS)} {k48 : dS → Int32 → Int32 → Int32 → Option (dS)} (hk23 : ∀ (q : dS) (x1 : Int32) (H : Heap) (locs : List Loc) (ls : Array Slot), k23 q x1 = some o2 → va_P D vwCl (w10 ty ad q) H → va_D A (w10 ty ad q) → va_S A s.heap H locs → lv_has ls 4 [(0, .ref (ad 0)), (1, .int x1)] → W p l e ({ frames := 2, cells := 0, slots := 0, locals := 49 } : Room) s m args below meth c H locs 0 0 (MQ below (va_Qv (fun (u : va_W) => w10 ty ad o2 = u) (kz_B D ty A) A) args s 0 0 A) (F0 m 23 ls [])) (hk38 : ∀ (q : dS) (x1 : Int32) (x2 : Int32) (H : Heap) (locs : List Loc) (ls : Array Slot), k38 q x1 x2 = some o2 → va_P D vwCl (w10 ty ad q) H → va_D A (w10 ty ad q) → va_S A s.heap H locs → lv_has ls 4 [(0, .ref (ad 0)), (1, .int x1), (2, .int x2)] → W p l e ({ frames := 2, cells := 0, slots := 0, locals := 49 } : Room) s m args below meth c H locs 0 0 (MQ below (va_Qv (fun (u : va_W) => w10 ty ad o2 = u) (kz_B D ty A) A) args s 0 0 A) (F0 m 38 ls [])) (hk48 : ∀ (q : dS) (x1 : Int32) (x2 : Int32) (x3 : Int32) (H : Heap) (locs : List Loc) (ls : Array Slot), k48 q x1 x2 x3 = some o2 → va_P D vwCl (w10 ty ad q) H → va_D A (w10 ty ad q) → va_S A s.heap H locs → lv_has ls 4 [(0, .ref (ad 0)), (1, .int x1), (2, .int x2), (3, .int x3)] → W p l e ({ frames := 2, cells := 0, slots := 0, locals := 49 } : Room) s m args below meth c H locs 0 0 (MQ below (va_Qv (fun (u : va_W) => w10 ty ad o2 = u) (kz_B D ty A) A) args s 0 0 A) (F0 m 48 ls [])) (q : dS) (x1 : Int32) (x2 : Int32) (x3 : Int32) (H : Heap) (locs : List Loc) (ls : Array Slot) (h : zX10_laysTables_48b k23 k38 k48 q x1 x2 x3 = some o2) (hP : va_P D vwCl (w10 ty ad q) H) (hD : va_D A (w10 ty ad q)) (hS : va_S A s.heap H locs) (hl : lv_has ls 4 [(0, .ref (ad 0)), (1, .int x1), (2, .int x2), (3, .int x3)]) : W p l e ({ frames := 2, cells := 0, slots := 0, locals := 49 } : Room) s m args below meth c H locs 0 0 (MQ below (va_Qv (fun (u : va_W) => w10 ty ad o2 = u) (kz_B D ty A) A) args s 0 0 A) (F0 m 48 ls []) := by
  have C0 := C
  obtain ⟨hx, hb, hr, hts, hown, hlocks, hml, hK, hN, hE, hA⟩ := C
  unfold zX10_laysTables_48b at h
  refine lv_iload_n hx hb dX10_laysTables_48 rfl (lv_at hl 3 rfl) ?_
  refine lv_aload_n hx hb dX10_laysTables_49 rfl (lv_at hl 0 rfl) ?_
  obtain ⟨r1, q3, h2, h⟩ := dB_some h
  refine dw_ki (va_runV (As := []) (rest := [.int x3]) ⟨hx, hb, hml, hown, hts⟩ (qX10_size l D ty eo _ ad q  r1 q3 h2) (cwV 0 hts gX10_laysTables_X10_size rfl rfl rfl hd_X10_size_v ⟨Nat.le_of_ble_eq_true rfl, Nat.le_of_ble_eq_true rfl⟩) (pv10_10_0 hK hN hE hP hD hS hA) rfl rfl hl.1 rfl (lv_room (Nat.le_of_ble_eq_true rfl)) dX10_laysTables_50 ⟨Nat.le_of_ble_eq_true rfl, Nat.le_of_ble_eq_true rfl⟩) hD hS hA (fun r9 u9 H locs hw hp hd hs => ?_)
  clear hP hD hS
  obtain ⟨rfl, rfl⟩ := hw
  have hP := hp; have hD := hd; have hS := hs; clear hp hd hs
  refine lv_icmp_ge (tgt := 92) hx hb dX10_laysTables_53 (by decide) (fun c9 => ?_) (fun c9 => ?_)
  · rw [if_pos c9] at h
    refine lv_aload_n hx hb dX10_laysTables_92 rfl (lv_at hl 0 rfl) ?_
    refine va_get (D := D) (ci := 10) (v := .ref (ad 17)) (C := RX10) (T := TX10) (N := 56) hx hb hts u9_wsX10_laysTables_X10 hown hK hP 0 rfl rfl 34 (by decide) (hts (.fieldLink RX10 78 "TurnedFloorsModel" "orderBy" "[I") f9_wsX10_laysTables_183) (fun _ h9 => h9) rfl dX10_laysTables_93 ?_
    refine lv_bipush (v := 7) hx hb dX10_laysTables_96 (by decide) ?_
    refine lv_iload_n hx hb dX10_laysTables_98 rfl (lv_at hl 1 rfl) ?_
    refine lv_imul hx hb dX10_laysTables_99 ?_
    refine lv_iload_n hx hb dX10_laysTables_100 rfl (lv_at hl 2 rfl) ?_
    refine lv_iadd hx hb dX10_laysTables_101 ?_
    refine lv_aload_n hx hb dX10_laysTables_102 rfl (lv_at hl 0 rfl) ?_
    obtain ⟨r4, q6, h5, h⟩ := dB_some h
    refine dw_ki (va_runV (As := []) (rest := [.int ((7 * x1 : Int32) + x2), .ref (ad 17)]) ⟨hx, hb, hml, hown, hts⟩ (qX10_numberOf l D ty eo _ ad q3  r4 q6 h5) (cwV 0 hts gX10_laysTables_X10_numberOf rfl rfl rfl hd_X10_numberOf_v ⟨Nat.le_of_ble_eq_true rfl, Nat.le_of_ble_eq_true rfl⟩) (pv10_10_0 hK hN hE hP hD hS hA) rfl rfl hl.1 rfl (lv_room (Nat.le_of_ble_eq_true rfl)) dX10_laysTables_103 ⟨Nat.le_of_ble_eq_true rfl, Nat.le_of_ble_eq_true rfl⟩) hD hS hA (fun r9 u9 H locs hw hp hd hs => ?_)
    clear hP hD hS
    obtain ⟨rfl, rfl⟩ := hw
    have hP := hp; have hD := hd; have hS := hs; clear hp hd hs
    obtain ⟨g7, h⟩ := dG_some h
    refine va_iast hx hb hK hP hD hS 17 0 rfl rfl (dg_in g7) dX10_laysTables_106 (fun H locs hp hd hs => ?_)
    obtain ⟨q8, eq8, h⟩ := dL_some h
    refine kz_re (w2 := w10 ty ad q8) hp hd hs (by rw [← eq8]; exact w10_a17 ty ad q6 (Int32.toNatClampNeg ((7 * x1 : Int32) + x2)) r4) ?_
    clear hp hd hs hP hD hS
    intro hP hD hS
    refine lv_iinc (v := x2 + 1) (lv' := [(2, .int (x2 + 1)), (0, .ref (ad 0)), (1, .int x1), (3, .int x3)]) hx hb dX10_laysTables_107 hl (k := 2) rfl rfl (by decide) rfl (fun ls hl => ?_)
    refine lv_goto (tgt := 38) hx hb dX10_laysTables_110 (by decide) ?_
    exact hk38 _ _ _ _ _ _ h hP hD hS (lv_sub hl [1, 2, 0] rfl)
  · rw [if_neg c9] at h
    refine lv_aload_n hx hb dX10_laysTables_56 rfl (lv_at hl 0 rfl) ?_
    refine va_get (D := D) (ci := 10) (v := .ref (ad 19)) (C := RX10) (T := TX10) (N := 56) hx hb hts u9_wsX10_laysTables_X10 hown hK hP 0 rfl rfl 36 (by decide) (hts (.fieldLink RX10 84 "TurnedFloorsModel" "line" "[I") f9_wsX10_laysTables_184) (fun _ h9 => h9) rfl dX10_laysTables_57 ?_
    refine lv_iload_n hx hb dX10_laysTables_60 rfl (lv_at hl 3 rfl) ?_
    refine lv_aload_n hx hb dX10_laysTables_61 rfl (lv_at hl 0 rfl) ?_
    refine va_get (D := D) (ci := 10) (v := .ref (ad 16)) (C := RX10) (T := TX10) (N := 56) hx hb hts u9_wsX10_laysTables_X10 hown hK hP 0 rfl rfl 33 (by decide) (hts (.fieldLink RX10 75 "TurnedFloorsModel" "rankAt" "[I") f9_wsX10_laysTables_185) (fun _ h9 => h9) rfl dX10_laysTables_62 ?_
    refine lv_bipush (v := 6) hx hb dX10_laysTables_65 (by decide) ?_
    refine lv_iload_n hx hb dX10_laysTables_67 rfl (lv_at hl 1 rfl) ?_
    refine lv_imul hx hb dX10_laysTables_68 ?_
    refine lv_iload_n hx hb dX10_laysTables_69 rfl (lv_at hl 3 rfl) ?_
    refine lv_iload_n hx hb dX10_laysTables_70 rfl (lv_at hl 2 rfl) ?_
    refine lv_icmp_ge (tgt := 82) hx hb dX10_laysTables_71 (by decide) (fun c9 => ?_) (fun c9 => ?_)
    · rw [if_pos c9] at h
      refine lv_iload_n hx hb dX10_laysTables_82 rfl (lv_at hl 3 rfl) ?_
      exact WX10_laysTables_83 C0 hk23 hk38 hk48 _ _ _ _ _ _ _ _ _ _ h hP hD hS (lv_sub hl [0, 1, 2, 3] rfl)
    · rw [if_neg c9] at h
      refine lv_iload_n hx hb dX10_laysTables_74 rfl (lv_at hl 2 rfl) ?_
      refine lv_iconst (v := 1) hx hb dX10_laysTables_75 (by decide) ?_
      refine lv_isub hx hb dX10_laysTables_76 ?_
      refine lv_iload_n hx hb dX10_laysTables_77 rfl (lv_at hl 3 rfl) ?_
      refine lv_isub hx hb dX10_laysTables_78 ?_
      refine lv_goto (tgt := 83) hx hb dX10_laysTables_79 (by decide) ?_
      exact WX10_laysTables_83 C0 hk23 hk38 hk48 _ _ _ _ _ _ _ _ _ _ h hP hD hS (lv_sub hl [0, 1, 2, 3] rfl)
set_option maxHeartbeats 4000000 in
set_option maxRecDepth 100000 in
theorem WX10_laysTables_48 {p : Program} {l : Launch} {e : Env} {s : State} {m : MethodId} {args : Array Value} {below : List Frame} {meth : Method} {c : Code} {D : va_G} {ty : Nat → ClassId} {eo : Nat → Nat} {A : Nat → Prop} {ad : Nat → Nat} {o2 : dS} (C : dc_C p s m args meth c cX10_laysTables none 4 RX10 wsX10_laysTables D ty eo A) {k23 : dS → Int32 → Option (dS)} {k38 : dS → Int32 → Int32 → Option (dS)} (hk23 : ∀ (q : dS) (x1 : Int32) (H : Heap) (locs : List Loc) (ls : Array Slot), k23 q x1 = some o2 → va_P D vwCl (w10 ty ad q) H → va_D A (w10 ty ad q) → va_S A s.heap H locs → lv_has ls 4 [(0, .ref (ad 0)), (1, .int x1)] → W p l e ({ frames := 2, cells := 0, slots := 0, locals := 49 } : Room) s m args below meth c H locs 0 0 (MQ below (va_Qv (fun (u : va_W) => w10 ty ad o2 = u) (kz_B D ty A) A) args s 0 0 A) (F0 m 23 ls [])) (hk38 : ∀ (q : dS) (x1 : Int32) (x2 : Int32) (H : Heap) (locs : List Loc) (ls : Array Slot), k38 q x1 x2 = some o2 → va_P D vwCl (w10 ty ad q) H → va_D A (w10 ty ad q) → va_S A s.heap H locs → lv_has ls 4 [(0, .ref (ad 0)), (1, .int x1), (2, .int x2)] → W p l e ({ frames := 2, cells := 0, slots := 0, locals := 49 } : Room) s m args below meth c H locs 0 0 (MQ below (va_Qv (fun (u : va_W) => w10 ty ad o2 = u) (kz_B D ty A) A) args s 0 0 A) (F0 m 38 ls [])) (n : Nat) (q : dS) (x1 : Int32) (x2 : Int32) (x3 : Int32) (H : Heap) (locs : List Loc) (ls : Array Slot) (h : zX10_laysTables_48 k23 k38 n q x1 x2 x3 = some o2) (hP : va_P D vwCl (w10 ty ad q) H) (hD : va_D A (w10 ty ad q)) (hS : va_S A s.heap H locs) (hl : lv_has ls 4 [(0, .ref (ad 0)), (1, .int x1), (2, .int x2), (3, .int x3)]) : W p l e ({ frames := 2, cells := 0, slots := 0, locals := 49 } : Room) s m args below meth c H locs 0 0 (MQ below (va_Qv (fun (u : va_W) => w10 ty ad o2 = u) (kz_B D ty A) A) args s 0 0 A) (F0 m 48 ls []) := by
  exact dFix_W (F := fun k (a : dS × Int32 × Int32 × Int32) => zX10_laysTables_48b k23 k38 (fun q x1 x2 x3 => k (q, x1, x2, x3)) a.1 a.2.1 a.2.2.1 a.2.2.2) (o := o2) (P := fun (a : dS × Int32 × Int32 × Int32) H locs ls => va_P D vwCl (w10 ty ad a.1) H ∧ va_D A (w10 ty ad a.1) ∧ va_S A s.heap H locs ∧ lv_has ls 4 [(0, .ref (ad 0)), (1, .int a.2.1), (2, .int a.2.2.1), (3, .int a.2.2.2)]) (G := fun H locs ls => W p l e ({ frames := 2, cells := 0, slots := 0, locals := 49 } : Room) s m args below meth c H locs 0 0 (MQ below (va_Qv (fun (u : va_W) => w10 ty ad o2 = u) (kz_B D ty A) A) args s 0 0 A) (F0 m 48 ls []))
    (fun k hk a H locs ls h hp => WX10_laysTables_48b C hk23 hk38 (fun q x1 x2 x3 H locs ls h h1 h2 h3 h4 => hk (q, x1, x2, x3) H locs ls h ⟨h1, h2, h3, h4⟩) a.1 a.2.1 a.2.2.1 a.2.2.2 H locs ls h hp.1 hp.2.1 hp.2.2.1 hp.2.2.2) n (q, x1, x2, x3) H locs ls h ⟨hP, hD, hS, hl⟩
set_option maxHeartbeats 4000000 in
set_option maxRecDepth 100000 in
theorem WX10_laysTables_38b {p : Program} {l : Launch} {e : Env} {s : State} {m : MethodId} {args : Array Value} {below : List Frame} {meth : Method} {c : Code} {D : va_G} {ty : Nat → ClassId} {eo : Nat → Nat} {A : Nat → Prop} {ad : Nat → Nat} {o2 : dS} (C : dc_C p s m args meth c cX10_laysTables none 4 RX10 wsX10_laysTables D ty eo A) {k23 : dS → Int32 → Option (dS)} {k38 : dS → Int32 → Int32 → Option (dS)} (hk23 : ∀ (q : dS) (x1 : Int32) (H : Heap) (locs : List Loc) (ls : Array Slot), k23 q x1 = some o2 → va_P D vwCl (w10 ty ad q) H → va_D A (w10 ty ad q) → va_S A s.heap H locs → lv_has ls 4 [(0, .ref (ad 0)), (1, .int x1)] → W p l e ({ frames := 2, cells := 0, slots := 0, locals := 49 } : Room) s m args below meth c H locs 0 0 (MQ below (va_Qv (fun (u : va_W) => w10 ty ad o2 = u) (kz_B D ty A) A) args s 0 0 A) (F0 m 23 ls [])) (hk38 : ∀ (q : dS) (x1 : Int32) (x2 : Int32) (H : Heap) (locs : List Loc) (ls : Array Slot), k38 q x1 x2 = some o2 → va_P D vwCl (w10 ty ad q) H → va_D A (w10 ty ad q) → va_S A s.heap H locs → lv_has ls 4 [(0, .ref (ad 0)), (1, .int x1), (2, .int x2)] → W p l e ({ frames := 2, cells := 0, slots := 0, locals := 49 } : Room) s m args below meth c H locs 0 0 (MQ below (va_Qv (fun (u : va_W) => w10 ty ad o2 = u) (kz_B D ty A) A) args s 0 0 A) (F0 m 38 ls [])) (q : dS) (x1 : Int32) (x2 : Int32) (H : Heap) (locs : List Loc) (ls : Array Slot) (h : zX10_laysTables_38b k23 k38 q x1 x2 = some o2) (hP : va_P D vwCl (w10 ty ad q) H) (hD : va_D A (w10 ty ad q)) (hS : va_S A s.heap H locs) (hl : lv_has ls 4 [(0, .ref (ad 0)), (1, .int x1), (2, .int x2)]) : W p l e ({ frames := 2, cells := 0, slots := 0, locals := 49 } : Room) s m args below meth c H locs 0 0 (MQ below (va_Qv (fun (u : va_W) => w10 ty ad o2 = u) (kz_B D ty A) A) args s 0 0 A) (F0 m 38 ls []) := by
  have C0 := C
  obtain ⟨hx, hb, hr, hts, hown, hlocks, hml, hK, hN, hE, hA⟩ := C
  unfold zX10_laysTables_38b at h
  refine lv_iload_n hx hb dX10_laysTables_38 rfl (lv_at hl 2 rfl) ?_
  refine lv_aload_n hx hb dX10_laysTables_39 rfl (lv_at hl 0 rfl) ?_
  obtain ⟨r1, q3, h2, h⟩ := dB_some h
  refine dw_ki (va_runV (As := []) (rest := [.int x2]) ⟨hx, hb, hml, hown, hts⟩ (qX10_size l D ty eo _ ad q  r1 q3 h2) (cwV 0 hts gX10_laysTables_X10_size rfl rfl rfl hd_X10_size_v ⟨Nat.le_of_ble_eq_true rfl, Nat.le_of_ble_eq_true rfl⟩) (pv10_10_0 hK hN hE hP hD hS hA) rfl rfl hl.1 rfl (lv_room (Nat.le_of_ble_eq_true rfl)) dX10_laysTables_40 ⟨Nat.le_of_ble_eq_true rfl, Nat.le_of_ble_eq_true rfl⟩) hD hS hA (fun r9 u9 H locs hw hp hd hs => ?_)
  clear hP hD hS
  obtain ⟨rfl, rfl⟩ := hw
  have hP := hp; have hD := hd; have hS := hs; clear hp hd hs
  refine lv_icmp_gt (tgt := 113) hx hb dX10_laysTables_43 (by decide) (fun c9 => ?_) (fun c9 => ?_)
  · rw [if_pos c9] at h
    refine lv_iinc (v := x1 + 1) (lv' := [(1, .int (x1 + 1)), (0, .ref (ad 0)), (2, .int x2)]) hx hb dX10_laysTables_113 hl (k := 1) rfl rfl (by decide) rfl (fun ls hl => ?_)
    refine lv_goto (tgt := 23) hx hb dX10_laysTables_116 (by decide) ?_
    exact hk23 _ _ _ _ _ h hP hD hS (lv_sub hl [1, 0] rfl)
  · rw [if_neg c9] at h
    refine lv_iconst (v := 0) hx hb dX10_laysTables_46 (by decide) ?_
    refine lv_istore_n (lv' := [(3, .int 0), (0, .ref (ad 0)), (1, .int x1), (2, .int x2)]) hx hb dX10_laysTables_47 rfl hl (by decide) rfl (fun ls hl => ?_)
    exact WX10_laysTables_48 C0 hk23 hk38 _ _ _ _ _ _ _ _ h hP hD hS (lv_sub hl [1, 2, 3, 0] rfl)
set_option maxHeartbeats 4000000 in
set_option maxRecDepth 100000 in
theorem WX10_laysTables_38 {p : Program} {l : Launch} {e : Env} {s : State} {m : MethodId} {args : Array Value} {below : List Frame} {meth : Method} {c : Code} {D : va_G} {ty : Nat → ClassId} {eo : Nat → Nat} {A : Nat → Prop} {ad : Nat → Nat} {o2 : dS} (C : dc_C p s m args meth c cX10_laysTables none 4 RX10 wsX10_laysTables D ty eo A) {k23 : dS → Int32 → Option (dS)} (hk23 : ∀ (q : dS) (x1 : Int32) (H : Heap) (locs : List Loc) (ls : Array Slot), k23 q x1 = some o2 → va_P D vwCl (w10 ty ad q) H → va_D A (w10 ty ad q) → va_S A s.heap H locs → lv_has ls 4 [(0, .ref (ad 0)), (1, .int x1)] → W p l e ({ frames := 2, cells := 0, slots := 0, locals := 49 } : Room) s m args below meth c H locs 0 0 (MQ below (va_Qv (fun (u : va_W) => w10 ty ad o2 = u) (kz_B D ty A) A) args s 0 0 A) (F0 m 23 ls [])) (n : Nat) (q : dS) (x1 : Int32) (x2 : Int32) (H : Heap) (locs : List Loc) (ls : Array Slot) (h : zX10_laysTables_38 k23 n q x1 x2 = some o2) (hP : va_P D vwCl (w10 ty ad q) H) (hD : va_D A (w10 ty ad q)) (hS : va_S A s.heap H locs) (hl : lv_has ls 4 [(0, .ref (ad 0)), (1, .int x1), (2, .int x2)]) : W p l e ({ frames := 2, cells := 0, slots := 0, locals := 49 } : Room) s m args below meth c H locs 0 0 (MQ below (va_Qv (fun (u : va_W) => w10 ty ad o2 = u) (kz_B D ty A) A) args s 0 0 A) (F0 m 38 ls []) := by
  exact dFix_W (F := fun k (a : dS × Int32 × Int32) => zX10_laysTables_38b k23 (fun q x1 x2 => k (q, x1, x2)) a.1 a.2.1 a.2.2) (o := o2) (P := fun (a : dS × Int32 × Int32) H locs ls => va_P D vwCl (w10 ty ad a.1) H ∧ va_D A (w10 ty ad a.1) ∧ va_S A s.heap H locs ∧ lv_has ls 4 [(0, .ref (ad 0)), (1, .int a.2.1), (2, .int a.2.2)]) (G := fun H locs ls => W p l e ({ frames := 2, cells := 0, slots := 0, locals := 49 } : Room) s m args below meth c H locs 0 0 (MQ below (va_Qv (fun (u : va_W) => w10 ty ad o2 = u) (kz_B D ty A) A) args s 0 0 A) (F0 m 38 ls []))
    (fun k hk a H locs ls h hp => WX10_laysTables_38b C hk23 (fun q x1 x2 H locs ls h h1 h2 h3 h4 => hk (q, x1, x2) H locs ls h ⟨h1, h2, h3, h4⟩) a.1 a.2.1 a.2.2 H locs ls h hp.1 hp.2.1 hp.2.2.1 hp.2.2.2) n (q, x1, x2) H locs ls h ⟨hP, hD, hS, hl⟩
set_option maxHeartbeats 4000000 in
set_option maxRecDepth 100000 in
theorem WX10_laysTables_23b {p : Program} {l : Launch} {e : Env} {s : State} {m : MethodId} {args : Array Value} {below : List Frame} {meth : Method} {c : Code} {D : va_G} {ty : Nat → ClassId} {eo : Nat → Nat} {A : Nat → Prop} {ad : Nat → Nat} {o2 : dS} (C : dc_C p s m args meth c cX10_laysTables none 4 RX10 wsX10_laysTables D ty eo A) {k23 : dS → Int32 → Option (dS)} (hk23 : ∀ (q : dS) (x1 : Int32) (H : Heap) (locs : List Loc) (ls : Array Slot), k23 q x1 = some o2 → va_P D vwCl (w10 ty ad q) H → va_D A (w10 ty ad q) → va_S A s.heap H locs → lv_has ls 4 [(0, .ref (ad 0)), (1, .int x1)] → W p l e ({ frames := 2, cells := 0, slots := 0, locals := 49 } : Room) s m args below meth c H locs 0 0 (MQ below (va_Qv (fun (u : va_W) => w10 ty ad o2 = u) (kz_B D ty A) A) args s 0 0 A) (F0 m 23 ls [])) (q : dS) (x1 : Int32) (H : Heap) (locs : List Loc) (ls : Array Slot) (h : zX10_laysTables_23b k23 q x1 = some o2) (hP : va_P D vwCl (w10 ty ad q) H) (hD : va_D A (w10 ty ad q)) (hS : va_S A s.heap H locs) (hl : lv_has ls 4 [(0, .ref (ad 0)), (1, .int x1)]) : W p l e ({ frames := 2, cells := 0, slots := 0, locals := 49 } : Room) s m args below meth c H locs 0 0 (MQ below (va_Qv (fun (u : va_W) => w10 ty ad o2 = u) (kz_B D ty A) A) args s 0 0 A) (F0 m 23 ls []) := by
  have C0 := C
  obtain ⟨hx, hb, hr, hts, hown, hlocks, hml, hK, hN, hE, hA⟩ := C
  unfold zX10_laysTables_23b at h
  refine lv_iload_n hx hb dX10_laysTables_23 rfl (lv_at hl 1 rfl) ?_
  refine lv_aload_n hx hb dX10_laysTables_24 rfl (lv_at hl 0 rfl) ?_
  refine va_get (D := D) (ci := 10) (v := .int (q.1 0 37)) (C := RX10) (T := TX10) (N := 56) hx hb hts u9_wsX10_laysTables_X10 hown hK hP 0 rfl rfl 37 (by decide) (hts (.fieldLink RX10 386 "TurnedFloorsModel" "orderMany" "I") f9_wsX10_laysTables_186) (fun _ h9 => h9) rfl dX10_laysTables_25 ?_
  refine lv_icmp_ge (tgt := 119) hx hb dX10_laysTables_28 (by decide) (fun c9 => ?_) (fun c9 => ?_)
  · rw [if_pos c9] at h
    refine lv_iconst (v := 0) hx hb dX10_laysTables_119 (by decide) ?_
    refine lv_istore_n (lv' := [(1, .int 0), (0, .ref (ad 0))]) hx hb dX10_laysTables_120 rfl hl (by decide) rfl (fun ls hl => ?_)
    exact WX10_laysTables_121 C0  _ _ _ _ _ _ h hP hD hS (lv_sub hl [1, 0] rfl)
  · rw [if_neg c9] at h
    refine lv_aload_n hx hb dX10_laysTables_31 rfl (lv_at hl 0 rfl) ?_
    refine lv_iload_n hx hb dX10_laysTables_32 rfl (lv_at hl 1 rfl) ?_
    obtain ⟨q3, h2, h⟩ := dV_some h
    refine dw_kv (va_runV (As := [.int x1]) (rest := []) ⟨hx, hb, hml, hown, hts⟩ (qX10_laysOrder l D ty eo _ ad q x1 q3 h2) (cwV 1 hts gX10_laysTables_X10_laysOrder rfl rfl rfl hd_X10_laysOrder_v ⟨Nat.le_of_ble_eq_true rfl, Nat.le_of_ble_eq_true rfl⟩) (pv10_10_0 hK hN hE hP hD hS hA) rfl rfl hl.1 rfl (lv_room (Nat.le_of_ble_eq_true rfl)) dX10_laysTables_33 ⟨Nat.le_of_ble_eq_true rfl, Nat.le_of_ble_eq_true rfl⟩) hD hS hA (fun u9 H locs hw hp hd hs => ?_)
    clear hP hD hS
    obtain rfl := hw
    have hP := hp; have hD := hd; have hS := hs; clear hp hd hs
    refine lv_iconst (v := 1) hx hb dX10_laysTables_36 (by decide) ?_
    refine lv_istore_n (lv' := [(2, .int 1), (0, .ref (ad 0)), (1, .int x1)]) hx hb dX10_laysTables_37 rfl hl (by decide) rfl (fun ls hl => ?_)
    exact WX10_laysTables_38 C0 hk23 _ _ _ _ _ _ _ h hP hD hS (lv_sub hl [1, 2, 0] rfl)
set_option maxHeartbeats 4000000 in
set_option maxRecDepth 100000 in
theorem WX10_laysTables_23 {p : Program} {l : Launch} {e : Env} {s : State} {m : MethodId} {args : Array Value} {below : List Frame} {meth : Method} {c : Code} {D : va_G} {ty : Nat → ClassId} {eo : Nat → Nat} {A : Nat → Prop} {ad : Nat → Nat} {o2 : dS} (C : dc_C p s m args meth c cX10_laysTables none 4 RX10 wsX10_laysTables D ty eo A)   (n : Nat) (q : dS) (x1 : Int32) (H : Heap) (locs : List Loc) (ls : Array Slot) (h : zX10_laysTables_23  n q x1 = some o2) (hP : va_P D vwCl (w10 ty ad q) H) (hD : va_D A (w10 ty ad q)) (hS : va_S A s.heap H locs) (hl : lv_has ls 4 [(0, .ref (ad 0)), (1, .int x1)]) : W p l e ({ frames := 2, cells := 0, slots := 0, locals := 49 } : Room) s m args below meth c H locs 0 0 (MQ below (va_Qv (fun (u : va_W) => w10 ty ad o2 = u) (kz_B D ty A) A) args s 0 0 A) (F0 m 23 ls []) := by
  exact dFix_W (F := fun k (a : dS × Int32) => zX10_laysTables_23b  (fun q x1 => k (q, x1)) a.1 a.2) (o := o2) (P := fun (a : dS × Int32) H locs ls => va_P D vwCl (w10 ty ad a.1) H ∧ va_D A (w10 ty ad a.1) ∧ va_S A s.heap H locs ∧ lv_has ls 4 [(0, .ref (ad 0)), (1, .int a.2)]) (G := fun H locs ls => W p l e ({ frames := 2, cells := 0, slots := 0, locals := 49 } : Room) s m args below meth c H locs 0 0 (MQ below (va_Qv (fun (u : va_W) => w10 ty ad o2 = u) (kz_B D ty A) A) args s 0 0 A) (F0 m 23 ls []))
    (fun k hk a H locs ls h hp => WX10_laysTables_23b C  (fun q x1 H locs ls h h1 h2 h3 h4 => hk (q, x1) H locs ls h ⟨h1, h2, h3, h4⟩) a.1 a.2 H locs ls h hp.1 hp.2.1 hp.2.2.1 hp.2.2.2) n (q, x1) H locs ls h ⟨hP, hD, hS, hl⟩
set_option maxHeartbeats 4000000 in
set_option maxRecDepth 100000 in
theorem qX10_laysTables (l : Launch) (D : va_G) (ty : Nat → ClassId) (eo : Nat → Nat) (sz : Nat) (ad : Nat → Nat) (q : dS)  (o2 : dS) (h : zX10_laysTables q = some o2) : Met l yX10_laysTables wsX10_laysTables ({ frames := 2, cells := 0, slots := 0, locals := 49 } : Room) (va_Pc [.ref (ad 0)] (kz_pre D ty eo (w10 ty ad q) sz)) (va_Qv (fun (u : va_W) => w10 ty ad o2 = u) (kz_B D ty (va_A (w10 ty ad q) sz)) (va_A (w10 ty ad q) sz)) 0 0 (va_A (w10 ty ad q) sz) := by
  refine Met.ofW (cc := cX10_laysTables) (maxL := 4) (ret := none) (by decide) rfl ?_
  intro p e s m args below meth c s₁ B hml hv
  obtain ⟨rfl, hsz, hP, hK, hD0, hN, hE⟩ := hv
  have hx := B.exec
  have hb := B.bytes
  have hr := B.returns
  have hts := atoms_spec (ws := wsX10_laysTables) B.pre
  have hown : s.vm.findClass RX10 = some m.cls := findClass_of_methodNamed B.named
  have hlocks := B.notSynchronized
  subst hsz
  have hD := hD0.self (sz := s.heap.size)
  generalize hAe : va_A (w10 ty ad q) s.heap.size = A at hD hE ⊢
  have hA : ∀ q : Nat, s.heap.size ≤ q → A q := fun q h => by rw [← hAe]; exact Or.inr h
  clear hAe
  have hS : va_S A s.heap s.heap [] := va_S.rf
  have hl := lv_entry ([.ref (ad 0)]) (n := 4) (Nat.le_of_ble_eq_true rfl)
  rw [lg_entry_eq]
  generalize (lg_sl ([.ref (ad 0)]) ++ List.replicate (4 - (lg_sl ([.ref (ad 0)])).length) Slot.unset).toArray = ls at hl ⊢
  have hl : lv_has ls 4 [(0, .ref (ad 0))] := hl
  have C : dc_C p s m _ meth c cX10_laysTables none 4 RX10 wsX10_laysTables D ty eo A := ⟨hx, hb, hr, hts, hown, hlocks, hml, hK, hN, hE, hA⟩
  unfold zX10_laysTables at h
  refine lv_aload_n hx hb dX10_laysTables_0 rfl (lv_at hl 0 rfl) ?_
  refine lv_aload_n hx hb dX10_laysTables_1 rfl (lv_at hl 0 rfl) ?_
  obtain ⟨r1, q3, h2, h⟩ := dB_some h
  refine dw_ki (va_runV (As := []) (rest := [.ref (ad 0)]) ⟨hx, hb, hml, hown, hts⟩ (qX10_size l D ty eo _ ad q  r1 q3 h2) (cwV 0 hts gX10_laysTables_X10_size rfl rfl rfl hd_X10_size_v ⟨Nat.le_of_ble_eq_true rfl, Nat.le_of_ble_eq_true rfl⟩) (pv10_10_0 hK hN hE hP hD hS hA) rfl rfl hl.1 rfl (lv_room (Nat.le_of_ble_eq_true rfl)) dX10_laysTables_2 ⟨Nat.le_of_ble_eq_true rfl, Nat.le_of_ble_eq_true rfl⟩) hD hS hA (fun r9 u9 H locs hw hp hd hs => ?_)
  clear hP hD hS
  obtain ⟨rfl, rfl⟩ := hw
  have hP := hp; have hD := hd; have hS := hs; clear hp hd hs
  obtain ⟨r4, h5, h⟩ := dV_some h
  refine dw_ks (va_runS (As := [.int r1]) (rest := [.ref (ad 0)]) ⟨hx, hb, hml, hown, hts⟩ (qX10_allOrders l D ty eo _ r1 _ h5) (va_cwS 1 hts gX10_laysTables_X10_allOrders rfl rfl rfl hd_X10_allOrders ⟨Nat.le_of_ble_eq_true rfl, Nat.le_of_ble_eq_true rfl⟩) (pvS_0 hK hN hE hP hD hS hA) rfl rfl hl.1 rfl (lv_room (Nat.le_of_ble_eq_true rfl)) dX10_laysTables_5 ⟨Nat.le_of_ble_eq_true rfl, Nat.le_of_ble_eq_true rfl⟩) hP hD hS hA (fun _ _ h9 => h9.2.symm) (fun r9 u9 H locs hw hp hd hs => ?_)
  obtain ⟨rfl, -⟩ := hw
  clear hP hD hS
  have hP := hp; have hD := hd; have hS := hs; clear hp hd hs
  refine va_put (D := D) (ci := 10) (v := .int r4) (ty := .int) (C := RX10) (T := TX10) (N := 56) hx hb hts u9_wsX10_laysTables_X10 tyX10 tyX10_ok nmX10 hown hK hP hD hS 0 rfl rfl 37 (by decide) (hts (.fieldLink RX10 386 "TurnedFloorsModel" "orderMany" "I") f9_wsX10_laysTables_186) (fun _ h9 => h9) rfl (by decide +kernel) rfl rfl (Nat.le_of_ble_eq_true rfl) dX10_laysTables_8 (fun H locs hp hd hs => ?_)
  obtain ⟨q6, eq6, h⟩ := dL_some h
  refine kz_re (w2 := w10 ty ad q6) hp hd hs (by rw [← eq6]; exact w10_f37 ty ad q3 r4) ?_
  clear hp hd hs hP hD hS
  intro hP hD hS
  refine lv_aload_n hx hb dX10_laysTables_11 rfl (lv_at hl 0 rfl) ?_
  refine lv_iconst (v := 1) hx hb dX10_laysTables_12 (by decide) ?_
  refine lv_aload_n hx hb dX10_laysTables_13 rfl (lv_at hl 0 rfl) ?_
  obtain ⟨r7, q9, h8, h⟩ := dB_some h
  refine dw_ki (va_runV (As := []) (rest := [.int 1, .ref (ad 0)]) ⟨hx, hb, hml, hown, hts⟩ (qX10_size l D ty eo _ ad q6  r7 q9 h8) (cwV 0 hts gX10_laysTables_X10_size rfl rfl rfl hd_X10_size_v ⟨Nat.le_of_ble_eq_true rfl, Nat.le_of_ble_eq_true rfl⟩) (pv10_10_0 hK hN hE hP hD hS hA) rfl rfl hl.1 rfl (lv_room (Nat.le_of_ble_eq_true rfl)) dX10_laysTables_14 ⟨Nat.le_of_ble_eq_true rfl, Nat.le_of_ble_eq_true rfl⟩) hD hS hA (fun r9 u9 H locs hw hp hd hs => ?_)
  clear hP hD hS
  obtain ⟨rfl, rfl⟩ := hw
  have hP := hp; have hD := hd; have hS := hs; clear hp hd hs
  refine lv_ishl hx hb dX10_laysTables_17 ?_
  refine va_put (D := D) (ci := 10) (v := .int (1 <<< ((r7 : Int32) &&& 31) : Int32)) (ty := .int) (C := RX10) (T := TX10) (N := 56) hx hb hts u9_wsX10_laysTables_X10 tyX10 tyX10_ok nmX10 hown hK hP hD hS 0 rfl rfl 38 (by decide) (hts (.fieldLink RX10 389 "TurnedFloorsModel" "headMany" "I") f9_wsX10_laysTables_182) (fun _ h9 => h9) rfl (by decide +kernel) rfl rfl (Nat.le_of_ble_eq_true rfl) dX10_laysTables_18 (fun H locs hp hd hs => ?_)
  obtain ⟨q10, eq10, h⟩ := dL_some h
  refine kz_re (w2 := w10 ty ad q10) hp hd hs (by rw [← eq10]; exact w10_f38 ty ad q9 (1 <<< ((r7 : Int32) &&& 31) : Int32)) ?_
  clear hp hd hs hP hD hS
  intro hP hD hS
  refine lv_iconst (v := 0) hx hb dX10_laysTables_21 (by decide) ?_
  refine lv_istore_n (lv' := [(1, .int 0), (0, .ref (ad 0))]) hx hb dX10_laysTables_22 rfl hl (by decide) rfl (fun ls hl => ?_)
  exact WX10_laysTables_23 C  _ _ _ _ _ _ h hP hD hS (lv_sub hl [1, 0] rfl)

set_option maxHeartbeats 4000000 in
set_option maxRecDepth 100000 in
theorem qX10_behind (l : Launch) (D : va_G) (ty : Nat → ClassId) (eo : Nat → Nat) (sz : Nat) (ad : Nat → Nat) (q : dS) (p1 : Int32) (p2 : Int32) (o1 : Int32) (o2 : dS) (h : zX10_behind q p1 p2 = some (o1, o2)) : Met l yX10_behind wsX10_behind ({ frames := 0, cells := 0, slots := 0, locals := 0 } : Room) (va_Pc [.ref (ad 0), .int p1, .int p2] (kz_pre D ty eo (w10 ty ad q) sz)) (va_Qi (fun (r : Int32) (u : va_W) => o1 = r ∧ w10 ty ad o2 = u) (kz_B D ty (va_A (w10 ty ad q) sz)) (va_A (w10 ty ad q) sz)) 0 0 (va_A (w10 ty ad q) sz) := by
  refine Met.ofW (cc := cX10_behind) (maxL := 3) (ret := (some .int)) (by decide) rfl ?_
  intro p e s m args below meth c s₁ B hml hv
  obtain ⟨rfl, hsz, hP, hK, hD0, hN, hE⟩ := hv
  have hx := B.exec
  have hb := B.bytes
  have hr := B.returns
  have hts := atoms_spec (ws := wsX10_behind) B.pre
  have hown : s.vm.findClass RX10 = some m.cls := findClass_of_methodNamed B.named
  have hlocks := B.notSynchronized
  subst hsz
  have hD := hD0.self (sz := s.heap.size)
  generalize hAe : va_A (w10 ty ad q) s.heap.size = A at hD hE ⊢
  have hA : ∀ q : Nat, s.heap.size ≤ q → A q := fun q h => by rw [← hAe]; exact Or.inr h
  clear hAe
  have hS : va_S A s.heap s.heap [] := va_S.rf
  have hl := lv_entry ([.ref (ad 0), .int p1, .int p2]) (n := 3) (Nat.le_of_ble_eq_true rfl)
  rw [lg_entry_eq]
  generalize (lg_sl ([.ref (ad 0), .int p1, .int p2]) ++ List.replicate (3 - (lg_sl ([.ref (ad 0), .int p1, .int p2])).length) Slot.unset).toArray = ls at hl ⊢
  have hl : lv_has ls 3 [(0, .ref (ad 0)), (1, .int p1), (2, .int p2)] := hl
  have C : dc_C p s m _ meth c cX10_behind (some .int) 3 RX10 wsX10_behind D ty eo A := ⟨hx, hb, hr, hts, hown, hlocks, hml, hK, hN, hE, hA⟩
  unfold zX10_behind at h
  refine lv_bipush (v := 64) hx hb dX10_behind_0 (by decide) ?_
  refine lv_aload_n hx hb dX10_behind_2 rfl (lv_at hl 0 rfl) ?_
  refine va_get (D := D) (ci := 10) (v := .ref (ad 17)) (C := RX10) (T := TX10) (N := 56) hx hb hts u9_wsX10_behind_X10 hown hK hP 0 rfl rfl 34 (by decide) (hts (.fieldLink RX10 78 "TurnedFloorsModel" "orderBy" "[I") f9_wsX10_behind_188) (fun _ h9 => h9) rfl dX10_behind_3 ?_
  refine lv_bipush (v := 7) hx hb dX10_behind_6 (by decide) ?_
  refine lv_iload_n hx hb dX10_behind_8 rfl (lv_at hl 1 rfl) ?_
  refine lv_bipush (v := 64) hx hb dX10_behind_9 (by decide) ?_
  refine lv_idiv hx hb dX10_behind_11 (by decide) ?_
  refine lv_imul hx hb dX10_behind_12 ?_
  refine lv_iload_n hx hb dX10_behind_13 rfl (lv_at hl 2 rfl) ?_
  refine lv_iadd hx hb dX10_behind_14 ?_
  obtain ⟨g1, h⟩ := dG_some h
  refine va_iald hx hb hK hP 17 0 rfl rfl (dg_in g1) dX10_behind_15 ?_
  obtain ⟨v2, ev2, h⟩ := dL_some h
  refine kz_topi v2 ev2 ?_
  refine lv_imul hx hb dX10_behind_16 ?_
  refine lv_aload_n hx hb dX10_behind_17 rfl (lv_at hl 0 rfl) ?_
  refine va_get (D := D) (ci := 10) (v := .ref (ad 18)) (C := RX10) (T := TX10) (N := 56) hx hb hts u9_wsX10_behind_X10 hown hK hP 0 rfl rfl 35 (by decide) (hts (.fieldLink RX10 81 "TurnedFloorsModel" "headsBy" "[I") f9_wsX10_behind_189) (fun _ h9 => h9) rfl dX10_behind_18 ?_
  refine lv_bipush (v := 7) hx hb dX10_behind_21 (by decide) ?_
  refine lv_iload_n hx hb dX10_behind_23 rfl (lv_at hl 1 rfl) ?_
  refine lv_bipush (v := 64) hx hb dX10_behind_24 (by decide) ?_
  refine lv_irem hx hb dX10_behind_26 (by decide) ?_
  refine lv_imul hx hb dX10_behind_27 ?_
  refine lv_iload_n hx hb dX10_behind_28 rfl (lv_at hl 2 rfl) ?_
  refine lv_iadd hx hb dX10_behind_29 ?_
  obtain ⟨g3, h⟩ := dG_some h
  refine va_iald hx hb hK hP 18 0 rfl rfl (dg_in g3) dX10_behind_30 ?_
  obtain ⟨v4, ev4, h⟩ := dL_some h
  refine kz_topi v4 ev4 ?_
  refine lv_iadd hx hb dX10_behind_31 ?_
  cases h
  exact kz_iret hx hb hr hlocks hP hK hD hS dX10_behind_32 ⟨rfl, rfl⟩

set_option maxHeartbeats 4000000 in
set_option maxRecDepth 100000 in
theorem WX10_rankOf_40 {p : Program} {l : Launch} {e : Env} {s : State} {m : MethodId} {args : Array Value} {below : List Frame} {meth : Method} {c : Code} {D : va_G} {ty : Nat → ClassId} {eo : Nat → Nat} {A : Nat → Prop} {ad : Nat → Nat} {o1 : Int32} {o2 : dS} (C : dc_C p s m args meth c cX10_rankOf (some .int) 4 RX10 wsX10_rankOf D ty eo A) {k4 : dS → Int32 → Int32 → Int32 → Option (Int32 × dS)} (hk4 : ∀ (q : dS) (x1 : Int32) (x2 : Int32) (x3 : Int32) (H : Heap) (locs : List Loc) (ls : Array Slot), k4 q x1 x2 x3 = some (o1, o2) → va_P D vwCl (w10 ty ad q) H → va_D A (w10 ty ad q) → va_S A s.heap H locs → lv_has ls 4 [(0, .ref (ad 0)), (1, .int x1), (2, .int x2), (3, .int x3)] → W p l e ({ frames := 2, cells := 0, slots := 0, locals := 43 } : Room) s m args below meth c H locs 0 0 (MQ below (va_Qi (fun (r : Int32) (u : va_W) => o1 = r ∧ w10 ty ad o2 = u) (kz_B D ty A) A) args s 0 0 A) (F0 m 4 ls [])) (q : dS) (x1 : Int32) (x3 : Int32) (y0 : Int32) (H : Heap) (locs : List Loc) (ls : Array Slot) (h : zX10_rankOf_40 k4 q x1 x3 y0 = some (o1, o2)) (hP : va_P D vwCl (w10 ty ad q) H) (hD : va_D A (w10 ty ad q)) (hS : va_S A s.heap H locs) (hl : lv_has ls 4 [(0, .ref (ad 0)), (1, .int x1), (3, .int x3)]) : W p l e ({ frames := 2, cells := 0, slots := 0, locals := 43 } : Room) s m args below meth c H locs 0 0 (MQ below (va_Qi (fun (r : Int32) (u : va_W) => o1 = r ∧ w10 ty ad o2 = u) (kz_B D ty A) A) args s 0 0 A) (F0 m 40 ls [.int y0]) := by
  have C0 := C
  obtain ⟨hx, hb, hr, hts, hown, hlocks, hml, hK, hN, hE, hA⟩ := C
  unfold zX10_rankOf_40 at h
  refine lv_istore_n (lv' := [(2, .int y0), (0, .ref (ad 0)), (1, .int x1), (3, .int x3)]) hx hb dX10_rankOf_40 rfl hl (by decide) rfl (fun ls hl => ?_)
  refine lv_iinc (v := x3 + 1) (lv' := [(3, .int (x3 + 1)), (2, .int y0), (0, .ref (ad 0)), (1, .int x1)]) hx hb dX10_rankOf_41 hl (k := 3) rfl rfl (by decide) rfl (fun ls hl => ?_)
  refine lv_goto (tgt := 4) hx hb dX10_rankOf_44 (by decide) ?_
  exact hk4 _ _ _ _ _ _ _ h hP hD hS (lv_sub hl [2, 3, 1, 0] rfl)
set_option maxHeartbeats 4000000 in
set_option maxRecDepth 100000 in
theorem WX10_rankOf_4b {p : Program} {l : Launch} {e : Env} {s : State} {m : MethodId} {args : Array Value} {below : List Frame} {meth : Method} {c : Code} {D : va_G} {ty : Nat → ClassId} {eo : Nat → Nat} {A : Nat → Prop} {ad : Nat → Nat} {o1 : Int32} {o2 : dS} (C : dc_C p s m args meth c cX10_rankOf (some .int) 4 RX10 wsX10_rankOf D ty eo A) {k4 : dS → Int32 → Int32 → Int32 → Option (Int32 × dS)} (hk4 : ∀ (q : dS) (x1 : Int32) (x2 : Int32) (x3 : Int32) (H : Heap) (locs : List Loc) (ls : Array Slot), k4 q x1 x2 x3 = some (o1, o2) → va_P D vwCl (w10 ty ad q) H → va_D A (w10 ty ad q) → va_S A s.heap H locs → lv_has ls 4 [(0, .ref (ad 0)), (1, .int x1), (2, .int x2), (3, .int x3)] → W p l e ({ frames := 2, cells := 0, slots := 0, locals := 43 } : Room) s m args below meth c H locs 0 0 (MQ below (va_Qi (fun (r : Int32) (u : va_W) => o1 = r ∧ w10 ty ad o2 = u) (kz_B D ty A) A) args s 0 0 A) (F0 m 4 ls [])) (q : dS) (x1 : Int32) (x2 : Int32) (x3 : Int32) (H : Heap) (locs : List Loc) (ls : Array Slot) (h : zX10_rankOf_4b k4 q x1 x2 x3 = some (o1, o2)) (hP : va_P D vwCl (w10 ty ad q) H) (hD : va_D A (w10 ty ad q)) (hS : va_S A s.heap H locs) (hl : lv_has ls 4 [(0, .ref (ad 0)), (1, .int x1), (2, .int x2), (3, .int x3)]) : W p l e ({ frames := 2, cells := 0, slots := 0, locals := 43 } : Room) s m args below meth c H locs 0 0 (MQ below (va_Qi (fun (r : Int32) (u : va_W) => o1 = r ∧ w10 ty ad o2 = u) (kz_B D ty A) A) args s 0 0 A) (F0 m 4 ls []) := by
  have C0 := C
  obtain ⟨hx, hb, hr, hts, hown, hlocks, hml, hK, hN, hE, hA⟩ := C
  unfold zX10_rankOf_4b at h
  refine lv_iload_n hx hb dX10_rankOf_4 rfl (lv_at hl 3 rfl) ?_
  refine lv_aload_n hx hb dX10_rankOf_5 rfl (lv_at hl 0 rfl) ?_
  obtain ⟨r1, q3, h2, h⟩ := dB_some h
  refine dw_ki (va_runV (As := []) (rest := [.int x3]) ⟨hx, hb, hml, hown, hts⟩ (qX10_size l D ty eo _ ad q  r1 q3 h2) (cwV 0 hts gX10_rankOf_X10_size rfl rfl rfl hd_X10_size_v ⟨Nat.le_of_ble_eq_true rfl, Nat.le_of_ble_eq_true rfl⟩) (pv10_10_0 hK hN hE hP hD hS hA) rfl rfl hl.1 rfl (lv_room (Nat.le_of_ble_eq_true rfl)) dX10_rankOf_6 ⟨Nat.le_of_ble_eq_true rfl, Nat.le_of_ble_eq_true rfl⟩) hD hS hA (fun r9 u9 H locs hw hp hd hs => ?_)
  clear hP hD hS
  obtain ⟨rfl, rfl⟩ := hw
  have hP := hp; have hD := hd; have hS := hs; clear hp hd hs
  refine lv_icmp_ge (tgt := 47) hx hb dX10_rankOf_9 (by decide) (fun c9 => ?_) (fun c9 => ?_)
  · rw [if_pos c9] at h
    refine lv_iload_n hx hb dX10_rankOf_47 rfl (lv_at hl 2 rfl) ?_
    cases h
    exact kz_iret hx hb hr hlocks hP hK hD hS dX10_rankOf_48 ⟨rfl, rfl⟩
  · rw [if_neg c9] at h
    refine lv_aload_n hx hb dX10_rankOf_12 rfl (lv_at hl 0 rfl) ?_
    refine lv_aload_n hx hb dX10_rankOf_13 rfl (lv_at hl 0 rfl) ?_
    refine va_get (D := D) (ci := 10) (v := .ref (ad 2)) (C := RX10) (T := TX10) (N := 56) hx hb hts u9_wsX10_rankOf_X10 hown hK hP 0 rfl rfl 2 (by decide) (hts (.fieldLink RX10 28 "TurnedFloorsModel" "kept" "[I") f9_wsX10_rankOf_191) (fun _ h9 => h9) rfl dX10_rankOf_14 ?_
    refine lv_iconst (v := 0) hx hb dX10_rankOf_17 (by decide) ?_
    refine lv_iload_n hx hb dX10_rankOf_18 rfl (lv_at hl 3 rfl) ?_
    refine lv_iadd hx hb dX10_rankOf_19 ?_
    obtain ⟨g4, h⟩ := dG_some h
    refine va_iald hx hb hK hP 2 0 rfl rfl (dg_in g4) dX10_rankOf_20 ?_
    obtain ⟨v5, ev5, h⟩ := dL_some h
    refine kz_topi v5 ev5 ?_
    obtain ⟨r6, q8, h7, h⟩ := dB_some h
    refine dw_ki (va_runV (As := [.int v5]) (rest := []) ⟨hx, hb, hml, hown, hts⟩ (qX10_lessThan l D ty eo _ ad q3 v5 r6 q8 h7) (cwV 1 hts gX10_rankOf_X10_lessThan rfl rfl rfl hd_X10_lessThan_v ⟨Nat.le_of_ble_eq_true rfl, Nat.le_of_ble_eq_true rfl⟩) (pv10_10_0 hK hN hE hP hD hS hA) rfl rfl hl.1 rfl (lv_room (Nat.le_of_ble_eq_true rfl)) dX10_rankOf_21 ⟨Nat.le_of_ble_eq_true rfl, Nat.le_of_ble_eq_true rfl⟩) hD hS hA (fun r9 u9 H locs hw hp hd hs => ?_)
    clear hP hD hS
    obtain ⟨rfl, rfl⟩ := hw
    have hP := hp; have hD := hd; have hS := hs; clear hp hd hs
    refine lv_iload_n hx hb dX10_rankOf_24 rfl (lv_at hl 1 rfl) ?_
    refine lv_icmp_ne (tgt := 39) hx hb dX10_rankOf_25 (by decide) (fun c9 => ?_) (fun c9 => ?_)
    · rw [if_neg c9] at h
      refine lv_iload_n hx hb dX10_rankOf_39 rfl (lv_at hl 2 rfl) ?_
      exact WX10_rankOf_40 C0 hk4 _ _ _ _ _ _ _ h hP hD hS (lv_sub hl [0, 1, 3] rfl)
    · rw [if_pos c9] at h
      refine lv_aload_n hx hb dX10_rankOf_28 rfl (lv_at hl 0 rfl) ?_
      refine va_get (D := D) (ci := 10) (v := .ref (ad 2)) (C := RX10) (T := TX10) (N := 56) hx hb hts u9_wsX10_rankOf_X10 hown hK hP 0 rfl rfl 2 (by decide) (hts (.fieldLink RX10 28 "TurnedFloorsModel" "kept" "[I") f9_wsX10_rankOf_191) (fun _ h9 => h9) rfl dX10_rankOf_29 ?_
      refine lv_iconst (v := 0) hx hb dX10_rankOf_32 (by decide) ?_
      refine lv_iload_n hx hb dX10_rankOf_33 rfl (lv_at hl 3 rfl) ?_
      refine lv_iadd hx hb dX10_rankOf_34 ?_
      obtain ⟨g9, h⟩ := dG_some h
      refine va_iald hx hb hK hP 2 0 rfl rfl (dg_in g9) dX10_rankOf_35 ?_
      obtain ⟨v10, ev10, h⟩ := dL_some h
      refine kz_topi v10 ev10 ?_
      refine lv_goto (tgt := 40) hx hb dX10_rankOf_36 (by decide) ?_
      exact WX10_rankOf_40 C0 hk4 _ _ _ _ _ _ _ h hP hD hS (lv_sub hl [0, 1, 3] rfl)
set_option maxHeartbeats 4000000 in
set_option maxRecDepth 100000 in
theorem WX10_rankOf_4 {p : Program} {l : Launch} {e : Env} {s : State} {m : MethodId} {args : Array Value} {below : List Frame} {meth : Method} {c : Code} {D : va_G} {ty : Nat → ClassId} {eo : Nat → Nat} {A : Nat → Prop} {ad : Nat → Nat} {o1 : Int32} {o2 : dS} (C : dc_C p s m args meth c cX10_rankOf (some .int) 4 RX10 wsX10_rankOf D ty eo A)   (n : Nat) (q : dS) (x1 : Int32) (x2 : Int32) (x3 : Int32) (H : Heap) (locs : List Loc) (ls : Array Slot) (h : zX10_rankOf_4  n q x1 x2 x3 = some (o1, o2)) (hP : va_P D vwCl (w10 ty ad q) H) (hD : va_D A (w10 ty ad q)) (hS : va_S A s.heap H locs) (hl : lv_has ls 4 [(0, .ref (ad 0)), (1, .int x1), (2, .int x2), (3, .int x3)]) : W p l e ({ frames := 2, cells := 0, slots := 0, locals := 43 } : Room) s m args below meth c H locs 0 0 (MQ below (va_Qi (fun (r : Int32) (u : va_W) => o1 = r ∧ w10 ty ad o2 = u) (kz_B D ty A) A) args s 0 0 A) (F0 m 4 ls []) := by
  exact dFix_W (F := fun k (a : dS × Int32 × Int32 × Int32) => zX10_rankOf_4b  (fun q x1 x2 x3 => k (q, x1, x2, x3)) a.1 a.2.1 a.2.2.1 a.2.2.2) (o := (o1, o2)) (P := fun (a : dS × Int32 × Int32 × Int32) H locs ls => va_P D vwCl (w10 ty ad a.1) H ∧ va_D A (w10 ty ad a.1) ∧ va_S A s.heap H locs ∧ lv_has ls 4 [(0, .ref (ad 0)), (1, .int a.2.1), (2, .int a.2.2.1), (3, .int a.2.2.2)]) (G := fun H locs ls => W p l e ({ frames := 2, cells := 0, slots := 0, locals := 43 } : Room) s m args below meth c H locs 0 0 (MQ below (va_Qi (fun (r : Int32) (u : va_W) => o1 = r ∧ w10 ty ad o2 = u) (kz_B D ty A) A) args s 0 0 A) (F0 m 4 ls []))
    (fun k hk a H locs ls h hp => WX10_rankOf_4b C  (fun q x1 x2 x3 H locs ls h h1 h2 h3 h4 => hk (q, x1, x2, x3) H locs ls h ⟨h1, h2, h3, h4⟩) a.1 a.2.1 a.2.2.1 a.2.2.2 H locs ls h hp.1 hp.2.1 hp.2.2.1 hp.2.2.2) n (q, x1, x2, x3) H locs ls h ⟨hP, hD, hS, hl⟩
set_option maxHeartbeats 4000000 in
set_option maxRecDepth 100000 in
theorem qX10_rankOf (l : Launch) (D : va_G) (ty : Nat → ClassId) (eo : Nat → Nat) (sz : Nat) (ad : Nat → Nat) (q : dS) (p1 : Int32) (o1 : Int32) (o2 : dS) (h : zX10_rankOf q p1 = some (o1, o2)) : Met l yX10_rankOf wsX10_rankOf ({ frames := 2, cells := 0, slots := 0, locals := 43 } : Room) (va_Pc [.ref (ad 0), .int p1] (kz_pre D ty eo (w10 ty ad q) sz)) (va_Qi (fun (r : Int32) (u : va_W) => o1 = r ∧ w10 ty ad o2 = u) (kz_B D ty (va_A (w10 ty ad q) sz)) (va_A (w10 ty ad q) sz)) 0 0 (va_A (w10 ty ad q) sz) := by
  refine Met.ofW (cc := cX10_rankOf) (maxL := 4) (ret := (some .int)) (by decide) rfl ?_
  intro p e s m args below meth c s₁ B hml hv
  obtain ⟨rfl, hsz, hP, hK, hD0, hN, hE⟩ := hv
  have hx := B.exec
  have hb := B.bytes
  have hr := B.returns
  have hts := atoms_spec (ws := wsX10_rankOf) B.pre
  have hown : s.vm.findClass RX10 = some m.cls := findClass_of_methodNamed B.named
  have hlocks := B.notSynchronized
  subst hsz
  have hD := hD0.self (sz := s.heap.size)
  generalize hAe : va_A (w10 ty ad q) s.heap.size = A at hD hE ⊢
  have hA : ∀ q : Nat, s.heap.size ≤ q → A q := fun q h => by rw [← hAe]; exact Or.inr h
  clear hAe
  have hS : va_S A s.heap s.heap [] := va_S.rf
  have hl := lv_entry ([.ref (ad 0), .int p1]) (n := 4) (Nat.le_of_ble_eq_true rfl)
  rw [lg_entry_eq]
  generalize (lg_sl ([.ref (ad 0), .int p1]) ++ List.replicate (4 - (lg_sl ([.ref (ad 0), .int p1])).length) Slot.unset).toArray = ls at hl ⊢
  have hl : lv_has ls 4 [(0, .ref (ad 0)), (1, .int p1)] := hl
  have C : dc_C p s m _ meth c cX10_rankOf (some .int) 4 RX10 wsX10_rankOf D ty eo A := ⟨hx, hb, hr, hts, hown, hlocks, hml, hK, hN, hE, hA⟩
  unfold zX10_rankOf at h
  refine lv_iconst (v := (-1)) hx hb dX10_rankOf_0 (by decide) ?_
  refine lv_istore_n (lv' := [(2, .int (-1)), (0, .ref (ad 0)), (1, .int p1)]) hx hb dX10_rankOf_1 rfl hl (by decide) rfl (fun ls hl => ?_)
  refine lv_iconst (v := 0) hx hb dX10_rankOf_2 (by decide) ?_
  refine lv_istore_n (lv' := [(3, .int 0), (2, .int (-1)), (0, .ref (ad 0)), (1, .int p1)]) hx hb dX10_rankOf_3 rfl hl (by decide) rfl (fun ls hl => ?_)
  exact WX10_rankOf_4 C  _ _ _ _ _ _ _ _ h hP hD hS (lv_sub hl [2, 3, 1, 0] rfl)
end
section
set_option maxRecDepth 20000 in
theorem ggX10_towerNow_X10_size : GoodIn wsX10_towerNow wsX10_size := wd_c vW10_ok mvW10_24
set_option maxRecDepth 20000 in
theorem gX10_towerNow_X10_size : GoodIn wsX10_towerNow (wsV RX10 125 RX10 yX10_size wsX10_size) := goodIn_app (wd_l vW10_ok _ pvW10_144) ggX10_towerNow_X10_size
set_option maxRecDepth 20000 in
theorem ggX10_towerNow_X10_lessThan : GoodIn wsX10_towerNow wsX10_lessThan := wd_c vW10_ok mvW10_106
set_option maxRecDepth 20000 in
theorem gX10_towerNow_X10_lessThan : GoodIn wsX10_towerNow (wsV RX10 401 RX10 yX10_lessThan wsX10_lessThan) := goodIn_app (wd_l vW10_ok _ pvW10_212) ggX10_towerNow_X10_lessThan
set_option maxRecDepth 20000 in
theorem ggX10_towerNow_X10_numberOf : GoodIn wsX10_towerNow wsX10_numberOf := wd_c vW10_ok mvW10_366
set_option maxRecDepth 20000 in
theorem gX10_towerNow_X10_numberOf : GoodIn wsX10_towerNow (wsV RX10 395 RX10 yX10_numberOf wsX10_numberOf) := goodIn_app (wd_l vW10_ok _ pvW10_210) ggX10_towerNow_X10_numberOf
theorem da9_dX10_towerNow_0 : (decode cX10_towerNow 0 = .ok (.iconst 0, 1)) ∧ (decode cX10_towerNow 1 = .ok (.istore_n 1, 1)) ∧ (decode cX10_towerNow 2 = .ok (.iconst 0, 1)) ∧ (decode cX10_towerNow 3 = .ok (.istore_n 2, 1)) ∧ (decode cX10_towerNow 4 = .ok (.iload_n 2, 1)) ∧ (decode cX10_towerNow 5 = .ok (.aload_n 0, 1)) ∧ (decode cX10_towerNow 6 = .ok (.invokevirtual 125, 3)) ∧ (decode cX10_towerNow 9 = .ok (.if_icmp .ge 41, 3)) ∧ (decode cX10_towerNow 12 = .ok (.aload_n 0, 1)) ∧ (decode cX10_towerNow 13 = .ok (.getfield 84, 3)) ∧ (decode cX10_towerNow 16 = .ok (.iload_n 2, 1)) ∧ (decode cX10_towerNow 17 = .ok (.aload_n 0, 1)) ∧ (decode cX10_towerNow 18 = .ok (.aload_n 0, 1)) ∧ (decode cX10_towerNow 19 = .ok (.getfield 28, 3)) ∧ (decode cX10_towerNow 22 = .ok (.iconst 0, 1)) ∧ (decode cX10_towerNow 23 = .ok (.iload_n 2, 1)) := by decide +kernel
theorem dX10_towerNow_0 : decode cX10_towerNow 0 = .ok (.iconst 0, 1) := da9_dX10_towerNow_0.1
theorem dX10_towerNow_1 : decode cX10_towerNow 1 = .ok (.istore_n 1, 1) := da9_dX10_towerNow_0.2.1
theorem dX10_towerNow_2 : decode cX10_towerNow 2 = .ok (.iconst 0, 1) := da9_dX10_towerNow_0.2.2.1
theorem dX10_towerNow_3 : decode cX10_towerNow 3 = .ok (.istore_n 2, 1) := da9_dX10_towerNow_0.2.2.2.1
theorem dX10_towerNow_4 : decode cX10_towerNow 4 = .ok (.iload_n 2, 1) := da9_dX10_towerNow_0.2.2.2.2.1
theorem dX10_towerNow_5 : decode cX10_towerNow 5 = .ok (.aload_n 0, 1) := da9_dX10_towerNow_0.2.2.2.2.2.1
theorem dX10_towerNow_6 : decode cX10_towerNow 6 = .ok (.invokevirtual 125, 3) := da9_dX10_towerNow_0.2.2.2.2.2.2.1
theorem dX10_towerNow_9 : decode cX10_towerNow 9 = .ok (.if_icmp .ge 41, 3) := da9_dX10_towerNow_0.2.2.2.2.2.2.2.1
theorem dX10_towerNow_12 : decode cX10_towerNow 12 = .ok (.aload_n 0, 1) := da9_dX10_towerNow_0.2.2.2.2.2.2.2.2.1
theorem dX10_towerNow_13 : decode cX10_towerNow 13 = .ok (.getfield 84, 3) := da9_dX10_towerNow_0.2.2.2.2.2.2.2.2.2.1
theorem dX10_towerNow_16 : decode cX10_towerNow 16 = .ok (.iload_n 2, 1) := da9_dX10_towerNow_0.2.2.2.2.2.2.2.2.2.2.1
theorem dX10_towerNow_17 : decode cX10_towerNow 17 = .ok (.aload_n 0, 1) := da9_dX10_towerNow_0.2.2.2.2.2.2.2.2.2.2.2.1
theorem dX10_towerNow_18 : decode cX10_towerNow 18 = .ok (.aload_n 0, 1) := da9_dX10_towerNow_0.2.2.2.2.2.2.2.2.2.2.2.2.1
theorem dX10_towerNow_19 : decode cX10_towerNow 19 = .ok (.getfield 28, 3) := da9_dX10_towerNow_0.2.2.2.2.2.2.2.2.2.2.2.2.2.1
theorem dX10_towerNow_22 : decode cX10_towerNow 22 = .ok (.iconst 0, 1) := da9_dX10_towerNow_0.2.2.2.2.2.2.2.2.2.2.2.2.2.2.1
theorem dX10_towerNow_23 : decode cX10_towerNow 23 = .ok (.iload_n 2, 1) := da9_dX10_towerNow_0.2.2.2.2.2.2.2.2.2.2.2.2.2.2.2
theorem da9_dX10_towerNow_24 : (decode cX10_towerNow 24 = .ok (.iadd, 1)) ∧ (decode cX10_towerNow 25 = .ok (.iaload, 1)) ∧ (decode cX10_towerNow 26 = .ok (.invokevirtual 401, 3)) ∧ (decode cX10_towerNow 29 = .ok (.iastore, 1)) ∧ (decode cX10_towerNow 30 = .ok (.iload_n 1, 1)) ∧ (decode cX10_towerNow 31 = .ok (.aload_n 0, 1)) ∧ (decode cX10_towerNow 32 = .ok (.getfield 28, 3)) ∧ (decode cX10_towerNow 35 = .ok (.bipush 6, 2)) ∧ (decode cX10_towerNow 37 = .ok (.iload_n 2, 1)) ∧ (decode cX10_towerNow 38 = .ok (.iadd, 1)) ∧ (decode cX10_towerNow 39 = .ok (.iaload, 1)) ∧ (decode cX10_towerNow 40 = .ok (.iload_n 2, 1)) ∧ (decode cX10_towerNow 41 = .ok (.ishl, 1)) ∧ (decode cX10_towerNow 42 = .ok (.ior, 1)) ∧ (decode cX10_towerNow 43 = .ok (.istore_n 1, 1)) ∧ (decode cX10_towerNow 44 = .ok (.iinc 2 1, 3)) := by decide +kernel
theorem dX10_towerNow_24 : decode cX10_towerNow 24 = .ok (.iadd, 1) := da9_dX10_towerNow_24.1
theorem dX10_towerNow_25 : decode cX10_towerNow 25 = .ok (.iaload, 1) := da9_dX10_towerNow_24.2.1
theorem dX10_towerNow_26 : decode cX10_towerNow 26 = .ok (.invokevirtual 401, 3) := da9_dX10_towerNow_24.2.2.1
theorem dX10_towerNow_29 : decode cX10_towerNow 29 = .ok (.iastore, 1) := da9_dX10_towerNow_24.2.2.2.1
theorem dX10_towerNow_30 : decode cX10_towerNow 30 = .ok (.iload_n 1, 1) := da9_dX10_towerNow_24.2.2.2.2.1
theorem dX10_towerNow_31 : decode cX10_towerNow 31 = .ok (.aload_n 0, 1) := da9_dX10_towerNow_24.2.2.2.2.2.1
theorem dX10_towerNow_32 : decode cX10_towerNow 32 = .ok (.getfield 28, 3) := da9_dX10_towerNow_24.2.2.2.2.2.2.1
theorem dX10_towerNow_35 : decode cX10_towerNow 35 = .ok (.bipush 6, 2) := da9_dX10_towerNow_24.2.2.2.2.2.2.2.1
theorem dX10_towerNow_37 : decode cX10_towerNow 37 = .ok (.iload_n 2, 1) := da9_dX10_towerNow_24.2.2.2.2.2.2.2.2.1
theorem dX10_towerNow_38 : decode cX10_towerNow 38 = .ok (.iadd, 1) := da9_dX10_towerNow_24.2.2.2.2.2.2.2.2.2.1
theorem dX10_towerNow_39 : decode cX10_towerNow 39 = .ok (.iaload, 1) := da9_dX10_towerNow_24.2.2.2.2.2.2.2.2.2.2.1
theorem dX10_towerNow_40 : decode cX10_towerNow 40 = .ok (.iload_n 2, 1) := da9_dX10_towerNow_24.2.2.2.2.2.2.2.2.2.2.2.1
theorem dX10_towerNow_41 : decode cX10_towerNow 41 = .ok (.ishl, 1) := da9_dX10_towerNow_24.2.2.2.2.2.2.2.2.2.2.2.2.1
theorem dX10_towerNow_42 : decode cX10_towerNow 42 = .ok (.ior, 1) := da9_dX10_towerNow_24.2.2.2.2.2.2.2.2.2.2.2.2.2.1
theorem dX10_towerNow_43 : decode cX10_towerNow 43 = .ok (.istore_n 1, 1) := da9_dX10_towerNow_24.2.2.2.2.2.2.2.2.2.2.2.2.2.2.1
theorem dX10_towerNow_44 : decode cX10_towerNow 44 = .ok (.iinc 2 1, 3) := da9_dX10_towerNow_24.2.2.2.2.2.2.2.2.2.2.2.2.2.2.2
theorem da9_dX10_towerNow_47 : (decode cX10_towerNow 47 = .ok (.goto (-43), 3)) ∧ (decode cX10_towerNow 50 = .ok (.bipush 64, 2)) ∧ (decode cX10_towerNow 52 = .ok (.aload_n 0, 1)) ∧ (decode cX10_towerNow 53 = .ok (.invokevirtual 395, 3)) ∧ (decode cX10_towerNow 56 = .ok (.imul, 1)) ∧ (decode cX10_towerNow 57 = .ok (.iload_n 1, 1)) ∧ (decode cX10_towerNow 58 = .ok (.iadd, 1)) ∧ (decode cX10_towerNow 59 = .ok (.ireturn, 1)) := by decide +kernel
theorem dX10_towerNow_47 : decode cX10_towerNow 47 = .ok (.goto (-43), 3) := da9_dX10_towerNow_47.1
theorem dX10_towerNow_50 : decode cX10_towerNow 50 = .ok (.bipush 64, 2) := da9_dX10_towerNow_47.2.1
theorem dX10_towerNow_52 : decode cX10_towerNow 52 = .ok (.aload_n 0, 1) := da9_dX10_towerNow_47.2.2.1
theorem dX10_towerNow_53 : decode cX10_towerNow 53 = .ok (.invokevirtual 395, 3) := da9_dX10_towerNow_47.2.2.2.1
theorem dX10_towerNow_56 : decode cX10_towerNow 56 = .ok (.imul, 1) := da9_dX10_towerNow_47.2.2.2.2.1
theorem dX10_towerNow_57 : decode cX10_towerNow 57 = .ok (.iload_n 1, 1) := da9_dX10_towerNow_47.2.2.2.2.2.1
theorem dX10_towerNow_58 : decode cX10_towerNow 58 = .ok (.iadd, 1) := da9_dX10_towerNow_47.2.2.2.2.2.2.1
theorem dX10_towerNow_59 : decode cX10_towerNow 59 = .ok (.ireturn, 1) := da9_dX10_towerNow_47.2.2.2.2.2.2.2
theorem da9_dX10_askedAt_0 : (decode cX10_askedAt 0 = .ok (.iload_n 0, 1)) ∧ (decode cX10_askedAt 1 = .ok (.bipush 6, 2)) ∧ (decode cX10_askedAt 3 = .ok (.imul, 1)) ∧ (decode cX10_askedAt 4 = .ok (.iload_n 1, 1)) ∧ (decode cX10_askedAt 5 = .ok (.iadd, 1)) ∧ (decode cX10_askedAt 6 = .ok (.bipush 7, 2)) ∧ (decode cX10_askedAt 8 = .ok (.imul, 1)) ∧ (decode cX10_askedAt 9 = .ok (.iload_n 2, 1)) ∧ (decode cX10_askedAt 10 = .ok (.iadd, 1)) ∧ (decode cX10_askedAt 11 = .ok (.iconst 2, 1)) ∧ (decode cX10_askedAt 12 = .ok (.imul, 1)) ∧ (decode cX10_askedAt 13 = .ok (.iload_n 3, 1)) ∧ (decode cX10_askedAt 14 = .ok (.iadd, 1)) ∧ (decode cX10_askedAt 15 = .ok (.ireturn, 1)) := by decide +kernel
theorem dX10_askedAt_0 : decode cX10_askedAt 0 = .ok (.iload_n 0, 1) := da9_dX10_askedAt_0.1
theorem dX10_askedAt_1 : decode cX10_askedAt 1 = .ok (.bipush 6, 2) := da9_dX10_askedAt_0.2.1
theorem dX10_askedAt_3 : decode cX10_askedAt 3 = .ok (.imul, 1) := da9_dX10_askedAt_0.2.2.1
theorem dX10_askedAt_4 : decode cX10_askedAt 4 = .ok (.iload_n 1, 1) := da9_dX10_askedAt_0.2.2.2.1
theorem dX10_askedAt_5 : decode cX10_askedAt 5 = .ok (.iadd, 1) := da9_dX10_askedAt_0.2.2.2.2.1
theorem dX10_askedAt_6 : decode cX10_askedAt 6 = .ok (.bipush 7, 2) := da9_dX10_askedAt_0.2.2.2.2.2.1
theorem dX10_askedAt_8 : decode cX10_askedAt 8 = .ok (.imul, 1) := da9_dX10_askedAt_0.2.2.2.2.2.2.1
theorem dX10_askedAt_9 : decode cX10_askedAt 9 = .ok (.iload_n 2, 1) := da9_dX10_askedAt_0.2.2.2.2.2.2.2.1
theorem dX10_askedAt_10 : decode cX10_askedAt 10 = .ok (.iadd, 1) := da9_dX10_askedAt_0.2.2.2.2.2.2.2.2.1
theorem dX10_askedAt_11 : decode cX10_askedAt 11 = .ok (.iconst 2, 1) := da9_dX10_askedAt_0.2.2.2.2.2.2.2.2.2.1
theorem dX10_askedAt_12 : decode cX10_askedAt 12 = .ok (.imul, 1) := da9_dX10_askedAt_0.2.2.2.2.2.2.2.2.2.2.1
theorem dX10_askedAt_13 : decode cX10_askedAt 13 = .ok (.iload_n 3, 1) := da9_dX10_askedAt_0.2.2.2.2.2.2.2.2.2.2.2.1
theorem dX10_askedAt_14 : decode cX10_askedAt 14 = .ok (.iadd, 1) := da9_dX10_askedAt_0.2.2.2.2.2.2.2.2.2.2.2.2.1
theorem dX10_askedAt_15 : decode cX10_askedAt 15 = .ok (.ireturn, 1) := da9_dX10_askedAt_0.2.2.2.2.2.2.2.2.2.2.2.2.2
set_option maxRecDepth 20000 in
theorem ggX10_laysPrices_X10_laysTables : GoodIn wsX10_laysPrices wsX10_laysTables := wd_c vW10_ok mvW10_347
set_option maxRecDepth 20000 in
theorem gX10_laysPrices_X10_laysTables : GoodIn wsX10_laysPrices (wsV RX10 404 RX10 yX10_laysTables wsX10_laysTables) := goodIn_app (wd_l vW10_ok _ pvW10_213) ggX10_laysPrices_X10_laysTables
set_option maxRecDepth 20000 in
theorem ggX10_laysPrices_X10_size : GoodIn wsX10_laysPrices wsX10_size := wd_c vW10_ok mvW10_24
set_option maxRecDepth 20000 in
theorem gX10_laysPrices_X10_size : GoodIn wsX10_laysPrices (wsV RX10 125 RX10 yX10_size wsX10_size) := goodIn_app (wd_l vW10_ok _ pvW10_144) ggX10_laysPrices_X10_size
set_option maxRecDepth 20000 in
theorem ggX10_laysPrices_X10_rankOf : GoodIn wsX10_laysPrices wsX10_rankOf := wd_c vW10_ok mvW10_374
set_option maxRecDepth 20000 in
theorem gX10_laysPrices_X10_rankOf : GoodIn wsX10_laysPrices (wsV RX10 407 RX10 yX10_rankOf wsX10_rankOf) := goodIn_app (wd_l vW10_ok _ pvW10_214) ggX10_laysPrices_X10_rankOf
set_option maxRecDepth 20000 in
theorem ggX10_laysPrices_X10_setsTurn : GoodIn wsX10_laysPrices wsX10_setsTurn := wd_c vW10_ok mvW10_134
set_option maxRecDepth 20000 in
theorem gX10_laysPrices_X10_setsTurn : GoodIn wsX10_laysPrices (wsV RX10 152 RX10 yX10_setsTurn wsX10_setsTurn) := goodIn_app (wd_l vW10_ok _ pvW10_152) ggX10_laysPrices_X10_setsTurn
set_option maxRecDepth 20000 in
theorem ggX10_laysPrices_X10_askedAt : GoodIn wsX10_laysPrices wsX10_askedAt := wd_c vW10_ok mvW10_377
set_option maxRecDepth 20000 in
theorem gX10_laysPrices_X10_askedAt : GoodIn wsX10_laysPrices (va_wsS RX10 410 yX10_askedAt wsX10_askedAt) := goodIn_app (wd_l vW10_ok _ pvW10_215) ggX10_laysPrices_X10_askedAt
set_option maxRecDepth 20000 in
theorem ggX10_laysPrices_X10_isNow : GoodIn wsX10_laysPrices wsX10_isNow := wd_c vW10_ok mvW10_58
set_option maxRecDepth 20000 in
theorem gX10_laysPrices_X10_isNow : GoodIn wsX10_laysPrices (wsV RX10 159 RX10 yX10_isNow wsX10_isNow) := goodIn_app (wd_l vW10_ok _ pvW10_154) ggX10_laysPrices_X10_isNow
set_option maxRecDepth 20000 in
theorem ggX10_laysPrices_X10_paysNow : GoodIn wsX10_laysPrices wsX10_paysNow := wd_c vW10_ok mvW10_138
set_option maxRecDepth 20000 in
theorem gX10_laysPrices_X10_paysNow : GoodIn wsX10_laysPrices (wsV RX10 156 RX10 yX10_paysNow wsX10_paysNow) := goodIn_app (wd_l vW10_ok _ pvW10_153) ggX10_laysPrices_X10_paysNow
theorem da9_dX10_laysPrices_0 : (decode cX10_laysPrices 0 = .ok (.aload_n 0, 1)) ∧ (decode cX10_laysPrices 1 = .ok (.invokevirtual 404, 3)) ∧ (decode cX10_laysPrices 4 = .ok (.iconst 1, 1)) ∧ (decode cX10_laysPrices 5 = .ok (.istore_n 1, 1)) ∧ (decode cX10_laysPrices 6 = .ok (.iload_n 1, 1)) ∧ (decode cX10_laysPrices 7 = .ok (.aload_n 0, 1)) ∧ (decode cX10_laysPrices 8 = .ok (.invokevirtual 125, 3)) ∧ (decode cX10_laysPrices 11 = .ok (.if_icmp .gt 112, 3)) ∧ (decode cX10_laysPrices 14 = .ok (.iconst 0, 1)) ∧ (decode cX10_laysPrices 15 = .ok (.istore_n 2, 1)) ∧ (decode cX10_laysPrices 16 = .ok (.iload_n 2, 1)) ∧ (decode cX10_laysPrices 17 = .ok (.aload_n 0, 1)) ∧ (decode cX10_laysPrices 18 = .ok (.invokevirtual 125, 3)) ∧ (decode cX10_laysPrices 21 = .ok (.if_icmp .ge 96, 3)) ∧ (decode cX10_laysPrices 24 = .ok (.iconst 0, 1)) ∧ (decode cX10_laysPrices 25 = .ok (.istore_n 3, 1)) := by decide +kernel
theorem dX10_laysPrices_0 : decode cX10_laysPrices 0 = .ok (.aload_n 0, 1) := da9_dX10_laysPrices_0.1
theorem dX10_laysPrices_1 : decode cX10_laysPrices 1 = .ok (.invokevirtual 404, 3) := da9_dX10_laysPrices_0.2.1
theorem dX10_laysPrices_4 : decode cX10_laysPrices 4 = .ok (.iconst 1, 1) := da9_dX10_laysPrices_0.2.2.1
theorem dX10_laysPrices_5 : decode cX10_laysPrices 5 = .ok (.istore_n 1, 1) := da9_dX10_laysPrices_0.2.2.2.1
theorem dX10_laysPrices_6 : decode cX10_laysPrices 6 = .ok (.iload_n 1, 1) := da9_dX10_laysPrices_0.2.2.2.2.1
theorem dX10_laysPrices_7 : decode cX10_laysPrices 7 = .ok (.aload_n 0, 1) := da9_dX10_laysPrices_0.2.2.2.2.2.1
theorem dX10_laysPrices_8 : decode cX10_laysPrices 8 = .ok (.invokevirtual 125, 3) := da9_dX10_laysPrices_0.2.2.2.2.2.2.1
theorem dX10_laysPrices_11 : decode cX10_laysPrices 11 = .ok (.if_icmp .gt 112, 3) := da9_dX10_laysPrices_0.2.2.2.2.2.2.2.1
theorem dX10_laysPrices_14 : decode cX10_laysPrices 14 = .ok (.iconst 0, 1) := da9_dX10_laysPrices_0.2.2.2.2.2.2.2.2.1
theorem dX10_laysPrices_15 : decode cX10_laysPrices 15 = .ok (.istore_n 2, 1) := da9_dX10_laysPrices_0.2.2.2.2.2.2.2.2.2.1
theorem dX10_laysPrices_16 : decode cX10_laysPrices 16 = .ok (.iload_n 2, 1) := da9_dX10_laysPrices_0.2.2.2.2.2.2.2.2.2.2.1
theorem dX10_laysPrices_17 : decode cX10_laysPrices 17 = .ok (.aload_n 0, 1) := da9_dX10_laysPrices_0.2.2.2.2.2.2.2.2.2.2.2.1
theorem dX10_laysPrices_18 : decode cX10_laysPrices 18 = .ok (.invokevirtual 125, 3) := da9_dX10_laysPrices_0.2.2.2.2.2.2.2.2.2.2.2.2.1
theorem dX10_laysPrices_21 : decode cX10_laysPrices 21 = .ok (.if_icmp .ge 96, 3) := da9_dX10_laysPrices_0.2.2.2.2.2.2.2.2.2.2.2.2.2.1
theorem dX10_laysPrices_24 : decode cX10_laysPrices 24 = .ok (.iconst 0, 1) := da9_dX10_laysPrices_0.2.2.2.2.2.2.2.2.2.2.2.2.2.2.1
theorem dX10_laysPrices_25 : decode cX10_laysPrices 25 = .ok (.istore_n 3, 1) := da9_dX10_laysPrices_0.2.2.2.2.2.2.2.2.2.2.2.2.2.2.2
theorem da9_dX10_laysPrices_26 : (decode cX10_laysPrices 26 = .ok (.iload_n 3, 1)) ∧ (decode cX10_laysPrices 27 = .ok (.aload_n 0, 1)) ∧ (decode cX10_laysPrices 28 = .ok (.invokevirtual 125, 3)) ∧ (decode cX10_laysPrices 31 = .ok (.if_icmp .gt 80, 3)) ∧ (decode cX10_laysPrices 34 = .ok (.iconst 0, 1)) ∧ (decode cX10_laysPrices 35 = .ok (.istore 4, 2)) ∧ (decode cX10_laysPrices 37 = .ok (.iload 4, 2)) ∧ (decode cX10_laysPrices 39 = .ok (.iconst 2, 1)) ∧ (decode cX10_laysPrices 40 = .ok (.if_icmp .ge 65, 3)) ∧ (decode cX10_laysPrices 43 = .ok (.aload_n 0, 1)) ∧ (decode cX10_laysPrices 44 = .ok (.iload_n 1, 1)) ∧ (decode cX10_laysPrices 45 = .ok (.aload_n 0, 1)) ∧ (decode cX10_laysPrices 46 = .ok (.iload_n 2, 1)) ∧ (decode cX10_laysPrices 47 = .ok (.invokevirtual 407, 3)) ∧ (decode cX10_laysPrices 50 = .ok (.iload_n 3, 1)) ∧ (decode cX10_laysPrices 51 = .ok (.ifCond .ne 7, 3)) := by decide +kernel
theorem dX10_laysPrices_26 : decode cX10_laysPrices 26 = .ok (.iload_n 3, 1) := da9_dX10_laysPrices_26.1
theorem dX10_laysPrices_27 : decode cX10_laysPrices 27 = .ok (.aload_n 0, 1) := da9_dX10_laysPrices_26.2.1
theorem dX10_laysPrices_28 : decode cX10_laysPrices 28 = .ok (.invokevirtual 125, 3) := da9_dX10_laysPrices_26.2.2.1
theorem dX10_laysPrices_31 : decode cX10_laysPrices 31 = .ok (.if_icmp .gt 80, 3) := da9_dX10_laysPrices_26.2.2.2.1
theorem dX10_laysPrices_34 : decode cX10_laysPrices 34 = .ok (.iconst 0, 1) := da9_dX10_laysPrices_26.2.2.2.2.1
theorem dX10_laysPrices_35 : decode cX10_laysPrices 35 = .ok (.istore 4, 2) := da9_dX10_laysPrices_26.2.2.2.2.2.1
theorem dX10_laysPrices_37 : decode cX10_laysPrices 37 = .ok (.iload 4, 2) := da9_dX10_laysPrices_26.2.2.2.2.2.2.1
theorem dX10_laysPrices_39 : decode cX10_laysPrices 39 = .ok (.iconst 2, 1) := da9_dX10_laysPrices_26.2.2.2.2.2.2.2.1
theorem dX10_laysPrices_40 : decode cX10_laysPrices 40 = .ok (.if_icmp .ge 65, 3) := da9_dX10_laysPrices_26.2.2.2.2.2.2.2.2.1
theorem dX10_laysPrices_43 : decode cX10_laysPrices 43 = .ok (.aload_n 0, 1) := da9_dX10_laysPrices_26.2.2.2.2.2.2.2.2.2.1
theorem dX10_laysPrices_44 : decode cX10_laysPrices 44 = .ok (.iload_n 1, 1) := da9_dX10_laysPrices_26.2.2.2.2.2.2.2.2.2.2.1
theorem dX10_laysPrices_45 : decode cX10_laysPrices 45 = .ok (.aload_n 0, 1) := da9_dX10_laysPrices_26.2.2.2.2.2.2.2.2.2.2.2.1
theorem dX10_laysPrices_46 : decode cX10_laysPrices 46 = .ok (.iload_n 2, 1) := da9_dX10_laysPrices_26.2.2.2.2.2.2.2.2.2.2.2.2.1
theorem dX10_laysPrices_47 : decode cX10_laysPrices 47 = .ok (.invokevirtual 407, 3) := da9_dX10_laysPrices_26.2.2.2.2.2.2.2.2.2.2.2.2.2.1
theorem dX10_laysPrices_50 : decode cX10_laysPrices 50 = .ok (.iload_n 3, 1) := da9_dX10_laysPrices_26.2.2.2.2.2.2.2.2.2.2.2.2.2.2.1
theorem dX10_laysPrices_51 : decode cX10_laysPrices 51 = .ok (.ifCond .ne 7, 3) := da9_dX10_laysPrices_26.2.2.2.2.2.2.2.2.2.2.2.2.2.2.2
theorem da9_dX10_laysPrices_54 : (decode cX10_laysPrices 54 = .ok (.iconst (-1), 1)) ∧ (decode cX10_laysPrices 55 = .ok (.goto 10, 3)) ∧ (decode cX10_laysPrices 58 = .ok (.aload_n 0, 1)) ∧ (decode cX10_laysPrices 59 = .ok (.iload_n 3, 1)) ∧ (decode cX10_laysPrices 60 = .ok (.iconst 1, 1)) ∧ (decode cX10_laysPrices 61 = .ok (.isub, 1)) ∧ (decode cX10_laysPrices 62 = .ok (.invokevirtual 407, 3)) ∧ (decode cX10_laysPrices 65 = .ok (.iload 4, 2)) ∧ (decode cX10_laysPrices 67 = .ok (.invokevirtual 152, 3)) ∧ (decode cX10_laysPrices 70 = .ok (.aload_n 0, 1)) ∧ (decode cX10_laysPrices 71 = .ok (.getfield 87, 3)) ∧ (decode cX10_laysPrices 74 = .ok (.iload_n 1, 1)) ∧ (decode cX10_laysPrices 75 = .ok (.iload_n 2, 1)) ∧ (decode cX10_laysPrices 76 = .ok (.iload_n 3, 1)) ∧ (decode cX10_laysPrices 77 = .ok (.iload 4, 2)) ∧ (decode cX10_laysPrices 79 = .ok (.invokestatic 410, 3)) := by decide +kernel
theorem dX10_laysPrices_54 : decode cX10_laysPrices 54 = .ok (.iconst (-1), 1) := da9_dX10_laysPrices_54.1
theorem dX10_laysPrices_55 : decode cX10_laysPrices 55 = .ok (.goto 10, 3) := da9_dX10_laysPrices_54.2.1
theorem dX10_laysPrices_58 : decode cX10_laysPrices 58 = .ok (.aload_n 0, 1) := da9_dX10_laysPrices_54.2.2.1
theorem dX10_laysPrices_59 : decode cX10_laysPrices 59 = .ok (.iload_n 3, 1) := da9_dX10_laysPrices_54.2.2.2.1
theorem dX10_laysPrices_60 : decode cX10_laysPrices 60 = .ok (.iconst 1, 1) := da9_dX10_laysPrices_54.2.2.2.2.1
theorem dX10_laysPrices_61 : decode cX10_laysPrices 61 = .ok (.isub, 1) := da9_dX10_laysPrices_54.2.2.2.2.2.1
theorem dX10_laysPrices_62 : decode cX10_laysPrices 62 = .ok (.invokevirtual 407, 3) := da9_dX10_laysPrices_54.2.2.2.2.2.2.1
theorem dX10_laysPrices_65 : decode cX10_laysPrices 65 = .ok (.iload 4, 2) := da9_dX10_laysPrices_54.2.2.2.2.2.2.2.1
theorem dX10_laysPrices_67 : decode cX10_laysPrices 67 = .ok (.invokevirtual 152, 3) := da9_dX10_laysPrices_54.2.2.2.2.2.2.2.2.1
theorem dX10_laysPrices_70 : decode cX10_laysPrices 70 = .ok (.aload_n 0, 1) := da9_dX10_laysPrices_54.2.2.2.2.2.2.2.2.2.1
theorem dX10_laysPrices_71 : decode cX10_laysPrices 71 = .ok (.getfield 87, 3) := da9_dX10_laysPrices_54.2.2.2.2.2.2.2.2.2.2.1
theorem dX10_laysPrices_74 : decode cX10_laysPrices 74 = .ok (.iload_n 1, 1) := da9_dX10_laysPrices_54.2.2.2.2.2.2.2.2.2.2.2.1
theorem dX10_laysPrices_75 : decode cX10_laysPrices 75 = .ok (.iload_n 2, 1) := da9_dX10_laysPrices_54.2.2.2.2.2.2.2.2.2.2.2.2.1
theorem dX10_laysPrices_76 : decode cX10_laysPrices 76 = .ok (.iload_n 3, 1) := da9_dX10_laysPrices_54.2.2.2.2.2.2.2.2.2.2.2.2.2.1
theorem dX10_laysPrices_77 : decode cX10_laysPrices 77 = .ok (.iload 4, 2) := da9_dX10_laysPrices_54.2.2.2.2.2.2.2.2.2.2.2.2.2.2.1
theorem dX10_laysPrices_79 : decode cX10_laysPrices 79 = .ok (.invokestatic 410, 3) := da9_dX10_laysPrices_54.2.2.2.2.2.2.2.2.2.2.2.2.2.2.2
theorem da9_dX10_laysPrices_82 : (decode cX10_laysPrices 82 = .ok (.aload_n 0, 1)) ∧ (decode cX10_laysPrices 83 = .ok (.iconst 2, 1)) ∧ (decode cX10_laysPrices 84 = .ok (.invokevirtual 159, 3)) ∧ (decode cX10_laysPrices 87 = .ok (.ifCond .eq 7, 3)) ∧ (decode cX10_laysPrices 90 = .ok (.iconst (-1), 1)) ∧ (decode cX10_laysPrices 91 = .ok (.goto 7, 3)) ∧ (decode cX10_laysPrices 94 = .ok (.aload_n 0, 1)) ∧ (decode cX10_laysPrices 95 = .ok (.invokevirtual 156, 3)) ∧ (decode cX10_laysPrices 98 = .ok (.iastore, 1)) ∧ (decode cX10_laysPrices 99 = .ok (.iinc 4 1, 3)) ∧ (decode cX10_laysPrices 102 = .ok (.goto (-65), 3)) ∧ (decode cX10_laysPrices 105 = .ok (.iinc 3 1, 3)) ∧ (decode cX10_laysPrices 108 = .ok (.goto (-82), 3)) ∧ (decode cX10_laysPrices 111 = .ok (.iinc 2 1, 3)) ∧ (decode cX10_laysPrices 114 = .ok (.goto (-98), 3)) ∧ (decode cX10_laysPrices 117 = .ok (.iinc 1 1, 3)) := by decide +kernel
theorem dX10_laysPrices_82 : decode cX10_laysPrices 82 = .ok (.aload_n 0, 1) := da9_dX10_laysPrices_82.1
theorem dX10_laysPrices_83 : decode cX10_laysPrices 83 = .ok (.iconst 2, 1) := da9_dX10_laysPrices_82.2.1
theorem dX10_laysPrices_84 : decode cX10_laysPrices 84 = .ok (.invokevirtual 159, 3) := da9_dX10_laysPrices_82.2.2.1
theorem dX10_laysPrices_87 : decode cX10_laysPrices 87 = .ok (.ifCond .eq 7, 3) := da9_dX10_laysPrices_82.2.2.2.1
theorem dX10_laysPrices_90 : decode cX10_laysPrices 90 = .ok (.iconst (-1), 1) := da9_dX10_laysPrices_82.2.2.2.2.1
theorem dX10_laysPrices_91 : decode cX10_laysPrices 91 = .ok (.goto 7, 3) := da9_dX10_laysPrices_82.2.2.2.2.2.1
theorem dX10_laysPrices_94 : decode cX10_laysPrices 94 = .ok (.aload_n 0, 1) := da9_dX10_laysPrices_82.2.2.2.2.2.2.1
theorem dX10_laysPrices_95 : decode cX10_laysPrices 95 = .ok (.invokevirtual 156, 3) := da9_dX10_laysPrices_82.2.2.2.2.2.2.2.1
theorem dX10_laysPrices_98 : decode cX10_laysPrices 98 = .ok (.iastore, 1) := da9_dX10_laysPrices_82.2.2.2.2.2.2.2.2.1
theorem dX10_laysPrices_99 : decode cX10_laysPrices 99 = .ok (.iinc 4 1, 3) := da9_dX10_laysPrices_82.2.2.2.2.2.2.2.2.2.1
theorem dX10_laysPrices_102 : decode cX10_laysPrices 102 = .ok (.goto (-65), 3) := da9_dX10_laysPrices_82.2.2.2.2.2.2.2.2.2.2.1
theorem dX10_laysPrices_105 : decode cX10_laysPrices 105 = .ok (.iinc 3 1, 3) := da9_dX10_laysPrices_82.2.2.2.2.2.2.2.2.2.2.2.1
theorem dX10_laysPrices_108 : decode cX10_laysPrices 108 = .ok (.goto (-82), 3) := da9_dX10_laysPrices_82.2.2.2.2.2.2.2.2.2.2.2.2.1
theorem dX10_laysPrices_111 : decode cX10_laysPrices 111 = .ok (.iinc 2 1, 3) := da9_dX10_laysPrices_82.2.2.2.2.2.2.2.2.2.2.2.2.2.1
theorem dX10_laysPrices_114 : decode cX10_laysPrices 114 = .ok (.goto (-98), 3) := da9_dX10_laysPrices_82.2.2.2.2.2.2.2.2.2.2.2.2.2.2.1
theorem dX10_laysPrices_117 : decode cX10_laysPrices 117 = .ok (.iinc 1 1, 3) := da9_dX10_laysPrices_82.2.2.2.2.2.2.2.2.2.2.2.2.2.2.2
theorem da9_dX10_laysPrices_120 : (decode cX10_laysPrices 120 = .ok (.goto (-114), 3)) ∧ (decode cX10_laysPrices 123 = .ok (.return_, 1)) := by decide +kernel
theorem dX10_laysPrices_120 : decode cX10_laysPrices 120 = .ok (.goto (-114), 3) := da9_dX10_laysPrices_120.1
theorem dX10_laysPrices_123 : decode cX10_laysPrices 123 = .ok (.return_, 1) := da9_dX10_laysPrices_120.2
set_option maxRecDepth 20000 in
theorem ggX10_priceOf_X10_size : GoodIn wsX10_priceOf wsX10_size := wd_c vW10_ok mvW10_24
set_option maxRecDepth 20000 in
theorem gX10_priceOf_X10_size : GoodIn wsX10_priceOf (wsV RX10 125 RX10 yX10_size wsX10_size) := goodIn_app (wd_l vW10_ok _ pvW10_144) ggX10_priceOf_X10_size
set_option maxRecDepth 20000 in
theorem ggX10_priceOf_X10_askedAt : GoodIn wsX10_priceOf wsX10_askedAt := wd_c vW10_ok mvW10_377
set_option maxRecDepth 20000 in
theorem gX10_priceOf_X10_askedAt : GoodIn wsX10_priceOf (va_wsS RX10 410 yX10_askedAt wsX10_askedAt) := goodIn_app (wd_l vW10_ok _ pvW10_215) ggX10_priceOf_X10_askedAt
theorem da9_dX10_priceOf_0 : (decode cX10_priceOf 0 = .ok (.bipush 6, 2)) ∧ (decode cX10_priceOf 2 = .ok (.iload_n 1, 1)) ∧ (decode cX10_priceOf 3 = .ok (.bipush 64, 2)) ∧ (decode cX10_priceOf 5 = .ok (.idiv, 1)) ∧ (decode cX10_priceOf 6 = .ok (.imul, 1)) ∧ (decode cX10_priceOf 7 = .ok (.istore_n 3, 1)) ∧ (decode cX10_priceOf 8 = .ok (.aload_n 0, 1)) ∧ (decode cX10_priceOf 9 = .ok (.getfield 87, 3)) ∧ (decode cX10_priceOf 12 = .ok (.iload_n 2, 1)) ∧ (decode cX10_priceOf 13 = .ok (.aload_n 0, 1)) ∧ (decode cX10_priceOf 14 = .ok (.getfield 75, 3)) ∧ (decode cX10_priceOf 17 = .ok (.iload_n 3, 1)) ∧ (decode cX10_priceOf 18 = .ok (.iaload, 1)) ∧ (decode cX10_priceOf 19 = .ok (.iload_n 2, 1)) ∧ (decode cX10_priceOf 20 = .ok (.aload_n 0, 1)) ∧ (decode cX10_priceOf 21 = .ok (.invokevirtual 125, 3)) := by decide +kernel
theorem dX10_priceOf_0 : decode cX10_priceOf 0 = .ok (.bipush 6, 2) := da9_dX10_priceOf_0.1
theorem dX10_priceOf_2 : decode cX10_priceOf 2 = .ok (.iload_n 1, 1) := da9_dX10_priceOf_0.2.1
theorem dX10_priceOf_3 : decode cX10_priceOf 3 = .ok (.bipush 64, 2) := da9_dX10_priceOf_0.2.2.1
theorem dX10_priceOf_5 : decode cX10_priceOf 5 = .ok (.idiv, 1) := da9_dX10_priceOf_0.2.2.2.1
theorem dX10_priceOf_6 : decode cX10_priceOf 6 = .ok (.imul, 1) := da9_dX10_priceOf_0.2.2.2.2.1
theorem dX10_priceOf_7 : decode cX10_priceOf 7 = .ok (.istore_n 3, 1) := da9_dX10_priceOf_0.2.2.2.2.2.1
theorem dX10_priceOf_8 : decode cX10_priceOf 8 = .ok (.aload_n 0, 1) := da9_dX10_priceOf_0.2.2.2.2.2.2.1
theorem dX10_priceOf_9 : decode cX10_priceOf 9 = .ok (.getfield 87, 3) := da9_dX10_priceOf_0.2.2.2.2.2.2.2.1
theorem dX10_priceOf_12 : decode cX10_priceOf 12 = .ok (.iload_n 2, 1) := da9_dX10_priceOf_0.2.2.2.2.2.2.2.2.1
theorem dX10_priceOf_13 : decode cX10_priceOf 13 = .ok (.aload_n 0, 1) := da9_dX10_priceOf_0.2.2.2.2.2.2.2.2.2.1
theorem dX10_priceOf_14 : decode cX10_priceOf 14 = .ok (.getfield 75, 3) := da9_dX10_priceOf_0.2.2.2.2.2.2.2.2.2.2.1
theorem dX10_priceOf_17 : decode cX10_priceOf 17 = .ok (.iload_n 3, 1) := da9_dX10_priceOf_0.2.2.2.2.2.2.2.2.2.2.2.1
theorem dX10_priceOf_18 : decode cX10_priceOf 18 = .ok (.iaload, 1) := da9_dX10_priceOf_0.2.2.2.2.2.2.2.2.2.2.2.2.1
theorem dX10_priceOf_19 : decode cX10_priceOf 19 = .ok (.iload_n 2, 1) := da9_dX10_priceOf_0.2.2.2.2.2.2.2.2.2.2.2.2.2.1
theorem dX10_priceOf_20 : decode cX10_priceOf 20 = .ok (.aload_n 0, 1) := da9_dX10_priceOf_0.2.2.2.2.2.2.2.2.2.2.2.2.2.2.1
theorem dX10_priceOf_21 : decode cX10_priceOf 21 = .ok (.invokevirtual 125, 3) := da9_dX10_priceOf_0.2.2.2.2.2.2.2.2.2.2.2.2.2.2.2
theorem da9_dX10_priceOf_24 : (decode cX10_priceOf 24 = .ok (.if_icmp .ge 16, 3)) ∧ (decode cX10_priceOf 27 = .ok (.iconst 1, 1)) ∧ (decode cX10_priceOf 28 = .ok (.aload_n 0, 1)) ∧ (decode cX10_priceOf 29 = .ok (.getfield 75, 3)) ∧ (decode cX10_priceOf 32 = .ok (.iload_n 3, 1)) ∧ (decode cX10_priceOf 33 = .ok (.iload_n 2, 1)) ∧ (decode cX10_priceOf 34 = .ok (.iadd, 1)) ∧ (decode cX10_priceOf 35 = .ok (.iaload, 1)) ∧ (decode cX10_priceOf 36 = .ok (.iadd, 1)) ∧ (decode cX10_priceOf 37 = .ok (.goto 4, 3)) ∧ (decode cX10_priceOf 40 = .ok (.iconst 0, 1)) ∧ (decode cX10_priceOf 41 = .ok (.iload_n 1, 1)) ∧ (decode cX10_priceOf 42 = .ok (.iconst 2, 1)) ∧ (decode cX10_priceOf 43 = .ok (.irem, 1)) ∧ (decode cX10_priceOf 44 = .ok (.invokestatic 410, 3)) ∧ (decode cX10_priceOf 47 = .ok (.iaload, 1)) := by decide +kernel
theorem dX10_priceOf_24 : decode cX10_priceOf 24 = .ok (.if_icmp .ge 16, 3) := da9_dX10_priceOf_24.1
theorem dX10_priceOf_27 : decode cX10_priceOf 27 = .ok (.iconst 1, 1) := da9_dX10_priceOf_24.2.1
theorem dX10_priceOf_28 : decode cX10_priceOf 28 = .ok (.aload_n 0, 1) := da9_dX10_priceOf_24.2.2.1
theorem dX10_priceOf_29 : decode cX10_priceOf 29 = .ok (.getfield 75, 3) := da9_dX10_priceOf_24.2.2.2.1
theorem dX10_priceOf_32 : decode cX10_priceOf 32 = .ok (.iload_n 3, 1) := da9_dX10_priceOf_24.2.2.2.2.1
theorem dX10_priceOf_33 : decode cX10_priceOf 33 = .ok (.iload_n 2, 1) := da9_dX10_priceOf_24.2.2.2.2.2.1
theorem dX10_priceOf_34 : decode cX10_priceOf 34 = .ok (.iadd, 1) := da9_dX10_priceOf_24.2.2.2.2.2.2.1
theorem dX10_priceOf_35 : decode cX10_priceOf 35 = .ok (.iaload, 1) := da9_dX10_priceOf_24.2.2.2.2.2.2.2.1
theorem dX10_priceOf_36 : decode cX10_priceOf 36 = .ok (.iadd, 1) := da9_dX10_priceOf_24.2.2.2.2.2.2.2.2.1
theorem dX10_priceOf_37 : decode cX10_priceOf 37 = .ok (.goto 4, 3) := da9_dX10_priceOf_24.2.2.2.2.2.2.2.2.2.1
theorem dX10_priceOf_40 : decode cX10_priceOf 40 = .ok (.iconst 0, 1) := da9_dX10_priceOf_24.2.2.2.2.2.2.2.2.2.2.1
theorem dX10_priceOf_41 : decode cX10_priceOf 41 = .ok (.iload_n 1, 1) := da9_dX10_priceOf_24.2.2.2.2.2.2.2.2.2.2.2.1
theorem dX10_priceOf_42 : decode cX10_priceOf 42 = .ok (.iconst 2, 1) := da9_dX10_priceOf_24.2.2.2.2.2.2.2.2.2.2.2.2.1
theorem dX10_priceOf_43 : decode cX10_priceOf 43 = .ok (.irem, 1) := da9_dX10_priceOf_24.2.2.2.2.2.2.2.2.2.2.2.2.2.1
theorem dX10_priceOf_44 : decode cX10_priceOf 44 = .ok (.invokestatic 410, 3) := da9_dX10_priceOf_24.2.2.2.2.2.2.2.2.2.2.2.2.2.2.1
theorem dX10_priceOf_47 : decode cX10_priceOf 47 = .ok (.iaload, 1) := da9_dX10_priceOf_24.2.2.2.2.2.2.2.2.2.2.2.2.2.2.2
theorem dX10_priceOf_48 : decode cX10_priceOf 48 = .ok (.ireturn, 1) := by decide +kernel
theorem da9_dX10_isThere_0 : (decode cX10_isThere 0 = .ok (.iload_n 1, 1)) ∧ (decode cX10_isThere 1 = .ok (.bipush 64, 2)) ∧ (decode cX10_isThere 3 = .ok (.irem, 1)) ∧ (decode cX10_isThere 4 = .ok (.aload_n 0, 1)) ∧ (decode cX10_isThere 5 = .ok (.getfield 389, 3)) ∧ (decode cX10_isThere 8 = .ok (.if_icmp .ge 18, 3)) ∧ (decode cX10_isThere 11 = .ok (.iload_n 1, 1)) ∧ (decode cX10_isThere 12 = .ok (.bipush 64, 2)) ∧ (decode cX10_isThere 14 = .ok (.idiv, 1)) ∧ (decode cX10_isThere 15 = .ok (.aload_n 0, 1)) ∧ (decode cX10_isThere 16 = .ok (.getfield 386, 3)) ∧ (decode cX10_isThere 19 = .ok (.if_icmp .ge 7, 3)) ∧ (decode cX10_isThere 22 = .ok (.iconst 1, 1)) ∧ (decode cX10_isThere 23 = .ok (.goto 4, 3)) ∧ (decode cX10_isThere 26 = .ok (.iconst 0, 1)) ∧ (decode cX10_isThere 27 = .ok (.ireturn, 1)) := by decide +kernel
theorem dX10_isThere_0 : decode cX10_isThere 0 = .ok (.iload_n 1, 1) := da9_dX10_isThere_0.1
theorem dX10_isThere_1 : decode cX10_isThere 1 = .ok (.bipush 64, 2) := da9_dX10_isThere_0.2.1
theorem dX10_isThere_3 : decode cX10_isThere 3 = .ok (.irem, 1) := da9_dX10_isThere_0.2.2.1
theorem dX10_isThere_4 : decode cX10_isThere 4 = .ok (.aload_n 0, 1) := da9_dX10_isThere_0.2.2.2.1
theorem dX10_isThere_5 : decode cX10_isThere 5 = .ok (.getfield 389, 3) := da9_dX10_isThere_0.2.2.2.2.1
theorem dX10_isThere_8 : decode cX10_isThere 8 = .ok (.if_icmp .ge 18, 3) := da9_dX10_isThere_0.2.2.2.2.2.1
theorem dX10_isThere_11 : decode cX10_isThere 11 = .ok (.iload_n 1, 1) := da9_dX10_isThere_0.2.2.2.2.2.2.1
theorem dX10_isThere_12 : decode cX10_isThere 12 = .ok (.bipush 64, 2) := da9_dX10_isThere_0.2.2.2.2.2.2.2.1
theorem dX10_isThere_14 : decode cX10_isThere 14 = .ok (.idiv, 1) := da9_dX10_isThere_0.2.2.2.2.2.2.2.2.1
theorem dX10_isThere_15 : decode cX10_isThere 15 = .ok (.aload_n 0, 1) := da9_dX10_isThere_0.2.2.2.2.2.2.2.2.2.1
theorem dX10_isThere_16 : decode cX10_isThere 16 = .ok (.getfield 386, 3) := da9_dX10_isThere_0.2.2.2.2.2.2.2.2.2.2.1
theorem dX10_isThere_19 : decode cX10_isThere 19 = .ok (.if_icmp .ge 7, 3) := da9_dX10_isThere_0.2.2.2.2.2.2.2.2.2.2.2.1
theorem dX10_isThere_22 : decode cX10_isThere 22 = .ok (.iconst 1, 1) := da9_dX10_isThere_0.2.2.2.2.2.2.2.2.2.2.2.2.1
theorem dX10_isThere_23 : decode cX10_isThere 23 = .ok (.goto 4, 3) := da9_dX10_isThere_0.2.2.2.2.2.2.2.2.2.2.2.2.2.1
theorem dX10_isThere_26 : decode cX10_isThere 26 = .ok (.iconst 0, 1) := da9_dX10_isThere_0.2.2.2.2.2.2.2.2.2.2.2.2.2.2.1
theorem dX10_isThere_27 : decode cX10_isThere 27 = .ok (.ireturn, 1) := da9_dX10_isThere_0.2.2.2.2.2.2.2.2.2.2.2.2.2.2.2
theorem da9_dX10_isOrdered_0 : (decode cX10_isOrdered 0 = .ok (.iload_n 1, 1)) ∧ (decode cX10_isOrdered 1 = .ok (.bipush 64, 2)) ∧ (decode cX10_isOrdered 3 = .ok (.idiv, 1)) ∧ (decode cX10_isOrdered 4 = .ok (.ifCond .ne 24, 3)) ∧ (decode cX10_isOrdered 7 = .ok (.aload_n 0, 1)) ∧ (decode cX10_isOrdered 8 = .ok (.getfield 28, 3)) ∧ (decode cX10_isOrdered 11 = .ok (.bipush 28, 2)) ∧ (decode cX10_isOrdered 13 = .ok (.iaload, 1)) ∧ (decode cX10_isOrdered 14 = .ok (.ifCond .eq 10, 3)) ∧ (decode cX10_isOrdered 17 = .ok (.iload_n 1, 1)) ∧ (decode cX10_isOrdered 18 = .ok (.bipush 64, 2)) ∧ (decode cX10_isOrdered 20 = .ok (.irem, 1)) ∧ (decode cX10_isOrdered 21 = .ok (.ifCond .ne 7, 3)) ∧ (decode cX10_isOrdered 24 = .ok (.iconst 1, 1)) ∧ (decode cX10_isOrdered 25 = .ok (.goto 4, 3)) ∧ (decode cX10_isOrdered 28 = .ok (.iconst 0, 1)) := by decide +kernel
theorem dX10_isOrdered_0 : decode cX10_isOrdered 0 = .ok (.iload_n 1, 1) := da9_dX10_isOrdered_0.1
theorem dX10_isOrdered_1 : decode cX10_isOrdered 1 = .ok (.bipush 64, 2) := da9_dX10_isOrdered_0.2.1
theorem dX10_isOrdered_3 : decode cX10_isOrdered 3 = .ok (.idiv, 1) := da9_dX10_isOrdered_0.2.2.1
theorem dX10_isOrdered_4 : decode cX10_isOrdered 4 = .ok (.ifCond .ne 24, 3) := da9_dX10_isOrdered_0.2.2.2.1
theorem dX10_isOrdered_7 : decode cX10_isOrdered 7 = .ok (.aload_n 0, 1) := da9_dX10_isOrdered_0.2.2.2.2.1
theorem dX10_isOrdered_8 : decode cX10_isOrdered 8 = .ok (.getfield 28, 3) := da9_dX10_isOrdered_0.2.2.2.2.2.1
theorem dX10_isOrdered_11 : decode cX10_isOrdered 11 = .ok (.bipush 28, 2) := da9_dX10_isOrdered_0.2.2.2.2.2.2.1
theorem dX10_isOrdered_13 : decode cX10_isOrdered 13 = .ok (.iaload, 1) := da9_dX10_isOrdered_0.2.2.2.2.2.2.2.1
theorem dX10_isOrdered_14 : decode cX10_isOrdered 14 = .ok (.ifCond .eq 10, 3) := da9_dX10_isOrdered_0.2.2.2.2.2.2.2.2.1
theorem dX10_isOrdered_17 : decode cX10_isOrdered 17 = .ok (.iload_n 1, 1) := da9_dX10_isOrdered_0.2.2.2.2.2.2.2.2.2.1
theorem dX10_isOrdered_18 : decode cX10_isOrdered 18 = .ok (.bipush 64, 2) := da9_dX10_isOrdered_0.2.2.2.2.2.2.2.2.2.2.1
theorem dX10_isOrdered_20 : decode cX10_isOrdered 20 = .ok (.irem, 1) := da9_dX10_isOrdered_0.2.2.2.2.2.2.2.2.2.2.2.1
theorem dX10_isOrdered_21 : decode cX10_isOrdered 21 = .ok (.ifCond .ne 7, 3) := da9_dX10_isOrdered_0.2.2.2.2.2.2.2.2.2.2.2.2.1
theorem dX10_isOrdered_24 : decode cX10_isOrdered 24 = .ok (.iconst 1, 1) := da9_dX10_isOrdered_0.2.2.2.2.2.2.2.2.2.2.2.2.2.1
theorem dX10_isOrdered_25 : decode cX10_isOrdered 25 = .ok (.goto 4, 3) := da9_dX10_isOrdered_0.2.2.2.2.2.2.2.2.2.2.2.2.2.2.1
theorem dX10_isOrdered_28 : decode cX10_isOrdered 28 = .ok (.iconst 0, 1) := da9_dX10_isOrdered_0.2.2.2.2.2.2.2.2.2.2.2.2.2.2.2
theorem dX10_isOrdered_29 : decode cX10_isOrdered 29 = .ok (.ireturn, 1) := by decide +kernel
end
