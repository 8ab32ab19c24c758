theorem u9_wsX7_copyOfIt_X7 : ∀ w ∈ u_ws RX7 TX7 8, w ∈ wsX7_copyOfIt := by
  first | exact fun w h => List.mem_cons_of_mem _ (List.mem_append_right _ h) | decide +kernel
theorem f9_wsX7_copyOfIt_573 : (Cond.classLink RX7 8 RX7) ∈ wsX7_copyOfIt := by decide +kernel
theorem f9_wsX7_copyOfIt_574 : (Cond.instantiable RX7 8) ∈ wsX7_copyOfIt := by decide +kernel
theorem f9_wsX7_copyOfIt_575 : (Cond.initialized RX7) ∈ wsX7_copyOfIt := by decide +kernel
theorem f9_wsX7_copyOfIt_576 : (Cond.fieldLink RX7 7 "TurnedFloors$Text" "clauses" "I") ∈ wsX7_copyOfIt := by decide +kernel
theorem f9_wsX7_copyOfIt_577 : (Cond.fieldLink RX7 13 "TurnedFloors$Text" "length" "I") ∈ wsX7_copyOfIt := by decide +kernel
theorem f9_wsX7_copyOfIt_578 : (Cond.methodLink RX7 35 yX7_init) ∈ wsX7_copyOfIt := by decide +kernel
theorem f9_wsX7_copyOfIt_579 : (Cond.instanceMethod yX7_init) ∈ wsX7_copyOfIt := by decide +kernel
theorem u9_wsX9_law_X9 : ∀ w ∈ u_ws RX9 TX9 19, w ∈ wsX9_law := by
  first | exact fun w h => List.mem_cons_of_mem _ (List.mem_append_right _ h) | decide +kernel
theorem u9_wsX9_law_X6 : ∀ w ∈ u_ws RX6 TX6 10, w ∈ wsX9_law := by
  first | exact fun w h => List.mem_cons_of_mem _ (List.mem_append_right _ h) | decide +kernel
theorem f9_wsX9_law_582 : (Cond.fieldLink RX9 88 "TurnedFloors" "tapeLength" "I") ∈ wsX9_law := by decide +kernel
theorem f9_wsX9_law_583 : (Cond.fieldLink RX9 10 "TurnedFloors" "state" "LTurnedFloors$State;") ∈ wsX9_law := by decide +kernel
theorem f9_wsX9_law_584 : (Cond.fieldLink RX9 64 "TurnedFloors" "reader" "LTurnedFloors$Reader;") ∈ wsX9_law := by decide +kernel
theorem f9_wsX9_law_585 : (Cond.fieldLink RX9 84 "TurnedFloors" "tape" "[I") ∈ wsX9_law := by decide +kernel
theorem f9_wsX9_law_586 : (Cond.fieldLink RX9 73 "TurnedFloors" "draft" "LTurnedFloors$Text;") ∈ wsX9_law := by decide +kernel
theorem f9_wsX9_law_587 : (Cond.fieldLink RX9 92 "TurnedFloors" "faultPlace" "I") ∈ wsX9_law := by decide +kernel
theorem u9_wsX8_pack_X8 : ∀ w ∈ u_ws RX8 TX8 5, w ∈ wsX8_pack := by
  first | exact fun w h => List.mem_cons_of_mem _ (List.mem_append_right _ h) | decide +kernel
theorem f9_wsX8_pack_589 : (Cond.fieldLink RX8 22 "TurnedFloors$Tower" "paid" "I") ∈ wsX8_pack := by decide +kernel
theorem f9_wsX8_pack_590 : (Cond.fieldLink RX8 25 "TurnedFloors$Tower" "year" "I") ∈ wsX8_pack := by decide +kernel
theorem f9_wsX8_pack_591 : (Cond.fieldLink RX8 9 "TurnedFloors$Tower" "rank" "[I") ∈ wsX8_pack := by decide +kernel
theorem f9_wsX8_pack_592 : (Cond.fieldLink RX8 15 "TurnedFloors$Tower" "head" "[I") ∈ wsX8_pack := by decide +kernel
theorem f9_wsX8_pack_593 : (Cond.fieldLink RX8 18 "TurnedFloors$Tower" "floors" "I") ∈ wsX8_pack := by decide +kernel
theorem u9_wsX0_mark_X0 : ∀ w ∈ u_ws RX0 TX0 6, w ∈ wsX0_mark := by
  first | exact fun w h => List.mem_cons_of_mem _ (List.mem_append_right _ h) | decide +kernel
theorem f9_wsX0_mark_595 : (Cond.fieldLink RX0 9 "TurnedFloors$History" "towers" "[J") ∈ wsX0_mark := by decide +kernel
theorem f9_wsX0_mark_596 : (Cond.fieldLink RX0 23 "TurnedFloors$History" "markedTowers" "[J") ∈ wsX0_mark := by decide +kernel
theorem f9_wsX0_mark_597 : (Cond.methodLink RX0 32 arraycopyName) ∈ wsX0_mark := by decide +kernel
theorem f9_wsX0_mark_598 : (Cond.native arraycopyName) ∈ wsX0_mark := by decide +kernel
theorem f9_wsX0_mark_599 : (Cond.static arraycopyName) ∈ wsX0_mark := by decide +kernel
theorem f9_wsX0_mark_600 : (Cond.initialized "java/lang/System") ∈ wsX0_mark := by decide +kernel
theorem f9_wsX0_mark_601 : (Cond.fieldLink RX0 15 "TurnedFloors$History" "kinds" "[I") ∈ wsX0_mark := by decide +kernel
theorem f9_wsX0_mark_602 : (Cond.fieldLink RX0 26 "TurnedFloors$History" "markedKinds" "[I") ∈ wsX0_mark := by decide +kernel
theorem f9_wsX0_mark_603 : (Cond.fieldLink RX0 19 "TurnedFloors$History" "kept" "I") ∈ wsX0_mark := by decide +kernel
theorem f9_wsX0_mark_604 : (Cond.fieldLink RX0 29 "TurnedFloors$History" "markedKept" "I") ∈ wsX0_mark := by decide +kernel
theorem u9_wsX8_anyBetween_X8 : ∀ w ∈ u_ws RX8 TX8 5, w ∈ wsX8_anyBetween := by
  first | exact fun w h => List.mem_cons_of_mem _ (List.mem_append_right _ h) | decide +kernel
theorem f9_wsX8_anyBetween_606 : (Cond.fieldLink RX8 18 "TurnedFloors$Tower" "floors" "I") ∈ wsX8_anyBetween := by decide +kernel
theorem f9_wsX8_anyBetween_607 : (Cond.fieldLink RX8 9 "TurnedFloors$Tower" "rank" "[I") ∈ wsX8_anyBetween := by decide +kernel
theorem u9_wsX8_gapCount_X8 : ∀ w ∈ u_ws RX8 TX8 5, w ∈ wsX8_gapCount := by
  first | exact fun w h => List.mem_cons_of_mem _ (List.mem_append_right _ h) | decide +kernel
theorem f9_wsX8_gapCount_609 : (Cond.fieldLink RX8 18 "TurnedFloors$Tower" "floors" "I") ∈ wsX8_gapCount := by decide +kernel
theorem f9_wsX8_gapCount_610 : (Cond.fieldLink RX8 9 "TurnedFloors$Tower" "rank" "[I") ∈ wsX8_gapCount := by decide +kernel
theorem f9_wsX8_gapCount_611 : (Cond.initialized RX9) ∈ wsX8_gapCount := by decide +kernel
theorem f9_wsX8_gapCount_612 : (Cond.methodLink RX8 41 Lib.Math.min.name) ∈ wsX8_gapCount := by decide +kernel
theorem f9_wsX8_gapCount_613 : (Cond.static Lib.Math.min.name) ∈ wsX8_gapCount := by decide +kernel
theorem f9_wsX8_gapCount_614 : (Cond.initialized "java/lang/Math") ∈ wsX8_gapCount := by decide +kernel
theorem f9_wsX8_gapCount_615 : (Cond.code Lib.Math.min.name Lib.Math.min.code 2 (some .int)) ∈ wsX8_gapCount := by decide +kernel
theorem f9_wsX8_gapCount_616 : (Cond.methodLink RX8 88 Lib.Math.max.name) ∈ wsX8_gapCount := by decide +kernel
theorem f9_wsX8_gapCount_617 : (Cond.static Lib.Math.max.name) ∈ wsX8_gapCount := by decide +kernel
theorem f9_wsX8_gapCount_618 : (Cond.code Lib.Math.max.name Lib.Math.max.code 2 (some .int)) ∈ wsX8_gapCount := by decide +kernel
set_option maxHeartbeats 4000000 in
set_option maxRecDepth 100000 in
theorem WX7_copyOfIt_s25_34b {p : Program} {l : Launch} {e : Env} {s : State} {m : MethodId} {args : Array Value} {below : List Frame} {meth : Method} {c : Code} {D : va_G} {ty : Nat → ClassId} {eo : Nat → Nat} {A : Nat → Prop} {ad : Nat → Nat} {o1 : Int32} {o2 : dK} {ns : Nat} {ad0 : Nat → Nat} {n0 : Nat} (hal : dAl n0 ad0 ad) (C : dc_C p s m args meth c cX7_copyOfIt (some (.object "TurnedFloors$Text")) 3 RX7 wsX7_copyOfIt D ty eo A) {k34 : dK → Int32 → Int32 → Option (Int32 × dK)} (hk34 : ∀ (q : dK) (x1 : Int32) (x2 : Int32) (H : Heap) (locs : List Loc) (ls : Array Slot), k34 q x1 x2 = some (o1, o2) → va_P D vwCl (wF ty ad q) H → va_D A (wF ty ad q) → va_S A s.heap H locs → lv_has ls 3 [(0, .ref (ad 25)), (1, .ref (ad (63 + 7 * dLi x1))), (2, .int x2)] → W p l e ({ frames := 2, cells := 7, slots := ns, locals := 42 } : Room) s m args below meth c H locs 7 ns (MQ below (kz_Q (fun (r : Value) (u : va_W) => ∃ ad9 : Nat → Nat, dAl n0 ad0 ad9 ∧ Value.ref (ad9 (63 + 7 * dLi o1)) = r ∧ wF ty ad9 o2 = u) (kz_B D ty A) A) args s 7 ns A) (F0 m 34 ls [])) (q : dK) (x1 : Int32) (x2 : Int32) (H : Heap) (locs : List Loc) (ls : Array Slot) (h : zX7_copyOfIt_s25_34b ns k34 q x1 x2 = some (o1, o2)) (hP : va_P D vwCl (wF ty ad q) H) (hD : va_D A (wF ty ad q)) (hS : va_S A s.heap H locs) (hl : lv_has ls 3 [(0, .ref (ad 25)), (1, .ref (ad (63 + 7 * dLi x1))), (2, .int x2)]) : W p l e ({ frames := 2, cells := 7, slots := ns, locals := 42 } : Room) s m args below meth c H locs 7 ns (MQ below (kz_Q (fun (r : Value) (u : va_W) => ∃ ad9 : Nat → Nat, dAl n0 ad0 ad9 ∧ Value.ref (ad9 (63 + 7 * dLi o1)) = r ∧ wF ty ad9 o2 = u) (kz_B D ty A) A) args s 7 ns A) (F0 m 34 ls []) := by
  have C0 := C
  obtain ⟨hx, hb, hr, hts, hown, hlocks, hml, hK, hN, hE, hA⟩ := C
  unfold zX7_copyOfIt_s25_34b at h
  refine lv_iload_n hx hb dX7_copyOfIt_34 rfl (lv_at hl 2 rfl) ?_
  refine lv_aload_n hx hb dX7_copyOfIt_35 rfl (lv_at hl 0 rfl) ?_
  refine va_get (D := D) (ci := 7) (v := .int (q.1 25 6)) (C := RX7) (T := TX7) (N := 8) hx hb hts (by decide +kernel) hown hK hP 25 rfl rfl 6 (by decide) (hts (.fieldLink RX7 7 "TurnedFloors$Text" "clauses" "I") (by decide +kernel)) (fun _ h9 => h9) rfl dX7_copyOfIt_36 ?_
  refine lv_icmp_ge (tgt := 108) hx hb dX7_copyOfIt_39 (by decide) (fun c9 => ?_) (fun c9 => ?_)
  · rw [if_pos c9] at h
    refine lv_aload_n hx hb dX7_copyOfIt_108 rfl (lv_at hl 0 rfl) ?_
    refine va_get (D := D) (ci := 7) (v := .ref (ad 31)) (C := RX7) (T := TX7) (N := 8) hx hb hts (by decide +kernel) hown hK hP 25 rfl rfl 5 (by decide) (hts (.fieldLink RX7 32 "TurnedFloors$Text" "code" "[I") (by decide +kernel)) (fun _ h9 => h9) rfl dX7_copyOfIt_109 ?_
    refine lv_iconst (v := 0) hx hb dX7_copyOfIt_112 (by decide) ?_
    refine lv_aload_n hx hb dX7_copyOfIt_113 rfl (lv_at hl 1 rfl) ?_
    obtain ⟨g1, h⟩ := dG_some h
    refine va_get (D := D) (ci := 7) (v := .ref (ad (63 + 7 * dLi x1 + 6))) (C := RX7) (T := TX7) (N := 8) hx hb hts (by decide +kernel) hown hK hP _ (lw_o g1) rfl 5 (by decide) (hts (.fieldLink RX7 32 "TurnedFloors$Text" "code" "[I") (by decide +kernel)) (fun _ h9 => h9) rfl dX7_copyOfIt_114 ?_
    refine lv_iconst (v := 0) hx hb dX7_copyOfIt_117 (by decide) ?_
    refine lv_aload_n hx hb dX7_copyOfIt_118 rfl (lv_at hl 0 rfl) ?_
    refine va_get (D := D) (ci := 7) (v := .int (q.1 25 7)) (C := RX7) (T := TX7) (N := 8) hx hb hts (by decide +kernel) hown hK hP 25 rfl rfl 7 (by decide) (hts (.fieldLink RX7 13 "TurnedFloors$Text" "length" "I") (by decide +kernel)) (fun _ h9 => h9) rfl dX7_copyOfIt_119 ?_
    obtain ⟨g2, h⟩ := dG_some h
    obtain ⟨g3, h⟩ := dG_some h
    refine va_copyi hx hb (hml.trans hl.1.symm) hown (hts (.methodLink RX7 38 arraycopyName) (by decide +kernel)) (hts (.native arraycopyName) (by decide +kernel)) (hts (.static arraycopyName) (by decide +kernel)) (hts (.initialized "java/lang/System") (by decide +kernel)) hK hP hD hS 31 _ 0 0 rfl (lw_a6 g2) rfl rfl rfl (by decide) (by decide) (of_decide_eq_true g3).1 (of_decide_eq_true g3).2.1 (of_decide_eq_true g3).2.2 (fun _ _ => rfl) (Nat.le_of_ble_eq_true rfl) (Nat.le_of_ble_eq_true rfl) dX7_copyOfIt_122 (fun H locs hp hd hs => ?_)
    obtain ⟨q4, eq4, h⟩ := dL_some h
    refine kz_re (w2 := wF ty ad q4) hp hd hs (by rw [← eq4]; exact lw_set g2 6 (by decide) _ _ rfl) ?_
    clear hp hd hs hP hD hS
    intro hP hD hS
    refine lv_aload_n hx hb dX7_copyOfIt_125 rfl (lv_at hl 1 rfl) ?_
    cases h
    exact kz_aret hx hb hr (Or.inl ⟨_, rfl⟩) (Or.inr ⟨_, rfl⟩) hlocks hP hK hD hS dX7_copyOfIt_126 ⟨ad, hal, rfl, rfl⟩
  · rw [if_neg c9] at h
    refine lv_aload_n hx hb dX7_copyOfIt_42 rfl (lv_at hl 1 rfl) ?_
    obtain ⟨g5, h⟩ := dG_some h
    refine va_get (D := D) (ci := 7) (v := .ref (ad (63 + 7 * dLi x1 + 1))) (C := RX7) (T := TX7) (N := 8) hx hb hts (by decide +kernel) hown hK hP _ (lw_o g5) rfl 0 (by decide) (hts (.fieldLink RX7 16 "TurnedFloors$Text" "kind" "[I") (by decide +kernel)) (fun _ h9 => h9) rfl dX7_copyOfIt_43 ?_
    refine lv_iload_n hx hb dX7_copyOfIt_46 rfl (lv_at hl 2 rfl) ?_
    refine lv_aload_n hx hb dX7_copyOfIt_47 rfl (lv_at hl 0 rfl) ?_
    refine va_get (D := D) (ci := 7) (v := .ref (ad 26)) (C := RX7) (T := TX7) (N := 8) hx hb hts (by decide +kernel) hown hK hP 25 rfl rfl 0 (by decide) (hts (.fieldLink RX7 16 "TurnedFloors$Text" "kind" "[I") (by decide +kernel)) (fun _ h9 => h9) rfl dX7_copyOfIt_48 ?_
    refine lv_iload_n hx hb dX7_copyOfIt_51 rfl (lv_at hl 2 rfl) ?_
    obtain ⟨g6, h⟩ := dG_some h
    refine va_iald hx hb hK hP 26 0 rfl rfl (dg_in g6) dX7_copyOfIt_52 ?_
    obtain ⟨v7, ev7, h⟩ := dL_some h
    refine kz_topi v7 ev7 ?_
    obtain ⟨g8, h⟩ := dG_some h
    obtain ⟨g9, h⟩ := dG_some h
    refine va_iast hx hb hK hP hD hS _ 0 (lw_a1 g8) rfl (dg_in g9) dX7_copyOfIt_53 (fun H locs hp hd hs => ?_)
    obtain ⟨q10, eq10, h⟩ := dL_some h
    refine kz_re (w2 := wF ty ad q10) hp hd hs (by rw [← eq10]; exact lw_set g8 1 (by decide) _ _ rfl) ?_
    clear hp hd hs hP hD hS
    intro hP hD hS
    refine lv_aload_n hx hb dX7_copyOfIt_54 rfl (lv_at hl 1 rfl) ?_
    obtain ⟨g11, h⟩ := dG_some h
    refine va_get (D := D) (ci := 7) (v := .ref (ad (63 + 7 * dLi x1 + 2))) (C := RX7) (T := TX7) (N := 8) hx hb hts (by decide +kernel) hown hK hP _ (lw_o g11) rfl 1 (by decide) (hts (.fieldLink RX7 20 "TurnedFloors$Text" "times" "[I") (by decide +kernel)) (fun _ h9 => h9) rfl dX7_copyOfIt_55 ?_
    refine lv_iload_n hx hb dX7_copyOfIt_58 rfl (lv_at hl 2 rfl) ?_
    refine lv_aload_n hx hb dX7_copyOfIt_59 rfl (lv_at hl 0 rfl) ?_
    refine va_get (D := D) (ci := 7) (v := .ref (ad 27)) (C := RX7) (T := TX7) (N := 8) hx hb hts (by decide +kernel) hown hK hP 25 rfl rfl 1 (by decide) (hts (.fieldLink RX7 20 "TurnedFloors$Text" "times" "[I") (by decide +kernel)) (fun _ h9 => h9) rfl dX7_copyOfIt_60 ?_
    refine lv_iload_n hx hb dX7_copyOfIt_63 rfl (lv_at hl 2 rfl) ?_
    obtain ⟨g12, h⟩ := dG_some h
    refine va_iald hx hb hK hP 27 0 rfl rfl (dg_in g12) dX7_copyOfIt_64 ?_
    obtain ⟨v13, ev13, h⟩ := dL_some h
    refine kz_topi v13 ev13 ?_
    obtain ⟨g14, h⟩ := dG_some h
    obtain ⟨g15, h⟩ := dG_some h
    refine va_iast hx hb hK hP hD hS _ 0 (lw_a2 g14) rfl (dg_in g15) dX7_copyOfIt_65 (fun H locs hp hd hs => ?_)
    obtain ⟨q16, eq16, h⟩ := dL_some h
    refine kz_re (w2 := wF ty ad q16) hp hd hs (by rw [← eq16]; exact lw_set g14 2 (by decide) _ _ rfl) ?_
    clear hp hd hs hP hD hS
    intro hP hD hS
    refine lv_aload_n hx hb dX7_copyOfIt_66 rfl (lv_at hl 1 rfl) ?_
    obtain ⟨g17, h⟩ := dG_some h
    refine va_get (D := D) (ci := 7) (v := .ref (ad (63 + 7 * dLi x1 + 3))) (C := RX7) (T := TX7) (N := 8) hx hb hts (by decide +kernel) hown hK hP _ (lw_o g17) rfl 2 (by decide) (hts (.fieldLink RX7 23 "TurnedFloors$Text" "sumFrom" "[I") (by decide +kernel)) (fun _ h9 => h9) rfl dX7_copyOfIt_67 ?_
    refine lv_iload_n hx hb dX7_copyOfIt_70 rfl (lv_at hl 2 rfl) ?_
    refine lv_aload_n hx hb dX7_copyOfIt_71 rfl (lv_at hl 0 rfl) ?_
    refine va_get (D := D) (ci := 7) (v := .ref (ad 28)) (C := RX7) (T := TX7) (N := 8) hx hb hts (by decide +kernel) hown hK hP 25 rfl rfl 2 (by decide) (hts (.fieldLink RX7 23 "TurnedFloors$Text" "sumFrom" "[I") (by decide +kernel)) (fun _ h9 => h9) rfl dX7_copyOfIt_72 ?_
    refine lv_iload_n hx hb dX7_copyOfIt_75 rfl (lv_at hl 2 rfl) ?_
    obtain ⟨g18, h⟩ := dG_some h
    refine va_iald hx hb hK hP 28 0 rfl rfl (dg_in g18) dX7_copyOfIt_76 ?_
    obtain ⟨v19, ev19, h⟩ := dL_some h
    refine kz_topi v19 ev19 ?_
    obtain ⟨g20, h⟩ := dG_some h
    obtain ⟨g21, h⟩ := dG_some h
    refine va_iast hx hb hK hP hD hS _ 0 (lw_a3 g20) rfl (dg_in g21) dX7_copyOfIt_77 (fun H locs hp hd hs => ?_)
    obtain ⟨q22, eq22, h⟩ := dL_some h
    refine kz_re (w2 := wF ty ad q22) hp hd hs (by rw [← eq22]; exact lw_set g20 3 (by decide) _ _ rfl) ?_
    clear hp hd hs hP hD hS
    intro hP hD hS
    refine lv_aload_n hx hb dX7_copyOfIt_78 rfl (lv_at hl 1 rfl) ?_
    obtain ⟨g23, h⟩ := dG_some h
    refine va_get (D := D) (ci := 7) (v := .ref (ad (63 + 7 * dLi x1 + 4))) (C := RX7) (T := TX7) (N := 8) hx hb hts (by decide +kernel) hown hK hP _ (lw_o g23) rfl 3 (by decide) (hts (.fieldLink RX7 26 "TurnedFloors$Text" "testFrom" "[I") (by decide +kernel)) (fun _ h9 => h9) rfl dX7_copyOfIt_79 ?_
    refine lv_iload_n hx hb dX7_copyOfIt_82 rfl (lv_at hl 2 rfl) ?_
    refine lv_aload_n hx hb dX7_copyOfIt_83 rfl (lv_at hl 0 rfl) ?_
    refine va_get (D := D) (ci := 7) (v := .ref (ad 29)) (C := RX7) (T := TX7) (N := 8) hx hb hts (by decide +kernel) hown hK hP 25 rfl rfl 3 (by decide) (hts (.fieldLink RX7 26 "TurnedFloors$Text" "testFrom" "[I") (by decide +kernel)) (fun _ h9 => h9) rfl dX7_copyOfIt_84 ?_
    refine lv_iload_n hx hb dX7_copyOfIt_87 rfl (lv_at hl 2 rfl) ?_
    obtain ⟨g24, h⟩ := dG_some h
    refine va_iald hx hb hK hP 29 0 rfl rfl (dg_in g24) dX7_copyOfIt_88 ?_
    obtain ⟨v25, ev25, h⟩ := dL_some h
    refine kz_topi v25 ev25 ?_
    obtain ⟨g26, h⟩ := dG_some h
    obtain ⟨g27, h⟩ := dG_some h
    refine va_iast hx hb hK hP hD hS _ 0 (lw_a4 g26) rfl (dg_in g27) dX7_copyOfIt_89 (fun H locs hp hd hs => ?_)
    obtain ⟨q28, eq28, h⟩ := dL_some h
    refine kz_re (w2 := wF ty ad q28) hp hd hs (by rw [← eq28]; exact lw_set g26 4 (by decide) _ _ rfl) ?_
    clear hp hd hs hP hD hS
    intro hP hD hS
    refine lv_aload_n hx hb dX7_copyOfIt_90 rfl (lv_at hl 1 rfl) ?_
    obtain ⟨g29, h⟩ := dG_some h
    refine va_get (D := D) (ci := 7) (v := .ref (ad (63 + 7 * dLi x1 + 5))) (C := RX7) (T := TX7) (N := 8) hx hb hts (by decide +kernel) hown hK hP _ (lw_o g29) rfl 4 (by decide) (hts (.fieldLink RX7 29 "TurnedFloors$Text" "testTo" "[I") (by decide +kernel)) (fun _ h9 => h9) rfl dX7_copyOfIt_91 ?_
    refine lv_iload_n hx hb dX7_copyOfIt_94 rfl (lv_at hl 2 rfl) ?_
    refine lv_aload_n hx hb dX7_copyOfIt_95 rfl (lv_at hl 0 rfl) ?_
    refine va_get (D := D) (ci := 7) (v := .ref (ad 30)) (C := RX7) (T := TX7) (N := 8) hx hb hts (by decide +kernel) hown hK hP 25 rfl rfl 4 (by decide) (hts (.fieldLink RX7 29 "TurnedFloors$Text" "testTo" "[I") (by decide +kernel)) (fun _ h9 => h9) rfl dX7_copyOfIt_96 ?_
    refine lv_iload_n hx hb dX7_copyOfIt_99 rfl (lv_at hl 2 rfl) ?_
    obtain ⟨g30, h⟩ := dG_some h
    refine va_iald hx hb hK hP 30 0 rfl rfl (dg_in g30) dX7_copyOfIt_100 ?_
    obtain ⟨v31, ev31, h⟩ := dL_some h
    refine kz_topi v31 ev31 ?_
    obtain ⟨g32, h⟩ := dG_some h
    obtain ⟨g33, h⟩ := dG_some h
    refine va_iast hx hb hK hP hD hS _ 0 (lw_a5 g32) rfl (dg_in g33) dX7_copyOfIt_101 (fun H locs hp hd hs => ?_)
    obtain ⟨q34, eq34, h⟩ := dL_some h
    refine kz_re (w2 := wF ty ad q34) hp hd hs (by rw [← eq34]; exact lw_set g32 5 (by decide) _ _ rfl) ?_
    clear hp hd hs hP hD hS
    intro hP hD hS
    refine lv_iinc (v := x2 + 1) (lv' := [(2, .int (x2 + 1)), (0, .ref (ad 25)), (1, .ref (ad (63 + 7 * dLi x1)))]) hx hb dX7_copyOfIt_102 hl (k := 2) rfl rfl (by decide) rfl (fun ls hl => ?_)
    refine lv_goto (tgt := 34) hx hb dX7_copyOfIt_105 (by decide) ?_
    exact hk34 _ _ _ _ _ _ h hP hD hS (lv_sub hl [1, 2, 0] rfl)
set_option maxHeartbeats 4000000 in
set_option maxRecDepth 100000 in
theorem WX7_copyOfIt_s25_34 {p : Program} {l : Launch} {e : Env} {s : State} {m : MethodId} {args : Array Value} {below : List Frame} {meth : Method} {c : Code} {D : va_G} {ty : Nat → ClassId} {eo : Nat → Nat} {A : Nat → Prop} {ad : Nat → Nat} {o1 : Int32} {o2 : dK} {ns : Nat} {ad0 : Nat → Nat} {n0 : Nat} (hal : dAl n0 ad0 ad) (C : dc_C p s m args meth c cX7_copyOfIt (some (.object "TurnedFloors$Text")) 3 RX7 wsX7_copyOfIt D ty eo A)   (n : Nat) (q : dK) (x1 : Int32) (x2 : Int32) (H : Heap) (locs : List Loc) (ls : Array Slot) (h : zX7_copyOfIt_s25_34 ns  n q x1 x2 = some (o1, o2)) (hP : va_P D vwCl (wF ty ad q) H) (hD : va_D A (wF ty ad q)) (hS : va_S A s.heap H locs) (hl : lv_has ls 3 [(0, .ref (ad 25)), (1, .ref (ad (63 + 7 * dLi x1))), (2, .int x2)]) : W p l e ({ frames := 2, cells := 7, slots := ns, locals := 42 } : Room) s m args below meth c H locs 7 ns (MQ below (kz_Q (fun (r : Value) (u : va_W) => ∃ ad9 : Nat → Nat, dAl n0 ad0 ad9 ∧ Value.ref (ad9 (63 + 7 * dLi o1)) = r ∧ wF ty ad9 o2 = u) (kz_B D ty A) A) args s 7 ns A) (F0 m 34 ls []) := by
  exact dFix_W (F := fun k (a : dK × Int32 × Int32) => zX7_copyOfIt_s25_34b ns  (fun q x1 x2 => k (q, x1, x2)) a.1 a.2.1 a.2.2) (o := (o1, o2)) (P := fun (a : dK × Int32 × Int32) H locs ls => va_P D vwCl (wF ty ad a.1) H ∧ va_D A (wF ty ad a.1) ∧ va_S A s.heap H locs ∧ lv_has ls 3 [(0, .ref (ad 25)), (1, .ref (ad (63 + 7 * dLi a.2.1))), (2, .int a.2.2)]) (G := fun H locs ls => W p l e ({ frames := 2, cells := 7, slots := ns, locals := 42 } : Room) s m args below meth c H locs 7 ns (MQ below (kz_Q (fun (r : Value) (u : va_W) => ∃ ad9 : Nat → Nat, dAl n0 ad0 ad9 ∧ Value.ref (ad9 (63 + 7 * dLi o1)) = r ∧ wF ty ad9 o2 = u) (kz_B D ty A) A) args s 7 ns A) (F0 m 34 ls []))
    (fun k hk a H locs ls h hp => WX7_copyOfIt_s25_34b hal C  (fun q x1 x2 H locs ls h h1 h2 h3 h4 => hk (q, x1, x2) H locs ls h ⟨h1, h2, h3, h4⟩) a.1 a.2.1 a.2.2 H locs ls h hp.1 hp.2.1 hp.2.2.1 hp.2.2.2) n (q, x1, x2) H locs ls h ⟨hP, hD, hS, hl⟩
set_option maxHeartbeats 4000000 in
set_option maxRecDepth 100000 in
theorem qX7_copyOfIt_s25 (l : Launch) (D : va_G) (ty : Nat → ClassId) (eo : Nat → Nat) (sz : Nat) (ad : Nat → Nat) (ns : Nat) (q : dK)  (o1 : Int32) (o2 : dK) (h : zX7_copyOfIt_s25 ns q = some (o1, o2)) : Met l yX7_copyOfIt wsX7_copyOfIt ({ frames := 2, cells := 7, slots := ns, locals := 42 } : Room) (va_Pc [.ref (ad 25)] (kz_pre D ty eo (wF ty ad q) sz)) (kz_Q (fun (r : Value) (u : va_W) => ∃ ad9 : Nat → Nat, dAl q.2.2.length ad ad9 ∧ Value.ref (ad9 (63 + 7 * dLi o1)) = r ∧ wF ty ad9 o2 = u) (kz_B D ty (va_A (wF ty ad q) sz)) (va_A (wF ty ad q) sz)) 7 ns (va_A (wF ty ad q) sz) := by
  have hal : dAl q.2.2.length ad ad := fun _ _ => rfl
  refine Met.ofW (cc := cX7_copyOfIt) (maxL := 3) (ret := (some (.object "TurnedFloors$Text"))) (by decide) rfl ?_
  intro p e s m args below meth c s₁ B hml hv
  obtain ⟨rfl, hsz, hP, hK, hD0, hN, hE⟩ := hv
  have hx := B.exec
  have hb := B.bytes
  have hr := B.returns
  have hts := atoms_spec (ws := wsX7_copyOfIt) B.pre
  have hown : s.vm.findClass RX7 = some m.cls := findClass_of_methodNamed B.named
  have hlocks := B.notSynchronized
  subst hsz
  have hD := hD0.self (sz := s.heap.size)
  generalize hAe : va_A (wF ty ad q) s.heap.size = A at hD hE ⊢
  have hA : ∀ q : Nat, s.heap.size ≤ q → A q := fun q h => by rw [← hAe]; exact Or.inr h
  clear hAe
  have hS : va_S A s.heap s.heap [] := va_S.rf
  have hl := lv_entry ([.ref (ad 25)]) (n := 3) (Nat.le_of_ble_eq_true rfl)
  rw [lg_entry_eq]
  generalize (lg_sl ([.ref (ad 25)]) ++ List.replicate (3 - (lg_sl ([.ref (ad 25)])).length) Slot.unset).toArray = ls at hl ⊢
  have hl : lv_has ls 3 [(0, .ref (ad 25))] := hl
  have C : dc_C p s m _ meth c cX7_copyOfIt (some (.object "TurnedFloors$Text")) 3 RX7 wsX7_copyOfIt D ty eo A := ⟨hx, hb, hr, hts, hown, hlocks, hml, hK, hN, hE, hA⟩
  unfold zX7_copyOfIt_s25 at h
  obtain ⟨g0, h⟩ := dG_some h
  refine va_new (ci := 7) (fs := [.null, .null, .null, .null, .null, .null, .int 0, .int 0]) (C := RX7) (T := TX7) (N := 8) hx hb hts u9_wsX7_copyOfIt_X7 tyX7 tyX7_ok hown (hts (.classLink RX7 8 RX7) f9_wsX7_copyOfIt_573) (hts (.instantiable RX7 8) f9_wsX7_copyOfIt_574) (hts (.initialized RX7) f9_wsX7_copyOfIt_575) hK hP hD hS hA rfl (by decide +kernel) (Nat.le_of_ble_eq_true rfl) ((of_decide_eq_true g0).2.2.2.2.2) dX7_copyOfIt_0 (fun a9 H hp hd hs => ?_)
  clear hP hD hS
  have hP := hp; have hD := hd; have hS := hs; clear hp hd hs
  refine lv_dup hx hb dX7_copyOfIt_3 rfl ?_
  refine lv_aload_n hx hb dX7_copyOfIt_4 rfl (lv_at hl 0 rfl) ?_
  refine va_get (D := D) (ci := 7) (v := .int (q.1 25 6)) (C := RX7) (T := TX7) (N := 8) hx hb hts u9_wsX7_copyOfIt_X7 hown hK hP 25 rfl rfl 6 (by decide) (hts (.fieldLink RX7 7 "TurnedFloors$Text" "clauses" "I") f9_wsX7_copyOfIt_576) (fun _ h9 => h9) rfl dX7_copyOfIt_5 ?_
  refine lv_aload_n hx hb dX7_copyOfIt_8 rfl (lv_at hl 0 rfl) ?_
  refine va_get (D := D) (ci := 7) (v := .int (q.1 25 7)) (C := RX7) (T := TX7) (N := 8) hx hb hts u9_wsX7_copyOfIt_X7 hown hK hP 25 rfl rfl 7 (by decide) (hts (.fieldLink RX7 13 "TurnedFloors$Text" "length" "I") f9_wsX7_copyOfIt_577) (fun _ h9 => h9) rfl dX7_copyOfIt_9 ?_
  refine dw_kvl (va_runI (As := [.int (q.1 25 6), .int (q.1 25 7)]) (rest := [.ref a9]) ⟨hx, hb, hml, hown, hts⟩ (kX7_initD l D ty eo _ a9 (q.1 25 6) (q.1 25 7) (ns - 8) (of_decide_eq_true g0).1 (of_decide_eq_true g0).2.1 (of_decide_eq_true g0).2.2.1 (of_decide_eq_true g0).2.2.2.1 (of_decide_eq_true g0).2.2.2.2.1) (cwI 2 hts gX7_copyOfIt_X7_init rfl rfl rfl (hts (.initialized RX7) f9_wsX7_copyOfIt_575) (hts (.methodLink RX7 35 yX7_init) f9_wsX7_copyOfIt_578) (hts (.instanceMethod yX7_init) f9_wsX7_copyOfIt_579) rfl (by decide +kernel) ⟨Nat.le_of_ble_eq_true rfl, Nat.le_of_ble_eq_true rfl⟩) (kz_preS (wc := [(a9, .inr (7, [.null, .null, .null, .null, .null, .null, .int 0, .int 0]))]) hK hN hE hP hD hS hA [(wF ty ad q).length] (nd1 _) (dw_lst _ _)) rfl rfl hl.1 rfl (lv_room (Nat.le_of_ble_eq_true rfl)) dX7_copyOfIt_12 ⟨Nat.le_of_ble_eq_true rfl, by show 0 + 8 + (ns - 8) ≤ ns; have z9 := (of_decide_eq_true g0).2.2.2.2.2; omega⟩) hP hD hS hA (fun u9 H locs hw hp hd hs => ?_)
  obtain ⟨b1, b2, b3, b4, b5, b6, rfl⟩ := hw
  obtain ⟨g1, h⟩ := dG_some h
  replace hp := (congrArg (fun w9 => va_P D vwCl w9 H) (wF_cln ty ad q (q.1 25 6) (q.1 25 7) a9 b1 b2 b3 b4 b5 b6 (dlokB_e g1))).mp hp
  replace hd := (congrArg (fun w9 => va_D A w9) (wF_cln ty ad q (q.1 25 6) (q.1 25 7) a9 b1 b2 b3 b4 b5 b6 (dlokB_e g1))).mp hd
  clear hal
  have hal : dAl q.2.2.length ad (adl ad q.2.2.length a9 b1 b2 b3 b4 b5 b6) := adl_ag
  have ea9 : a9 = adl ad q.2.2.length a9 b1 b2 b3 b4 b5 b6 (63 + 7 * dLi (Int32.ofNat (q.2.2.length + 1))) := by rw [dLi_of (dlokB_e g1).1]; exact (adl_at 0).symm
  refine dw_up (c2 := 7) (s2 := ns) (by decide) (by have z9 := (of_decide_eq_true g0).2.2.2.2.2; omega) ?_
  generalize adl ad q.2.2.length a9 b1 b2 b3 b4 b5 b6 = ad at hp hd hal ea9
  rw [dAl_s hal 25 (by decide)] at hl
  rw [ea9]
  clear ea9
  obtain ⟨q2, eq2, h⟩ := dL_some h
  refine kz_re (w2 := wF ty ad q2) hp hd hs (by rw [← eq2]) ?_
  clear hp hd hs hP hD hS
  intro hP hD hS
  refine lv_astore_n (lv' := [(1, .ref (ad (63 + 7 * dLi (Int32.ofNat (q.2.2.length + 1))))), (0, .ref (ad 25))]) hx hb dX7_copyOfIt_15 rfl hl (by decide) rfl (fun ls hl => ?_)
  refine lv_aload_n hx hb dX7_copyOfIt_16 rfl (lv_at hl 0 rfl) ?_
  refine lv_aload_n hx hb dX7_copyOfIt_17 rfl (lv_at hl 1 rfl) ?_
  refine va_get (D := D) (ci := 7) (v := .int (q2.1 25 6)) (C := RX7) (T := TX7) (N := 8) hx hb hts u9_wsX7_copyOfIt_X7 hown hK hP 25 rfl rfl 6 (by decide) (hts (.fieldLink RX7 7 "TurnedFloors$Text" "clauses" "I") f9_wsX7_copyOfIt_576) (fun _ h9 => h9) rfl dX7_copyOfIt_18 ?_
  obtain ⟨g3, h⟩ := dG_some h
  refine va_put (D := D) (ci := 7) (v := .int (q2.1 25 6)) (ty := .int) (C := RX7) (T := TX7) (N := 8) hx hb hts u9_wsX7_copyOfIt_X7 tyX7 tyX7_ok nmX7 hown hK hP hD hS _ (lw_o g3) rfl 6 (by decide) (hts (.fieldLink RX7 7 "TurnedFloors$Text" "clauses" "I") f9_wsX7_copyOfIt_576) (fun _ h9 => h9) rfl (by decide +kernel) rfl rfl (Nat.le_of_ble_eq_true rfl) dX7_copyOfIt_21 (fun H locs hp hd hs => ?_)
  obtain ⟨q4, eq4, h⟩ := dL_some h
  refine kz_re (w2 := wF ty ad q4) hp hd hs (by rw [← eq4]; exact lw_set g3 0 (by decide) _ _ rfl) ?_
  clear hp hd hs hP hD hS
  intro hP hD hS
  refine lv_aload_n hx hb dX7_copyOfIt_24 rfl (lv_at hl 0 rfl) ?_
  refine lv_aload_n hx hb dX7_copyOfIt_25 rfl (lv_at hl 1 rfl) ?_
  refine va_get (D := D) (ci := 7) (v := .int (q4.1 25 7)) (C := RX7) (T := TX7) (N := 8) hx hb hts u9_wsX7_copyOfIt_X7 hown hK hP 25 rfl rfl 7 (by decide) (hts (.fieldLink RX7 13 "TurnedFloors$Text" "length" "I") f9_wsX7_copyOfIt_577) (fun _ h9 => h9) rfl dX7_copyOfIt_26 ?_
  obtain ⟨g5, h⟩ := dG_some h
  refine va_put (D := D) (ci := 7) (v := .int (q4.1 25 7)) (ty := .int) (C := RX7) (T := TX7) (N := 8) hx hb hts u9_wsX7_copyOfIt_X7 tyX7 tyX7_ok nmX7 hown hK hP hD hS _ (lw_o g5) rfl 7 (by decide) (hts (.fieldLink RX7 13 "TurnedFloors$Text" "length" "I") f9_wsX7_copyOfIt_577) (fun _ h9 => h9) rfl (by decide +kernel) rfl rfl (Nat.le_of_ble_eq_true rfl) dX7_copyOfIt_29 (fun H locs hp hd hs => ?_)
  obtain ⟨q6, eq6, h⟩ := dL_some h
  refine kz_re (w2 := wF ty ad q6) hp hd hs (by rw [← eq6]; exact lw_set g5 0 (by decide) _ _ rfl) ?_
  clear hp hd hs hP hD hS
  intro hP hD hS
  refine lv_iconst (v := 0) hx hb dX7_copyOfIt_32 (by decide) ?_
  refine lv_istore_n (lv' := [(2, .int 0), (1, .ref (ad (63 + 7 * dLi (Int32.ofNat (q.2.2.length + 1))))), (0, .ref (ad 25))]) hx hb dX7_copyOfIt_33 rfl hl (by decide) rfl (fun ls hl => ?_)
  exact WX7_copyOfIt_s25_34 hal C  _ _ _ _ _ _ _ h hP hD hS (lv_sub hl [2, 1, 0] rfl)

set_option maxHeartbeats 4000000 in
set_option maxRecDepth 100000 in
theorem qX9_law_s0 (l : Launch) (D : va_G) (ty : Nat → ClassId) (eo : Nat → Nat) (sz : Nat) (ad : Nat → Nat) (ns : Nat) (q : dK)  (o1 : Int32) (o2 : dK) (h : zX9_law_s0 ns q = some (o1, o2)) : Met l yX9_law wsX9_law ({ frames := 77, cells := 7, slots := ns, locals := 1858 } : Room) (va_Pc [.ref (ad 0)] (kz_pre D ty eo (wF ty ad q) sz)) (va_Qi (fun (r : Int32) (u : va_W) => o1 = r ∧ ∃ ad9 : Nat → Nat, dAl q.2.2.length ad ad9 ∧ wF ty ad9 o2 = u) (kz_B D ty (va_A (wF ty ad q) sz)) (va_A (wF ty ad q) sz)) 7 ns (va_A (wF ty ad q) sz) := by
  have hal : dAl q.2.2.length ad ad := fun _ _ => rfl
  refine Met.ofW (cc := cX9_law) (maxL := 2) (ret := (some .int)) (by decide) rfl ?_
  intro p e s m args below meth c s₁ B hml hv
  obtain ⟨rfl, hsz, hP, hK, hD0, hN, hE⟩ := hv
  have hx := B.exec
  have hb := B.bytes
  have hr := B.returns
  have hts := atoms_spec (ws := wsX9_law) B.pre
  have hown : s.vm.findClass RX9 = some m.cls := findClass_of_methodNamed B.named
  have hlocks := B.notSynchronized
  subst hsz
  have hD := hD0.self (sz := s.heap.size)
  generalize hAe : va_A (wF ty ad q) s.heap.size = A at hD hE ⊢
  have hA : ∀ q : Nat, s.heap.size ≤ q → A q := fun q h => by rw [← hAe]; exact Or.inr h
  clear hAe
  have hS : va_S A s.heap s.heap [] := va_S.rf
  have hl := lv_entry ([.ref (ad 0)]) (n := 2) (Nat.le_of_ble_eq_true rfl)
  rw [lg_entry_eq]
  generalize (lg_sl ([.ref (ad 0)]) ++ List.replicate (2 - (lg_sl ([.ref (ad 0)])).length) Slot.unset).toArray = ls at hl ⊢
  have hl : lv_has ls 2 [(0, .ref (ad 0))] := hl
  have C : dc_C p s m _ meth c cX9_law (some .int) 2 RX9 wsX9_law D ty eo A := ⟨hx, hb, hr, hts, hown, hlocks, hml, hK, hN, hE, hA⟩
  unfold zX9_law_s0 at h
  refine lv_aload_n hx hb dX9_law_0 rfl (lv_at hl 0 rfl) ?_
  refine va_get (D := D) (ci := 9) (v := .int (q.1 0 12)) (C := RX9) (T := TX9) (N := 19) hx hb hts u9_wsX9_law_X9 hown hK hP 0 rfl rfl 12 (by decide) (hts (.fieldLink RX9 88 "TurnedFloors" "tapeLength" "I") f9_wsX9_law_582) (fun _ h9 => h9) rfl dX9_law_1 ?_
  refine lv_istore_n (lv' := [(1, .int (q.1 0 12)), (0, .ref (ad 0))]) hx hb dX9_law_4 rfl hl (by decide) rfl (fun ls hl => ?_)
  refine lv_aload_n hx hb dX9_law_5 rfl (lv_at hl 1 rfl) ?_
  refine lv_iconst (v := 0) hx hb dX9_law_6 (by decide) ?_
  refine va_put (D := D) (ci := 9) (v := .int 0) (ty := .int) (C := RX9) (T := TX9) (N := 19) hx hb hts u9_wsX9_law_X9 tyX9 tyX9_ok nmX9 hown hK hP hD hS 0 rfl rfl 12 (by decide) (hts (.fieldLink RX9 88 "TurnedFloors" "tapeLength" "I") f9_wsX9_law_582) (fun _ h9 => h9) rfl (by decide +kernel) rfl rfl (Nat.le_of_ble_eq_true rfl) dX9_law_7 (fun H locs hp hd hs => ?_)
  obtain ⟨q1, eq1, h⟩ := dL_some h
  refine kz_re (w2 := wF ty ad q1) hp hd hs (by rw [← eq1]; exact wF_f0_12 ty ad q 0) ?_
  clear hp hd hs hP hD hS
  intro hP hD hS
  refine lv_aload_n hx hb dX9_law_10 rfl (lv_at hl 1 rfl) ?_
  refine va_get (D := D) (ci := 9) (v := .ref (ad 1)) (C := RX9) (T := TX9) (N := 19) hx hb hts u9_wsX9_law_X9 hown hK hP 0 rfl rfl 0 (by decide) (hts (.fieldLink RX9 10 "TurnedFloors" "state" "LTurnedFloors$State;") f9_wsX9_law_583) (fun _ h9 => h9) rfl dX9_law_11 ?_
  refine va_getN (D := D) (ci := 6) (v := .int (q1.1 1 8)) (C := RX6) (T := TX6) (N := 10) hx hb hts u9_wsX9_law_X6 hown hK hP 1 rfl rfl 8 (by decide) (hN.use (.fieldLinkNest "TurnedFloors" 183 "TurnedFloors$State" "lawCount" "I" "TurnedFloors") (by decide +kernel)) (fun _ h9 => h9) rfl dX9_law_14 ?_
  refine lv_bipush (v := 6) hx hb dX9_law_17 (by decide) ?_
  refine lv_icmp_lt (tgt := 29) hx hb dX9_law_19 (by decide) (fun c9 => ?_) (fun c9 => ?_)
  · rw [if_pos c9] at h
    refine lv_aload_n hx hb dX9_law_29 rfl (lv_at hl 1 rfl) ?_
    refine lv_aload_n hx hb dX9_law_30 rfl (lv_at hl 1 rfl) ?_
    refine va_get (D := D) (ci := 9) (v := .ref (ad 24)) (C := RX9) (T := TX9) (N := 19) hx hb hts u9_wsX9_law_X9 hown hK hP 0 rfl rfl 8 (by decide) (hts (.fieldLink RX9 64 "TurnedFloors" "reader" "LTurnedFloors$Reader;") f9_wsX9_law_584) (fun _ h9 => h9) rfl dX9_law_31 ?_
    refine lv_aload_n hx hb dX9_law_34 rfl (lv_at hl 1 rfl) ?_
    refine va_get (D := D) (ci := 9) (v := .ref (ad 46)) (C := RX9) (T := TX9) (N := 19) hx hb hts u9_wsX9_law_X9 hown hK hP 0 rfl rfl 11 (by decide) (hts (.fieldLink RX9 84 "TurnedFloors" "tape" "[I") f9_wsX9_law_585) (fun _ h9 => h9) rfl dX9_law_35 ?_
    refine lv_iload_n hx hb dX9_law_38 rfl (lv_at hl 0 rfl) ?_
    refine lv_iconst (v := 0) hx hb dX9_law_39 (by decide) ?_
    refine lv_aload_n hx hb dX9_law_40 rfl (lv_at hl 1 rfl) ?_
    refine va_get (D := D) (ci := 9) (v := .ref (ad 25)) (C := RX9) (T := TX9) (N := 19) hx hb hts u9_wsX9_law_X9 hown hK hP 0 rfl rfl 9 (by decide) (hts (.fieldLink RX9 73 "TurnedFloors" "draft" "LTurnedFloors$Text;") f9_wsX9_law_586) (fun _ h9 => h9) rfl dX9_law_41 ?_
    obtain ⟨r2, q4, h3, h⟩ := dB_some h
    refine dw_ki (va_runV (As := [.ref (ad 46), .int (q.1 0 12), .int 0, .ref (ad 25)]) (rest := [.ref (ad 0)]) ⟨hx, hb, hml, hown, hts⟩ (qX4_read_s24_s46_s25 l D ty eo _ ad q1 (q.1 0 12) 0 r2 q4 h3) (cwV 4 hts gX9_law_X4_read rfl rfl rfl (by decide +kernel) ⟨Nat.le_of_ble_eq_true rfl, Nat.le_of_ble_eq_true rfl⟩) (dw_preV (ci := 4) (q0 := 24) hK hN hE hP hD hS hA rfl rfl) rfl rfl hl.1 rfl (lv_room (Nat.le_of_ble_eq_true rfl)) dX9_law_44 ⟨Nat.zero_le _, Nat.zero_le _⟩) hD hS hA (fun r9 u9 H locs hw hp hd hs => ?_)
    clear hP hD hS
    obtain ⟨rfl, rfl⟩ := hw
    have hP := hp; have hD := hd; have hS := hs; clear hp hd hs
    refine va_put (D := D) (ci := 9) (v := .int r2) (ty := .int) (C := RX9) (T := TX9) (N := 19) hx hb hts u9_wsX9_law_X9 tyX9 tyX9_ok nmX9 hown hK hP hD hS 0 rfl rfl 13 (by decide) (hts (.fieldLink RX9 92 "TurnedFloors" "faultPlace" "I") f9_wsX9_law_587) (fun _ h9 => h9) rfl (by decide +kernel) rfl rfl (Nat.le_of_ble_eq_true rfl) dX9_law_47 (fun H locs hp hd hs => ?_)
    obtain ⟨q5, eq5, h⟩ := dL_some h
    refine kz_re (w2 := wF ty ad q5) hp hd hs (by rw [← eq5]; exact wF_f0_13 ty ad q4 r2) ?_
    clear hp hd hs hP hD hS
    intro hP hD hS
    refine lv_aload_n hx hb dX9_law_50 rfl (lv_at hl 1 rfl) ?_
    refine va_get (D := D) (ci := 9) (v := .int (q5.1 0 13)) (C := RX9) (T := TX9) (N := 19) hx hb hts u9_wsX9_law_X9 hown hK hP 0 rfl rfl 13 (by decide) (hts (.fieldLink RX9 92 "TurnedFloors" "faultPlace" "I") f9_wsX9_law_587) (fun _ h9 => h9) rfl dX9_law_51 ?_
    refine lv_iconst (v := (-1)) hx hb dX9_law_54 (by decide) ?_
    refine lv_icmp_eq (tgt := 65) hx hb dX9_law_55 (by decide) (fun c9 => ?_) (fun c9 => ?_)
    · rw [if_pos c9] at h
      refine lv_aload_n hx hb dX9_law_65 rfl (lv_at hl 1 rfl) ?_
      refine va_get (D := D) (ci := 9) (v := .ref (ad 1)) (C := RX9) (T := TX9) (N := 19) hx hb hts u9_wsX9_law_X9 hown hK hP 0 rfl rfl 0 (by decide) (hts (.fieldLink RX9 10 "TurnedFloors" "state" "LTurnedFloors$State;") f9_wsX9_law_583) (fun _ h9 => h9) rfl dX9_law_66 ?_
      refine va_getN (D := D) (ci := 6) (v := .ref (ad 7)) (C := RX6) (T := TX6) (N := 10) hx hb hts u9_wsX9_law_X6 hown hK hP 1 rfl rfl 7 (by decide) (hN.use (.fieldLinkNest "TurnedFloors" 190 "TurnedFloors$State" "laws" "[LTurnedFloors$Text;" "TurnedFloors") (by decide +kernel)) (fun _ h9 => h9) rfl dX9_law_69 ?_
      refine lv_aload_n hx hb dX9_law_72 rfl (lv_at hl 1 rfl) ?_
      refine va_get (D := D) (ci := 9) (v := .ref (ad 1)) (C := RX9) (T := TX9) (N := 19) hx hb hts u9_wsX9_law_X9 hown hK hP 0 rfl rfl 0 (by decide) (hts (.fieldLink RX9 10 "TurnedFloors" "state" "LTurnedFloors$State;") f9_wsX9_law_583) (fun _ h9 => h9) rfl dX9_law_73 ?_
      refine va_getN (D := D) (ci := 6) (v := .int (q5.1 1 8)) (C := RX6) (T := TX6) (N := 10) hx hb hts u9_wsX9_law_X6 hown hK hP 1 rfl rfl 8 (by decide) (hN.use (.fieldLinkNest "TurnedFloors" 183 "TurnedFloors$State" "lawCount" "I" "TurnedFloors") (by decide +kernel)) (fun _ h9 => h9) rfl dX9_law_76 ?_
      refine lv_aload_n hx hb dX9_law_79 rfl (lv_at hl 1 rfl) ?_
      refine va_get (D := D) (ci := 9) (v := .ref (ad 25)) (C := RX9) (T := TX9) (N := 19) hx hb hts u9_wsX9_law_X9 hown hK hP 0 rfl rfl 9 (by decide) (hts (.fieldLink RX9 73 "TurnedFloors" "draft" "LTurnedFloors$Text;") f9_wsX9_law_586) (fun _ h9 => h9) rfl dX9_law_80 ?_
      obtain ⟨r6, q8, h7, h⟩ := dB_some h
      obtain ⟨g9, h⟩ := dG_some h
      refine dw_kq (va_runV (As := []) (rest := [.int (q5.1 1 8), .ref (ad 7)]) ⟨hx, hb, hml, hown, hts⟩ (qX7_copyOfIt_s25 l D ty eo _ ad ns q5  r6 q8 h7) (cwV 0 hts gX9_law_X7_copyOfIt rfl rfl rfl (by decide +kernel) ⟨Nat.le_of_ble_eq_true rfl, Nat.le_of_ble_eq_true rfl⟩) (dw_preV (ci := 7) (q0 := 25) hK hN hE hP hD hS hA rfl rfl) rfl rfl hl.1 rfl (lv_room (Nat.le_of_ble_eq_true rfl)) dX9_law_83 ⟨Nat.le_of_ble_eq_true rfl, by show 0 + ns ≤ ns; omega⟩) hP hD hS hA (fun r9 u9 H locs hw hp hd hs => ?_)
      clear hP hD hS
      obtain ⟨ad, hal1, rfl, rfl⟩ := hw
      rw [of_decide_eq_true g9] at hal1
      rw [dAl_s hal1 7 (by decide)]
      rw [dAl_s hal1 0 (by decide)] at hl
      replace hal := hal1; clear hal1
      refine dw_up (c2 := 7) (s2 := ns) (by omega) (by omega) ?_
      have hP := hp; have hD := hd; have hS := hs; clear hp hd hs
      obtain ⟨g10, h⟩ := dG_some h
      obtain ⟨g11, h⟩ := dG_some h
      refine va_astq hx hb hK hP hD hS 7 5 _ 7 rfl rfl (lw_o g11) rfl (dg_in g10) dX9_law_86 (fun H locs hp hd hs => ?_)
      rw [dLs_up (dg_lt g10) (dlg_ne g11)] at hp hd
      obtain ⟨q12, eq12, h⟩ := dL_some h
      refine kz_re (w2 := wF ty ad q12) hp hd hs (by rw [← eq12]; exact wF_t7 ty ad q8 (Int32.toNatClampNeg (q5.1 1 8)) r6) ?_
      clear hp hd hs hP hD hS
      intro hP hD hS
      refine lv_aload_n hx hb dX9_law_87 rfl (lv_at hl 1 rfl) ?_
      refine va_get (D := D) (ci := 9) (v := .ref (ad 1)) (C := RX9) (T := TX9) (N := 19) hx hb hts u9_wsX9_law_X9 hown hK hP 0 rfl rfl 0 (by decide) (hts (.fieldLink RX9 10 "TurnedFloors" "state" "LTurnedFloors$State;") f9_wsX9_law_583) (fun _ h9 => h9) rfl dX9_law_88 ?_
      refine lv_dup hx hb dX9_law_91 rfl ?_
      refine va_getN (D := D) (ci := 6) (v := .int (q12.1 1 8)) (C := RX6) (T := TX6) (N := 10) hx hb hts u9_wsX9_law_X6 hown hK hP 1 rfl rfl 8 (by decide) (hN.use (.fieldLinkNest "TurnedFloors" 183 "TurnedFloors$State" "lawCount" "I" "TurnedFloors") (by decide +kernel)) (fun _ h9 => h9) rfl dX9_law_92 ?_
      refine lv_iconst (v := 1) hx hb dX9_law_95 (by decide) ?_
      refine lv_iadd hx hb dX9_law_96 ?_
      refine va_putN (D := D) (ci := 6) (v := .int ((q12.1 1 8) + 1 : Int32)) (ty := .int) (C := RX6) (T := TX6) (N := 10) hx hb hts u9_wsX9_law_X6 tyX6 tyX6_ok nmX6 hown hK hP hD hS 1 rfl rfl 8 (by decide) (hN.use (.fieldLinkNest "TurnedFloors" 183 "TurnedFloors$State" "lawCount" "I" "TurnedFloors") (by decide +kernel)) (fun _ h9 => h9) rfl (by decide +kernel) rfl rfl (Nat.le_of_ble_eq_true rfl) dX9_law_97 (fun H locs hp hd hs => ?_)
      obtain ⟨q13, eq13, h⟩ := dL_some h
      refine kz_re (w2 := wF ty ad q13) hp hd hs (by rw [← eq13]; exact wF_f1_8 ty ad q12 ((q12.1 1 8) + 1 : Int32)) ?_
      clear hp hd hs hP hD hS
      intro hP hD hS
      refine lv_aload_n hx hb dX9_law_100 rfl (lv_at hl 1 rfl) ?_
      refine lv_aload_n hx hb dX9_law_101 rfl (lv_at hl 1 rfl) ?_
      refine va_get (D := D) (ci := 9) (v := .ref (ad 1)) (C := RX9) (T := TX9) (N := 19) hx hb hts u9_wsX9_law_X9 hown hK hP 0 rfl rfl 0 (by decide) (hts (.fieldLink RX9 10 "TurnedFloors" "state" "LTurnedFloors$State;") f9_wsX9_law_583) (fun _ h9 => h9) rfl dX9_law_102 ?_
      refine va_getN (D := D) (ci := 6) (v := .int (q13.1 1 8)) (C := RX6) (T := TX6) (N := 10) hx hb hts u9_wsX9_law_X6 hown hK hP 1 rfl rfl 8 (by decide) (hN.use (.fieldLinkNest "TurnedFloors" 183 "TurnedFloors$State" "lawCount" "I" "TurnedFloors") (by decide +kernel)) (fun _ h9 => h9) rfl dX9_law_105 ?_
      refine lv_iconst (v := 1) hx hb dX9_law_108 (by decide) ?_
      refine lv_isub hx hb dX9_law_109 ?_
      obtain ⟨r14, q16, h15, h⟩ := dB_some h
      refine dw_ki (va_runV (As := [.int ((q13.1 1 8) - 1 : Int32)]) (rest := []) ⟨hx, hb, hml, hown, hts⟩ (qX9_accept_s0 l D ty eo _ ad q13 ((q13.1 1 8) - 1 : Int32) r14 q16 h15) (cwV 1 hts gX9_law_X9_accept rfl rfl rfl (by decide +kernel) ⟨Nat.le_of_ble_eq_true rfl, Nat.le_of_ble_eq_true rfl⟩) (dw_preV (ci := 9) (q0 := 0) hK hN hE hP hD hS hA rfl rfl) rfl rfl hl.1 rfl (lv_room (Nat.le_of_ble_eq_true rfl)) dX9_law_110 ⟨Nat.le_refl _, Nat.le_refl _⟩) hD hS hA (fun r9 u9 H locs hw hp hd hs => ?_)
      clear hP hD hS
      obtain ⟨rfl, rfl⟩ := hw
      have hP := hp; have hD := hd; have hS := hs; clear hp hd hs
      cases h
      exact kz_iret hx hb hr hlocks hP hK hD hS dX9_law_113 ⟨rfl, ad, hal, rfl⟩
    · rw [if_neg c9] at h
      refine lv_aload_n hx hb dX9_law_58 rfl (lv_at hl 1 rfl) ?_
      refine lv_bipush (v := (-6)) hx hb dX9_law_59 (by decide) ?_
      obtain ⟨r17, q19, h18, h⟩ := dB_some h
      refine dw_ki (va_runV (As := [.int (-6)]) (rest := []) ⟨hx, hb, hml, hown, hts⟩ (qX9_refuse_s0 l D ty eo _ ad q5 (-6) r17 q19 h18) (cwV 1 hts gX9_law_X9_refuse rfl rfl rfl (by decide +kernel) ⟨Nat.le_of_ble_eq_true rfl, Nat.le_of_ble_eq_true rfl⟩) (dw_preV (ci := 9) (q0 := 0) hK hN hE hP hD hS hA rfl rfl) rfl rfl hl.1 rfl (lv_room (Nat.le_of_ble_eq_true rfl)) dX9_law_61 ⟨Nat.zero_le _, Nat.zero_le _⟩) hD hS hA (fun r9 u9 H locs hw hp hd hs => ?_)
      clear hP hD hS
      obtain ⟨rfl, rfl⟩ := hw
      have hP := hp; have hD := hd; have hS := hs; clear hp hd hs
      refine dw_up (c2 := 7) (s2 := ns) (Nat.zero_le _) (Nat.zero_le _) ?_
      cases h
      exact kz_iret hx hb hr hlocks hP hK hD hS dX9_law_64 ⟨rfl, ad, hal, rfl⟩
  · rw [if_neg c9] at h
    refine lv_aload_n hx hb dX9_law_22 rfl (lv_at hl 1 rfl) ?_
    refine lv_bipush (v := (-5)) hx hb dX9_law_23 (by decide) ?_
    obtain ⟨r20, q22, h21, h⟩ := dB_some h
    refine dw_ki (va_runV (As := [.int (-5)]) (rest := []) ⟨hx, hb, hml, hown, hts⟩ (qX9_refuse_s0 l D ty eo _ ad q1 (-5) r20 q22 h21) (cwV 1 hts gX9_law_X9_refuse rfl rfl rfl (by decide +kernel) ⟨Nat.le_of_ble_eq_true rfl, Nat.le_of_ble_eq_true rfl⟩) (dw_preV (ci := 9) (q0 := 0) hK hN hE hP hD hS hA rfl rfl) rfl rfl hl.1 rfl (lv_room (Nat.le_of_ble_eq_true rfl)) dX9_law_25 ⟨Nat.zero_le _, Nat.zero_le _⟩) hD hS hA (fun r9 u9 H locs hw hp hd hs => ?_)
    clear hP hD hS
    obtain ⟨rfl, rfl⟩ := hw
    have hP := hp; have hD := hd; have hS := hs; clear hp hd hs
    refine dw_up (c2 := 7) (s2 := ns) (Nat.zero_le _) (Nat.zero_le _) ?_
    cases h
    exact kz_iret hx hb hr hlocks hP hK hD hS dX9_law_28 ⟨rfl, ad, hal, rfl⟩

set_option maxHeartbeats 4000000 in
set_option maxRecDepth 100000 in
theorem WX8_pack_s2_8b {p : Program} {l : Launch} {e : Env} {s : State} {m : MethodId} {args : Array Value} {below : List Frame} {meth : Method} {c : Code} {D : va_G} {ty : Nat → ClassId} {eo : Nat → Nat} {A : Nat → Prop} {ad : Nat → Nat} {o1 : Int64} {o2 : dK} (C : dc_C p s m args meth c cX8_pack (some .long) 4 RX8 wsX8_pack D ty eo A) {k8 : dK → Int64 → Int32 → Option (Int64 × dK)} (hk8 : ∀ (q : dK) (x1 : Int64) (x3 : Int32) (H : Heap) (locs : List Loc) (ls : Array Slot), k8 q x1 x3 = some (o1, o2) → va_P D vwCl (wF ty ad q) H → va_D A (wF ty ad q) → va_S A s.heap H locs → lv_has ls 4 [(0, .ref (ad 2)), (1, .long x1), (3, .int x3)] → W p l e ({ frames := 0, cells := 0, slots := 0, locals := 0 } : Room) s m args below meth c H locs 0 0 (MQ below (va_Ql (fun (r : Int64) (u : va_W) => o1 = r ∧ wF ty ad o2 = u) (kz_B D ty A) A) args s 0 0 A) (F0 m 8 ls [])) (q : dK) (x1 : Int64) (x3 : Int32) (H : Heap) (locs : List Loc) (ls : Array Slot) (h : zX8_pack_s2_8b k8 q x1 x3 = some (o1, o2)) (hP : va_P D vwCl (wF ty ad q) H) (hD : va_D A (wF ty ad q)) (hS : va_S A s.heap H locs) (hl : lv_has ls 4 [(0, .ref (ad 2)), (1, .long x1), (3, .int x3)]) : W p l e ({ frames := 0, cells := 0, slots := 0, locals := 0 } : Room) s m args below meth c H locs 0 0 (MQ below (va_Ql (fun (r : Int64) (u : va_W) => o1 = r ∧ wF ty ad o2 = u) (kz_B D ty A) A) args s 0 0 A) (F0 m 8 ls []) := by
  have C0 := C
  obtain ⟨hx, hb, hr, hts, hown, hlocks, hml, hK, hN, hE, hA⟩ := C
  unfold zX8_pack_s2_8b at h
  refine lv_iload_n hx hb dX8_pack_8 rfl (lv_at hl 2 rfl) ?_
  refine lv_bipush (v := 6) hx hb dX8_pack_9 (by decide) ?_
  refine lv_icmp_ge (tgt := 42) hx hb dX8_pack_11 (by decide) (fun c9 => ?_) (fun c9 => ?_)
  · rw [if_pos c9] at h
    refine lv_lload_n hx hb dX8_pack_42 rfl (lv_at hl 1 rfl) ?_
    refine lv_bipush (v := 14) hx hb dX8_pack_43 (by decide) ?_
    refine lv_lshl (v := x1 <<< (Int32.toInt64 (14 : Int32) &&& 63)) hx hb dX8_pack_45 rfl ?_
    refine lv_aload_n hx hb dX8_pack_46 rfl (lv_at hl 0 rfl) ?_
    refine va_get (D := D) (ci := 8) (v := .int (q.1 2 3)) (C := RX8) (T := TX8) (N := 5) hx hb hts u9_wsX8_pack_X8 hown hK hP 2 rfl rfl 3 (by decide) (hts (.fieldLink RX8 22 "TurnedFloors$Tower" "paid" "I") f9_wsX8_pack_589) (fun _ h9 => h9) rfl dX8_pack_47 ?_
    refine lv_i2l (v := Int32.toInt64 (q.1 2 3)) hx hb dX8_pack_50 rfl ?_
    refine lv_lor hx hb dX8_pack_51 ?_
    obtain ⟨v1, ev1, h⟩ := dL_some h
    refine kz_topl v1 ev1 ?_
    refine lv_bipush (v := 10) hx hb dX8_pack_52 (by decide) ?_
    refine lv_lshl (v := v1 <<< (Int32.toInt64 (10 : Int32) &&& 63)) hx hb dX8_pack_54 rfl ?_
    refine lv_aload_n hx hb dX8_pack_55 rfl (lv_at hl 0 rfl) ?_
    refine va_get (D := D) (ci := 8) (v := .int (q.1 2 4)) (C := RX8) (T := TX8) (N := 5) hx hb hts u9_wsX8_pack_X8 hown hK hP 2 rfl rfl 4 (by decide) (hts (.fieldLink RX8 25 "TurnedFloors$Tower" "year" "I") f9_wsX8_pack_590) (fun _ h9 => h9) rfl dX8_pack_56 ?_
    refine lv_i2l (v := Int32.toInt64 (q.1 2 4)) hx hb dX8_pack_59 rfl ?_
    refine lv_lor hx hb dX8_pack_60 ?_
    obtain ⟨v2, ev2, h⟩ := dL_some h
    refine kz_topl v2 ev2 ?_
    cases h
    exact kz_lret hx hb hr hlocks hP hK hD hS dX8_pack_61 ⟨rfl, rfl⟩
  · rw [if_neg c9] at h
    refine lv_lload_n hx hb dX8_pack_14 rfl (lv_at hl 1 rfl) ?_
    refine lv_iconst (v := 4) hx hb dX8_pack_15 (by decide) ?_
    refine lv_lshl (v := x1 <<< (Int32.toInt64 (4 : Int32) &&& 63)) hx hb dX8_pack_16 rfl ?_
    refine lv_aload_n hx hb dX8_pack_17 rfl (lv_at hl 0 rfl) ?_
    refine va_get (D := D) (ci := 8) (v := .ref (ad 3)) (C := RX8) (T := TX8) (N := 5) hx hb hts u9_wsX8_pack_X8 hown hK hP 2 rfl rfl 0 (by decide) (hts (.fieldLink RX8 9 "TurnedFloors$Tower" "rank" "[I") f9_wsX8_pack_591) (fun _ h9 => h9) rfl dX8_pack_18 ?_
    refine lv_iload_n hx hb dX8_pack_21 rfl (lv_at hl 2 rfl) ?_
    obtain ⟨g3, h⟩ := dG_some h
    refine va_iald hx hb hK hP 3 0 rfl rfl (dg_in g3) dX8_pack_22 ?_
    obtain ⟨v4, ev4, h⟩ := dL_some h
    refine kz_topi v4 ev4 ?_
    refine lv_iconst (v := 1) hx hb dX8_pack_23 (by decide) ?_
    refine lv_ishl hx hb dX8_pack_24 ?_
    refine lv_i2l (v := Int32.toInt64 (v4 <<< ((1 : Int32) &&& 31) : Int32)) hx hb dX8_pack_25 rfl ?_
    refine lv_lor hx hb dX8_pack_26 ?_
    obtain ⟨v5, ev5, h⟩ := dL_some h
    refine kz_topl v5 ev5 ?_
    refine lv_aload_n hx hb dX8_pack_27 rfl (lv_at hl 0 rfl) ?_
    refine va_get (D := D) (ci := 8) (v := .ref (ad 4)) (C := RX8) (T := TX8) (N := 5) hx hb hts u9_wsX8_pack_X8 hown hK hP 2 rfl rfl 1 (by decide) (hts (.fieldLink RX8 15 "TurnedFloors$Tower" "head" "[I") f9_wsX8_pack_592) (fun _ h9 => h9) rfl dX8_pack_28 ?_
    refine lv_iload_n hx hb dX8_pack_31 rfl (lv_at hl 2 rfl) ?_
    obtain ⟨g6, h⟩ := dG_some h
    refine va_iald hx hb hK hP 4 0 rfl rfl (dg_in g6) dX8_pack_32 ?_
    obtain ⟨v7, ev7, h⟩ := dL_some h
    refine kz_topi v7 ev7 ?_
    refine lv_i2l (v := Int32.toInt64 v7) hx hb dX8_pack_33 rfl ?_
    refine lv_lor hx hb dX8_pack_34 ?_
    refine lv_lstore_n (lv' := [(1, .long (v5 ||| (Int32.toInt64 v7) : Int64)), (0, .ref (ad 2)), (3, .int x3)]) hx hb dX8_pack_35 rfl hl (by decide) rfl (fun ls hl => ?_)
    refine lv_iinc (v := x3 + 1) (lv' := [(3, .int (x3 + 1)), (1, .long (v5 ||| (Int32.toInt64 v7) : Int64)), (0, .ref (ad 2))]) hx hb dX8_pack_36 hl (k := 2) rfl rfl (by decide) rfl (fun ls hl => ?_)
    refine lv_goto (tgt := 8) hx hb dX8_pack_39 (by decide) ?_
    exact hk8 _ _ _ _ _ _ h hP hD hS (lv_sub hl [2, 1, 0] rfl)
set_option maxHeartbeats 4000000 in
set_option maxRecDepth 100000 in
theorem WX8_pack_s2_8 {p : Program} {l : Launch} {e : Env} {s : State} {m : MethodId} {args : Array Value} {below : List Frame} {meth : Method} {c : Code} {D : va_G} {ty : Nat → ClassId} {eo : Nat → Nat} {A : Nat → Prop} {ad : Nat → Nat} {o1 : Int64} {o2 : dK} (C : dc_C p s m args meth c cX8_pack (some .long) 4 RX8 wsX8_pack D ty eo A)   (n : Nat) (q : dK) (x1 : Int64) (x3 : Int32) (H : Heap) (locs : List Loc) (ls : Array Slot) (h : zX8_pack_s2_8  n q x1 x3 = some (o1, o2)) (hP : va_P D vwCl (wF ty ad q) H) (hD : va_D A (wF ty ad q)) (hS : va_S A s.heap H locs) (hl : lv_has ls 4 [(0, .ref (ad 2)), (1, .long x1), (3, .int x3)]) : W p l e ({ frames := 0, cells := 0, slots := 0, locals := 0 } : Room) s m args below meth c H locs 0 0 (MQ below (va_Ql (fun (r : Int64) (u : va_W) => o1 = r ∧ wF ty ad o2 = u) (kz_B D ty A) A) args s 0 0 A) (F0 m 8 ls []) := by
  exact dFix_W (F := fun k (a : dK × Int64 × Int32) => zX8_pack_s2_8b  (fun q x1 x3 => k (q, x1, x3)) a.1 a.2.1 a.2.2) (o := (o1, o2)) (P := fun (a : dK × Int64 × Int32) H locs ls => va_P D vwCl (wF ty ad a.1) H ∧ va_D A (wF ty ad a.1) ∧ va_S A s.heap H locs ∧ lv_has ls 4 [(0, .ref (ad 2)), (1, .long a.2.1), (3, .int a.2.2)]) (G := fun H locs ls => W p l e ({ frames := 0, cells := 0, slots := 0, locals := 0 } : Room) s m args below meth c H locs 0 0 (MQ below (va_Ql (fun (r : Int64) (u : va_W) => o1 = r ∧ wF ty ad o2 = u) (kz_B D ty A) A) args s 0 0 A) (F0 m 8 ls []))
    (fun k hk a H locs ls h hp => WX8_pack_s2_8b C  (fun q x1 x3 H locs ls h h1 h2 h3 h4 => hk (q, x1, x3) H locs ls h ⟨h1, h2, h3, h4⟩) a.1 a.2.1 a.2.2 H locs ls h hp.1 hp.2.1 hp.2.2.1 hp.2.2.2) n (q, x1, x3) H locs ls h ⟨hP, hD, hS, hl⟩
set_option maxHeartbeats 4000000 in
set_option maxRecDepth 100000 in
theorem qX8_pack_s2 (l : Launch) (D : va_G) (ty : Nat → ClassId) (eo : Nat → Nat) (sz : Nat) (ad : Nat → Nat) (q : dK)  (o1 : Int64) (o2 : dK) (h : zX8_pack_s2 q = some (o1, o2)) : Met l yX8_pack wsX8_pack ({ frames := 0, cells := 0, slots := 0, locals := 0 } : Room) (va_Pc [.ref (ad 2)] (kz_pre D ty eo (wF ty ad q) sz)) (va_Ql (fun (r : Int64) (u : va_W) => o1 = r ∧ wF ty ad o2 = u) (kz_B D ty (va_A (wF ty ad q) sz)) (va_A (wF ty ad q) sz)) 0 0 (va_A (wF ty ad q) sz) := by
  refine Met.ofW (cc := cX8_pack) (maxL := 4) (ret := (some .long)) (by decide) rfl ?_
  intro p e s m args below meth c s₁ B hml hv
  obtain ⟨rfl, hsz, hP, hK, hD0, hN, hE⟩ := hv
  have hx := B.exec
  have hb := B.bytes
  have hr := B.returns
  have hts := atoms_spec (ws := wsX8_pack) B.pre
  have hown : s.vm.findClass RX8 = some m.cls := findClass_of_methodNamed B.named
  have hlocks := B.notSynchronized
  subst hsz
  have hD := hD0.self (sz := s.heap.size)
  generalize hAe : va_A (wF ty ad q) s.heap.size = A at hD hE ⊢
  have hA : ∀ q : Nat, s.heap.size ≤ q → A q := fun q h => by rw [← hAe]; exact Or.inr h
  clear hAe
  have hS : va_S A s.heap s.heap [] := va_S.rf
  have hl := lv_entry ([.ref (ad 2)]) (n := 4) (Nat.le_of_ble_eq_true rfl)
  rw [lg_entry_eq]
  generalize (lg_sl ([.ref (ad 2)]) ++ List.replicate (4 - (lg_sl ([.ref (ad 2)])).length) Slot.unset).toArray = ls at hl ⊢
  have hl : lv_has ls 4 [(0, .ref (ad 2))] := hl
  have C : dc_C p s m _ meth c cX8_pack (some .long) 4 RX8 wsX8_pack D ty eo A := ⟨hx, hb, hr, hts, hown, hlocks, hml, hK, hN, hE, hA⟩
  unfold zX8_pack_s2 at h
  refine lv_aload_n hx hb dX8_pack_0 rfl (lv_at hl 0 rfl) ?_
  refine va_get (D := D) (ci := 8) (v := .int (q.1 2 2)) (C := RX8) (T := TX8) (N := 5) hx hb hts u9_wsX8_pack_X8 hown hK hP 2 rfl rfl 2 (by decide) (hts (.fieldLink RX8 18 "TurnedFloors$Tower" "floors" "I") f9_wsX8_pack_593) (fun _ h9 => h9) rfl dX8_pack_1 ?_
  refine lv_i2l (v := Int32.toInt64 (q.1 2 2)) hx hb dX8_pack_4 rfl ?_
  refine lv_lstore_n (lv' := [(1, .long (Int32.toInt64 (q.1 2 2))), (0, .ref (ad 2))]) hx hb dX8_pack_5 rfl hl (by decide) rfl (fun ls hl => ?_)
  refine lv_iconst (v := 0) hx hb dX8_pack_6 (by decide) ?_
  refine lv_istore_n (lv' := [(3, .int 0), (1, .long (Int32.toInt64 (q.1 2 2))), (0, .ref (ad 2))]) hx hb dX8_pack_7 rfl hl (by decide) rfl (fun ls hl => ?_)
  exact WX8_pack_s2_8 C  _ _ _ _ _ _ _ h hP hD hS (lv_sub hl [2, 1, 0] rfl)

set_option maxHeartbeats 4000000 in
set_option maxRecDepth 100000 in
theorem qX0_mark_s10 (l : Launch) (D : va_G) (ty : Nat → ClassId) (eo : Nat → Nat) (sz : Nat) (ad : Nat → Nat) (q : dK)  (o2 : dK) (h : zX0_mark_s10 q = some o2) : Met l yX0_mark wsX0_mark ({ frames := 1, cells := 0, slots := 0, locals := 40 } : Room) (va_Pc [.ref (ad 10)] (kz_pre D ty eo (wF ty ad q) sz)) (va_Qv (fun (u : va_W) => wF ty ad o2 = u) (kz_B D ty (va_A (wF ty ad q) sz)) (va_A (wF ty ad q) sz)) 0 0 (va_A (wF ty ad q) sz) := by
  refine Met.ofW (cc := cX0_mark) (maxL := 1) (ret := none) (by decide) rfl ?_
  intro p e s m args below meth c s₁ B hml hv
  obtain ⟨rfl, hsz, hP, hK, hD0, hN, hE⟩ := hv
  have hx := B.exec
  have hb := B.bytes
  have hr := B.returns
  have hts := atoms_spec (ws := wsX0_mark) B.pre
  have hown : s.vm.findClass RX0 = some m.cls := findClass_of_methodNamed B.named
  have hlocks := B.notSynchronized
  subst hsz
  have hD := hD0.self (sz := s.heap.size)
  generalize hAe : va_A (wF ty ad q) s.heap.size = A at hD hE ⊢
  have hA : ∀ q : Nat, s.heap.size ≤ q → A q := fun q h => by rw [← hAe]; exact Or.inr h
  clear hAe
  have hS : va_S A s.heap s.heap [] := va_S.rf
  have hl := lv_entry ([.ref (ad 10)]) (n := 1) (Nat.le_of_ble_eq_true rfl)
  rw [lg_entry_eq]
  generalize (lg_sl ([.ref (ad 10)]) ++ List.replicate (1 - (lg_sl ([.ref (ad 10)])).length) Slot.unset).toArray = ls at hl ⊢
  have hl : lv_has ls 1 [(0, .ref (ad 10))] := hl
  have C : dc_C p s m _ meth c cX0_mark none 1 RX0 wsX0_mark D ty eo A := ⟨hx, hb, hr, hts, hown, hlocks, hml, hK, hN, hE, hA⟩
  unfold zX0_mark_s10 at h
  refine lv_aload_n hx hb dX0_mark_0 rfl (lv_at hl 0 rfl) ?_
  refine va_get (D := D) (ci := 0) (v := .ref (ad 11)) (C := RX0) (T := TX0) (N := 6) hx hb hts u9_wsX0_mark_X0 hown hK hP 10 rfl rfl 0 (by decide) (hts (.fieldLink RX0 9 "TurnedFloors$History" "towers" "[J") f9_wsX0_mark_595) (fun _ h9 => h9) rfl dX0_mark_1 ?_
  refine lv_iconst (v := 0) hx hb dX0_mark_4 (by decide) ?_
  refine lv_aload_n hx hb dX0_mark_5 rfl (lv_at hl 0 rfl) ?_
  refine va_get (D := D) (ci := 0) (v := .ref (ad 13)) (C := RX0) (T := TX0) (N := 6) hx hb hts u9_wsX0_mark_X0 hown hK hP 10 rfl rfl 3 (by decide) (hts (.fieldLink RX0 23 "TurnedFloors$History" "markedTowers" "[J") f9_wsX0_mark_596) (fun _ h9 => h9) rfl dX0_mark_6 ?_
  refine lv_iconst (v := 0) hx hb dX0_mark_9 (by decide) ?_
  refine lv_bipush (v := 16) hx hb dX0_mark_10 (by decide) ?_
  refine va_copyl hx hb (hml.trans hl.1.symm) hown (hts (.methodLink RX0 32 arraycopyName) f9_wsX0_mark_597) (hts (.native arraycopyName) f9_wsX0_mark_598) (hts (.static arraycopyName) f9_wsX0_mark_599) (hts (.initialized "java/lang/System") f9_wsX0_mark_600) hK hP hD hS 11 13 1 1 rfl rfl rfl rfl rfl (by decide) (by decide) (by decide) (by decide) (by decide) (fun _ _ => rfl) (Nat.le_of_ble_eq_true rfl) (Nat.le_of_ble_eq_true rfl) dX0_mark_12 (fun H locs hp hd hs => ?_)
  obtain ⟨q1, eq1, h⟩ := dL_some h
  refine kz_re (w2 := wF ty ad q1) hp hd hs (by rw [← eq1]; exact rfl) ?_
  clear hp hd hs hP hD hS
  intro hP hD hS
  refine lv_aload_n hx hb dX0_mark_15 rfl (lv_at hl 0 rfl) ?_
  refine va_get (D := D) (ci := 0) (v := .ref (ad 12)) (C := RX0) (T := TX0) (N := 6) hx hb hts u9_wsX0_mark_X0 hown hK hP 10 rfl rfl 1 (by decide) (hts (.fieldLink RX0 15 "TurnedFloors$History" "kinds" "[I") f9_wsX0_mark_601) (fun _ h9 => h9) rfl dX0_mark_16 ?_
  refine lv_iconst (v := 0) hx hb dX0_mark_19 (by decide) ?_
  refine lv_aload_n hx hb dX0_mark_20 rfl (lv_at hl 0 rfl) ?_
  refine va_get (D := D) (ci := 0) (v := .ref (ad 14)) (C := RX0) (T := TX0) (N := 6) hx hb hts u9_wsX0_mark_X0 hown hK hP 10 rfl rfl 4 (by decide) (hts (.fieldLink RX0 26 "TurnedFloors$History" "markedKinds" "[I") f9_wsX0_mark_602) (fun _ h9 => h9) rfl dX0_mark_21 ?_
  refine lv_iconst (v := 0) hx hb dX0_mark_24 (by decide) ?_
  refine lv_bipush (v := 16) hx hb dX0_mark_25 (by decide) ?_
  refine va_copyi hx hb (hml.trans hl.1.symm) hown (hts (.methodLink RX0 32 arraycopyName) f9_wsX0_mark_597) (hts (.native arraycopyName) f9_wsX0_mark_598) (hts (.static arraycopyName) f9_wsX0_mark_599) (hts (.initialized "java/lang/System") f9_wsX0_mark_600) hK hP hD hS 12 14 0 0 rfl rfl rfl rfl rfl (by decide) (by decide) (by decide) (by decide) (by decide) (fun _ _ => rfl) (Nat.le_of_ble_eq_true rfl) (Nat.le_of_ble_eq_true rfl) dX0_mark_27 (fun H locs hp hd hs => ?_)
  obtain ⟨q2, eq2, h⟩ := dL_some h
  refine kz_re (w2 := wF ty ad q2) hp hd hs (by rw [← eq2]; exact rfl) ?_
  clear hp hd hs hP hD hS
  intro hP hD hS
  refine lv_aload_n hx hb dX0_mark_30 rfl (lv_at hl 0 rfl) ?_
  refine lv_aload_n hx hb dX0_mark_31 rfl (lv_at hl 0 rfl) ?_
  refine va_get (D := D) (ci := 0) (v := .int (q2.1 10 2)) (C := RX0) (T := TX0) (N := 6) hx hb hts u9_wsX0_mark_X0 hown hK hP 10 rfl rfl 2 (by decide) (hts (.fieldLink RX0 19 "TurnedFloors$History" "kept" "I") f9_wsX0_mark_603) (fun _ h9 => h9) rfl dX0_mark_32 ?_
  refine va_put (D := D) (ci := 0) (v := .int (q2.1 10 2)) (ty := .int) (C := RX0) (T := TX0) (N := 6) hx hb hts u9_wsX0_mark_X0 tyX0 tyX0_ok nmX0 hown hK hP hD hS 10 rfl rfl 5 (by decide) (hts (.fieldLink RX0 29 "TurnedFloors$History" "markedKept" "I") f9_wsX0_mark_604) (fun _ h9 => h9) rfl (by decide +kernel) rfl rfl (Nat.le_of_ble_eq_true rfl) dX0_mark_35 (fun H locs hp hd hs => ?_)
  obtain ⟨q3, eq3, h⟩ := dL_some h
  refine kz_re (w2 := wF ty ad q3) hp hd hs (by rw [← eq3]; exact wF_f10_5 ty ad q2 (q2.1 10 2)) ?_
  clear hp hd hs hP hD hS
  intro hP hD hS
  cases h
  exact kz_vret hx hb hr hlocks hP hK hD hS dX0_mark_38 rfl

set_option maxHeartbeats 4000000 in
set_option maxRecDepth 100000 in
theorem WX8_anyBetween_s2_32 {p : Program} {l : Launch} {e : Env} {s : State} {m : MethodId} {args : Array Value} {below : List Frame} {meth : Method} {c : Code} {D : va_G} {ty : Nat → ClassId} {eo : Nat → Nat} {A : Nat → Prop} {ad : Nat → Nat} {o1 : Int32} {o2 : dK} (C : dc_C p s m args meth c cX8_anyBetween (some .boolean) 4 RX8 wsX8_anyBetween D ty eo A) {k2 : dK → Int32 → Int32 → Int32 → Option (Int32 × dK)} (hk2 : ∀ (q : dK) (x1 : Int32) (x2 : Int32) (x3 : Int32) (H : Heap) (locs : List Loc) (ls : Array Slot), k2 q x1 x2 x3 = some (o1, o2) → va_P D vwCl (wF ty ad q) H → va_D A (wF ty ad q) → va_S A s.heap H locs → lv_has ls 4 [(0, .ref (ad 2)), (1, .int x1), (2, .int x2), (3, .int x3)] → W p l e ({ frames := 0, cells := 0, slots := 0, locals := 0 } : Room) s m args below meth c H locs 0 0 (MQ below (va_Qi (fun (r : Int32) (u : va_W) => o1 = r ∧ wF ty ad o2 = u) (kz_B D ty A) A) args s 0 0 A) (F0 m 2 ls [])) (q : dK) (x1 : Int32) (x2 : Int32) (x3 : Int32) (H : Heap) (locs : List Loc) (ls : Array Slot) (h : zX8_anyBetween_s2_32 k2 q x1 x2 x3 = some (o1, o2)) (hP : va_P D vwCl (wF ty ad q) H) (hD : va_D A (wF ty ad q)) (hS : va_S A s.heap H locs) (hl : lv_has ls 4 [(0, .ref (ad 2)), (1, .int x1), (2, .int x2), (3, .int x3)]) : W p l e ({ frames := 0, cells := 0, slots := 0, locals := 0 } : Room) s m args below meth c H locs 0 0 (MQ below (va_Qi (fun (r : Int32) (u : va_W) => o1 = r ∧ wF ty ad o2 = u) (kz_B D ty A) A) args s 0 0 A) (F0 m 32 ls []) := by
  have C0 := C
  obtain ⟨hx, hb, hr, hts, hown, hlocks, hml, hK, hN, hE, hA⟩ := C
  unfold zX8_anyBetween_s2_32 at h
  refine lv_iinc (v := x3 + 1) (lv' := [(3, .int (x3 + 1)), (0, .ref (ad 2)), (1, .int x1), (2, .int x2)]) hx hb dX8_anyBetween_32 hl (k := 3) rfl rfl (by decide) rfl (fun ls hl => ?_)
  refine lv_goto (tgt := 2) hx hb dX8_anyBetween_35 (by decide) ?_
  exact hk2 _ _ _ _ _ _ _ h hP hD hS (lv_sub hl [1, 2, 3, 0] rfl)
set_option maxHeartbeats 4000000 in
set_option maxRecDepth 100000 in
theorem WX8_anyBetween_s2_2b {p : Program} {l : Launch} {e : Env} {s : State} {m : MethodId} {args : Array Value} {below : List Frame} {meth : Method} {c : Code} {D : va_G} {ty : Nat → ClassId} {eo : Nat → Nat} {A : Nat → Prop} {ad : Nat → Nat} {o1 : Int32} {o2 : dK} (C : dc_C p s m args meth c cX8_anyBetween (some .boolean) 4 RX8 wsX8_anyBetween D ty eo A) {k2 : dK → Int32 → Int32 → Int32 → Option (Int32 × dK)} (hk2 : ∀ (q : dK) (x1 : Int32) (x2 : Int32) (x3 : Int32) (H : Heap) (locs : List Loc) (ls : Array Slot), k2 q x1 x2 x3 = some (o1, o2) → va_P D vwCl (wF ty ad q) H → va_D A (wF ty ad q) → va_S A s.heap H locs → lv_has ls 4 [(0, .ref (ad 2)), (1, .int x1), (2, .int x2), (3, .int x3)] → W p l e ({ frames := 0, cells := 0, slots := 0, locals := 0 } : Room) s m args below meth c H locs 0 0 (MQ below (va_Qi (fun (r : Int32) (u : va_W) => o1 = r ∧ wF ty ad o2 = u) (kz_B D ty A) A) args s 0 0 A) (F0 m 2 ls [])) (q : dK) (x1 : Int32) (x2 : Int32) (x3 : Int32) (H : Heap) (locs : List Loc) (ls : Array Slot) (h : zX8_anyBetween_s2_2b k2 q x1 x2 x3 = some (o1, o2)) (hP : va_P D vwCl (wF ty ad q) H) (hD : va_D A (wF ty ad q)) (hS : va_S A s.heap H locs) (hl : lv_has ls 4 [(0, .ref (ad 2)), (1, .int x1), (2, .int x2), (3, .int x3)]) : W p l e ({ frames := 0, cells := 0, slots := 0, locals := 0 } : Room) s m args below meth c H locs 0 0 (MQ below (va_Qi (fun (r : Int32) (u : va_W) => o1 = r ∧ wF ty ad o2 = u) (kz_B D ty A) A) args s 0 0 A) (F0 m 2 ls []) := by
  have C0 := C
  obtain ⟨hx, hb, hr, hts, hown, hlocks, hml, hK, hN, hE, hA⟩ := C
  unfold zX8_anyBetween_s2_2b at h
  refine lv_iload_n hx hb dX8_anyBetween_2 rfl (lv_at hl 3 rfl) ?_
  refine lv_aload_n hx hb dX8_anyBetween_3 rfl (lv_at hl 0 rfl) ?_
  refine va_get (D := D) (ci := 8) (v := .int (q.1 2 2)) (C := RX8) (T := TX8) (N := 5) hx hb hts u9_wsX8_anyBetween_X8 hown hK hP 2 rfl rfl 2 (by decide) (hts (.fieldLink RX8 18 "TurnedFloors$Tower" "floors" "I") f9_wsX8_anyBetween_606) (fun _ h9 => h9) rfl dX8_anyBetween_4 ?_
  refine lv_icmp_ge (tgt := 38) hx hb dX8_anyBetween_7 (by decide) (fun c9 => ?_) (fun c9 => ?_)
  · rw [if_pos c9] at h
    refine lv_iconst (v := 0) hx hb dX8_anyBetween_38 (by decide) ?_
    cases h
    exact kz_zret hx hb hr hlocks rfl hP hK hD hS dX8_anyBetween_39 ⟨rfl, rfl⟩
  · rw [if_neg c9] at h
    refine lv_aload_n hx hb dX8_anyBetween_10 rfl (lv_at hl 0 rfl) ?_
    refine va_get (D := D) (ci := 8) (v := .ref (ad 3)) (C := RX8) (T := TX8) (N := 5) hx hb hts u9_wsX8_anyBetween_X8 hown hK hP 2 rfl rfl 0 (by decide) (hts (.fieldLink RX8 9 "TurnedFloors$Tower" "rank" "[I") f9_wsX8_anyBetween_607) (fun _ h9 => h9) rfl dX8_anyBetween_11 ?_
    refine lv_iload_n hx hb dX8_anyBetween_14 rfl (lv_at hl 3 rfl) ?_
    obtain ⟨g1, h⟩ := dG_some h
    refine va_iald hx hb hK hP 3 0 rfl rfl (dg_in g1) dX8_anyBetween_15 ?_
    obtain ⟨v2, ev2, h⟩ := dL_some h
    refine kz_topi v2 ev2 ?_
    refine lv_iload_n hx hb dX8_anyBetween_16 rfl (lv_at hl 1 rfl) ?_
    refine lv_icmp_le (tgt := 32) hx hb dX8_anyBetween_17 (by decide) (fun c9 => ?_) (fun c9 => ?_)
    · rw [if_pos c9] at h
      exact WX8_anyBetween_s2_32 C0 hk2 _ _ _ _ _ _ _ h hP hD hS (lv_sub hl [0, 1, 2, 3] rfl)
    · rw [if_neg c9] at h
      refine lv_aload_n hx hb dX8_anyBetween_20 rfl (lv_at hl 0 rfl) ?_
      refine va_get (D := D) (ci := 8) (v := .ref (ad 3)) (C := RX8) (T := TX8) (N := 5) hx hb hts u9_wsX8_anyBetween_X8 hown hK hP 2 rfl rfl 0 (by decide) (hts (.fieldLink RX8 9 "TurnedFloors$Tower" "rank" "[I") f9_wsX8_anyBetween_607) (fun _ h9 => h9) rfl dX8_anyBetween_21 ?_
      refine lv_iload_n hx hb dX8_anyBetween_24 rfl (lv_at hl 3 rfl) ?_
      obtain ⟨g3, h⟩ := dG_some h
      refine va_iald hx hb hK hP 3 0 rfl rfl (dg_in g3) dX8_anyBetween_25 ?_
      obtain ⟨v4, ev4, h⟩ := dL_some h
      refine kz_topi v4 ev4 ?_
      refine lv_iload_n hx hb dX8_anyBetween_26 rfl (lv_at hl 2 rfl) ?_
      refine lv_icmp_ge (tgt := 32) hx hb dX8_anyBetween_27 (by decide) (fun c9 => ?_) (fun c9 => ?_)
      · rw [if_pos c9] at h
        exact WX8_anyBetween_s2_32 C0 hk2 _ _ _ _ _ _ _ h hP hD hS (lv_sub hl [0, 1, 2, 3] rfl)
      · rw [if_neg c9] at h
        refine lv_iconst (v := 1) hx hb dX8_anyBetween_30 (by decide) ?_
        cases h
        exact kz_zret hx hb hr hlocks rfl hP hK hD hS dX8_anyBetween_31 ⟨rfl, rfl⟩
set_option maxHeartbeats 4000000 in
set_option maxRecDepth 100000 in
theorem WX8_anyBetween_s2_2 {p : Program} {l : Launch} {e : Env} {s : State} {m : MethodId} {args : Array Value} {below : List Frame} {meth : Method} {c : Code} {D : va_G} {ty : Nat → ClassId} {eo : Nat → Nat} {A : Nat → Prop} {ad : Nat → Nat} {o1 : Int32} {o2 : dK} (C : dc_C p s m args meth c cX8_anyBetween (some .boolean) 4 RX8 wsX8_anyBetween D ty eo A)   (n : Nat) (q : dK) (x1 : Int32) (x2 : Int32) (x3 : Int32) (H : Heap) (locs : List Loc) (ls : Array Slot) (h : zX8_anyBetween_s2_2  n q x1 x2 x3 = some (o1, o2)) (hP : va_P D vwCl (wF ty ad q) H) (hD : va_D A (wF ty ad q)) (hS : va_S A s.heap H locs) (hl : lv_has ls 4 [(0, .ref (ad 2)), (1, .int x1), (2, .int x2), (3, .int x3)]) : W p l e ({ frames := 0, cells := 0, slots := 0, locals := 0 } : Room) s m args below meth c H locs 0 0 (MQ below (va_Qi (fun (r : Int32) (u : va_W) => o1 = r ∧ wF ty ad o2 = u) (kz_B D ty A) A) args s 0 0 A) (F0 m 2 ls []) := by
  exact dFix_W (F := fun k (a : dK × Int32 × Int32 × Int32) => zX8_anyBetween_s2_2b  (fun q x1 x2 x3 => k (q, x1, x2, x3)) a.1 a.2.1 a.2.2.1 a.2.2.2) (o := (o1, o2)) (P := fun (a : dK × Int32 × Int32 × Int32) H locs ls => va_P D vwCl (wF ty ad a.1) H ∧ va_D A (wF ty ad a.1) ∧ va_S A s.heap H locs ∧ lv_has ls 4 [(0, .ref (ad 2)), (1, .int a.2.1), (2, .int a.2.2.1), (3, .int a.2.2.2)]) (G := fun H locs ls => W p l e ({ frames := 0, cells := 0, slots := 0, locals := 0 } : Room) s m args below meth c H locs 0 0 (MQ below (va_Qi (fun (r : Int32) (u : va_W) => o1 = r ∧ wF ty ad o2 = u) (kz_B D ty A) A) args s 0 0 A) (F0 m 2 ls []))
    (fun k hk a H locs ls h hp => WX8_anyBetween_s2_2b C  (fun q x1 x2 x3 H locs ls h h1 h2 h3 h4 => hk (q, x1, x2, x3) H locs ls h ⟨h1, h2, h3, h4⟩) a.1 a.2.1 a.2.2.1 a.2.2.2 H locs ls h hp.1 hp.2.1 hp.2.2.1 hp.2.2.2) n (q, x1, x2, x3) H locs ls h ⟨hP, hD, hS, hl⟩
set_option maxHeartbeats 4000000 in
set_option maxRecDepth 100000 in
theorem qX8_anyBetween_s2 (l : Launch) (D : va_G) (ty : Nat → ClassId) (eo : Nat → Nat) (sz : Nat) (ad : Nat → Nat) (q : dK) (p1 : Int32) (p2 : Int32) (o1 : Int32) (o2 : dK) (h : zX8_anyBetween_s2 q p1 p2 = some (o1, o2)) : Met l yX8_anyBetween wsX8_anyBetween ({ frames := 0, cells := 0, slots := 0, locals := 0 } : Room) (va_Pc [.ref (ad 2), .int p1, .int p2] (kz_pre D ty eo (wF ty ad q) sz)) (va_Qi (fun (r : Int32) (u : va_W) => o1 = r ∧ wF ty ad o2 = u) (kz_B D ty (va_A (wF ty ad q) sz)) (va_A (wF ty ad q) sz)) 0 0 (va_A (wF ty ad q) sz) := by
  refine Met.ofW (cc := cX8_anyBetween) (maxL := 4) (ret := (some .boolean)) (by decide) rfl ?_
  intro p e s m args below meth c s₁ B hml hv
  obtain ⟨rfl, hsz, hP, hK, hD0, hN, hE⟩ := hv
  have hx := B.exec
  have hb := B.bytes
  have hr := B.returns
  have hts := atoms_spec (ws := wsX8_anyBetween) B.pre
  have hown : s.vm.findClass RX8 = some m.cls := findClass_of_methodNamed B.named
  have hlocks := B.notSynchronized
  subst hsz
  have hD := hD0.self (sz := s.heap.size)
  generalize hAe : va_A (wF ty ad q) s.heap.size = A at hD hE ⊢
  have hA : ∀ q : Nat, s.heap.size ≤ q → A q := fun q h => by rw [← hAe]; exact Or.inr h
  clear hAe
  have hS : va_S A s.heap s.heap [] := va_S.rf
  have hl := lv_entry ([.ref (ad 2), .int p1, .int p2]) (n := 4) (Nat.le_of_ble_eq_true rfl)
  rw [lg_entry_eq]
  generalize (lg_sl ([.ref (ad 2), .int p1, .int p2]) ++ List.replicate (4 - (lg_sl ([.ref (ad 2), .int p1, .int p2])).length) Slot.unset).toArray = ls at hl ⊢
  have hl : lv_has ls 4 [(0, .ref (ad 2)), (1, .int p1), (2, .int p2)] := hl
  have C : dc_C p s m _ meth c cX8_anyBetween (some .boolean) 4 RX8 wsX8_anyBetween D ty eo A := ⟨hx, hb, hr, hts, hown, hlocks, hml, hK, hN, hE, hA⟩
  unfold zX8_anyBetween_s2 at h
  refine lv_iconst (v := 0) hx hb dX8_anyBetween_0 (by decide) ?_
  refine lv_istore_n (lv' := [(3, .int 0), (0, .ref (ad 2)), (1, .int p1), (2, .int p2)]) hx hb dX8_anyBetween_1 rfl hl (by decide) rfl (fun ls hl => ?_)
  exact WX8_anyBetween_s2_2 C  _ _ _ _ _ _ _ _ h hP hD hS (lv_sub hl [1, 2, 3, 0] rfl)

set_option maxHeartbeats 4000000 in
set_option maxRecDepth 100000 in
theorem WX8_gapCount_s2_97 {p : Program} {l : Launch} {e : Env} {s : State} {m : MethodId} {args : Array Value} {below : List Frame} {meth : Method} {c : Code} {D : va_G} {ty : Nat → ClassId} {eo : Nat → Nat} {A : Nat → Prop} {ad : Nat → Nat} {o1 : Int32} {o2 : dK} (C : dc_C p s m args meth c cX8_gapCount (some .int) 3 RX8 wsX8_gapCount D ty eo A)   (q : dK) (y0 : Int32) (H : Heap) (locs : List Loc) (ls : Array Slot) (h : zX8_gapCount_s2_97  q y0 = some (o1, o2)) (hP : va_P D vwCl (wF ty ad q) H) (hD : va_D A (wF ty ad q)) (hS : va_S A s.heap H locs) (hl : lv_has ls 3 []) : W p l e ({ frames := 1, cells := 0, slots := 0, locals := 23 } : Room) s m args below meth c H locs 0 0 (MQ below (va_Qi (fun (r : Int32) (u : va_W) => o1 = r ∧ wF ty ad o2 = u) (kz_B D ty A) A) args s 0 0 A) (F0 m 97 ls [.int y0]) := by
  have C0 := C
  obtain ⟨hx, hb, hr, hts, hown, hlocks, hml, hK, hN, hE, hA⟩ := C
  unfold zX8_gapCount_s2_97 at h
  cases h
  exact kz_iret hx hb hr hlocks hP hK hD hS dX8_gapCount_97 ⟨rfl, rfl⟩
set_option maxHeartbeats 4000000 in
set_option maxRecDepth 100000 in
theorem WX8_gapCount_s2_4b {p : Program} {l : Launch} {e : Env} {s : State} {m : MethodId} {args : Array Value} {below : List Frame} {meth : Method} {c : Code} {D : va_G} {ty : Nat → ClassId} {eo : Nat → Nat} {A : Nat → Prop} {ad : Nat → Nat} {o1 : Int32} {o2 : dK} (C : dc_C p s m args meth c cX8_gapCount (some .int) 3 RX8 wsX8_gapCount D ty eo A) {k4 : dK → Int32 → Int32 → Option (Int32 × dK)} (hk4 : ∀ (q : dK) (x1 : Int32) (x2 : Int32) (H : Heap) (locs : List Loc) (ls : Array Slot), k4 q x1 x2 = some (o1, o2) → va_P D vwCl (wF ty ad q) H → va_D A (wF ty ad q) → va_S A s.heap H locs → lv_has ls 3 [(0, .ref (ad 2)), (1, .int x1), (2, .int x2)] → W p l e ({ frames := 1, cells := 0, slots := 0, locals := 23 } : Room) s m args below meth c H locs 0 0 (MQ below (va_Qi (fun (r : Int32) (u : va_W) => o1 = r ∧ wF ty ad o2 = u) (kz_B D ty A) A) args s 0 0 A) (F0 m 4 ls [])) (q : dK) (x1 : Int32) (x2 : Int32) (H : Heap) (locs : List Loc) (ls : Array Slot) (h : zX8_gapCount_s2_4b k4 q x1 x2 = some (o1, o2)) (hP : va_P D vwCl (wF ty ad q) H) (hD : va_D A (wF ty ad q)) (hS : va_S A s.heap H locs) (hl : lv_has ls 3 [(0, .ref (ad 2)), (1, .int x1), (2, .int x2)]) : W p l e ({ frames := 1, cells := 0, slots := 0, locals := 23 } : Room) s m args below meth c H locs 0 0 (MQ below (va_Qi (fun (r : Int32) (u : va_W) => o1 = r ∧ wF ty ad o2 = u) (kz_B D ty A) A) args s 0 0 A) (F0 m 4 ls []) := by
  have C0 := C
  obtain ⟨hx, hb, hr, hts, hown, hlocks, hml, hK, hN, hE, hA⟩ := C
  unfold zX8_gapCount_s2_4b at h
  refine lv_iload_n hx hb dX8_gapCount_4 rfl (lv_at hl 2 rfl) ?_
  refine lv_iconst (v := 1) hx hb dX8_gapCount_5 (by decide) ?_
  refine lv_iadd hx hb dX8_gapCount_6 ?_
  refine lv_aload_n hx hb dX8_gapCount_7 rfl (lv_at hl 0 rfl) ?_
  refine va_get (D := D) (ci := 8) (v := .int (q.1 2 2)) (C := RX8) (T := TX8) (N := 5) hx hb hts u9_wsX8_gapCount_X8 hown hK hP 2 rfl rfl 2 (by decide) (hts (.fieldLink RX8 18 "TurnedFloors$Tower" "floors" "I") f9_wsX8_gapCount_609) (fun _ h9 => h9) rfl dX8_gapCount_8 ?_
  refine lv_icmp_ge (tgt := 64) hx hb dX8_gapCount_11 (by decide) (fun c9 => ?_) (fun c9 => ?_)
  · rw [if_pos c9] at h
    refine lv_aload_n hx hb dX8_gapCount_64 rfl (lv_at hl 0 rfl) ?_
    refine va_get (D := D) (ci := 8) (v := .int (q.1 2 2)) (C := RX8) (T := TX8) (N := 5) hx hb hts u9_wsX8_gapCount_X8 hown hK hP 2 rfl rfl 2 (by decide) (hts (.fieldLink RX8 18 "TurnedFloors$Tower" "floors" "I") f9_wsX8_gapCount_609) (fun _ h9 => h9) rfl dX8_gapCount_65 ?_
    refine lv_if_ne (tgt := 75) hx hb dX8_gapCount_68 (by decide) (fun c9 => ?_) (fun c9 => ?_)
    · rw [if_neg c9] at h
      refine lv_iload_n hx hb dX8_gapCount_75 rfl (lv_at hl 1 rfl) ?_
      refine lv_aload_n hx hb dX8_gapCount_76 rfl (lv_at hl 0 rfl) ?_
      refine lv_aload_n hx hb dX8_gapCount_77 rfl (lv_at hl 0 rfl) ?_
      refine va_get (D := D) (ci := 8) (v := .ref (ad 3)) (C := RX8) (T := TX8) (N := 5) hx hb hts u9_wsX8_gapCount_X8 hown hK hP 2 rfl rfl 0 (by decide) (hts (.fieldLink RX8 9 "TurnedFloors$Tower" "rank" "[I") f9_wsX8_gapCount_610) (fun _ h9 => h9) rfl dX8_gapCount_78 ?_
      refine lv_aload_n hx hb dX8_gapCount_81 rfl (lv_at hl 0 rfl) ?_
      refine va_get (D := D) (ci := 8) (v := .int (q.1 2 2)) (C := RX8) (T := TX8) (N := 5) hx hb hts u9_wsX8_gapCount_X8 hown hK hP 2 rfl rfl 2 (by decide) (hts (.fieldLink RX8 18 "TurnedFloors$Tower" "floors" "I") f9_wsX8_gapCount_609) (fun _ h9 => h9) rfl dX8_gapCount_82 ?_
      refine lv_iconst (v := 1) hx hb dX8_gapCount_85 (by decide) ?_
      refine lv_isub hx hb dX8_gapCount_86 ?_
      obtain ⟨g1, h⟩ := dG_some h
      refine va_iald hx hb hK hP 3 0 rfl rfl (dg_in g1) dX8_gapCount_87 ?_
      obtain ⟨v2, ev2, h⟩ := dL_some h
      refine kz_topi v2 ev2 ?_
      refine lv_bipush (v := 6) hx hb dX8_gapCount_88 (by decide) ?_
      obtain ⟨r3, q5, h4, h⟩ := dB_some h
      refine dw_ki (va_runV (As := [.int v2, .int 6]) (rest := [.int x1]) ⟨hx, hb, hml, hown, hts⟩ (qX8_anyBetween_s2 l D ty eo _ ad q v2 6 r3 q5 h4) (cwV 2 hts gX8_gapCount_X8_anyBetween rfl rfl rfl (by decide +kernel) ⟨Nat.le_of_ble_eq_true rfl, Nat.le_of_ble_eq_true rfl⟩) (dw_preV (ci := 8) (q0 := 2) hK hN hE hP hD hS hA rfl rfl) rfl rfl hl.1 rfl (lv_room (Nat.le_of_ble_eq_true rfl)) dX8_gapCount_90 ⟨Nat.le_of_ble_eq_true rfl, Nat.le_of_ble_eq_true rfl⟩) hD hS hA (fun r9 u9 H locs hw hp hd hs => ?_)
      clear hP hD hS
      obtain ⟨rfl, rfl⟩ := hw
      have hP := hp; have hD := hd; have hS := hs; clear hp hd hs
      obtain ⟨r6, h7, h⟩ := dV_some h
      refine dw_ks (va_runSN (As := [.int r3]) (rest := [.int x1]) ⟨hx, hb, hml, hown, hts⟩ (qX9_bit l D ty eo _ r3 _ h7) ⟨va_cnB 1 hts gX8_gapCount_X9_bit_n79 rfl rfl rfl (hN.1 _ (by decide +kernel : (.methodLinkNest "TurnedFloors$Tower" 79 yX9_bit "TurnedFloors" : Cond) ∈ kzN1)) (hts (.initialized RX9) f9_wsX8_gapCount_611) (by decide +kernel) ⟨Nat.le_of_ble_eq_true rfl, Nat.le_of_ble_eq_true rfl⟩, hts (.static yX9_bit) (by decide +kernel), trivial⟩ (kz_preS hK hN hE hP hD hS hA [] (by decide) rfl) rfl rfl hl.1 rfl (lv_room (Nat.le_of_ble_eq_true rfl)) dX8_gapCount_93 ⟨Nat.le_of_ble_eq_true rfl, Nat.le_of_ble_eq_true rfl⟩) hP hD hS hA (fun _ _ h9 => h9.2.symm) (fun r9 u9 H locs hw hp hd hs => ?_)
      obtain ⟨rfl, -⟩ := hw
      clear hP hD hS
      have hP := hp; have hD := hd; have hS := hs; clear hp hd hs
      refine lv_iadd hx hb dX8_gapCount_96 ?_
      exact WX8_gapCount_s2_97 C0  _ _ _ _ _ h hP hD hS (lv_sub hl [] rfl)
    · rw [if_pos c9] at h
      refine lv_iconst (v := 0) hx hb dX8_gapCount_71 (by decide) ?_
      refine lv_goto (tgt := 97) hx hb dX8_gapCount_72 (by decide) ?_
      exact WX8_gapCount_s2_97 C0  _ _ _ _ _ h hP hD hS (lv_sub hl [] rfl)
  · rw [if_neg c9] at h
    refine lv_iload_n hx hb dX8_gapCount_14 rfl (lv_at hl 1 rfl) ?_
    refine lv_aload_n hx hb dX8_gapCount_15 rfl (lv_at hl 0 rfl) ?_
    refine lv_aload_n hx hb dX8_gapCount_16 rfl (lv_at hl 0 rfl) ?_
    refine va_get (D := D) (ci := 8) (v := .ref (ad 3)) (C := RX8) (T := TX8) (N := 5) hx hb hts u9_wsX8_gapCount_X8 hown hK hP 2 rfl rfl 0 (by decide) (hts (.fieldLink RX8 9 "TurnedFloors$Tower" "rank" "[I") f9_wsX8_gapCount_610) (fun _ h9 => h9) rfl dX8_gapCount_17 ?_
    refine lv_iload_n hx hb dX8_gapCount_20 rfl (lv_at hl 2 rfl) ?_
    obtain ⟨g8, h⟩ := dG_some h
    refine va_iald hx hb hK hP 3 0 rfl rfl (dg_in g8) dX8_gapCount_21 ?_
    obtain ⟨v9, ev9, h⟩ := dL_some h
    refine kz_topi v9 ev9 ?_
    refine lv_aload_n hx hb dX8_gapCount_22 rfl (lv_at hl 0 rfl) ?_
    refine va_get (D := D) (ci := 8) (v := .ref (ad 3)) (C := RX8) (T := TX8) (N := 5) hx hb hts u9_wsX8_gapCount_X8 hown hK hP 2 rfl rfl 0 (by decide) (hts (.fieldLink RX8 9 "TurnedFloors$Tower" "rank" "[I") f9_wsX8_gapCount_610) (fun _ h9 => h9) rfl dX8_gapCount_23 ?_
    refine lv_iload_n hx hb dX8_gapCount_26 rfl (lv_at hl 2 rfl) ?_
    refine lv_iconst (v := 1) hx hb dX8_gapCount_27 (by decide) ?_
    refine lv_iadd hx hb dX8_gapCount_28 ?_
    obtain ⟨g10, h⟩ := dG_some h
    refine va_iald hx hb hK hP 3 0 rfl rfl (dg_in g10) dX8_gapCount_29 ?_
    obtain ⟨v11, ev11, h⟩ := dL_some h
    refine kz_topi v11 ev11 ?_
    refine va_mmin hx hb (hml.trans hl.1.symm) hown (hts (.methodLink RX8 41 Lib.Math.min.name) f9_wsX8_gapCount_612) (hts (.static Lib.Math.min.name) f9_wsX8_gapCount_613) (hts (.initialized "java/lang/Math") f9_wsX8_gapCount_614) (hts (.code Lib.Math.min.name Lib.Math.min.code 2 (some .int)) f9_wsX8_gapCount_615) (Nat.le_of_ble_eq_true rfl) (Nat.le_of_ble_eq_true rfl) (Nat.le_of_ble_eq_true rfl) (Nat.le_of_ble_eq_true rfl) dX8_gapCount_30 ?_
    refine kz_topi (mnI v9 v11) rfl ?_
    refine lv_aload_n hx hb dX8_gapCount_33 rfl (lv_at hl 0 rfl) ?_
    refine va_get (D := D) (ci := 8) (v := .ref (ad 3)) (C := RX8) (T := TX8) (N := 5) hx hb hts u9_wsX8_gapCount_X8 hown hK hP 2 rfl rfl 0 (by decide) (hts (.fieldLink RX8 9 "TurnedFloors$Tower" "rank" "[I") f9_wsX8_gapCount_610) (fun _ h9 => h9) rfl dX8_gapCount_34 ?_
    refine lv_iload_n hx hb dX8_gapCount_37 rfl (lv_at hl 2 rfl) ?_
    obtain ⟨g12, h⟩ := dG_some h
    refine va_iald hx hb hK hP 3 0 rfl rfl (dg_in g12) dX8_gapCount_38 ?_
    obtain ⟨v13, ev13, h⟩ := dL_some h
    refine kz_topi v13 ev13 ?_
    refine lv_aload_n hx hb dX8_gapCount_39 rfl (lv_at hl 0 rfl) ?_
    refine va_get (D := D) (ci := 8) (v := .ref (ad 3)) (C := RX8) (T := TX8) (N := 5) hx hb hts u9_wsX8_gapCount_X8 hown hK hP 2 rfl rfl 0 (by decide) (hts (.fieldLink RX8 9 "TurnedFloors$Tower" "rank" "[I") f9_wsX8_gapCount_610) (fun _ h9 => h9) rfl dX8_gapCount_40 ?_
    refine lv_iload_n hx hb dX8_gapCount_43 rfl (lv_at hl 2 rfl) ?_
    refine lv_iconst (v := 1) hx hb dX8_gapCount_44 (by decide) ?_
    refine lv_iadd hx hb dX8_gapCount_45 ?_
    obtain ⟨g14, h⟩ := dG_some h
    refine va_iald hx hb hK hP 3 0 rfl rfl (dg_in g14) dX8_gapCount_46 ?_
    obtain ⟨v15, ev15, h⟩ := dL_some h
    refine kz_topi v15 ev15 ?_
    refine va_mmax hx hb (hml.trans hl.1.symm) hown (hts (.methodLink RX8 88 Lib.Math.max.name) f9_wsX8_gapCount_616) (hts (.static Lib.Math.max.name) f9_wsX8_gapCount_617) (hts (.initialized "java/lang/Math") f9_wsX8_gapCount_614) (hts (.code Lib.Math.max.name Lib.Math.max.code 2 (some .int)) f9_wsX8_gapCount_618) (Nat.le_of_ble_eq_true rfl) (Nat.le_of_ble_eq_true rfl) (Nat.le_of_ble_eq_true rfl) (Nat.le_of_ble_eq_true rfl) dX8_gapCount_47 ?_
    refine kz_topi (mxI v13 v15) rfl ?_
    obtain ⟨r16, q18, h17, h⟩ := dB_some h
    refine dw_ki (va_runV (As := [.int (mnI v9 v11), .int (mxI v13 v15)]) (rest := [.int x1]) ⟨hx, hb, hml, hown, hts⟩ (qX8_anyBetween_s2 l D ty eo _ ad q (mnI v9 v11) (mxI v13 v15) r16 q18 h17) (cwV 2 hts gX8_gapCount_X8_anyBetween rfl rfl rfl (by decide +kernel) ⟨Nat.le_of_ble_eq_true rfl, Nat.le_of_ble_eq_true rfl⟩) (dw_preV (ci := 8) (q0 := 2) hK hN hE hP hD hS hA rfl rfl) rfl rfl hl.1 rfl (lv_room (Nat.le_of_ble_eq_true rfl)) dX8_gapCount_50 ⟨Nat.le_of_ble_eq_true rfl, Nat.le_of_ble_eq_true rfl⟩) hD hS hA (fun r9 u9 H locs hw hp hd hs => ?_)
    clear hP hD hS
    obtain ⟨rfl, rfl⟩ := hw
    have hP := hp; have hD := hd; have hS := hs; clear hp hd hs
    obtain ⟨r19, h20, h⟩ := dV_some h
    refine dw_ks (va_runSN (As := [.int r16]) (rest := [.int x1]) ⟨hx, hb, hml, hown, hts⟩ (qX9_bit l D ty eo _ r16 _ h20) ⟨va_cnB 1 hts gX8_gapCount_X9_bit_n79 rfl rfl rfl (hN.1 _ (by decide +kernel : (.methodLinkNest "TurnedFloors$Tower" 79 yX9_bit "TurnedFloors" : Cond) ∈ kzN1)) (hts (.initialized RX9) f9_wsX8_gapCount_611) (by decide +kernel) ⟨Nat.le_of_ble_eq_true rfl, Nat.le_of_ble_eq_true rfl⟩, hts (.static yX9_bit) (by decide +kernel), trivial⟩ (kz_preS hK hN hE hP hD hS hA [] (by decide) rfl) rfl rfl hl.1 rfl (lv_room (Nat.le_of_ble_eq_true rfl)) dX8_gapCount_53 ⟨Nat.le_of_ble_eq_true rfl, Nat.le_of_ble_eq_true rfl⟩) hP hD hS hA (fun _ _ h9 => h9.2.symm) (fun r9 u9 H locs hw hp hd hs => ?_)
    obtain ⟨rfl, -⟩ := hw
    clear hP hD hS
    have hP := hp; have hD := hd; have hS := hs; clear hp hd hs
    refine lv_iadd hx hb dX8_gapCount_56 ?_
    refine lv_istore_n (lv' := [(1, .int (x1 + r19)), (0, .ref (ad 2)), (2, .int x2)]) hx hb dX8_gapCount_57 rfl hl (by decide) rfl (fun ls hl => ?_)
    refine lv_iinc (v := x2 + 1) (lv' := [(2, .int (x2 + 1)), (1, .int (x1 + r19)), (0, .ref (ad 2))]) hx hb dX8_gapCount_58 hl (k := 2) rfl rfl (by decide) rfl (fun ls hl => ?_)
    refine lv_goto (tgt := 4) hx hb dX8_gapCount_61 (by decide) ?_
    exact hk4 _ _ _ _ _ _ h hP hD hS (lv_sub hl [2, 1, 0] rfl)
set_option maxHeartbeats 4000000 in
set_option maxRecDepth 100000 in
theorem WX8_gapCount_s2_4 {p : Program} {l : Launch} {e : Env} {s : State} {m : MethodId} {args : Array Value} {below : List Frame} {meth : Method} {c : Code} {D : va_G} {ty : Nat → ClassId} {eo : Nat → Nat} {A : Nat → Prop} {ad : Nat → Nat} {o1 : Int32} {o2 : dK} (C : dc_C p s m args meth c cX8_gapCount (some .int) 3 RX8 wsX8_gapCount D ty eo A)   (n : Nat) (q : dK) (x1 : Int32) (x2 : Int32) (H : Heap) (locs : List Loc) (ls : Array Slot) (h : zX8_gapCount_s2_4  n q x1 x2 = some (o1, o2)) (hP : va_P D vwCl (wF ty ad q) H) (hD : va_D A (wF ty ad q)) (hS : va_S A s.heap H locs) (hl : lv_has ls 3 [(0, .ref (ad 2)), (1, .int x1), (2, .int x2)]) : W p l e ({ frames := 1, cells := 0, slots := 0, locals := 23 } : Room) s m args below meth c H locs 0 0 (MQ below (va_Qi (fun (r : Int32) (u : va_W) => o1 = r ∧ wF ty ad o2 = u) (kz_B D ty A) A) args s 0 0 A) (F0 m 4 ls []) := by
  exact dFix_W (F := fun k (a : dK × Int32 × Int32) => zX8_gapCount_s2_4b  (fun q x1 x2 => k (q, x1, x2)) a.1 a.2.1 a.2.2) (o := (o1, o2)) (P := fun (a : dK × Int32 × Int32) H locs ls => va_P D vwCl (wF ty ad a.1) H ∧ va_D A (wF ty ad a.1) ∧ va_S A s.heap H locs ∧ lv_has ls 3 [(0, .ref (ad 2)), (1, .int a.2.1), (2, .int a.2.2)]) (G := fun H locs ls => W p l e ({ frames := 1, cells := 0, slots := 0, locals := 23 } : Room) s m args below meth c H locs 0 0 (MQ below (va_Qi (fun (r : Int32) (u : va_W) => o1 = r ∧ wF ty ad o2 = u) (kz_B D ty A) A) args s 0 0 A) (F0 m 4 ls []))
    (fun k hk a H locs ls h hp => WX8_gapCount_s2_4b C  (fun q x1 x2 H locs ls h h1 h2 h3 h4 => hk (q, x1, x2) H locs ls h ⟨h1, h2, h3, h4⟩) a.1 a.2.1 a.2.2 H locs ls h hp.1 hp.2.1 hp.2.2.1 hp.2.2.2) n (q, x1, x2) H locs ls h ⟨hP, hD, hS, hl⟩
set_option maxHeartbeats 4000000 in
set_option maxRecDepth 100000 in
theorem qX8_gapCount_s2 (l : Launch) (D : va_G) (ty : Nat → ClassId) (eo : Nat → Nat) (sz : Nat) (ad : Nat → Nat) (q : dK)  (o1 : Int32) (o2 : dK) (h : zX8_gapCount_s2 q = some (o1, o2)) : Met l yX8_gapCount wsX8_gapCount ({ frames := 1, cells := 0, slots := 0, locals := 23 } : Room) (va_Pc [.ref (ad 2)] (kz_pre D ty eo (wF ty ad q) sz)) (va_Qi (fun (r : Int32) (u : va_W) => o1 = r ∧ wF ty ad o2 = u) (kz_B D ty (va_A (wF ty ad q) sz)) (va_A (wF ty ad q) sz)) 0 0 (va_A (wF ty ad q) sz) := by
  refine Met.ofW (cc := cX8_gapCount) (maxL := 3) (ret := (some .int)) (by decide) rfl ?_
  intro p e s m args below meth c s₁ B hml hv
  obtain ⟨rfl, hsz, hP, hK, hD0, hN, hE⟩ := hv
  have hx := B.exec
  have hb := B.bytes
  have hr := B.returns
  have hts := atoms_spec (ws := wsX8_gapCount) B.pre
  have hown : s.vm.findClass RX8 = some m.cls := findClass_of_methodNamed B.named
  have hlocks := B.notSynchronized
  subst hsz
  have hD := hD0.self (sz := s.heap.size)
  generalize hAe : va_A (wF ty ad q) s.heap.size = A at hD hE ⊢
  have hA : ∀ q : Nat, s.heap.size ≤ q → A q := fun q h => by rw [← hAe]; exact Or.inr h
  clear hAe
  have hS : va_S A s.heap s.heap [] := va_S.rf
  have hl := lv_entry ([.ref (ad 2)]) (n := 3) (Nat.le_of_ble_eq_true rfl)
  rw [lg_entry_eq]
  generalize (lg_sl ([.ref (ad 2)]) ++ List.replicate (3 - (lg_sl ([.ref (ad 2)])).length) Slot.unset).toArray = ls at hl ⊢
  have hl : lv_has ls 3 [(0, .ref (ad 2))] := hl
  have C : dc_C p s m _ meth c cX8_gapCount (some .int) 3 RX8 wsX8_gapCount D ty eo A := ⟨hx, hb, hr, hts, hown, hlocks, hml, hK, hN, hE, hA⟩
  unfold zX8_gapCount_s2 at h
  refine lv_iconst (v := 0) hx hb dX8_gapCount_0 (by decide) ?_
  refine lv_istore_n (lv' := [(1, .int 0), (0, .ref (ad 2))]) hx hb dX8_gapCount_1 rfl hl (by decide) rfl (fun ls hl => ?_)
  refine lv_iconst (v := 0) hx hb dX8_gapCount_2 (by decide) ?_
  refine lv_istore_n (lv' := [(2, .int 0), (1, .int 0), (0, .ref (ad 2))]) hx hb dX8_gapCount_3 rfl hl (by decide) rfl (fun ls hl => ?_)
  exact WX8_gapCount_s2_4 C  _ _ _ _ _ _ _ h hP hD hS (lv_sub hl [2, 1, 0] rfl)
