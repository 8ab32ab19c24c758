section
theorem u9_wsX7_copyOfIt_X7 : ∀ w ∈ u_ws RX7 TX7 8, w ∈ wsX7_copyOfIt := fun w h => List.mem_cons_of_mem _ (vW9_wsX70 w h)
theorem f9_wsX7_copyOfIt_573 : (Cond.classLink RX7 8 RX7) ∈ wsX7_copyOfIt := List.mem_cons_of_mem _ mvW9_339
theorem f9_wsX7_copyOfIt_574 : (Cond.instantiable RX7 8) ∈ wsX7_copyOfIt := List.mem_cons_of_mem _ mvW9_340
theorem f9_wsX7_copyOfIt_575 : (Cond.initialized RX7) ∈ wsX7_copyOfIt := List.mem_cons_of_mem _ mvW9_175
theorem f9_wsX7_copyOfIt_576 : (Cond.fieldLink RX7 7 "TurnedFloors$Text" "clauses" "I") ∈ wsX7_copyOfIt := List.mem_cons_of_mem _ mvW9_177
theorem f9_wsX7_copyOfIt_577 : (Cond.fieldLink RX7 13 "TurnedFloors$Text" "length" "I") ∈ wsX7_copyOfIt := List.mem_cons_of_mem _ mvW9_178
theorem f9_wsX7_copyOfIt_578 : (Cond.methodLink RX7 35 yX7_init) ∈ wsX7_copyOfIt := List.mem_cons_of_mem _ mvW9_345
theorem f9_wsX7_copyOfIt_579 : (Cond.instanceMethod yX7_init) ∈ wsX7_copyOfIt := List.mem_cons_of_mem _ mvW9_346
theorem u9_wsX9_law_X9 : ∀ w ∈ u_ws RX9 TX9 19, w ∈ wsX9_law := fun w h => List.mem_cons_of_mem _ (vW9_wsX90 w h)
theorem u9_wsX9_law_X6 : ∀ w ∈ u_ws RX6 TX6 10, w ∈ wsX9_law := fun w h => List.mem_cons_of_mem _ (vW9_wsX60 w h)
theorem f9_wsX9_law_582 : (Cond.fieldLink RX9 88 "TurnedFloors" "tapeLength" "I") ∈ wsX9_law := List.mem_cons_of_mem _ mvW9_143
theorem f9_wsX9_law_583 : (Cond.fieldLink RX9 10 "TurnedFloors" "state" "LTurnedFloors$State;") ∈ wsX9_law := List.mem_cons_of_mem _ mvW9_0
theorem f9_wsX9_law_584 : (Cond.fieldLink RX9 64 "TurnedFloors" "reader" "LTurnedFloors$Reader;") ∈ wsX9_law := List.mem_cons_of_mem _ mvW9_154
theorem f9_wsX9_law_585 : (Cond.fieldLink RX9 84 "TurnedFloors" "tape" "[I") ∈ wsX9_law := List.mem_cons_of_mem _ mvW9_148
theorem f9_wsX9_law_586 : (Cond.fieldLink RX9 73 "TurnedFloors" "draft" "LTurnedFloors$Text;") ∈ wsX9_law := List.mem_cons_of_mem _ mvW9_155
theorem f9_wsX9_law_587 : (Cond.fieldLink RX9 92 "TurnedFloors" "faultPlace" "I") ∈ wsX9_law := List.mem_cons_of_mem _ mvW9_156
theorem u9_wsX8_pack_X8 : ∀ w ∈ u_ws RX8 TX8 5, w ∈ wsX8_pack := fun w h => List.mem_cons_of_mem _ (vW9_wsX80 w h)
theorem f9_wsX8_pack_589 : (Cond.fieldLink RX8 22 "TurnedFloors$Tower" "paid" "I") ∈ wsX8_pack := List.mem_cons_of_mem _ mvW9_367
theorem f9_wsX8_pack_590 : (Cond.fieldLink RX8 25 "TurnedFloors$Tower" "year" "I") ∈ wsX8_pack := List.mem_cons_of_mem _ mvW9_368
theorem f9_wsX8_pack_591 : (Cond.fieldLink RX8 9 "TurnedFloors$Tower" "rank" "[I") ∈ wsX8_pack := List.mem_cons_of_mem _ mvW9_21
theorem f9_wsX8_pack_592 : (Cond.fieldLink RX8 15 "TurnedFloors$Tower" "head" "[I") ∈ wsX8_pack := List.mem_cons_of_mem _ mvW9_26
theorem f9_wsX8_pack_593 : (Cond.fieldLink RX8 18 "TurnedFloors$Tower" "floors" "I") ∈ wsX8_pack := List.mem_cons_of_mem _ mvW9_20
theorem u9_wsX0_mark_X0 : ∀ w ∈ u_ws RX0 TX0 6, w ∈ wsX0_mark := fun w h => List.mem_cons_of_mem _ (vW9_wsX00 w h)
theorem f9_wsX0_mark_595 : (Cond.fieldLink RX0 9 "TurnedFloors$History" "towers" "[J") ∈ wsX0_mark := List.mem_cons_of_mem _ mvW9_373
theorem f9_wsX0_mark_596 : (Cond.fieldLink RX0 23 "TurnedFloors$History" "markedTowers" "[J") ∈ wsX0_mark := List.mem_cons_of_mem _ mvW9_374
theorem f9_wsX0_mark_597 : (Cond.methodLink RX0 32 arraycopyName) ∈ wsX0_mark := List.mem_cons_of_mem _ mvW9_375
theorem f9_wsX0_mark_598 : (Cond.native arraycopyName) ∈ wsX0_mark := List.mem_cons_of_mem _ mvW9_342
theorem f9_wsX0_mark_599 : (Cond.static arraycopyName) ∈ wsX0_mark := List.mem_cons_of_mem _ mvW9_343
theorem f9_wsX0_mark_600 : (Cond.initialized "java/lang/System") ∈ wsX0_mark := List.mem_cons_of_mem _ mvW9_344
theorem f9_wsX0_mark_601 : (Cond.fieldLink RX0 15 "TurnedFloors$History" "kinds" "[I") ∈ wsX0_mark := List.mem_cons_of_mem _ mvW9_376
theorem f9_wsX0_mark_602 : (Cond.fieldLink RX0 26 "TurnedFloors$History" "markedKinds" "[I") ∈ wsX0_mark := List.mem_cons_of_mem _ mvW9_377
theorem f9_wsX0_mark_603 : (Cond.fieldLink RX0 19 "TurnedFloors$History" "kept" "I") ∈ wsX0_mark := List.mem_cons_of_mem _ mvW9_32
theorem f9_wsX0_mark_604 : (Cond.fieldLink RX0 29 "TurnedFloors$History" "markedKept" "I") ∈ wsX0_mark := List.mem_cons_of_mem _ mvW9_378
theorem u9_wsX8_anyBetween_X8 : ∀ w ∈ u_ws RX8 TX8 5, w ∈ wsX8_anyBetween := fun w h => List.mem_cons_of_mem _ (vW9_wsX80 w h)
theorem f9_wsX8_anyBetween_606 : (Cond.fieldLink RX8 18 "TurnedFloors$Tower" "floors" "I") ∈ wsX8_anyBetween := List.mem_cons_of_mem _ mvW9_20
theorem f9_wsX8_anyBetween_607 : (Cond.fieldLink RX8 9 "TurnedFloors$Tower" "rank" "[I") ∈ wsX8_anyBetween := List.mem_cons_of_mem _ mvW9_21
theorem u9_wsX8_gapCount_X8 : ∀ w ∈ u_ws RX8 TX8 5, w ∈ wsX8_gapCount := fun w h => List.mem_cons_of_mem _ (vW9_wsX80 w h)
theorem f9_wsX8_gapCount_609 : (Cond.fieldLink RX8 18 "TurnedFloors$Tower" "floors" "I") ∈ wsX8_gapCount := List.mem_cons_of_mem _ mvW9_20
theorem f9_wsX8_gapCount_610 : (Cond.fieldLink RX8 9 "TurnedFloors$Tower" "rank" "[I") ∈ wsX8_gapCount := List.mem_cons_of_mem _ mvW9_21
theorem f9_wsX8_gapCount_611 : (Cond.initialized RX9) ∈ wsX8_gapCount := List.mem_cons_of_mem _ mvW9_4
theorem f9_wsX8_gapCount_612 : (Cond.methodLink RX8 41 Lib.Math.min.name) ∈ wsX8_gapCount := List.mem_cons_of_mem _ mvW9_387
theorem f9_wsX8_gapCount_613 : (Cond.static Lib.Math.min.name) ∈ wsX8_gapCount := List.mem_cons_of_mem _ mvW9_86
theorem f9_wsX8_gapCount_614 : (Cond.initialized "java/lang/Math") ∈ wsX8_gapCount := List.mem_cons_of_mem _ mvW9_87
theorem f9_wsX8_gapCount_615 : (Cond.code Lib.Math.min.name Lib.Math.min.code 2 (some .int)) ∈ wsX8_gapCount := List.mem_cons_of_mem _ mvW9_88
theorem f9_wsX8_gapCount_616 : (Cond.methodLink RX8 88 Lib.Math.max.name) ∈ wsX8_gapCount := List.mem_cons_of_mem _ mvW9_388
theorem f9_wsX8_gapCount_617 : (Cond.static Lib.Math.max.name) ∈ wsX8_gapCount := List.mem_cons_of_mem _ mvW9_122
theorem f9_wsX8_gapCount_618 : (Cond.code Lib.Math.max.name Lib.Math.max.code 2 (some .int)) ∈ wsX8_gapCount := List.mem_cons_of_mem _ mvW9_123
set_option maxHeartbeats 4000000 in
set_option maxRecDepth 100000 in
theorem WX7_copyOfIt_s25_34b {p : Program} {l : Launch} {e : Env} {s : State} {m : MethodId} {args : Array Value} {below : List Frame} {meth : Method} {c : Code} {D : va_G} {ty : Nat → ClassId} {eo : Nat → Nat} {A : Nat → Prop} {ad : Nat → Nat} {o1 : Int32} {o2 : dK} {ns : Nat} {ad0 : Nat → Nat} {n0 : Nat} (hal : dAl n0 ad0 ad) (C : dc_C p s m args meth c cX7_copyOfIt (some (.object "TurnedFloors$Text")) 3 RX7 wsX7_copyOfIt D ty eo A) {k34 : dK → Int32 → Int32 → Option (Int32 × dK)} (hk34 : ∀ (q : dK) (x1 : Int32) (x2 : Int32) (H : Heap) (locs : List Loc) (ls : Array Slot), k34 q x1 x2 = some (o1, o2) → va_P D vwCl (wF ty ad q) H → va_D A (wF ty ad q) → va_S A s.heap H locs → lv_has ls 3 [(0, .ref (ad 25)), (1, .ref (ad (63 + 7 * dLi x1))), (2, .int x2)] → W p l e ({ frames := 2, cells := 7, slots := ns, locals := 42 } : Room) s m args below meth c H locs 7 ns (MQ below (kz_Q (fun (r : Value) (u : va_W) => ∃ ad9 : Nat → Nat, dAl n0 ad0 ad9 ∧ Value.ref (ad9 (63 + 7 * dLi o1)) = r ∧ wF ty ad9 o2 = u) (kz_B D ty A) A) args s 7 ns A) (F0 m 34 ls [])) (q : dK) (x1 : Int32) (x2 : Int32) (H : Heap) (locs : List Loc) (ls : Array Slot) (h : zX7_copyOfIt_s25_34b ns k34 q x1 x2 = some (o1, o2)) (hP : va_P D vwCl (wF ty ad q) H) (hD : va_D A (wF ty ad q)) (hS : va_S A s.heap H locs) (hl : lv_has ls 3 [(0, .ref (ad 25)), (1, .ref (ad (63 + 7 * dLi x1))), (2, .int x2)]) : W p l e ({ frames := 2, cells := 7, slots := ns, locals := 42 } : Room) s m args below meth c H locs 7 ns (MQ below (kz_Q (fun (r : Value) (u : va_W) => ∃ ad9 : Nat → Nat, dAl n0 ad0 ad9 ∧ Value.ref (ad9 (63 + 7 * dLi o1)) = r ∧ wF ty ad9 o2 = u) (kz_B D ty A) A) args s 7 ns A) (F0 m 34 ls []) := by
  have C0 := C
  obtain ⟨hx, hb, hr, hts, hown, hlocks, hml, hK, hN, hE, hA⟩ := C
  unfold zX7_copyOfIt_s25_34b at h
  refine lv_iload_n hx hb dX7_copyOfIt_34 rfl (lv_at hl 2 rfl) ?_
  refine lv_aload_n hx hb dX7_copyOfIt_35 rfl (lv_at hl 0 rfl) ?_
  refine va_get (D := D) (ci := 7) (v := .int (q.1 25 6)) (C := RX7) (T := TX7) (N := 8) hx hb hts (by decide +kernel) hown hK hP 25 rfl rfl 6 (by decide) (hts (.fieldLink RX7 7 "TurnedFloors$Text" "clauses" "I") (by decide +kernel)) (fun _ h9 => h9) rfl dX7_copyOfIt_36 ?_
  refine lv_icmp_ge (tgt := 108) hx hb dX7_copyOfIt_39 (by decide) (fun c9 => ?_) (fun c9 => ?_)
  · rw [if_pos c9] at h
    refine lv_aload_n hx hb dX7_copyOfIt_108 rfl (lv_at hl 0 rfl) ?_
    refine va_get (D := D) (ci := 7) (v := .ref (ad 31)) (C := RX7) (T := TX7) (N := 8) hx hb hts (by decide +kernel) hown hK hP 25 rfl rfl 5 (by decide) (hts (.fieldLink RX7 32 "TurnedFloors$Text" "code" "[I") (by decide +kernel)) (fun _ h9 => h9) rfl dX7_copyOfIt_109 ?_
    refine lv_iconst (v := 0) hx hb dX7_copyOfIt_112 (by decide) ?_
    refine lv_aload_n hx hb dX7_copyOfIt_113 rfl (lv_at hl 1 rfl) ?_
    obtain ⟨g1, h⟩ := dG_some h
    refine va_get (D := D) (ci := 7) (v := .ref (ad (63 + 7 * dLi x1 + 6))) (C := RX7) (T := TX7) (N := 8) hx hb hts (by decide +kernel) hown hK hP _ (lw_o g1) rfl 5 (by decide) (hts (.fieldLink RX7 32 "TurnedFloors$Text" "code" "[I") (by decide +kernel)) (fun _ h9 => h9) rfl dX7_copyOfIt_114 ?_
    refine lv_iconst (v := 0) hx hb dX7_copyOfIt_117 (by decide) ?_
    refine lv_aload_n hx hb dX7_copyOfIt_118 rfl (lv_at hl 0 rfl) ?_
    refine va_get (D := D) (ci := 7) (v := .int (q.1 25 7)) (C := RX7) (T := TX7) (N := 8) hx hb hts (by decide +kernel) hown hK hP 25 rfl rfl 7 (by decide) (hts (.fieldLink RX7 13 "TurnedFloors$Text" "length" "I") (by decide +kernel)) (fun _ h9 => h9) rfl dX7_copyOfIt_119 ?_
    obtain ⟨g2, h⟩ := dG_some h
    obtain ⟨g3, h⟩ := dG_some h
    refine va_copyi hx hb (hml.trans hl.1.symm) hown (hts (.methodLink RX7 38 arraycopyName) (by decide +kernel)) (hts (.native arraycopyName) (by decide +kernel)) (hts (.static arraycopyName) (by decide +kernel)) (hts (.initialized "java/lang/System") (by decide +kernel)) hK hP hD hS 31 _ 0 0 rfl (lw_a6 g2) rfl rfl rfl (by decide) (by decide) (of_decide_eq_true g3).1 (of_decide_eq_true g3).2.1 (of_decide_eq_true g3).2.2 (fun _ _ => rfl) (Nat.le_of_ble_eq_true rfl) (Nat.le_of_ble_eq_true rfl) dX7_copyOfIt_122 (fun H locs hp hd hs => ?_)
    obtain ⟨q4, eq4, h⟩ := dL_some h
    refine kz_re (w2 := wF ty ad q4) hp hd hs (by rw [← eq4]; exact lw_set g2 6 (by decide) _ _ rfl) ?_
    clear hp hd hs hP hD hS
    intro hP hD hS
    refine lv_aload_n hx hb dX7_copyOfIt_125 rfl (lv_at hl 1 rfl) ?_
    cases h
    exact kz_aret hx hb hr (Or.inl ⟨_, rfl⟩) (Or.inr ⟨_, rfl⟩) hlocks hP hK hD hS dX7_copyOfIt_126 ⟨ad, hal, rfl, rfl⟩
  · rw [if_neg c9] at h
    refine lv_aload_n hx hb dX7_copyOfIt_42 rfl (lv_at hl 1 rfl) ?_
    obtain ⟨g5, h⟩ := dG_some h
    refine va_get (D := D) (ci := 7) (v := .ref (ad (63 + 7 * dLi x1 + 1))) (C := RX7) (T := TX7) (N := 8) hx hb hts (by decide +kernel) hown hK hP _ (lw_o g5) rfl 0 (by decide) (hts (.fieldLink RX7 16 "TurnedFloors$Text" "kind" "[I") (by decide +kernel)) (fun _ h9 => h9) rfl dX7_copyOfIt_43 ?_
    refine lv_iload_n hx hb dX7_copyOfIt_46 rfl (lv_at hl 2 rfl) ?_
    refine lv_aload_n hx hb dX7_copyOfIt_47 rfl (lv_at hl 0 rfl) ?_
    refine va_get (D := D) (ci := 7) (v := .ref (ad 26)) (C := RX7) (T := TX7) (N := 8) hx hb hts (by decide +kernel) hown hK hP 25 rfl rfl 0 (by decide) (hts (.fieldLink RX7 16 "TurnedFloors$Text" "kind" "[I") (by decide +kernel)) (fun _ h9 => h9) rfl dX7_copyOfIt_48 ?_
    refine lv_iload_n hx hb dX7_copyOfIt_51 rfl (lv_at hl 2 rfl) ?_
    obtain ⟨g6, h⟩ := dG_some h
    refine va_iald hx hb hK hP 26 0 rfl rfl (dg_in g6) dX7_copyOfIt_52 ?_
    obtain ⟨v7, ev7, h⟩ := dL_some h
    refine kz_topi v7 ev7 ?_
    obtain ⟨g8, h⟩ := dG_some h
    obtain ⟨g9, h⟩ := dG_some h
    refine va_iast hx hb hK hP hD hS _ 0 (lw_a1 g8) rfl (dg_in g9) dX7_copyOfIt_53 (fun H locs hp hd hs => ?_)
    obtain ⟨q10, eq10, h⟩ := dL_some h
    refine kz_re (w2 := wF ty ad q10) hp hd hs (by rw [← eq10]; exact lw_set g8 1 (by decide) _ _ rfl) ?_
    clear hp hd hs hP hD hS
    intro hP hD hS
    refine lv_aload_n hx hb dX7_copyOfIt_54 rfl (lv_at hl 1 rfl) ?_
    obtain ⟨g11, h⟩ := dG_some h
    refine va_get (D := D) (ci := 7) (v := .ref (ad (63 + 7 * dLi x1 + 2))) (C := RX7) (T := TX7) (N := 8) hx hb hts (by decide +kernel) hown hK hP _ (lw_o g11) rfl 1 (by decide) (hts (.fieldLink RX7 20 "TurnedFloors$Text" "times" "[I") (by decide +kernel)) (fun _ h9 => h9) rfl dX7_copyOfIt_55 ?_
    refine lv_iload_n hx hb dX7_copyOfIt_58 rfl (lv_at hl 2 rfl) ?_
    refine lv_aload_n hx hb dX7_copyOfIt_59 rfl (lv_at hl 0 rfl) ?_
    refine va_get (D := D) (ci := 7) (v := .ref (ad 27)) (C := RX7) (T := TX7) (N := 8) hx hb hts (by decide +kernel) hown hK hP 25 rfl rfl 1 (by decide) (hts (.fieldLink RX7 20 "TurnedFloors$Text" "times" "[I") (by decide +kernel)) (fun _ h9 => h9) rfl dX7_copyOfIt_60 ?_
    refine lv_iload_n hx hb dX7_copyOfIt_63 rfl (lv_at hl 2 rfl) ?_
    obtain ⟨g12, h⟩ := dG_some h
    refine va_iald hx hb hK hP 27 0 rfl rfl (dg_in g12) dX7_copyOfIt_64 ?_
    obtain ⟨v13, ev13, h⟩ := dL_some h
    refine kz_topi v13 ev13 ?_
    obtain ⟨g14, h⟩ := dG_some h
    obtain ⟨g15, h⟩ := dG_some h
    refine va_iast hx hb hK hP hD hS _ 0 (lw_a2 g14) rfl (dg_in g15) dX7_copyOfIt_65 (fun H locs hp hd hs => ?_)
    obtain ⟨q16, eq16, h⟩ := dL_some h
    refine kz_re (w2 := wF ty ad q16) hp hd hs (by rw [← eq16]; exact lw_set g14 2 (by decide) _ _ rfl) ?_
    clear hp hd hs hP hD hS
    intro hP hD hS
    refine lv_aload_n hx hb dX7_copyOfIt_66 rfl (lv_at hl 1 rfl) ?_
    obtain ⟨g17, h⟩ := dG_some h
    refine va_get (D := D) (ci := 7) (v := .ref (ad (63 + 7 * dLi x1 + 3))) (C := RX7) (T := TX7) (N := 8) hx hb hts (by decide +kernel) hown hK hP _ (lw_o g17) rfl 2 (by decide) (hts (.fieldLink RX7 23 "TurnedFloors$Text" "sumFrom" "[I") (by decide +kernel)) (fun _ h9 => h9) rfl dX7_copyOfIt_67 ?_
    refine lv_iload_n hx hb dX7_copyOfIt_70 rfl (lv_at hl 2 rfl) ?_
    refine lv_aload_n hx hb dX7_copyOfIt_71 rfl (lv_at hl 0 rfl) ?_
    refine va_get (D := D) (ci := 7) (v := .ref (ad 28)) (C := RX7) (T := TX7) (N := 8) hx hb hts (by decide +kernel) hown hK hP 25 rfl rfl 2 (by decide) (hts (.fieldLink RX7 23 "TurnedFloors$Text" "sumFrom" "[I") (by decide +kernel)) (fun _ h9 => h9) rfl dX7_copyOfIt_72 ?_
    refine lv_iload_n hx hb dX7_copyOfIt_75 rfl (lv_at hl 2 rfl) ?_
    obtain ⟨g18, h⟩ := dG_some h
    refine va_iald hx hb hK hP 28 0 rfl rfl (dg_in g18) dX7_copyOfIt_76 ?_
    obtain ⟨v19, ev19, h⟩ := dL_some h
    refine kz_topi v19 ev19 ?_
    obtain ⟨g20, h⟩ := dG_some h
    obtain ⟨g21, h⟩ := dG_some h
    refine va_iast hx hb hK hP hD hS _ 0 (lw_a3 g20) rfl (dg_in g21) dX7_copyOfIt_77 (fun H locs hp hd hs => ?_)
    obtain ⟨q22, eq22, h⟩ := dL_some h
    refine kz_re (w2 := wF ty ad q22) hp hd hs (by rw [← eq22]; exact lw_set g20 3 (by decide) _ _ rfl) ?_
    clear hp hd hs hP hD hS
    intro hP hD hS
    refine lv_aload_n hx hb dX7_copyOfIt_78 rfl (lv_at hl 1 rfl) ?_
    obtain ⟨g23, h⟩ := dG_some h
    refine va_get (D := D) (ci := 7) (v := .ref (ad (63 + 7 * dLi x1 + 4))) (C := RX7) (T := TX7) (N := 8) hx hb hts (by decide +kernel) hown hK hP _ (lw_o g23) rfl 3 (by decide) (hts (.fieldLink RX7 26 "TurnedFloors$Text" "testFrom" "[I") (by decide +kernel)) (fun _ h9 => h9) rfl dX7_copyOfIt_79 ?_
    refine lv_iload_n hx hb dX7_copyOfIt_82 rfl (lv_at hl 2 rfl) ?_
    refine lv_aload_n hx hb dX7_copyOfIt_83 rfl (lv_at hl 0 rfl) ?_
    refine va_get (D := D) (ci := 7) (v := .ref (ad 29)) (C := RX7) (T := TX7) (N := 8) hx hb hts (by decide +kernel) hown hK hP 25 rfl rfl 3 (by decide) (hts (.fieldLink RX7 26 "TurnedFloors$Text" "testFrom" "[I") (by decide +kernel)) (fun _ h9 => h9) rfl dX7_copyOfIt_84 ?_
    refine lv_iload_n hx hb dX7_copyOfIt_87 rfl (lv_at hl 2 rfl) ?_
    obtain ⟨g24, h⟩ := dG_some h
    refine va_iald hx hb hK hP 29 0 rfl rfl (dg_in g24) dX7_copyOfIt_88 ?_
    obtain ⟨v25, ev25, h⟩ := dL_some h
    refine kz_topi v25 ev25 ?_
    obtain ⟨g26, h⟩ := dG_some h
    obtain ⟨g27, h⟩ := dG_some h
    refine va_iast hx hb hK hP hD hS _ 0 (lw_a4 g26) rfl (dg_in g27) dX7_copyOfIt_89 (fun H locs hp hd hs => ?_)
    obtain ⟨q28, eq28, h⟩ := dL_some h
    refine kz_re (w2 := wF ty ad q28) hp hd hs (by rw [← eq28]; exact lw_set g26 4 (by decide) _ _ rfl) ?_
    clear hp hd hs hP hD hS
    intro hP hD hS
    refine lv_aload_n hx hb dX7_copyOfIt_90 rfl (lv_at hl 1 rfl) ?_
    obtain ⟨g29, h⟩ := dG_some h
    refine va_get (D := D) (ci := 7) (v := .ref (ad (63 + 7 * dLi x1 + 5))) (C := RX7) (T := TX7) (N := 8) hx hb hts (by decide +kernel) hown hK hP _ (lw_o g29) rfl 4 (by decide) (hts (.fieldLink RX7 29 "TurnedFloors$Text" "testTo" "[I") (by decide +kernel)) (fun _ h9 => h9) rfl dX7_copyOfIt_91 ?_
    refine lv_iload_n hx hb dX7_copyOfIt_94 rfl (lv_at hl 2 rfl) ?_
    refine lv_aload_n hx hb dX7_copyOfIt_95 rfl (lv_at hl 0 rfl) ?_
    refine va_get (D := D) (ci := 7) (v := .ref (ad 30)) (C := RX7) (T := TX7) (N := 8) hx hb hts (by decide +kernel) hown hK hP 25 rfl rfl 4 (by decide) (hts (.fieldLink RX7 29 "TurnedFloors$Text" "testTo" "[I") (by decide +kernel)) (fun _ h9 => h9) rfl dX7_copyOfIt_96 ?_
    refine lv_iload_n hx hb dX7_copyOfIt_99 rfl (lv_at hl 2 rfl) ?_
    obtain ⟨g30, h⟩ := dG_some h
    refine va_iald hx hb hK hP 30 0 rfl rfl (dg_in g30) dX7_copyOfIt_100 ?_
    obtain ⟨v31, ev31, h⟩ := dL_some h
    refine kz_topi v31 ev31 ?_
    obtain ⟨g32, h⟩ := dG_some h
    obtain ⟨g33, h⟩ := dG_some h
    refine va_iast hx hb hK hP hD hS _ 0 (lw_a5 g32) rfl (dg_in g33) dX7_copyOfIt_101 (fun H locs hp hd hs => ?_)
    obtain ⟨q34, eq34, h⟩ := dL_some h
    refine kz_re (w2 := wF ty ad q34) hp hd hs (by rw [← eq34]; exact lw_set g32 5 (by decide) _ _ rfl) ?_
    clear hp hd hs hP hD hS
    intro hP hD hS
    refine lv_iinc (v := x2 + 1) (lv' := [(2, .int (x2 + 1)), (0, .ref (ad 25)), (1, .ref (ad (63 + 7 * dLi x1)))]) hx hb dX7_copyOfIt_102 hl (k := 2) rfl rfl (by decide) rfl (fun ls hl => ?_)
    refine lv_goto (tgt := 34) hx hb dX7_copyOfIt_105 (by decide) ?_
    exact hk34 _ _ _ _ _ _ h hP hD hS (lv_sub hl [1, 2, 0] rfl)
set_option maxHeartbeats 4000000 in
set_option maxRecDepth 100000 in
theorem WX7_copyOfIt_s25_34 {p : Program} {l : Launch} {e : Env} {s : State} {m : MethodId} {args : Array Value} {below : List Frame} {meth : Method} {c : Code} {D : va_G} {ty : Nat → ClassId} {eo : Nat → Nat} {A : Nat → Prop} {ad : Nat → Nat} {o1 : Int32} {o2 : dK} {ns : Nat} {ad0 : Nat → Nat} {n0 : Nat} (hal : dAl n0 ad0 ad) (C : dc_C p s m args meth c cX7_copyOfIt (some (.object "TurnedFloors$Text")) 3 RX7 wsX7_copyOfIt D ty eo A)   (n : Nat) (q : dK) (x1 : Int32) (x2 : Int32) (H : Heap) (locs : List Loc) (ls : Array Slot) (h : zX7_copyOfIt_s25_34 ns  n q x1 x2 = some (o1, o2)) (hP : va_P D vwCl (wF ty ad q) H) (hD : va_D A (wF ty ad q)) (hS : va_S A s.heap H locs) (hl : lv_has ls 3 [(0, .ref (ad 25)), (1, .ref (ad (63 + 7 * dLi x1))), (2, .int x2)]) : W p l e ({ frames := 2, cells := 7, slots := ns, locals := 42 } : Room) s m args below meth c H locs 7 ns (MQ below (kz_Q (fun (r : Value) (u : va_W) => ∃ ad9 : Nat → Nat, dAl n0 ad0 ad9 ∧ Value.ref (ad9 (63 + 7 * dLi o1)) = r ∧ wF ty ad9 o2 = u) (kz_B D ty A) A) args s 7 ns A) (F0 m 34 ls []) := by
  exact dFix_W (F := fun k (a : dK × Int32 × Int32) => zX7_copyOfIt_s25_34b ns  (fun q x1 x2 => k (q, x1, x2)) a.1 a.2.1 a.2.2) (o := (o1, o2)) (P := fun (a : dK × Int32 × Int32) H locs ls => va_P D vwCl (wF ty ad a.1) H ∧ va_D A (wF ty ad a.1) ∧ va_S A s.heap H locs ∧ lv_has ls 3 [(0, .ref (ad 25)), (1, .ref (ad (63 + 7 * dLi a.2.1))), (2, .int a.2.2)]) (G := fun H locs ls => W p l e ({ frames := 2, cells := 7, slots := ns, locals := 42 } : Room) s m args below meth c H locs 7 ns (MQ below (kz_Q (fun (r : Value) (u : va_W) => ∃ ad9 : Nat → Nat, dAl n0 ad0 ad9 ∧ Value.ref (ad9 (63 + 7 * dLi o1)) = r ∧ wF ty ad9 o2 = u) (kz_B D ty A) A) args s 7 ns A) (F0 m 34 ls []))
    (fun k hk a H locs ls h hp => WX7_copyOfIt_s25_34b hal C  (fun q x1 x2 H locs ls h h1 h2 h3 h4 => hk (q, x1, x2) H locs ls h ⟨h1, h2, h3, h4⟩) a.1 a.2.1 a.2.2 H locs ls h hp.1 hp.2.1 hp.2.2.1 hp.2.2.2) n (q, x1, x2) H locs ls h ⟨hP, hD, hS, hl⟩
set_option maxHeartbeats 4000000 in
set_option maxRecDepth 100000 in
theorem qX7_copyOfIt_s25 (l : Launch) (D : va_G) (ty : Nat → ClassId) (eo : Nat → Nat) (sz : Nat) (ad : Nat → Nat) (ns : Nat) (q : dK)  (o1 : Int32) (o2 : dK) (h : zX7_copyOfIt_s25 ns q = some (o1, o2)) : Met l yX7_copyOfIt wsX7_copyOfIt ({ frames := 2, cells := 7, slots := ns, locals := 42 } : Room) (va_Pc [.ref (ad 25)] (kz_pre D ty eo (wF ty ad q) sz)) (kz_Q (fun (r : Value) (u : va_W) => ∃ ad9 : Nat → Nat, dAl q.2.2.length ad ad9 ∧ Value.ref (ad9 (63 + 7 * dLi o1)) = r ∧ wF ty ad9 o2 = u) (kz_B D ty (va_A (wF ty ad q) sz)) (va_A (wF ty ad q) sz)) 7 ns (va_A (wF ty ad q) sz) := by
  have hal : dAl q.2.2.length ad ad := fun _ _ => rfl
  refine Met.ofW (cc := cX7_copyOfIt) (maxL := 3) (ret := (some (.object "TurnedFloors$Text"))) (by decide) rfl ?_
  intro p e s m args below meth c s₁ B hml hv
  obtain ⟨rfl, hsz, hP, hK, hD0, hN, hE⟩ := hv
  have hx := B.exec
  have hb := B.bytes
  have hr := B.returns
  have hts := atoms_spec (ws := wsX7_copyOfIt) B.pre
  have hown : s.vm.findClass RX7 = some m.cls := findClass_of_methodNamed B.named
  have hlocks := B.notSynchronized
  subst hsz
  have hD := hD0.self (sz := s.heap.size)
  generalize hAe : va_A (wF ty ad q) s.heap.size = A at hD hE ⊢
  have hA : ∀ q : Nat, s.heap.size ≤ q → A q := fun q h => by rw [← hAe]; exact Or.inr h
  clear hAe
  have hS : va_S A s.heap s.heap [] := va_S.rf
  have hl := lv_entry ([.ref (ad 25)]) (n := 3) (Nat.le_of_ble_eq_true rfl)
  rw [lg_entry_eq]
  generalize (lg_sl ([.ref (ad 25)]) ++ List.replicate (3 - (lg_sl ([.ref (ad 25)])).length) Slot.unset).toArray = ls at hl ⊢
  have hl : lv_has ls 3 [(0, .ref (ad 25))] := hl
  have C : dc_C p s m _ meth c cX7_copyOfIt (some (.object "TurnedFloors$Text")) 3 RX7 wsX7_copyOfIt D ty eo A := ⟨hx, hb, hr, hts, hown, hlocks, hml, hK, hN, hE, hA⟩
  unfold zX7_copyOfIt_s25 at h
  obtain ⟨g0, h⟩ := dG_some h
  refine va_new (ci := 7) (fs := [.null, .null, .null, .null, .null, .null, .int 0, .int 0]) (C := RX7) (T := TX7) (N := 8) hx hb hts u9_wsX7_copyOfIt_X7 tyX7 tyX7_ok hown (hts (.classLink RX7 8 RX7) f9_wsX7_copyOfIt_573) (hts (.instantiable RX7 8) f9_wsX7_copyOfIt_574) (hts (.initialized RX7) f9_wsX7_copyOfIt_575) hK hP hD hS hA rfl (by decide +kernel) (Nat.le_of_ble_eq_true rfl) ((of_decide_eq_true g0).2.2.2.2.2) dX7_copyOfIt_0 (fun a9 H hp hd hs => ?_)
  clear hP hD hS
  have hP := hp; have hD := hd; have hS := hs; clear hp hd hs
  refine lv_dup hx hb dX7_copyOfIt_3 rfl ?_
  refine lv_aload_n hx hb dX7_copyOfIt_4 rfl (lv_at hl 0 rfl) ?_
  refine va_get (D := D) (ci := 7) (v := .int (q.1 25 6)) (C := RX7) (T := TX7) (N := 8) hx hb hts u9_wsX7_copyOfIt_X7 hown hK hP 25 rfl rfl 6 (by decide) (hts (.fieldLink RX7 7 "TurnedFloors$Text" "clauses" "I") f9_wsX7_copyOfIt_576) (fun _ h9 => h9) rfl dX7_copyOfIt_5 ?_
  refine lv_aload_n hx hb dX7_copyOfIt_8 rfl (lv_at hl 0 rfl) ?_
  refine va_get (D := D) (ci := 7) (v := .int (q.1 25 7)) (C := RX7) (T := TX7) (N := 8) hx hb hts u9_wsX7_copyOfIt_X7 hown hK hP 25 rfl rfl 7 (by decide) (hts (.fieldLink RX7 13 "TurnedFloors$Text" "length" "I") f9_wsX7_copyOfIt_577) (fun _ h9 => h9) rfl dX7_copyOfIt_9 ?_
  refine dw_kvl (va_runI (As := [.int (q.1 25 6), .int (q.1 25 7)]) (rest := [.ref a9]) ⟨hx, hb, hml, hown, hts⟩ (kX7_initD l D ty eo _ a9 (q.1 25 6) (q.1 25 7) (ns - 8) (of_decide_eq_true g0).1 (of_decide_eq_true g0).2.1 (of_decide_eq_true g0).2.2.1 (of_decide_eq_true g0).2.2.2.1 (of_decide_eq_true g0).2.2.2.2.1) (cwI 2 hts gX7_copyOfIt_X7_init rfl rfl rfl (hts (.initialized RX7) f9_wsX7_copyOfIt_575) (hts (.methodLink RX7 35 yX7_init) f9_wsX7_copyOfIt_578) (hts (.instanceMethod yX7_init) f9_wsX7_copyOfIt_579) rfl (by decide +kernel) ⟨Nat.le_of_ble_eq_true rfl, Nat.le_of_ble_eq_true rfl⟩) (kz_preS (wc := [(a9, .inr (7, [.null, .null, .null, .null, .null, .null, .int 0, .int 0]))]) hK hN hE hP hD hS hA [(wF ty ad q).length] (nd1 _) (dw_lst _ _)) rfl rfl hl.1 rfl (lv_room (Nat.le_of_ble_eq_true rfl)) dX7_copyOfIt_12 ⟨Nat.le_of_ble_eq_true rfl, by show 0 + 8 + (ns - 8) ≤ ns; have z9 := (of_decide_eq_true g0).2.2.2.2.2; omega⟩) hP hD hS hA (fun u9 H locs hw hp hd hs => ?_)
  obtain ⟨b1, b2, b3, b4, b5, b6, rfl⟩ := hw
  obtain ⟨g1, h⟩ := dG_some h
  replace hp := (congrArg (fun w9 => va_P D vwCl w9 H) (wF_cln ty ad q (q.1 25 6) (q.1 25 7) a9 b1 b2 b3 b4 b5 b6 (dlokB_e g1))).mp hp
  replace hd := (congrArg (fun w9 => va_D A w9) (wF_cln ty ad q (q.1 25 6) (q.1 25 7) a9 b1 b2 b3 b4 b5 b6 (dlokB_e g1))).mp hd
  clear hal
  have hal : dAl q.2.2.length ad (adl ad q.2.2.length a9 b1 b2 b3 b4 b5 b6) := adl_ag
  have ea9 : a9 = adl ad q.2.2.length a9 b1 b2 b3 b4 b5 b6 (63 + 7 * dLi (Int32.ofNat (q.2.2.length + 1))) := by rw [dLi_of (dlokB_e g1).1]; exact (adl_at 0).symm
  refine dw_up (c2 := 7) (s2 := ns) (by decide) (by have z9 := (of_decide_eq_true g0).2.2.2.2.2; omega) ?_
  generalize adl ad q.2.2.length a9 b1 b2 b3 b4 b5 b6 = ad at hp hd hal ea9
  rw [dAl_s hal 25 (by decide)] at hl
  rw [ea9]
  clear ea9
  obtain ⟨q2, eq2, h⟩ := dL_some h
  refine kz_re (w2 := wF ty ad q2) hp hd hs (by rw [← eq2]) ?_
  clear hp hd hs hP hD hS
  intro hP hD hS
  refine lv_astore_n (lv' := [(1, .ref (ad (63 + 7 * dLi (Int32.ofNat (q.2.2.length + 1))))), (0, .ref (ad 25))]) hx hb dX7_copyOfIt_15 rfl hl (by decide) rfl (fun ls hl => ?_)
  refine lv_aload_n hx hb dX7_copyOfIt_16 rfl (lv_at hl 0 rfl) ?_
  refine lv_aload_n hx hb dX7_copyOfIt_17 rfl (lv_at hl 1 rfl) ?_
  refine va_get (D := D) (ci := 7) (v := .int (q2.1 25 6)) (C := RX7) (T := TX7) (N := 8) hx hb hts u9_wsX7_copyOfIt_X7 hown hK hP 25 rfl rfl 6 (by decide) (hts (.fieldLink RX7 7 "TurnedFloors$Text" "clauses" "I") f9_wsX7_copyOfIt_576) (fun _ h9 => h9) rfl dX7_copyOfIt_18 ?_
  obtain ⟨g3, h⟩ := dG_some h
  refine va_put (D := D) (ci := 7) (v := .int (q2.1 25 6)) (ty := .int) (C := RX7) (T := TX7) (N := 8) hx hb hts u9_wsX7_copyOfIt_X7 tyX7 tyX7_ok nmX7 hown hK hP hD hS _ (lw_o g3) rfl 6 (by decide) (hts (.fieldLink RX7 7 "TurnedFloors$Text" "clauses" "I") f9_wsX7_copyOfIt_576) (fun _ h9 => h9) rfl (by decide +kernel) rfl rfl (Nat.le_of_ble_eq_true rfl) dX7_copyOfIt_21 (fun H locs hp hd hs => ?_)
  obtain ⟨q4, eq4, h⟩ := dL_some h
  refine kz_re (w2 := wF ty ad q4) hp hd hs (by rw [← eq4]; exact lw_set g3 0 (by decide) _ _ rfl) ?_
  clear hp hd hs hP hD hS
  intro hP hD hS
  refine lv_aload_n hx hb dX7_copyOfIt_24 rfl (lv_at hl 0 rfl) ?_
  refine lv_aload_n hx hb dX7_copyOfIt_25 rfl (lv_at hl 1 rfl) ?_
  refine va_get (D := D) (ci := 7) (v := .int (q4.1 25 7)) (C := RX7) (T := TX7) (N := 8) hx hb hts u9_wsX7_copyOfIt_X7 hown hK hP 25 rfl rfl 7 (by decide) (hts (.fieldLink RX7 13 "TurnedFloors$Text" "length" "I") f9_wsX7_copyOfIt_577) (fun _ h9 => h9) rfl dX7_copyOfIt_26 ?_
  obtain ⟨g5, h⟩ := dG_some h
  refine va_put (D := D) (ci := 7) (v := .int (q4.1 25 7)) (ty := .int) (C := RX7) (T := TX7) (N := 8) hx hb hts u9_wsX7_copyOfIt_X7 tyX7 tyX7_ok nmX7 hown hK hP hD hS _ (lw_o g5) rfl 7 (by decide) (hts (.fieldLink RX7 13 "TurnedFloors$Text" "length" "I") f9_wsX7_copyOfIt_577) (fun _ h9 => h9) rfl (by decide +kernel) rfl rfl (Nat.le_of_ble_eq_true rfl) dX7_copyOfIt_29 (fun H locs hp hd hs => ?_)
  obtain ⟨q6, eq6, h⟩ := dL_some h
  refine kz_re (w2 := wF ty ad q6) hp hd hs (by rw [← eq6]; exact lw_set g5 0 (by decide) _ _ rfl) ?_
  clear hp hd hs hP hD hS
  intro hP hD hS
  refine lv_iconst (v := 0) hx hb dX7_copyOfIt_32 (by decide) ?_
  refine lv_istore_n (lv' := [(2, .int 0), (1, .ref (ad (63 + 7 * dLi (Int32.ofNat (q.2.2.length + 1))))), (0, .ref (ad 25))]) hx hb dX7_copyOfIt_33 rfl hl (by decide) rfl (fun ls hl => ?_)
  exact WX7_copyOfIt_s25_34 hal C  _ _ _ _ _ _ _ h hP hD hS (lv_sub hl [2, 1, 0] rfl)

set_option maxHeartbeats 4000000 in
set_option maxRecDepth 100000 in
theorem qX9_law_s0 (l : Launch) (D : va_G) (ty : Nat → ClassId) (eo : Nat → Nat) (sz : Nat) (ad : Nat → Nat) (ns : Nat) (q : dK)  (o1 : Int32) (o2 : dK) (h : zX9_law_s0 ns q = some (o1, o2)) : Met l yX9_law wsX9_law ({ frames := 77, cells := 7, slots := ns, locals := 1858 } : Room) (va_Pc [.ref (ad 0)] (kz_pre D ty eo (wF ty ad q) sz)) (va_Qi (fun (r : Int32) (u : va_W) => o1 = r ∧ ∃ ad9 : Nat → Nat, dAl q.2.2.length ad ad9 ∧ wF ty ad9 o2 = u) (kz_B D ty (va_A (wF ty ad q) sz)) (va_A (wF ty ad q) sz)) 7 ns (va_A (wF ty ad q) sz) := by
  have hal : dAl q.2.2.length ad ad := fun _ _ => rfl
  refine Met.ofW (cc := cX9_law) (maxL := 2) (ret := (some .int)) (by decide) rfl ?_
  intro p e s m args below meth c s₁ B hml hv
  obtain ⟨rfl, hsz, hP, hK, hD0, hN, hE⟩ := hv
  have hx := B.exec
  have hb := B.bytes
  have hr := B.returns
  have hts := atoms_spec (ws := wsX9_law) B.pre
  have hown : s.vm.findClass RX9 = some m.cls := findClass_of_methodNamed B.named
  have hlocks := B.notSynchronized
  subst hsz
  have hD := hD0.self (sz := s.heap.size)
  generalize hAe : va_A (wF ty ad q) s.heap.size = A at hD hE ⊢
  have hA : ∀ q : Nat, s.heap.size ≤ q → A q := fun q h => by rw [← hAe]; exact Or.inr h
  clear hAe
  have hS : va_S A s.heap s.heap [] := va_S.rf
  have hl := lv_entry ([.ref (ad 0)]) (n := 2) (Nat.le_of_ble_eq_true rfl)
  rw [lg_entry_eq]
  generalize (lg_sl ([.ref (ad 0)]) ++ List.replicate (2 - (lg_sl ([.ref (ad 0)])).length) Slot.unset).toArray = ls at hl ⊢
  have hl : lv_has ls 2 [(0, .ref (ad 0))] := hl
  have C : dc_C p s m _ meth c cX9_law (some .int) 2 RX9 wsX9_law D ty eo A := ⟨hx, hb, hr, hts, hown, hlocks, hml, hK, hN, hE, hA⟩
  unfold zX9_law_s0 at h
  refine lv_aload_n hx hb dX9_law_0 rfl (lv_at hl 0 rfl) ?_
  refine va_get (D := D) (ci := 9) (v := .int (q.1 0 12)) (C := RX9) (T := TX9) (N := 19) hx hb hts u9_wsX9_law_X9 hown hK hP 0 rfl rfl 12 (by decide) (hts (.fieldLink RX9 88 "TurnedFloors" "tapeLength" "I") f9_wsX9_law_582) (fun _ h9 => h9) rfl dX9_law_1 ?_
  refine lv_istore_n (lv' := [(1, .int (q.1 0 12)), (0, .ref (ad 0))]) hx hb dX9_law_4 rfl hl (by decide) rfl (fun ls hl => ?_)
  refine lv_aload_n hx hb dX9_law_5 rfl (lv_at hl 1 rfl) ?_
  refine lv_iconst (v := 0) hx hb dX9_law_6 (by decide) ?_
  refine va_put (D := D) (ci := 9) (v := .int 0) (ty := .int) (C := RX9) (T := TX9) (N := 19) hx hb hts u9_wsX9_law_X9 tyX9 tyX9_ok nmX9 hown hK hP hD hS 0 rfl rfl 12 (by decide) (hts (.fieldLink RX9 88 "TurnedFloors" "tapeLength" "I") f9_wsX9_law_582) (fun _ h9 => h9) rfl (by decide +kernel) rfl rfl (Nat.le_of_ble_eq_true rfl) dX9_law_7 (fun H locs hp hd hs => ?_)
  obtain ⟨q1, eq1, h⟩ := dL_some h
  refine kz_re (w2 := wF ty ad q1) hp hd hs (by rw [← eq1]; exact wF_f0_12 ty ad q 0) ?_
  clear hp hd hs hP hD hS
  intro hP hD hS
  refine lv_aload_n hx hb dX9_law_10 rfl (lv_at hl 1 rfl) ?_
  refine va_get (D := D) (ci := 9) (v := .ref (ad 1)) (C := RX9) (T := TX9) (N := 19) hx hb hts u9_wsX9_law_X9 hown hK hP 0 rfl rfl 0 (by decide) (hts (.fieldLink RX9 10 "TurnedFloors" "state" "LTurnedFloors$State;") f9_wsX9_law_583) (fun _ h9 => h9) rfl dX9_law_11 ?_
  refine va_getN (D := D) (ci := 6) (v := .int (q1.1 1 8)) (C := RX6) (T := TX6) (N := 10) hx hb hts u9_wsX9_law_X6 hown hK hP 1 rfl rfl 8 (by decide) (hN.use (.fieldLinkNest "TurnedFloors" 183 "TurnedFloors$State" "lawCount" "I" "TurnedFloors") nn9_17) (fun _ h9 => h9) rfl dX9_law_14 ?_
  refine lv_bipush (v := 6) hx hb dX9_law_17 (by decide) ?_
  refine lv_icmp_lt (tgt := 29) hx hb dX9_law_19 (by decide) (fun c9 => ?_) (fun c9 => ?_)
  · rw [if_pos c9] at h
    refine lv_aload_n hx hb dX9_law_29 rfl (lv_at hl 1 rfl) ?_
    refine lv_aload_n hx hb dX9_law_30 rfl (lv_at hl 1 rfl) ?_
    refine va_get (D := D) (ci := 9) (v := .ref (ad 24)) (C := RX9) (T := TX9) (N := 19) hx hb hts u9_wsX9_law_X9 hown hK hP 0 rfl rfl 8 (by decide) (hts (.fieldLink RX9 64 "TurnedFloors" "reader" "LTurnedFloors$Reader;") f9_wsX9_law_584) (fun _ h9 => h9) rfl dX9_law_31 ?_
    refine lv_aload_n hx hb dX9_law_34 rfl (lv_at hl 1 rfl) ?_
    refine va_get (D := D) (ci := 9) (v := .ref (ad 46)) (C := RX9) (T := TX9) (N := 19) hx hb hts u9_wsX9_law_X9 hown hK hP 0 rfl rfl 11 (by decide) (hts (.fieldLink RX9 84 "TurnedFloors" "tape" "[I") f9_wsX9_law_585) (fun _ h9 => h9) rfl dX9_law_35 ?_
    refine lv_iload_n hx hb dX9_law_38 rfl (lv_at hl 0 rfl) ?_
    refine lv_iconst (v := 0) hx hb dX9_law_39 (by decide) ?_
    refine lv_aload_n hx hb dX9_law_40 rfl (lv_at hl 1 rfl) ?_
    refine va_get (D := D) (ci := 9) (v := .ref (ad 25)) (C := RX9) (T := TX9) (N := 19) hx hb hts u9_wsX9_law_X9 hown hK hP 0 rfl rfl 9 (by decide) (hts (.fieldLink RX9 73 "TurnedFloors" "draft" "LTurnedFloors$Text;") f9_wsX9_law_586) (fun _ h9 => h9) rfl dX9_law_41 ?_
    obtain ⟨r2, q4, h3, h⟩ := dB_some h
    refine dw_ki (va_runV (As := [.ref (ad 46), .int (q.1 0 12), .int 0, .ref (ad 25)]) (rest := [.ref (ad 0)]) ⟨hx, hb, hml, hown, hts⟩ (qX4_read_s24_s46_s25 l D ty eo _ ad q1 (q.1 0 12) 0 r2 q4 h3) (cwV 4 hts gX9_law_X4_read rfl rfl rfl hd_X4_read_v ⟨Nat.le_of_ble_eq_true rfl, Nat.le_of_ble_eq_true rfl⟩) (pvF_4_24 hK hN hE hP hD hS hA) rfl rfl hl.1 rfl (lv_room (Nat.le_of_ble_eq_true rfl)) dX9_law_44 ⟨Nat.zero_le _, Nat.zero_le _⟩) hD hS hA (fun r9 u9 H locs hw hp hd hs => ?_)
    clear hP hD hS
    obtain ⟨rfl, rfl⟩ := hw
    have hP := hp; have hD := hd; have hS := hs; clear hp hd hs
    refine va_put (D := D) (ci := 9) (v := .int r2) (ty := .int) (C := RX9) (T := TX9) (N := 19) hx hb hts u9_wsX9_law_X9 tyX9 tyX9_ok nmX9 hown hK hP hD hS 0 rfl rfl 13 (by decide) (hts (.fieldLink RX9 92 "TurnedFloors" "faultPlace" "I") f9_wsX9_law_587) (fun _ h9 => h9) rfl (by decide +kernel) rfl rfl (Nat.le_of_ble_eq_true rfl) dX9_law_47 (fun H locs hp hd hs => ?_)
    obtain ⟨q5, eq5, h⟩ := dL_some h
    refine kz_re (w2 := wF ty ad q5) hp hd hs (by rw [← eq5]; exact wF_f0_13 ty ad q4 r2) ?_
    clear hp hd hs hP hD hS
    intro hP hD hS
    refine lv_aload_n hx hb dX9_law_50 rfl (lv_at hl 1 rfl) ?_
    refine va_get (D := D) (ci := 9) (v := .int (q5.1 0 13)) (C := RX9) (T := TX9) (N := 19) hx hb hts u9_wsX9_law_X9 hown hK hP 0 rfl rfl 13 (by decide) (hts (.fieldLink RX9 92 "TurnedFloors" "faultPlace" "I") f9_wsX9_law_587) (fun _ h9 => h9) rfl dX9_law_51 ?_
    refine lv_iconst (v := (-1)) hx hb dX9_law_54 (by decide) ?_
    refine lv_icmp_eq (tgt := 65) hx hb dX9_law_55 (by decide) (fun c9 => ?_) (fun c9 => ?_)
    · rw [if_pos c9] at h
      refine lv_aload_n hx hb dX9_law_65 rfl (lv_at hl 1 rfl) ?_
      refine va_get (D := D) (ci := 9) (v := .ref (ad 1)) (C := RX9) (T := TX9) (N := 19) hx hb hts u9_wsX9_law_X9 hown hK hP 0 rfl rfl 0 (by decide) (hts (.fieldLink RX9 10 "TurnedFloors" "state" "LTurnedFloors$State;") f9_wsX9_law_583) (fun _ h9 => h9) rfl dX9_law_66 ?_
      refine va_getN (D := D) (ci := 6) (v := .ref (ad 7)) (C := RX6) (T := TX6) (N := 10) hx hb hts u9_wsX9_law_X6 hown hK hP 1 rfl rfl 7 (by decide) (hN.use (.fieldLinkNest "TurnedFloors" 190 "TurnedFloors$State" "laws" "[LTurnedFloors$Text;" "TurnedFloors") nn9_18) (fun _ h9 => h9) rfl dX9_law_69 ?_
      refine lv_aload_n hx hb dX9_law_72 rfl (lv_at hl 1 rfl) ?_
      refine va_get (D := D) (ci := 9) (v := .ref (ad 1)) (C := RX9) (T := TX9) (N := 19) hx hb hts u9_wsX9_law_X9 hown hK hP 0 rfl rfl 0 (by decide) (hts (.fieldLink RX9 10 "TurnedFloors" "state" "LTurnedFloors$State;") f9_wsX9_law_583) (fun _ h9 => h9) rfl dX9_law_73 ?_
      refine va_getN (D := D) (ci := 6) (v := .int (q5.1 1 8)) (C := RX6) (T := TX6) (N := 10) hx hb hts u9_wsX9_law_X6 hown hK hP 1 rfl rfl 8 (by decide) (hN.use (.fieldLinkNest "TurnedFloors" 183 "TurnedFloors$State" "lawCount" "I" "TurnedFloors") nn9_17) (fun _ h9 => h9) rfl dX9_law_76 ?_
      refine lv_aload_n hx hb dX9_law_79 rfl (lv_at hl 1 rfl) ?_
      refine va_get (D := D) (ci := 9) (v := .ref (ad 25)) (C := RX9) (T := TX9) (N := 19) hx hb hts u9_wsX9_law_X9 hown hK hP 0 rfl rfl 9 (by decide) (hts (.fieldLink RX9 73 "TurnedFloors" "draft" "LTurnedFloors$Text;") f9_wsX9_law_586) (fun _ h9 => h9) rfl dX9_law_80 ?_
      obtain ⟨r6, q8, h7, h⟩ := dB_some h
      obtain ⟨g9, h⟩ := dG_some h
      refine dw_kq (va_runV (As := []) (rest := [.int (q5.1 1 8), .ref (ad 7)]) ⟨hx, hb, hml, hown, hts⟩ (qX7_copyOfIt_s25 l D ty eo _ ad ns q5  r6 q8 h7) (cwV 0 hts gX9_law_X7_copyOfIt rfl rfl rfl hd_X7_copyOfIt_v ⟨Nat.le_of_ble_eq_true rfl, Nat.le_of_ble_eq_true rfl⟩) (pvF_7_25 hK hN hE hP hD hS hA) rfl rfl hl.1 rfl (lv_room (Nat.le_of_ble_eq_true rfl)) dX9_law_83 ⟨Nat.le_of_ble_eq_true rfl, by show 0 + ns ≤ ns; omega⟩) hP hD hS hA (fun r9 u9 H locs hw hp hd hs => ?_)
      clear hP hD hS
      obtain ⟨ad, hal1, rfl, rfl⟩ := hw
      rw [of_decide_eq_true g9] at hal1
      rw [dAl_s hal1 7 (by decide)]
      rw [dAl_s hal1 0 (by decide)] at hl
      replace hal := hal1; clear hal1
      refine dw_up (c2 := 7) (s2 := ns) (by omega) (by omega) ?_
      have hP := hp; have hD := hd; have hS := hs; clear hp hd hs
      obtain ⟨g10, h⟩ := dG_some h
      obtain ⟨g11, h⟩ := dG_some h
      refine va_astq hx hb hK hP hD hS 7 5 _ 7 rfl rfl (lw_o g11) rfl (dg_in g10) dX9_law_86 (fun H locs hp hd hs => ?_)
      rw [dLs_up (dg_lt g10) (dlg_ne g11)] at hp hd
      obtain ⟨q12, eq12, h⟩ := dL_some h
      refine kz_re (w2 := wF ty ad q12) hp hd hs (by rw [← eq12]; exact wF_t7 ty ad q8 (Int32.toNatClampNeg (q5.1 1 8)) r6) ?_
      clear hp hd hs hP hD hS
      intro hP hD hS
      refine lv_aload_n hx hb dX9_law_87 rfl (lv_at hl 1 rfl) ?_
      refine va_get (D := D) (ci := 9) (v := .ref (ad 1)) (C := RX9) (T := TX9) (N := 19) hx hb hts u9_wsX9_law_X9 hown hK hP 0 rfl rfl 0 (by decide) (hts (.fieldLink RX9 10 "TurnedFloors" "state" "LTurnedFloors$State;") f9_wsX9_law_583) (fun _ h9 => h9) rfl dX9_law_88 ?_
      refine lv_dup hx hb dX9_law_91 rfl ?_
      refine va_getN (D := D) (ci := 6) (v := .int (q12.1 1 8)) (C := RX6) (T := TX6) (N := 10) hx hb hts u9_wsX9_law_X6 hown hK hP 1 rfl rfl 8 (by decide) (hN.use (.fieldLinkNest "TurnedFloors" 183 "TurnedFloors$State" "lawCount" "I" "TurnedFloors") nn9_17) (fun _ h9 => h9) rfl dX9_law_92 ?_
      refine lv_iconst (v := 1) hx hb dX9_law_95 (by decide) ?_
      refine lv_iadd hx hb dX9_law_96 ?_
      refine va_putN (D := D) (ci := 6) (v := .int ((q12.1 1 8) + 1 : Int32)) (ty := .int) (C := RX6) (T := TX6) (N := 10) hx hb hts u9_wsX9_law_X6 tyX6 tyX6_ok nmX6 hown hK hP hD hS 1 rfl rfl 8 (by decide) (hN.use (.fieldLinkNest "TurnedFloors" 183 "TurnedFloors$State" "lawCount" "I" "TurnedFloors") nn9_17) (fun _ h9 => h9) rfl (by decide +kernel) rfl rfl (Nat.le_of_ble_eq_true rfl) dX9_law_97 (fun H locs hp hd hs => ?_)
      obtain ⟨q13, eq13, h⟩ := dL_some h
      refine kz_re (w2 := wF ty ad q13) hp hd hs (by rw [← eq13]; exact wF_f1_8 ty ad q12 ((q12.1 1 8) + 1 : Int32)) ?_
      clear hp hd hs hP hD hS
      intro hP hD hS
      refine lv_aload_n hx hb dX9_law_100 rfl (lv_at hl 1 rfl) ?_
      refine lv_aload_n hx hb dX9_law_101 rfl (lv_at hl 1 rfl) ?_
      refine va_get (D := D) (ci := 9) (v := .ref (ad 1)) (C := RX9) (T := TX9) (N := 19) hx hb hts u9_wsX9_law_X9 hown hK hP 0 rfl rfl 0 (by decide) (hts (.fieldLink RX9 10 "TurnedFloors" "state" "LTurnedFloors$State;") f9_wsX9_law_583) (fun _ h9 => h9) rfl dX9_law_102 ?_
      refine va_getN (D := D) (ci := 6) (v := .int (q13.1 1 8)) (C := RX6) (T := TX6) (N := 10) hx hb hts u9_wsX9_law_X6 hown hK hP 1 rfl rfl 8 (by decide) (hN.use (.fieldLinkNest "TurnedFloors" 183 "TurnedFloors$State" "lawCount" "I" "TurnedFloors") nn9_17) (fun _ h9 => h9) rfl dX9_law_105 ?_
      refine lv_iconst (v := 1) hx hb dX9_law_108 (by decide) ?_
      refine lv_isub hx hb dX9_law_109 ?_
      obtain ⟨r14, q16, h15, h⟩ := dB_some h
      refine dw_ki (va_runV (As := [.int ((q13.1 1 8) - 1 : Int32)]) (rest := []) ⟨hx, hb, hml, hown, hts⟩ (qX9_accept_s0 l D ty eo _ ad q13 ((q13.1 1 8) - 1 : Int32) r14 q16 h15) (cwV 1 hts gX9_law_X9_accept rfl rfl rfl hd_X9_accept_v ⟨Nat.le_of_ble_eq_true rfl, Nat.le_of_ble_eq_true rfl⟩) (pvF_9_0 hK hN hE hP hD hS hA) rfl rfl hl.1 rfl (lv_room (Nat.le_of_ble_eq_true rfl)) dX9_law_110 ⟨Nat.le_refl _, Nat.le_refl _⟩) hD hS hA (fun r9 u9 H locs hw hp hd hs => ?_)
      clear hP hD hS
      obtain ⟨rfl, rfl⟩ := hw
      have hP := hp; have hD := hd; have hS := hs; clear hp hd hs
      cases h
      exact kz_iret hx hb hr hlocks hP hK hD hS dX9_law_113 ⟨rfl, ad, hal, rfl⟩
    · rw [if_neg c9] at h
      refine lv_aload_n hx hb dX9_law_58 rfl (lv_at hl 1 rfl) ?_
      refine lv_bipush (v := (-6)) hx hb dX9_law_59 (by decide) ?_
      obtain ⟨r17, q19, h18, h⟩ := dB_some h
      refine dw_ki (va_runV (As := [.int (-6)]) (rest := []) ⟨hx, hb, hml, hown, hts⟩ (qX9_refuse_s0 l D ty eo _ ad q5 (-6) r17 q19 h18) (cwV 1 hts gX9_law_X9_refuse rfl rfl rfl hd_X9_refuse_v ⟨Nat.le_of_ble_eq_true rfl, Nat.le_of_ble_eq_true rfl⟩) (pvF_9_0 hK hN hE hP hD hS hA) rfl rfl hl.1 rfl (lv_room (Nat.le_of_ble_eq_true rfl)) dX9_law_61 ⟨Nat.zero_le _, Nat.zero_le _⟩) hD hS hA (fun r9 u9 H locs hw hp hd hs => ?_)
      clear hP hD hS
      obtain ⟨rfl, rfl⟩ := hw
      have hP := hp; have hD := hd; have hS := hs; clear hp hd hs
      refine dw_up (c2 := 7) (s2 := ns) (Nat.zero_le _) (Nat.zero_le _) ?_
      cases h
      exact kz_iret hx hb hr hlocks hP hK hD hS dX9_law_64 ⟨rfl, ad, hal, rfl⟩
  · rw [if_neg c9] at h
    refine lv_aload_n hx hb dX9_law_22 rfl (lv_at hl 1 rfl) ?_
    refine lv_bipush (v := (-5)) hx hb dX9_law_23 (by decide) ?_
    obtain ⟨r20, q22, h21, h⟩ := dB_some h
    refine dw_ki (va_runV (As := [.int (-5)]) (rest := []) ⟨hx, hb, hml, hown, hts⟩ (qX9_refuse_s0 l D ty eo _ ad q1 (-5) r20 q22 h21) (cwV 1 hts gX9_law_X9_refuse rfl rfl rfl hd_X9_refuse_v ⟨Nat.le_of_ble_eq_true rfl, Nat.le_of_ble_eq_true rfl⟩) (pvF_9_0 hK hN hE hP hD hS hA) rfl rfl hl.1 rfl (lv_room (Nat.le_of_ble_eq_true rfl)) dX9_law_25 ⟨Nat.zero_le _, Nat.zero_le _⟩) hD hS hA (fun r9 u9 H locs hw hp hd hs => ?_)
    clear hP hD hS
    obtain ⟨rfl, rfl⟩ := hw
    have hP := hp; have hD := hd; have hS := hs; clear hp hd hs
    refine dw_up (c2 := 7) (s2 := ns) (Nat.zero_le _) (Nat.zero_le _) ?_
    cases h
    exact kz_iret hx hb hr hlocks hP hK hD hS dX9_law_28 ⟨rfl, ad, hal, rfl⟩

set_option maxHeartbeats 4000000 in
set_option maxRecDepth 100000 in
theorem WX8_pack_s2_8b {p : Program} {l : Launch} {e : Env} {s : State} {m : MethodId} {args : Array Value} {below : List Frame} {meth : Method} {c : Code} {D : va_G} {ty : Nat → ClassId} {eo : Nat → Nat} {A : Nat → Prop} {ad : Nat → Nat} {o1 : Int64} {o2 : dK} (C : dc_C p s m args meth c cX8_pack (some .long) 4 RX8 wsX8_pack D ty eo A) {k8 : dK → Int64 → Int32 → Option (Int64 × dK)} (hk8 : ∀ (q : dK) (x1 : Int64) (x3 : Int32) (H : Heap) (locs : List Loc) (ls : Array Slot), k8 q x1 x3 = some (o1, o2) → va_P D vwCl (wF ty ad q) H → va_D A (wF ty ad q) → va_S A s.heap H locs → lv_has ls 4 [(0, .ref (ad 2)), (1, .long x1), (3, .int x3)] → W p l e ({ frames := 0, cells := 0, slots := 0, locals := 0 } : Room) s m args below meth c H locs 0 0 (MQ below (va_Ql (fun (r : Int64) (u : va_W) => o1 = r ∧ wF ty ad o2 = u) (kz_B D ty A) A) args s 0 0 A) (F0 m 8 ls [])) (q : dK) (x1 : Int64) (x3 : Int32) (H : Heap) (locs : List Loc) (ls : Array Slot) (h : zX8_pack_s2_8b k8 q x1 x3 = some (o1, o2)) (hP : va_P D vwCl (wF ty ad q) H) (hD : va_D A (wF ty ad q)) (hS : va_S A s.heap H locs) (hl : lv_has ls 4 [(0, .ref (ad 2)), (1, .long x1), (3, .int x3)]) : W p l e ({ frames := 0, cells := 0, slots := 0, locals := 0 } : Room) s m args below meth c H locs 0 0 (MQ below (va_Ql (fun (r : Int64) (u : va_W) => o1 = r ∧ wF ty ad o2 = u) (kz_B D ty A) A) args s 0 0 A) (F0 m 8 ls []) := by
  have C0 := C
  obtain ⟨hx, hb, hr, hts, hown, hlocks, hml, hK, hN, hE, hA⟩ := C
  unfold zX8_pack_s2_8b at h
  refine lv_iload_n hx hb dX8_pack_8 rfl (lv_at hl 2 rfl) ?_
  refine lv_bipush (v := 6) hx hb dX8_pack_9 (by decide) ?_
  refine lv_icmp_ge (tgt := 42) hx hb dX8_pack_11 (by decide) (fun c9 => ?_) (fun c9 => ?_)
  · rw [if_pos c9] at h
    refine lv_lload_n hx hb dX8_pack_42 rfl (lv_at hl 1 rfl) ?_
    refine lv_bipush (v := 14) hx hb dX8_pack_43 (by decide) ?_
    refine lv_lshl (v := x1 <<< (Int32.toInt64 (14 : Int32) &&& 63)) hx hb dX8_pack_45 rfl ?_
    refine lv_aload_n hx hb dX8_pack_46 rfl (lv_at hl 0 rfl) ?_
    refine va_get (D := D) (ci := 8) (v := .int (q.1 2 3)) (C := RX8) (T := TX8) (N := 5) hx hb hts u9_wsX8_pack_X8 hown hK hP 2 rfl rfl 3 (by decide) (hts (.fieldLink RX8 22 "TurnedFloors$Tower" "paid" "I") f9_wsX8_pack_589) (fun _ h9 => h9) rfl dX8_pack_47 ?_
    refine lv_i2l (v := Int32.toInt64 (q.1 2 3)) hx hb dX8_pack_50 rfl ?_
    refine lv_lor hx hb dX8_pack_51 ?_
    obtain ⟨v1, ev1, h⟩ := dL_some h
    refine kz_topl v1 ev1 ?_
    refine lv_bipush (v := 10) hx hb dX8_pack_52 (by decide) ?_
    refine lv_lshl (v := v1 <<< (Int32.toInt64 (10 : Int32) &&& 63)) hx hb dX8_pack_54 rfl ?_
    refine lv_aload_n hx hb dX8_pack_55 rfl (lv_at hl 0 rfl) ?_
    refine va_get (D := D) (ci := 8) (v := .int (q.1 2 4)) (C := RX8) (T := TX8) (N := 5) hx hb hts u9_wsX8_pack_X8 hown hK hP 2 rfl rfl 4 (by decide) (hts (.fieldLink RX8 25 "TurnedFloors$Tower" "year" "I") f9_wsX8_pack_590) (fun _ h9 => h9) rfl dX8_pack_56 ?_
    refine lv_i2l (v := Int32.toInt64 (q.1 2 4)) hx hb dX8_pack_59 rfl ?_
    refine lv_lor hx hb dX8_pack_60 ?_
    obtain ⟨v2, ev2, h⟩ := dL_some h
    refine kz_topl v2 ev2 ?_
    cases h
    exact kz_lret hx hb hr hlocks hP hK hD hS dX8_pack_61 ⟨rfl, rfl⟩
  · rw [if_neg c9] at h
    refine lv_lload_n hx hb dX8_pack_14 rfl (lv_at hl 1 rfl) ?_
    refine lv_iconst (v := 4) hx hb dX8_pack_15 (by decide) ?_
    refine lv_lshl (v := x1 <<< (Int32.toInt64 (4 : Int32) &&& 63)) hx hb dX8_pack_16 rfl ?_
    refine lv_aload_n hx hb dX8_pack_17 rfl (lv_at hl 0 rfl) ?_
    refine va_get (D := D) (ci := 8) (v := .ref (ad 3)) (C := RX8) (T := TX8) (N := 5) hx hb hts u9_wsX8_pack_X8 hown hK hP 2 rfl rfl 0 (by decide) (hts (.fieldLink RX8 9 "TurnedFloors$Tower" "rank" "[I") f9_wsX8_pack_591) (fun _ h9 => h9) rfl dX8_pack_18 ?_
    refine lv_iload_n hx hb dX8_pack_21 rfl (lv_at hl 2 rfl) ?_
    obtain ⟨g3, h⟩ := dG_some h
    refine va_iald hx hb hK hP 3 0 rfl rfl (dg_in g3) dX8_pack_22 ?_
    obtain ⟨v4, ev4, h⟩ := dL_some h
    refine kz_topi v4 ev4 ?_
    refine lv_iconst (v := 1) hx hb dX8_pack_23 (by decide) ?_
    refine lv_ishl hx hb dX8_pack_24 ?_
    refine lv_i2l (v := Int32.toInt64 (v4 <<< ((1 : Int32) &&& 31) : Int32)) hx hb dX8_pack_25 rfl ?_
    refine lv_lor hx hb dX8_pack_26 ?_
    obtain ⟨v5, ev5, h⟩ := dL_some h
    refine kz_topl v5 ev5 ?_
    refine lv_aload_n hx hb dX8_pack_27 rfl (lv_at hl 0 rfl) ?_
    refine va_get (D := D) (ci := 8) (v := .ref (ad 4)) (C := RX8) (T := TX8) (N := 5) hx hb hts u9_wsX8_pack_X8 hown hK hP 2 rfl rfl 1 (by decide) (hts (.fieldLink RX8 15 "TurnedFloors$Tower" "head" "[I") f9_wsX8_pack_592) (fun _ h9 => h9) rfl dX8_pack_28 ?_
    refine lv_iload_n hx hb dX8_pack_31 rfl (lv_at hl 2 rfl) ?_
    obtain ⟨g6, h⟩ := dG_some h
    refine va_iald hx hb hK hP 4 0 rfl rfl (dg_in g6) dX8_pack_32 ?_
    obtain ⟨v7, ev7, h⟩ := dL_some h
    refine kz_topi v7 ev7 ?_
    refine lv_i2l (v := Int32.toInt64 v7) hx hb dX8_pack_33 rfl ?_
    refine lv_lor hx hb dX8_pack_34 ?_
    refine lv_lstore_n (lv' := [(1, .long (v5 ||| (Int32.toInt64 v7) : Int64)), (0, .ref (ad 2)), (3, .int x3)]) hx hb dX8_pack_35 rfl hl (by decide) rfl (fun ls hl => ?_)
    refine lv_iinc (v := x3 + 1) (lv' := [(3, .int (x3 + 1)), (1, .long (v5 ||| (Int32.toInt64 v7) : Int64)), (0, .ref (ad 2))]) hx hb dX8_pack_36 hl (k := 2) rfl rfl (by decide) rfl (fun ls hl => ?_)
    refine lv_goto (tgt := 8) hx hb dX8_pack_39 (by decide) ?_
    exact hk8 _ _ _ _ _ _ h hP hD hS (lv_sub hl [2, 1, 0] rfl)
set_option maxHeartbeats 4000000 in
set_option maxRecDepth 100000 in
theorem WX8_pack_s2_8 {p : Program} {l : Launch} {e : Env} {s : State} {m : MethodId} {args : Array Value} {below : List Frame} {meth : Method} {c : Code} {D : va_G} {ty : Nat → ClassId} {eo : Nat → Nat} {A : Nat → Prop} {ad : Nat → Nat} {o1 : Int64} {o2 : dK} (C : dc_C p s m args meth c cX8_pack (some .long) 4 RX8 wsX8_pack D ty eo A)   (n : Nat) (q : dK) (x1 : Int64) (x3 : Int32) (H : Heap) (locs : List Loc) (ls : Array Slot) (h : zX8_pack_s2_8  n q x1 x3 = some (o1, o2)) (hP : va_P D vwCl (wF ty ad q) H) (hD : va_D A (wF ty ad q)) (hS : va_S A s.heap H locs) (hl : lv_has ls 4 [(0, .ref (ad 2)), (1, .long x1), (3, .int x3)]) : W p l e ({ frames := 0, cells := 0, slots := 0, locals := 0 } : Room) s m args below meth c H locs 0 0 (MQ below (va_Ql (fun (r : Int64) (u : va_W) => o1 = r ∧ wF ty ad o2 = u) (kz_B D ty A) A) args s 0 0 A) (F0 m 8 ls []) := by
  exact dFix_W (F := fun k (a : dK × Int64 × Int32) => zX8_pack_s2_8b  (fun q x1 x3 => k (q, x1, x3)) a.1 a.2.1 a.2.2) (o := (o1, o2)) (P := fun (a : dK × Int64 × Int32) H locs ls => va_P D vwCl (wF ty ad a.1) H ∧ va_D A (wF ty ad a.1) ∧ va_S A s.heap H locs ∧ lv_has ls 4 [(0, .ref (ad 2)), (1, .long a.2.1), (3, .int a.2.2)]) (G := fun H locs ls => W p l e ({ frames := 0, cells := 0, slots := 0, locals := 0 } : Room) s m args below meth c H locs 0 0 (MQ below (va_Ql (fun (r : Int64) (u : va_W) => o1 = r ∧ wF ty ad o2 = u) (kz_B D ty A) A) args s 0 0 A) (F0 m 8 ls []))
    (fun k hk a H locs ls h hp => WX8_pack_s2_8b C  (fun q x1 x3 H locs ls h h1 h2 h3 h4 => hk (q, x1, x3) H locs ls h ⟨h1, h2, h3, h4⟩) a.1 a.2.1 a.2.2 H locs ls h hp.1 hp.2.1 hp.2.2.1 hp.2.2.2) n (q, x1, x3) H locs ls h ⟨hP, hD, hS, hl⟩
set_option maxHeartbeats 4000000 in
set_option maxRecDepth 100000 in
theorem qX8_pack_s2 (l : Launch) (D : va_G) (ty : Nat → ClassId) (eo : Nat → Nat) (sz : Nat) (ad : Nat → Nat) (q : dK)  (o1 : Int64) (o2 : dK) (h : zX8_pack_s2 q = some (o1, o2)) : Met l yX8_pack wsX8_pack ({ frames := 0, cells := 0, slots := 0, locals := 0 } : Room) (va_Pc [.ref (ad 2)] (kz_pre D ty eo (wF ty ad q) sz)) (va_Ql (fun (r : Int64) (u : va_W) => o1 = r ∧ wF ty ad o2 = u) (kz_B D ty (va_A (wF ty ad q) sz)) (va_A (wF ty ad q) sz)) 0 0 (va_A (wF ty ad q) sz) := by
  refine Met.ofW (cc := cX8_pack) (maxL := 4) (ret := (some .long)) (by decide) rfl ?_
  intro p e s m args below meth c s₁ B hml hv
  obtain ⟨rfl, hsz, hP, hK, hD0, hN, hE⟩ := hv
  have hx := B.exec
  have hb := B.bytes
  have hr := B.returns
  have hts := atoms_spec (ws := wsX8_pack) B.pre
  have hown : s.vm.findClass RX8 = some m.cls := findClass_of_methodNamed B.named
  have hlocks := B.notSynchronized
  subst hsz
  have hD := hD0.self (sz := s.heap.size)
  generalize hAe : va_A (wF ty ad q) s.heap.size = A at hD hE ⊢
  have hA : ∀ q : Nat, s.heap.size ≤ q → A q := fun q h => by rw [← hAe]; exact Or.inr h
  clear hAe
  have hS : va_S A s.heap s.heap [] := va_S.rf
  have hl := lv_entry ([.ref (ad 2)]) (n := 4) (Nat.le_of_ble_eq_true rfl)
  rw [lg_entry_eq]
  generalize (lg_sl ([.ref (ad 2)]) ++ List.replicate (4 - (lg_sl ([.ref (ad 2)])).length) Slot.unset).toArray = ls at hl ⊢
  have hl : lv_has ls 4 [(0, .ref (ad 2))] := hl
  have C : dc_C p s m _ meth c cX8_pack (some .long) 4 RX8 wsX8_pack D ty eo A := ⟨hx, hb, hr, hts, hown, hlocks, hml, hK, hN, hE, hA⟩
  unfold zX8_pack_s2 at h
  refine lv_aload_n hx hb dX8_pack_0 rfl (lv_at hl 0 rfl) ?_
  refine va_get (D := D) (ci := 8) (v := .int (q.1 2 2)) (C := RX8) (T := TX8) (N := 5) hx hb hts u9_wsX8_pack_X8 hown hK hP 2 rfl rfl 2 (by decide) (hts (.fieldLink RX8 18 "TurnedFloors$Tower" "floors" "I") f9_wsX8_pack_593) (fun _ h9 => h9) rfl dX8_pack_1 ?_
  refine lv_i2l (v := Int32.toInt64 (q.1 2 2)) hx hb dX8_pack_4 rfl ?_
  refine lv_lstore_n (lv' := [(1, .long (Int32.toInt64 (q.1 2 2))), (0, .ref (ad 2))]) hx hb dX8_pack_5 rfl hl (by decide) rfl (fun ls hl => ?_)
  refine lv_iconst (v := 0) hx hb dX8_pack_6 (by decide) ?_
  refine lv_istore_n (lv' := [(3, .int 0), (1, .long (Int32.toInt64 (q.1 2 2))), (0, .ref (ad 2))]) hx hb dX8_pack_7 rfl hl (by decide) rfl (fun ls hl => ?_)
  exact WX8_pack_s2_8 C  _ _ _ _ _ _ _ h hP hD hS (lv_sub hl [2, 1, 0] rfl)

set_option maxHeartbeats 4000000 in
set_option maxRecDepth 100000 in
theorem qX0_mark_s10 (l : Launch) (D : va_G) (ty : Nat → ClassId) (eo : Nat → Nat) (sz : Nat) (ad : Nat → Nat) (q : dK)  (o2 : dK) (h : zX0_mark_s10 q = some o2) : Met l yX0_mark wsX0_mark ({ frames := 1, cells := 0, slots := 0, locals := 40 } : Room) (va_Pc [.ref (ad 10)] (kz_pre D ty eo (wF ty ad q) sz)) (va_Qv (fun (u : va_W) => wF ty ad o2 = u) (kz_B D ty (va_A (wF ty ad q) sz)) (va_A (wF ty ad q) sz)) 0 0 (va_A (wF ty ad q) sz) := by
  refine Met.ofW (cc := cX0_mark) (maxL := 1) (ret := none) (by decide) rfl ?_
  intro p e s m args below meth c s₁ B hml hv
  obtain ⟨rfl, hsz, hP, hK, hD0, hN, hE⟩ := hv
  have hx := B.exec
  have hb := B.bytes
  have hr := B.returns
  have hts := atoms_spec (ws := wsX0_mark) B.pre
  have hown : s.vm.findClass RX0 = some m.cls := findClass_of_methodNamed B.named
  have hlocks := B.notSynchronized
  subst hsz
  have hD := hD0.self (sz := s.heap.size)
  generalize hAe : va_A (wF ty ad q) s.heap.size = A at hD hE ⊢
  have hA : ∀ q : Nat, s.heap.size ≤ q → A q := fun q h => by rw [← hAe]; exact Or.inr h
  clear hAe
  have hS : va_S A s.heap s.heap [] := va_S.rf
  have hl := lv_entry ([.ref (ad 10)]) (n := 1) (Nat.le_of_ble_eq_true rfl)
  rw [lg_entry_eq]
  generalize (lg_sl ([.ref (ad 10)]) ++ List.replicate (1 - (lg_sl ([.ref (ad 10)])).length) Slot.unset).toArray = ls at hl ⊢
  have hl : lv_has ls 1 [(0, .ref (ad 10))] := hl
  have C : dc_C p s m _ meth c cX0_mark none 1 RX0 wsX0_mark D ty eo A := ⟨hx, hb, hr, hts, hown, hlocks, hml, hK, hN, hE, hA⟩
  unfold zX0_mark_s10 at h
  refine lv_aload_n hx hb dX0_mark_0 rfl (lv_at hl 0 rfl) ?_
  refine va_get (D := D) (ci := 0) (v := .ref (ad 11)) (C := RX0) (T := TX0) (N := 6) hx hb hts u9_wsX0_mark_X0 hown hK hP 10 rfl rfl 0 (by decide) (hts (.fieldLink RX0 9 "TurnedFloors$History" "towers" "[J") f9_wsX0_mark_595) (fun _ h9 => h9) rfl dX0_mark_1 ?_
  refine lv_iconst (v := 0) hx hb dX0_mark_4 (by decide) ?_
  refine lv_aload_n hx hb dX0_mark_5 rfl (lv_at hl 0 rfl) ?_
  refine va_get (D := D) (ci := 0) (v := .ref (ad 13)) (C := RX0) (T := TX0) (N := 6) hx hb hts u9_wsX0_mark_X0 hown hK hP 10 rfl rfl 3 (by decide) (hts (.fieldLink RX0 23 "TurnedFloors$History" "markedTowers" "[J") f9_wsX0_mark_596) (fun _ h9 => h9) rfl dX0_mark_6 ?_
  refine lv_iconst (v := 0) hx hb dX0_mark_9 (by decide) ?_
  refine lv_bipush (v := 16) hx hb dX0_mark_10 (by decide) ?_
  refine va_copyl hx hb (hml.trans hl.1.symm) hown (hts (.methodLink RX0 32 arraycopyName) f9_wsX0_mark_597) (hts (.native arraycopyName) f9_wsX0_mark_598) (hts (.static arraycopyName) f9_wsX0_mark_599) (hts (.initialized "java/lang/System") f9_wsX0_mark_600) hK hP hD hS 11 13 1 1 rfl rfl rfl rfl rfl (by decide) (by decide) (by decide) (by decide) (by decide) (fun _ _ => rfl) (Nat.le_of_ble_eq_true rfl) (Nat.le_of_ble_eq_true rfl) dX0_mark_12 (fun H locs hp hd hs => ?_)
  obtain ⟨q1, eq1, h⟩ := dL_some h
  refine kz_re (w2 := wF ty ad q1) hp hd hs (by rw [← eq1]; exact rfl) ?_
  clear hp hd hs hP hD hS
  intro hP hD hS
  refine lv_aload_n hx hb dX0_mark_15 rfl (lv_at hl 0 rfl) ?_
  refine va_get (D := D) (ci := 0) (v := .ref (ad 12)) (C := RX0) (T := TX0) (N := 6) hx hb hts u9_wsX0_mark_X0 hown hK hP 10 rfl rfl 1 (by decide) (hts (.fieldLink RX0 15 "TurnedFloors$History" "kinds" "[I") f9_wsX0_mark_601) (fun _ h9 => h9) rfl dX0_mark_16 ?_
  refine lv_iconst (v := 0) hx hb dX0_mark_19 (by decide) ?_
  refine lv_aload_n hx hb dX0_mark_20 rfl (lv_at hl 0 rfl) ?_
  refine va_get (D := D) (ci := 0) (v := .ref (ad 14)) (C := RX0) (T := TX0) (N := 6) hx hb hts u9_wsX0_mark_X0 hown hK hP 10 rfl rfl 4 (by decide) (hts (.fieldLink RX0 26 "TurnedFloors$History" "markedKinds" "[I") f9_wsX0_mark_602) (fun _ h9 => h9) rfl dX0_mark_21 ?_
  refine lv_iconst (v := 0) hx hb dX0_mark_24 (by decide) ?_
  refine lv_bipush (v := 16) hx hb dX0_mark_25 (by decide) ?_
  refine va_copyi hx hb (hml.trans hl.1.symm) hown (hts (.methodLink RX0 32 arraycopyName) f9_wsX0_mark_597) (hts (.native arraycopyName) f9_wsX0_mark_598) (hts (.static arraycopyName) f9_wsX0_mark_599) (hts (.initialized "java/lang/System") f9_wsX0_mark_600) hK hP hD hS 12 14 0 0 rfl rfl rfl rfl rfl (by decide) (by decide) (by decide) (by decide) (by decide) (fun _ _ => rfl) (Nat.le_of_ble_eq_true rfl) (Nat.le_of_ble_eq_true rfl) dX0_mark_27 (fun H locs hp hd hs => ?_)
  obtain ⟨q2, eq2, h⟩ := dL_some h
  refine kz_re (w2 := wF ty ad q2) hp hd hs (by rw [← eq2]; exact rfl) ?_
  clear hp hd hs hP hD hS
  intro hP hD hS
  refine lv_aload_n hx hb dX0_mark_30 rfl (lv_at hl 0 rfl) ?_
  refine lv_aload_n hx hb dX0_mark_31 rfl (lv_at hl 0 rfl) ?_
  refine va_get (D := D) (ci := 0) (v := .int (q2.1 10 2)) (C := RX0) (T := TX0) (N := 6) hx hb hts u9_wsX0_mark_X0 hown hK hP 10 rfl rfl 2 (by decide) (hts (.fieldLink RX0 19 "TurnedFloors$History" "kept" "I") f9_wsX0_mark_603) (fun _ h9 => h9) rfl dX0_mark_32 ?_
  refine va_put (D := D) (ci := 0) (v := .int (q2.1 10 2)) (ty := .int) (C := RX0) (T := TX0) (N := 6) hx hb hts u9_wsX0_mark_X0 tyX0 tyX0_ok nmX0 hown hK hP hD hS 10 rfl rfl 5 (by decide) (hts (.fieldLink RX0 29 "TurnedFloors$History" "markedKept" "I") f9_wsX0_mark_604) (fun _ h9 => h9) rfl (by decide +kernel) rfl rfl (Nat.le_of_ble_eq_true rfl) dX0_mark_35 (fun H locs hp hd hs => ?_)
  obtain ⟨q3, eq3, h⟩ := dL_some h
  refine kz_re (w2 := wF ty ad q3) hp hd hs (by rw [← eq3]; exact wF_f10_5 ty ad q2 (q2.1 10 2)) ?_
  clear hp hd hs hP hD hS
  intro hP hD hS
  cases h
  exact kz_vret hx hb hr hlocks hP hK hD hS dX0_mark_38 rfl

set_option maxHeartbeats 4000000 in
set_option maxRecDepth 100000 in
theorem WX8_anyBetween_s2_32 {p : Program} {l : Launch} {e : Env} {s : State} {m : MethodId} {args : Array Value} {below : List Frame} {meth : Method} {c : Code} {D : va_G} {ty : Nat → ClassId} {eo : Nat → Nat} {A : Nat → Prop} {ad : Nat → Nat} {o1 : Int32} {o2 : dK} (C : dc_C p s m args meth c cX8_anyBetween (some .boolean) 4 RX8 wsX8_anyBetween D ty eo A) {k2 : dK → Int32 → Int32 → Int32 → Option (Int32 × dK)} (hk2 : ∀ (q : dK) (x1 : Int32) (x2 : Int32) (x3 : Int32) (H : Heap) (locs : List Loc) (ls : Array Slot), k2 q x1 x2 x3 = some (o1, o2) → va_P D vwCl (wF ty ad q) H → va_D A (wF ty ad q) → va_S A s.heap H locs → lv_has ls 4 [(0, .ref (ad 2)), (1, .int x1), (2, .int x2), (3, .int x3)] → W p l e ({ frames := 0, cells := 0, slots := 0, locals := 0 } : Room) s m args below meth c H locs 0 0 (MQ below (va_Qi (fun (r : Int32) (u : va_W) => o1 = r ∧ wF ty ad o2 = u) (kz_B D ty A) A) args s 0 0 A) (F0 m 2 ls [])) (q : dK) (x1 : Int32) (x2 : Int32) (x3 : Int32) (H : Heap) (locs : List Loc) (ls : Array Slot) (h : zX8_anyBetween_s2_32 k2 q x1 x2 x3 = some (o1, o2)) (hP : va_P D vwCl (wF ty ad q) H) (hD : va_D A (wF ty ad q)) (hS : va_S A s.heap H locs) (hl : lv_has ls 4 [(0, .ref (ad 2)), (1, .int x1), (2, .int x2), (3, .int x3)]) : W p l e ({ frames := 0, cells := 0, slots := 0, locals := 0 } : Room) s m args below meth c H locs 0 0 (MQ below (va_Qi (fun (r : Int32) (u : va_W) => o1 = r ∧ wF ty ad o2 = u) (kz_B D ty A) A) args s 0 0 A) (F0 m 32 ls []) := by
  have C0 := C
  obtain ⟨hx, hb, hr, hts, hown, hlocks, hml, hK, hN, hE, hA⟩ := C
  unfold zX8_anyBetween_s2_32 at h
  refine lv_iinc (v := x3 + 1) (lv' := [(3, .int (x3 + 1)), (0, .ref (ad 2)), (1, .int x1), (2, .int x2)]) hx hb dX8_anyBetween_32 hl (k := 3) rfl rfl (by decide) rfl (fun ls hl => ?_)
  refine lv_goto (tgt := 2) hx hb dX8_anyBetween_35 (by decide) ?_
  exact hk2 _ _ _ _ _ _ _ h hP hD hS (lv_sub hl [1, 2, 3, 0] rfl)
set_option maxHeartbeats 4000000 in
set_option maxRecDepth 100000 in
theorem WX8_anyBetween_s2_2b {p : Program} {l : Launch} {e : Env} {s : State} {m : MethodId} {args : Array Value} {below : List Frame} {meth : Method} {c : Code} {D : va_G} {ty : Nat → ClassId} {eo : Nat → Nat} {A : Nat → Prop} {ad : Nat → Nat} {o1 : Int32} {o2 : dK} (C : dc_C p s m args meth c cX8_anyBetween (some .boolean) 4 RX8 wsX8_anyBetween D ty eo A) {k2 : dK → Int32 → Int32 → Int32 → Option (Int32 × dK)} (hk2 : ∀ (q : dK) (x1 : Int32) (x2 : Int32) (x3 : Int32) (H : Heap) (locs : List Loc) (ls : Array Slot), k2 q x1 x2 x3 = some (o1, o2) → va_P D vwCl (wF ty ad q) H → va_D A (wF ty ad q) → va_S A s.heap H locs → lv_has ls 4 [(0, .ref (ad 2)), (1, .int x1), (2, .int x2), (3, .int x3)] → W p l e ({ frames := 0, cells := 0, slots := 0, locals := 0 } : Room) s m args below meth c H locs 0 0 (MQ below (va_Qi (fun (r : Int32) (u : va_W) => o1 = r ∧ wF ty ad o2 = u) (kz_B D ty A) A) args s 0 0 A) (F0 m 2 ls [])) (q : dK) (x1 : Int32) (x2 : Int32) (x3 : Int32) (H : Heap) (locs : List Loc) (ls : Array Slot) (h : zX8_anyBetween_s2_2b k2 q x1 x2 x3 = some (o1, o2)) (hP : va_P D vwCl (wF ty ad q) H) (hD : va_D A (wF ty ad q)) (hS : va_S A s.heap H locs) (hl : lv_has ls 4 [(0, .ref (ad 2)), (1, .int x1), (2, .int x2), (3, .int x3)]) : W p l e ({ frames := 0, cells := 0, slots := 0, locals := 0 } : Room) s m args below meth c H locs 0 0 (MQ below (va_Qi (fun (r : Int32) (u : va_W) => o1 = r ∧ wF ty ad o2 = u) (kz_B D ty A) A) args s 0 0 A) (F0 m 2 ls []) := by
  have C0 := C
  obtain ⟨hx, hb, hr, hts, hown, hlocks, hml, hK, hN, hE, hA⟩ := C
  unfold zX8_anyBetween_s2_2b at h
  refine lv_iload_n hx hb dX8_anyBetween_2 rfl (lv_at hl 3 rfl) ?_
  refine lv_aload_n hx hb dX8_anyBetween_3 rfl (lv_at hl 0 rfl) ?_
  refine va_get (D := D) (ci := 8) (v := .int (q.1 2 2)) (C := RX8) (T := TX8) (N := 5) hx hb hts u9_wsX8_anyBetween_X8 hown hK hP 2 rfl rfl 2 (by decide) (hts (.fieldLink RX8 18 "TurnedFloors$Tower" "floors" "I") f9_wsX8_anyBetween_606) (fun _ h9 => h9) rfl dX8_anyBetween_4 ?_
  refine lv_icmp_ge (tgt := 38) hx hb dX8_anyBetween_7 (by decide) (fun c9 => ?_) (fun c9 => ?_)
  · rw [if_pos c9] at h
    refine lv_iconst (v := 0) hx hb dX8_anyBetween_38 (by decide) ?_
    cases h
    exact kz_zret hx hb hr hlocks rfl hP hK hD hS dX8_anyBetween_39 ⟨rfl, rfl⟩
  · rw [if_neg c9] at h
    refine lv_aload_n hx hb dX8_anyBetween_10 rfl (lv_at hl 0 rfl) ?_
    refine va_get (D := D) (ci := 8) (v := .ref (ad 3)) (C := RX8) (T := TX8) (N := 5) hx hb hts u9_wsX8_anyBetween_X8 hown hK hP 2 rfl rfl 0 (by decide) (hts (.fieldLink RX8 9 "TurnedFloors$Tower" "rank" "[I") f9_wsX8_anyBetween_607) (fun _ h9 => h9) rfl dX8_anyBetween_11 ?_
    refine lv_iload_n hx hb dX8_anyBetween_14 rfl (lv_at hl 3 rfl) ?_
    obtain ⟨g1, h⟩ := dG_some h
    refine va_iald hx hb hK hP 3 0 rfl rfl (dg_in g1) dX8_anyBetween_15 ?_
    obtain ⟨v2, ev2, h⟩ := dL_some h
    refine kz_topi v2 ev2 ?_
    refine lv_iload_n hx hb dX8_anyBetween_16 rfl (lv_at hl 1 rfl) ?_
    refine lv_icmp_le (tgt := 32) hx hb dX8_anyBetween_17 (by decide) (fun c9 => ?_) (fun c9 => ?_)
    · rw [if_pos c9] at h
      exact WX8_anyBetween_s2_32 C0 hk2 _ _ _ _ _ _ _ h hP hD hS (lv_sub hl [0, 1, 2, 3] rfl)
    · rw [if_neg c9] at h
      refine lv_aload_n hx hb dX8_anyBetween_20 rfl (lv_at hl 0 rfl) ?_
      refine va_get (D := D) (ci := 8) (v := .ref (ad 3)) (C := RX8) (T := TX8) (N := 5) hx hb hts u9_wsX8_anyBetween_X8 hown hK hP 2 rfl rfl 0 (by decide) (hts (.fieldLink RX8 9 "TurnedFloors$Tower" "rank" "[I") f9_wsX8_anyBetween_607) (fun _ h9 => h9) rfl dX8_anyBetween_21 ?_
      refine lv_iload_n hx hb dX8_anyBetween_24 rfl (lv_at hl 3 rfl) ?_
      obtain ⟨g3, h⟩ := dG_some h
      refine va_iald hx hb hK hP 3 0 rfl rfl (dg_in g3) dX8_anyBetween_25 ?_
      obtain ⟨v4, ev4, h⟩ := dL_some h
      refine kz_topi v4 ev4 ?_
      refine lv_iload_n hx hb dX8_anyBetween_26 rfl (lv_at hl 2 rfl) ?_
      refine lv_icmp_ge (tgt := 32) hx hb dX8_anyBetween_27 (by decide) (fun c9 => ?_) (fun c9 => ?_)
      · rw [if_pos c9] at h
        exact WX8_anyBetween_s2_32 C0 hk2 _ _ _ _ _ _ _ h hP hD hS (lv_sub hl [0, 1, 2, 3] rfl)
      · rw [if_neg c9] at h
        refine lv_iconst (v := 1) hx hb dX8_anyBetween_30 (by decide) ?_
        cases h
        exact kz_zret hx hb hr hlocks rfl hP hK hD hS dX8_anyBetween_31 ⟨rfl, rfl⟩
set_option maxHeartbeats 4000000 in
set_option maxRecDepth 100000 in
theorem WX8_anyBetween_s2_2 {p : Program} {l : Launch} {e : Env} {s : State} {m : MethodId} {args : Array Value} {below : List Frame} {meth : Method} {c : Code} {D : va_G} {ty : Nat → ClassId} {eo : Nat → Nat} {A : Nat → Prop} {ad : Nat → Nat} {o1 : Int32} {o2 : dK} (C : dc_C p s m args meth c cX8_anyBetween (some .boolean) 4 RX8 wsX8_anyBetween D ty eo A)   (n : Nat) (q : dK) (x1 : Int32) (x2 : Int32) (x3 : Int32) (H : Heap) (locs : List Loc) (ls : Array Slot) (h : zX8_anyBetween_s2_2  n q x1 x2 x3 = some (o1, o2)) (hP : va_P D vwCl (wF ty ad q) H) (hD : va_D A (wF ty ad q)) (hS : va_S A s.heap H locs) (hl : lv_has ls 4 [(0, .ref (ad 2)), (1, .int x1), (2, .int x2), (3, .int x3)]) : W p l e ({ frames := 0, cells := 0, slots := 0, locals := 0 } : Room) s m args below meth c H locs 0 0 (MQ below (va_Qi (fun (r : Int32) (u : va_W) => o1 = r ∧ wF ty ad o2 = u) (kz_B D ty A) A) args s 0 0 A) (F0 m 2 ls []) := by
  exact dFix_W (F := fun k (a : dK × Int32 × Int32 × Int32) => zX8_anyBetween_s2_2b  (fun q x1 x2 x3 => k (q, x1, x2, x3)) a.1 a.2.1 a.2.2.1 a.2.2.2) (o := (o1, o2)) (P := fun (a : dK × Int32 × Int32 × Int32) H locs ls => va_P D vwCl (wF ty ad a.1) H ∧ va_D A (wF ty ad a.1) ∧ va_S A s.heap H locs ∧ lv_has ls 4 [(0, .ref (ad 2)), (1, .int a.2.1), (2, .int a.2.2.1), (3, .int a.2.2.2)]) (G := fun H locs ls => W p l e ({ frames := 0, cells := 0, slots := 0, locals := 0 } : Room) s m args below meth c H locs 0 0 (MQ below (va_Qi (fun (r : Int32) (u : va_W) => o1 = r ∧ wF ty ad o2 = u) (kz_B D ty A) A) args s 0 0 A) (F0 m 2 ls []))
    (fun k hk a H locs ls h hp => WX8_anyBetween_s2_2b C  (fun q x1 x2 x3 H locs ls h h1 h2 h3 h4 => hk (q, x1, x2, x3) H locs ls h ⟨h1, h2, h3, h4⟩) a.1 a.2.1 a.2.2.1 a.2.2.2 H locs ls h hp.1 hp.2.1 hp.2.2.1 hp.2.2.2) n (q, x1, x2, x3) H locs ls h ⟨hP, hD, hS, hl⟩
set_option maxHeartbeats 4000000 in
set_option maxRecDepth 100000 in
theorem qX8_anyBetween_s2 (l : Launch) (D : va_G) (ty : Nat → ClassId) (eo : Nat → Nat) (sz : Nat) (ad : Nat → Nat) (q : dK) (p1 : Int32) (p2 : Int32) (o1 : Int32) (o2 : dK) (h : zX8_anyBetween_s2 q p1 p2 = some (o1, o2)) : Met l yX8_anyBetween wsX8_anyBetween ({ frames := 0, cells := 0, slots := 0, locals := 0 } : Room) (va_Pc [.ref (ad 2), .int p1, .int p2] (kz_pre D ty eo (wF ty ad q) sz)) (va_Qi (fun (r : Int32) (u : va_W) => o1 = r ∧ wF ty ad o2 = u) (kz_B D ty (va_A (wF ty ad q) sz)) (va_A (wF ty ad q) sz)) 0 0 (va_A (wF ty ad q) sz) := by
  refine Met.ofW (cc := cX8_anyBetween) (maxL := 4) (ret := (some .boolean)) (by decide) rfl ?_
  intro p e s m args below meth c s₁ B hml hv
  obtain ⟨rfl, hsz, hP, hK, hD0, hN, hE⟩ := hv
  have hx := B.exec
  have hb := B.bytes
  have hr := B.returns
  have hts := atoms_spec (ws := wsX8_anyBetween) B.pre
  have hown : s.vm.findClass RX8 = some m.cls := findClass_of_methodNamed B.named
  have hlocks := B.notSynchronized
  subst hsz
  have hD := hD0.self (sz := s.heap.size)
  generalize hAe : va_A (wF ty ad q) s.heap.size = A at hD hE ⊢
  have hA : ∀ q : Nat, s.heap.size ≤ q → A q := fun q h => by rw [← hAe]; exact Or.inr h
  clear hAe
  have hS : va_S A s.heap s.heap [] := va_S.rf
  have hl := lv_entry ([.ref (ad 2), .int p1, .int p2]) (n := 4) (Nat.le_of_ble_eq_true rfl)
  rw [lg_entry_eq]
  generalize (lg_sl ([.ref (ad 2), .int p1, .int p2]) ++ List.replicate (4 - (lg_sl ([.ref (ad 2), .int p1, .int p2])).length) Slot.unset).toArray = ls at hl ⊢
  have hl : lv_has ls 4 [(0, .ref (ad 2)), (1, .int p1), (2, .int p2)] := hl
  have C : dc_C p s m _ meth c cX8_anyBetween (some .boolean) 4 RX8 wsX8_anyBetween D ty eo A := ⟨hx, hb, hr, hts, hown, hlocks, hml, hK, hN, hE, hA⟩
  unfold zX8_anyBetween_s2 at h
  refine lv_iconst (v := 0) hx hb dX8_anyBetween_0 (by decide) ?_
  refine lv_istore_n (lv' := [(3, .int 0), (0, .ref (ad 2)), (1, .int p1), (2, .int p2)]) hx hb dX8_anyBetween_1 rfl hl (by decide) rfl (fun ls hl => ?_)
  exact WX8_anyBetween_s2_2 C  _ _ _ _ _ _ _ _ h hP hD hS (lv_sub hl [1, 2, 3, 0] rfl)

set_option maxHeartbeats 4000000 in
set_option maxRecDepth 100000 in
theorem WX8_gapCount_s2_97 {p : Program} {l : Launch} {e : Env} {s : State} {m : MethodId} {args : Array Value} {below : List Frame} {meth : Method} {c : Code} {D : va_G} {ty : Nat → ClassId} {eo : Nat → Nat} {A : Nat → Prop} {ad : Nat → Nat} {o1 : Int32} {o2 : dK} (C : dc_C p s m args meth c cX8_gapCount (some .int) 3 RX8 wsX8_gapCount D ty eo A)   (q : dK) (y0 : Int32) (H : Heap) (locs : List Loc) (ls : Array Slot) (h : zX8_gapCount_s2_97  q y0 = some (o1, o2)) (hP : va_P D vwCl (wF ty ad q) H) (hD : va_D A (wF ty ad q)) (hS : va_S A s.heap H locs) (hl : lv_has ls 3 []) : W p l e ({ frames := 1, cells := 0, slots := 0, locals := 23 } : Room) s m args below meth c H locs 0 0 (MQ below (va_Qi (fun (r : Int32) (u : va_W) => o1 = r ∧ wF ty ad o2 = u) (kz_B D ty A) A) args s 0 0 A) (F0 m 97 ls [.int y0]) := by
  have C0 := C
  obtain ⟨hx, hb, hr, hts, hown, hlocks, hml, hK, hN, hE, hA⟩ := C
  unfold zX8_gapCount_s2_97 at h
  cases h
  exact kz_iret hx hb hr hlocks hP hK hD hS dX8_gapCount_97 ⟨rfl, rfl⟩
set_option maxHeartbeats 4000000 in
set_option maxRecDepth 100000 in
theorem WX8_gapCount_s2_4b {p : Program} {l : Launch} {e : Env} {s : State} {m : MethodId} {args : Array Value} {below : List Frame} {meth : Method} {c : Code} {D : va_G} {ty : Nat → ClassId} {eo : Nat → Nat} {A : Nat → Prop} {ad : Nat → Nat} {o1 : Int32} {o2 : dK} (C : dc_C p s m args meth c cX8_gapCount (some .int) 3 RX8 wsX8_gapCount D ty eo A) {k4 : dK → Int32 → Int32 → Option (Int32 × dK)} (hk4 : ∀ (q : dK) (x1 : Int32) (x2 : Int32) (H : Heap) (locs : List Loc) (ls : Array Slot), k4 q x1 x2 = some (o1, o2) → va_P D vwCl (wF ty ad q) H → va_D A (wF ty ad q) → va_S A s.heap H locs → lv_has ls 3 [(0, .ref (ad 2)), (1, .int x1), (2, .int x2)] → W p l e ({ frames := 1, cells := 0, slots := 0, locals := 23 } : Room) s m args below meth c H locs 0 0 (MQ below (va_Qi (fun (r : Int32) (u : va_W) => o1 = r ∧ wF ty ad o2 = u) (kz_B D ty A) A) args s 0 0 A) (F0 m 4 ls [])) (q : dK) (x1 : Int32) (x2 : Int32) (H : Heap) (locs : List Loc) (ls : Array Slot) (h : zX8_gapCount_s2_4b k4 q x1 x2 = some (o1, o2)) (hP : va_P D vwCl (wF ty ad q) H) (hD : va_D A (wF ty ad q)) (hS : va_S A s.heap H locs) (hl : lv_has ls 3 [(0, .ref (ad 2)), (1, .int x1), (2, .int x2)]) : W p l e ({ frames := 1, cells := 0, slots := 0, locals := 23 } : Room) s m args below meth c H locs 0 0 (MQ below (va_Qi (fun (r : Int32) (u : va_W) => o1 = r ∧ wF ty ad o2 = u) (kz_B D ty A) A) args s 0 0 A) (F0 m 4 ls []) := by
  have C0 := C
  obtain ⟨hx, hb, hr, hts, hown, hlocks, hml, hK, hN, hE, hA⟩ := C
  unfold zX8_gapCount_s2_4b at h
  refine lv_iload_n hx hb dX8_gapCount_4 rfl (lv_at hl 2 rfl) ?_
  refine lv_iconst (v := 1) hx hb dX8_gapCount_5 (by decide) ?_
  refine lv_iadd hx hb dX8_gapCount_6 ?_
  refine lv_aload_n hx hb dX8_gapCount_7 rfl (lv_at hl 0 rfl) ?_
  refine va_get (D := D) (ci := 8) (v := .int (q.1 2 2)) (C := RX8) (T := TX8) (N := 5) hx hb hts u9_wsX8_gapCount_X8 hown hK hP 2 rfl rfl 2 (by decide) (hts (.fieldLink RX8 18 "TurnedFloors$Tower" "floors" "I") f9_wsX8_gapCount_609) (fun _ h9 => h9) rfl dX8_gapCount_8 ?_
  refine lv_icmp_ge (tgt := 64) hx hb dX8_gapCount_11 (by decide) (fun c9 => ?_) (fun c9 => ?_)
  · rw [if_pos c9] at h
    refine lv_aload_n hx hb dX8_gapCount_64 rfl (lv_at hl 0 rfl) ?_
    refine va_get (D := D) (ci := 8) (v := .int (q.1 2 2)) (C := RX8) (T := TX8) (N := 5) hx hb hts u9_wsX8_gapCount_X8 hown hK hP 2 rfl rfl 2 (by decide) (hts (.fieldLink RX8 18 "TurnedFloors$Tower" "floors" "I") f9_wsX8_gapCount_609) (fun _ h9 => h9) rfl dX8_gapCount_65 ?_
    refine lv_if_ne (tgt := 75) hx hb dX8_gapCount_68 (by decide) (fun c9 => ?_) (fun c9 => ?_)
    · rw [if_neg c9] at h
      refine lv_iload_n hx hb dX8_gapCount_75 rfl (lv_at hl 1 rfl) ?_
      refine lv_aload_n hx hb dX8_gapCount_76 rfl (lv_at hl 0 rfl) ?_
      refine lv_aload_n hx hb dX8_gapCount_77 rfl (lv_at hl 0 rfl) ?_
      refine va_get (D := D) (ci := 8) (v := .ref (ad 3)) (C := RX8) (T := TX8) (N := 5) hx hb hts u9_wsX8_gapCount_X8 hown hK hP 2 rfl rfl 0 (by decide) (hts (.fieldLink RX8 9 "TurnedFloors$Tower" "rank" "[I") f9_wsX8_gapCount_610) (fun _ h9 => h9) rfl dX8_gapCount_78 ?_
      refine lv_aload_n hx hb dX8_gapCount_81 rfl (lv_at hl 0 rfl) ?_
      refine va_get (D := D) (ci := 8) (v := .int (q.1 2 2)) (C := RX8) (T := TX8) (N := 5) hx hb hts u9_wsX8_gapCount_X8 hown hK hP 2 rfl rfl 2 (by decide) (hts (.fieldLink RX8 18 "TurnedFloors$Tower" "floors" "I") f9_wsX8_gapCount_609) (fun _ h9 => h9) rfl dX8_gapCount_82 ?_
      refine lv_iconst (v := 1) hx hb dX8_gapCount_85 (by decide) ?_
      refine lv_isub hx hb dX8_gapCount_86 ?_
      obtain ⟨g1, h⟩ := dG_some h
      refine va_iald hx hb hK hP 3 0 rfl rfl (dg_in g1) dX8_gapCount_87 ?_
      obtain ⟨v2, ev2, h⟩ := dL_some h
      refine kz_topi v2 ev2 ?_
      refine lv_bipush (v := 6) hx hb dX8_gapCount_88 (by decide) ?_
      obtain ⟨r3, q5, h4, h⟩ := dB_some h
      refine dw_ki (va_runV (As := [.int v2, .int 6]) (rest := [.int x1]) ⟨hx, hb, hml, hown, hts⟩ (qX8_anyBetween_s2 l D ty eo _ ad q v2 6 r3 q5 h4) (cwV 2 hts gX8_gapCount_X8_anyBetween rfl rfl rfl hd_X8_anyBetween_v ⟨Nat.le_of_ble_eq_true rfl, Nat.le_of_ble_eq_true rfl⟩) (pvF_8_2 hK hN hE hP hD hS hA) rfl rfl hl.1 rfl (lv_room (Nat.le_of_ble_eq_true rfl)) dX8_gapCount_90 ⟨Nat.le_of_ble_eq_true rfl, Nat.le_of_ble_eq_true rfl⟩) hD hS hA (fun r9 u9 H locs hw hp hd hs => ?_)
      clear hP hD hS
      obtain ⟨rfl, rfl⟩ := hw
      have hP := hp; have hD := hd; have hS := hs; clear hp hd hs
      obtain ⟨r6, h7, h⟩ := dV_some h
      refine dw_ks (va_runSN (As := [.int r3]) (rest := [.int x1]) ⟨hx, hb, hml, hown, hts⟩ (qX9_bit l D ty eo _ r3 _ h7) ⟨va_cnB 1 hts gX8_gapCount_X9_bit_n79 rfl rfl rfl (hN.1 _ (by decide +kernel : (.methodLinkNest "TurnedFloors$Tower" 79 yX9_bit "TurnedFloors" : Cond) ∈ kzN1)) (hts (.initialized RX9) f9_wsX8_gapCount_611) (by decide +kernel) ⟨Nat.le_of_ble_eq_true rfl, Nat.le_of_ble_eq_true rfl⟩, hts (.static yX9_bit) (by decide +kernel), trivial⟩ (pvS_0 hK hN hE hP hD hS hA) rfl rfl hl.1 rfl (lv_room (Nat.le_of_ble_eq_true rfl)) dX8_gapCount_93 ⟨Nat.le_of_ble_eq_true rfl, Nat.le_of_ble_eq_true rfl⟩) hP hD hS hA (fun _ _ h9 => h9.2.symm) (fun r9 u9 H locs hw hp hd hs => ?_)
      obtain ⟨rfl, -⟩ := hw
      clear hP hD hS
      have hP := hp; have hD := hd; have hS := hs; clear hp hd hs
      refine lv_iadd hx hb dX8_gapCount_96 ?_
      exact WX8_gapCount_s2_97 C0  _ _ _ _ _ h hP hD hS (lv_sub hl [] rfl)
    · rw [if_pos c9] at h
      refine lv_iconst (v := 0) hx hb dX8_gapCount_71 (by decide) ?_
      refine lv_goto (tgt := 97) hx hb dX8_gapCount_72 (by decide) ?_
      exact WX8_gapCount_s2_97 C0  _ _ _ _ _ h hP hD hS (lv_sub hl [] rfl)
  · rw [if_neg c9] at h
    refine lv_iload_n hx hb dX8_gapCount_14 rfl (lv_at hl 1 rfl) ?_
    refine lv_aload_n hx hb dX8_gapCount_15 rfl (lv_at hl 0 rfl) ?_
    refine lv_aload_n hx hb dX8_gapCount_16 rfl (lv_at hl 0 rfl) ?_
    refine va_get (D := D) (ci := 8) (v := .ref (ad 3)) (C := RX8) (T := TX8) (N := 5) hx hb hts u9_wsX8_gapCount_X8 hown hK hP 2 rfl rfl 0 (by decide) (hts (.fieldLink RX8 9 "TurnedFloors$Tower" "rank" "[I") f9_wsX8_gapCount_610) (fun _ h9 => h9) rfl dX8_gapCount_17 ?_
    refine lv_iload_n hx hb dX8_gapCount_20 rfl (lv_at hl 2 rfl) ?_
    obtain ⟨g8, h⟩ := dG_some h
    refine va_iald hx hb hK hP 3 0 rfl rfl (dg_in g8) dX8_gapCount_21 ?_
    obtain ⟨v9, ev9, h⟩ := dL_some h
    refine kz_topi v9 ev9 ?_
    refine lv_aload_n hx hb dX8_gapCount_22 rfl (lv_at hl 0 rfl) ?_
    refine va_get (D := D) (ci := 8) (v := .ref (ad 3)) (C := RX8) (T := TX8) (N := 5) hx hb hts u9_wsX8_gapCount_X8 hown hK hP 2 rfl rfl 0 (by decide) (hts (.fieldLink RX8 9 "TurnedFloors$Tower" "rank" "[I") f9_wsX8_gapCount_610) (fun _ h9 => h9) rfl dX8_gapCount_23 ?_
    refine lv_iload_n hx hb dX8_gapCount_26 rfl (lv_at hl 2 rfl) ?_
    refine lv_iconst (v := 1) hx hb dX8_gapCount_27 (by decide) ?_
    refine lv_iadd hx hb dX8_gapCount_28 ?_
    obtain ⟨g10, h⟩ := dG_some h
    refine va_iald hx hb hK hP 3 0 rfl rfl (dg_in g10) dX8_gapCount_29 ?_
    obtain ⟨v11, ev11, h⟩ := dL_some h
    refine kz_topi v11 ev11 ?_
    refine va_mmin hx hb (hml.trans hl.1.symm) hown (hts (.methodLink RX8 41 Lib.Math.min.name) f9_wsX8_gapCount_612) (hts (.static Lib.Math.min.name) f9_wsX8_gapCount_613) (hts (.initialized "java/lang/Math") f9_wsX8_gapCount_614) (hts (.code Lib.Math.min.name Lib.Math.min.code 2 (some .int)) f9_wsX8_gapCount_615) (Nat.le_of_ble_eq_true rfl) (Nat.le_of_ble_eq_true rfl) (Nat.le_of_ble_eq_true rfl) (Nat.le_of_ble_eq_true rfl) dX8_gapCount_30 ?_
    refine kz_topi (mnI v9 v11) rfl ?_
    refine lv_aload_n hx hb dX8_gapCount_33 rfl (lv_at hl 0 rfl) ?_
    refine va_get (D := D) (ci := 8) (v := .ref (ad 3)) (C := RX8) (T := TX8) (N := 5) hx hb hts u9_wsX8_gapCount_X8 hown hK hP 2 rfl rfl 0 (by decide) (hts (.fieldLink RX8 9 "TurnedFloors$Tower" "rank" "[I") f9_wsX8_gapCount_610) (fun _ h9 => h9) rfl dX8_gapCount_34 ?_
    refine lv_iload_n hx hb dX8_gapCount_37 rfl (lv_at hl 2 rfl) ?_
    obtain ⟨g12, h⟩ := dG_some h
    refine va_iald hx hb hK hP 3 0 rfl rfl (dg_in g12) dX8_gapCount_38 ?_
    obtain ⟨v13, ev13, h⟩ := dL_some h
    refine kz_topi v13 ev13 ?_
    refine lv_aload_n hx hb dX8_gapCount_39 rfl (lv_at hl 0 rfl) ?_
    refine va_get (D := D) (ci := 8) (v := .ref (ad 3)) (C := RX8) (T := TX8) (N := 5) hx hb hts u9_wsX8_gapCount_X8 hown hK hP 2 rfl rfl 0 (by decide) (hts (.fieldLink RX8 9 "TurnedFloors$Tower" "rank" "[I") f9_wsX8_gapCount_610) (fun _ h9 => h9) rfl dX8_gapCount_40 ?_
    refine lv_iload_n hx hb dX8_gapCount_43 rfl (lv_at hl 2 rfl) ?_
    refine lv_iconst (v := 1) hx hb dX8_gapCount_44 (by decide) ?_
    refine lv_iadd hx hb dX8_gapCount_45 ?_
    obtain ⟨g14, h⟩ := dG_some h
    refine va_iald hx hb hK hP 3 0 rfl rfl (dg_in g14) dX8_gapCount_46 ?_
    obtain ⟨v15, ev15, h⟩ := dL_some h
    refine kz_topi v15 ev15 ?_
    refine va_mmax hx hb (hml.trans hl.1.symm) hown (hts (.methodLink RX8 88 Lib.Math.max.name) f9_wsX8_gapCount_616) (hts (.static Lib.Math.max.name) f9_wsX8_gapCount_617) (hts (.initialized "java/lang/Math") f9_wsX8_gapCount_614) (hts (.code Lib.Math.max.name Lib.Math.max.code 2 (some .int)) f9_wsX8_gapCount_618) (Nat.le_of_ble_eq_true rfl) (Nat.le_of_ble_eq_true rfl) (Nat.le_of_ble_eq_true rfl) (Nat.le_of_ble_eq_true rfl) dX8_gapCount_47 ?_
    refine kz_topi (mxI v13 v15) rfl ?_
    obtain ⟨r16, q18, h17, h⟩ := dB_some h
    refine dw_ki (va_runV (As := [.int (mnI v9 v11), .int (mxI v13 v15)]) (rest := [.int x1]) ⟨hx, hb, hml, hown, hts⟩ (qX8_anyBetween_s2 l D ty eo _ ad q (mnI v9 v11) (mxI v13 v15) r16 q18 h17) (cwV 2 hts gX8_gapCount_X8_anyBetween rfl rfl rfl hd_X8_anyBetween_v ⟨Nat.le_of_ble_eq_true rfl, Nat.le_of_ble_eq_true rfl⟩) (pvF_8_2 hK hN hE hP hD hS hA) rfl rfl hl.1 rfl (lv_room (Nat.le_of_ble_eq_true rfl)) dX8_gapCount_50 ⟨Nat.le_of_ble_eq_true rfl, Nat.le_of_ble_eq_true rfl⟩) hD hS hA (fun r9 u9 H locs hw hp hd hs => ?_)
    clear hP hD hS
    obtain ⟨rfl, rfl⟩ := hw
    have hP := hp; have hD := hd; have hS := hs; clear hp hd hs
    obtain ⟨r19, h20, h⟩ := dV_some h
    refine dw_ks (va_runSN (As := [.int r16]) (rest := [.int x1]) ⟨hx, hb, hml, hown, hts⟩ (qX9_bit l D ty eo _ r16 _ h20) ⟨va_cnB 1 hts gX8_gapCount_X9_bit_n79 rfl rfl rfl (hN.1 _ (by decide +kernel : (.methodLinkNest "TurnedFloors$Tower" 79 yX9_bit "TurnedFloors" : Cond) ∈ kzN1)) (hts (.initialized RX9) f9_wsX8_gapCount_611) (by decide +kernel) ⟨Nat.le_of_ble_eq_true rfl, Nat.le_of_ble_eq_true rfl⟩, hts (.static yX9_bit) (by decide +kernel), trivial⟩ (pvS_0 hK hN hE hP hD hS hA) rfl rfl hl.1 rfl (lv_room (Nat.le_of_ble_eq_true rfl)) dX8_gapCount_53 ⟨Nat.le_of_ble_eq_true rfl, Nat.le_of_ble_eq_true rfl⟩) hP hD hS hA (fun _ _ h9 => h9.2.symm) (fun r9 u9 H locs hw hp hd hs => ?_)
    obtain ⟨rfl, -⟩ := hw
    clear hP hD hS
    have hP := hp; have hD := hd; have hS := hs; clear hp hd hs
    refine lv_iadd hx hb dX8_gapCount_56 ?_
    refine lv_istore_n (lv' := [(1, .int (x1 + r19)), (0, .ref (ad 2)), (2, .int x2)]) hx hb dX8_gapCount_57 rfl hl (by decide) rfl (fun ls hl => ?_)
    refine lv_iinc (v := x2 + 1) (lv' := [(2, .int (x2 + 1)), (1, .int (x1 + r19)), (0, .ref (ad 2))]) hx hb dX8_gapCount_58 hl (k := 2) rfl rfl (by decide) rfl (fun ls hl => ?_)
    refine lv_goto (tgt := 4) hx hb dX8_gapCount_61 (by decide) ?_
    exact hk4 _ _ _ _ _ _ h hP hD hS (lv_sub hl [2, 1, 0] rfl)
set_option maxHeartbeats 4000000 in
set_option maxRecDepth 100000 in
theorem WX8_gapCount_s2_4 {p : Program} {l : Launch} {e : Env} {s : State} {m : MethodId} {args : Array Value} {below : List Frame} {meth : Method} {c : Code} {D : va_G} {ty : Nat → ClassId} {eo : Nat → Nat} {A : Nat → Prop} {ad : Nat → Nat} {o1 : Int32} {o2 : dK} (C : dc_C p s m args meth c cX8_gapCount (some .int) 3 RX8 wsX8_gapCount D ty eo A)   (n : Nat) (q : dK) (x1 : Int32) (x2 : Int32) (H : Heap) (locs : List Loc) (ls : Array Slot) (h : zX8_gapCount_s2_4  n q x1 x2 = some (o1, o2)) (hP : va_P D vwCl (wF ty ad q) H) (hD : va_D A (wF ty ad q)) (hS : va_S A s.heap H locs) (hl : lv_has ls 3 [(0, .ref (ad 2)), (1, .int x1), (2, .int x2)]) : W p l e ({ frames := 1, cells := 0, slots := 0, locals := 23 } : Room) s m args below meth c H locs 0 0 (MQ below (va_Qi (fun (r : Int32) (u : va_W) => o1 = r ∧ wF ty ad o2 = u) (kz_B D ty A) A) args s 0 0 A) (F0 m 4 ls []) := by
  exact dFix_W (F := fun k (a : dK × Int32 × Int32) => zX8_gapCount_s2_4b  (fun q x1 x2 => k (q, x1, x2)) a.1 a.2.1 a.2.2) (o := (o1, o2)) (P := fun (a : dK × Int32 × Int32) H locs ls => va_P D vwCl (wF ty ad a.1) H ∧ va_D A (wF ty ad a.1) ∧ va_S A s.heap H locs ∧ lv_has ls 3 [(0, .ref (ad 2)), (1, .int a.2.1), (2, .int a.2.2)]) (G := fun H locs ls => W p l e ({ frames := 1, cells := 0, slots := 0, locals := 23 } : Room) s m args below meth c H locs 0 0 (MQ below (va_Qi (fun (r : Int32) (u : va_W) => o1 = r ∧ wF ty ad o2 = u) (kz_B D ty A) A) args s 0 0 A) (F0 m 4 ls []))
    (fun k hk a H locs ls h hp => WX8_gapCount_s2_4b C  (fun q x1 x2 H locs ls h h1 h2 h3 h4 => hk (q, x1, x2) H locs ls h ⟨h1, h2, h3, h4⟩) a.1 a.2.1 a.2.2 H locs ls h hp.1 hp.2.1 hp.2.2.1 hp.2.2.2) n (q, x1, x2) H locs ls h ⟨hP, hD, hS, hl⟩
set_option maxHeartbeats 4000000 in
set_option maxRecDepth 100000 in
theorem qX8_gapCount_s2 (l : Launch) (D : va_G) (ty : Nat → ClassId) (eo : Nat → Nat) (sz : Nat) (ad : Nat → Nat) (q : dK)  (o1 : Int32) (o2 : dK) (h : zX8_gapCount_s2 q = some (o1, o2)) : Met l yX8_gapCount wsX8_gapCount ({ frames := 1, cells := 0, slots := 0, locals := 23 } : Room) (va_Pc [.ref (ad 2)] (kz_pre D ty eo (wF ty ad q) sz)) (va_Qi (fun (r : Int32) (u : va_W) => o1 = r ∧ wF ty ad o2 = u) (kz_B D ty (va_A (wF ty ad q) sz)) (va_A (wF ty ad q) sz)) 0 0 (va_A (wF ty ad q) sz) := by
  refine Met.ofW (cc := cX8_gapCount) (maxL := 3) (ret := (some .int)) (by decide) rfl ?_
  intro p e s m args below meth c s₁ B hml hv
  obtain ⟨rfl, hsz, hP, hK, hD0, hN, hE⟩ := hv
  have hx := B.exec
  have hb := B.bytes
  have hr := B.returns
  have hts := atoms_spec (ws := wsX8_gapCount) B.pre
  have hown : s.vm.findClass RX8 = some m.cls := findClass_of_methodNamed B.named
  have hlocks := B.notSynchronized
  subst hsz
  have hD := hD0.self (sz := s.heap.size)
  generalize hAe : va_A (wF ty ad q) s.heap.size = A at hD hE ⊢
  have hA : ∀ q : Nat, s.heap.size ≤ q → A q := fun q h => by rw [← hAe]; exact Or.inr h
  clear hAe
  have hS : va_S A s.heap s.heap [] := va_S.rf
  have hl := lv_entry ([.ref (ad 2)]) (n := 3) (Nat.le_of_ble_eq_true rfl)
  rw [lg_entry_eq]
  generalize (lg_sl ([.ref (ad 2)]) ++ List.replicate (3 - (lg_sl ([.ref (ad 2)])).length) Slot.unset).toArray = ls at hl ⊢
  have hl : lv_has ls 3 [(0, .ref (ad 2))] := hl
  have C : dc_C p s m _ meth c cX8_gapCount (some .int) 3 RX8 wsX8_gapCount D ty eo A := ⟨hx, hb, hr, hts, hown, hlocks, hml, hK, hN, hE, hA⟩
  unfold zX8_gapCount_s2 at h
  refine lv_iconst (v := 0) hx hb dX8_gapCount_0 (by decide) ?_
  refine lv_istore_n (lv' := [(1, .int 0), (0, .ref (ad 2))]) hx hb dX8_gapCount_1 rfl hl (by decide) rfl (fun ls hl => ?_)
  refine lv_iconst (v := 0) hx hb dX8_gapCount_2 (by decide) ?_
  refine lv_istore_n (lv' := [(2, .int 0), (1, .int 0), (0, .ref (ad 2))]) hx hb dX8_gapCount_3 rfl hl (by decide) rfl (fun ls hl => ?_)
  exact WX8_gapCount_s2_4 C  _ _ _ _ _ _ _ h hP hD hS (lv_sub hl [2, 1, 0] rfl)
end
section
set_option maxRecDepth 20000 in
theorem ggX5_setWords_X8_gapCount : GoodIn wsX5_setWords wsX8_gapCount := wd_c vW9_ok mvW9_386
set_option maxRecDepth 20000 in
theorem gX5_setWords_X8_gapCount : GoodIn wsX5_setWords (wsV RX5 92 RX8 yX8_gapCount wsX8_gapCount) := goodIn_app (wd_l vW9_ok _ pvW9_71) ggX5_setWords_X8_gapCount
set_option maxRecDepth 20000 in
theorem ggX5_setWords_X8_tell : GoodIn wsX5_setWords wsX8_tell := wd_c vW9_ok mvW9_101
set_option maxRecDepth 20000 in
theorem gX5_setWords_X8_tell : GoodIn wsX5_setWords (wsV RX5 96 RX8 yX8_tell wsX8_tell) := goodIn_app (wd_l vW9_ok _ pvW9_72) ggX5_setWords_X8_tell
theorem da9_dX5_setWords_0 : (decode cX5_setWords 0 = .ok (.aload_n 0, 1)) ∧ (decode cX5_setWords 1 = .ok (.getfield 11, 3)) ∧ (decode cX5_setWords 4 = .ok (.iconst 0, 1)) ∧ (decode cX5_setWords 5 = .ok (.aload_n 1, 1)) ∧ (decode cX5_setWords 6 = .ok (.getfield 86, 3)) ∧ (decode cX5_setWords 9 = .ok (.iastore, 1)) ∧ (decode cX5_setWords 10 = .ok (.aload_n 0, 1)) ∧ (decode cX5_setWords 11 = .ok (.getfield 11, 3)) ∧ (decode cX5_setWords 14 = .ok (.iconst 1, 1)) ∧ (decode cX5_setWords 15 = .ok (.aload_n 0, 1)) ∧ (decode cX5_setWords 16 = .ok (.getfield 15, 3)) ∧ (decode cX5_setWords 19 = .ok (.iastore, 1)) ∧ (decode cX5_setWords 20 = .ok (.aload_n 0, 1)) ∧ (decode cX5_setWords 21 = .ok (.getfield 11, 3)) ∧ (decode cX5_setWords 24 = .ok (.iconst 2, 1)) ∧ (decode cX5_setWords 25 = .ok (.aload_n 0, 1)) := by decide +kernel
theorem dX5_setWords_0 : decode cX5_setWords 0 = .ok (.aload_n 0, 1) := da9_dX5_setWords_0.1
theorem dX5_setWords_1 : decode cX5_setWords 1 = .ok (.getfield 11, 3) := da9_dX5_setWords_0.2.1
theorem dX5_setWords_4 : decode cX5_setWords 4 = .ok (.iconst 0, 1) := da9_dX5_setWords_0.2.2.1
theorem dX5_setWords_5 : decode cX5_setWords 5 = .ok (.aload_n 1, 1) := da9_dX5_setWords_0.2.2.2.1
theorem dX5_setWords_6 : decode cX5_setWords 6 = .ok (.getfield 86, 3) := da9_dX5_setWords_0.2.2.2.2.1
theorem dX5_setWords_9 : decode cX5_setWords 9 = .ok (.iastore, 1) := da9_dX5_setWords_0.2.2.2.2.2.1
theorem dX5_setWords_10 : decode cX5_setWords 10 = .ok (.aload_n 0, 1) := da9_dX5_setWords_0.2.2.2.2.2.2.1
theorem dX5_setWords_11 : decode cX5_setWords 11 = .ok (.getfield 11, 3) := da9_dX5_setWords_0.2.2.2.2.2.2.2.1
theorem dX5_setWords_14 : decode cX5_setWords 14 = .ok (.iconst 1, 1) := da9_dX5_setWords_0.2.2.2.2.2.2.2.2.1
theorem dX5_setWords_15 : decode cX5_setWords 15 = .ok (.aload_n 0, 1) := da9_dX5_setWords_0.2.2.2.2.2.2.2.2.2.1
theorem dX5_setWords_16 : decode cX5_setWords 16 = .ok (.getfield 15, 3) := da9_dX5_setWords_0.2.2.2.2.2.2.2.2.2.2.1
theorem dX5_setWords_19 : decode cX5_setWords 19 = .ok (.iastore, 1) := da9_dX5_setWords_0.2.2.2.2.2.2.2.2.2.2.2.1
theorem dX5_setWords_20 : decode cX5_setWords 20 = .ok (.aload_n 0, 1) := da9_dX5_setWords_0.2.2.2.2.2.2.2.2.2.2.2.2.1
theorem dX5_setWords_21 : decode cX5_setWords 21 = .ok (.getfield 11, 3) := da9_dX5_setWords_0.2.2.2.2.2.2.2.2.2.2.2.2.2.1
theorem dX5_setWords_24 : decode cX5_setWords 24 = .ok (.iconst 2, 1) := da9_dX5_setWords_0.2.2.2.2.2.2.2.2.2.2.2.2.2.2.1
theorem dX5_setWords_25 : decode cX5_setWords 25 = .ok (.aload_n 0, 1) := da9_dX5_setWords_0.2.2.2.2.2.2.2.2.2.2.2.2.2.2.2
theorem da9_dX5_setWords_26 : (decode cX5_setWords 26 = .ok (.getfield 19, 3)) ∧ (decode cX5_setWords 29 = .ok (.iastore, 1)) ∧ (decode cX5_setWords 30 = .ok (.aload_n 0, 1)) ∧ (decode cX5_setWords 31 = .ok (.getfield 11, 3)) ∧ (decode cX5_setWords 34 = .ok (.iconst 3, 1)) ∧ (decode cX5_setWords 35 = .ok (.aload_n 1, 1)) ∧ (decode cX5_setWords 36 = .ok (.getfield 89, 3)) ∧ (decode cX5_setWords 39 = .ok (.iastore, 1)) ∧ (decode cX5_setWords 40 = .ok (.aload_n 0, 1)) ∧ (decode cX5_setWords 41 = .ok (.getfield 11, 3)) ∧ (decode cX5_setWords 44 = .ok (.iconst 4, 1)) ∧ (decode cX5_setWords 45 = .ok (.aload_n 1, 1)) ∧ (decode cX5_setWords 46 = .ok (.invokevirtual 92, 3)) ∧ (decode cX5_setWords 49 = .ok (.iastore, 1)) ∧ (decode cX5_setWords 50 = .ok (.iconst 0, 1)) ∧ (decode cX5_setWords 51 = .ok (.istore_n 2, 1)) := by decide +kernel
theorem dX5_setWords_26 : decode cX5_setWords 26 = .ok (.getfield 19, 3) := da9_dX5_setWords_26.1
theorem dX5_setWords_29 : decode cX5_setWords 29 = .ok (.iastore, 1) := da9_dX5_setWords_26.2.1
theorem dX5_setWords_30 : decode cX5_setWords 30 = .ok (.aload_n 0, 1) := da9_dX5_setWords_26.2.2.1
theorem dX5_setWords_31 : decode cX5_setWords 31 = .ok (.getfield 11, 3) := da9_dX5_setWords_26.2.2.2.1
theorem dX5_setWords_34 : decode cX5_setWords 34 = .ok (.iconst 3, 1) := da9_dX5_setWords_26.2.2.2.2.1
theorem dX5_setWords_35 : decode cX5_setWords 35 = .ok (.aload_n 1, 1) := da9_dX5_setWords_26.2.2.2.2.2.1
theorem dX5_setWords_36 : decode cX5_setWords 36 = .ok (.getfield 89, 3) := da9_dX5_setWords_26.2.2.2.2.2.2.1
theorem dX5_setWords_39 : decode cX5_setWords 39 = .ok (.iastore, 1) := da9_dX5_setWords_26.2.2.2.2.2.2.2.1
theorem dX5_setWords_40 : decode cX5_setWords 40 = .ok (.aload_n 0, 1) := da9_dX5_setWords_26.2.2.2.2.2.2.2.2.1
theorem dX5_setWords_41 : decode cX5_setWords 41 = .ok (.getfield 11, 3) := da9_dX5_setWords_26.2.2.2.2.2.2.2.2.2.1
theorem dX5_setWords_44 : decode cX5_setWords 44 = .ok (.iconst 4, 1) := da9_dX5_setWords_26.2.2.2.2.2.2.2.2.2.2.1
theorem dX5_setWords_45 : decode cX5_setWords 45 = .ok (.aload_n 1, 1) := da9_dX5_setWords_26.2.2.2.2.2.2.2.2.2.2.2.1
theorem dX5_setWords_46 : decode cX5_setWords 46 = .ok (.invokevirtual 92, 3) := da9_dX5_setWords_26.2.2.2.2.2.2.2.2.2.2.2.2.1
theorem dX5_setWords_49 : decode cX5_setWords 49 = .ok (.iastore, 1) := da9_dX5_setWords_26.2.2.2.2.2.2.2.2.2.2.2.2.2.1
theorem dX5_setWords_50 : decode cX5_setWords 50 = .ok (.iconst 0, 1) := da9_dX5_setWords_26.2.2.2.2.2.2.2.2.2.2.2.2.2.2.1
theorem dX5_setWords_51 : decode cX5_setWords 51 = .ok (.istore_n 2, 1) := da9_dX5_setWords_26.2.2.2.2.2.2.2.2.2.2.2.2.2.2.2
theorem da9_dX5_setWords_52 : (decode cX5_setWords 52 = .ok (.iload_n 2, 1)) ∧ (decode cX5_setWords 53 = .ok (.bipush 6, 2)) ∧ (decode cX5_setWords 55 = .ok (.if_icmp .ge 38, 3)) ∧ (decode cX5_setWords 58 = .ok (.aload_n 0, 1)) ∧ (decode cX5_setWords 59 = .ok (.getfield 11, 3)) ∧ (decode cX5_setWords 62 = .ok (.iconst 5, 1)) ∧ (decode cX5_setWords 63 = .ok (.iload_n 2, 1)) ∧ (decode cX5_setWords 64 = .ok (.iadd, 1)) ∧ (decode cX5_setWords 65 = .ok (.aload_n 1, 1)) ∧ (decode cX5_setWords 66 = .ok (.iload_n 2, 1)) ∧ (decode cX5_setWords 67 = .ok (.iconst 0, 1)) ∧ (decode cX5_setWords 68 = .ok (.invokevirtual 96, 3)) ∧ (decode cX5_setWords 71 = .ok (.iastore, 1)) ∧ (decode cX5_setWords 72 = .ok (.aload_n 0, 1)) ∧ (decode cX5_setWords 73 = .ok (.getfield 11, 3)) ∧ (decode cX5_setWords 76 = .ok (.bipush 11, 2)) := by decide +kernel
theorem dX5_setWords_52 : decode cX5_setWords 52 = .ok (.iload_n 2, 1) := da9_dX5_setWords_52.1
theorem dX5_setWords_53 : decode cX5_setWords 53 = .ok (.bipush 6, 2) := da9_dX5_setWords_52.2.1
theorem dX5_setWords_55 : decode cX5_setWords 55 = .ok (.if_icmp .ge 38, 3) := da9_dX5_setWords_52.2.2.1
theorem dX5_setWords_58 : decode cX5_setWords 58 = .ok (.aload_n 0, 1) := da9_dX5_setWords_52.2.2.2.1
theorem dX5_setWords_59 : decode cX5_setWords 59 = .ok (.getfield 11, 3) := da9_dX5_setWords_52.2.2.2.2.1
theorem dX5_setWords_62 : decode cX5_setWords 62 = .ok (.iconst 5, 1) := da9_dX5_setWords_52.2.2.2.2.2.1
theorem dX5_setWords_63 : decode cX5_setWords 63 = .ok (.iload_n 2, 1) := da9_dX5_setWords_52.2.2.2.2.2.2.1
theorem dX5_setWords_64 : decode cX5_setWords 64 = .ok (.iadd, 1) := da9_dX5_setWords_52.2.2.2.2.2.2.2.1
theorem dX5_setWords_65 : decode cX5_setWords 65 = .ok (.aload_n 1, 1) := da9_dX5_setWords_52.2.2.2.2.2.2.2.2.1
theorem dX5_setWords_66 : decode cX5_setWords 66 = .ok (.iload_n 2, 1) := da9_dX5_setWords_52.2.2.2.2.2.2.2.2.2.1
theorem dX5_setWords_67 : decode cX5_setWords 67 = .ok (.iconst 0, 1) := da9_dX5_setWords_52.2.2.2.2.2.2.2.2.2.2.1
theorem dX5_setWords_68 : decode cX5_setWords 68 = .ok (.invokevirtual 96, 3) := da9_dX5_setWords_52.2.2.2.2.2.2.2.2.2.2.2.1
theorem dX5_setWords_71 : decode cX5_setWords 71 = .ok (.iastore, 1) := da9_dX5_setWords_52.2.2.2.2.2.2.2.2.2.2.2.2.1
theorem dX5_setWords_72 : decode cX5_setWords 72 = .ok (.aload_n 0, 1) := da9_dX5_setWords_52.2.2.2.2.2.2.2.2.2.2.2.2.2.1
theorem dX5_setWords_73 : decode cX5_setWords 73 = .ok (.getfield 11, 3) := da9_dX5_setWords_52.2.2.2.2.2.2.2.2.2.2.2.2.2.2.1
theorem dX5_setWords_76 : decode cX5_setWords 76 = .ok (.bipush 11, 2) := da9_dX5_setWords_52.2.2.2.2.2.2.2.2.2.2.2.2.2.2.2
theorem da9_dX5_setWords_78 : (decode cX5_setWords 78 = .ok (.iload_n 2, 1)) ∧ (decode cX5_setWords 79 = .ok (.iadd, 1)) ∧ (decode cX5_setWords 80 = .ok (.aload_n 1, 1)) ∧ (decode cX5_setWords 81 = .ok (.iload_n 2, 1)) ∧ (decode cX5_setWords 82 = .ok (.iconst 1, 1)) ∧ (decode cX5_setWords 83 = .ok (.invokevirtual 96, 3)) ∧ (decode cX5_setWords 86 = .ok (.iastore, 1)) ∧ (decode cX5_setWords 87 = .ok (.iinc 2 1, 3)) ∧ (decode cX5_setWords 90 = .ok (.goto (-38), 3)) ∧ (decode cX5_setWords 93 = .ok (.return_, 1)) := by decide +kernel
theorem dX5_setWords_78 : decode cX5_setWords 78 = .ok (.iload_n 2, 1) := da9_dX5_setWords_78.1
theorem dX5_setWords_79 : decode cX5_setWords 79 = .ok (.iadd, 1) := da9_dX5_setWords_78.2.1
theorem dX5_setWords_80 : decode cX5_setWords 80 = .ok (.aload_n 1, 1) := da9_dX5_setWords_78.2.2.1
theorem dX5_setWords_81 : decode cX5_setWords 81 = .ok (.iload_n 2, 1) := da9_dX5_setWords_78.2.2.2.1
theorem dX5_setWords_82 : decode cX5_setWords 82 = .ok (.iconst 1, 1) := da9_dX5_setWords_78.2.2.2.2.1
theorem dX5_setWords_83 : decode cX5_setWords 83 = .ok (.invokevirtual 96, 3) := da9_dX5_setWords_78.2.2.2.2.2.1
theorem dX5_setWords_86 : decode cX5_setWords 86 = .ok (.iastore, 1) := da9_dX5_setWords_78.2.2.2.2.2.2.1
theorem dX5_setWords_87 : decode cX5_setWords 87 = .ok (.iinc 2 1, 3) := da9_dX5_setWords_78.2.2.2.2.2.2.2.1
theorem dX5_setWords_90 : decode cX5_setWords 90 = .ok (.goto (-38), 3) := da9_dX5_setWords_78.2.2.2.2.2.2.2.2.1
theorem dX5_setWords_93 : decode cX5_setWords 93 = .ok (.return_, 1) := da9_dX5_setWords_78.2.2.2.2.2.2.2.2.2
theorem da9_dX8_exchange_0 : (decode cX8_exchange 0 = .ok (.aload_n 0, 1)) ∧ (decode cX8_exchange 1 = .ok (.getfield 9, 3)) ∧ (decode cX8_exchange 4 = .ok (.iload_n 1, 1)) ∧ (decode cX8_exchange 5 = .ok (.iaload, 1)) ∧ (decode cX8_exchange 6 = .ok (.istore_n 3, 1)) ∧ (decode cX8_exchange 7 = .ok (.aload_n 0, 1)) ∧ (decode cX8_exchange 8 = .ok (.getfield 15, 3)) ∧ (decode cX8_exchange 11 = .ok (.iload_n 1, 1)) ∧ (decode cX8_exchange 12 = .ok (.iaload, 1)) ∧ (decode cX8_exchange 13 = .ok (.istore 4, 2)) ∧ (decode cX8_exchange 15 = .ok (.aload_n 0, 1)) ∧ (decode cX8_exchange 16 = .ok (.getfield 9, 3)) ∧ (decode cX8_exchange 19 = .ok (.iload_n 1, 1)) ∧ (decode cX8_exchange 20 = .ok (.aload_n 0, 1)) ∧ (decode cX8_exchange 21 = .ok (.getfield 9, 3)) ∧ (decode cX8_exchange 24 = .ok (.iload_n 2, 1)) := by decide +kernel
theorem dX8_exchange_0 : decode cX8_exchange 0 = .ok (.aload_n 0, 1) := da9_dX8_exchange_0.1
theorem dX8_exchange_1 : decode cX8_exchange 1 = .ok (.getfield 9, 3) := da9_dX8_exchange_0.2.1
theorem dX8_exchange_4 : decode cX8_exchange 4 = .ok (.iload_n 1, 1) := da9_dX8_exchange_0.2.2.1
theorem dX8_exchange_5 : decode cX8_exchange 5 = .ok (.iaload, 1) := da9_dX8_exchange_0.2.2.2.1
theorem dX8_exchange_6 : decode cX8_exchange 6 = .ok (.istore_n 3, 1) := da9_dX8_exchange_0.2.2.2.2.1
theorem dX8_exchange_7 : decode cX8_exchange 7 = .ok (.aload_n 0, 1) := da9_dX8_exchange_0.2.2.2.2.2.1
theorem dX8_exchange_8 : decode cX8_exchange 8 = .ok (.getfield 15, 3) := da9_dX8_exchange_0.2.2.2.2.2.2.1
theorem dX8_exchange_11 : decode cX8_exchange 11 = .ok (.iload_n 1, 1) := da9_dX8_exchange_0.2.2.2.2.2.2.2.1
theorem dX8_exchange_12 : decode cX8_exchange 12 = .ok (.iaload, 1) := da9_dX8_exchange_0.2.2.2.2.2.2.2.2.1
theorem dX8_exchange_13 : decode cX8_exchange 13 = .ok (.istore 4, 2) := da9_dX8_exchange_0.2.2.2.2.2.2.2.2.2.1
theorem dX8_exchange_15 : decode cX8_exchange 15 = .ok (.aload_n 0, 1) := da9_dX8_exchange_0.2.2.2.2.2.2.2.2.2.2.1
theorem dX8_exchange_16 : decode cX8_exchange 16 = .ok (.getfield 9, 3) := da9_dX8_exchange_0.2.2.2.2.2.2.2.2.2.2.2.1
theorem dX8_exchange_19 : decode cX8_exchange 19 = .ok (.iload_n 1, 1) := da9_dX8_exchange_0.2.2.2.2.2.2.2.2.2.2.2.2.1
theorem dX8_exchange_20 : decode cX8_exchange 20 = .ok (.aload_n 0, 1) := da9_dX8_exchange_0.2.2.2.2.2.2.2.2.2.2.2.2.2.1
theorem dX8_exchange_21 : decode cX8_exchange 21 = .ok (.getfield 9, 3) := da9_dX8_exchange_0.2.2.2.2.2.2.2.2.2.2.2.2.2.2.1
theorem dX8_exchange_24 : decode cX8_exchange 24 = .ok (.iload_n 2, 1) := da9_dX8_exchange_0.2.2.2.2.2.2.2.2.2.2.2.2.2.2.2
theorem da9_dX8_exchange_25 : (decode cX8_exchange 25 = .ok (.iaload, 1)) ∧ (decode cX8_exchange 26 = .ok (.iastore, 1)) ∧ (decode cX8_exchange 27 = .ok (.aload_n 0, 1)) ∧ (decode cX8_exchange 28 = .ok (.getfield 15, 3)) ∧ (decode cX8_exchange 31 = .ok (.iload_n 1, 1)) ∧ (decode cX8_exchange 32 = .ok (.aload_n 0, 1)) ∧ (decode cX8_exchange 33 = .ok (.getfield 15, 3)) ∧ (decode cX8_exchange 36 = .ok (.iload_n 2, 1)) ∧ (decode cX8_exchange 37 = .ok (.iaload, 1)) ∧ (decode cX8_exchange 38 = .ok (.iastore, 1)) ∧ (decode cX8_exchange 39 = .ok (.aload_n 0, 1)) ∧ (decode cX8_exchange 40 = .ok (.getfield 9, 3)) ∧ (decode cX8_exchange 43 = .ok (.iload_n 2, 1)) ∧ (decode cX8_exchange 44 = .ok (.iload_n 3, 1)) ∧ (decode cX8_exchange 45 = .ok (.iastore, 1)) ∧ (decode cX8_exchange 46 = .ok (.aload_n 0, 1)) := by decide +kernel
theorem dX8_exchange_25 : decode cX8_exchange 25 = .ok (.iaload, 1) := da9_dX8_exchange_25.1
theorem dX8_exchange_26 : decode cX8_exchange 26 = .ok (.iastore, 1) := da9_dX8_exchange_25.2.1
theorem dX8_exchange_27 : decode cX8_exchange 27 = .ok (.aload_n 0, 1) := da9_dX8_exchange_25.2.2.1
theorem dX8_exchange_28 : decode cX8_exchange 28 = .ok (.getfield 15, 3) := da9_dX8_exchange_25.2.2.2.1
theorem dX8_exchange_31 : decode cX8_exchange 31 = .ok (.iload_n 1, 1) := da9_dX8_exchange_25.2.2.2.2.1
theorem dX8_exchange_32 : decode cX8_exchange 32 = .ok (.aload_n 0, 1) := da9_dX8_exchange_25.2.2.2.2.2.1
theorem dX8_exchange_33 : decode cX8_exchange 33 = .ok (.getfield 15, 3) := da9_dX8_exchange_25.2.2.2.2.2.2.1
theorem dX8_exchange_36 : decode cX8_exchange 36 = .ok (.iload_n 2, 1) := da9_dX8_exchange_25.2.2.2.2.2.2.2.1
theorem dX8_exchange_37 : decode cX8_exchange 37 = .ok (.iaload, 1) := da9_dX8_exchange_25.2.2.2.2.2.2.2.2.1
theorem dX8_exchange_38 : decode cX8_exchange 38 = .ok (.iastore, 1) := da9_dX8_exchange_25.2.2.2.2.2.2.2.2.2.1
theorem dX8_exchange_39 : decode cX8_exchange 39 = .ok (.aload_n 0, 1) := da9_dX8_exchange_25.2.2.2.2.2.2.2.2.2.2.1
theorem dX8_exchange_40 : decode cX8_exchange 40 = .ok (.getfield 9, 3) := da9_dX8_exchange_25.2.2.2.2.2.2.2.2.2.2.2.1
theorem dX8_exchange_43 : decode cX8_exchange 43 = .ok (.iload_n 2, 1) := da9_dX8_exchange_25.2.2.2.2.2.2.2.2.2.2.2.2.1
theorem dX8_exchange_44 : decode cX8_exchange 44 = .ok (.iload_n 3, 1) := da9_dX8_exchange_25.2.2.2.2.2.2.2.2.2.2.2.2.2.1
theorem dX8_exchange_45 : decode cX8_exchange 45 = .ok (.iastore, 1) := da9_dX8_exchange_25.2.2.2.2.2.2.2.2.2.2.2.2.2.2.1
theorem dX8_exchange_46 : decode cX8_exchange 46 = .ok (.aload_n 0, 1) := da9_dX8_exchange_25.2.2.2.2.2.2.2.2.2.2.2.2.2.2.2
theorem da9_dX8_exchange_47 : (decode cX8_exchange 47 = .ok (.getfield 15, 3)) ∧ (decode cX8_exchange 50 = .ok (.iload_n 2, 1)) ∧ (decode cX8_exchange 51 = .ok (.iload 4, 2)) ∧ (decode cX8_exchange 53 = .ok (.iastore, 1)) ∧ (decode cX8_exchange 54 = .ok (.return_, 1)) := by decide +kernel
theorem dX8_exchange_47 : decode cX8_exchange 47 = .ok (.getfield 15, 3) := da9_dX8_exchange_47.1
theorem dX8_exchange_50 : decode cX8_exchange 50 = .ok (.iload_n 2, 1) := da9_dX8_exchange_47.2.1
theorem dX8_exchange_51 : decode cX8_exchange 51 = .ok (.iload 4, 2) := da9_dX8_exchange_47.2.2.1
theorem dX8_exchange_53 : decode cX8_exchange 53 = .ok (.iastore, 1) := da9_dX8_exchange_47.2.2.2.1
theorem dX8_exchange_54 : decode cX8_exchange 54 = .ok (.return_, 1) := da9_dX8_exchange_47.2.2.2.2
end
section
theorem u9_wsX5_setWords_X5 : ∀ w ∈ u_ws RX5 TX5 4, w ∈ wsX5_setWords := fun w h => List.mem_cons_of_mem _ (vW9_wsX50 w h)
theorem f9_wsX5_setWords_620 : (Cond.fieldLink RX5 11 "TurnedFloors$Runner" "words" "[I") ∈ wsX5_setWords := List.mem_cons_of_mem _ mvW9_362
theorem u9_wsX5_setWords_X8 : ∀ w ∈ u_ws RX8 TX8 5, w ∈ wsX5_setWords := fun w h => List.mem_cons_of_mem _ (vW9_wsX80 w h)
theorem f9_wsX5_setWords_622 : (Cond.fieldLink RX5 15 "TurnedFloors$Runner" "done" "I") ∈ wsX5_setWords := List.mem_cons_of_mem _ mvW9_359
theorem f9_wsX5_setWords_623 : (Cond.fieldLink RX5 19 "TurnedFloors$Runner" "latest" "I") ∈ wsX5_setWords := List.mem_cons_of_mem _ mvW9_360
theorem u9_wsX8_exchange_X8 : ∀ w ∈ u_ws RX8 TX8 5, w ∈ wsX8_exchange := fun w h => List.mem_cons_of_mem _ (vW9_wsX80 w h)
theorem f9_wsX8_exchange_625 : (Cond.fieldLink RX8 9 "TurnedFloors$Tower" "rank" "[I") ∈ wsX8_exchange := List.mem_cons_of_mem _ mvW9_21
theorem f9_wsX8_exchange_626 : (Cond.fieldLink RX8 15 "TurnedFloors$Tower" "head" "[I") ∈ wsX8_exchange := List.mem_cons_of_mem _ mvW9_26
set_option maxHeartbeats 4000000 in
set_option maxRecDepth 100000 in
theorem WX5_setWords_s22_s2_52b {p : Program} {l : Launch} {e : Env} {s : State} {m : MethodId} {args : Array Value} {below : List Frame} {meth : Method} {c : Code} {D : va_G} {ty : Nat → ClassId} {eo : Nat → Nat} {A : Nat → Prop} {ad : Nat → Nat} {o2 : dK} (C : dc_C p s m args meth c cX5_setWords none 3 RX5 wsX5_setWords D ty eo A) {k52 : dK → Int32 → Option (dK)} (hk52 : ∀ (q : dK) (x2 : Int32) (H : Heap) (locs : List Loc) (ls : Array Slot), k52 q x2 = some o2 → va_P D vwCl (wF ty ad q) H → va_D A (wF ty ad q) → va_S A s.heap H locs → lv_has ls 3 [(0, .ref (ad 22)), (1, .ref (ad 2)), (2, .int x2)] → W p l e ({ frames := 2, cells := 0, slots := 0, locals := 45 } : Room) s m args below meth c H locs 0 0 (MQ below (va_Qv (fun (u : va_W) => wF ty ad o2 = u) (kz_B D ty A) A) args s 0 0 A) (F0 m 52 ls [])) (q : dK) (x2 : Int32) (H : Heap) (locs : List Loc) (ls : Array Slot) (h : zX5_setWords_s22_s2_52b k52 q x2 = some o2) (hP : va_P D vwCl (wF ty ad q) H) (hD : va_D A (wF ty ad q)) (hS : va_S A s.heap H locs) (hl : lv_has ls 3 [(0, .ref (ad 22)), (1, .ref (ad 2)), (2, .int x2)]) : W p l e ({ frames := 2, cells := 0, slots := 0, locals := 45 } : Room) s m args below meth c H locs 0 0 (MQ below (va_Qv (fun (u : va_W) => wF ty ad o2 = u) (kz_B D ty A) A) args s 0 0 A) (F0 m 52 ls []) := by
  have C0 := C
  obtain ⟨hx, hb, hr, hts, hown, hlocks, hml, hK, hN, hE, hA⟩ := C
  unfold zX5_setWords_s22_s2_52b at h
  refine lv_iload_n hx hb dX5_setWords_52 rfl (lv_at hl 2 rfl) ?_
  refine lv_bipush (v := 6) hx hb dX5_setWords_53 (by decide) ?_
  refine lv_icmp_ge (tgt := 93) hx hb dX5_setWords_55 (by decide) (fun c9 => ?_) (fun c9 => ?_)
  · rw [if_pos c9] at h
    cases h
    exact kz_vret hx hb hr hlocks hP hK hD hS dX5_setWords_93 rfl
  · rw [if_neg c9] at h
    refine lv_aload_n hx hb dX5_setWords_58 rfl (lv_at hl 0 rfl) ?_
    refine va_get (D := D) (ci := 5) (v := .ref (ad 23)) (C := RX5) (T := TX5) (N := 4) hx hb hts u9_wsX5_setWords_X5 hown hK hP 22 rfl rfl 1 (by decide) (hts (.fieldLink RX5 11 "TurnedFloors$Runner" "words" "[I") f9_wsX5_setWords_620) (fun _ h9 => h9) rfl dX5_setWords_59 ?_
    refine lv_iconst (v := 5) hx hb dX5_setWords_62 (by decide) ?_
    refine lv_iload_n hx hb dX5_setWords_63 rfl (lv_at hl 2 rfl) ?_
    refine lv_iadd hx hb dX5_setWords_64 ?_
    refine lv_aload_n hx hb dX5_setWords_65 rfl (lv_at hl 1 rfl) ?_
    refine lv_iload_n hx hb dX5_setWords_66 rfl (lv_at hl 2 rfl) ?_
    refine lv_iconst (v := 0) hx hb dX5_setWords_67 (by decide) ?_
    obtain ⟨r1, q3, h2, h⟩ := dB_some h
    refine dw_ki (va_runV (As := [.int x2, .int 0]) (rest := [.int (5 + x2 : Int32), .ref (ad 23)]) ⟨hx, hb, hml, hown, hts⟩ (qX8_tell_s2 l D ty eo _ ad q x2 0 r1 q3 h2) (cwV 2 hts gX5_setWords_X8_tell rfl rfl rfl hd_X8_tell_v ⟨Nat.le_of_ble_eq_true rfl, Nat.le_of_ble_eq_true rfl⟩) (pvF_8_2 hK hN hE hP hD hS hA) rfl rfl hl.1 rfl (lv_room (Nat.le_of_ble_eq_true rfl)) dX5_setWords_68 ⟨Nat.le_of_ble_eq_true rfl, Nat.le_of_ble_eq_true rfl⟩) hD hS hA (fun r9 u9 H locs hw hp hd hs => ?_)
    clear hP hD hS
    obtain ⟨rfl, rfl⟩ := hw
    have hP := hp; have hD := hd; have hS := hs; clear hp hd hs
    obtain ⟨g4, h⟩ := dG_some h
    refine va_iast hx hb hK hP hD hS 23 0 rfl rfl (dg_in g4) dX5_setWords_71 (fun H locs hp hd hs => ?_)
    obtain ⟨q5, eq5, h⟩ := dL_some h
    refine kz_re (w2 := wF ty ad q5) hp hd hs (by rw [← eq5]; exact wF_a23 ty ad q3 (Int32.toNatClampNeg (5 + x2 : Int32)) r1) ?_
    clear hp hd hs hP hD hS
    intro hP hD hS
    refine lv_aload_n hx hb dX5_setWords_72 rfl (lv_at hl 0 rfl) ?_
    refine va_get (D := D) (ci := 5) (v := .ref (ad 23)) (C := RX5) (T := TX5) (N := 4) hx hb hts u9_wsX5_setWords_X5 hown hK hP 22 rfl rfl 1 (by decide) (hts (.fieldLink RX5 11 "TurnedFloors$Runner" "words" "[I") f9_wsX5_setWords_620) (fun _ h9 => h9) rfl dX5_setWords_73 ?_
    refine lv_bipush (v := 11) hx hb dX5_setWords_76 (by decide) ?_
    refine lv_iload_n hx hb dX5_setWords_78 rfl (lv_at hl 2 rfl) ?_
    refine lv_iadd hx hb dX5_setWords_79 ?_
    refine lv_aload_n hx hb dX5_setWords_80 rfl (lv_at hl 1 rfl) ?_
    refine lv_iload_n hx hb dX5_setWords_81 rfl (lv_at hl 2 rfl) ?_
    refine lv_iconst (v := 1) hx hb dX5_setWords_82 (by decide) ?_
    obtain ⟨r6, q8, h7, h⟩ := dB_some h
    refine dw_ki (va_runV (As := [.int x2, .int 1]) (rest := [.int (11 + x2 : Int32), .ref (ad 23)]) ⟨hx, hb, hml, hown, hts⟩ (qX8_tell_s2 l D ty eo _ ad q5 x2 1 r6 q8 h7) (cwV 2 hts gX5_setWords_X8_tell rfl rfl rfl hd_X8_tell_v ⟨Nat.le_of_ble_eq_true rfl, Nat.le_of_ble_eq_true rfl⟩) (pvF_8_2 hK hN hE hP hD hS hA) rfl rfl hl.1 rfl (lv_room (Nat.le_of_ble_eq_true rfl)) dX5_setWords_83 ⟨Nat.le_of_ble_eq_true rfl, Nat.le_of_ble_eq_true rfl⟩) hD hS hA (fun r9 u9 H locs hw hp hd hs => ?_)
    clear hP hD hS
    obtain ⟨rfl, rfl⟩ := hw
    have hP := hp; have hD := hd; have hS := hs; clear hp hd hs
    obtain ⟨g9, h⟩ := dG_some h
    refine va_iast hx hb hK hP hD hS 23 0 rfl rfl (dg_in g9) dX5_setWords_86 (fun H locs hp hd hs => ?_)
    obtain ⟨q10, eq10, h⟩ := dL_some h
    refine kz_re (w2 := wF ty ad q10) hp hd hs (by rw [← eq10]; exact wF_a23 ty ad q8 (Int32.toNatClampNeg (11 + x2 : Int32)) r6) ?_
    clear hp hd hs hP hD hS
    intro hP hD hS
    refine lv_iinc (v := x2 + 1) (lv' := [(2, .int (x2 + 1)), (0, .ref (ad 22)), (1, .ref (ad 2))]) hx hb dX5_setWords_87 hl (k := 2) rfl rfl (by decide) rfl (fun ls hl => ?_)
    refine lv_goto (tgt := 52) hx hb dX5_setWords_90 (by decide) ?_
    exact hk52 _ _ _ _ _ h hP hD hS (lv_sub hl [1, 2, 0] rfl)
set_option maxHeartbeats 4000000 in
set_option maxRecDepth 100000 in
theorem WX5_setWords_s22_s2_52 {p : Program} {l : Launch} {e : Env} {s : State} {m : MethodId} {args : Array Value} {below : List Frame} {meth : Method} {c : Code} {D : va_G} {ty : Nat → ClassId} {eo : Nat → Nat} {A : Nat → Prop} {ad : Nat → Nat} {o2 : dK} (C : dc_C p s m args meth c cX5_setWords none 3 RX5 wsX5_setWords D ty eo A)   (n : Nat) (q : dK) (x2 : Int32) (H : Heap) (locs : List Loc) (ls : Array Slot) (h : zX5_setWords_s22_s2_52  n q x2 = some o2) (hP : va_P D vwCl (wF ty ad q) H) (hD : va_D A (wF ty ad q)) (hS : va_S A s.heap H locs) (hl : lv_has ls 3 [(0, .ref (ad 22)), (1, .ref (ad 2)), (2, .int x2)]) : W p l e ({ frames := 2, cells := 0, slots := 0, locals := 45 } : Room) s m args below meth c H locs 0 0 (MQ below (va_Qv (fun (u : va_W) => wF ty ad o2 = u) (kz_B D ty A) A) args s 0 0 A) (F0 m 52 ls []) := by
  exact dFix_W (F := fun k (a : dK × Int32) => zX5_setWords_s22_s2_52b  (fun q x2 => k (q, x2)) a.1 a.2) (o := o2) (P := fun (a : dK × Int32) H locs ls => va_P D vwCl (wF ty ad a.1) H ∧ va_D A (wF ty ad a.1) ∧ va_S A s.heap H locs ∧ lv_has ls 3 [(0, .ref (ad 22)), (1, .ref (ad 2)), (2, .int a.2)]) (G := fun H locs ls => W p l e ({ frames := 2, cells := 0, slots := 0, locals := 45 } : Room) s m args below meth c H locs 0 0 (MQ below (va_Qv (fun (u : va_W) => wF ty ad o2 = u) (kz_B D ty A) A) args s 0 0 A) (F0 m 52 ls []))
    (fun k hk a H locs ls h hp => WX5_setWords_s22_s2_52b C  (fun q x2 H locs ls h h1 h2 h3 h4 => hk (q, x2) H locs ls h ⟨h1, h2, h3, h4⟩) a.1 a.2 H locs ls h hp.1 hp.2.1 hp.2.2.1 hp.2.2.2) n (q, x2) H locs ls h ⟨hP, hD, hS, hl⟩
set_option maxHeartbeats 4000000 in
set_option maxRecDepth 100000 in
theorem qX5_setWords_s22_s2 (l : Launch) (D : va_G) (ty : Nat → ClassId) (eo : Nat → Nat) (sz : Nat) (ad : Nat → Nat) (q : dK)  (o2 : dK) (h : zX5_setWords_s22_s2 q = some o2) : Met l yX5_setWords wsX5_setWords ({ frames := 2, cells := 0, slots := 0, locals := 45 } : Room) (va_Pc [.ref (ad 22), .ref (ad 2)] (kz_pre D ty eo (wF ty ad q) sz)) (va_Qv (fun (u : va_W) => wF ty ad o2 = u) (kz_B D ty (va_A (wF ty ad q) sz)) (va_A (wF ty ad q) sz)) 0 0 (va_A (wF ty ad q) sz) := by
  refine Met.ofW (cc := cX5_setWords) (maxL := 3) (ret := none) (by decide) rfl ?_
  intro p e s m args below meth c s₁ B hml hv
  obtain ⟨rfl, hsz, hP, hK, hD0, hN, hE⟩ := hv
  have hx := B.exec
  have hb := B.bytes
  have hr := B.returns
  have hts := atoms_spec (ws := wsX5_setWords) B.pre
  have hown : s.vm.findClass RX5 = some m.cls := findClass_of_methodNamed B.named
  have hlocks := B.notSynchronized
  subst hsz
  have hD := hD0.self (sz := s.heap.size)
  generalize hAe : va_A (wF ty ad q) s.heap.size = A at hD hE ⊢
  have hA : ∀ q : Nat, s.heap.size ≤ q → A q := fun q h => by rw [← hAe]; exact Or.inr h
  clear hAe
  have hS : va_S A s.heap s.heap [] := va_S.rf
  have hl := lv_entry ([.ref (ad 22), .ref (ad 2)]) (n := 3) (Nat.le_of_ble_eq_true rfl)
  rw [lg_entry_eq]
  generalize (lg_sl ([.ref (ad 22), .ref (ad 2)]) ++ List.replicate (3 - (lg_sl ([.ref (ad 22), .ref (ad 2)])).length) Slot.unset).toArray = ls at hl ⊢
  have hl : lv_has ls 3 [(0, .ref (ad 22)), (1, .ref (ad 2))] := hl
  have C : dc_C p s m _ meth c cX5_setWords none 3 RX5 wsX5_setWords D ty eo A := ⟨hx, hb, hr, hts, hown, hlocks, hml, hK, hN, hE, hA⟩
  unfold zX5_setWords_s22_s2 at h
  refine lv_aload_n hx hb dX5_setWords_0 rfl (lv_at hl 0 rfl) ?_
  refine va_get (D := D) (ci := 5) (v := .ref (ad 23)) (C := RX5) (T := TX5) (N := 4) hx hb hts u9_wsX5_setWords_X5 hown hK hP 22 rfl rfl 1 (by decide) (hts (.fieldLink RX5 11 "TurnedFloors$Runner" "words" "[I") f9_wsX5_setWords_620) (fun _ h9 => h9) rfl dX5_setWords_1 ?_
  refine lv_iconst (v := 0) hx hb dX5_setWords_4 (by decide) ?_
  refine lv_aload_n hx hb dX5_setWords_5 rfl (lv_at hl 1 rfl) ?_
  refine va_getN (D := D) (ci := 8) (v := .int (q.1 2 4)) (C := RX8) (T := TX8) (N := 5) hx hb hts u9_wsX5_setWords_X8 hown hK hP 2 rfl rfl 4 (by decide) (hN.use (.fieldLinkNest "TurnedFloors$Runner" 86 "TurnedFloors$Tower" "year" "I" "TurnedFloors") nn9_19) (fun _ h9 => h9) rfl dX5_setWords_6 ?_
  refine va_iast hx hb hK hP hD hS 23 0 rfl rfl (by simp only [vp_in]; decide) dX5_setWords_9 (fun H locs hp hd hs => ?_)
  obtain ⟨q1, eq1, h⟩ := dL_some h
  refine kz_re (w2 := wF ty ad q1) hp hd hs (by rw [(by decide +kernel : Int32.toNatClampNeg 0 = 0), ← eq1]; exact wF_a23 ty ad q 0 (q.1 2 4)) ?_
  clear hp hd hs hP hD hS
  intro hP hD hS
  refine lv_aload_n hx hb dX5_setWords_10 rfl (lv_at hl 0 rfl) ?_
  refine va_get (D := D) (ci := 5) (v := .ref (ad 23)) (C := RX5) (T := TX5) (N := 4) hx hb hts u9_wsX5_setWords_X5 hown hK hP 22 rfl rfl 1 (by decide) (hts (.fieldLink RX5 11 "TurnedFloors$Runner" "words" "[I") f9_wsX5_setWords_620) (fun _ h9 => h9) rfl dX5_setWords_11 ?_
  refine lv_iconst (v := 1) hx hb dX5_setWords_14 (by decide) ?_
  refine lv_aload_n hx hb dX5_setWords_15 rfl (lv_at hl 0 rfl) ?_
  refine va_get (D := D) (ci := 5) (v := .int (q1.1 22 2)) (C := RX5) (T := TX5) (N := 4) hx hb hts u9_wsX5_setWords_X5 hown hK hP 22 rfl rfl 2 (by decide) (hts (.fieldLink RX5 15 "TurnedFloors$Runner" "done" "I") f9_wsX5_setWords_622) (fun _ h9 => h9) rfl dX5_setWords_16 ?_
  refine va_iast hx hb hK hP hD hS 23 0 rfl rfl (by simp only [vp_in]; decide) dX5_setWords_19 (fun H locs hp hd hs => ?_)
  obtain ⟨q2, eq2, h⟩ := dL_some h
  refine kz_re (w2 := wF ty ad q2) hp hd hs (by rw [(by decide +kernel : Int32.toNatClampNeg 1 = 1), ← eq2]; exact wF_a23 ty ad q1 1 (q1.1 22 2)) ?_
  clear hp hd hs hP hD hS
  intro hP hD hS
  refine lv_aload_n hx hb dX5_setWords_20 rfl (lv_at hl 0 rfl) ?_
  refine va_get (D := D) (ci := 5) (v := .ref (ad 23)) (C := RX5) (T := TX5) (N := 4) hx hb hts u9_wsX5_setWords_X5 hown hK hP 22 rfl rfl 1 (by decide) (hts (.fieldLink RX5 11 "TurnedFloors$Runner" "words" "[I") f9_wsX5_setWords_620) (fun _ h9 => h9) rfl dX5_setWords_21 ?_
  refine lv_iconst (v := 2) hx hb dX5_setWords_24 (by decide) ?_
  refine lv_aload_n hx hb dX5_setWords_25 rfl (lv_at hl 0 rfl) ?_
  refine va_get (D := D) (ci := 5) (v := .int (q2.1 22 3)) (C := RX5) (T := TX5) (N := 4) hx hb hts u9_wsX5_setWords_X5 hown hK hP 22 rfl rfl 3 (by decide) (hts (.fieldLink RX5 19 "TurnedFloors$Runner" "latest" "I") f9_wsX5_setWords_623) (fun _ h9 => h9) rfl dX5_setWords_26 ?_
  refine va_iast hx hb hK hP hD hS 23 0 rfl rfl (by simp only [vp_in]; decide) dX5_setWords_29 (fun H locs hp hd hs => ?_)
  obtain ⟨q3, eq3, h⟩ := dL_some h
  refine kz_re (w2 := wF ty ad q3) hp hd hs (by rw [(by decide +kernel : Int32.toNatClampNeg 2 = 2), ← eq3]; exact wF_a23 ty ad q2 2 (q2.1 22 3)) ?_
  clear hp hd hs hP hD hS
  intro hP hD hS
  refine lv_aload_n hx hb dX5_setWords_30 rfl (lv_at hl 0 rfl) ?_
  refine va_get (D := D) (ci := 5) (v := .ref (ad 23)) (C := RX5) (T := TX5) (N := 4) hx hb hts u9_wsX5_setWords_X5 hown hK hP 22 rfl rfl 1 (by decide) (hts (.fieldLink RX5 11 "TurnedFloors$Runner" "words" "[I") f9_wsX5_setWords_620) (fun _ h9 => h9) rfl dX5_setWords_31 ?_
  refine lv_iconst (v := 3) hx hb dX5_setWords_34 (by decide) ?_
  refine lv_aload_n hx hb dX5_setWords_35 rfl (lv_at hl 1 rfl) ?_
  refine va_getN (D := D) (ci := 8) (v := .int (q3.1 2 3)) (C := RX8) (T := TX8) (N := 5) hx hb hts u9_wsX5_setWords_X8 hown hK hP 2 rfl rfl 3 (by decide) (hN.use (.fieldLinkNest "TurnedFloors$Runner" 89 "TurnedFloors$Tower" "paid" "I" "TurnedFloors") nn9_20) (fun _ h9 => h9) rfl dX5_setWords_36 ?_
  refine va_iast hx hb hK hP hD hS 23 0 rfl rfl (by simp only [vp_in]; decide) dX5_setWords_39 (fun H locs hp hd hs => ?_)
  obtain ⟨q4, eq4, h⟩ := dL_some h
  refine kz_re (w2 := wF ty ad q4) hp hd hs (by rw [(by decide +kernel : Int32.toNatClampNeg 3 = 3), ← eq4]; exact wF_a23 ty ad q3 3 (q3.1 2 3)) ?_
  clear hp hd hs hP hD hS
  intro hP hD hS
  refine lv_aload_n hx hb dX5_setWords_40 rfl (lv_at hl 0 rfl) ?_
  refine va_get (D := D) (ci := 5) (v := .ref (ad 23)) (C := RX5) (T := TX5) (N := 4) hx hb hts u9_wsX5_setWords_X5 hown hK hP 22 rfl rfl 1 (by decide) (hts (.fieldLink RX5 11 "TurnedFloors$Runner" "words" "[I") f9_wsX5_setWords_620) (fun _ h9 => h9) rfl dX5_setWords_41 ?_
  refine lv_iconst (v := 4) hx hb dX5_setWords_44 (by decide) ?_
  refine lv_aload_n hx hb dX5_setWords_45 rfl (lv_at hl 1 rfl) ?_
  obtain ⟨r5, q7, h6, h⟩ := dB_some h
  refine dw_ki (va_runV (As := []) (rest := [.int 4, .ref (ad 23)]) ⟨hx, hb, hml, hown, hts⟩ (qX8_gapCount_s2 l D ty eo _ ad q4  r5 q7 h6) (cwV 0 hts gX5_setWords_X8_gapCount rfl rfl rfl hd_X8_gapCount_v ⟨Nat.le_of_ble_eq_true rfl, Nat.le_of_ble_eq_true rfl⟩) (pvF_8_2 hK hN hE hP hD hS hA) rfl rfl hl.1 rfl (lv_room (Nat.le_of_ble_eq_true rfl)) dX5_setWords_46 ⟨Nat.le_of_ble_eq_true rfl, Nat.le_of_ble_eq_true rfl⟩) hD hS hA (fun r9 u9 H locs hw hp hd hs => ?_)
  clear hP hD hS
  obtain ⟨rfl, rfl⟩ := hw
  have hP := hp; have hD := hd; have hS := hs; clear hp hd hs
  refine va_iast hx hb hK hP hD hS 23 0 rfl rfl (by simp only [vp_in]; decide) dX5_setWords_49 (fun H locs hp hd hs => ?_)
  obtain ⟨q8, eq8, h⟩ := dL_some h
  refine kz_re (w2 := wF ty ad q8) hp hd hs (by rw [(by decide +kernel : Int32.toNatClampNeg 4 = 4), ← eq8]; exact wF_a23 ty ad q7 4 r5) ?_
  clear hp hd hs hP hD hS
  intro hP hD hS
  refine lv_iconst (v := 0) hx hb dX5_setWords_50 (by decide) ?_
  refine lv_istore_n (lv' := [(2, .int 0), (0, .ref (ad 22)), (1, .ref (ad 2))]) hx hb dX5_setWords_51 rfl hl (by decide) rfl (fun ls hl => ?_)
  exact WX5_setWords_s22_s2_52 C  _ _ _ _ _ _ h hP hD hS (lv_sub hl [1, 2, 0] rfl)

set_option maxHeartbeats 4000000 in
set_option maxRecDepth 100000 in
theorem WX2_valueOf_s18_s25_s23_345 {p : Program} {l : Launch} {e : Env} {s : State} {m : MethodId} {args : Array Value} {below : List Frame} {meth : Method} {c : Code} {D : va_G} {ty : Nat → ClassId} {eo : Nat → Nat} {A : Nat → Prop} {ad : Nat → Nat} {o1 : Int32} {o2 : dK} (C : dc_C p s m args meth c cX2_valueOf (some .int) 13 RX2 wsX2_valueOf D ty eo A)   (q : dK) (y0 : Int32) (H : Heap) (locs : List Loc) (ls : Array Slot) (h : zX2_valueOf_s18_s25_s23_345  q y0 = some (o1, o2)) (hP : va_P D vwCl (wF ty ad q) H) (hD : va_D A (wF ty ad q)) (hS : va_S A s.heap H locs) (hl : lv_has ls 13 []) : W p l e ({ frames := 1, cells := 0, slots := 0, locals := 27 } : Room) s m args below meth c H locs 0 0 (MQ below (va_Qi (fun (r : Int32) (u : va_W) => o1 = r ∧ wF ty ad o2 = u) (kz_B D ty A) A) args s 0 0 A) (F0 m 345 ls [.int y0]) := by
  have C0 := C
  obtain ⟨hx, hb, hr, hts, hown, hlocks, hml, hK, hN, hE, hA⟩ := C
  unfold zX2_valueOf_s18_s25_s23_345 at h
  cases h
  exact kz_iret hx hb hr hlocks hP hK hD hS dX2_valueOf_345 ⟨rfl, rfl⟩
set_option maxHeartbeats 4000000 in
set_option maxRecDepth 100000 in
theorem WX2_valueOf_s18_s25_s23_328 {p : Program} {l : Launch} {e : Env} {s : State} {m : MethodId} {args : Array Value} {below : List Frame} {meth : Method} {c : Code} {D : va_G} {ty : Nat → ClassId} {eo : Nat → Nat} {A : Nat → Prop} {ad : Nat → Nat} {o1 : Int32} {o2 : dK} (C : dc_C p s m args meth c cX2_valueOf (some .int) 13 RX2 wsX2_valueOf D ty eo A)   (q : dK)  (H : Heap) (locs : List Loc) (ls : Array Slot) (h : zX2_valueOf_s18_s25_s23_328  q = some (o1, o2)) (hP : va_P D vwCl (wF ty ad q) H) (hD : va_D A (wF ty ad q)) (hS : va_S A s.heap H locs) (hl : lv_has ls 13 [(0, .ref (ad 18))]) : W p l e ({ frames := 1, cells := 0, slots := 0, locals := 27 } : Room) s m args below meth c H locs 0 0 (MQ below (va_Qi (fun (r : Int32) (u : va_W) => o1 = r ∧ wF ty ad o2 = u) (kz_B D ty A) A) args s 0 0 A) (F0 m 328 ls []) := by
  have C0 := C
  obtain ⟨hx, hb, hr, hts, hown, hlocks, hml, hK, hN, hE, hA⟩ := C
  unfold zX2_valueOf_s18_s25_s23_328 at h
  refine lv_aload_n hx hb dX2_valueOf_328 rfl (lv_at hl 0 rfl) ?_
  refine va_get (D := D) (ci := 2) (v := .int (q.1 18 1)) (C := RX2) (T := TX2) (N := 2) hx hb hts u9_wsX2_valueOf_X2 hown hK hP 18 rfl rfl 1 (by decide) (hts (.fieldLink RX2 13 "TurnedFloors$Machine" "broken" "Z") f9_wsX2_valueOf_386) (fun _ h9 => h9) rfl dX2_valueOf_329 ?_
  refine lv_if_eq (tgt := 339) hx hb dX2_valueOf_332 (by decide) (fun c9 => ?_) (fun c9 => ?_)
  · rw [if_pos c9] at h
    refine lv_aload_n hx hb dX2_valueOf_339 rfl (lv_at hl 0 rfl) ?_
    refine va_get (D := D) (ci := 2) (v := .ref (ad 19)) (C := RX2) (T := TX2) (N := 2) hx hb hts u9_wsX2_valueOf_X2 hown hK hP 18 rfl rfl 0 (by decide) (hts (.fieldLink RX2 9 "TurnedFloors$Machine" "stack" "[I") f9_wsX2_valueOf_387) (fun _ h9 => h9) rfl dX2_valueOf_340 ?_
    refine lv_iconst (v := 0) hx hb dX2_valueOf_343 (by decide) ?_
    refine va_iald hx hb hK hP 19 0 rfl rfl (by simp only [vp_in]; decide) dX2_valueOf_344 ?_
    refine kz_topi (q.1 19 0) (congrArg (q.1 19) (by decide +kernel : Int32.toNatClampNeg 0 = 0)) ?_
    exact WX2_valueOf_s18_s25_s23_345 C0  _ _ _ _ _ h hP hD hS (lv_sub hl [] rfl)
  · rw [if_neg c9] at h
    refine lv_iconst (v := 0) hx hb dX2_valueOf_335 (by decide) ?_
    refine lv_goto (tgt := 345) hx hb dX2_valueOf_336 (by decide) ?_
    exact WX2_valueOf_s18_s25_s23_345 C0  _ _ _ _ _ h hP hD hS (lv_sub hl [] rfl)
set_option maxHeartbeats 4000000 in
set_option maxRecDepth 100000 in
theorem WX2_valueOf_s18_s25_s23_322 {p : Program} {l : Launch} {e : Env} {s : State} {m : MethodId} {args : Array Value} {below : List Frame} {meth : Method} {c : Code} {D : va_G} {ty : Nat → ClassId} {eo : Nat → Nat} {A : Nat → Prop} {ad : Nat → Nat} {o1 : Int32} {o2 : dK} (C : dc_C p s m args meth c cX2_valueOf (some .int) 13 RX2 wsX2_valueOf D ty eo A) {k32 : dK → Int32 → Int32 → Int32 → Int32 → Option (Int32 × dK)} (hk32 : ∀ (q : dK) (x5 : Int32) (x6 : Int32) (x7 : Int32) (x8 : Int32) (H : Heap) (locs : List Loc) (ls : Array Slot), k32 q x5 x6 x7 x8 = some (o1, o2) → va_P D vwCl (wF ty ad q) H → va_D A (wF ty ad q) → va_S A s.heap H locs → lv_has ls 13 [(0, .ref (ad 18)), (1, .ref (ad 25)), (4, .ref (ad 23)), (5, .int x5), (6, .int x6), (7, .int x7), (8, .int x8)] → W p l e ({ frames := 1, cells := 0, slots := 0, locals := 27 } : Room) s m args below meth c H locs 0 0 (MQ below (va_Qi (fun (r : Int32) (u : va_W) => o1 = r ∧ wF ty ad o2 = u) (kz_B D ty A) A) args s 0 0 A) (F0 m 32 ls [])) (q : dK) (x5 : Int32) (x6 : Int32) (x7 : Int32) (x8 : Int32) (H : Heap) (locs : List Loc) (ls : Array Slot) (h : zX2_valueOf_s18_s25_s23_322 k32 q x5 x6 x7 x8 = some (o1, o2)) (hP : va_P D vwCl (wF ty ad q) H) (hD : va_D A (wF ty ad q)) (hS : va_S A s.heap H locs) (hl : lv_has ls 13 [(0, .ref (ad 18)), (1, .ref (ad 25)), (4, .ref (ad 23)), (5, .int x5), (6, .int x6), (7, .int x7), (8, .int x8)]) : W p l e ({ frames := 1, cells := 0, slots := 0, locals := 27 } : Room) s m args below meth c H locs 0 0 (MQ below (va_Qi (fun (r : Int32) (u : va_W) => o1 = r ∧ wF ty ad o2 = u) (kz_B D ty A) A) args s 0 0 A) (F0 m 322 ls []) := by
  have C0 := C
  obtain ⟨hx, hb, hr, hts, hown, hlocks, hml, hK, hN, hE, hA⟩ := C
  unfold zX2_valueOf_s18_s25_s23_322 at h
  refine lv_iinc (v := x8 + 1) (lv' := [(8, .int (x8 + 1)), (0, .ref (ad 18)), (1, .ref (ad 25)), (4, .ref (ad 23)), (5, .int x5), (6, .int x6), (7, .int x7)]) hx hb dX2_valueOf_322 hl (k := 6) rfl rfl (by decide) rfl (fun ls hl => ?_)
  refine lv_goto (tgt := 32) hx hb dX2_valueOf_325 (by decide) ?_
  exact hk32 _ _ _ _ _ _ _ _ h hP hD hS (lv_sub hl [1, 2, 3, 4, 5, 6, 0] rfl)
set_option maxHeartbeats 4000000 in
set_option maxRecDepth 100000 in
theorem WX2_valueOf_s18_s25_s23_281 {p : Program} {l : Launch} {e : Env} {s : State} {m : MethodId} {args : Array Value} {below : List Frame} {meth : Method} {c : Code} {D : va_G} {ty : Nat → ClassId} {eo : Nat → Nat} {A : Nat → Prop} {ad : Nat → Nat} {o1 : Int32} {o2 : dK} (C : dc_C p s m args meth c cX2_valueOf (some .int) 13 RX2 wsX2_valueOf D ty eo A) {k32 : dK → Int32 → Int32 → Int32 → Int32 → Option (Int32 × dK)} (hk32 : ∀ (q : dK) (x5 : Int32) (x6 : Int32) (x7 : Int32) (x8 : Int32) (H : Heap) (locs : List Loc) (ls : Array Slot), k32 q x5 x6 x7 x8 = some (o1, o2) → va_P D vwCl (wF ty ad q) H → va_D A (wF ty ad q) → va_S A s.heap H locs → lv_has ls 13 [(0, .ref (ad 18)), (1, .ref (ad 25)), (4, .ref (ad 23)), (5, .int x5), (6, .int x6), (7, .int x7), (8, .int x8)] → W p l e ({ frames := 1, cells := 0, slots := 0, locals := 27 } : Room) s m args below meth c H locs 0 0 (MQ below (va_Qi (fun (r : Int32) (u : va_W) => o1 = r ∧ wF ty ad o2 = u) (kz_B D ty A) A) args s 0 0 A) (F0 m 32 ls [])) (q : dK) (x6 : Int32) (x7 : Int32) (x8 : Int32) (y0 : Int32) (H : Heap) (locs : List Loc) (ls : Array Slot) (h : zX2_valueOf_s18_s25_s23_281 k32 q x6 x7 x8 y0 = some (o1, o2)) (hP : va_P D vwCl (wF ty ad q) H) (hD : va_D A (wF ty ad q)) (hS : va_S A s.heap H locs) (hl : lv_has ls 13 [(0, .ref (ad 18)), (1, .ref (ad 25)), (4, .ref (ad 23)), (6, .int x6), (7, .int x7), (8, .int x8)]) : W p l e ({ frames := 1, cells := 0, slots := 0, locals := 27 } : Room) s m args below meth c H locs 0 0 (MQ below (va_Qi (fun (r : Int32) (u : va_W) => o1 = r ∧ wF ty ad o2 = u) (kz_B D ty A) A) args s 0 0 A) (F0 m 281 ls [.int y0]) := by
  have C0 := C
  obtain ⟨hx, hb, hr, hts, hown, hlocks, hml, hK, hN, hE, hA⟩ := C
  unfold zX2_valueOf_s18_s25_s23_281 at h
  refine lv_istore (lv' := [(5, .int y0), (0, .ref (ad 18)), (1, .ref (ad 25)), (4, .ref (ad 23)), (6, .int x6), (7, .int x7), (8, .int x8)]) hx hb dX2_valueOf_281 hl (by decide) rfl (fun ls hl => ?_)
  refine lv_goto (tgt := 322) hx hb dX2_valueOf_283 (by decide) ?_
  exact WX2_valueOf_s18_s25_s23_322 C0 hk32 _ _ _ _ _ _ _ _ h hP hD hS (lv_sub hl [1, 2, 3, 0, 4, 5, 6] rfl)
set_option maxHeartbeats 4000000 in
set_option maxRecDepth 100000 in
theorem WX2_valueOf_s18_s25_s23_265 {p : Program} {l : Launch} {e : Env} {s : State} {m : MethodId} {args : Array Value} {below : List Frame} {meth : Method} {c : Code} {D : va_G} {ty : Nat → ClassId} {eo : Nat → Nat} {A : Nat → Prop} {ad : Nat → Nat} {o1 : Int32} {o2 : dK} (C : dc_C p s m args meth c cX2_valueOf (some .int) 13 RX2 wsX2_valueOf D ty eo A) {k32 : dK → Int32 → Int32 → Int32 → Int32 → Option (Int32 × dK)} (hk32 : ∀ (q : dK) (x5 : Int32) (x6 : Int32) (x7 : Int32) (x8 : Int32) (H : Heap) (locs : List Loc) (ls : Array Slot), k32 q x5 x6 x7 x8 = some (o1, o2) → va_P D vwCl (wF ty ad q) H → va_D A (wF ty ad q) → va_S A s.heap H locs → lv_has ls 13 [(0, .ref (ad 18)), (1, .ref (ad 25)), (4, .ref (ad 23)), (5, .int x5), (6, .int x6), (7, .int x7), (8, .int x8)] → W p l e ({ frames := 1, cells := 0, slots := 0, locals := 27 } : Room) s m args below meth c H locs 0 0 (MQ below (va_Qi (fun (r : Int32) (u : va_W) => o1 = r ∧ wF ty ad o2 = u) (kz_B D ty A) A) args s 0 0 A) (F0 m 32 ls [])) (q : dK) (x5 : Int32) (x7 : Int32) (x8 : Int32) (x12 : Int32) (y0 : Int32) (H : Heap) (locs : List Loc) (ls : Array Slot) (h : zX2_valueOf_s18_s25_s23_265 k32 q x5 x7 x8 x12 y0 = some (o1, o2)) (hP : va_P D vwCl (wF ty ad q) H) (hD : va_D A (wF ty ad q)) (hS : va_S A s.heap H locs) (hl : lv_has ls 13 [(0, .ref (ad 18)), (1, .ref (ad 25)), (4, .ref (ad 23)), (5, .int x5), (7, .int x7), (8, .int x8), (12, .int x12)]) : W p l e ({ frames := 1, cells := 0, slots := 0, locals := 27 } : Room) s m args below meth c H locs 0 0 (MQ below (va_Qi (fun (r : Int32) (u : va_W) => o1 = r ∧ wF ty ad o2 = u) (kz_B D ty A) A) args s 0 0 A) (F0 m 265 ls [.int y0]) := by
  have C0 := C
  obtain ⟨hx, hb, hr, hts, hown, hlocks, hml, hK, hN, hE, hA⟩ := C
  unfold zX2_valueOf_s18_s25_s23_265 at h
  refine lv_istore (lv' := [(6, .int y0), (0, .ref (ad 18)), (1, .ref (ad 25)), (4, .ref (ad 23)), (5, .int x5), (7, .int x7), (8, .int x8), (12, .int x12)]) hx hb dX2_valueOf_265 hl (by decide) rfl (fun ls hl => ?_)
  refine lv_iload hx hb dX2_valueOf_267 (lv_at hl 7 rfl) ?_
  refine lv_if_eq (tgt := 277) hx hb dX2_valueOf_269 (by decide) (fun c9 => ?_) (fun c9 => ?_)
  · rw [if_pos c9] at h
    refine lv_iload hx hb dX2_valueOf_277 (lv_at hl 4 rfl) ?_
    refine lv_iconst (v := 1) hx hb dX2_valueOf_279 (by decide) ?_
    refine lv_isub hx hb dX2_valueOf_280 ?_
    exact WX2_valueOf_s18_s25_s23_281 C0 hk32 _ _ _ _ _ _ _ _ h hP hD hS (lv_sub hl [1, 2, 3, 0, 5, 6] rfl)
  · rw [if_neg c9] at h
    refine lv_iload hx hb dX2_valueOf_272 (lv_at hl 4 rfl) ?_
    refine lv_goto (tgt := 281) hx hb dX2_valueOf_274 (by decide) ?_
    exact WX2_valueOf_s18_s25_s23_281 C0 hk32 _ _ _ _ _ _ _ _ h hP hD hS (lv_sub hl [1, 2, 3, 0, 5, 6] rfl)
set_option maxHeartbeats 4000000 in
set_option maxRecDepth 100000 in
theorem WX2_valueOf_s18_s25_s23_251 {p : Program} {l : Launch} {e : Env} {s : State} {m : MethodId} {args : Array Value} {below : List Frame} {meth : Method} {c : Code} {D : va_G} {ty : Nat → ClassId} {eo : Nat → Nat} {A : Nat → Prop} {ad : Nat → Nat} {o1 : Int32} {o2 : dK} (C : dc_C p s m args meth c cX2_valueOf (some .int) 13 RX2 wsX2_valueOf D ty eo A) {k32 : dK → Int32 → Int32 → Int32 → Int32 → Option (Int32 × dK)} (hk32 : ∀ (q : dK) (x5 : Int32) (x6 : Int32) (x7 : Int32) (x8 : Int32) (H : Heap) (locs : List Loc) (ls : Array Slot), k32 q x5 x6 x7 x8 = some (o1, o2) → va_P D vwCl (wF ty ad q) H → va_D A (wF ty ad q) → va_S A s.heap H locs → lv_has ls 13 [(0, .ref (ad 18)), (1, .ref (ad 25)), (4, .ref (ad 23)), (5, .int x5), (6, .int x6), (7, .int x7), (8, .int x8)] → W p l e ({ frames := 1, cells := 0, slots := 0, locals := 27 } : Room) s m args below meth c H locs 0 0 (MQ below (va_Qi (fun (r : Int32) (u : va_W) => o1 = r ∧ wF ty ad o2 = u) (kz_B D ty A) A) args s 0 0 A) (F0 m 32 ls [])) (q : dK) (x5 : Int32) (x6 : Int32) (x7 : Int32) (x8 : Int32) (x10 : Int32) (y0 : Int32) (H : Heap) (locs : List Loc) (ls : Array Slot) (h : zX2_valueOf_s18_s25_s23_251 k32 q x5 x6 x7 x8 x10 y0 = some (o1, o2)) (hP : va_P D vwCl (wF ty ad q) H) (hD : va_D A (wF ty ad q)) (hS : va_S A s.heap H locs) (hl : lv_has ls 13 [(0, .ref (ad 18)), (1, .ref (ad 25)), (4, .ref (ad 23)), (5, .int x5), (6, .int x6), (7, .int x7), (8, .int x8), (10, .int x10)]) : W p l e ({ frames := 1, cells := 0, slots := 0, locals := 27 } : Room) s m args below meth c H locs 0 0 (MQ below (va_Qi (fun (r : Int32) (u : va_W) => o1 = r ∧ wF ty ad o2 = u) (kz_B D ty A) A) args s 0 0 A) (F0 m 251 ls [.int y0]) := by
  have C0 := C
  obtain ⟨hx, hb, hr, hts, hown, hlocks, hml, hK, hN, hE, hA⟩ := C
  unfold zX2_valueOf_s18_s25_s23_251 at h
  refine lv_istore (lv' := [(12, .int y0), (0, .ref (ad 18)), (1, .ref (ad 25)), (4, .ref (ad 23)), (5, .int x5), (6, .int x6), (7, .int x7), (8, .int x8), (10, .int x10)]) hx hb dX2_valueOf_251 hl (by decide) rfl (fun ls hl => ?_)
  refine lv_iload hx hb dX2_valueOf_253 (lv_at hl 0 rfl) ?_
  refine lv_if_eq (tgt := 263) hx hb dX2_valueOf_255 (by decide) (fun c9 => ?_) (fun c9 => ?_)
  · rw [if_pos c9] at h
    refine lv_iload hx hb dX2_valueOf_263 (lv_at hl 5 rfl) ?_
    exact WX2_valueOf_s18_s25_s23_265 C0 hk32 _ _ _ _ _ _ _ _ _ h hP hD hS (lv_sub hl [1, 2, 3, 4, 6, 7, 0] rfl)
  · rw [if_neg c9] at h
    refine lv_iload hx hb dX2_valueOf_258 (lv_at hl 8 rfl) ?_
    refine lv_goto (tgt := 265) hx hb dX2_valueOf_260 (by decide) ?_
    exact WX2_valueOf_s18_s25_s23_265 C0 hk32 _ _ _ _ _ _ _ _ _ h hP hD hS (lv_sub hl [1, 2, 3, 4, 6, 7, 0] rfl)
set_option maxHeartbeats 4000000 in
set_option maxRecDepth 100000 in
theorem WX2_valueOf_s18_s25_s23_243 {p : Program} {l : Launch} {e : Env} {s : State} {m : MethodId} {args : Array Value} {below : List Frame} {meth : Method} {c : Code} {D : va_G} {ty : Nat → ClassId} {eo : Nat → Nat} {A : Nat → Prop} {ad : Nat → Nat} {o1 : Int32} {o2 : dK} (C : dc_C p s m args meth c cX2_valueOf (some .int) 13 RX2 wsX2_valueOf D ty eo A) {k32 : dK → Int32 → Int32 → Int32 → Int32 → Option (Int32 × dK)} (hk32 : ∀ (q : dK) (x5 : Int32) (x6 : Int32) (x7 : Int32) (x8 : Int32) (H : Heap) (locs : List Loc) (ls : Array Slot), k32 q x5 x6 x7 x8 = some (o1, o2) → va_P D vwCl (wF ty ad q) H → va_D A (wF ty ad q) → va_S A s.heap H locs → lv_has ls 13 [(0, .ref (ad 18)), (1, .ref (ad 25)), (4, .ref (ad 23)), (5, .int x5), (6, .int x6), (7, .int x7), (8, .int x8)] → W p l e ({ frames := 1, cells := 0, slots := 0, locals := 27 } : Room) s m args below meth c H locs 0 0 (MQ below (va_Qi (fun (r : Int32) (u : va_W) => o1 = r ∧ wF ty ad o2 = u) (kz_B D ty A) A) args s 0 0 A) (F0 m 32 ls [])) (q : dK) (x5 : Int32) (x6 : Int32) (x7 : Int32) (x8 : Int32) (x10 : Int32) (y0 : Int32) (y1 : Int32) (H : Heap) (locs : List Loc) (ls : Array Slot) (h : zX2_valueOf_s18_s25_s23_243 k32 q x5 x6 x7 x8 x10 y0 y1 = some (o1, o2)) (hP : va_P D vwCl (wF ty ad q) H) (hD : va_D A (wF ty ad q)) (hS : va_S A s.heap H locs) (hl : lv_has ls 13 [(0, .ref (ad 18)), (1, .ref (ad 25)), (4, .ref (ad 23)), (5, .int x5), (6, .int x6), (7, .int x7), (8, .int x8), (10, .int x10)]) : W p l e ({ frames := 1, cells := 0, slots := 0, locals := 27 } : Room) s m args below meth c H locs 0 0 (MQ below (va_Qi (fun (r : Int32) (u : va_W) => o1 = r ∧ wF ty ad o2 = u) (kz_B D ty A) A) args s 0 0 A) (F0 m 243 ls [.int y0, .int y1]) := by
  have C0 := C
  obtain ⟨hx, hb, hr, hts, hown, hlocks, hml, hK, hN, hE, hA⟩ := C
  unfold zX2_valueOf_s18_s25_s23_243 at h
  refine lv_icmp_ne (tgt := 250) hx hb dX2_valueOf_243 (by decide) (fun c9 => ?_) (fun c9 => ?_)
  · rw [if_neg c9] at h
    refine lv_iconst (v := 0) hx hb dX2_valueOf_250 (by decide) ?_
    exact WX2_valueOf_s18_s25_s23_251 C0 hk32 _ _ _ _ _ _ _ _ _ _ h hP hD hS (lv_sub hl [0, 1, 2, 3, 4, 5, 6, 7] rfl)
  · rw [if_pos c9] at h
    refine lv_iconst (v := 1) hx hb dX2_valueOf_246 (by decide) ?_
    refine lv_goto (tgt := 251) hx hb dX2_valueOf_247 (by decide) ?_
    exact WX2_valueOf_s18_s25_s23_251 C0 hk32 _ _ _ _ _ _ _ _ _ _ h hP hD hS (lv_sub hl [0, 1, 2, 3, 4, 5, 6, 7] rfl)
set_option maxHeartbeats 4000000 in
set_option maxRecDepth 100000 in
theorem WX2_valueOf_s18_s25_s23_222 {p : Program} {l : Launch} {e : Env} {s : State} {m : MethodId} {args : Array Value} {below : List Frame} {meth : Method} {c : Code} {D : va_G} {ty : Nat → ClassId} {eo : Nat → Nat} {A : Nat → Prop} {ad : Nat → Nat} {o1 : Int32} {o2 : dK} (C : dc_C p s m args meth c cX2_valueOf (some .int) 13 RX2 wsX2_valueOf D ty eo A) {k32 : dK → Int32 → Int32 → Int32 → Int32 → Option (Int32 × dK)} (hk32 : ∀ (q : dK) (x5 : Int32) (x6 : Int32) (x7 : Int32) (x8 : Int32) (H : Heap) (locs : List Loc) (ls : Array Slot), k32 q x5 x6 x7 x8 = some (o1, o2) → va_P D vwCl (wF ty ad q) H → va_D A (wF ty ad q) → va_S A s.heap H locs → lv_has ls 13 [(0, .ref (ad 18)), (1, .ref (ad 25)), (4, .ref (ad 23)), (5, .int x5), (6, .int x6), (7, .int x7), (8, .int x8)] → W p l e ({ frames := 1, cells := 0, slots := 0, locals := 27 } : Room) s m args below meth c H locs 0 0 (MQ below (va_Qi (fun (r : Int32) (u : va_W) => o1 = r ∧ wF ty ad o2 = u) (kz_B D ty A) A) args s 0 0 A) (F0 m 32 ls [])) (q : dK) (x5 : Int32) (x6 : Int32) (x7 : Int32) (x8 : Int32) (x9 : Int32) (x10 : Int32) (H : Heap) (locs : List Loc) (ls : Array Slot) (h : zX2_valueOf_s18_s25_s23_222 k32 q x5 x6 x7 x8 x9 x10 = some (o1, o2)) (hP : va_P D vwCl (wF ty ad q) H) (hD : va_D A (wF ty ad q)) (hS : va_S A s.heap H locs) (hl : lv_has ls 13 [(0, .ref (ad 18)), (1, .ref (ad 25)), (4, .ref (ad 23)), (5, .int x5), (6, .int x6), (7, .int x7), (8, .int x8), (9, .int x9), (10, .int x10)]) : W p l e ({ frames := 1, cells := 0, slots := 0, locals := 27 } : Room) s m args below meth c H locs 0 0 (MQ below (va_Qi (fun (r : Int32) (u : va_W) => o1 = r ∧ wF ty ad o2 = u) (kz_B D ty A) A) args s 0 0 A) (F0 m 222 ls []) := by
  have C0 := C
  obtain ⟨hx, hb, hr, hts, hown, hlocks, hml, hK, hN, hE, hA⟩ := C
  unfold zX2_valueOf_s18_s25_s23_222 at h
  refine lv_aload_n hx hb dX2_valueOf_222 rfl (lv_at hl 0 rfl) ?_
  refine va_get (D := D) (ci := 2) (v := .ref (ad 19)) (C := RX2) (T := TX2) (N := 2) hx hb hts u9_wsX2_valueOf_X2 hown hK hP 18 rfl rfl 0 (by decide) (hts (.fieldLink RX2 9 "TurnedFloors$Machine" "stack" "[I") f9_wsX2_valueOf_387) (fun _ h9 => h9) rfl dX2_valueOf_223 ?_
  refine lv_iload hx hb dX2_valueOf_226 (lv_at hl 3 rfl) ?_
  refine lv_iconst (v := 1) hx hb dX2_valueOf_228 (by decide) ?_
  refine lv_isub hx hb dX2_valueOf_229 ?_
  obtain ⟨g1, h⟩ := dG_some h
  refine va_iald hx hb hK hP 19 0 rfl rfl (dg_in g1) dX2_valueOf_230 ?_
  obtain ⟨v2, ev2, h⟩ := dL_some h
  refine kz_topi v2 ev2 ?_
  refine lv_iload hx hb dX2_valueOf_231 (lv_at hl 7 rfl) ?_
  refine lv_bipush (v := 12) hx hb dX2_valueOf_233 (by decide) ?_
  refine lv_icmp_ne (tgt := 242) hx hb dX2_valueOf_235 (by decide) (fun c9 => ?_) (fun c9 => ?_)
  · rw [if_neg c9] at h
    refine lv_iconst (v := 0) hx hb dX2_valueOf_242 (by decide) ?_
    exact WX2_valueOf_s18_s25_s23_243 C0 hk32 _ _ _ _ _ _ _ _ _ _ _ h hP hD hS (lv_sub hl [0, 1, 2, 3, 4, 5, 6, 8] rfl)
  · rw [if_pos c9] at h
    refine lv_iconst (v := 1) hx hb dX2_valueOf_238 (by decide) ?_
    refine lv_goto (tgt := 243) hx hb dX2_valueOf_239 (by decide) ?_
    exact WX2_valueOf_s18_s25_s23_243 C0 hk32 _ _ _ _ _ _ _ _ _ _ _ h hP hD hS (lv_sub hl [0, 1, 2, 3, 4, 5, 6, 8] rfl)
set_option maxHeartbeats 4000000 in
set_option maxRecDepth 100000 in
theorem WX2_valueOf_s18_s25_s23_171 {p : Program} {l : Launch} {e : Env} {s : State} {m : MethodId} {args : Array Value} {below : List Frame} {meth : Method} {c : Code} {D : va_G} {ty : Nat → ClassId} {eo : Nat → Nat} {A : Nat → Prop} {ad : Nat → Nat} {o1 : Int32} {o2 : dK} (C : dc_C p s m args meth c cX2_valueOf (some .int) 13 RX2 wsX2_valueOf D ty eo A) {k32 : dK → Int32 → Int32 → Int32 → Int32 → Option (Int32 × dK)} (hk32 : ∀ (q : dK) (x5 : Int32) (x6 : Int32) (x7 : Int32) (x8 : Int32) (H : Heap) (locs : List Loc) (ls : Array Slot), k32 q x5 x6 x7 x8 = some (o1, o2) → va_P D vwCl (wF ty ad q) H → va_D A (wF ty ad q) → va_S A s.heap H locs → lv_has ls 13 [(0, .ref (ad 18)), (1, .ref (ad 25)), (4, .ref (ad 23)), (5, .int x5), (6, .int x6), (7, .int x7), (8, .int x8)] → W p l e ({ frames := 1, cells := 0, slots := 0, locals := 27 } : Room) s m args below meth c H locs 0 0 (MQ below (va_Qi (fun (r : Int32) (u : va_W) => o1 = r ∧ wF ty ad o2 = u) (kz_B D ty A) A) args s 0 0 A) (F0 m 32 ls [])) (q : dK) (x5 : Int32) (x6 : Int32) (x7 : Int32) (x8 : Int32) (y0 : Int32) (y1 : Int32) (H : Heap) (locs : List Loc) (ls : Array Slot) (h : zX2_valueOf_s18_s25_s23_171 k32 q x5 x6 x7 x8 y0 y1 = some (o1, o2)) (hP : va_P D vwCl (wF ty ad q) H) (hD : va_D A (wF ty ad q)) (hS : va_S A s.heap H locs) (hl : lv_has ls 13 [(0, .ref (ad 18)), (1, .ref (ad 25)), (4, .ref (ad 23)), (5, .int x5), (6, .int x6), (7, .int x7), (8, .int x8)]) : W p l e ({ frames := 1, cells := 0, slots := 0, locals := 27 } : Room) s m args below meth c H locs 0 0 (MQ below (va_Qi (fun (r : Int32) (u : va_W) => o1 = r ∧ wF ty ad o2 = u) (kz_B D ty A) A) args s 0 0 A) (F0 m 171 ls [.int y0, .int y1, .ref (ad 19)]) := by
  have C0 := C
  obtain ⟨hx, hb, hr, hts, hown, hlocks, hml, hK, hN, hE, hA⟩ := C
  unfold zX2_valueOf_s18_s25_s23_171 at h
  obtain ⟨g1, h⟩ := dG_some h
  refine va_iast hx hb hK hP hD hS 19 0 rfl rfl (dg_in g1) dX2_valueOf_171 (fun H locs hp hd hs => ?_)
  obtain ⟨q2, eq2, h⟩ := dL_some h
  refine kz_re (w2 := wF ty ad q2) hp hd hs (by rw [← eq2]; exact wF_a19 ty ad q (Int32.toNatClampNeg y1) y0) ?_
  clear hp hd hs hP hD hS
  intro hP hD hS
  refine lv_iinc (v := x5 + 1) (lv' := [(5, .int (x5 + 1)), (0, .ref (ad 18)), (1, .ref (ad 25)), (4, .ref (ad 23)), (6, .int x6), (7, .int x7), (8, .int x8)]) hx hb dX2_valueOf_172 hl (k := 3) rfl rfl (by decide) rfl (fun ls hl => ?_)
  refine lv_goto (tgt := 322) hx hb dX2_valueOf_175 (by decide) ?_
  exact WX2_valueOf_s18_s25_s23_322 C0 hk32 _ _ _ _ _ _ _ _ h hP hD hS (lv_sub hl [1, 2, 3, 0, 4, 5, 6] rfl)
set_option maxHeartbeats 4000000 in
set_option maxRecDepth 100000 in
theorem WX2_valueOf_s18_s25_s23_150 {p : Program} {l : Launch} {e : Env} {s : State} {m : MethodId} {args : Array Value} {below : List Frame} {meth : Method} {c : Code} {D : va_G} {ty : Nat → ClassId} {eo : Nat → Nat} {A : Nat → Prop} {ad : Nat → Nat} {o1 : Int32} {o2 : dK} (C : dc_C p s m args meth c cX2_valueOf (some .int) 13 RX2 wsX2_valueOf D ty eo A) {k32 : dK → Int32 → Int32 → Int32 → Int32 → Option (Int32 × dK)} (hk32 : ∀ (q : dK) (x5 : Int32) (x6 : Int32) (x7 : Int32) (x8 : Int32) (H : Heap) (locs : List Loc) (ls : Array Slot), k32 q x5 x6 x7 x8 = some (o1, o2) → va_P D vwCl (wF ty ad q) H → va_D A (wF ty ad q) → va_S A s.heap H locs → lv_has ls 13 [(0, .ref (ad 18)), (1, .ref (ad 25)), (4, .ref (ad 23)), (5, .int x5), (6, .int x6), (7, .int x7), (8, .int x8)] → W p l e ({ frames := 1, cells := 0, slots := 0, locals := 27 } : Room) s m args below meth c H locs 0 0 (MQ below (va_Qi (fun (r : Int32) (u : va_W) => o1 = r ∧ wF ty ad o2 = u) (kz_B D ty A) A) args s 0 0 A) (F0 m 32 ls [])) (q : dK) (x5 : Int32) (x6 : Int32) (x7 : Int32) (x8 : Int32) (x9 : Int32) (x10 : Int32) (H : Heap) (locs : List Loc) (ls : Array Slot) (h : zX2_valueOf_s18_s25_s23_150 k32 q x5 x6 x7 x8 x9 x10 = some (o1, o2)) (hP : va_P D vwCl (wF ty ad q) H) (hD : va_D A (wF ty ad q)) (hS : va_S A s.heap H locs) (hl : lv_has ls 13 [(0, .ref (ad 18)), (1, .ref (ad 25)), (4, .ref (ad 23)), (5, .int x5), (6, .int x6), (7, .int x7), (8, .int x8), (9, .int x9), (10, .int x10)]) : W p l e ({ frames := 1, cells := 0, slots := 0, locals := 27 } : Room) s m args below meth c H locs 0 0 (MQ below (va_Qi (fun (r : Int32) (u : va_W) => o1 = r ∧ wF ty ad o2 = u) (kz_B D ty A) A) args s 0 0 A) (F0 m 150 ls []) := by
  have C0 := C
  obtain ⟨hx, hb, hr, hts, hown, hlocks, hml, hK, hN, hE, hA⟩ := C
  unfold zX2_valueOf_s18_s25_s23_150 at h
  refine lv_aload_n hx hb dX2_valueOf_150 rfl (lv_at hl 0 rfl) ?_
  refine va_get (D := D) (ci := 2) (v := .ref (ad 19)) (C := RX2) (T := TX2) (N := 2) hx hb hts u9_wsX2_valueOf_X2 hown hK hP 18 rfl rfl 0 (by decide) (hts (.fieldLink RX2 9 "TurnedFloors$Machine" "stack" "[I") f9_wsX2_valueOf_387) (fun _ h9 => h9) rfl dX2_valueOf_151 ?_
  refine lv_iload hx hb dX2_valueOf_154 (lv_at hl 3 rfl) ?_
  refine lv_iload hx hb dX2_valueOf_156 (lv_at hl 7 rfl) ?_
  refine lv_if_ne (tgt := 166) hx hb dX2_valueOf_158 (by decide) (fun c9 => ?_) (fun c9 => ?_)
  · rw [if_neg c9] at h
    refine lv_aload hx hb dX2_valueOf_166 (lv_at hl 2 rfl) ?_
    refine lv_iload hx hb dX2_valueOf_168 (lv_at hl 8 rfl) ?_
    obtain ⟨g1, h⟩ := dG_some h
    refine va_iald hx hb hK hP 23 0 rfl rfl (dg_in g1) dX2_valueOf_170 ?_
    obtain ⟨v2, ev2, h⟩ := dL_some h
    refine kz_topi v2 ev2 ?_
    exact WX2_valueOf_s18_s25_s23_171 C0 hk32 _ _ _ _ _ _ _ _ _ _ h hP hD hS (lv_sub hl [0, 1, 2, 3, 4, 5, 6] rfl)
  · rw [if_pos c9] at h
    refine lv_iload hx hb dX2_valueOf_161 (lv_at hl 8 rfl) ?_
    refine lv_goto (tgt := 171) hx hb dX2_valueOf_163 (by decide) ?_
    exact WX2_valueOf_s18_s25_s23_171 C0 hk32 _ _ _ _ _ _ _ _ _ _ h hP hD hS (lv_sub hl [0, 1, 2, 3, 4, 5, 6] rfl)
set_option maxHeartbeats 4000000 in
set_option maxRecDepth 100000 in
theorem WX2_valueOf_s18_s25_s23_139 {p : Program} {l : Launch} {e : Env} {s : State} {m : MethodId} {args : Array Value} {below : List Frame} {meth : Method} {c : Code} {D : va_G} {ty : Nat → ClassId} {eo : Nat → Nat} {A : Nat → Prop} {ad : Nat → Nat} {o1 : Int32} {o2 : dK} (C : dc_C p s m args meth c cX2_valueOf (some .int) 13 RX2 wsX2_valueOf D ty eo A) {k32 : dK → Int32 → Int32 → Int32 → Int32 → Option (Int32 × dK)} (hk32 : ∀ (q : dK) (x5 : Int32) (x6 : Int32) (x7 : Int32) (x8 : Int32) (H : Heap) (locs : List Loc) (ls : Array Slot), k32 q x5 x6 x7 x8 = some (o1, o2) → va_P D vwCl (wF ty ad q) H → va_D A (wF ty ad q) → va_S A s.heap H locs → lv_has ls 13 [(0, .ref (ad 18)), (1, .ref (ad 25)), (4, .ref (ad 23)), (5, .int x5), (6, .int x6), (7, .int x7), (8, .int x8)] → W p l e ({ frames := 1, cells := 0, slots := 0, locals := 27 } : Room) s m args below meth c H locs 0 0 (MQ below (va_Qi (fun (r : Int32) (u : va_W) => o1 = r ∧ wF ty ad o2 = u) (kz_B D ty A) A) args s 0 0 A) (F0 m 32 ls [])) (q : dK) (x5 : Int32) (x6 : Int32) (x7 : Int32) (x8 : Int32) (x9 : Int32) (x10 : Int32) (H : Heap) (locs : List Loc) (ls : Array Slot) (h : zX2_valueOf_s18_s25_s23_139 k32 q x5 x6 x7 x8 x9 x10 = some (o1, o2)) (hP : va_P D vwCl (wF ty ad q) H) (hD : va_D A (wF ty ad q)) (hS : va_S A s.heap H locs) (hl : lv_has ls 13 [(0, .ref (ad 18)), (1, .ref (ad 25)), (4, .ref (ad 23)), (5, .int x5), (6, .int x6), (7, .int x7), (8, .int x8), (9, .int x9), (10, .int x10)]) : W p l e ({ frames := 1, cells := 0, slots := 0, locals := 27 } : Room) s m args below meth c H locs 0 0 (MQ below (va_Qi (fun (r : Int32) (u : va_W) => o1 = r ∧ wF ty ad o2 = u) (kz_B D ty A) A) args s 0 0 A) (F0 m 139 ls []) := by
  have C0 := C
  obtain ⟨hx, hb, hr, hts, hown, hlocks, hml, hK, hN, hE, hA⟩ := C
  unfold zX2_valueOf_s18_s25_s23_139 at h
  refine lv_iload hx hb dX2_valueOf_139 (lv_at hl 7 rfl) ?_
  refine lv_if_eq (tgt := 150) hx hb dX2_valueOf_141 (by decide) (fun c9 => ?_) (fun c9 => ?_)
  · rw [if_pos c9] at h
    exact WX2_valueOf_s18_s25_s23_150 C0 hk32 _ _ _ _ _ _ _ _ _ _ h hP hD hS (lv_sub hl [0, 1, 2, 3, 4, 5, 6, 7, 8] rfl)
  · rw [if_neg c9] at h
    refine lv_iload hx hb dX2_valueOf_144 (lv_at hl 7 rfl) ?_
    refine lv_iconst (v := 1) hx hb dX2_valueOf_146 (by decide) ?_
    refine lv_icmp_ne (tgt := 178) hx hb dX2_valueOf_147 (by decide) (fun c9 => ?_) (fun c9 => ?_)
    · rw [if_neg c9] at h
      refine lv_iload hx hb dX2_valueOf_178 (lv_at hl 7 rfl) ?_
      refine lv_bipush (v := 10) hx hb dX2_valueOf_180 (by decide) ?_
      refine lv_icmp_ne (tgt := 208) hx hb dX2_valueOf_182 (by decide) (fun c9 => ?_) (fun c9 => ?_)
      · rw [if_neg c9] at h
        refine lv_iload hx hb dX2_valueOf_208 (lv_at hl 7 rfl) ?_
        refine lv_bipush (v := 11) hx hb dX2_valueOf_210 (by decide) ?_
        refine lv_icmp_eq (tgt := 222) hx hb dX2_valueOf_212 (by decide) (fun c9 => ?_) (fun c9 => ?_)
        · rw [if_pos c9] at h
          exact WX2_valueOf_s18_s25_s23_222 C0 hk32 _ _ _ _ _ _ _ _ _ _ h hP hD hS (lv_sub hl [0, 1, 2, 3, 4, 5, 6, 7, 8] rfl)
        · rw [if_neg c9] at h
          refine lv_iload hx hb dX2_valueOf_215 (lv_at hl 7 rfl) ?_
          refine lv_bipush (v := 12) hx hb dX2_valueOf_217 (by decide) ?_
          refine lv_icmp_ne (tgt := 286) hx hb dX2_valueOf_219 (by decide) (fun c9 => ?_) (fun c9 => ?_)
          · rw [if_neg c9] at h
            refine lv_iinc (v := x5 + (-1)) (lv' := [(5, .int (x5 + (-1))), (0, .ref (ad 18)), (1, .ref (ad 25)), (4, .ref (ad 23)), (6, .int x6), (7, .int x7), (8, .int x8), (9, .int x9), (10, .int x10)]) hx hb dX2_valueOf_286 hl (k := 3) rfl rfl (by decide) rfl (fun ls hl => ?_)
            refine lv_aload_n hx hb dX2_valueOf_289 rfl (lv_at hl 1 rfl) ?_
            refine va_get (D := D) (ci := 2) (v := .ref (ad 19)) (C := RX2) (T := TX2) (N := 2) hx hb hts u9_wsX2_valueOf_X2 hown hK hP 18 rfl rfl 0 (by decide) (hts (.fieldLink RX2 9 "TurnedFloors$Machine" "stack" "[I") f9_wsX2_valueOf_387) (fun _ h9 => h9) rfl dX2_valueOf_290 ?_
            refine lv_iload hx hb dX2_valueOf_293 (lv_at hl 0 rfl) ?_
            refine lv_iconst (v := 1) hx hb dX2_valueOf_295 (by decide) ?_
            refine lv_isub hx hb dX2_valueOf_296 ?_
            refine lv_aload_n hx hb dX2_valueOf_297 rfl (lv_at hl 1 rfl) ?_
            refine lv_iload hx hb dX2_valueOf_298 (lv_at hl 7 rfl) ?_
            refine lv_aload_n hx hb dX2_valueOf_300 rfl (lv_at hl 1 rfl) ?_
            refine va_get (D := D) (ci := 2) (v := .ref (ad 19)) (C := RX2) (T := TX2) (N := 2) hx hb hts u9_wsX2_valueOf_X2 hown hK hP 18 rfl rfl 0 (by decide) (hts (.fieldLink RX2 9 "TurnedFloors$Machine" "stack" "[I") f9_wsX2_valueOf_387) (fun _ h9 => h9) rfl dX2_valueOf_301 ?_
            refine lv_iload hx hb dX2_valueOf_304 (lv_at hl 0 rfl) ?_
            refine lv_iconst (v := 1) hx hb dX2_valueOf_306 (by decide) ?_
            refine lv_isub hx hb dX2_valueOf_307 ?_
            obtain ⟨g1, h⟩ := dG_some h
            refine va_iald hx hb hK hP 19 0 rfl rfl (dg_in g1) dX2_valueOf_308 ?_
            obtain ⟨v2, ev2, h⟩ := dL_some h
            refine kz_topi v2 ev2 ?_
            refine lv_i2l (v := Int32.toInt64 v2) hx hb dX2_valueOf_309 rfl ?_
            refine lv_aload_n hx hb dX2_valueOf_310 rfl (lv_at hl 1 rfl) ?_
            refine va_get (D := D) (ci := 2) (v := .ref (ad 19)) (C := RX2) (T := TX2) (N := 2) hx hb hts u9_wsX2_valueOf_X2 hown hK hP 18 rfl rfl 0 (by decide) (hts (.fieldLink RX2 9 "TurnedFloors$Machine" "stack" "[I") f9_wsX2_valueOf_387) (fun _ h9 => h9) rfl dX2_valueOf_311 ?_
            refine lv_iload hx hb dX2_valueOf_314 (lv_at hl 0 rfl) ?_
            obtain ⟨g3, h⟩ := dG_some h
            refine va_iald hx hb hK hP 19 0 rfl rfl (dg_in g3) dX2_valueOf_316 ?_
            obtain ⟨v4, ev4, h⟩ := dL_some h
            refine kz_topi v4 ev4 ?_
            refine lv_i2l (v := Int32.toInt64 v4) hx hb dX2_valueOf_317 rfl ?_
            obtain ⟨r5, q7, h6, h⟩ := dB_some h
            refine dw_ki (va_runV (As := [.int x9, .long (Int32.toInt64 v2), .long (Int32.toInt64 v4)]) (rest := [.int ((x5 + (-1)) - 1 : Int32), .ref (ad 19)]) ⟨hx, hb, hml, hown, hts⟩ (qX2_join_s18 l D ty eo _ ad q x9 (Int32.toInt64 v2) (Int32.toInt64 v4) r5 q7 h6) (cwV 3 hts gX2_valueOf_X2_join rfl rfl rfl hd_X2_join_v ⟨Nat.le_of_ble_eq_true rfl, Nat.le_of_ble_eq_true rfl⟩) (pvF_2_18 hK hN hE hP hD hS hA) rfl rfl hl.1 rfl (lv_room (Nat.le_of_ble_eq_true rfl)) dX2_valueOf_318 ⟨Nat.le_of_ble_eq_true rfl, Nat.le_of_ble_eq_true rfl⟩) hD hS hA (fun r9 u9 H locs hw hp hd hs => ?_)
            clear hP hD hS
            obtain ⟨rfl, rfl⟩ := hw
            have hP := hp; have hD := hd; have hS := hs; clear hp hd hs
            obtain ⟨g8, h⟩ := dG_some h
            refine va_iast hx hb hK hP hD hS 19 0 rfl rfl (dg_in g8) dX2_valueOf_321 (fun H locs hp hd hs => ?_)
            obtain ⟨q9, eq9, h⟩ := dL_some h
            refine kz_re (w2 := wF ty ad q9) hp hd hs (by rw [← eq9]; exact wF_a19 ty ad q7 (Int32.toNatClampNeg ((x5 + (-1)) - 1 : Int32)) r5) ?_
            clear hp hd hs hP hD hS
            intro hP hD hS
            exact WX2_valueOf_s18_s25_s23_322 C0 hk32 _ _ _ _ _ _ _ _ h hP hD hS (lv_sub hl [1, 2, 3, 0, 4, 5, 6] rfl)
          · rw [if_pos c9] at h
            exact WX2_valueOf_s18_s25_s23_222 C0 hk32 _ _ _ _ _ _ _ _ _ _ h hP hD hS (lv_sub hl [0, 1, 2, 3, 4, 5, 6, 7, 8] rfl)
      · rw [if_pos c9] at h
        refine lv_aload_n hx hb dX2_valueOf_185 rfl (lv_at hl 0 rfl) ?_
        refine va_get (D := D) (ci := 2) (v := .ref (ad 19)) (C := RX2) (T := TX2) (N := 2) hx hb hts u9_wsX2_valueOf_X2 hown hK hP 18 rfl rfl 0 (by decide) (hts (.fieldLink RX2 9 "TurnedFloors$Machine" "stack" "[I") f9_wsX2_valueOf_387) (fun _ h9 => h9) rfl dX2_valueOf_186 ?_
        refine lv_iload hx hb dX2_valueOf_189 (lv_at hl 3 rfl) ?_
        refine lv_iconst (v := 1) hx hb dX2_valueOf_191 (by decide) ?_
        refine lv_isub hx hb dX2_valueOf_192 ?_
        refine lv_iconst (v := 1) hx hb dX2_valueOf_193 (by decide) ?_
        refine lv_aload_n hx hb dX2_valueOf_194 rfl (lv_at hl 0 rfl) ?_
        refine va_get (D := D) (ci := 2) (v := .ref (ad 19)) (C := RX2) (T := TX2) (N := 2) hx hb hts u9_wsX2_valueOf_X2 hown hK hP 18 rfl rfl 0 (by decide) (hts (.fieldLink RX2 9 "TurnedFloors$Machine" "stack" "[I") f9_wsX2_valueOf_387) (fun _ h9 => h9) rfl dX2_valueOf_195 ?_
        refine lv_iload hx hb dX2_valueOf_198 (lv_at hl 3 rfl) ?_
        refine lv_iconst (v := 1) hx hb dX2_valueOf_200 (by decide) ?_
        refine lv_isub hx hb dX2_valueOf_201 ?_
        obtain ⟨g10, h⟩ := dG_some h
        refine va_iald hx hb hK hP 19 0 rfl rfl (dg_in g10) dX2_valueOf_202 ?_
        obtain ⟨v11, ev11, h⟩ := dL_some h
        refine kz_topi v11 ev11 ?_
        refine lv_isub hx hb dX2_valueOf_203 ?_
        obtain ⟨g12, h⟩ := dG_some h
        refine va_iast hx hb hK hP hD hS 19 0 rfl rfl (dg_in g12) dX2_valueOf_204 (fun H locs hp hd hs => ?_)
        obtain ⟨q13, eq13, h⟩ := dL_some h
        refine kz_re (w2 := wF ty ad q13) hp hd hs (by rw [← eq13]; exact wF_a19 ty ad q (Int32.toNatClampNeg (x5 - 1 : Int32)) (1 - v11 : Int32)) ?_
        clear hp hd hs hP hD hS
        intro hP hD hS
        refine lv_goto (tgt := 322) hx hb dX2_valueOf_205 (by decide) ?_
        exact WX2_valueOf_s18_s25_s23_322 C0 hk32 _ _ _ _ _ _ _ _ h hP hD hS (lv_sub hl [0, 1, 2, 3, 4, 5, 6] rfl)
    · rw [if_pos c9] at h
      exact WX2_valueOf_s18_s25_s23_150 C0 hk32 _ _ _ _ _ _ _ _ _ _ h hP hD hS (lv_sub hl [0, 1, 2, 3, 4, 5, 6, 7, 8] rfl)
set_option maxHeartbeats 4000000 in
set_option maxRecDepth 100000 in
theorem WX2_valueOf_s18_s25_s23_131 {p : Program} {l : Launch} {e : Env} {s : State} {m : MethodId} {args : Array Value} {below : List Frame} {meth : Method} {c : Code} {D : va_G} {ty : Nat → ClassId} {eo : Nat → Nat} {A : Nat → Prop} {ad : Nat → Nat} {o1 : Int32} {o2 : dK} (C : dc_C p s m args meth c cX2_valueOf (some .int) 13 RX2 wsX2_valueOf D ty eo A) {k32 : dK → Int32 → Int32 → Int32 → Int32 → Option (Int32 × dK)} (hk32 : ∀ (q : dK) (x5 : Int32) (x6 : Int32) (x7 : Int32) (x8 : Int32) (H : Heap) (locs : List Loc) (ls : Array Slot), k32 q x5 x6 x7 x8 = some (o1, o2) → va_P D vwCl (wF ty ad q) H → va_D A (wF ty ad q) → va_S A s.heap H locs → lv_has ls 13 [(0, .ref (ad 18)), (1, .ref (ad 25)), (4, .ref (ad 23)), (5, .int x5), (6, .int x6), (7, .int x7), (8, .int x8)] → W p l e ({ frames := 1, cells := 0, slots := 0, locals := 27 } : Room) s m args below meth c H locs 0 0 (MQ below (va_Qi (fun (r : Int32) (u : va_W) => o1 = r ∧ wF ty ad o2 = u) (kz_B D ty A) A) args s 0 0 A) (F0 m 32 ls [])) (q : dK) (x5 : Int32) (x6 : Int32) (x7 : Int32) (x8 : Int32) (H : Heap) (locs : List Loc) (ls : Array Slot) (h : zX2_valueOf_s18_s25_s23_131 k32 q x5 x6 x7 x8 = some (o1, o2)) (hP : va_P D vwCl (wF ty ad q) H) (hD : va_D A (wF ty ad q)) (hS : va_S A s.heap H locs) (hl : lv_has ls 13 [(0, .ref (ad 18)), (1, .ref (ad 25)), (4, .ref (ad 23)), (5, .int x5), (6, .int x6), (7, .int x7), (8, .int x8)]) : W p l e ({ frames := 1, cells := 0, slots := 0, locals := 27 } : Room) s m args below meth c H locs 0 0 (MQ below (va_Qi (fun (r : Int32) (u : va_W) => o1 = r ∧ wF ty ad o2 = u) (kz_B D ty A) A) args s 0 0 A) (F0 m 131 ls []) := by
  have C0 := C
  obtain ⟨hx, hb, hr, hts, hown, hlocks, hml, hK, hN, hE, hA⟩ := C
  unfold zX2_valueOf_s18_s25_s23_131 at h
  refine lv_aload_n hx hb dX2_valueOf_131 rfl (lv_at hl 0 rfl) ?_
  refine lv_iconst (v := 1) hx hb dX2_valueOf_132 (by decide) ?_
  refine va_put (D := D) (ci := 2) (v := .int 1) (ty := .boolean) (C := RX2) (T := TX2) (N := 2) hx hb hts u9_wsX2_valueOf_X2 tyX2 tyX2_ok nmX2 hown hK hP hD hS 18 rfl rfl 1 (by decide) (hts (.fieldLink RX2 13 "TurnedFloors$Machine" "broken" "Z") f9_wsX2_valueOf_386) (fun _ h9 => h9) rfl (by decide +kernel) rfl rfl (Nat.le_of_ble_eq_true rfl) dX2_valueOf_133 (fun H locs hp hd hs => ?_)
  obtain ⟨q1, eq1, h⟩ := dL_some h
  refine kz_re (w2 := wF ty ad q1) hp hd hs (by rw [← eq1]; exact wF_f18_1 ty ad q 1) ?_
  clear hp hd hs hP hD hS
  intro hP hD hS
  refine lv_goto (tgt := 322) hx hb dX2_valueOf_136 (by decide) ?_
  exact WX2_valueOf_s18_s25_s23_322 C0 hk32 _ _ _ _ _ _ _ _ h hP hD hS (lv_sub hl [0, 1, 2, 3, 4, 5, 6] rfl)
set_option maxHeartbeats 4000000 in
set_option maxRecDepth 100000 in
theorem WX2_valueOf_s18_s25_s23_98 {p : Program} {l : Launch} {e : Env} {s : State} {m : MethodId} {args : Array Value} {below : List Frame} {meth : Method} {c : Code} {D : va_G} {ty : Nat → ClassId} {eo : Nat → Nat} {A : Nat → Prop} {ad : Nat → Nat} {o1 : Int32} {o2 : dK} (C : dc_C p s m args meth c cX2_valueOf (some .int) 13 RX2 wsX2_valueOf D ty eo A) {k32 : dK → Int32 → Int32 → Int32 → Int32 → Option (Int32 × dK)} (hk32 : ∀ (q : dK) (x5 : Int32) (x6 : Int32) (x7 : Int32) (x8 : Int32) (H : Heap) (locs : List Loc) (ls : Array Slot), k32 q x5 x6 x7 x8 = some (o1, o2) → va_P D vwCl (wF ty ad q) H → va_D A (wF ty ad q) → va_S A s.heap H locs → lv_has ls 13 [(0, .ref (ad 18)), (1, .ref (ad 25)), (4, .ref (ad 23)), (5, .int x5), (6, .int x6), (7, .int x7), (8, .int x8)] → W p l e ({ frames := 1, cells := 0, slots := 0, locals := 27 } : Room) s m args below meth c H locs 0 0 (MQ below (va_Qi (fun (r : Int32) (u : va_W) => o1 = r ∧ wF ty ad o2 = u) (kz_B D ty A) A) args s 0 0 A) (F0 m 32 ls [])) (q : dK) (x5 : Int32) (x6 : Int32) (x7 : Int32) (x8 : Int32) (x9 : Int32) (x10 : Int32) (y0 : Int32) (H : Heap) (locs : List Loc) (ls : Array Slot) (h : zX2_valueOf_s18_s25_s23_98 k32 q x5 x6 x7 x8 x9 x10 y0 = some (o1, o2)) (hP : va_P D vwCl (wF ty ad q) H) (hD : va_D A (wF ty ad q)) (hS : va_S A s.heap H locs) (hl : lv_has ls 13 [(0, .ref (ad 18)), (1, .ref (ad 25)), (4, .ref (ad 23)), (5, .int x5), (6, .int x6), (7, .int x7), (8, .int x8), (9, .int x9), (10, .int x10)]) : W p l e ({ frames := 1, cells := 0, slots := 0, locals := 27 } : Room) s m args below meth c H locs 0 0 (MQ below (va_Qi (fun (r : Int32) (u : va_W) => o1 = r ∧ wF ty ad o2 = u) (kz_B D ty A) A) args s 0 0 A) (F0 m 98 ls [.int y0]) := by
  have C0 := C
  obtain ⟨hx, hb, hr, hts, hown, hlocks, hml, hK, hN, hE, hA⟩ := C
  unfold zX2_valueOf_s18_s25_s23_98 at h
  refine lv_istore (lv' := [(11, .int y0), (0, .ref (ad 18)), (1, .ref (ad 25)), (4, .ref (ad 23)), (5, .int x5), (6, .int x6), (7, .int x7), (8, .int x8), (9, .int x9), (10, .int x10)]) hx hb dX2_valueOf_98 hl (by decide) rfl (fun ls hl => ?_)
  refine lv_iinc (v := x6 + 1) (lv' := [(6, .int (x6 + 1)), (11, .int y0), (0, .ref (ad 18)), (1, .ref (ad 25)), (4, .ref (ad 23)), (5, .int x5), (7, .int x7), (8, .int x8), (9, .int x9), (10, .int x10)]) hx hb dX2_valueOf_100 hl (k := 5) rfl rfl (by decide) rfl (fun ls hl => ?_)
  refine lv_iload hx hb dX2_valueOf_103 (lv_at hl 5 rfl) ?_
  refine lv_iload hx hb dX2_valueOf_105 (lv_at hl 1 rfl) ?_
  refine lv_icmp_lt (tgt := 131) hx hb dX2_valueOf_107 (by decide) (fun c9 => ?_) (fun c9 => ?_)
  · rw [if_pos c9] at h
    exact WX2_valueOf_s18_s25_s23_131 C0 hk32 _ _ _ _ _ _ _ _ h hP hD hS (lv_sub hl [2, 3, 4, 5, 0, 6, 7] rfl)
  · rw [if_neg c9] at h
    refine lv_iload hx hb dX2_valueOf_110 (lv_at hl 5 rfl) ?_
    refine lv_bipush (v := 64) hx hb dX2_valueOf_112 (by decide) ?_
    refine lv_icmp_ge (tgt := 131) hx hb dX2_valueOf_114 (by decide) (fun c9 => ?_) (fun c9 => ?_)
    · rw [if_pos c9] at h
      exact WX2_valueOf_s18_s25_s23_131 C0 hk32 _ _ _ _ _ _ _ _ h hP hD hS (lv_sub hl [2, 3, 4, 5, 0, 6, 7] rfl)
    · rw [if_neg c9] at h
      refine lv_iload hx hb dX2_valueOf_117 (lv_at hl 8 rfl) ?_
      refine lv_iconst (v := 1) hx hb dX2_valueOf_119 (by decide) ?_
      refine lv_icmp_ne (tgt := 139) hx hb dX2_valueOf_120 (by decide) (fun c9 => ?_) (fun c9 => ?_)
      · rw [if_neg c9] at h
        exact WX2_valueOf_s18_s25_s23_139 C0 hk32 _ _ _ _ _ _ _ _ _ _ h hP hD hS (lv_sub hl [2, 3, 4, 5, 0, 6, 7, 8, 9] rfl)
      · rw [if_pos c9] at h
        refine lv_iload hx hb dX2_valueOf_123 (lv_at hl 9 rfl) ?_
        refine lv_aload hx hb dX2_valueOf_125 (lv_at hl 4 rfl) ?_
        refine va_alen (v := 17) hx hb hK hP 23 0 rfl rfl rfl dX2_valueOf_127 ?_
        refine lv_icmp_lt (tgt := 139) hx hb dX2_valueOf_128 (by decide) (fun c9 => ?_) (fun c9 => ?_)
        · rw [if_pos c9] at h
          exact WX2_valueOf_s18_s25_s23_139 C0 hk32 _ _ _ _ _ _ _ _ _ _ h hP hD hS (lv_sub hl [2, 3, 4, 5, 0, 6, 7, 8, 9] rfl)
        · rw [if_neg c9] at h
          exact WX2_valueOf_s18_s25_s23_131 C0 hk32 _ _ _ _ _ _ _ _ h hP hD hS (lv_sub hl [2, 3, 4, 5, 0, 6, 7] rfl)
set_option maxHeartbeats 4000000 in
set_option maxRecDepth 100000 in
theorem WX2_valueOf_s18_s25_s23_32b {p : Program} {l : Launch} {e : Env} {s : State} {m : MethodId} {args : Array Value} {below : List Frame} {meth : Method} {c : Code} {D : va_G} {ty : Nat → ClassId} {eo : Nat → Nat} {A : Nat → Prop} {ad : Nat → Nat} {o1 : Int32} {o2 : dK} (C : dc_C p s m args meth c cX2_valueOf (some .int) 13 RX2 wsX2_valueOf D ty eo A) {k32 : dK → Int32 → Int32 → Int32 → Int32 → Option (Int32 × dK)} (hk32 : ∀ (q : dK) (x5 : Int32) (x6 : Int32) (x7 : Int32) (x8 : Int32) (H : Heap) (locs : List Loc) (ls : Array Slot), k32 q x5 x6 x7 x8 = some (o1, o2) → va_P D vwCl (wF ty ad q) H → va_D A (wF ty ad q) → va_S A s.heap H locs → lv_has ls 13 [(0, .ref (ad 18)), (1, .ref (ad 25)), (4, .ref (ad 23)), (5, .int x5), (6, .int x6), (7, .int x7), (8, .int x8)] → W p l e ({ frames := 1, cells := 0, slots := 0, locals := 27 } : Room) s m args below meth c H locs 0 0 (MQ below (va_Qi (fun (r : Int32) (u : va_W) => o1 = r ∧ wF ty ad o2 = u) (kz_B D ty A) A) args s 0 0 A) (F0 m 32 ls [])) (q : dK) (x5 : Int32) (x6 : Int32) (x7 : Int32) (x8 : Int32) (H : Heap) (locs : List Loc) (ls : Array Slot) (h : zX2_valueOf_s18_s25_s23_32b k32 q x5 x6 x7 x8 = some (o1, o2)) (hP : va_P D vwCl (wF ty ad q) H) (hD : va_D A (wF ty ad q)) (hS : va_S A s.heap H locs) (hl : lv_has ls 13 [(0, .ref (ad 18)), (1, .ref (ad 25)), (4, .ref (ad 23)), (5, .int x5), (6, .int x6), (7, .int x7), (8, .int x8)]) : W p l e ({ frames := 1, cells := 0, slots := 0, locals := 27 } : Room) s m args below meth c H locs 0 0 (MQ below (va_Qi (fun (r : Int32) (u : va_W) => o1 = r ∧ wF ty ad o2 = u) (kz_B D ty A) A) args s 0 0 A) (F0 m 32 ls []) := by
  have C0 := C
  obtain ⟨hx, hb, hr, hts, hown, hlocks, hml, hK, hN, hE, hA⟩ := C
  unfold zX2_valueOf_s18_s25_s23_32b at h
  refine lv_iload hx hb dX2_valueOf_32 (lv_at hl 6 rfl) ?_
  refine lv_iload hx hb dX2_valueOf_34 (lv_at hl 5 rfl) ?_
  refine lv_icmp_ge (tgt := 328) hx hb dX2_valueOf_36 (by decide) (fun c9 => ?_) (fun c9 => ?_)
  · rw [if_pos c9] at h
    exact WX2_valueOf_s18_s25_s23_328 C0  _ _ _ _ h hP hD hS (lv_sub hl [0] rfl)
  · rw [if_neg c9] at h
    refine lv_iload hx hb dX2_valueOf_39 (lv_at hl 4 rfl) ?_
    refine lv_iload hx hb dX2_valueOf_41 (lv_at hl 5 rfl) ?_
    refine lv_icmp_ge (tgt := 328) hx hb dX2_valueOf_43 (by decide) (fun c9 => ?_) (fun c9 => ?_)
    · rw [if_pos c9] at h
      exact WX2_valueOf_s18_s25_s23_328 C0  _ _ _ _ h hP hD hS (lv_sub hl [0] rfl)
    · rw [if_neg c9] at h
      refine lv_aload_n hx hb dX2_valueOf_46 rfl (lv_at hl 0 rfl) ?_
      refine va_get (D := D) (ci := 2) (v := .int (q.1 18 1)) (C := RX2) (T := TX2) (N := 2) hx hb hts u9_wsX2_valueOf_X2 hown hK hP 18 rfl rfl 1 (by decide) (hts (.fieldLink RX2 13 "TurnedFloors$Machine" "broken" "Z") f9_wsX2_valueOf_386) (fun _ h9 => h9) rfl dX2_valueOf_47 ?_
      refine lv_if_ne (tgt := 328) hx hb dX2_valueOf_50 (by decide) (fun c9 => ?_) (fun c9 => ?_)
      · rw [if_neg c9] at h
        exact WX2_valueOf_s18_s25_s23_328 C0  _ _ _ _ h hP hD hS (lv_sub hl [0] rfl)
      · rw [if_pos c9] at h
        refine lv_aload_n hx hb dX2_valueOf_53 rfl (lv_at hl 1 rfl) ?_
        refine va_getN (D := D) (ci := 7) (v := .ref (ad 31)) (C := RX7) (T := TX7) (N := 8) hx hb hts u9_wsX2_valueOf_X7 hown hK hP 25 rfl rfl 5 (by decide) (hN.use (.fieldLinkNest "TurnedFloors$Machine" 17 "TurnedFloors$Text" "code" "[I" "TurnedFloors") nn9_4) (fun _ h9 => h9) rfl dX2_valueOf_54 ?_
        refine lv_iload hx hb dX2_valueOf_57 (lv_at hl 4 rfl) ?_
        obtain ⟨g1, h⟩ := dG_some h
        refine va_iald hx hb hK hP 31 0 rfl rfl (dg_in g1) dX2_valueOf_59 ?_
        obtain ⟨v2, ev2, h⟩ := dL_some h
        refine kz_topi v2 ev2 ?_
        refine lv_bipush (v := 15) hx hb dX2_valueOf_60 (by decide) ?_
        refine lv_iand hx hb dX2_valueOf_62 ?_
        refine lv_istore (lv' := [(9, .int (v2 &&& 15 : Int32)), (0, .ref (ad 18)), (1, .ref (ad 25)), (4, .ref (ad 23)), (5, .int x5), (6, .int x6), (7, .int x7), (8, .int x8)]) hx hb dX2_valueOf_63 hl (by decide) rfl (fun ls hl => ?_)
        refine lv_aload_n hx hb dX2_valueOf_65 rfl (lv_at hl 2 rfl) ?_
        refine va_getN (D := D) (ci := 7) (v := .ref (ad 31)) (C := RX7) (T := TX7) (N := 8) hx hb hts u9_wsX2_valueOf_X7 hown hK hP 25 rfl rfl 5 (by decide) (hN.use (.fieldLinkNest "TurnedFloors$Machine" 17 "TurnedFloors$Text" "code" "[I" "TurnedFloors") nn9_4) (fun _ h9 => h9) rfl dX2_valueOf_66 ?_
        refine lv_iload hx hb dX2_valueOf_69 (lv_at hl 5 rfl) ?_
        obtain ⟨g3, h⟩ := dG_some h
        refine va_iald hx hb hK hP 31 0 rfl rfl (dg_in g3) dX2_valueOf_71 ?_
        obtain ⟨v4, ev4, h⟩ := dL_some h
        refine kz_topi v4 ev4 ?_
        refine lv_iconst (v := 4) hx hb dX2_valueOf_72 (by decide) ?_
        refine lv_ishr hx hb dX2_valueOf_73 ?_
        refine lv_istore (lv' := [(10, .int (v4 >>> ((4 : Int32) &&& 31) : Int32)), (9, .int (v2 &&& 15 : Int32)), (0, .ref (ad 18)), (1, .ref (ad 25)), (4, .ref (ad 23)), (5, .int x5), (6, .int x6), (7, .int x7), (8, .int x8)]) hx hb dX2_valueOf_74 hl (by decide) rfl (fun ls hl => ?_)
        refine lv_iload hx hb dX2_valueOf_76 (lv_at hl 1 rfl) ?_
        refine lv_iconst (v := 1) hx hb dX2_valueOf_78 (by decide) ?_
        refine lv_icmp_gt (tgt := 86) hx hb dX2_valueOf_79 (by decide) (fun c9 => ?_) (fun c9 => ?_)
        · rw [if_pos c9] at h
          refine lv_iload hx hb dX2_valueOf_86 (lv_at hl 1 rfl) ?_
          refine lv_bipush (v := 10) hx hb dX2_valueOf_88 (by decide) ?_
          refine lv_icmp_ge (tgt := 97) hx hb dX2_valueOf_90 (by decide) (fun c9 => ?_) (fun c9 => ?_)
          · rw [if_pos c9] at h
            refine lv_iconst (v := 1) hx hb dX2_valueOf_97 (by decide) ?_
            exact WX2_valueOf_s18_s25_s23_98 C0 hk32 _ _ _ _ _ _ _ _ _ _ _ h hP hD hS (lv_sub hl [2, 3, 4, 5, 6, 7, 8, 1, 0] rfl)
          · rw [if_neg c9] at h
            refine lv_iconst (v := 2) hx hb dX2_valueOf_93 (by decide) ?_
            refine lv_goto (tgt := 98) hx hb dX2_valueOf_94 (by decide) ?_
            exact WX2_valueOf_s18_s25_s23_98 C0 hk32 _ _ _ _ _ _ _ _ _ _ _ h hP hD hS (lv_sub hl [2, 3, 4, 5, 6, 7, 8, 1, 0] rfl)
        · rw [if_neg c9] at h
          refine lv_iconst (v := 0) hx hb dX2_valueOf_82 (by decide) ?_
          refine lv_goto (tgt := 98) hx hb dX2_valueOf_83 (by decide) ?_
          exact WX2_valueOf_s18_s25_s23_98 C0 hk32 _ _ _ _ _ _ _ _ _ _ _ h hP hD hS (lv_sub hl [2, 3, 4, 5, 6, 7, 8, 1, 0] rfl)
set_option maxHeartbeats 4000000 in
set_option maxRecDepth 100000 in
theorem WX2_valueOf_s18_s25_s23_32 {p : Program} {l : Launch} {e : Env} {s : State} {m : MethodId} {args : Array Value} {below : List Frame} {meth : Method} {c : Code} {D : va_G} {ty : Nat → ClassId} {eo : Nat → Nat} {A : Nat → Prop} {ad : Nat → Nat} {o1 : Int32} {o2 : dK} (C : dc_C p s m args meth c cX2_valueOf (some .int) 13 RX2 wsX2_valueOf D ty eo A)   (n : Nat) (q : dK) (x5 : Int32) (x6 : Int32) (x7 : Int32) (x8 : Int32) (H : Heap) (locs : List Loc) (ls : Array Slot) (h : zX2_valueOf_s18_s25_s23_32  n q x5 x6 x7 x8 = some (o1, o2)) (hP : va_P D vwCl (wF ty ad q) H) (hD : va_D A (wF ty ad q)) (hS : va_S A s.heap H locs) (hl : lv_has ls 13 [(0, .ref (ad 18)), (1, .ref (ad 25)), (4, .ref (ad 23)), (5, .int x5), (6, .int x6), (7, .int x7), (8, .int x8)]) : W p l e ({ frames := 1, cells := 0, slots := 0, locals := 27 } : Room) s m args below meth c H locs 0 0 (MQ below (va_Qi (fun (r : Int32) (u : va_W) => o1 = r ∧ wF ty ad o2 = u) (kz_B D ty A) A) args s 0 0 A) (F0 m 32 ls []) := by
  exact dFix_W (F := fun k (a : dK × Int32 × Int32 × Int32 × Int32) => zX2_valueOf_s18_s25_s23_32b  (fun q x5 x6 x7 x8 => k (q, x5, x6, x7, x8)) a.1 a.2.1 a.2.2.1 a.2.2.2.1 a.2.2.2.2) (o := (o1, o2)) (P := fun (a : dK × Int32 × Int32 × Int32 × Int32) H locs ls => va_P D vwCl (wF ty ad a.1) H ∧ va_D A (wF ty ad a.1) ∧ va_S A s.heap H locs ∧ lv_has ls 13 [(0, .ref (ad 18)), (1, .ref (ad 25)), (4, .ref (ad 23)), (5, .int a.2.1), (6, .int a.2.2.1), (7, .int a.2.2.2.1), (8, .int a.2.2.2.2)]) (G := fun H locs ls => W p l e ({ frames := 1, cells := 0, slots := 0, locals := 27 } : Room) s m args below meth c H locs 0 0 (MQ below (va_Qi (fun (r : Int32) (u : va_W) => o1 = r ∧ wF ty ad o2 = u) (kz_B D ty A) A) args s 0 0 A) (F0 m 32 ls []))
    (fun k hk a H locs ls h hp => WX2_valueOf_s18_s25_s23_32b C  (fun q x5 x6 x7 x8 H locs ls h h1 h2 h3 h4 => hk (q, x5, x6, x7, x8) H locs ls h ⟨h1, h2, h3, h4⟩) a.1 a.2.1 a.2.2.1 a.2.2.2.1 a.2.2.2.2 H locs ls h hp.1 hp.2.1 hp.2.2.1 hp.2.2.2) n (q, x5, x6, x7, x8) H locs ls h ⟨hP, hD, hS, hl⟩
set_option maxHeartbeats 4000000 in
set_option maxRecDepth 100000 in
theorem qX2_valueOf_s18_s25_s23 (l : Launch) (D : va_G) (ty : Nat → ClassId) (eo : Nat → Nat) (sz : Nat) (ad : Nat → Nat) (q : dK) (p2 : Int32) (p3 : Int32) (o1 : Int32) (o2 : dK) (h : zX2_valueOf_s18_s25_s23 q p2 p3 = some (o1, o2)) : Met l yX2_valueOf wsX2_valueOf ({ frames := 1, cells := 0, slots := 0, locals := 27 } : Room) (va_Pc [.ref (ad 18), .ref (ad 25), .int p2, .int p3, .ref (ad 23)] (kz_pre D ty eo (wF ty ad q) sz)) (va_Qi (fun (r : Int32) (u : va_W) => o1 = r ∧ wF ty ad o2 = u) (kz_B D ty (va_A (wF ty ad q) sz)) (va_A (wF ty ad q) sz)) 0 0 (va_A (wF ty ad q) sz) := by
  refine Met.ofW (cc := cX2_valueOf) (maxL := 13) (ret := (some .int)) (by decide) rfl ?_
  intro p e s m args below meth c s₁ B hml hv
  obtain ⟨rfl, hsz, hP, hK, hD0, hN, hE⟩ := hv
  have hx := B.exec
  have hb := B.bytes
  have hr := B.returns
  have hts := atoms_spec (ws := wsX2_valueOf) B.pre
  have hown : s.vm.findClass RX2 = some m.cls := findClass_of_methodNamed B.named
  have hlocks := B.notSynchronized
  subst hsz
  have hD := hD0.self (sz := s.heap.size)
  generalize hAe : va_A (wF ty ad q) s.heap.size = A at hD hE ⊢
  have hA : ∀ q : Nat, s.heap.size ≤ q → A q := fun q h => by rw [← hAe]; exact Or.inr h
  clear hAe
  have hS : va_S A s.heap s.heap [] := va_S.rf
  have hl := lv_entry ([.ref (ad 18), .ref (ad 25), .int p2, .int p3, .ref (ad 23)]) (n := 13) (Nat.le_of_ble_eq_true rfl)
  rw [lg_entry_eq]
  generalize (lg_sl ([.ref (ad 18), .ref (ad 25), .int p2, .int p3, .ref (ad 23)]) ++ List.replicate (13 - (lg_sl ([.ref (ad 18), .ref (ad 25), .int p2, .int p3, .ref (ad 23)])).length) Slot.unset).toArray = ls at hl ⊢
  have hl : lv_has ls 13 [(0, .ref (ad 18)), (1, .ref (ad 25)), (2, .int p2), (3, .int p3), (4, .ref (ad 23))] := hl
  have C : dc_C p s m _ meth c cX2_valueOf (some .int) 13 RX2 wsX2_valueOf D ty eo A := ⟨hx, hb, hr, hts, hown, hlocks, hml, hK, hN, hE, hA⟩
  unfold zX2_valueOf_s18_s25_s23 at h
  refine lv_aload_n hx hb dX2_valueOf_0 rfl (lv_at hl 0 rfl) ?_
  refine lv_iconst (v := 0) hx hb dX2_valueOf_1 (by decide) ?_
  refine va_put (D := D) (ci := 2) (v := .int 0) (ty := .boolean) (C := RX2) (T := TX2) (N := 2) hx hb hts u9_wsX2_valueOf_X2 tyX2 tyX2_ok nmX2 hown hK hP hD hS 18 rfl rfl 1 (by decide) (hts (.fieldLink RX2 13 "TurnedFloors$Machine" "broken" "Z") f9_wsX2_valueOf_386) (fun _ h9 => h9) rfl (by decide +kernel) rfl rfl (Nat.le_of_ble_eq_true rfl) dX2_valueOf_2 (fun H locs hp hd hs => ?_)
  obtain ⟨q1, eq1, h⟩ := dL_some h
  refine kz_re (w2 := wF ty ad q1) hp hd hs (by rw [← eq1]; exact wF_f18_1 ty ad q 0) ?_
  clear hp hd hs hP hD hS
  intro hP hD hS
  refine lv_aload_n hx hb dX2_valueOf_5 rfl (lv_at hl 0 rfl) ?_
  refine va_get (D := D) (ci := 2) (v := .ref (ad 19)) (C := RX2) (T := TX2) (N := 2) hx hb hts u9_wsX2_valueOf_X2 hown hK hP 18 rfl rfl 0 (by decide) (hts (.fieldLink RX2 9 "TurnedFloors$Machine" "stack" "[I") f9_wsX2_valueOf_387) (fun _ h9 => h9) rfl dX2_valueOf_6 ?_
  refine lv_iconst (v := 0) hx hb dX2_valueOf_9 (by decide) ?_
  refine lv_iconst (v := 1) hx hb dX2_valueOf_10 (by decide) ?_
  refine va_iast hx hb hK hP hD hS 19 0 rfl rfl (by simp only [vp_in]; decide) dX2_valueOf_11 (fun H locs hp hd hs => ?_)
  obtain ⟨q2, eq2, h⟩ := dL_some h
  refine kz_re (w2 := wF ty ad q2) hp hd hs (by rw [(by decide +kernel : Int32.toNatClampNeg 0 = 0), ← eq2]; exact wF_a19 ty ad q1 0 1) ?_
  clear hp hd hs hP hD hS
  intro hP hD hS
  refine lv_iconst (v := 0) hx hb dX2_valueOf_12 (by decide) ?_
  refine lv_istore (lv' := [(5, .int 0), (0, .ref (ad 18)), (1, .ref (ad 25)), (2, .int p2), (3, .int p3), (4, .ref (ad 23))]) hx hb dX2_valueOf_13 hl (by decide) rfl (fun ls hl => ?_)
  refine lv_iload_n hx hb dX2_valueOf_15 rfl (lv_at hl 3 rfl) ?_
  refine lv_istore (lv' := [(6, .int p2), (5, .int 0), (0, .ref (ad 18)), (1, .ref (ad 25)), (2, .int p2), (3, .int p3), (4, .ref (ad 23))]) hx hb dX2_valueOf_16 hl (by decide) rfl (fun ls hl => ?_)
  refine lv_iload_n hx hb dX2_valueOf_18 rfl (lv_at hl 5 rfl) ?_
  refine lv_aload_n hx hb dX2_valueOf_19 rfl (lv_at hl 3 rfl) ?_
  refine va_getN (D := D) (ci := 7) (v := .ref (ad 31)) (C := RX7) (T := TX7) (N := 8) hx hb hts u9_wsX2_valueOf_X7 hown hK hP 25 rfl rfl 5 (by decide) (hN.use (.fieldLinkNest "TurnedFloors$Machine" 17 "TurnedFloors$Text" "code" "[I" "TurnedFloors") nn9_4) (fun _ h9 => h9) rfl dX2_valueOf_20 ?_
  refine va_alen (v := 400) hx hb hK hP 31 0 rfl rfl rfl dX2_valueOf_23 ?_
  refine va_mmin hx hb (hml.trans hl.1.symm) hown (hts (.methodLink RX2 22 Lib.Math.min.name) f9_wsX2_valueOf_389) (hts (.static Lib.Math.min.name) f9_wsX2_valueOf_390) (hts (.initialized "java/lang/Math") f9_wsX2_valueOf_391) (hts (.code Lib.Math.min.name Lib.Math.min.code 2 (some .int)) f9_wsX2_valueOf_392) (Nat.le_of_ble_eq_true rfl) (Nat.le_of_ble_eq_true rfl) (Nat.le_of_ble_eq_true rfl) (Nat.le_of_ble_eq_true rfl) dX2_valueOf_24 ?_
  refine kz_topi (mnI p3 400) rfl ?_
  refine lv_istore (lv' := [(7, .int (mnI p3 400)), (6, .int p2), (5, .int 0), (0, .ref (ad 18)), (1, .ref (ad 25)), (2, .int p2), (3, .int p3), (4, .ref (ad 23))]) hx hb dX2_valueOf_27 hl (by decide) rfl (fun ls hl => ?_)
  refine lv_iload_n hx hb dX2_valueOf_29 rfl (lv_at hl 5 rfl) ?_
  refine lv_istore (lv' := [(8, .int p2), (7, .int (mnI p3 400)), (6, .int p2), (5, .int 0), (0, .ref (ad 18)), (1, .ref (ad 25)), (2, .int p2), (3, .int p3), (4, .ref (ad 23))]) hx hb dX2_valueOf_30 hl (by decide) rfl (fun ls hl => ?_)
  exact WX2_valueOf_s18_s25_s23_32 C  _ _ _ _ _ _ _ _ _ h hP hD hS (lv_sub hl [4, 5, 8, 3, 2, 1, 0] rfl)

set_option maxHeartbeats 4000000 in
set_option maxRecDepth 100000 in
theorem qX8_exchange_s2 (l : Launch) (D : va_G) (ty : Nat → ClassId) (eo : Nat → Nat) (sz : Nat) (ad : Nat → Nat) (q : dK) (p1 : Int32) (p2 : Int32) (o2 : dK) (h : zX8_exchange_s2 q p1 p2 = some o2) : Met l yX8_exchange wsX8_exchange ({ frames := 0, cells := 0, slots := 0, locals := 0 } : Room) (va_Pc [.ref (ad 2), .int p1, .int p2] (kz_pre D ty eo (wF ty ad q) sz)) (va_Qv (fun (u : va_W) => wF ty ad o2 = u) (kz_B D ty (va_A (wF ty ad q) sz)) (va_A (wF ty ad q) sz)) 0 0 (va_A (wF ty ad q) sz) := by
  refine Met.ofW (cc := cX8_exchange) (maxL := 5) (ret := none) (by decide) rfl ?_
  intro p e s m args below meth c s₁ B hml hv
  obtain ⟨rfl, hsz, hP, hK, hD0, hN, hE⟩ := hv
  have hx := B.exec
  have hb := B.bytes
  have hr := B.returns
  have hts := atoms_spec (ws := wsX8_exchange) B.pre
  have hown : s.vm.findClass RX8 = some m.cls := findClass_of_methodNamed B.named
  have hlocks := B.notSynchronized
  subst hsz
  have hD := hD0.self (sz := s.heap.size)
  generalize hAe : va_A (wF ty ad q) s.heap.size = A at hD hE ⊢
  have hA : ∀ q : Nat, s.heap.size ≤ q → A q := fun q h => by rw [← hAe]; exact Or.inr h
  clear hAe
  have hS : va_S A s.heap s.heap [] := va_S.rf
  have hl := lv_entry ([.ref (ad 2), .int p1, .int p2]) (n := 5) (Nat.le_of_ble_eq_true rfl)
  rw [lg_entry_eq]
  generalize (lg_sl ([.ref (ad 2), .int p1, .int p2]) ++ List.replicate (5 - (lg_sl ([.ref (ad 2), .int p1, .int p2])).length) Slot.unset).toArray = ls at hl ⊢
  have hl : lv_has ls 5 [(0, .ref (ad 2)), (1, .int p1), (2, .int p2)] := hl
  have C : dc_C p s m _ meth c cX8_exchange none 5 RX8 wsX8_exchange D ty eo A := ⟨hx, hb, hr, hts, hown, hlocks, hml, hK, hN, hE, hA⟩
  unfold zX8_exchange_s2 at h
  refine lv_aload_n hx hb dX8_exchange_0 rfl (lv_at hl 0 rfl) ?_
  refine va_get (D := D) (ci := 8) (v := .ref (ad 3)) (C := RX8) (T := TX8) (N := 5) hx hb hts u9_wsX8_exchange_X8 hown hK hP 2 rfl rfl 0 (by decide) (hts (.fieldLink RX8 9 "TurnedFloors$Tower" "rank" "[I") f9_wsX8_exchange_625) (fun _ h9 => h9) rfl dX8_exchange_1 ?_
  refine lv_iload_n hx hb dX8_exchange_4 rfl (lv_at hl 1 rfl) ?_
  obtain ⟨g1, h⟩ := dG_some h
  refine va_iald hx hb hK hP 3 0 rfl rfl (dg_in g1) dX8_exchange_5 ?_
  obtain ⟨v2, ev2, h⟩ := dL_some h
  refine kz_topi v2 ev2 ?_
  refine lv_istore_n (lv' := [(3, .int v2), (0, .ref (ad 2)), (1, .int p1), (2, .int p2)]) hx hb dX8_exchange_6 rfl hl (by decide) rfl (fun ls hl => ?_)
  refine lv_aload_n hx hb dX8_exchange_7 rfl (lv_at hl 1 rfl) ?_
  refine va_get (D := D) (ci := 8) (v := .ref (ad 4)) (C := RX8) (T := TX8) (N := 5) hx hb hts u9_wsX8_exchange_X8 hown hK hP 2 rfl rfl 1 (by decide) (hts (.fieldLink RX8 15 "TurnedFloors$Tower" "head" "[I") f9_wsX8_exchange_626) (fun _ h9 => h9) rfl dX8_exchange_8 ?_
  refine lv_iload_n hx hb dX8_exchange_11 rfl (lv_at hl 2 rfl) ?_
  obtain ⟨g3, h⟩ := dG_some h
  refine va_iald hx hb hK hP 4 0 rfl rfl (dg_in g3) dX8_exchange_12 ?_
  obtain ⟨v4, ev4, h⟩ := dL_some h
  refine kz_topi v4 ev4 ?_
  refine lv_istore (lv' := [(4, .int v4), (3, .int v2), (0, .ref (ad 2)), (1, .int p1), (2, .int p2)]) hx hb dX8_exchange_13 hl (by decide) rfl (fun ls hl => ?_)
  refine lv_aload_n hx hb dX8_exchange_15 rfl (lv_at hl 2 rfl) ?_
  refine va_get (D := D) (ci := 8) (v := .ref (ad 3)) (C := RX8) (T := TX8) (N := 5) hx hb hts u9_wsX8_exchange_X8 hown hK hP 2 rfl rfl 0 (by decide) (hts (.fieldLink RX8 9 "TurnedFloors$Tower" "rank" "[I") f9_wsX8_exchange_625) (fun _ h9 => h9) rfl dX8_exchange_16 ?_
  refine lv_iload_n hx hb dX8_exchange_19 rfl (lv_at hl 3 rfl) ?_
  refine lv_aload_n hx hb dX8_exchange_20 rfl (lv_at hl 2 rfl) ?_
  refine va_get (D := D) (ci := 8) (v := .ref (ad 3)) (C := RX8) (T := TX8) (N := 5) hx hb hts u9_wsX8_exchange_X8 hown hK hP 2 rfl rfl 0 (by decide) (hts (.fieldLink RX8 9 "TurnedFloors$Tower" "rank" "[I") f9_wsX8_exchange_625) (fun _ h9 => h9) rfl dX8_exchange_21 ?_
  refine lv_iload_n hx hb dX8_exchange_24 rfl (lv_at hl 4 rfl) ?_
  obtain ⟨g5, h⟩ := dG_some h
  refine va_iald hx hb hK hP 3 0 rfl rfl (dg_in g5) dX8_exchange_25 ?_
  obtain ⟨v6, ev6, h⟩ := dL_some h
  refine kz_topi v6 ev6 ?_
  obtain ⟨g7, h⟩ := dG_some h
  refine va_iast hx hb hK hP hD hS 3 0 rfl rfl (dg_in g7) dX8_exchange_26 (fun H locs hp hd hs => ?_)
  obtain ⟨q8, eq8, h⟩ := dL_some h
  refine kz_re (w2 := wF ty ad q8) hp hd hs (by rw [← eq8]; exact wF_a3 ty ad q (Int32.toNatClampNeg p1) v6) ?_
  clear hp hd hs hP hD hS
  intro hP hD hS
  refine lv_aload_n hx hb dX8_exchange_27 rfl (lv_at hl 2 rfl) ?_
  refine va_get (D := D) (ci := 8) (v := .ref (ad 4)) (C := RX8) (T := TX8) (N := 5) hx hb hts u9_wsX8_exchange_X8 hown hK hP 2 rfl rfl 1 (by decide) (hts (.fieldLink RX8 15 "TurnedFloors$Tower" "head" "[I") f9_wsX8_exchange_626) (fun _ h9 => h9) rfl dX8_exchange_28 ?_
  refine lv_iload_n hx hb dX8_exchange_31 rfl (lv_at hl 3 rfl) ?_
  refine lv_aload_n hx hb dX8_exchange_32 rfl (lv_at hl 2 rfl) ?_
  refine va_get (D := D) (ci := 8) (v := .ref (ad 4)) (C := RX8) (T := TX8) (N := 5) hx hb hts u9_wsX8_exchange_X8 hown hK hP 2 rfl rfl 1 (by decide) (hts (.fieldLink RX8 15 "TurnedFloors$Tower" "head" "[I") f9_wsX8_exchange_626) (fun _ h9 => h9) rfl dX8_exchange_33 ?_
  refine lv_iload_n hx hb dX8_exchange_36 rfl (lv_at hl 4 rfl) ?_
  obtain ⟨g9, h⟩ := dG_some h
  refine va_iald hx hb hK hP 4 0 rfl rfl (dg_in g9) dX8_exchange_37 ?_
  obtain ⟨v10, ev10, h⟩ := dL_some h
  refine kz_topi v10 ev10 ?_
  obtain ⟨g11, h⟩ := dG_some h
  refine va_iast hx hb hK hP hD hS 4 0 rfl rfl (dg_in g11) dX8_exchange_38 (fun H locs hp hd hs => ?_)
  obtain ⟨q12, eq12, h⟩ := dL_some h
  refine kz_re (w2 := wF ty ad q12) hp hd hs (by rw [← eq12]; exact wF_a4 ty ad q8 (Int32.toNatClampNeg p1) v10) ?_
  clear hp hd hs hP hD hS
  intro hP hD hS
  refine lv_aload_n hx hb dX8_exchange_39 rfl (lv_at hl 2 rfl) ?_
  refine va_get (D := D) (ci := 8) (v := .ref (ad 3)) (C := RX8) (T := TX8) (N := 5) hx hb hts u9_wsX8_exchange_X8 hown hK hP 2 rfl rfl 0 (by decide) (hts (.fieldLink RX8 9 "TurnedFloors$Tower" "rank" "[I") f9_wsX8_exchange_625) (fun _ h9 => h9) rfl dX8_exchange_40 ?_
  refine lv_iload_n hx hb dX8_exchange_43 rfl (lv_at hl 4 rfl) ?_
  refine lv_iload_n hx hb dX8_exchange_44 rfl (lv_at hl 1 rfl) ?_
  obtain ⟨g13, h⟩ := dG_some h
  refine va_iast hx hb hK hP hD hS 3 0 rfl rfl (dg_in g13) dX8_exchange_45 (fun H locs hp hd hs => ?_)
  obtain ⟨q14, eq14, h⟩ := dL_some h
  refine kz_re (w2 := wF ty ad q14) hp hd hs (by rw [← eq14]; exact wF_a3 ty ad q12 (Int32.toNatClampNeg p2) v2) ?_
  clear hp hd hs hP hD hS
  intro hP hD hS
  refine lv_aload_n hx hb dX8_exchange_46 rfl (lv_at hl 2 rfl) ?_
  refine va_get (D := D) (ci := 8) (v := .ref (ad 4)) (C := RX8) (T := TX8) (N := 5) hx hb hts u9_wsX8_exchange_X8 hown hK hP 2 rfl rfl 1 (by decide) (hts (.fieldLink RX8 15 "TurnedFloors$Tower" "head" "[I") f9_wsX8_exchange_626) (fun _ h9 => h9) rfl dX8_exchange_47 ?_
  refine lv_iload_n hx hb dX8_exchange_50 rfl (lv_at hl 4 rfl) ?_
  refine lv_iload hx hb dX8_exchange_51 (lv_at hl 0 rfl) ?_
  obtain ⟨g15, h⟩ := dG_some h
  refine va_iast hx hb hK hP hD hS 4 0 rfl rfl (dg_in g15) dX8_exchange_53 (fun H locs hp hd hs => ?_)
  obtain ⟨q16, eq16, h⟩ := dL_some h
  refine kz_re (w2 := wF ty ad q16) hp hd hs (by rw [← eq16]; exact wF_a4 ty ad q14 (Int32.toNatClampNeg p2) v4) ?_
  clear hp hd hs hP hD hS
  intro hP hD hS
  cases h
  exact kz_vret hx hb hr hlocks hP hK hD hS dX8_exchange_54 rfl
end
section
theorem da9_dX0_keep_0 : (decode cX0_keep 0 = .ok (.aload_n 0, 1)) ∧ (decode cX0_keep 1 = .ok (.getfield 19, 3)) ∧ (decode cX0_keep 4 = .ok (.bipush 16, 2)) ∧ (decode cX0_keep 6 = .ok (.if_icmp .lt 39, 3)) ∧ (decode cX0_keep 9 = .ok (.aload_n 0, 1)) ∧ (decode cX0_keep 10 = .ok (.getfield 9, 3)) ∧ (decode cX0_keep 13 = .ok (.iconst 1, 1)) ∧ (decode cX0_keep 14 = .ok (.aload_n 0, 1)) ∧ (decode cX0_keep 15 = .ok (.getfield 9, 3)) ∧ (decode cX0_keep 18 = .ok (.iconst 0, 1)) ∧ (decode cX0_keep 19 = .ok (.bipush 15, 2)) ∧ (decode cX0_keep 21 = .ok (.invokestatic 32, 3)) ∧ (decode cX0_keep 24 = .ok (.aload_n 0, 1)) ∧ (decode cX0_keep 25 = .ok (.getfield 15, 3)) ∧ (decode cX0_keep 28 = .ok (.iconst 1, 1)) ∧ (decode cX0_keep 29 = .ok (.aload_n 0, 1)) := by decide +kernel
theorem dX0_keep_0 : decode cX0_keep 0 = .ok (.aload_n 0, 1) := da9_dX0_keep_0.1
theorem dX0_keep_1 : decode cX0_keep 1 = .ok (.getfield 19, 3) := da9_dX0_keep_0.2.1
theorem dX0_keep_4 : decode cX0_keep 4 = .ok (.bipush 16, 2) := da9_dX0_keep_0.2.2.1
theorem dX0_keep_6 : decode cX0_keep 6 = .ok (.if_icmp .lt 39, 3) := da9_dX0_keep_0.2.2.2.1
theorem dX0_keep_9 : decode cX0_keep 9 = .ok (.aload_n 0, 1) := da9_dX0_keep_0.2.2.2.2.1
theorem dX0_keep_10 : decode cX0_keep 10 = .ok (.getfield 9, 3) := da9_dX0_keep_0.2.2.2.2.2.1
theorem dX0_keep_13 : decode cX0_keep 13 = .ok (.iconst 1, 1) := da9_dX0_keep_0.2.2.2.2.2.2.1
theorem dX0_keep_14 : decode cX0_keep 14 = .ok (.aload_n 0, 1) := da9_dX0_keep_0.2.2.2.2.2.2.2.1
theorem dX0_keep_15 : decode cX0_keep 15 = .ok (.getfield 9, 3) := da9_dX0_keep_0.2.2.2.2.2.2.2.2.1
theorem dX0_keep_18 : decode cX0_keep 18 = .ok (.iconst 0, 1) := da9_dX0_keep_0.2.2.2.2.2.2.2.2.2.1
theorem dX0_keep_19 : decode cX0_keep 19 = .ok (.bipush 15, 2) := da9_dX0_keep_0.2.2.2.2.2.2.2.2.2.2.1
theorem dX0_keep_21 : decode cX0_keep 21 = .ok (.invokestatic 32, 3) := da9_dX0_keep_0.2.2.2.2.2.2.2.2.2.2.2.1
theorem dX0_keep_24 : decode cX0_keep 24 = .ok (.aload_n 0, 1) := da9_dX0_keep_0.2.2.2.2.2.2.2.2.2.2.2.2.1
theorem dX0_keep_25 : decode cX0_keep 25 = .ok (.getfield 15, 3) := da9_dX0_keep_0.2.2.2.2.2.2.2.2.2.2.2.2.2.1
theorem dX0_keep_28 : decode cX0_keep 28 = .ok (.iconst 1, 1) := da9_dX0_keep_0.2.2.2.2.2.2.2.2.2.2.2.2.2.2.1
theorem dX0_keep_29 : decode cX0_keep 29 = .ok (.aload_n 0, 1) := da9_dX0_keep_0.2.2.2.2.2.2.2.2.2.2.2.2.2.2.2
theorem da9_dX0_keep_30 : (decode cX0_keep 30 = .ok (.getfield 15, 3)) ∧ (decode cX0_keep 33 = .ok (.iconst 0, 1)) ∧ (decode cX0_keep 34 = .ok (.bipush 15, 2)) ∧ (decode cX0_keep 36 = .ok (.invokestatic 32, 3)) ∧ (decode cX0_keep 39 = .ok (.aload_n 0, 1)) ∧ (decode cX0_keep 40 = .ok (.bipush 15, 2)) ∧ (decode cX0_keep 42 = .ok (.putfield 19, 3)) ∧ (decode cX0_keep 45 = .ok (.aload_n 0, 1)) ∧ (decode cX0_keep 46 = .ok (.getfield 9, 3)) ∧ (decode cX0_keep 49 = .ok (.aload_n 0, 1)) ∧ (decode cX0_keep 50 = .ok (.getfield 19, 3)) ∧ (decode cX0_keep 53 = .ok (.lload_n 2, 1)) ∧ (decode cX0_keep 54 = .ok (.lastore, 1)) ∧ (decode cX0_keep 55 = .ok (.aload_n 0, 1)) ∧ (decode cX0_keep 56 = .ok (.getfield 15, 3)) ∧ (decode cX0_keep 59 = .ok (.aload_n 0, 1)) := by decide +kernel
theorem dX0_keep_30 : decode cX0_keep 30 = .ok (.getfield 15, 3) := da9_dX0_keep_30.1
theorem dX0_keep_33 : decode cX0_keep 33 = .ok (.iconst 0, 1) := da9_dX0_keep_30.2.1
theorem dX0_keep_34 : decode cX0_keep 34 = .ok (.bipush 15, 2) := da9_dX0_keep_30.2.2.1
theorem dX0_keep_36 : decode cX0_keep 36 = .ok (.invokestatic 32, 3) := da9_dX0_keep_30.2.2.2.1
theorem dX0_keep_39 : decode cX0_keep 39 = .ok (.aload_n 0, 1) := da9_dX0_keep_30.2.2.2.2.1
theorem dX0_keep_40 : decode cX0_keep 40 = .ok (.bipush 15, 2) := da9_dX0_keep_30.2.2.2.2.2.1
theorem dX0_keep_42 : decode cX0_keep 42 = .ok (.putfield 19, 3) := da9_dX0_keep_30.2.2.2.2.2.2.1
theorem dX0_keep_45 : decode cX0_keep 45 = .ok (.aload_n 0, 1) := da9_dX0_keep_30.2.2.2.2.2.2.2.1
theorem dX0_keep_46 : decode cX0_keep 46 = .ok (.getfield 9, 3) := da9_dX0_keep_30.2.2.2.2.2.2.2.2.1
theorem dX0_keep_49 : decode cX0_keep 49 = .ok (.aload_n 0, 1) := da9_dX0_keep_30.2.2.2.2.2.2.2.2.2.1
theorem dX0_keep_50 : decode cX0_keep 50 = .ok (.getfield 19, 3) := da9_dX0_keep_30.2.2.2.2.2.2.2.2.2.2.1
theorem dX0_keep_53 : decode cX0_keep 53 = .ok (.lload_n 2, 1) := da9_dX0_keep_30.2.2.2.2.2.2.2.2.2.2.2.1
theorem dX0_keep_54 : decode cX0_keep 54 = .ok (.lastore, 1) := da9_dX0_keep_30.2.2.2.2.2.2.2.2.2.2.2.2.1
theorem dX0_keep_55 : decode cX0_keep 55 = .ok (.aload_n 0, 1) := da9_dX0_keep_30.2.2.2.2.2.2.2.2.2.2.2.2.2.1
theorem dX0_keep_56 : decode cX0_keep 56 = .ok (.getfield 15, 3) := da9_dX0_keep_30.2.2.2.2.2.2.2.2.2.2.2.2.2.2.1
theorem dX0_keep_59 : decode cX0_keep 59 = .ok (.aload_n 0, 1) := da9_dX0_keep_30.2.2.2.2.2.2.2.2.2.2.2.2.2.2.2
theorem da9_dX0_keep_60 : (decode cX0_keep 60 = .ok (.getfield 19, 3)) ∧ (decode cX0_keep 63 = .ok (.iload_n 1, 1)) ∧ (decode cX0_keep 64 = .ok (.iastore, 1)) ∧ (decode cX0_keep 65 = .ok (.aload_n 0, 1)) ∧ (decode cX0_keep 66 = .ok (.dup, 1)) ∧ (decode cX0_keep 67 = .ok (.getfield 19, 3)) ∧ (decode cX0_keep 70 = .ok (.iconst 1, 1)) ∧ (decode cX0_keep 71 = .ok (.iadd, 1)) ∧ (decode cX0_keep 72 = .ok (.putfield 19, 3)) ∧ (decode cX0_keep 75 = .ok (.return_, 1)) := by decide +kernel
theorem dX0_keep_60 : decode cX0_keep 60 = .ok (.getfield 19, 3) := da9_dX0_keep_60.1
theorem dX0_keep_63 : decode cX0_keep 63 = .ok (.iload_n 1, 1) := da9_dX0_keep_60.2.1
theorem dX0_keep_64 : decode cX0_keep 64 = .ok (.iastore, 1) := da9_dX0_keep_60.2.2.1
theorem dX0_keep_65 : decode cX0_keep 65 = .ok (.aload_n 0, 1) := da9_dX0_keep_60.2.2.2.1
theorem dX0_keep_66 : decode cX0_keep 66 = .ok (.dup, 1) := da9_dX0_keep_60.2.2.2.2.1
theorem dX0_keep_67 : decode cX0_keep 67 = .ok (.getfield 19, 3) := da9_dX0_keep_60.2.2.2.2.2.1
theorem dX0_keep_70 : decode cX0_keep 70 = .ok (.iconst 1, 1) := da9_dX0_keep_60.2.2.2.2.2.2.1
theorem dX0_keep_71 : decode cX0_keep 71 = .ok (.iadd, 1) := da9_dX0_keep_60.2.2.2.2.2.2.2.1
theorem dX0_keep_72 : decode cX0_keep 72 = .ok (.putfield 19, 3) := da9_dX0_keep_60.2.2.2.2.2.2.2.2.1
theorem dX0_keep_75 : decode cX0_keep 75 = .ok (.return_, 1) := da9_dX0_keep_60.2.2.2.2.2.2.2.2.2
theorem da9_dX8_unpack_0 : (decode cX8_unpack 0 = .ok (.aload_n 0, 1)) ∧ (decode cX8_unpack 1 = .ok (.lload_n 1, 1)) ∧ (decode cX8_unpack 2 = .ok (.ldc2_w 35, 3)) ∧ (decode cX8_unpack 5 = .ok (.land, 1)) ∧ (decode cX8_unpack 6 = .ok (.l2i, 1)) ∧ (decode cX8_unpack 7 = .ok (.putfield 25, 3)) ∧ (decode cX8_unpack 10 = .ok (.aload_n 0, 1)) ∧ (decode cX8_unpack 11 = .ok (.lload_n 1, 1)) ∧ (decode cX8_unpack 12 = .ok (.bipush 10, 2)) ∧ (decode cX8_unpack 14 = .ok (.lshr, 1)) ∧ (decode cX8_unpack 15 = .ok (.ldc2_w 37, 3)) ∧ (decode cX8_unpack 18 = .ok (.land, 1)) ∧ (decode cX8_unpack 19 = .ok (.l2i, 1)) ∧ (decode cX8_unpack 20 = .ok (.putfield 22, 3)) ∧ (decode cX8_unpack 23 = .ok (.lload_n 1, 1)) ∧ (decode cX8_unpack 24 = .ok (.bipush 24, 2)) := by decide +kernel
theorem dX8_unpack_0 : decode cX8_unpack 0 = .ok (.aload_n 0, 1) := da9_dX8_unpack_0.1
theorem dX8_unpack_1 : decode cX8_unpack 1 = .ok (.lload_n 1, 1) := da9_dX8_unpack_0.2.1
theorem dX8_unpack_2 : decode cX8_unpack 2 = .ok (.ldc2_w 35, 3) := da9_dX8_unpack_0.2.2.1
theorem dX8_unpack_5 : decode cX8_unpack 5 = .ok (.land, 1) := da9_dX8_unpack_0.2.2.2.1
theorem dX8_unpack_6 : decode cX8_unpack 6 = .ok (.l2i, 1) := da9_dX8_unpack_0.2.2.2.2.1
theorem dX8_unpack_7 : decode cX8_unpack 7 = .ok (.putfield 25, 3) := da9_dX8_unpack_0.2.2.2.2.2.1
theorem dX8_unpack_10 : decode cX8_unpack 10 = .ok (.aload_n 0, 1) := da9_dX8_unpack_0.2.2.2.2.2.2.1
theorem dX8_unpack_11 : decode cX8_unpack 11 = .ok (.lload_n 1, 1) := da9_dX8_unpack_0.2.2.2.2.2.2.2.1
theorem dX8_unpack_12 : decode cX8_unpack 12 = .ok (.bipush 10, 2) := da9_dX8_unpack_0.2.2.2.2.2.2.2.2.1
theorem dX8_unpack_14 : decode cX8_unpack 14 = .ok (.lshr, 1) := da9_dX8_unpack_0.2.2.2.2.2.2.2.2.2.1
theorem dX8_unpack_15 : decode cX8_unpack 15 = .ok (.ldc2_w 37, 3) := da9_dX8_unpack_0.2.2.2.2.2.2.2.2.2.2.1
theorem dX8_unpack_18 : decode cX8_unpack 18 = .ok (.land, 1) := da9_dX8_unpack_0.2.2.2.2.2.2.2.2.2.2.2.1
theorem dX8_unpack_19 : decode cX8_unpack 19 = .ok (.l2i, 1) := da9_dX8_unpack_0.2.2.2.2.2.2.2.2.2.2.2.2.1
theorem dX8_unpack_20 : decode cX8_unpack 20 = .ok (.putfield 22, 3) := da9_dX8_unpack_0.2.2.2.2.2.2.2.2.2.2.2.2.2.1
theorem dX8_unpack_23 : decode cX8_unpack 23 = .ok (.lload_n 1, 1) := da9_dX8_unpack_0.2.2.2.2.2.2.2.2.2.2.2.2.2.2.1
theorem dX8_unpack_24 : decode cX8_unpack 24 = .ok (.bipush 24, 2) := da9_dX8_unpack_0.2.2.2.2.2.2.2.2.2.2.2.2.2.2.2
theorem da9_dX8_unpack_26 : (decode cX8_unpack 26 = .ok (.lshr, 1)) ∧ (decode cX8_unpack 27 = .ok (.lstore_n 3, 1)) ∧ (decode cX8_unpack 28 = .ok (.iconst 5, 1)) ∧ (decode cX8_unpack 29 = .ok (.istore 5, 2)) ∧ (decode cX8_unpack 31 = .ok (.iload 5, 2)) ∧ (decode cX8_unpack 33 = .ok (.ifCond .lt 39, 3)) ∧ (decode cX8_unpack 36 = .ok (.aload_n 0, 1)) ∧ (decode cX8_unpack 37 = .ok (.getfield 15, 3)) ∧ (decode cX8_unpack 40 = .ok (.iload 5, 2)) ∧ (decode cX8_unpack 42 = .ok (.lload_n 3, 1)) ∧ (decode cX8_unpack 43 = .ok (.lconst 1, 1)) ∧ (decode cX8_unpack 44 = .ok (.land, 1)) ∧ (decode cX8_unpack 45 = .ok (.l2i, 1)) ∧ (decode cX8_unpack 46 = .ok (.iastore, 1)) ∧ (decode cX8_unpack 47 = .ok (.aload_n 0, 1)) ∧ (decode cX8_unpack 48 = .ok (.getfield 9, 3)) := by decide +kernel
theorem dX8_unpack_26 : decode cX8_unpack 26 = .ok (.lshr, 1) := da9_dX8_unpack_26.1
theorem dX8_unpack_27 : decode cX8_unpack 27 = .ok (.lstore_n 3, 1) := da9_dX8_unpack_26.2.1
theorem dX8_unpack_28 : decode cX8_unpack 28 = .ok (.iconst 5, 1) := da9_dX8_unpack_26.2.2.1
theorem dX8_unpack_29 : decode cX8_unpack 29 = .ok (.istore 5, 2) := da9_dX8_unpack_26.2.2.2.1
theorem dX8_unpack_31 : decode cX8_unpack 31 = .ok (.iload 5, 2) := da9_dX8_unpack_26.2.2.2.2.1
theorem dX8_unpack_33 : decode cX8_unpack 33 = .ok (.ifCond .lt 39, 3) := da9_dX8_unpack_26.2.2.2.2.2.1
theorem dX8_unpack_36 : decode cX8_unpack 36 = .ok (.aload_n 0, 1) := da9_dX8_unpack_26.2.2.2.2.2.2.1
theorem dX8_unpack_37 : decode cX8_unpack 37 = .ok (.getfield 15, 3) := da9_dX8_unpack_26.2.2.2.2.2.2.2.1
theorem dX8_unpack_40 : decode cX8_unpack 40 = .ok (.iload 5, 2) := da9_dX8_unpack_26.2.2.2.2.2.2.2.2.1
theorem dX8_unpack_42 : decode cX8_unpack 42 = .ok (.lload_n 3, 1) := da9_dX8_unpack_26.2.2.2.2.2.2.2.2.2.1
theorem dX8_unpack_43 : decode cX8_unpack 43 = .ok (.lconst 1, 1) := da9_dX8_unpack_26.2.2.2.2.2.2.2.2.2.2.1
theorem dX8_unpack_44 : decode cX8_unpack 44 = .ok (.land, 1) := da9_dX8_unpack_26.2.2.2.2.2.2.2.2.2.2.2.1
theorem dX8_unpack_45 : decode cX8_unpack 45 = .ok (.l2i, 1) := da9_dX8_unpack_26.2.2.2.2.2.2.2.2.2.2.2.2.1
theorem dX8_unpack_46 : decode cX8_unpack 46 = .ok (.iastore, 1) := da9_dX8_unpack_26.2.2.2.2.2.2.2.2.2.2.2.2.2.1
theorem dX8_unpack_47 : decode cX8_unpack 47 = .ok (.aload_n 0, 1) := da9_dX8_unpack_26.2.2.2.2.2.2.2.2.2.2.2.2.2.2.1
theorem dX8_unpack_48 : decode cX8_unpack 48 = .ok (.getfield 9, 3) := da9_dX8_unpack_26.2.2.2.2.2.2.2.2.2.2.2.2.2.2.2
theorem da9_dX8_unpack_51 : (decode cX8_unpack 51 = .ok (.iload 5, 2)) ∧ (decode cX8_unpack 53 = .ok (.lload_n 3, 1)) ∧ (decode cX8_unpack 54 = .ok (.iconst 1, 1)) ∧ (decode cX8_unpack 55 = .ok (.lshr, 1)) ∧ (decode cX8_unpack 56 = .ok (.ldc2_w 39, 3)) ∧ (decode cX8_unpack 59 = .ok (.land, 1)) ∧ (decode cX8_unpack 60 = .ok (.l2i, 1)) ∧ (decode cX8_unpack 61 = .ok (.iastore, 1)) ∧ (decode cX8_unpack 62 = .ok (.lload_n 3, 1)) ∧ (decode cX8_unpack 63 = .ok (.iconst 4, 1)) ∧ (decode cX8_unpack 64 = .ok (.lshr, 1)) ∧ (decode cX8_unpack 65 = .ok (.lstore_n 3, 1)) ∧ (decode cX8_unpack 66 = .ok (.iinc 5 (-1), 3)) ∧ (decode cX8_unpack 69 = .ok (.goto (-38), 3)) ∧ (decode cX8_unpack 72 = .ok (.aload_n 0, 1)) ∧ (decode cX8_unpack 73 = .ok (.bipush 6, 2)) := by decide +kernel
theorem dX8_unpack_51 : decode cX8_unpack 51 = .ok (.iload 5, 2) := da9_dX8_unpack_51.1
theorem dX8_unpack_53 : decode cX8_unpack 53 = .ok (.lload_n 3, 1) := da9_dX8_unpack_51.2.1
theorem dX8_unpack_54 : decode cX8_unpack 54 = .ok (.iconst 1, 1) := da9_dX8_unpack_51.2.2.1
theorem dX8_unpack_55 : decode cX8_unpack 55 = .ok (.lshr, 1) := da9_dX8_unpack_51.2.2.2.1
theorem dX8_unpack_56 : decode cX8_unpack 56 = .ok (.ldc2_w 39, 3) := da9_dX8_unpack_51.2.2.2.2.1
theorem dX8_unpack_59 : decode cX8_unpack 59 = .ok (.land, 1) := da9_dX8_unpack_51.2.2.2.2.2.1
theorem dX8_unpack_60 : decode cX8_unpack 60 = .ok (.l2i, 1) := da9_dX8_unpack_51.2.2.2.2.2.2.1
theorem dX8_unpack_61 : decode cX8_unpack 61 = .ok (.iastore, 1) := da9_dX8_unpack_51.2.2.2.2.2.2.2.1
theorem dX8_unpack_62 : decode cX8_unpack 62 = .ok (.lload_n 3, 1) := da9_dX8_unpack_51.2.2.2.2.2.2.2.2.1
theorem dX8_unpack_63 : decode cX8_unpack 63 = .ok (.iconst 4, 1) := da9_dX8_unpack_51.2.2.2.2.2.2.2.2.2.1
theorem dX8_unpack_64 : decode cX8_unpack 64 = .ok (.lshr, 1) := da9_dX8_unpack_51.2.2.2.2.2.2.2.2.2.2.1
theorem dX8_unpack_65 : decode cX8_unpack 65 = .ok (.lstore_n 3, 1) := da9_dX8_unpack_51.2.2.2.2.2.2.2.2.2.2.2.1
theorem dX8_unpack_66 : decode cX8_unpack 66 = .ok (.iinc 5 (-1), 3) := da9_dX8_unpack_51.2.2.2.2.2.2.2.2.2.2.2.2.1
theorem dX8_unpack_69 : decode cX8_unpack 69 = .ok (.goto (-38), 3) := da9_dX8_unpack_51.2.2.2.2.2.2.2.2.2.2.2.2.2.1
theorem dX8_unpack_72 : decode cX8_unpack 72 = .ok (.aload_n 0, 1) := da9_dX8_unpack_51.2.2.2.2.2.2.2.2.2.2.2.2.2.2.1
theorem dX8_unpack_73 : decode cX8_unpack 73 = .ok (.bipush 6, 2) := da9_dX8_unpack_51.2.2.2.2.2.2.2.2.2.2.2.2.2.2.2
theorem da9_dX8_unpack_75 : (decode cX8_unpack 75 = .ok (.lload_n 3, 1)) ∧ (decode cX8_unpack 76 = .ok (.l2i, 1)) ∧ (decode cX8_unpack 77 = .ok (.invokestatic 41, 3)) ∧ (decode cX8_unpack 80 = .ok (.putfield 18, 3)) ∧ (decode cX8_unpack 83 = .ok (.return_, 1)) := by decide +kernel
theorem dX8_unpack_75 : decode cX8_unpack 75 = .ok (.lload_n 3, 1) := da9_dX8_unpack_75.1
theorem dX8_unpack_76 : decode cX8_unpack 76 = .ok (.l2i, 1) := da9_dX8_unpack_75.2.1
theorem dX8_unpack_77 : decode cX8_unpack 77 = .ok (.invokestatic 41, 3) := da9_dX8_unpack_75.2.2.1
theorem dX8_unpack_80 : decode cX8_unpack 80 = .ok (.putfield 18, 3) := da9_dX8_unpack_75.2.2.2.1
theorem dX8_unpack_83 : decode cX8_unpack 83 = .ok (.return_, 1) := da9_dX8_unpack_75.2.2.2.2
set_option maxRecDepth 20000 in
theorem ggX8_act_X8_turnTop : GoodIn wsX8_act wsX8_turnTop := wd_c vW9_ok mvW9_402
set_option maxRecDepth 20000 in
theorem gX8_act_X8_turnTop : GoodIn wsX8_act (wsV RX8 47 RX8 yX8_turnTop wsX8_turnTop) := goodIn_app (wd_l vW9_ok _ pvW9_78) ggX8_act_X8_turnTop
set_option maxRecDepth 20000 in
theorem ggX8_act_X8_rightAt : GoodIn wsX8_act wsX8_rightAt := wd_c vW9_ok mvW9_412
set_option maxRecDepth 20000 in
theorem gX8_act_X8_rightAt : GoodIn wsX8_act (wsV RX8 51 RX8 yX8_rightAt wsX8_rightAt) := goodIn_app (wd_l vW9_ok _ pvW9_79) ggX8_act_X8_rightAt
set_option maxRecDepth 20000 in
theorem ggX8_act_X8_swapAt : GoodIn wsX8_act wsX8_swapAt := wd_c vW9_ok mvW9_416
set_option maxRecDepth 20000 in
theorem gX8_act_X8_swapAt : GoodIn wsX8_act (wsV RX8 55 RX8 yX8_swapAt wsX8_swapAt) := goodIn_app (wd_l vW9_ok _ pvW9_80) ggX8_act_X8_swapAt
set_option maxRecDepth 20000 in
theorem ggX8_act_X8_passYear : GoodIn wsX8_act wsX8_passYear := wd_c vW9_ok mvW9_420
set_option maxRecDepth 20000 in
theorem gX8_act_X8_passYear : GoodIn wsX8_act (wsV RX8 58 RX8 yX8_passYear wsX8_passYear) := goodIn_app (wd_l vW9_ok _ pvW9_81) ggX8_act_X8_passYear
theorem da9_dX8_act_0 : (decode cX8_act 0 = .ok (.iload_n 1, 1)) ∧ (decode cX8_act 1 = .ok (.tableswitch 56 0 3 #[31, 38, 44, 50], 31)) ∧ (decode cX8_act 32 = .ok (.aload_n 0, 1)) ∧ (decode cX8_act 33 = .ok (.iload_n 2, 1)) ∧ (decode cX8_act 34 = .ok (.aload_n 3, 1)) ∧ (decode cX8_act 35 = .ok (.invokevirtual 47, 3)) ∧ (decode cX8_act 38 = .ok (.ireturn, 1)) ∧ (decode cX8_act 39 = .ok (.aload_n 0, 1)) ∧ (decode cX8_act 40 = .ok (.iload_n 2, 1)) ∧ (decode cX8_act 41 = .ok (.invokevirtual 51, 3)) ∧ (decode cX8_act 44 = .ok (.ireturn, 1)) ∧ (decode cX8_act 45 = .ok (.aload_n 0, 1)) ∧ (decode cX8_act 46 = .ok (.iload_n 2, 1)) ∧ (decode cX8_act 47 = .ok (.invokevirtual 55, 3)) ∧ (decode cX8_act 50 = .ok (.ireturn, 1)) ∧ (decode cX8_act 51 = .ok (.aload_n 0, 1)) := by decide +kernel
theorem dX8_act_0 : decode cX8_act 0 = .ok (.iload_n 1, 1) := da9_dX8_act_0.1
theorem dX8_act_1 : decode cX8_act 1 = .ok (.tableswitch 56 0 3 #[31, 38, 44, 50], 31) := da9_dX8_act_0.2.1
theorem dX8_act_32 : decode cX8_act 32 = .ok (.aload_n 0, 1) := da9_dX8_act_0.2.2.1
theorem dX8_act_33 : decode cX8_act 33 = .ok (.iload_n 2, 1) := da9_dX8_act_0.2.2.2.1
theorem dX8_act_34 : decode cX8_act 34 = .ok (.aload_n 3, 1) := da9_dX8_act_0.2.2.2.2.1
theorem dX8_act_35 : decode cX8_act 35 = .ok (.invokevirtual 47, 3) := da9_dX8_act_0.2.2.2.2.2.1
theorem dX8_act_38 : decode cX8_act 38 = .ok (.ireturn, 1) := da9_dX8_act_0.2.2.2.2.2.2.1
theorem dX8_act_39 : decode cX8_act 39 = .ok (.aload_n 0, 1) := da9_dX8_act_0.2.2.2.2.2.2.2.1
theorem dX8_act_40 : decode cX8_act 40 = .ok (.iload_n 2, 1) := da9_dX8_act_0.2.2.2.2.2.2.2.2.1
theorem dX8_act_41 : decode cX8_act 41 = .ok (.invokevirtual 51, 3) := da9_dX8_act_0.2.2.2.2.2.2.2.2.2.1
theorem dX8_act_44 : decode cX8_act 44 = .ok (.ireturn, 1) := da9_dX8_act_0.2.2.2.2.2.2.2.2.2.2.1
theorem dX8_act_45 : decode cX8_act 45 = .ok (.aload_n 0, 1) := da9_dX8_act_0.2.2.2.2.2.2.2.2.2.2.2.1
theorem dX8_act_46 : decode cX8_act 46 = .ok (.iload_n 2, 1) := da9_dX8_act_0.2.2.2.2.2.2.2.2.2.2.2.2.1
theorem dX8_act_47 : decode cX8_act 47 = .ok (.invokevirtual 55, 3) := da9_dX8_act_0.2.2.2.2.2.2.2.2.2.2.2.2.2.1
theorem dX8_act_50 : decode cX8_act 50 = .ok (.ireturn, 1) := da9_dX8_act_0.2.2.2.2.2.2.2.2.2.2.2.2.2.2.1
theorem dX8_act_51 : decode cX8_act 51 = .ok (.aload_n 0, 1) := da9_dX8_act_0.2.2.2.2.2.2.2.2.2.2.2.2.2.2.2
theorem da9_dX8_act_52 : (decode cX8_act 52 = .ok (.aload_n 3, 1)) ∧ (decode cX8_act 53 = .ok (.invokevirtual 58, 3)) ∧ (decode cX8_act 56 = .ok (.ireturn, 1)) ∧ (decode cX8_act 57 = .ok (.bipush (-3), 2)) ∧ (decode cX8_act 59 = .ok (.ireturn, 1)) := by decide +kernel
theorem dX8_act_52 : decode cX8_act 52 = .ok (.aload_n 3, 1) := da9_dX8_act_52.1
theorem dX8_act_53 : decode cX8_act 53 = .ok (.invokevirtual 58, 3) := da9_dX8_act_52.2.1
theorem dX8_act_56 : decode cX8_act 56 = .ok (.ireturn, 1) := da9_dX8_act_52.2.2.1
theorem dX8_act_57 : decode cX8_act 57 = .ok (.bipush (-3), 2) := da9_dX8_act_52.2.2.2.1
theorem dX8_act_59 : decode cX8_act 59 = .ok (.ireturn, 1) := da9_dX8_act_52.2.2.2.2
set_option maxRecDepth 20000 in
theorem ggX8_turnTop_X1_bars : GoodIn wsX8_turnTop wsX1_bars := wd_c vW9_ok mvW9_127
set_option maxRecDepth 20000 in
theorem gX8_turnTop_X1_bars : GoodIn wsX8_turnTop (wsV RX8 62 RX1 yX1_bars wsX1_bars) := goodIn_app (wd_l vW9_ok _ pvW9_82) ggX8_turnTop_X1_bars
set_option maxRecDepth 20000 in
theorem ggX8_turnTop_X1_payOf : GoodIn wsX8_turnTop wsX1_payOf := wd_c vW9_ok mvW9_106
set_option maxRecDepth 20000 in
theorem gX8_turnTop_X1_payOf : GoodIn wsX8_turnTop (wsV RX8 68 RX1 yX1_payOf wsX1_payOf) := goodIn_app (wd_l vW9_ok _ pvW9_83) ggX8_turnTop_X1_payOf
set_option maxRecDepth 20000 in
theorem ggX8_turnTop_X8_exchange : GoodIn wsX8_turnTop wsX8_exchange := wd_c vW9_ok mvW9_408
set_option maxRecDepth 20000 in
theorem gX8_turnTop_X8_exchange : GoodIn wsX8_turnTop (wsV RX8 72 RX8 yX8_exchange wsX8_exchange) := goodIn_app (wd_l vW9_ok _ pvW9_84) ggX8_turnTop_X8_exchange
theorem da9_dX8_turnTop_0 : (decode cX8_turnTop 0 = .ok (.iload_n 1, 1)) ∧ (decode cX8_turnTop 1 = .ok (.iconst 1, 1)) ∧ (decode cX8_turnTop 2 = .ok (.if_icmp .lt 9, 3)) ∧ (decode cX8_turnTop 5 = .ok (.iload_n 1, 1)) ∧ (decode cX8_turnTop 6 = .ok (.bipush 6, 2)) ∧ (decode cX8_turnTop 8 = .ok (.if_icmp .le 5, 3)) ∧ (decode cX8_turnTop 11 = .ok (.iconst (-1), 1)) ∧ (decode cX8_turnTop 12 = .ok (.ireturn, 1)) ∧ (decode cX8_turnTop 13 = .ok (.iload_n 1, 1)) ∧ (decode cX8_turnTop 14 = .ok (.aload_n 0, 1)) ∧ (decode cX8_turnTop 15 = .ok (.getfield 18, 3)) ∧ (decode cX8_turnTop 18 = .ok (.if_icmp .gt 12, 3)) ∧ (decode cX8_turnTop 21 = .ok (.aload_n 2, 1)) ∧ (decode cX8_turnTop 22 = .ok (.aload_n 0, 1)) ∧ (decode cX8_turnTop 23 = .ok (.iload_n 1, 1)) ∧ (decode cX8_turnTop 24 = .ok (.invokevirtual 62, 3)) := by decide +kernel
theorem dX8_turnTop_0 : decode cX8_turnTop 0 = .ok (.iload_n 1, 1) := da9_dX8_turnTop_0.1
theorem dX8_turnTop_1 : decode cX8_turnTop 1 = .ok (.iconst 1, 1) := da9_dX8_turnTop_0.2.1
theorem dX8_turnTop_2 : decode cX8_turnTop 2 = .ok (.if_icmp .lt 9, 3) := da9_dX8_turnTop_0.2.2.1
theorem dX8_turnTop_5 : decode cX8_turnTop 5 = .ok (.iload_n 1, 1) := da9_dX8_turnTop_0.2.2.2.1
theorem dX8_turnTop_6 : decode cX8_turnTop 6 = .ok (.bipush 6, 2) := da9_dX8_turnTop_0.2.2.2.2.1
theorem dX8_turnTop_8 : decode cX8_turnTop 8 = .ok (.if_icmp .le 5, 3) := da9_dX8_turnTop_0.2.2.2.2.2.1
theorem dX8_turnTop_11 : decode cX8_turnTop 11 = .ok (.iconst (-1), 1) := da9_dX8_turnTop_0.2.2.2.2.2.2.1
theorem dX8_turnTop_12 : decode cX8_turnTop 12 = .ok (.ireturn, 1) := da9_dX8_turnTop_0.2.2.2.2.2.2.2.1
theorem dX8_turnTop_13 : decode cX8_turnTop 13 = .ok (.iload_n 1, 1) := da9_dX8_turnTop_0.2.2.2.2.2.2.2.2.1
theorem dX8_turnTop_14 : decode cX8_turnTop 14 = .ok (.aload_n 0, 1) := da9_dX8_turnTop_0.2.2.2.2.2.2.2.2.2.1
theorem dX8_turnTop_15 : decode cX8_turnTop 15 = .ok (.getfield 18, 3) := da9_dX8_turnTop_0.2.2.2.2.2.2.2.2.2.2.1
theorem dX8_turnTop_18 : decode cX8_turnTop 18 = .ok (.if_icmp .gt 12, 3) := da9_dX8_turnTop_0.2.2.2.2.2.2.2.2.2.2.2.1
theorem dX8_turnTop_21 : decode cX8_turnTop 21 = .ok (.aload_n 2, 1) := da9_dX8_turnTop_0.2.2.2.2.2.2.2.2.2.2.2.2.1
theorem dX8_turnTop_22 : decode cX8_turnTop 22 = .ok (.aload_n 0, 1) := da9_dX8_turnTop_0.2.2.2.2.2.2.2.2.2.2.2.2.2.1
theorem dX8_turnTop_23 : decode cX8_turnTop 23 = .ok (.iload_n 1, 1) := da9_dX8_turnTop_0.2.2.2.2.2.2.2.2.2.2.2.2.2.2.1
theorem dX8_turnTop_24 : decode cX8_turnTop 24 = .ok (.invokevirtual 62, 3) := da9_dX8_turnTop_0.2.2.2.2.2.2.2.2.2.2.2.2.2.2.2
theorem da9_dX8_turnTop_27 : (decode cX8_turnTop 27 = .ok (.ifCond .eq 6, 3)) ∧ (decode cX8_turnTop 30 = .ok (.bipush (-3), 2)) ∧ (decode cX8_turnTop 32 = .ok (.ireturn, 1)) ∧ (decode cX8_turnTop 33 = .ok (.aload_n 2, 1)) ∧ (decode cX8_turnTop 34 = .ok (.aload_n 0, 1)) ∧ (decode cX8_turnTop 35 = .ok (.iload_n 1, 1)) ∧ (decode cX8_turnTop 36 = .ok (.invokevirtual 68, 3)) ∧ (decode cX8_turnTop 39 = .ok (.istore_n 3, 1)) ∧ (decode cX8_turnTop 40 = .ok (.iconst 0, 1)) ∧ (decode cX8_turnTop 41 = .ok (.istore 4, 2)) ∧ (decode cX8_turnTop 43 = .ok (.iload_n 1, 1)) ∧ (decode cX8_turnTop 44 = .ok (.iconst 1, 1)) ∧ (decode cX8_turnTop 45 = .ok (.isub, 1)) ∧ (decode cX8_turnTop 46 = .ok (.istore 5, 2)) ∧ (decode cX8_turnTop 48 = .ok (.iload 4, 2)) ∧ (decode cX8_turnTop 50 = .ok (.iload 5, 2)) := by decide +kernel
theorem dX8_turnTop_27 : decode cX8_turnTop 27 = .ok (.ifCond .eq 6, 3) := da9_dX8_turnTop_27.1
theorem dX8_turnTop_30 : decode cX8_turnTop 30 = .ok (.bipush (-3), 2) := da9_dX8_turnTop_27.2.1
theorem dX8_turnTop_32 : decode cX8_turnTop 32 = .ok (.ireturn, 1) := da9_dX8_turnTop_27.2.2.1
theorem dX8_turnTop_33 : decode cX8_turnTop 33 = .ok (.aload_n 2, 1) := da9_dX8_turnTop_27.2.2.2.1
theorem dX8_turnTop_34 : decode cX8_turnTop 34 = .ok (.aload_n 0, 1) := da9_dX8_turnTop_27.2.2.2.2.1
theorem dX8_turnTop_35 : decode cX8_turnTop 35 = .ok (.iload_n 1, 1) := da9_dX8_turnTop_27.2.2.2.2.2.1
theorem dX8_turnTop_36 : decode cX8_turnTop 36 = .ok (.invokevirtual 68, 3) := da9_dX8_turnTop_27.2.2.2.2.2.2.1
theorem dX8_turnTop_39 : decode cX8_turnTop 39 = .ok (.istore_n 3, 1) := da9_dX8_turnTop_27.2.2.2.2.2.2.2.1
theorem dX8_turnTop_40 : decode cX8_turnTop 40 = .ok (.iconst 0, 1) := da9_dX8_turnTop_27.2.2.2.2.2.2.2.2.1
theorem dX8_turnTop_41 : decode cX8_turnTop 41 = .ok (.istore 4, 2) := da9_dX8_turnTop_27.2.2.2.2.2.2.2.2.2.1
theorem dX8_turnTop_43 : decode cX8_turnTop 43 = .ok (.iload_n 1, 1) := da9_dX8_turnTop_27.2.2.2.2.2.2.2.2.2.2.1
theorem dX8_turnTop_44 : decode cX8_turnTop 44 = .ok (.iconst 1, 1) := da9_dX8_turnTop_27.2.2.2.2.2.2.2.2.2.2.2.1
theorem dX8_turnTop_45 : decode cX8_turnTop 45 = .ok (.isub, 1) := da9_dX8_turnTop_27.2.2.2.2.2.2.2.2.2.2.2.2.1
theorem dX8_turnTop_46 : decode cX8_turnTop 46 = .ok (.istore 5, 2) := da9_dX8_turnTop_27.2.2.2.2.2.2.2.2.2.2.2.2.2.1
theorem dX8_turnTop_48 : decode cX8_turnTop 48 = .ok (.iload 4, 2) := da9_dX8_turnTop_27.2.2.2.2.2.2.2.2.2.2.2.2.2.2.1
theorem dX8_turnTop_50 : decode cX8_turnTop 50 = .ok (.iload 5, 2) := da9_dX8_turnTop_27.2.2.2.2.2.2.2.2.2.2.2.2.2.2.2
theorem da9_dX8_turnTop_52 : (decode cX8_turnTop 52 = .ok (.if_icmp .ge 20, 3)) ∧ (decode cX8_turnTop 55 = .ok (.aload_n 0, 1)) ∧ (decode cX8_turnTop 56 = .ok (.iload 4, 2)) ∧ (decode cX8_turnTop 58 = .ok (.iload 5, 2)) ∧ (decode cX8_turnTop 60 = .ok (.invokevirtual 72, 3)) ∧ (decode cX8_turnTop 63 = .ok (.iinc 4 1, 3)) ∧ (decode cX8_turnTop 66 = .ok (.iinc 5 (-1), 3)) ∧ (decode cX8_turnTop 69 = .ok (.goto (-21), 3)) ∧ (decode cX8_turnTop 72 = .ok (.iconst 0, 1)) ∧ (decode cX8_turnTop 73 = .ok (.istore 4, 2)) ∧ (decode cX8_turnTop 75 = .ok (.iload 4, 2)) ∧ (decode cX8_turnTop 77 = .ok (.iload_n 1, 1)) ∧ (decode cX8_turnTop 78 = .ok (.if_icmp .ge 25, 3)) ∧ (decode cX8_turnTop 81 = .ok (.aload_n 0, 1)) ∧ (decode cX8_turnTop 82 = .ok (.getfield 15, 3)) ∧ (decode cX8_turnTop 85 = .ok (.iload 4, 2)) := by decide +kernel
theorem dX8_turnTop_52 : decode cX8_turnTop 52 = .ok (.if_icmp .ge 20, 3) := da9_dX8_turnTop_52.1
theorem dX8_turnTop_55 : decode cX8_turnTop 55 = .ok (.aload_n 0, 1) := da9_dX8_turnTop_52.2.1
theorem dX8_turnTop_56 : decode cX8_turnTop 56 = .ok (.iload 4, 2) := da9_dX8_turnTop_52.2.2.1
theorem dX8_turnTop_58 : decode cX8_turnTop 58 = .ok (.iload 5, 2) := da9_dX8_turnTop_52.2.2.2.1
theorem dX8_turnTop_60 : decode cX8_turnTop 60 = .ok (.invokevirtual 72, 3) := da9_dX8_turnTop_52.2.2.2.2.1
theorem dX8_turnTop_63 : decode cX8_turnTop 63 = .ok (.iinc 4 1, 3) := da9_dX8_turnTop_52.2.2.2.2.2.1
theorem dX8_turnTop_66 : decode cX8_turnTop 66 = .ok (.iinc 5 (-1), 3) := da9_dX8_turnTop_52.2.2.2.2.2.2.1
theorem dX8_turnTop_69 : decode cX8_turnTop 69 = .ok (.goto (-21), 3) := da9_dX8_turnTop_52.2.2.2.2.2.2.2.1
theorem dX8_turnTop_72 : decode cX8_turnTop 72 = .ok (.iconst 0, 1) := da9_dX8_turnTop_52.2.2.2.2.2.2.2.2.1
theorem dX8_turnTop_73 : decode cX8_turnTop 73 = .ok (.istore 4, 2) := da9_dX8_turnTop_52.2.2.2.2.2.2.2.2.2.1
theorem dX8_turnTop_75 : decode cX8_turnTop 75 = .ok (.iload 4, 2) := da9_dX8_turnTop_52.2.2.2.2.2.2.2.2.2.2.1
theorem dX8_turnTop_77 : decode cX8_turnTop 77 = .ok (.iload_n 1, 1) := da9_dX8_turnTop_52.2.2.2.2.2.2.2.2.2.2.2.1
theorem dX8_turnTop_78 : decode cX8_turnTop 78 = .ok (.if_icmp .ge 25, 3) := da9_dX8_turnTop_52.2.2.2.2.2.2.2.2.2.2.2.2.1
theorem dX8_turnTop_81 : decode cX8_turnTop 81 = .ok (.aload_n 0, 1) := da9_dX8_turnTop_52.2.2.2.2.2.2.2.2.2.2.2.2.2.1
theorem dX8_turnTop_82 : decode cX8_turnTop 82 = .ok (.getfield 15, 3) := da9_dX8_turnTop_52.2.2.2.2.2.2.2.2.2.2.2.2.2.2.1
theorem dX8_turnTop_85 : decode cX8_turnTop 85 = .ok (.iload 4, 2) := da9_dX8_turnTop_52.2.2.2.2.2.2.2.2.2.2.2.2.2.2.2
theorem da9_dX8_turnTop_87 : (decode cX8_turnTop 87 = .ok (.iconst 1, 1)) ∧ (decode cX8_turnTop 88 = .ok (.aload_n 0, 1)) ∧ (decode cX8_turnTop 89 = .ok (.getfield 15, 3)) ∧ (decode cX8_turnTop 92 = .ok (.iload 4, 2)) ∧ (decode cX8_turnTop 94 = .ok (.iaload, 1)) ∧ (decode cX8_turnTop 95 = .ok (.isub, 1)) ∧ (decode cX8_turnTop 96 = .ok (.iastore, 1)) ∧ (decode cX8_turnTop 97 = .ok (.iinc 4 1, 3)) ∧ (decode cX8_turnTop 100 = .ok (.goto (-25), 3)) ∧ (decode cX8_turnTop 103 = .ok (.aload_n 0, 1)) ∧ (decode cX8_turnTop 104 = .ok (.sipush 9999, 3)) ∧ (decode cX8_turnTop 107 = .ok (.aload_n 0, 1)) ∧ (decode cX8_turnTop 108 = .ok (.getfield 22, 3)) ∧ (decode cX8_turnTop 111 = .ok (.iload_n 3, 1)) ∧ (decode cX8_turnTop 112 = .ok (.iadd, 1)) ∧ (decode cX8_turnTop 113 = .ok (.invokestatic 41, 3)) := by decide +kernel
theorem dX8_turnTop_87 : decode cX8_turnTop 87 = .ok (.iconst 1, 1) := da9_dX8_turnTop_87.1
theorem dX8_turnTop_88 : decode cX8_turnTop 88 = .ok (.aload_n 0, 1) := da9_dX8_turnTop_87.2.1
theorem dX8_turnTop_89 : decode cX8_turnTop 89 = .ok (.getfield 15, 3) := da9_dX8_turnTop_87.2.2.1
theorem dX8_turnTop_92 : decode cX8_turnTop 92 = .ok (.iload 4, 2) := da9_dX8_turnTop_87.2.2.2.1
theorem dX8_turnTop_94 : decode cX8_turnTop 94 = .ok (.iaload, 1) := da9_dX8_turnTop_87.2.2.2.2.1
theorem dX8_turnTop_95 : decode cX8_turnTop 95 = .ok (.isub, 1) := da9_dX8_turnTop_87.2.2.2.2.2.1
theorem dX8_turnTop_96 : decode cX8_turnTop 96 = .ok (.iastore, 1) := da9_dX8_turnTop_87.2.2.2.2.2.2.1
theorem dX8_turnTop_97 : decode cX8_turnTop 97 = .ok (.iinc 4 1, 3) := da9_dX8_turnTop_87.2.2.2.2.2.2.2.1
theorem dX8_turnTop_100 : decode cX8_turnTop 100 = .ok (.goto (-25), 3) := da9_dX8_turnTop_87.2.2.2.2.2.2.2.2.1
theorem dX8_turnTop_103 : decode cX8_turnTop 103 = .ok (.aload_n 0, 1) := da9_dX8_turnTop_87.2.2.2.2.2.2.2.2.2.1
theorem dX8_turnTop_104 : decode cX8_turnTop 104 = .ok (.sipush 9999, 3) := da9_dX8_turnTop_87.2.2.2.2.2.2.2.2.2.2.1
theorem dX8_turnTop_107 : decode cX8_turnTop 107 = .ok (.aload_n 0, 1) := da9_dX8_turnTop_87.2.2.2.2.2.2.2.2.2.2.2.1
theorem dX8_turnTop_108 : decode cX8_turnTop 108 = .ok (.getfield 22, 3) := da9_dX8_turnTop_87.2.2.2.2.2.2.2.2.2.2.2.2.1
theorem dX8_turnTop_111 : decode cX8_turnTop 111 = .ok (.iload_n 3, 1) := da9_dX8_turnTop_87.2.2.2.2.2.2.2.2.2.2.2.2.2.1
theorem dX8_turnTop_112 : decode cX8_turnTop 112 = .ok (.iadd, 1) := da9_dX8_turnTop_87.2.2.2.2.2.2.2.2.2.2.2.2.2.2.1
theorem dX8_turnTop_113 : decode cX8_turnTop 113 = .ok (.invokestatic 41, 3) := da9_dX8_turnTop_87.2.2.2.2.2.2.2.2.2.2.2.2.2.2.2
theorem da9_dX8_turnTop_116 : (decode cX8_turnTop 116 = .ok (.putfield 22, 3)) ∧ (decode cX8_turnTop 119 = .ok (.iload_n 3, 1)) ∧ (decode cX8_turnTop 120 = .ok (.ireturn, 1)) := by decide +kernel
theorem dX8_turnTop_116 : decode cX8_turnTop 116 = .ok (.putfield 22, 3) := da9_dX8_turnTop_116.1
theorem dX8_turnTop_119 : decode cX8_turnTop 119 = .ok (.iload_n 3, 1) := da9_dX8_turnTop_116.2.1
theorem dX8_turnTop_120 : decode cX8_turnTop 120 = .ok (.ireturn, 1) := da9_dX8_turnTop_116.2.2
set_option maxRecDepth 20000 in
theorem ggX8_rightAt_X8_isFloor : GoodIn wsX8_rightAt wsX8_isFloor := wd_c vW9_ok mvW9_40
set_option maxRecDepth 20000 in
theorem gX8_rightAt_X8_isFloor : GoodIn wsX8_rightAt (wsV RX8 28 RX8 yX8_isFloor wsX8_isFloor) := goodIn_app (wd_l vW9_ok _ pvW9_77) ggX8_rightAt_X8_isFloor
theorem da9_dX8_rightAt_0 : (decode cX8_rightAt 0 = .ok (.iload_n 1, 1)) ∧ (decode cX8_rightAt 1 = .ok (.ifCond .lt 9, 3)) ∧ (decode cX8_rightAt 4 = .ok (.iload_n 1, 1)) ∧ (decode cX8_rightAt 5 = .ok (.bipush 6, 2)) ∧ (decode cX8_rightAt 7 = .ok (.if_icmp .lt 5, 3)) ∧ (decode cX8_rightAt 10 = .ok (.iconst (-1), 1)) ∧ (decode cX8_rightAt 11 = .ok (.ireturn, 1)) ∧ (decode cX8_rightAt 12 = .ok (.aload_n 0, 1)) ∧ (decode cX8_rightAt 13 = .ok (.iload_n 1, 1)) ∧ (decode cX8_rightAt 14 = .ok (.invokevirtual 28, 3)) ∧ (decode cX8_rightAt 17 = .ok (.ifCond .ne 6, 3)) ∧ (decode cX8_rightAt 20 = .ok (.bipush (-3), 2)) ∧ (decode cX8_rightAt 22 = .ok (.ireturn, 1)) ∧ (decode cX8_rightAt 23 = .ok (.aload_n 0, 1)) ∧ (decode cX8_rightAt 24 = .ok (.getfield 15, 3)) ∧ (decode cX8_rightAt 27 = .ok (.iload_n 1, 1)) := by decide +kernel
theorem dX8_rightAt_0 : decode cX8_rightAt 0 = .ok (.iload_n 1, 1) := da9_dX8_rightAt_0.1
theorem dX8_rightAt_1 : decode cX8_rightAt 1 = .ok (.ifCond .lt 9, 3) := da9_dX8_rightAt_0.2.1
theorem dX8_rightAt_4 : decode cX8_rightAt 4 = .ok (.iload_n 1, 1) := da9_dX8_rightAt_0.2.2.1
theorem dX8_rightAt_5 : decode cX8_rightAt 5 = .ok (.bipush 6, 2) := da9_dX8_rightAt_0.2.2.2.1
theorem dX8_rightAt_7 : decode cX8_rightAt 7 = .ok (.if_icmp .lt 5, 3) := da9_dX8_rightAt_0.2.2.2.2.1
theorem dX8_rightAt_10 : decode cX8_rightAt 10 = .ok (.iconst (-1), 1) := da9_dX8_rightAt_0.2.2.2.2.2.1
theorem dX8_rightAt_11 : decode cX8_rightAt 11 = .ok (.ireturn, 1) := da9_dX8_rightAt_0.2.2.2.2.2.2.1
theorem dX8_rightAt_12 : decode cX8_rightAt 12 = .ok (.aload_n 0, 1) := da9_dX8_rightAt_0.2.2.2.2.2.2.2.1
theorem dX8_rightAt_13 : decode cX8_rightAt 13 = .ok (.iload_n 1, 1) := da9_dX8_rightAt_0.2.2.2.2.2.2.2.2.1
theorem dX8_rightAt_14 : decode cX8_rightAt 14 = .ok (.invokevirtual 28, 3) := da9_dX8_rightAt_0.2.2.2.2.2.2.2.2.2.1
theorem dX8_rightAt_17 : decode cX8_rightAt 17 = .ok (.ifCond .ne 6, 3) := da9_dX8_rightAt_0.2.2.2.2.2.2.2.2.2.2.1
theorem dX8_rightAt_20 : decode cX8_rightAt 20 = .ok (.bipush (-3), 2) := da9_dX8_rightAt_0.2.2.2.2.2.2.2.2.2.2.2.1
theorem dX8_rightAt_22 : decode cX8_rightAt 22 = .ok (.ireturn, 1) := da9_dX8_rightAt_0.2.2.2.2.2.2.2.2.2.2.2.2.1
theorem dX8_rightAt_23 : decode cX8_rightAt 23 = .ok (.aload_n 0, 1) := da9_dX8_rightAt_0.2.2.2.2.2.2.2.2.2.2.2.2.2.1
theorem dX8_rightAt_24 : decode cX8_rightAt 24 = .ok (.getfield 15, 3) := da9_dX8_rightAt_0.2.2.2.2.2.2.2.2.2.2.2.2.2.2.1
theorem dX8_rightAt_27 : decode cX8_rightAt 27 = .ok (.iload_n 1, 1) := da9_dX8_rightAt_0.2.2.2.2.2.2.2.2.2.2.2.2.2.2.2
theorem da9_dX8_rightAt_28 : (decode cX8_rightAt 28 = .ok (.iconst 1, 1)) ∧ (decode cX8_rightAt 29 = .ok (.aload_n 0, 1)) ∧ (decode cX8_rightAt 30 = .ok (.getfield 15, 3)) ∧ (decode cX8_rightAt 33 = .ok (.iload_n 1, 1)) ∧ (decode cX8_rightAt 34 = .ok (.iaload, 1)) ∧ (decode cX8_rightAt 35 = .ok (.isub, 1)) ∧ (decode cX8_rightAt 36 = .ok (.iastore, 1)) ∧ (decode cX8_rightAt 37 = .ok (.aload_n 0, 1)) ∧ (decode cX8_rightAt 38 = .ok (.getfield 15, 3)) ∧ (decode cX8_rightAt 41 = .ok (.iload_n 1, 1)) ∧ (decode cX8_rightAt 42 = .ok (.iaload, 1)) ∧ (decode cX8_rightAt 43 = .ok (.ireturn, 1)) := by decide +kernel
theorem dX8_rightAt_28 : decode cX8_rightAt 28 = .ok (.iconst 1, 1) := da9_dX8_rightAt_28.1
theorem dX8_rightAt_29 : decode cX8_rightAt 29 = .ok (.aload_n 0, 1) := da9_dX8_rightAt_28.2.1
theorem dX8_rightAt_30 : decode cX8_rightAt 30 = .ok (.getfield 15, 3) := da9_dX8_rightAt_28.2.2.1
theorem dX8_rightAt_33 : decode cX8_rightAt 33 = .ok (.iload_n 1, 1) := da9_dX8_rightAt_28.2.2.2.1
theorem dX8_rightAt_34 : decode cX8_rightAt 34 = .ok (.iaload, 1) := da9_dX8_rightAt_28.2.2.2.2.1
theorem dX8_rightAt_35 : decode cX8_rightAt 35 = .ok (.isub, 1) := da9_dX8_rightAt_28.2.2.2.2.2.1
theorem dX8_rightAt_36 : decode cX8_rightAt 36 = .ok (.iastore, 1) := da9_dX8_rightAt_28.2.2.2.2.2.2.1
theorem dX8_rightAt_37 : decode cX8_rightAt 37 = .ok (.aload_n 0, 1) := da9_dX8_rightAt_28.2.2.2.2.2.2.2.1
theorem dX8_rightAt_38 : decode cX8_rightAt 38 = .ok (.getfield 15, 3) := da9_dX8_rightAt_28.2.2.2.2.2.2.2.2.1
theorem dX8_rightAt_41 : decode cX8_rightAt 41 = .ok (.iload_n 1, 1) := da9_dX8_rightAt_28.2.2.2.2.2.2.2.2.2.1
theorem dX8_rightAt_42 : decode cX8_rightAt 42 = .ok (.iaload, 1) := da9_dX8_rightAt_28.2.2.2.2.2.2.2.2.2.2.1
theorem dX8_rightAt_43 : decode cX8_rightAt 43 = .ok (.ireturn, 1) := da9_dX8_rightAt_28.2.2.2.2.2.2.2.2.2.2.2
set_option maxRecDepth 20000 in
theorem ggX8_swapAt_X8_isFloor : GoodIn wsX8_swapAt wsX8_isFloor := wd_c vW9_ok mvW9_40
set_option maxRecDepth 20000 in
theorem gX8_swapAt_X8_isFloor : GoodIn wsX8_swapAt (wsV RX8 28 RX8 yX8_isFloor wsX8_isFloor) := goodIn_app (wd_l vW9_ok _ pvW9_77) ggX8_swapAt_X8_isFloor
set_option maxRecDepth 20000 in
theorem ggX8_swapAt_X8_exchange : GoodIn wsX8_swapAt wsX8_exchange := wd_c vW9_ok mvW9_408
set_option maxRecDepth 20000 in
theorem gX8_swapAt_X8_exchange : GoodIn wsX8_swapAt (wsV RX8 72 RX8 yX8_exchange wsX8_exchange) := goodIn_app (wd_l vW9_ok _ pvW9_84) ggX8_swapAt_X8_exchange
theorem da9_dX8_swapAt_0 : (decode cX8_swapAt 0 = .ok (.iload_n 1, 1)) ∧ (decode cX8_swapAt 1 = .ok (.ifCond .lt 8, 3)) ∧ (decode cX8_swapAt 4 = .ok (.iload_n 1, 1)) ∧ (decode cX8_swapAt 5 = .ok (.iconst 5, 1)) ∧ (decode cX8_swapAt 6 = .ok (.if_icmp .lt 5, 3)) ∧ (decode cX8_swapAt 9 = .ok (.iconst (-1), 1)) ∧ (decode cX8_swapAt 10 = .ok (.ireturn, 1)) ∧ (decode cX8_swapAt 11 = .ok (.aload_n 0, 1)) ∧ (decode cX8_swapAt 12 = .ok (.iload_n 1, 1)) ∧ (decode cX8_swapAt 13 = .ok (.iconst 1, 1)) ∧ (decode cX8_swapAt 14 = .ok (.iadd, 1)) ∧ (decode cX8_swapAt 15 = .ok (.invokevirtual 28, 3)) ∧ (decode cX8_swapAt 18 = .ok (.ifCond .ne 6, 3)) ∧ (decode cX8_swapAt 21 = .ok (.bipush (-3), 2)) ∧ (decode cX8_swapAt 23 = .ok (.ireturn, 1)) ∧ (decode cX8_swapAt 24 = .ok (.aload_n 0, 1)) := by decide +kernel
theorem dX8_swapAt_0 : decode cX8_swapAt 0 = .ok (.iload_n 1, 1) := da9_dX8_swapAt_0.1
theorem dX8_swapAt_1 : decode cX8_swapAt 1 = .ok (.ifCond .lt 8, 3) := da9_dX8_swapAt_0.2.1
theorem dX8_swapAt_4 : decode cX8_swapAt 4 = .ok (.iload_n 1, 1) := da9_dX8_swapAt_0.2.2.1
theorem dX8_swapAt_5 : decode cX8_swapAt 5 = .ok (.iconst 5, 1) := da9_dX8_swapAt_0.2.2.2.1
theorem dX8_swapAt_6 : decode cX8_swapAt 6 = .ok (.if_icmp .lt 5, 3) := da9_dX8_swapAt_0.2.2.2.2.1
theorem dX8_swapAt_9 : decode cX8_swapAt 9 = .ok (.iconst (-1), 1) := da9_dX8_swapAt_0.2.2.2.2.2.1
theorem dX8_swapAt_10 : decode cX8_swapAt 10 = .ok (.ireturn, 1) := da9_dX8_swapAt_0.2.2.2.2.2.2.1
theorem dX8_swapAt_11 : decode cX8_swapAt 11 = .ok (.aload_n 0, 1) := da9_dX8_swapAt_0.2.2.2.2.2.2.2.1
theorem dX8_swapAt_12 : decode cX8_swapAt 12 = .ok (.iload_n 1, 1) := da9_dX8_swapAt_0.2.2.2.2.2.2.2.2.1
theorem dX8_swapAt_13 : decode cX8_swapAt 13 = .ok (.iconst 1, 1) := da9_dX8_swapAt_0.2.2.2.2.2.2.2.2.2.1
theorem dX8_swapAt_14 : decode cX8_swapAt 14 = .ok (.iadd, 1) := da9_dX8_swapAt_0.2.2.2.2.2.2.2.2.2.2.1
theorem dX8_swapAt_15 : decode cX8_swapAt 15 = .ok (.invokevirtual 28, 3) := da9_dX8_swapAt_0.2.2.2.2.2.2.2.2.2.2.2.1
theorem dX8_swapAt_18 : decode cX8_swapAt 18 = .ok (.ifCond .ne 6, 3) := da9_dX8_swapAt_0.2.2.2.2.2.2.2.2.2.2.2.2.1
theorem dX8_swapAt_21 : decode cX8_swapAt 21 = .ok (.bipush (-3), 2) := da9_dX8_swapAt_0.2.2.2.2.2.2.2.2.2.2.2.2.2.1
theorem dX8_swapAt_23 : decode cX8_swapAt 23 = .ok (.ireturn, 1) := da9_dX8_swapAt_0.2.2.2.2.2.2.2.2.2.2.2.2.2.2.1
theorem dX8_swapAt_24 : decode cX8_swapAt 24 = .ok (.aload_n 0, 1) := da9_dX8_swapAt_0.2.2.2.2.2.2.2.2.2.2.2.2.2.2.2
theorem da9_dX8_swapAt_25 : (decode cX8_swapAt 25 = .ok (.iload_n 1, 1)) ∧ (decode cX8_swapAt 26 = .ok (.iload_n 1, 1)) ∧ (decode cX8_swapAt 27 = .ok (.iconst 1, 1)) ∧ (decode cX8_swapAt 28 = .ok (.iadd, 1)) ∧ (decode cX8_swapAt 29 = .ok (.invokevirtual 72, 3)) ∧ (decode cX8_swapAt 32 = .ok (.aload_n 0, 1)) ∧ (decode cX8_swapAt 33 = .ok (.getfield 9, 3)) ∧ (decode cX8_swapAt 36 = .ok (.iload_n 1, 1)) ∧ (decode cX8_swapAt 37 = .ok (.iaload, 1)) ∧ (decode cX8_swapAt 38 = .ok (.ireturn, 1)) := by decide +kernel
theorem dX8_swapAt_25 : decode cX8_swapAt 25 = .ok (.iload_n 1, 1) := da9_dX8_swapAt_25.1
theorem dX8_swapAt_26 : decode cX8_swapAt 26 = .ok (.iload_n 1, 1) := da9_dX8_swapAt_25.2.1
theorem dX8_swapAt_27 : decode cX8_swapAt 27 = .ok (.iconst 1, 1) := da9_dX8_swapAt_25.2.2.1
theorem dX8_swapAt_28 : decode cX8_swapAt 28 = .ok (.iadd, 1) := da9_dX8_swapAt_25.2.2.2.1
theorem dX8_swapAt_29 : decode cX8_swapAt 29 = .ok (.invokevirtual 72, 3) := da9_dX8_swapAt_25.2.2.2.2.1
theorem dX8_swapAt_32 : decode cX8_swapAt 32 = .ok (.aload_n 0, 1) := da9_dX8_swapAt_25.2.2.2.2.2.1
theorem dX8_swapAt_33 : decode cX8_swapAt 33 = .ok (.getfield 9, 3) := da9_dX8_swapAt_25.2.2.2.2.2.2.1
theorem dX8_swapAt_36 : decode cX8_swapAt 36 = .ok (.iload_n 1, 1) := da9_dX8_swapAt_25.2.2.2.2.2.2.2.1
theorem dX8_swapAt_37 : decode cX8_swapAt 37 = .ok (.iaload, 1) := da9_dX8_swapAt_25.2.2.2.2.2.2.2.2.1
theorem dX8_swapAt_38 : decode cX8_swapAt 38 = .ok (.ireturn, 1) := da9_dX8_swapAt_25.2.2.2.2.2.2.2.2.2
set_option maxRecDepth 20000 in
theorem ggX8_passYear_X1_tips : GoodIn wsX8_passYear wsX1_tips := wd_c vW9_ok mvW9_67
set_option maxRecDepth 20000 in
theorem gX8_passYear_X1_tips : GoodIn wsX8_passYear (wsV RX8 76 RX1 yX1_tips wsX1_tips) := goodIn_app (wd_l vW9_ok _ pvW9_85) ggX8_passYear_X1_tips
set_option maxRecDepth 20000 in
theorem ggX8_passYear_X9_bit : GoodIn wsX8_passYear wsX9_bit := wd_c vW9_ok mvW9_97
set_option maxRecDepth 20000 in
theorem gX8_passYear_X9_bit_n79 : GoodIn wsX8_passYear (wsX9_bit) := ggX8_passYear_X9_bit
set_option maxRecDepth 20000 in
theorem ggX8_passYear_J6_bitCount_0f7a4 : GoodIn wsX8_passYear wsJ6_bitCount_0f7a4 := wd_l vW9_ok _ (List.forall_mem_cons.mpr ⟨mvW9_425, (List.forall_mem_cons.mpr ⟨mvW9_426, (List.forall_mem_cons.mpr ⟨mvW9_427, (List.forall_mem_cons.mpr ⟨mvW9_428, (fun _ h => absurd h List.not_mem_nil)⟩)⟩)⟩)⟩)
set_option maxRecDepth 20000 in
theorem gX8_passYear_J6_bitCount_0f7a4 : GoodIn wsX8_passYear (va_wsS RX8 83 yJ6_bitCount_0f7a4 wsJ6_bitCount_0f7a4) := goodIn_app (wd_l vW9_ok _ pvW9_86) ggX8_passYear_J6_bitCount_0f7a4
theorem da9_dX8_passYear_0 : (decode cX8_passYear 0 = .ok (.aload_n 0, 1)) ∧ (decode cX8_passYear 1 = .ok (.getfield 25, 3)) ∧ (decode cX8_passYear 4 = .ok (.sipush 999, 3)) ∧ (decode cX8_passYear 7 = .ok (.if_icmp .lt 6, 3)) ∧ (decode cX8_passYear 10 = .ok (.bipush (-3), 2)) ∧ (decode cX8_passYear 12 = .ok (.ireturn, 1)) ∧ (decode cX8_passYear 13 = .ok (.iconst 0, 1)) ∧ (decode cX8_passYear 14 = .ok (.istore_n 2, 1)) ∧ (decode cX8_passYear 15 = .ok (.iconst 0, 1)) ∧ (decode cX8_passYear 16 = .ok (.istore_n 3, 1)) ∧ (decode cX8_passYear 17 = .ok (.iload_n 3, 1)) ∧ (decode cX8_passYear 18 = .ok (.aload_n 0, 1)) ∧ (decode cX8_passYear 19 = .ok (.getfield 18, 3)) ∧ (decode cX8_passYear 22 = .ok (.if_icmp .ge 23, 3)) ∧ (decode cX8_passYear 25 = .ok (.iload_n 2, 1)) ∧ (decode cX8_passYear 26 = .ok (.aload_n 1, 1)) := by decide +kernel
theorem dX8_passYear_0 : decode cX8_passYear 0 = .ok (.aload_n 0, 1) := da9_dX8_passYear_0.1
theorem dX8_passYear_1 : decode cX8_passYear 1 = .ok (.getfield 25, 3) := da9_dX8_passYear_0.2.1
theorem dX8_passYear_4 : decode cX8_passYear 4 = .ok (.sipush 999, 3) := da9_dX8_passYear_0.2.2.1
theorem dX8_passYear_7 : decode cX8_passYear 7 = .ok (.if_icmp .lt 6, 3) := da9_dX8_passYear_0.2.2.2.1
theorem dX8_passYear_10 : decode cX8_passYear 10 = .ok (.bipush (-3), 2) := da9_dX8_passYear_0.2.2.2.2.1
theorem dX8_passYear_12 : decode cX8_passYear 12 = .ok (.ireturn, 1) := da9_dX8_passYear_0.2.2.2.2.2.1
theorem dX8_passYear_13 : decode cX8_passYear 13 = .ok (.iconst 0, 1) := da9_dX8_passYear_0.2.2.2.2.2.2.1
theorem dX8_passYear_14 : decode cX8_passYear 14 = .ok (.istore_n 2, 1) := da9_dX8_passYear_0.2.2.2.2.2.2.2.1
theorem dX8_passYear_15 : decode cX8_passYear 15 = .ok (.iconst 0, 1) := da9_dX8_passYear_0.2.2.2.2.2.2.2.2.1
theorem dX8_passYear_16 : decode cX8_passYear 16 = .ok (.istore_n 3, 1) := da9_dX8_passYear_0.2.2.2.2.2.2.2.2.2.1
theorem dX8_passYear_17 : decode cX8_passYear 17 = .ok (.iload_n 3, 1) := da9_dX8_passYear_0.2.2.2.2.2.2.2.2.2.2.1
theorem dX8_passYear_18 : decode cX8_passYear 18 = .ok (.aload_n 0, 1) := da9_dX8_passYear_0.2.2.2.2.2.2.2.2.2.2.2.1
theorem dX8_passYear_19 : decode cX8_passYear 19 = .ok (.getfield 18, 3) := da9_dX8_passYear_0.2.2.2.2.2.2.2.2.2.2.2.2.1
theorem dX8_passYear_22 : decode cX8_passYear 22 = .ok (.if_icmp .ge 23, 3) := da9_dX8_passYear_0.2.2.2.2.2.2.2.2.2.2.2.2.2.1
theorem dX8_passYear_25 : decode cX8_passYear 25 = .ok (.iload_n 2, 1) := da9_dX8_passYear_0.2.2.2.2.2.2.2.2.2.2.2.2.2.2.1
theorem dX8_passYear_26 : decode cX8_passYear 26 = .ok (.aload_n 1, 1) := da9_dX8_passYear_0.2.2.2.2.2.2.2.2.2.2.2.2.2.2.2
theorem da9_dX8_passYear_27 : (decode cX8_passYear 27 = .ok (.aload_n 0, 1)) ∧ (decode cX8_passYear 28 = .ok (.iload_n 3, 1)) ∧ (decode cX8_passYear 29 = .ok (.invokevirtual 76, 3)) ∧ (decode cX8_passYear 32 = .ok (.invokestatic 79, 3)) ∧ (decode cX8_passYear 35 = .ok (.iload_n 3, 1)) ∧ (decode cX8_passYear 36 = .ok (.ishl, 1)) ∧ (decode cX8_passYear 37 = .ok (.ior, 1)) ∧ (decode cX8_passYear 38 = .ok (.istore_n 2, 1)) ∧ (decode cX8_passYear 39 = .ok (.iinc 3 1, 3)) ∧ (decode cX8_passYear 42 = .ok (.goto (-25), 3)) ∧ (decode cX8_passYear 45 = .ok (.iconst 0, 1)) ∧ (decode cX8_passYear 46 = .ok (.istore_n 3, 1)) ∧ (decode cX8_passYear 47 = .ok (.iload_n 3, 1)) ∧ (decode cX8_passYear 48 = .ok (.aload_n 0, 1)) ∧ (decode cX8_passYear 49 = .ok (.getfield 18, 3)) ∧ (decode cX8_passYear 52 = .ok (.if_icmp .ge 23, 3)) := by decide +kernel
theorem dX8_passYear_27 : decode cX8_passYear 27 = .ok (.aload_n 0, 1) := da9_dX8_passYear_27.1
theorem dX8_passYear_28 : decode cX8_passYear 28 = .ok (.iload_n 3, 1) := da9_dX8_passYear_27.2.1
theorem dX8_passYear_29 : decode cX8_passYear 29 = .ok (.invokevirtual 76, 3) := da9_dX8_passYear_27.2.2.1
theorem dX8_passYear_32 : decode cX8_passYear 32 = .ok (.invokestatic 79, 3) := da9_dX8_passYear_27.2.2.2.1
theorem dX8_passYear_35 : decode cX8_passYear 35 = .ok (.iload_n 3, 1) := da9_dX8_passYear_27.2.2.2.2.1
theorem dX8_passYear_36 : decode cX8_passYear 36 = .ok (.ishl, 1) := da9_dX8_passYear_27.2.2.2.2.2.1
theorem dX8_passYear_37 : decode cX8_passYear 37 = .ok (.ior, 1) := da9_dX8_passYear_27.2.2.2.2.2.2.1
theorem dX8_passYear_38 : decode cX8_passYear 38 = .ok (.istore_n 2, 1) := da9_dX8_passYear_27.2.2.2.2.2.2.2.1
theorem dX8_passYear_39 : decode cX8_passYear 39 = .ok (.iinc 3 1, 3) := da9_dX8_passYear_27.2.2.2.2.2.2.2.2.1
theorem dX8_passYear_42 : decode cX8_passYear 42 = .ok (.goto (-25), 3) := da9_dX8_passYear_27.2.2.2.2.2.2.2.2.2.1
theorem dX8_passYear_45 : decode cX8_passYear 45 = .ok (.iconst 0, 1) := da9_dX8_passYear_27.2.2.2.2.2.2.2.2.2.2.1
theorem dX8_passYear_46 : decode cX8_passYear 46 = .ok (.istore_n 3, 1) := da9_dX8_passYear_27.2.2.2.2.2.2.2.2.2.2.2.1
theorem dX8_passYear_47 : decode cX8_passYear 47 = .ok (.iload_n 3, 1) := da9_dX8_passYear_27.2.2.2.2.2.2.2.2.2.2.2.2.1
theorem dX8_passYear_48 : decode cX8_passYear 48 = .ok (.aload_n 0, 1) := da9_dX8_passYear_27.2.2.2.2.2.2.2.2.2.2.2.2.2.1
theorem dX8_passYear_49 : decode cX8_passYear 49 = .ok (.getfield 18, 3) := da9_dX8_passYear_27.2.2.2.2.2.2.2.2.2.2.2.2.2.2.1
theorem dX8_passYear_52 : decode cX8_passYear 52 = .ok (.if_icmp .ge 23, 3) := da9_dX8_passYear_27.2.2.2.2.2.2.2.2.2.2.2.2.2.2.2
theorem da9_dX8_passYear_55 : (decode cX8_passYear 55 = .ok (.aload_n 0, 1)) ∧ (decode cX8_passYear 56 = .ok (.getfield 15, 3)) ∧ (decode cX8_passYear 59 = .ok (.iload_n 3, 1)) ∧ (decode cX8_passYear 60 = .ok (.dup2, 1)) ∧ (decode cX8_passYear 61 = .ok (.iaload, 1)) ∧ (decode cX8_passYear 62 = .ok (.iload_n 2, 1)) ∧ (decode cX8_passYear 63 = .ok (.iload_n 3, 1)) ∧ (decode cX8_passYear 64 = .ok (.ishr, 1)) ∧ (decode cX8_passYear 65 = .ok (.iconst 1, 1)) ∧ (decode cX8_passYear 66 = .ok (.iand, 1)) ∧ (decode cX8_passYear 67 = .ok (.ixor, 1)) ∧ (decode cX8_passYear 68 = .ok (.iastore, 1)) ∧ (decode cX8_passYear 69 = .ok (.iinc 3 1, 3)) ∧ (decode cX8_passYear 72 = .ok (.goto (-25), 3)) ∧ (decode cX8_passYear 75 = .ok (.aload_n 0, 1)) ∧ (decode cX8_passYear 76 = .ok (.dup, 1)) := by decide +kernel
theorem dX8_passYear_55 : decode cX8_passYear 55 = .ok (.aload_n 0, 1) := da9_dX8_passYear_55.1
theorem dX8_passYear_56 : decode cX8_passYear 56 = .ok (.getfield 15, 3) := da9_dX8_passYear_55.2.1
theorem dX8_passYear_59 : decode cX8_passYear 59 = .ok (.iload_n 3, 1) := da9_dX8_passYear_55.2.2.1
theorem dX8_passYear_60 : decode cX8_passYear 60 = .ok (.dup2, 1) := da9_dX8_passYear_55.2.2.2.1
theorem dX8_passYear_61 : decode cX8_passYear 61 = .ok (.iaload, 1) := da9_dX8_passYear_55.2.2.2.2.1
theorem dX8_passYear_62 : decode cX8_passYear 62 = .ok (.iload_n 2, 1) := da9_dX8_passYear_55.2.2.2.2.2.1
theorem dX8_passYear_63 : decode cX8_passYear 63 = .ok (.iload_n 3, 1) := da9_dX8_passYear_55.2.2.2.2.2.2.1
theorem dX8_passYear_64 : decode cX8_passYear 64 = .ok (.ishr, 1) := da9_dX8_passYear_55.2.2.2.2.2.2.2.1
theorem dX8_passYear_65 : decode cX8_passYear 65 = .ok (.iconst 1, 1) := da9_dX8_passYear_55.2.2.2.2.2.2.2.2.1
theorem dX8_passYear_66 : decode cX8_passYear 66 = .ok (.iand, 1) := da9_dX8_passYear_55.2.2.2.2.2.2.2.2.2.1
theorem dX8_passYear_67 : decode cX8_passYear 67 = .ok (.ixor, 1) := da9_dX8_passYear_55.2.2.2.2.2.2.2.2.2.2.1
theorem dX8_passYear_68 : decode cX8_passYear 68 = .ok (.iastore, 1) := da9_dX8_passYear_55.2.2.2.2.2.2.2.2.2.2.2.1
theorem dX8_passYear_69 : decode cX8_passYear 69 = .ok (.iinc 3 1, 3) := da9_dX8_passYear_55.2.2.2.2.2.2.2.2.2.2.2.2.1
theorem dX8_passYear_72 : decode cX8_passYear 72 = .ok (.goto (-25), 3) := da9_dX8_passYear_55.2.2.2.2.2.2.2.2.2.2.2.2.2.1
theorem dX8_passYear_75 : decode cX8_passYear 75 = .ok (.aload_n 0, 1) := da9_dX8_passYear_55.2.2.2.2.2.2.2.2.2.2.2.2.2.2.1
theorem dX8_passYear_76 : decode cX8_passYear 76 = .ok (.dup, 1) := da9_dX8_passYear_55.2.2.2.2.2.2.2.2.2.2.2.2.2.2.2
theorem da9_dX8_passYear_77 : (decode cX8_passYear 77 = .ok (.getfield 25, 3)) ∧ (decode cX8_passYear 80 = .ok (.iconst 1, 1)) ∧ (decode cX8_passYear 81 = .ok (.iadd, 1)) ∧ (decode cX8_passYear 82 = .ok (.putfield 25, 3)) ∧ (decode cX8_passYear 85 = .ok (.iload_n 2, 1)) ∧ (decode cX8_passYear 86 = .ok (.invokestatic 83, 3)) ∧ (decode cX8_passYear 89 = .ok (.ireturn, 1)) := by decide +kernel
theorem dX8_passYear_77 : decode cX8_passYear 77 = .ok (.getfield 25, 3) := da9_dX8_passYear_77.1
theorem dX8_passYear_80 : decode cX8_passYear 80 = .ok (.iconst 1, 1) := da9_dX8_passYear_77.2.1
theorem dX8_passYear_81 : decode cX8_passYear 81 = .ok (.iadd, 1) := da9_dX8_passYear_77.2.2.1
theorem dX8_passYear_82 : decode cX8_passYear 82 = .ok (.putfield 25, 3) := da9_dX8_passYear_77.2.2.2.1
theorem dX8_passYear_85 : decode cX8_passYear 85 = .ok (.iload_n 2, 1) := da9_dX8_passYear_77.2.2.2.2.1
theorem dX8_passYear_86 : decode cX8_passYear 86 = .ok (.invokestatic 83, 3) := da9_dX8_passYear_77.2.2.2.2.2.1
theorem dX8_passYear_89 : decode cX8_passYear 89 = .ok (.ireturn, 1) := da9_dX8_passYear_77.2.2.2.2.2.2
theorem da9_dJ6_bitCount_0f7a4_0 : (decode cJ6_bitCount_0f7a4 0 = .ok (.iload_n 0, 1)) ∧ (decode cJ6_bitCount_0f7a4 1 = .ok (.iload_n 0, 1)) ∧ (decode cJ6_bitCount_0f7a4 2 = .ok (.iconst 1, 1)) ∧ (decode cJ6_bitCount_0f7a4 3 = .ok (.iushr, 1)) ∧ (decode cJ6_bitCount_0f7a4 4 = .ok (.ldc_w 265, 3)) ∧ (decode cJ6_bitCount_0f7a4 7 = .ok (.iand, 1)) ∧ (decode cJ6_bitCount_0f7a4 8 = .ok (.isub, 1)) ∧ (decode cJ6_bitCount_0f7a4 9 = .ok (.istore_n 0, 1)) ∧ (decode cJ6_bitCount_0f7a4 10 = .ok (.iload_n 0, 1)) ∧ (decode cJ6_bitCount_0f7a4 11 = .ok (.ldc_w 266, 3)) ∧ (decode cJ6_bitCount_0f7a4 14 = .ok (.iand, 1)) ∧ (decode cJ6_bitCount_0f7a4 15 = .ok (.iload_n 0, 1)) ∧ (decode cJ6_bitCount_0f7a4 16 = .ok (.iconst 2, 1)) ∧ (decode cJ6_bitCount_0f7a4 17 = .ok (.iushr, 1)) ∧ (decode cJ6_bitCount_0f7a4 18 = .ok (.ldc_w 266, 3)) ∧ (decode cJ6_bitCount_0f7a4 21 = .ok (.iand, 1)) := by decide +kernel
theorem dJ6_bitCount_0f7a4_0 : decode cJ6_bitCount_0f7a4 0 = .ok (.iload_n 0, 1) := da9_dJ6_bitCount_0f7a4_0.1
theorem dJ6_bitCount_0f7a4_1 : decode cJ6_bitCount_0f7a4 1 = .ok (.iload_n 0, 1) := da9_dJ6_bitCount_0f7a4_0.2.1
theorem dJ6_bitCount_0f7a4_2 : decode cJ6_bitCount_0f7a4 2 = .ok (.iconst 1, 1) := da9_dJ6_bitCount_0f7a4_0.2.2.1
theorem dJ6_bitCount_0f7a4_3 : decode cJ6_bitCount_0f7a4 3 = .ok (.iushr, 1) := da9_dJ6_bitCount_0f7a4_0.2.2.2.1
theorem dJ6_bitCount_0f7a4_4 : decode cJ6_bitCount_0f7a4 4 = .ok (.ldc_w 265, 3) := da9_dJ6_bitCount_0f7a4_0.2.2.2.2.1
theorem dJ6_bitCount_0f7a4_7 : decode cJ6_bitCount_0f7a4 7 = .ok (.iand, 1) := da9_dJ6_bitCount_0f7a4_0.2.2.2.2.2.1
theorem dJ6_bitCount_0f7a4_8 : decode cJ6_bitCount_0f7a4 8 = .ok (.isub, 1) := da9_dJ6_bitCount_0f7a4_0.2.2.2.2.2.2.1
theorem dJ6_bitCount_0f7a4_9 : decode cJ6_bitCount_0f7a4 9 = .ok (.istore_n 0, 1) := da9_dJ6_bitCount_0f7a4_0.2.2.2.2.2.2.2.1
theorem dJ6_bitCount_0f7a4_10 : decode cJ6_bitCount_0f7a4 10 = .ok (.iload_n 0, 1) := da9_dJ6_bitCount_0f7a4_0.2.2.2.2.2.2.2.2.1
theorem dJ6_bitCount_0f7a4_11 : decode cJ6_bitCount_0f7a4 11 = .ok (.ldc_w 266, 3) := da9_dJ6_bitCount_0f7a4_0.2.2.2.2.2.2.2.2.2.1
theorem dJ6_bitCount_0f7a4_14 : decode cJ6_bitCount_0f7a4 14 = .ok (.iand, 1) := da9_dJ6_bitCount_0f7a4_0.2.2.2.2.2.2.2.2.2.2.1
theorem dJ6_bitCount_0f7a4_15 : decode cJ6_bitCount_0f7a4 15 = .ok (.iload_n 0, 1) := da9_dJ6_bitCount_0f7a4_0.2.2.2.2.2.2.2.2.2.2.2.1
theorem dJ6_bitCount_0f7a4_16 : decode cJ6_bitCount_0f7a4 16 = .ok (.iconst 2, 1) := da9_dJ6_bitCount_0f7a4_0.2.2.2.2.2.2.2.2.2.2.2.2.1
theorem dJ6_bitCount_0f7a4_17 : decode cJ6_bitCount_0f7a4 17 = .ok (.iushr, 1) := da9_dJ6_bitCount_0f7a4_0.2.2.2.2.2.2.2.2.2.2.2.2.2.1
theorem dJ6_bitCount_0f7a4_18 : decode cJ6_bitCount_0f7a4 18 = .ok (.ldc_w 266, 3) := da9_dJ6_bitCount_0f7a4_0.2.2.2.2.2.2.2.2.2.2.2.2.2.2.1
theorem dJ6_bitCount_0f7a4_21 : decode cJ6_bitCount_0f7a4 21 = .ok (.iand, 1) := da9_dJ6_bitCount_0f7a4_0.2.2.2.2.2.2.2.2.2.2.2.2.2.2.2
theorem da9_dJ6_bitCount_0f7a4_22 : (decode cJ6_bitCount_0f7a4 22 = .ok (.iadd, 1)) ∧ (decode cJ6_bitCount_0f7a4 23 = .ok (.istore_n 0, 1)) ∧ (decode cJ6_bitCount_0f7a4 24 = .ok (.iload_n 0, 1)) ∧ (decode cJ6_bitCount_0f7a4 25 = .ok (.iload_n 0, 1)) ∧ (decode cJ6_bitCount_0f7a4 26 = .ok (.iconst 4, 1)) ∧ (decode cJ6_bitCount_0f7a4 27 = .ok (.iushr, 1)) ∧ (decode cJ6_bitCount_0f7a4 28 = .ok (.iadd, 1)) ∧ (decode cJ6_bitCount_0f7a4 29 = .ok (.ldc_w 267, 3)) ∧ (decode cJ6_bitCount_0f7a4 32 = .ok (.iand, 1)) ∧ (decode cJ6_bitCount_0f7a4 33 = .ok (.istore_n 0, 1)) ∧ (decode cJ6_bitCount_0f7a4 34 = .ok (.iload_n 0, 1)) ∧ (decode cJ6_bitCount_0f7a4 35 = .ok (.iload_n 0, 1)) ∧ (decode cJ6_bitCount_0f7a4 36 = .ok (.bipush 8, 2)) ∧ (decode cJ6_bitCount_0f7a4 38 = .ok (.iushr, 1)) ∧ (decode cJ6_bitCount_0f7a4 39 = .ok (.iadd, 1)) ∧ (decode cJ6_bitCount_0f7a4 40 = .ok (.istore_n 0, 1)) := by decide +kernel
theorem dJ6_bitCount_0f7a4_22 : decode cJ6_bitCount_0f7a4 22 = .ok (.iadd, 1) := da9_dJ6_bitCount_0f7a4_22.1
theorem dJ6_bitCount_0f7a4_23 : decode cJ6_bitCount_0f7a4 23 = .ok (.istore_n 0, 1) := da9_dJ6_bitCount_0f7a4_22.2.1
theorem dJ6_bitCount_0f7a4_24 : decode cJ6_bitCount_0f7a4 24 = .ok (.iload_n 0, 1) := da9_dJ6_bitCount_0f7a4_22.2.2.1
theorem dJ6_bitCount_0f7a4_25 : decode cJ6_bitCount_0f7a4 25 = .ok (.iload_n 0, 1) := da9_dJ6_bitCount_0f7a4_22.2.2.2.1
theorem dJ6_bitCount_0f7a4_26 : decode cJ6_bitCount_0f7a4 26 = .ok (.iconst 4, 1) := da9_dJ6_bitCount_0f7a4_22.2.2.2.2.1
theorem dJ6_bitCount_0f7a4_27 : decode cJ6_bitCount_0f7a4 27 = .ok (.iushr, 1) := da9_dJ6_bitCount_0f7a4_22.2.2.2.2.2.1
theorem dJ6_bitCount_0f7a4_28 : decode cJ6_bitCount_0f7a4 28 = .ok (.iadd, 1) := da9_dJ6_bitCount_0f7a4_22.2.2.2.2.2.2.1
theorem dJ6_bitCount_0f7a4_29 : decode cJ6_bitCount_0f7a4 29 = .ok (.ldc_w 267, 3) := da9_dJ6_bitCount_0f7a4_22.2.2.2.2.2.2.2.1
theorem dJ6_bitCount_0f7a4_32 : decode cJ6_bitCount_0f7a4 32 = .ok (.iand, 1) := da9_dJ6_bitCount_0f7a4_22.2.2.2.2.2.2.2.2.1
theorem dJ6_bitCount_0f7a4_33 : decode cJ6_bitCount_0f7a4 33 = .ok (.istore_n 0, 1) := da9_dJ6_bitCount_0f7a4_22.2.2.2.2.2.2.2.2.2.1
theorem dJ6_bitCount_0f7a4_34 : decode cJ6_bitCount_0f7a4 34 = .ok (.iload_n 0, 1) := da9_dJ6_bitCount_0f7a4_22.2.2.2.2.2.2.2.2.2.2.1
theorem dJ6_bitCount_0f7a4_35 : decode cJ6_bitCount_0f7a4 35 = .ok (.iload_n 0, 1) := da9_dJ6_bitCount_0f7a4_22.2.2.2.2.2.2.2.2.2.2.2.1
theorem dJ6_bitCount_0f7a4_36 : decode cJ6_bitCount_0f7a4 36 = .ok (.bipush 8, 2) := da9_dJ6_bitCount_0f7a4_22.2.2.2.2.2.2.2.2.2.2.2.2.1
theorem dJ6_bitCount_0f7a4_38 : decode cJ6_bitCount_0f7a4 38 = .ok (.iushr, 1) := da9_dJ6_bitCount_0f7a4_22.2.2.2.2.2.2.2.2.2.2.2.2.2.1
theorem dJ6_bitCount_0f7a4_39 : decode cJ6_bitCount_0f7a4 39 = .ok (.iadd, 1) := da9_dJ6_bitCount_0f7a4_22.2.2.2.2.2.2.2.2.2.2.2.2.2.2.1
theorem dJ6_bitCount_0f7a4_40 : decode cJ6_bitCount_0f7a4 40 = .ok (.istore_n 0, 1) := da9_dJ6_bitCount_0f7a4_22.2.2.2.2.2.2.2.2.2.2.2.2.2.2.2
theorem da9_dJ6_bitCount_0f7a4_41 : (decode cJ6_bitCount_0f7a4 41 = .ok (.iload_n 0, 1)) ∧ (decode cJ6_bitCount_0f7a4 42 = .ok (.iload_n 0, 1)) ∧ (decode cJ6_bitCount_0f7a4 43 = .ok (.bipush 16, 2)) ∧ (decode cJ6_bitCount_0f7a4 45 = .ok (.iushr, 1)) ∧ (decode cJ6_bitCount_0f7a4 46 = .ok (.iadd, 1)) ∧ (decode cJ6_bitCount_0f7a4 47 = .ok (.istore_n 0, 1)) ∧ (decode cJ6_bitCount_0f7a4 48 = .ok (.iload_n 0, 1)) ∧ (decode cJ6_bitCount_0f7a4 49 = .ok (.bipush 63, 2)) ∧ (decode cJ6_bitCount_0f7a4 51 = .ok (.iand, 1)) ∧ (decode cJ6_bitCount_0f7a4 52 = .ok (.ireturn, 1)) := by decide +kernel
theorem dJ6_bitCount_0f7a4_41 : decode cJ6_bitCount_0f7a4 41 = .ok (.iload_n 0, 1) := da9_dJ6_bitCount_0f7a4_41.1
theorem dJ6_bitCount_0f7a4_42 : decode cJ6_bitCount_0f7a4 42 = .ok (.iload_n 0, 1) := da9_dJ6_bitCount_0f7a4_41.2.1
theorem dJ6_bitCount_0f7a4_43 : decode cJ6_bitCount_0f7a4 43 = .ok (.bipush 16, 2) := da9_dJ6_bitCount_0f7a4_41.2.2.1
theorem dJ6_bitCount_0f7a4_45 : decode cJ6_bitCount_0f7a4 45 = .ok (.iushr, 1) := da9_dJ6_bitCount_0f7a4_41.2.2.2.1
theorem dJ6_bitCount_0f7a4_46 : decode cJ6_bitCount_0f7a4 46 = .ok (.iadd, 1) := da9_dJ6_bitCount_0f7a4_41.2.2.2.2.1
theorem dJ6_bitCount_0f7a4_47 : decode cJ6_bitCount_0f7a4 47 = .ok (.istore_n 0, 1) := da9_dJ6_bitCount_0f7a4_41.2.2.2.2.2.1
theorem dJ6_bitCount_0f7a4_48 : decode cJ6_bitCount_0f7a4 48 = .ok (.iload_n 0, 1) := da9_dJ6_bitCount_0f7a4_41.2.2.2.2.2.2.1
theorem dJ6_bitCount_0f7a4_49 : decode cJ6_bitCount_0f7a4 49 = .ok (.bipush 63, 2) := da9_dJ6_bitCount_0f7a4_41.2.2.2.2.2.2.2.1
theorem dJ6_bitCount_0f7a4_51 : decode cJ6_bitCount_0f7a4 51 = .ok (.iand, 1) := da9_dJ6_bitCount_0f7a4_41.2.2.2.2.2.2.2.2.1
theorem dJ6_bitCount_0f7a4_52 : decode cJ6_bitCount_0f7a4 52 = .ok (.ireturn, 1) := da9_dJ6_bitCount_0f7a4_41.2.2.2.2.2.2.2.2.2
end
