section
theorem u9_wsX8_turnTop_X8 : ∀ w ∈ u_ws RX8 TX8 5, w ∈ wsX8_turnTop := fun w h => List.mem_cons_of_mem _ (vW9_wsX80 w h)
theorem f9_wsX8_turnTop_628 : (Cond.fieldLink RX8 22 "TurnedFloors$Tower" "paid" "I") ∈ wsX8_turnTop := List.mem_cons_of_mem _ mvW9_367
theorem f9_wsX8_turnTop_629 : (Cond.methodLink RX8 41 Lib.Math.min.name) ∈ wsX8_turnTop := List.mem_cons_of_mem _ mvW9_387
theorem f9_wsX8_turnTop_630 : (Cond.static Lib.Math.min.name) ∈ wsX8_turnTop := List.mem_cons_of_mem _ mvW9_86
theorem f9_wsX8_turnTop_631 : (Cond.initialized "java/lang/Math") ∈ wsX8_turnTop := List.mem_cons_of_mem _ mvW9_87
theorem f9_wsX8_turnTop_632 : (Cond.code Lib.Math.min.name Lib.Math.min.code 2 (some .int)) ∈ wsX8_turnTop := List.mem_cons_of_mem _ mvW9_88
theorem f9_wsX8_turnTop_633 : (Cond.fieldLink RX8 15 "TurnedFloors$Tower" "head" "[I") ∈ wsX8_turnTop := List.mem_cons_of_mem _ mvW9_26
theorem f9_wsX8_turnTop_634 : (Cond.fieldLink RX8 18 "TurnedFloors$Tower" "floors" "I") ∈ wsX8_turnTop := List.mem_cons_of_mem _ mvW9_20
theorem u9_wsX8_rightAt_X8 : ∀ w ∈ u_ws RX8 TX8 5, w ∈ wsX8_rightAt := fun w h => List.mem_cons_of_mem _ (vW9_wsX80 w h)
theorem f9_wsX8_rightAt_636 : (Cond.fieldLink RX8 15 "TurnedFloors$Tower" "head" "[I") ∈ wsX8_rightAt := List.mem_cons_of_mem _ mvW9_26
theorem u9_wsX8_swapAt_X8 : ∀ w ∈ u_ws RX8 TX8 5, w ∈ wsX8_swapAt := fun w h => List.mem_cons_of_mem _ (vW9_wsX80 w h)
theorem f9_wsX8_swapAt_638 : (Cond.fieldLink RX8 9 "TurnedFloors$Tower" "rank" "[I") ∈ wsX8_swapAt := List.mem_cons_of_mem _ mvW9_21
theorem f9_wsJ6_bitCount_0f7a4_639 : (Cond.constant RJ6 265 1431655765) ∈ wsJ6_bitCount_0f7a4 := by decide +kernel
theorem f9_wsJ6_bitCount_0f7a4_640 : (Cond.constant RJ6 266 858993459) ∈ wsJ6_bitCount_0f7a4 := by decide +kernel
theorem f9_wsJ6_bitCount_0f7a4_641 : (Cond.constant RJ6 267 252645135) ∈ wsJ6_bitCount_0f7a4 := by decide +kernel
theorem u9_wsX8_passYear_X8 : ∀ w ∈ u_ws RX8 TX8 5, w ∈ wsX8_passYear := fun w h => List.mem_cons_of_mem _ (vW9_wsX80 w h)
theorem f9_wsX8_passYear_643 : (Cond.fieldLink RX8 18 "TurnedFloors$Tower" "floors" "I") ∈ wsX8_passYear := List.mem_cons_of_mem _ mvW9_20
theorem f9_wsX8_passYear_644 : (Cond.fieldLink RX8 25 "TurnedFloors$Tower" "year" "I") ∈ wsX8_passYear := List.mem_cons_of_mem _ mvW9_368
theorem f9_wsX8_passYear_645 : (Cond.fieldLink RX8 15 "TurnedFloors$Tower" "head" "[I") ∈ wsX8_passYear := List.mem_cons_of_mem _ mvW9_26
theorem f9_wsX8_passYear_646 : (Cond.initialized RX9) ∈ wsX8_passYear := List.mem_cons_of_mem _ mvW9_4
theorem u9_wsX0_keep_X0 : ∀ w ∈ u_ws RX0 TX0 6, w ∈ wsX0_keep := fun w h => List.mem_cons_of_mem _ (vW9_wsX00 w h)
theorem f9_wsX0_keep_648 : (Cond.fieldLink RX0 9 "TurnedFloors$History" "towers" "[J") ∈ wsX0_keep := List.mem_cons_of_mem _ mvW9_373
theorem f9_wsX0_keep_649 : (Cond.fieldLink RX0 19 "TurnedFloors$History" "kept" "I") ∈ wsX0_keep := List.mem_cons_of_mem _ mvW9_32
theorem f9_wsX0_keep_650 : (Cond.fieldLink RX0 15 "TurnedFloors$History" "kinds" "[I") ∈ wsX0_keep := List.mem_cons_of_mem _ mvW9_376
theorem f9_wsX0_keep_651 : (Cond.methodLink RX0 32 arraycopyName) ∈ wsX0_keep := List.mem_cons_of_mem _ mvW9_375
theorem f9_wsX0_keep_652 : (Cond.native arraycopyName) ∈ wsX0_keep := List.mem_cons_of_mem _ mvW9_342
theorem f9_wsX0_keep_653 : (Cond.static arraycopyName) ∈ wsX0_keep := List.mem_cons_of_mem _ mvW9_343
theorem f9_wsX0_keep_654 : (Cond.initialized "java/lang/System") ∈ wsX0_keep := List.mem_cons_of_mem _ mvW9_344
theorem u9_wsX8_unpack_X8 : ∀ w ∈ u_ws RX8 TX8 5, w ∈ wsX8_unpack := fun w h => List.mem_cons_of_mem _ (vW9_wsX80 w h)
theorem f9_wsX8_unpack_656 : (Cond.methodLink RX8 41 Lib.Math.min.name) ∈ wsX8_unpack := List.mem_cons_of_mem _ mvW9_387
theorem f9_wsX8_unpack_657 : (Cond.static Lib.Math.min.name) ∈ wsX8_unpack := List.mem_cons_of_mem _ mvW9_86
theorem f9_wsX8_unpack_658 : (Cond.initialized "java/lang/Math") ∈ wsX8_unpack := List.mem_cons_of_mem _ mvW9_87
theorem f9_wsX8_unpack_659 : (Cond.code Lib.Math.min.name Lib.Math.min.code 2 (some .int)) ∈ wsX8_unpack := List.mem_cons_of_mem _ mvW9_88
theorem f9_wsX8_unpack_660 : (Cond.fieldLink RX8 18 "TurnedFloors$Tower" "floors" "I") ∈ wsX8_unpack := List.mem_cons_of_mem _ mvW9_20
theorem f9_wsX8_unpack_661 : (Cond.fieldLink RX8 15 "TurnedFloors$Tower" "head" "[I") ∈ wsX8_unpack := List.mem_cons_of_mem _ mvW9_26
theorem f9_wsX8_unpack_662 : (Cond.fieldLink RX8 9 "TurnedFloors$Tower" "rank" "[I") ∈ wsX8_unpack := List.mem_cons_of_mem _ mvW9_21
theorem f9_wsX8_unpack_663 : (Cond.constantLong RX8 39 7) ∈ wsX8_unpack := List.mem_cons_of_mem _ mvW9_435
theorem f9_wsX8_unpack_664 : (Cond.constantLong RX8 35 1023) ∈ wsX8_unpack := List.mem_cons_of_mem _ mvW9_433
theorem f9_wsX8_unpack_665 : (Cond.fieldLink RX8 25 "TurnedFloors$Tower" "year" "I") ∈ wsX8_unpack := List.mem_cons_of_mem _ mvW9_368
theorem f9_wsX8_unpack_666 : (Cond.constantLong RX8 37 16383) ∈ wsX8_unpack := List.mem_cons_of_mem _ mvW9_434
theorem f9_wsX8_unpack_667 : (Cond.fieldLink RX8 22 "TurnedFloors$Tower" "paid" "I") ∈ wsX8_unpack := List.mem_cons_of_mem _ mvW9_367
set_option maxHeartbeats 4000000 in
set_option maxRecDepth 100000 in
theorem WX8_turnTop_s2_s20_75b {p : Program} {l : Launch} {e : Env} {s : State} {m : MethodId} {args : Array Value} {below : List Frame} {meth : Method} {c : Code} {D : va_G} {ty : Nat → ClassId} {eo : Nat → Nat} {A : Nat → Prop} {ad : Nat → Nat} {o1 : Int32} {o2 : dK} (C : dc_C p s m args meth c cX8_turnTop (some .int) 6 RX8 wsX8_turnTop D ty eo A) {k75 : dK → Int32 → Int32 → Int32 → Option (Int32 × dK)} (hk75 : ∀ (q : dK) (x1 : Int32) (x3 : Int32) (x4 : Int32) (H : Heap) (locs : List Loc) (ls : Array Slot), k75 q x1 x3 x4 = some (o1, o2) → va_P D vwCl (wF ty ad q) H → va_D A (wF ty ad q) → va_S A s.heap H locs → lv_has ls 6 [(0, .ref (ad 2)), (1, .int x1), (3, .int x3), (4, .int x4)] → W p l e ({ frames := 4, cells := 0, slots := 0, locals := 103 } : Room) s m args below meth c H locs 0 0 (MQ below (va_Qi (fun (r : Int32) (u : va_W) => o1 = r ∧ wF ty ad o2 = u) (kz_B D ty A) A) args s 0 0 A) (F0 m 75 ls [])) (q : dK) (x1 : Int32) (x3 : Int32) (x4 : Int32) (H : Heap) (locs : List Loc) (ls : Array Slot) (h : zX8_turnTop_s2_s20_75b k75 q x1 x3 x4 = some (o1, o2)) (hP : va_P D vwCl (wF ty ad q) H) (hD : va_D A (wF ty ad q)) (hS : va_S A s.heap H locs) (hl : lv_has ls 6 [(0, .ref (ad 2)), (1, .int x1), (3, .int x3), (4, .int x4)]) : W p l e ({ frames := 4, cells := 0, slots := 0, locals := 103 } : Room) s m args below meth c H locs 0 0 (MQ below (va_Qi (fun (r : Int32) (u : va_W) => o1 = r ∧ wF ty ad o2 = u) (kz_B D ty A) A) args s 0 0 A) (F0 m 75 ls []) := by
  have C0 := C
  obtain ⟨hx, hb, hr, hts, hown, hlocks, hml, hK, hN, hE, hA⟩ := C
  unfold zX8_turnTop_s2_s20_75b at h
  refine lv_iload hx hb dX8_turnTop_75 (lv_at hl 3 rfl) ?_
  refine lv_iload_n hx hb dX8_turnTop_77 rfl (lv_at hl 1 rfl) ?_
  refine lv_icmp_ge (tgt := 103) hx hb dX8_turnTop_78 (by decide) (fun c9 => ?_) (fun c9 => ?_)
  · rw [if_pos c9] at h
    refine lv_aload_n hx hb dX8_turnTop_103 rfl (lv_at hl 0 rfl) ?_
    refine lv_sipush (v := 9999) hx hb dX8_turnTop_104 (by decide) ?_
    refine lv_aload_n hx hb dX8_turnTop_107 rfl (lv_at hl 0 rfl) ?_
    refine va_get (D := D) (ci := 8) (v := .int (q.1 2 3)) (C := RX8) (T := TX8) (N := 5) hx hb hts u9_wsX8_turnTop_X8 hown hK hP 2 rfl rfl 3 (by decide) (hts (.fieldLink RX8 22 "TurnedFloors$Tower" "paid" "I") f9_wsX8_turnTop_628) (fun _ h9 => h9) rfl dX8_turnTop_108 ?_
    refine lv_iload_n hx hb dX8_turnTop_111 rfl (lv_at hl 2 rfl) ?_
    refine lv_iadd hx hb dX8_turnTop_112 ?_
    refine va_mmin hx hb (hml.trans hl.1.symm) hown (hts (.methodLink RX8 41 Lib.Math.min.name) f9_wsX8_turnTop_629) (hts (.static Lib.Math.min.name) f9_wsX8_turnTop_630) (hts (.initialized "java/lang/Math") f9_wsX8_turnTop_631) (hts (.code Lib.Math.min.name Lib.Math.min.code 2 (some .int)) f9_wsX8_turnTop_632) (Nat.le_of_ble_eq_true rfl) (Nat.le_of_ble_eq_true rfl) (Nat.le_of_ble_eq_true rfl) (Nat.le_of_ble_eq_true rfl) dX8_turnTop_113 ?_
    refine kz_topi (mnI 9999 ((q.1 2 3) + x3)) rfl ?_
    refine va_put (D := D) (ci := 8) (v := .int (mnI 9999 ((q.1 2 3) + x3))) (ty := .int) (C := RX8) (T := TX8) (N := 5) hx hb hts u9_wsX8_turnTop_X8 tyX8 tyX8_ok nmX8 hown hK hP hD hS 2 rfl rfl 3 (by decide) (hts (.fieldLink RX8 22 "TurnedFloors$Tower" "paid" "I") f9_wsX8_turnTop_628) (fun _ h9 => h9) rfl (by decide +kernel) rfl rfl (Nat.le_of_ble_eq_true rfl) dX8_turnTop_116 (fun H locs hp hd hs => ?_)
    obtain ⟨q1, eq1, h⟩ := dL_some h
    refine kz_re (w2 := wF ty ad q1) hp hd hs (by rw [← eq1]; exact wF_f2_3 ty ad q (mnI 9999 ((q.1 2 3) + x3))) ?_
    clear hp hd hs hP hD hS
    intro hP hD hS
    refine lv_iload_n hx hb dX8_turnTop_119 rfl (lv_at hl 2 rfl) ?_
    cases h
    exact kz_iret hx hb hr hlocks hP hK hD hS dX8_turnTop_120 ⟨rfl, rfl⟩
  · rw [if_neg c9] at h
    refine lv_aload_n hx hb dX8_turnTop_81 rfl (lv_at hl 0 rfl) ?_
    refine va_get (D := D) (ci := 8) (v := .ref (ad 4)) (C := RX8) (T := TX8) (N := 5) hx hb hts u9_wsX8_turnTop_X8 hown hK hP 2 rfl rfl 1 (by decide) (hts (.fieldLink RX8 15 "TurnedFloors$Tower" "head" "[I") f9_wsX8_turnTop_633) (fun _ h9 => h9) rfl dX8_turnTop_82 ?_
    refine lv_iload hx hb dX8_turnTop_85 (lv_at hl 3 rfl) ?_
    refine lv_iconst (v := 1) hx hb dX8_turnTop_87 (by decide) ?_
    refine lv_aload_n hx hb dX8_turnTop_88 rfl (lv_at hl 0 rfl) ?_
    refine va_get (D := D) (ci := 8) (v := .ref (ad 4)) (C := RX8) (T := TX8) (N := 5) hx hb hts u9_wsX8_turnTop_X8 hown hK hP 2 rfl rfl 1 (by decide) (hts (.fieldLink RX8 15 "TurnedFloors$Tower" "head" "[I") f9_wsX8_turnTop_633) (fun _ h9 => h9) rfl dX8_turnTop_89 ?_
    refine lv_iload hx hb dX8_turnTop_92 (lv_at hl 3 rfl) ?_
    obtain ⟨g2, h⟩ := dG_some h
    refine va_iald hx hb hK hP 4 0 rfl rfl (dg_in g2) dX8_turnTop_94 ?_
    obtain ⟨v3, ev3, h⟩ := dL_some h
    refine kz_topi v3 ev3 ?_
    refine lv_isub hx hb dX8_turnTop_95 ?_
    obtain ⟨g4, h⟩ := dG_some h
    refine va_iast hx hb hK hP hD hS 4 0 rfl rfl (dg_in g4) dX8_turnTop_96 (fun H locs hp hd hs => ?_)
    obtain ⟨q5, eq5, h⟩ := dL_some h
    refine kz_re (w2 := wF ty ad q5) hp hd hs (by rw [← eq5]; exact wF_a4 ty ad q (Int32.toNatClampNeg x4) (1 - v3 : Int32)) ?_
    clear hp hd hs hP hD hS
    intro hP hD hS
    refine lv_iinc (v := x4 + 1) (lv' := [(4, .int (x4 + 1)), (0, .ref (ad 2)), (1, .int x1), (3, .int x3)]) hx hb dX8_turnTop_97 hl (k := 3) rfl rfl (by decide) rfl (fun ls hl => ?_)
    refine lv_goto (tgt := 75) hx hb dX8_turnTop_100 (by decide) ?_
    exact hk75 _ _ _ _ _ _ _ h hP hD hS (lv_sub hl [1, 2, 3, 0] rfl)
set_option maxHeartbeats 4000000 in
set_option maxRecDepth 100000 in
theorem WX8_turnTop_s2_s20_75 {p : Program} {l : Launch} {e : Env} {s : State} {m : MethodId} {args : Array Value} {below : List Frame} {meth : Method} {c : Code} {D : va_G} {ty : Nat → ClassId} {eo : Nat → Nat} {A : Nat → Prop} {ad : Nat → Nat} {o1 : Int32} {o2 : dK} (C : dc_C p s m args meth c cX8_turnTop (some .int) 6 RX8 wsX8_turnTop D ty eo A)   (n : Nat) (q : dK) (x1 : Int32) (x3 : Int32) (x4 : Int32) (H : Heap) (locs : List Loc) (ls : Array Slot) (h : zX8_turnTop_s2_s20_75  n q x1 x3 x4 = some (o1, o2)) (hP : va_P D vwCl (wF ty ad q) H) (hD : va_D A (wF ty ad q)) (hS : va_S A s.heap H locs) (hl : lv_has ls 6 [(0, .ref (ad 2)), (1, .int x1), (3, .int x3), (4, .int x4)]) : W p l e ({ frames := 4, cells := 0, slots := 0, locals := 103 } : Room) s m args below meth c H locs 0 0 (MQ below (va_Qi (fun (r : Int32) (u : va_W) => o1 = r ∧ wF ty ad o2 = u) (kz_B D ty A) A) args s 0 0 A) (F0 m 75 ls []) := by
  exact dFix_W (F := fun k (a : dK × Int32 × Int32 × Int32) => zX8_turnTop_s2_s20_75b  (fun q x1 x3 x4 => k (q, x1, x3, x4)) a.1 a.2.1 a.2.2.1 a.2.2.2) (o := (o1, o2)) (P := fun (a : dK × Int32 × Int32 × Int32) H locs ls => va_P D vwCl (wF ty ad a.1) H ∧ va_D A (wF ty ad a.1) ∧ va_S A s.heap H locs ∧ lv_has ls 6 [(0, .ref (ad 2)), (1, .int a.2.1), (3, .int a.2.2.1), (4, .int a.2.2.2)]) (G := fun H locs ls => W p l e ({ frames := 4, cells := 0, slots := 0, locals := 103 } : Room) s m args below meth c H locs 0 0 (MQ below (va_Qi (fun (r : Int32) (u : va_W) => o1 = r ∧ wF ty ad o2 = u) (kz_B D ty A) A) args s 0 0 A) (F0 m 75 ls []))
    (fun k hk a H locs ls h hp => WX8_turnTop_s2_s20_75b C  (fun q x1 x3 x4 H locs ls h h1 h2 h3 h4 => hk (q, x1, x3, x4) H locs ls h ⟨h1, h2, h3, h4⟩) a.1 a.2.1 a.2.2.1 a.2.2.2 H locs ls h hp.1 hp.2.1 hp.2.2.1 hp.2.2.2) n (q, x1, x3, x4) H locs ls h ⟨hP, hD, hS, hl⟩
set_option maxHeartbeats 4000000 in
set_option maxRecDepth 100000 in
theorem WX8_turnTop_s2_s20_48b {p : Program} {l : Launch} {e : Env} {s : State} {m : MethodId} {args : Array Value} {below : List Frame} {meth : Method} {c : Code} {D : va_G} {ty : Nat → ClassId} {eo : Nat → Nat} {A : Nat → Prop} {ad : Nat → Nat} {o1 : Int32} {o2 : dK} (C : dc_C p s m args meth c cX8_turnTop (some .int) 6 RX8 wsX8_turnTop D ty eo A) {k48 : dK → Int32 → Int32 → Int32 → Int32 → Option (Int32 × dK)} (hk48 : ∀ (q : dK) (x1 : Int32) (x3 : Int32) (x4 : Int32) (x5 : Int32) (H : Heap) (locs : List Loc) (ls : Array Slot), k48 q x1 x3 x4 x5 = some (o1, o2) → va_P D vwCl (wF ty ad q) H → va_D A (wF ty ad q) → va_S A s.heap H locs → lv_has ls 6 [(0, .ref (ad 2)), (1, .int x1), (3, .int x3), (4, .int x4), (5, .int x5)] → W p l e ({ frames := 4, cells := 0, slots := 0, locals := 103 } : Room) s m args below meth c H locs 0 0 (MQ below (va_Qi (fun (r : Int32) (u : va_W) => o1 = r ∧ wF ty ad o2 = u) (kz_B D ty A) A) args s 0 0 A) (F0 m 48 ls [])) (q : dK) (x1 : Int32) (x3 : Int32) (x4 : Int32) (x5 : Int32) (H : Heap) (locs : List Loc) (ls : Array Slot) (h : zX8_turnTop_s2_s20_48b k48 q x1 x3 x4 x5 = some (o1, o2)) (hP : va_P D vwCl (wF ty ad q) H) (hD : va_D A (wF ty ad q)) (hS : va_S A s.heap H locs) (hl : lv_has ls 6 [(0, .ref (ad 2)), (1, .int x1), (3, .int x3), (4, .int x4), (5, .int x5)]) : W p l e ({ frames := 4, cells := 0, slots := 0, locals := 103 } : Room) s m args below meth c H locs 0 0 (MQ below (va_Qi (fun (r : Int32) (u : va_W) => o1 = r ∧ wF ty ad o2 = u) (kz_B D ty A) A) args s 0 0 A) (F0 m 48 ls []) := by
  have C0 := C
  obtain ⟨hx, hb, hr, hts, hown, hlocks, hml, hK, hN, hE, hA⟩ := C
  unfold zX8_turnTop_s2_s20_48b at h
  refine lv_iload hx hb dX8_turnTop_48 (lv_at hl 3 rfl) ?_
  refine lv_iload hx hb dX8_turnTop_50 (lv_at hl 4 rfl) ?_
  refine lv_icmp_ge (tgt := 72) hx hb dX8_turnTop_52 (by decide) (fun c9 => ?_) (fun c9 => ?_)
  · rw [if_pos c9] at h
    refine lv_iconst (v := 0) hx hb dX8_turnTop_72 (by decide) ?_
    refine lv_istore (lv' := [(4, .int 0), (0, .ref (ad 2)), (1, .int x1), (3, .int x3), (5, .int x5)]) hx hb dX8_turnTop_73 hl (by decide) rfl (fun ls hl => ?_)
    exact WX8_turnTop_s2_s20_75 C0  _ _ _ _ _ _ _ _ h hP hD hS (lv_sub hl [1, 2, 3, 0] rfl)
  · rw [if_neg c9] at h
    refine lv_aload_n hx hb dX8_turnTop_55 rfl (lv_at hl 0 rfl) ?_
    refine lv_iload hx hb dX8_turnTop_56 (lv_at hl 3 rfl) ?_
    refine lv_iload hx hb dX8_turnTop_58 (lv_at hl 4 rfl) ?_
    obtain ⟨q3, h2, h⟩ := dV_some h
    refine dw_kv (va_runV (As := [.int x4, .int x5]) (rest := []) ⟨hx, hb, hml, hown, hts⟩ (qX8_exchange_s2 l D ty eo _ ad q x4 x5 q3 h2) (cwV 2 hts gX8_turnTop_X8_exchange rfl rfl rfl hd_X8_exchange_v ⟨Nat.le_of_ble_eq_true rfl, Nat.le_of_ble_eq_true rfl⟩) (pvF_8_2 hK hN hE hP hD hS hA) rfl rfl hl.1 rfl (lv_room (Nat.le_of_ble_eq_true rfl)) dX8_turnTop_60 ⟨Nat.le_of_ble_eq_true rfl, Nat.le_of_ble_eq_true rfl⟩) hD hS hA (fun u9 H locs hw hp hd hs => ?_)
    clear hP hD hS
    obtain rfl := hw
    have hP := hp; have hD := hd; have hS := hs; clear hp hd hs
    refine lv_iinc (v := x4 + 1) (lv' := [(4, .int (x4 + 1)), (0, .ref (ad 2)), (1, .int x1), (3, .int x3), (5, .int x5)]) hx hb dX8_turnTop_63 hl (k := 3) rfl rfl (by decide) rfl (fun ls hl => ?_)
    refine lv_iinc (v := x5 + (-1)) (lv' := [(5, .int (x5 + (-1))), (4, .int (x4 + 1)), (0, .ref (ad 2)), (1, .int x1), (3, .int x3)]) hx hb dX8_turnTop_66 hl (k := 4) rfl rfl (by decide) rfl (fun ls hl => ?_)
    refine lv_goto (tgt := 48) hx hb dX8_turnTop_69 (by decide) ?_
    exact hk48 _ _ _ _ _ _ _ _ h hP hD hS (lv_sub hl [2, 3, 4, 1, 0] rfl)
set_option maxHeartbeats 4000000 in
set_option maxRecDepth 100000 in
theorem WX8_turnTop_s2_s20_48 {p : Program} {l : Launch} {e : Env} {s : State} {m : MethodId} {args : Array Value} {below : List Frame} {meth : Method} {c : Code} {D : va_G} {ty : Nat → ClassId} {eo : Nat → Nat} {A : Nat → Prop} {ad : Nat → Nat} {o1 : Int32} {o2 : dK} (C : dc_C p s m args meth c cX8_turnTop (some .int) 6 RX8 wsX8_turnTop D ty eo A)   (n : Nat) (q : dK) (x1 : Int32) (x3 : Int32) (x4 : Int32) (x5 : Int32) (H : Heap) (locs : List Loc) (ls : Array Slot) (h : zX8_turnTop_s2_s20_48  n q x1 x3 x4 x5 = some (o1, o2)) (hP : va_P D vwCl (wF ty ad q) H) (hD : va_D A (wF ty ad q)) (hS : va_S A s.heap H locs) (hl : lv_has ls 6 [(0, .ref (ad 2)), (1, .int x1), (3, .int x3), (4, .int x4), (5, .int x5)]) : W p l e ({ frames := 4, cells := 0, slots := 0, locals := 103 } : Room) s m args below meth c H locs 0 0 (MQ below (va_Qi (fun (r : Int32) (u : va_W) => o1 = r ∧ wF ty ad o2 = u) (kz_B D ty A) A) args s 0 0 A) (F0 m 48 ls []) := by
  exact dFix_W (F := fun k (a : dK × Int32 × Int32 × Int32 × Int32) => zX8_turnTop_s2_s20_48b  (fun q x1 x3 x4 x5 => k (q, x1, x3, x4, x5)) a.1 a.2.1 a.2.2.1 a.2.2.2.1 a.2.2.2.2) (o := (o1, o2)) (P := fun (a : dK × Int32 × Int32 × Int32 × Int32) H locs ls => va_P D vwCl (wF ty ad a.1) H ∧ va_D A (wF ty ad a.1) ∧ va_S A s.heap H locs ∧ lv_has ls 6 [(0, .ref (ad 2)), (1, .int a.2.1), (3, .int a.2.2.1), (4, .int a.2.2.2.1), (5, .int a.2.2.2.2)]) (G := fun H locs ls => W p l e ({ frames := 4, cells := 0, slots := 0, locals := 103 } : Room) s m args below meth c H locs 0 0 (MQ below (va_Qi (fun (r : Int32) (u : va_W) => o1 = r ∧ wF ty ad o2 = u) (kz_B D ty A) A) args s 0 0 A) (F0 m 48 ls []))
    (fun k hk a H locs ls h hp => WX8_turnTop_s2_s20_48b C  (fun q x1 x3 x4 x5 H locs ls h h1 h2 h3 h4 => hk (q, x1, x3, x4, x5) H locs ls h ⟨h1, h2, h3, h4⟩) a.1 a.2.1 a.2.2.1 a.2.2.2.1 a.2.2.2.2 H locs ls h hp.1 hp.2.1 hp.2.2.1 hp.2.2.2) n (q, x1, x3, x4, x5) H locs ls h ⟨hP, hD, hS, hl⟩
set_option maxHeartbeats 4000000 in
set_option maxRecDepth 100000 in
theorem WX8_turnTop_s2_s20_30 {p : Program} {l : Launch} {e : Env} {s : State} {m : MethodId} {args : Array Value} {below : List Frame} {meth : Method} {c : Code} {D : va_G} {ty : Nat → ClassId} {eo : Nat → Nat} {A : Nat → Prop} {ad : Nat → Nat} {o1 : Int32} {o2 : dK} (C : dc_C p s m args meth c cX8_turnTop (some .int) 6 RX8 wsX8_turnTop D ty eo A)   (q : dK)  (H : Heap) (locs : List Loc) (ls : Array Slot) (h : zX8_turnTop_s2_s20_30  q = some (o1, o2)) (hP : va_P D vwCl (wF ty ad q) H) (hD : va_D A (wF ty ad q)) (hS : va_S A s.heap H locs) (hl : lv_has ls 6 []) : W p l e ({ frames := 4, cells := 0, slots := 0, locals := 103 } : Room) s m args below meth c H locs 0 0 (MQ below (va_Qi (fun (r : Int32) (u : va_W) => o1 = r ∧ wF ty ad o2 = u) (kz_B D ty A) A) args s 0 0 A) (F0 m 30 ls []) := by
  have C0 := C
  obtain ⟨hx, hb, hr, hts, hown, hlocks, hml, hK, hN, hE, hA⟩ := C
  unfold zX8_turnTop_s2_s20_30 at h
  refine lv_bipush (v := (-3)) hx hb dX8_turnTop_30 (by decide) ?_
  cases h
  exact kz_iret hx hb hr hlocks hP hK hD hS dX8_turnTop_32 ⟨rfl, rfl⟩
set_option maxHeartbeats 4000000 in
set_option maxRecDepth 100000 in
theorem WX8_turnTop_s2_s20_11 {p : Program} {l : Launch} {e : Env} {s : State} {m : MethodId} {args : Array Value} {below : List Frame} {meth : Method} {c : Code} {D : va_G} {ty : Nat → ClassId} {eo : Nat → Nat} {A : Nat → Prop} {ad : Nat → Nat} {o1 : Int32} {o2 : dK} (C : dc_C p s m args meth c cX8_turnTop (some .int) 6 RX8 wsX8_turnTop D ty eo A)   (q : dK)  (H : Heap) (locs : List Loc) (ls : Array Slot) (h : zX8_turnTop_s2_s20_11  q = some (o1, o2)) (hP : va_P D vwCl (wF ty ad q) H) (hD : va_D A (wF ty ad q)) (hS : va_S A s.heap H locs) (hl : lv_has ls 6 []) : W p l e ({ frames := 4, cells := 0, slots := 0, locals := 103 } : Room) s m args below meth c H locs 0 0 (MQ below (va_Qi (fun (r : Int32) (u : va_W) => o1 = r ∧ wF ty ad o2 = u) (kz_B D ty A) A) args s 0 0 A) (F0 m 11 ls []) := by
  have C0 := C
  obtain ⟨hx, hb, hr, hts, hown, hlocks, hml, hK, hN, hE, hA⟩ := C
  unfold zX8_turnTop_s2_s20_11 at h
  refine lv_iconst (v := (-1)) hx hb dX8_turnTop_11 (by decide) ?_
  cases h
  exact kz_iret hx hb hr hlocks hP hK hD hS dX8_turnTop_12 ⟨rfl, rfl⟩
set_option maxHeartbeats 4000000 in
set_option maxRecDepth 100000 in
theorem qX8_turnTop_s2_s20 (l : Launch) (D : va_G) (ty : Nat → ClassId) (eo : Nat → Nat) (sz : Nat) (ad : Nat → Nat) (q : dK) (p1 : Int32) (o1 : Int32) (o2 : dK) (h : zX8_turnTop_s2_s20 q p1 = some (o1, o2)) : Met l yX8_turnTop wsX8_turnTop ({ frames := 4, cells := 0, slots := 0, locals := 103 } : Room) (va_Pc [.ref (ad 2), .int p1, .ref (ad 20)] (kz_pre D ty eo (wF ty ad q) sz)) (va_Qi (fun (r : Int32) (u : va_W) => o1 = r ∧ wF ty ad o2 = u) (kz_B D ty (va_A (wF ty ad q) sz)) (va_A (wF ty ad q) sz)) 0 0 (va_A (wF ty ad q) sz) := by
  refine Met.ofW (cc := cX8_turnTop) (maxL := 6) (ret := (some .int)) (by decide) rfl ?_
  intro p e s m args below meth c s₁ B hml hv
  obtain ⟨rfl, hsz, hP, hK, hD0, hN, hE⟩ := hv
  have hx := B.exec
  have hb := B.bytes
  have hr := B.returns
  have hts := atoms_spec (ws := wsX8_turnTop) B.pre
  have hown : s.vm.findClass RX8 = some m.cls := findClass_of_methodNamed B.named
  have hlocks := B.notSynchronized
  subst hsz
  have hD := hD0.self (sz := s.heap.size)
  generalize hAe : va_A (wF ty ad q) s.heap.size = A at hD hE ⊢
  have hA : ∀ q : Nat, s.heap.size ≤ q → A q := fun q h => by rw [← hAe]; exact Or.inr h
  clear hAe
  have hS : va_S A s.heap s.heap [] := va_S.rf
  have hl := lv_entry ([.ref (ad 2), .int p1, .ref (ad 20)]) (n := 6) (Nat.le_of_ble_eq_true rfl)
  rw [lg_entry_eq]
  generalize (lg_sl ([.ref (ad 2), .int p1, .ref (ad 20)]) ++ List.replicate (6 - (lg_sl ([.ref (ad 2), .int p1, .ref (ad 20)])).length) Slot.unset).toArray = ls at hl ⊢
  have hl : lv_has ls 6 [(0, .ref (ad 2)), (1, .int p1), (2, .ref (ad 20))] := hl
  have C : dc_C p s m _ meth c cX8_turnTop (some .int) 6 RX8 wsX8_turnTop D ty eo A := ⟨hx, hb, hr, hts, hown, hlocks, hml, hK, hN, hE, hA⟩
  unfold zX8_turnTop_s2_s20 at h
  refine lv_iload_n hx hb dX8_turnTop_0 rfl (lv_at hl 1 rfl) ?_
  refine lv_iconst (v := 1) hx hb dX8_turnTop_1 (by decide) ?_
  refine lv_icmp_lt (tgt := 11) hx hb dX8_turnTop_2 (by decide) (fun c9 => ?_) (fun c9 => ?_)
  · rw [if_pos c9] at h
    exact WX8_turnTop_s2_s20_11 C  _ _ _ _ h hP hD hS (lv_sub hl [] rfl)
  · rw [if_neg c9] at h
    refine lv_iload_n hx hb dX8_turnTop_5 rfl (lv_at hl 1 rfl) ?_
    refine lv_bipush (v := 6) hx hb dX8_turnTop_6 (by decide) ?_
    refine lv_icmp_le (tgt := 13) hx hb dX8_turnTop_8 (by decide) (fun c9 => ?_) (fun c9 => ?_)
    · rw [if_pos c9] at h
      refine lv_iload_n hx hb dX8_turnTop_13 rfl (lv_at hl 1 rfl) ?_
      refine lv_aload_n hx hb dX8_turnTop_14 rfl (lv_at hl 0 rfl) ?_
      refine va_get (D := D) (ci := 8) (v := .int (q.1 2 2)) (C := RX8) (T := TX8) (N := 5) hx hb hts u9_wsX8_turnTop_X8 hown hK hP 2 rfl rfl 2 (by decide) (hts (.fieldLink RX8 18 "TurnedFloors$Tower" "floors" "I") f9_wsX8_turnTop_634) (fun _ h9 => h9) rfl dX8_turnTop_15 ?_
      refine lv_icmp_gt (tgt := 30) hx hb dX8_turnTop_18 (by decide) (fun c9 => ?_) (fun c9 => ?_)
      · rw [if_pos c9] at h
        exact WX8_turnTop_s2_s20_30 C  _ _ _ _ h hP hD hS (lv_sub hl [] rfl)
      · rw [if_neg c9] at h
        refine lv_aload_n hx hb dX8_turnTop_21 rfl (lv_at hl 2 rfl) ?_
        refine lv_aload_n hx hb dX8_turnTop_22 rfl (lv_at hl 0 rfl) ?_
        refine lv_iload_n hx hb dX8_turnTop_23 rfl (lv_at hl 1 rfl) ?_
        obtain ⟨r1, q3, h2, h⟩ := dB_some h
        refine dw_ki (va_runV (As := [.ref (ad 2), .int p1]) (rest := []) ⟨hx, hb, hml, hown, hts⟩ (qX1_bars_s20_s2 l D ty eo _ ad q p1 r1 q3 h2) (cwV 2 hts gX8_turnTop_X1_bars rfl rfl rfl hd_X1_bars_v ⟨Nat.le_of_ble_eq_true rfl, Nat.le_of_ble_eq_true rfl⟩) (pvF_1_20 hK hN hE hP hD hS hA) rfl rfl hl.1 rfl (lv_room (Nat.le_of_ble_eq_true rfl)) dX8_turnTop_24 ⟨Nat.le_of_ble_eq_true rfl, Nat.le_of_ble_eq_true rfl⟩) hD hS hA (fun r9 u9 H locs hw hp hd hs => ?_)
        clear hP hD hS
        obtain ⟨rfl, rfl⟩ := hw
        have hP := hp; have hD := hd; have hS := hs; clear hp hd hs
        refine lv_if_eq (tgt := 33) hx hb dX8_turnTop_27 (by decide) (fun c9 => ?_) (fun c9 => ?_)
        · rw [if_pos c9] at h
          refine lv_aload_n hx hb dX8_turnTop_33 rfl (lv_at hl 2 rfl) ?_
          refine lv_aload_n hx hb dX8_turnTop_34 rfl (lv_at hl 0 rfl) ?_
          refine lv_iload_n hx hb dX8_turnTop_35 rfl (lv_at hl 1 rfl) ?_
          obtain ⟨r4, q6, h5, h⟩ := dB_some h
          refine dw_ki (va_runV (As := [.ref (ad 2), .int p1]) (rest := []) ⟨hx, hb, hml, hown, hts⟩ (qX1_payOf_s20_s2 l D ty eo _ ad q3 p1 r4 q6 h5) (cwV 2 hts gX8_turnTop_X1_payOf rfl rfl rfl hd_X1_payOf_v ⟨Nat.le_of_ble_eq_true rfl, Nat.le_of_ble_eq_true rfl⟩) (pvF_1_20 hK hN hE hP hD hS hA) rfl rfl hl.1 rfl (lv_room (Nat.le_of_ble_eq_true rfl)) dX8_turnTop_36 ⟨Nat.le_of_ble_eq_true rfl, Nat.le_of_ble_eq_true rfl⟩) hD hS hA (fun r9 u9 H locs hw hp hd hs => ?_)
          clear hP hD hS
          obtain ⟨rfl, rfl⟩ := hw
          have hP := hp; have hD := hd; have hS := hs; clear hp hd hs
          refine lv_istore_n (lv' := [(3, .int r4), (0, .ref (ad 2)), (1, .int p1), (2, .ref (ad 20))]) hx hb dX8_turnTop_39 rfl hl (by decide) rfl (fun ls hl => ?_)
          refine lv_iconst (v := 0) hx hb dX8_turnTop_40 (by decide) ?_
          refine lv_istore (lv' := [(4, .int 0), (3, .int r4), (0, .ref (ad 2)), (1, .int p1), (2, .ref (ad 20))]) hx hb dX8_turnTop_41 hl (by decide) rfl (fun ls hl => ?_)
          refine lv_iload_n hx hb dX8_turnTop_43 rfl (lv_at hl 3 rfl) ?_
          refine lv_iconst (v := 1) hx hb dX8_turnTop_44 (by decide) ?_
          refine lv_isub hx hb dX8_turnTop_45 ?_
          refine lv_istore (lv' := [(5, .int (p1 - 1 : Int32)), (4, .int 0), (3, .int r4), (0, .ref (ad 2)), (1, .int p1), (2, .ref (ad 20))]) hx hb dX8_turnTop_46 hl (by decide) rfl (fun ls hl => ?_)
          exact WX8_turnTop_s2_s20_48 C  _ _ _ _ _ _ _ _ _ h hP hD hS (lv_sub hl [3, 4, 2, 1, 0] rfl)
        · rw [if_neg c9] at h
          exact WX8_turnTop_s2_s20_30 C  _ _ _ _ h hP hD hS (lv_sub hl [] rfl)
    · rw [if_neg c9] at h
      exact WX8_turnTop_s2_s20_11 C  _ _ _ _ h hP hD hS (lv_sub hl [] rfl)

set_option maxHeartbeats 4000000 in
set_option maxRecDepth 100000 in
theorem WX8_rightAt_s2_10 {p : Program} {l : Launch} {e : Env} {s : State} {m : MethodId} {args : Array Value} {below : List Frame} {meth : Method} {c : Code} {D : va_G} {ty : Nat → ClassId} {eo : Nat → Nat} {A : Nat → Prop} {ad : Nat → Nat} {o1 : Int32} {o2 : dK} (C : dc_C p s m args meth c cX8_rightAt (some .int) 2 RX8 wsX8_rightAt D ty eo A)   (q : dK)  (H : Heap) (locs : List Loc) (ls : Array Slot) (h : zX8_rightAt_s2_10  q = some (o1, o2)) (hP : va_P D vwCl (wF ty ad q) H) (hD : va_D A (wF ty ad q)) (hS : va_S A s.heap H locs) (hl : lv_has ls 2 []) : W p l e ({ frames := 1, cells := 0, slots := 0, locals := 21 } : Room) s m args below meth c H locs 0 0 (MQ below (va_Qi (fun (r : Int32) (u : va_W) => o1 = r ∧ wF ty ad o2 = u) (kz_B D ty A) A) args s 0 0 A) (F0 m 10 ls []) := by
  have C0 := C
  obtain ⟨hx, hb, hr, hts, hown, hlocks, hml, hK, hN, hE, hA⟩ := C
  unfold zX8_rightAt_s2_10 at h
  refine lv_iconst (v := (-1)) hx hb dX8_rightAt_10 (by decide) ?_
  cases h
  exact kz_iret hx hb hr hlocks hP hK hD hS dX8_rightAt_11 ⟨rfl, rfl⟩
set_option maxHeartbeats 4000000 in
set_option maxRecDepth 100000 in
theorem qX8_rightAt_s2 (l : Launch) (D : va_G) (ty : Nat → ClassId) (eo : Nat → Nat) (sz : Nat) (ad : Nat → Nat) (q : dK) (p1 : Int32) (o1 : Int32) (o2 : dK) (h : zX8_rightAt_s2 q p1 = some (o1, o2)) : Met l yX8_rightAt wsX8_rightAt ({ frames := 1, cells := 0, slots := 0, locals := 21 } : Room) (va_Pc [.ref (ad 2), .int p1] (kz_pre D ty eo (wF ty ad q) sz)) (va_Qi (fun (r : Int32) (u : va_W) => o1 = r ∧ wF ty ad o2 = u) (kz_B D ty (va_A (wF ty ad q) sz)) (va_A (wF ty ad q) sz)) 0 0 (va_A (wF ty ad q) sz) := by
  refine Met.ofW (cc := cX8_rightAt) (maxL := 2) (ret := (some .int)) (by decide) rfl ?_
  intro p e s m args below meth c s₁ B hml hv
  obtain ⟨rfl, hsz, hP, hK, hD0, hN, hE⟩ := hv
  have hx := B.exec
  have hb := B.bytes
  have hr := B.returns
  have hts := atoms_spec (ws := wsX8_rightAt) B.pre
  have hown : s.vm.findClass RX8 = some m.cls := findClass_of_methodNamed B.named
  have hlocks := B.notSynchronized
  subst hsz
  have hD := hD0.self (sz := s.heap.size)
  generalize hAe : va_A (wF ty ad q) s.heap.size = A at hD hE ⊢
  have hA : ∀ q : Nat, s.heap.size ≤ q → A q := fun q h => by rw [← hAe]; exact Or.inr h
  clear hAe
  have hS : va_S A s.heap s.heap [] := va_S.rf
  have hl := lv_entry ([.ref (ad 2), .int p1]) (n := 2) (Nat.le_of_ble_eq_true rfl)
  rw [lg_entry_eq]
  generalize (lg_sl ([.ref (ad 2), .int p1]) ++ List.replicate (2 - (lg_sl ([.ref (ad 2), .int p1])).length) Slot.unset).toArray = ls at hl ⊢
  have hl : lv_has ls 2 [(0, .ref (ad 2)), (1, .int p1)] := hl
  have C : dc_C p s m _ meth c cX8_rightAt (some .int) 2 RX8 wsX8_rightAt D ty eo A := ⟨hx, hb, hr, hts, hown, hlocks, hml, hK, hN, hE, hA⟩
  unfold zX8_rightAt_s2 at h
  refine lv_iload_n hx hb dX8_rightAt_0 rfl (lv_at hl 1 rfl) ?_
  refine lv_if_lt (tgt := 10) hx hb dX8_rightAt_1 (by decide) (fun c9 => ?_) (fun c9 => ?_)
  · rw [if_pos c9] at h
    exact WX8_rightAt_s2_10 C  _ _ _ _ h hP hD hS (lv_sub hl [] rfl)
  · rw [if_neg c9] at h
    refine lv_iload_n hx hb dX8_rightAt_4 rfl (lv_at hl 1 rfl) ?_
    refine lv_bipush (v := 6) hx hb dX8_rightAt_5 (by decide) ?_
    refine lv_icmp_lt (tgt := 12) hx hb dX8_rightAt_7 (by decide) (fun c9 => ?_) (fun c9 => ?_)
    · rw [if_pos c9] at h
      refine lv_aload_n hx hb dX8_rightAt_12 rfl (lv_at hl 0 rfl) ?_
      refine lv_iload_n hx hb dX8_rightAt_13 rfl (lv_at hl 1 rfl) ?_
      obtain ⟨r1, q3, h2, h⟩ := dB_some h
      refine dw_ki (va_runV (As := [.int p1]) (rest := []) ⟨hx, hb, hml, hown, hts⟩ (qX8_isFloor_s2 l D ty eo _ ad q p1 r1 q3 h2) (cwV 1 hts gX8_rightAt_X8_isFloor rfl rfl rfl hd_X8_isFloor_v ⟨Nat.le_of_ble_eq_true rfl, Nat.le_of_ble_eq_true rfl⟩) (pvF_8_2 hK hN hE hP hD hS hA) rfl rfl hl.1 rfl (lv_room (Nat.le_of_ble_eq_true rfl)) dX8_rightAt_14 ⟨Nat.le_of_ble_eq_true rfl, Nat.le_of_ble_eq_true rfl⟩) hD hS hA (fun r9 u9 H locs hw hp hd hs => ?_)
      clear hP hD hS
      obtain ⟨rfl, rfl⟩ := hw
      have hP := hp; have hD := hd; have hS := hs; clear hp hd hs
      refine lv_if_ne (tgt := 23) hx hb dX8_rightAt_17 (by decide) (fun c9 => ?_) (fun c9 => ?_)
      · rw [if_neg c9] at h
        refine lv_aload_n hx hb dX8_rightAt_23 rfl (lv_at hl 0 rfl) ?_
        refine va_get (D := D) (ci := 8) (v := .ref (ad 4)) (C := RX8) (T := TX8) (N := 5) hx hb hts u9_wsX8_rightAt_X8 hown hK hP 2 rfl rfl 1 (by decide) (hts (.fieldLink RX8 15 "TurnedFloors$Tower" "head" "[I") f9_wsX8_rightAt_636) (fun _ h9 => h9) rfl dX8_rightAt_24 ?_
        refine lv_iload_n hx hb dX8_rightAt_27 rfl (lv_at hl 1 rfl) ?_
        refine lv_iconst (v := 1) hx hb dX8_rightAt_28 (by decide) ?_
        refine lv_aload_n hx hb dX8_rightAt_29 rfl (lv_at hl 0 rfl) ?_
        refine va_get (D := D) (ci := 8) (v := .ref (ad 4)) (C := RX8) (T := TX8) (N := 5) hx hb hts u9_wsX8_rightAt_X8 hown hK hP 2 rfl rfl 1 (by decide) (hts (.fieldLink RX8 15 "TurnedFloors$Tower" "head" "[I") f9_wsX8_rightAt_636) (fun _ h9 => h9) rfl dX8_rightAt_30 ?_
        refine lv_iload_n hx hb dX8_rightAt_33 rfl (lv_at hl 1 rfl) ?_
        obtain ⟨g4, h⟩ := dG_some h
        refine va_iald hx hb hK hP 4 0 rfl rfl (dg_in g4) dX8_rightAt_34 ?_
        obtain ⟨v5, ev5, h⟩ := dL_some h
        refine kz_topi v5 ev5 ?_
        refine lv_isub hx hb dX8_rightAt_35 ?_
        obtain ⟨g6, h⟩ := dG_some h
        refine va_iast hx hb hK hP hD hS 4 0 rfl rfl (dg_in g6) dX8_rightAt_36 (fun H locs hp hd hs => ?_)
        obtain ⟨q7, eq7, h⟩ := dL_some h
        refine kz_re (w2 := wF ty ad q7) hp hd hs (by rw [← eq7]; exact wF_a4 ty ad q3 (Int32.toNatClampNeg p1) (1 - v5 : Int32)) ?_
        clear hp hd hs hP hD hS
        intro hP hD hS
        refine lv_aload_n hx hb dX8_rightAt_37 rfl (lv_at hl 0 rfl) ?_
        refine va_get (D := D) (ci := 8) (v := .ref (ad 4)) (C := RX8) (T := TX8) (N := 5) hx hb hts u9_wsX8_rightAt_X8 hown hK hP 2 rfl rfl 1 (by decide) (hts (.fieldLink RX8 15 "TurnedFloors$Tower" "head" "[I") f9_wsX8_rightAt_636) (fun _ h9 => h9) rfl dX8_rightAt_38 ?_
        refine lv_iload_n hx hb dX8_rightAt_41 rfl (lv_at hl 1 rfl) ?_
        obtain ⟨g8, h⟩ := dG_some h
        refine va_iald hx hb hK hP 4 0 rfl rfl (dg_in g8) dX8_rightAt_42 ?_
        obtain ⟨v9, ev9, h⟩ := dL_some h
        refine kz_topi v9 ev9 ?_
        cases h
        exact kz_iret hx hb hr hlocks hP hK hD hS dX8_rightAt_43 ⟨rfl, rfl⟩
      · rw [if_pos c9] at h
        refine lv_bipush (v := (-3)) hx hb dX8_rightAt_20 (by decide) ?_
        cases h
        exact kz_iret hx hb hr hlocks hP hK hD hS dX8_rightAt_22 ⟨rfl, rfl⟩
    · rw [if_neg c9] at h
      exact WX8_rightAt_s2_10 C  _ _ _ _ h hP hD hS (lv_sub hl [] rfl)

set_option maxHeartbeats 4000000 in
set_option maxRecDepth 100000 in
theorem WX8_swapAt_s2_9 {p : Program} {l : Launch} {e : Env} {s : State} {m : MethodId} {args : Array Value} {below : List Frame} {meth : Method} {c : Code} {D : va_G} {ty : Nat → ClassId} {eo : Nat → Nat} {A : Nat → Prop} {ad : Nat → Nat} {o1 : Int32} {o2 : dK} (C : dc_C p s m args meth c cX8_swapAt (some .int) 2 RX8 wsX8_swapAt D ty eo A)   (q : dK)  (H : Heap) (locs : List Loc) (ls : Array Slot) (h : zX8_swapAt_s2_9  q = some (o1, o2)) (hP : va_P D vwCl (wF ty ad q) H) (hD : va_D A (wF ty ad q)) (hS : va_S A s.heap H locs) (hl : lv_has ls 2 []) : W p l e ({ frames := 1, cells := 0, slots := 0, locals := 24 } : Room) s m args below meth c H locs 0 0 (MQ below (va_Qi (fun (r : Int32) (u : va_W) => o1 = r ∧ wF ty ad o2 = u) (kz_B D ty A) A) args s 0 0 A) (F0 m 9 ls []) := by
  have C0 := C
  obtain ⟨hx, hb, hr, hts, hown, hlocks, hml, hK, hN, hE, hA⟩ := C
  unfold zX8_swapAt_s2_9 at h
  refine lv_iconst (v := (-1)) hx hb dX8_swapAt_9 (by decide) ?_
  cases h
  exact kz_iret hx hb hr hlocks hP hK hD hS dX8_swapAt_10 ⟨rfl, rfl⟩
set_option maxHeartbeats 4000000 in
set_option maxRecDepth 100000 in
theorem qX8_swapAt_s2 (l : Launch) (D : va_G) (ty : Nat → ClassId) (eo : Nat → Nat) (sz : Nat) (ad : Nat → Nat) (q : dK) (p1 : Int32) (o1 : Int32) (o2 : dK) (h : zX8_swapAt_s2 q p1 = some (o1, o2)) : Met l yX8_swapAt wsX8_swapAt ({ frames := 1, cells := 0, slots := 0, locals := 24 } : Room) (va_Pc [.ref (ad 2), .int p1] (kz_pre D ty eo (wF ty ad q) sz)) (va_Qi (fun (r : Int32) (u : va_W) => o1 = r ∧ wF ty ad o2 = u) (kz_B D ty (va_A (wF ty ad q) sz)) (va_A (wF ty ad q) sz)) 0 0 (va_A (wF ty ad q) sz) := by
  refine Met.ofW (cc := cX8_swapAt) (maxL := 2) (ret := (some .int)) (by decide) rfl ?_
  intro p e s m args below meth c s₁ B hml hv
  obtain ⟨rfl, hsz, hP, hK, hD0, hN, hE⟩ := hv
  have hx := B.exec
  have hb := B.bytes
  have hr := B.returns
  have hts := atoms_spec (ws := wsX8_swapAt) B.pre
  have hown : s.vm.findClass RX8 = some m.cls := findClass_of_methodNamed B.named
  have hlocks := B.notSynchronized
  subst hsz
  have hD := hD0.self (sz := s.heap.size)
  generalize hAe : va_A (wF ty ad q) s.heap.size = A at hD hE ⊢
  have hA : ∀ q : Nat, s.heap.size ≤ q → A q := fun q h => by rw [← hAe]; exact Or.inr h
  clear hAe
  have hS : va_S A s.heap s.heap [] := va_S.rf
  have hl := lv_entry ([.ref (ad 2), .int p1]) (n := 2) (Nat.le_of_ble_eq_true rfl)
  rw [lg_entry_eq]
  generalize (lg_sl ([.ref (ad 2), .int p1]) ++ List.replicate (2 - (lg_sl ([.ref (ad 2), .int p1])).length) Slot.unset).toArray = ls at hl ⊢
  have hl : lv_has ls 2 [(0, .ref (ad 2)), (1, .int p1)] := hl
  have C : dc_C p s m _ meth c cX8_swapAt (some .int) 2 RX8 wsX8_swapAt D ty eo A := ⟨hx, hb, hr, hts, hown, hlocks, hml, hK, hN, hE, hA⟩
  unfold zX8_swapAt_s2 at h
  refine lv_iload_n hx hb dX8_swapAt_0 rfl (lv_at hl 1 rfl) ?_
  refine lv_if_lt (tgt := 9) hx hb dX8_swapAt_1 (by decide) (fun c9 => ?_) (fun c9 => ?_)
  · rw [if_pos c9] at h
    exact WX8_swapAt_s2_9 C  _ _ _ _ h hP hD hS (lv_sub hl [] rfl)
  · rw [if_neg c9] at h
    refine lv_iload_n hx hb dX8_swapAt_4 rfl (lv_at hl 1 rfl) ?_
    refine lv_iconst (v := 5) hx hb dX8_swapAt_5 (by decide) ?_
    refine lv_icmp_lt (tgt := 11) hx hb dX8_swapAt_6 (by decide) (fun c9 => ?_) (fun c9 => ?_)
    · rw [if_pos c9] at h
      refine lv_aload_n hx hb dX8_swapAt_11 rfl (lv_at hl 0 rfl) ?_
      refine lv_iload_n hx hb dX8_swapAt_12 rfl (lv_at hl 1 rfl) ?_
      refine lv_iconst (v := 1) hx hb dX8_swapAt_13 (by decide) ?_
      refine lv_iadd hx hb dX8_swapAt_14 ?_
      obtain ⟨r1, q3, h2, h⟩ := dB_some h
      refine dw_ki (va_runV (As := [.int (p1 + 1 : Int32)]) (rest := []) ⟨hx, hb, hml, hown, hts⟩ (qX8_isFloor_s2 l D ty eo _ ad q (p1 + 1 : Int32) r1 q3 h2) (cwV 1 hts gX8_swapAt_X8_isFloor rfl rfl rfl hd_X8_isFloor_v ⟨Nat.le_of_ble_eq_true rfl, Nat.le_of_ble_eq_true rfl⟩) (pvF_8_2 hK hN hE hP hD hS hA) rfl rfl hl.1 rfl (lv_room (Nat.le_of_ble_eq_true rfl)) dX8_swapAt_15 ⟨Nat.le_of_ble_eq_true rfl, Nat.le_of_ble_eq_true rfl⟩) hD hS hA (fun r9 u9 H locs hw hp hd hs => ?_)
      clear hP hD hS
      obtain ⟨rfl, rfl⟩ := hw
      have hP := hp; have hD := hd; have hS := hs; clear hp hd hs
      refine lv_if_ne (tgt := 24) hx hb dX8_swapAt_18 (by decide) (fun c9 => ?_) (fun c9 => ?_)
      · rw [if_neg c9] at h
        refine lv_aload_n hx hb dX8_swapAt_24 rfl (lv_at hl 0 rfl) ?_
        refine lv_iload_n hx hb dX8_swapAt_25 rfl (lv_at hl 1 rfl) ?_
        refine lv_iload_n hx hb dX8_swapAt_26 rfl (lv_at hl 1 rfl) ?_
        refine lv_iconst (v := 1) hx hb dX8_swapAt_27 (by decide) ?_
        refine lv_iadd hx hb dX8_swapAt_28 ?_
        obtain ⟨q6, h5, h⟩ := dV_some h
        refine dw_kv (va_runV (As := [.int p1, .int (p1 + 1 : Int32)]) (rest := []) ⟨hx, hb, hml, hown, hts⟩ (qX8_exchange_s2 l D ty eo _ ad q3 p1 (p1 + 1 : Int32) q6 h5) (cwV 2 hts gX8_swapAt_X8_exchange rfl rfl rfl hd_X8_exchange_v ⟨Nat.le_of_ble_eq_true rfl, Nat.le_of_ble_eq_true rfl⟩) (pvF_8_2 hK hN hE hP hD hS hA) rfl rfl hl.1 rfl (lv_room (Nat.le_of_ble_eq_true rfl)) dX8_swapAt_29 ⟨Nat.le_of_ble_eq_true rfl, Nat.le_of_ble_eq_true rfl⟩) hD hS hA (fun u9 H locs hw hp hd hs => ?_)
        clear hP hD hS
        obtain rfl := hw
        have hP := hp; have hD := hd; have hS := hs; clear hp hd hs
        refine lv_aload_n hx hb dX8_swapAt_32 rfl (lv_at hl 0 rfl) ?_
        refine va_get (D := D) (ci := 8) (v := .ref (ad 3)) (C := RX8) (T := TX8) (N := 5) hx hb hts u9_wsX8_swapAt_X8 hown hK hP 2 rfl rfl 0 (by decide) (hts (.fieldLink RX8 9 "TurnedFloors$Tower" "rank" "[I") f9_wsX8_swapAt_638) (fun _ h9 => h9) rfl dX8_swapAt_33 ?_
        refine lv_iload_n hx hb dX8_swapAt_36 rfl (lv_at hl 1 rfl) ?_
        obtain ⟨g7, h⟩ := dG_some h
        refine va_iald hx hb hK hP 3 0 rfl rfl (dg_in g7) dX8_swapAt_37 ?_
        obtain ⟨v8, ev8, h⟩ := dL_some h
        refine kz_topi v8 ev8 ?_
        cases h
        exact kz_iret hx hb hr hlocks hP hK hD hS dX8_swapAt_38 ⟨rfl, rfl⟩
      · rw [if_pos c9] at h
        refine lv_bipush (v := (-3)) hx hb dX8_swapAt_21 (by decide) ?_
        cases h
        exact kz_iret hx hb hr hlocks hP hK hD hS dX8_swapAt_23 ⟨rfl, rfl⟩
    · rw [if_neg c9] at h
      exact WX8_swapAt_s2_9 C  _ _ _ _ h hP hD hS (lv_sub hl [] rfl)

set_option maxHeartbeats 4000000 in
set_option maxRecDepth 100000 in
theorem qJ6_bitCount_0f7a4 (l : Launch) (D : va_G) (ty : Nat → ClassId) (eo : Nat → Nat) (sz : Nat) (p1 : Int32) (o1 : Int32) (h : zJ6_bitCount_0f7a4 p1 = some o1) : Met l yJ6_bitCount_0f7a4 wsJ6_bitCount_0f7a4 ({ frames := 0, cells := 0, slots := 0, locals := 0 } : Room) (va_Pc [.int p1] (kz_pre D ty eo (([] : va_W)) sz)) (va_Qi (fun (r : Int32) (u : va_W) => o1 = r ∧ ([] : va_W) = u) (kz_B D ty (va_A (([] : va_W)) sz)) (va_A (([] : va_W)) sz)) 0 0 (va_A (([] : va_W)) sz) := by
  refine Met.ofW (cc := cJ6_bitCount_0f7a4) (maxL := 1) (ret := (some .int)) (by decide) rfl ?_
  intro p e s m args below meth c s₁ B hml hv
  obtain ⟨rfl, hsz, hP, hK, hD0, hN, hE⟩ := hv
  have hx := B.exec
  have hb := B.bytes
  have hr := B.returns
  have hts := atoms_spec (ws := wsJ6_bitCount_0f7a4) B.pre
  have hown : s.vm.findClass RJ6 = some m.cls := findClass_of_methodNamed B.named
  have hlocks := B.notSynchronized
  subst hsz
  have hD := hD0.self (sz := s.heap.size)
  generalize hAe : va_A (([] : va_W)) s.heap.size = A at hD hE ⊢
  have hA : ∀ q : Nat, s.heap.size ≤ q → A q := fun q h => by rw [← hAe]; exact Or.inr h
  clear hAe
  have hS : va_S A s.heap s.heap [] := va_S.rf
  have hl := lv_entry ([.int p1]) (n := 1) (Nat.le_of_ble_eq_true rfl)
  rw [lg_entry_eq]
  generalize (lg_sl ([.int p1]) ++ List.replicate (1 - (lg_sl ([.int p1])).length) Slot.unset).toArray = ls at hl ⊢
  have hl : lv_has ls 1 [(0, .int p1)] := hl
  have C : dc_C p s m _ meth c cJ6_bitCount_0f7a4 (some .int) 1 RJ6 wsJ6_bitCount_0f7a4 D ty eo A := ⟨hx, hb, hr, hts, hown, hlocks, hml, hK, hN, hE, hA⟩
  unfold zJ6_bitCount_0f7a4 at h
  refine lv_iload_n hx hb dJ6_bitCount_0f7a4_0 rfl (lv_at hl 0 rfl) ?_
  refine lv_iload_n hx hb dJ6_bitCount_0f7a4_1 rfl (lv_at hl 0 rfl) ?_
  refine lv_iconst (v := 1) hx hb dJ6_bitCount_0f7a4_2 (by decide) ?_
  refine lv_iushr (v := ((p1 : Int32).toUInt32 >>> ((1 : Int32).toUInt32 &&& Int32.toUInt32 31)).toInt32) hx hb dJ6_bitCount_0f7a4_3 rfl ?_
  obtain ⟨v1, ev1, h⟩ := dL_some h
  refine kz_topi v1 ev1 ?_
  refine lv_ldcw (v := 1431655765) hx hb hown (hts (.constant RJ6 265 1431655765) f9_wsJ6_bitCount_0f7a4_639) dJ6_bitCount_0f7a4_4 ?_
  refine lv_iand hx hb dJ6_bitCount_0f7a4_7 ?_
  refine lv_isub hx hb dJ6_bitCount_0f7a4_8 ?_
  refine lv_istore_n (lv' := [(0, .int (p1 - (v1 &&& 1431655765 : Int32)))]) hx hb dJ6_bitCount_0f7a4_9 rfl hl (by decide) rfl (fun ls hl => ?_)
  refine lv_iload_n hx hb dJ6_bitCount_0f7a4_10 rfl (lv_at hl 0 rfl) ?_
  refine lv_ldcw (v := 858993459) hx hb hown (hts (.constant RJ6 266 858993459) f9_wsJ6_bitCount_0f7a4_640) dJ6_bitCount_0f7a4_11 ?_
  refine lv_iand hx hb dJ6_bitCount_0f7a4_14 ?_
  refine lv_iload_n hx hb dJ6_bitCount_0f7a4_15 rfl (lv_at hl 0 rfl) ?_
  refine lv_iconst (v := 2) hx hb dJ6_bitCount_0f7a4_16 (by decide) ?_
  refine lv_iushr (v := ((p1 - (v1 &&& 1431655765 : Int32) : Int32).toUInt32 >>> ((2 : Int32).toUInt32 &&& Int32.toUInt32 31)).toInt32) hx hb dJ6_bitCount_0f7a4_17 rfl ?_
  obtain ⟨v2, ev2, h⟩ := dL_some h
  refine kz_topi v2 ev2 ?_
  refine lv_ldcw (v := 858993459) hx hb hown (hts (.constant RJ6 266 858993459) f9_wsJ6_bitCount_0f7a4_640) dJ6_bitCount_0f7a4_18 ?_
  refine lv_iand hx hb dJ6_bitCount_0f7a4_21 ?_
  refine lv_iadd hx hb dJ6_bitCount_0f7a4_22 ?_
  obtain ⟨v3, ev3, h⟩ := dL_some h
  refine kz_topi v3 ev3 ?_
  refine lv_istore_n (lv' := [(0, .int v3)]) hx hb dJ6_bitCount_0f7a4_23 rfl hl (by decide) rfl (fun ls hl => ?_)
  refine lv_iload_n hx hb dJ6_bitCount_0f7a4_24 rfl (lv_at hl 0 rfl) ?_
  refine lv_iload_n hx hb dJ6_bitCount_0f7a4_25 rfl (lv_at hl 0 rfl) ?_
  refine lv_iconst (v := 4) hx hb dJ6_bitCount_0f7a4_26 (by decide) ?_
  refine lv_iushr (v := ((v3 : Int32).toUInt32 >>> ((4 : Int32).toUInt32 &&& Int32.toUInt32 31)).toInt32) hx hb dJ6_bitCount_0f7a4_27 rfl ?_
  obtain ⟨v4, ev4, h⟩ := dL_some h
  refine kz_topi v4 ev4 ?_
  refine lv_iadd hx hb dJ6_bitCount_0f7a4_28 ?_
  refine lv_ldcw (v := 252645135) hx hb hown (hts (.constant RJ6 267 252645135) f9_wsJ6_bitCount_0f7a4_641) dJ6_bitCount_0f7a4_29 ?_
  refine lv_iand hx hb dJ6_bitCount_0f7a4_32 ?_
  refine lv_istore_n (lv' := [(0, .int ((v3 + v4) &&& 252645135 : Int32))]) hx hb dJ6_bitCount_0f7a4_33 rfl hl (by decide) rfl (fun ls hl => ?_)
  refine lv_iload_n hx hb dJ6_bitCount_0f7a4_34 rfl (lv_at hl 0 rfl) ?_
  refine lv_iload_n hx hb dJ6_bitCount_0f7a4_35 rfl (lv_at hl 0 rfl) ?_
  refine lv_bipush (v := 8) hx hb dJ6_bitCount_0f7a4_36 (by decide) ?_
  refine lv_iushr (v := ((((v3 + v4) &&& 252645135 : Int32) : Int32).toUInt32 >>> ((8 : Int32).toUInt32 &&& Int32.toUInt32 31)).toInt32) hx hb dJ6_bitCount_0f7a4_38 rfl ?_
  obtain ⟨v5, ev5, h⟩ := dL_some h
  refine kz_topi v5 ev5 ?_
  refine lv_iadd hx hb dJ6_bitCount_0f7a4_39 ?_
  refine lv_istore_n (lv' := [(0, .int (((v3 + v4) &&& 252645135 : Int32) + v5))]) hx hb dJ6_bitCount_0f7a4_40 rfl hl (by decide) rfl (fun ls hl => ?_)
  refine lv_iload_n hx hb dJ6_bitCount_0f7a4_41 rfl (lv_at hl 0 rfl) ?_
  refine lv_iload_n hx hb dJ6_bitCount_0f7a4_42 rfl (lv_at hl 0 rfl) ?_
  refine lv_bipush (v := 16) hx hb dJ6_bitCount_0f7a4_43 (by decide) ?_
  refine lv_iushr (v := ((((v3 + v4) &&& 252645135 : Int32) + v5 : Int32).toUInt32 >>> ((16 : Int32).toUInt32 &&& Int32.toUInt32 31)).toInt32) hx hb dJ6_bitCount_0f7a4_45 rfl ?_
  obtain ⟨v6, ev6, h⟩ := dL_some h
  refine kz_topi v6 ev6 ?_
  refine lv_iadd hx hb dJ6_bitCount_0f7a4_46 ?_
  refine lv_istore_n (lv' := [(0, .int ((((v3 + v4) &&& 252645135 : Int32) + v5) + v6))]) hx hb dJ6_bitCount_0f7a4_47 rfl hl (by decide) rfl (fun ls hl => ?_)
  refine lv_iload_n hx hb dJ6_bitCount_0f7a4_48 rfl (lv_at hl 0 rfl) ?_
  refine lv_bipush (v := 63) hx hb dJ6_bitCount_0f7a4_49 (by decide) ?_
  refine lv_iand hx hb dJ6_bitCount_0f7a4_51 ?_
  obtain ⟨v7, ev7, h⟩ := dL_some h
  refine kz_topi v7 ev7 ?_
  cases h
  exact kz_iret hx hb hr hlocks hP hK hD hS dJ6_bitCount_0f7a4_52 ⟨rfl, rfl⟩

set_option maxHeartbeats 4000000 in
set_option maxRecDepth 100000 in
theorem WX8_passYear_s2_s20_47b {p : Program} {l : Launch} {e : Env} {s : State} {m : MethodId} {args : Array Value} {below : List Frame} {meth : Method} {c : Code} {D : va_G} {ty : Nat → ClassId} {eo : Nat → Nat} {A : Nat → Prop} {ad : Nat → Nat} {o1 : Int32} {o2 : dK} (C : dc_C p s m args meth c cX8_passYear (some .int) 4 RX8 wsX8_passYear D ty eo A) {k47 : dK → Int32 → Int32 → Option (Int32 × dK)} (hk47 : ∀ (q : dK) (x2 : Int32) (x3 : Int32) (H : Heap) (locs : List Loc) (ls : Array Slot), k47 q x2 x3 = some (o1, o2) → va_P D vwCl (wF ty ad q) H → va_D A (wF ty ad q) → va_S A s.heap H locs → lv_has ls 4 [(0, .ref (ad 2)), (2, .int x2), (3, .int x3)] → W p l e ({ frames := 4, cells := 0, slots := 0, locals := 103 } : Room) s m args below meth c H locs 0 0 (MQ below (va_Qi (fun (r : Int32) (u : va_W) => o1 = r ∧ wF ty ad o2 = u) (kz_B D ty A) A) args s 0 0 A) (F0 m 47 ls [])) (q : dK) (x2 : Int32) (x3 : Int32) (H : Heap) (locs : List Loc) (ls : Array Slot) (h : zX8_passYear_s2_s20_47b k47 q x2 x3 = some (o1, o2)) (hP : va_P D vwCl (wF ty ad q) H) (hD : va_D A (wF ty ad q)) (hS : va_S A s.heap H locs) (hl : lv_has ls 4 [(0, .ref (ad 2)), (2, .int x2), (3, .int x3)]) : W p l e ({ frames := 4, cells := 0, slots := 0, locals := 103 } : Room) s m args below meth c H locs 0 0 (MQ below (va_Qi (fun (r : Int32) (u : va_W) => o1 = r ∧ wF ty ad o2 = u) (kz_B D ty A) A) args s 0 0 A) (F0 m 47 ls []) := by
  have C0 := C
  obtain ⟨hx, hb, hr, hts, hown, hlocks, hml, hK, hN, hE, hA⟩ := C
  unfold zX8_passYear_s2_s20_47b at h
  refine lv_iload_n hx hb dX8_passYear_47 rfl (lv_at hl 2 rfl) ?_
  refine lv_aload_n hx hb dX8_passYear_48 rfl (lv_at hl 0 rfl) ?_
  refine va_get (D := D) (ci := 8) (v := .int (q.1 2 2)) (C := RX8) (T := TX8) (N := 5) hx hb hts u9_wsX8_passYear_X8 hown hK hP 2 rfl rfl 2 (by decide) (hts (.fieldLink RX8 18 "TurnedFloors$Tower" "floors" "I") f9_wsX8_passYear_643) (fun _ h9 => h9) rfl dX8_passYear_49 ?_
  refine lv_icmp_ge (tgt := 75) hx hb dX8_passYear_52 (by decide) (fun c9 => ?_) (fun c9 => ?_)
  · rw [if_pos c9] at h
    refine lv_aload_n hx hb dX8_passYear_75 rfl (lv_at hl 0 rfl) ?_
    refine lv_dup hx hb dX8_passYear_76 rfl ?_
    refine va_get (D := D) (ci := 8) (v := .int (q.1 2 4)) (C := RX8) (T := TX8) (N := 5) hx hb hts u9_wsX8_passYear_X8 hown hK hP 2 rfl rfl 4 (by decide) (hts (.fieldLink RX8 25 "TurnedFloors$Tower" "year" "I") f9_wsX8_passYear_644) (fun _ h9 => h9) rfl dX8_passYear_77 ?_
    refine lv_iconst (v := 1) hx hb dX8_passYear_80 (by decide) ?_
    refine lv_iadd hx hb dX8_passYear_81 ?_
    refine va_put (D := D) (ci := 8) (v := .int ((q.1 2 4) + 1 : Int32)) (ty := .int) (C := RX8) (T := TX8) (N := 5) hx hb hts u9_wsX8_passYear_X8 tyX8 tyX8_ok nmX8 hown hK hP hD hS 2 rfl rfl 4 (by decide) (hts (.fieldLink RX8 25 "TurnedFloors$Tower" "year" "I") f9_wsX8_passYear_644) (fun _ h9 => h9) rfl (by decide +kernel) rfl rfl (Nat.le_of_ble_eq_true rfl) dX8_passYear_82 (fun H locs hp hd hs => ?_)
    obtain ⟨q1, eq1, h⟩ := dL_some h
    refine kz_re (w2 := wF ty ad q1) hp hd hs (by rw [← eq1]; exact wF_f2_4 ty ad q ((q.1 2 4) + 1 : Int32)) ?_
    clear hp hd hs hP hD hS
    intro hP hD hS
    refine lv_iload_n hx hb dX8_passYear_85 rfl (lv_at hl 1 rfl) ?_
    obtain ⟨r2, h3, h⟩ := dV_some h
    refine dw_ks (va_runS (As := [.int x2]) (rest := []) ⟨hx, hb, hml, hown, hts⟩ (qJ6_bitCount_0f7a4 l D ty eo _ x2 _ h3) (va_cwS 1 hts gX8_passYear_J6_bitCount_0f7a4 rfl rfl rfl hd_J6_bitCount_0f7a4 ⟨Nat.le_of_ble_eq_true rfl, Nat.le_of_ble_eq_true rfl⟩) (pvS_0 hK hN hE hP hD hS hA) rfl rfl hl.1 rfl (lv_room (Nat.le_of_ble_eq_true rfl)) dX8_passYear_86 ⟨Nat.le_of_ble_eq_true rfl, Nat.le_of_ble_eq_true rfl⟩) hP hD hS hA (fun _ _ h9 => h9.2.symm) (fun r9 u9 H locs hw hp hd hs => ?_)
    obtain ⟨rfl, -⟩ := hw
    clear hP hD hS
    have hP := hp; have hD := hd; have hS := hs; clear hp hd hs
    cases h
    exact kz_iret hx hb hr hlocks hP hK hD hS dX8_passYear_89 ⟨rfl, rfl⟩
  · rw [if_neg c9] at h
    refine lv_aload_n hx hb dX8_passYear_55 rfl (lv_at hl 0 rfl) ?_
    refine va_get (D := D) (ci := 8) (v := .ref (ad 4)) (C := RX8) (T := TX8) (N := 5) hx hb hts u9_wsX8_passYear_X8 hown hK hP 2 rfl rfl 1 (by decide) (hts (.fieldLink RX8 15 "TurnedFloors$Tower" "head" "[I") f9_wsX8_passYear_645) (fun _ h9 => h9) rfl dX8_passYear_56 ?_
    refine lv_iload_n hx hb dX8_passYear_59 rfl (lv_at hl 2 rfl) ?_
    refine lv_dup2_11 hx hb dX8_passYear_60 rfl rfl ?_
    obtain ⟨g4, h⟩ := dG_some h
    refine va_iald hx hb hK hP 4 0 rfl rfl (dg_in g4) dX8_passYear_61 ?_
    obtain ⟨v5, ev5, h⟩ := dL_some h
    refine kz_topi v5 ev5 ?_
    refine lv_iload_n hx hb dX8_passYear_62 rfl (lv_at hl 1 rfl) ?_
    refine lv_iload_n hx hb dX8_passYear_63 rfl (lv_at hl 2 rfl) ?_
    refine lv_ishr hx hb dX8_passYear_64 ?_
    refine lv_iconst (v := 1) hx hb dX8_passYear_65 (by decide) ?_
    refine lv_iand hx hb dX8_passYear_66 ?_
    refine lv_ixor hx hb dX8_passYear_67 ?_
    obtain ⟨g6, h⟩ := dG_some h
    refine va_iast hx hb hK hP hD hS 4 0 rfl rfl (dg_in g6) dX8_passYear_68 (fun H locs hp hd hs => ?_)
    obtain ⟨q7, eq7, h⟩ := dL_some h
    refine kz_re (w2 := wF ty ad q7) hp hd hs (by rw [← eq7]; exact wF_a4 ty ad q (Int32.toNatClampNeg x3) (v5 ^^^ ((x2 >>> ((x3 : Int32) &&& 31)) &&& 1 : Int32))) ?_
    clear hp hd hs hP hD hS
    intro hP hD hS
    refine lv_iinc (v := x3 + 1) (lv' := [(3, .int (x3 + 1)), (0, .ref (ad 2)), (2, .int x2)]) hx hb dX8_passYear_69 hl (k := 2) rfl rfl (by decide) rfl (fun ls hl => ?_)
    refine lv_goto (tgt := 47) hx hb dX8_passYear_72 (by decide) ?_
    exact hk47 _ _ _ _ _ _ h hP hD hS (lv_sub hl [1, 2, 0] rfl)
set_option maxHeartbeats 4000000 in
set_option maxRecDepth 100000 in
theorem WX8_passYear_s2_s20_47 {p : Program} {l : Launch} {e : Env} {s : State} {m : MethodId} {args : Array Value} {below : List Frame} {meth : Method} {c : Code} {D : va_G} {ty : Nat → ClassId} {eo : Nat → Nat} {A : Nat → Prop} {ad : Nat → Nat} {o1 : Int32} {o2 : dK} (C : dc_C p s m args meth c cX8_passYear (some .int) 4 RX8 wsX8_passYear D ty eo A)   (n : Nat) (q : dK) (x2 : Int32) (x3 : Int32) (H : Heap) (locs : List Loc) (ls : Array Slot) (h : zX8_passYear_s2_s20_47  n q x2 x3 = some (o1, o2)) (hP : va_P D vwCl (wF ty ad q) H) (hD : va_D A (wF ty ad q)) (hS : va_S A s.heap H locs) (hl : lv_has ls 4 [(0, .ref (ad 2)), (2, .int x2), (3, .int x3)]) : W p l e ({ frames := 4, cells := 0, slots := 0, locals := 103 } : Room) s m args below meth c H locs 0 0 (MQ below (va_Qi (fun (r : Int32) (u : va_W) => o1 = r ∧ wF ty ad o2 = u) (kz_B D ty A) A) args s 0 0 A) (F0 m 47 ls []) := by
  exact dFix_W (F := fun k (a : dK × Int32 × Int32) => zX8_passYear_s2_s20_47b  (fun q x2 x3 => k (q, x2, x3)) a.1 a.2.1 a.2.2) (o := (o1, o2)) (P := fun (a : dK × Int32 × Int32) H locs ls => va_P D vwCl (wF ty ad a.1) H ∧ va_D A (wF ty ad a.1) ∧ va_S A s.heap H locs ∧ lv_has ls 4 [(0, .ref (ad 2)), (2, .int a.2.1), (3, .int a.2.2)]) (G := fun H locs ls => W p l e ({ frames := 4, cells := 0, slots := 0, locals := 103 } : Room) s m args below meth c H locs 0 0 (MQ below (va_Qi (fun (r : Int32) (u : va_W) => o1 = r ∧ wF ty ad o2 = u) (kz_B D ty A) A) args s 0 0 A) (F0 m 47 ls []))
    (fun k hk a H locs ls h hp => WX8_passYear_s2_s20_47b C  (fun q x2 x3 H locs ls h h1 h2 h3 h4 => hk (q, x2, x3) H locs ls h ⟨h1, h2, h3, h4⟩) a.1 a.2.1 a.2.2 H locs ls h hp.1 hp.2.1 hp.2.2.1 hp.2.2.2) n (q, x2, x3) H locs ls h ⟨hP, hD, hS, hl⟩
set_option maxHeartbeats 4000000 in
set_option maxRecDepth 100000 in
theorem WX8_passYear_s2_s20_17b {p : Program} {l : Launch} {e : Env} {s : State} {m : MethodId} {args : Array Value} {below : List Frame} {meth : Method} {c : Code} {D : va_G} {ty : Nat → ClassId} {eo : Nat → Nat} {A : Nat → Prop} {ad : Nat → Nat} {o1 : Int32} {o2 : dK} (C : dc_C p s m args meth c cX8_passYear (some .int) 4 RX8 wsX8_passYear D ty eo A) {k17 : dK → Int32 → Int32 → Option (Int32 × dK)} (hk17 : ∀ (q : dK) (x2 : Int32) (x3 : Int32) (H : Heap) (locs : List Loc) (ls : Array Slot), k17 q x2 x3 = some (o1, o2) → va_P D vwCl (wF ty ad q) H → va_D A (wF ty ad q) → va_S A s.heap H locs → lv_has ls 4 [(0, .ref (ad 2)), (1, .ref (ad 20)), (2, .int x2), (3, .int x3)] → W p l e ({ frames := 4, cells := 0, slots := 0, locals := 103 } : Room) s m args below meth c H locs 0 0 (MQ below (va_Qi (fun (r : Int32) (u : va_W) => o1 = r ∧ wF ty ad o2 = u) (kz_B D ty A) A) args s 0 0 A) (F0 m 17 ls [])) (q : dK) (x2 : Int32) (x3 : Int32) (H : Heap) (locs : List Loc) (ls : Array Slot) (h : zX8_passYear_s2_s20_17b k17 q x2 x3 = some (o1, o2)) (hP : va_P D vwCl (wF ty ad q) H) (hD : va_D A (wF ty ad q)) (hS : va_S A s.heap H locs) (hl : lv_has ls 4 [(0, .ref (ad 2)), (1, .ref (ad 20)), (2, .int x2), (3, .int x3)]) : W p l e ({ frames := 4, cells := 0, slots := 0, locals := 103 } : Room) s m args below meth c H locs 0 0 (MQ below (va_Qi (fun (r : Int32) (u : va_W) => o1 = r ∧ wF ty ad o2 = u) (kz_B D ty A) A) args s 0 0 A) (F0 m 17 ls []) := by
  have C0 := C
  obtain ⟨hx, hb, hr, hts, hown, hlocks, hml, hK, hN, hE, hA⟩ := C
  unfold zX8_passYear_s2_s20_17b at h
  refine lv_iload_n hx hb dX8_passYear_17 rfl (lv_at hl 3 rfl) ?_
  refine lv_aload_n hx hb dX8_passYear_18 rfl (lv_at hl 0 rfl) ?_
  refine va_get (D := D) (ci := 8) (v := .int (q.1 2 2)) (C := RX8) (T := TX8) (N := 5) hx hb hts u9_wsX8_passYear_X8 hown hK hP 2 rfl rfl 2 (by decide) (hts (.fieldLink RX8 18 "TurnedFloors$Tower" "floors" "I") f9_wsX8_passYear_643) (fun _ h9 => h9) rfl dX8_passYear_19 ?_
  refine lv_icmp_ge (tgt := 45) hx hb dX8_passYear_22 (by decide) (fun c9 => ?_) (fun c9 => ?_)
  · rw [if_pos c9] at h
    refine lv_iconst (v := 0) hx hb dX8_passYear_45 (by decide) ?_
    refine lv_istore_n (lv' := [(3, .int 0), (0, .ref (ad 2)), (1, .ref (ad 20)), (2, .int x2)]) hx hb dX8_passYear_46 rfl hl (by decide) rfl (fun ls hl => ?_)
    exact WX8_passYear_s2_s20_47 C0  _ _ _ _ _ _ _ h hP hD hS (lv_sub hl [1, 3, 0] rfl)
  · rw [if_neg c9] at h
    refine lv_iload_n hx hb dX8_passYear_25 rfl (lv_at hl 2 rfl) ?_
    refine lv_aload_n hx hb dX8_passYear_26 rfl (lv_at hl 1 rfl) ?_
    refine lv_aload_n hx hb dX8_passYear_27 rfl (lv_at hl 0 rfl) ?_
    refine lv_iload_n hx hb dX8_passYear_28 rfl (lv_at hl 3 rfl) ?_
    obtain ⟨r1, q3, h2, h⟩ := dB_some h
    refine dw_ki (va_runV (As := [.ref (ad 2), .int x3]) (rest := [.int x2]) ⟨hx, hb, hml, hown, hts⟩ (qX1_tips_s20_s2 l D ty eo _ ad q x3 r1 q3 h2) (cwV 2 hts gX8_passYear_X1_tips rfl rfl rfl hd_X1_tips_v ⟨Nat.le_of_ble_eq_true rfl, Nat.le_of_ble_eq_true rfl⟩) (pvF_1_20 hK hN hE hP hD hS hA) rfl rfl hl.1 rfl (lv_room (Nat.le_of_ble_eq_true rfl)) dX8_passYear_29 ⟨Nat.le_of_ble_eq_true rfl, Nat.le_of_ble_eq_true rfl⟩) hD hS hA (fun r9 u9 H locs hw hp hd hs => ?_)
    clear hP hD hS
    obtain ⟨rfl, rfl⟩ := hw
    have hP := hp; have hD := hd; have hS := hs; clear hp hd hs
    obtain ⟨r4, h5, h⟩ := dV_some h
    refine dw_ks (va_runSN (As := [.int r1]) (rest := [.int x2]) ⟨hx, hb, hml, hown, hts⟩ (qX9_bit l D ty eo _ r1 _ h5) ⟨va_cnB 1 hts gX8_passYear_X9_bit_n79 rfl rfl rfl (hN.1 _ (by decide +kernel : (.methodLinkNest "TurnedFloors$Tower" 79 yX9_bit "TurnedFloors" : Cond) ∈ kzN1)) (hts (.initialized RX9) f9_wsX8_passYear_646) (by decide +kernel) ⟨Nat.le_of_ble_eq_true rfl, Nat.le_of_ble_eq_true rfl⟩, hts (.static yX9_bit) (by decide +kernel), trivial⟩ (pvS_0 hK hN hE hP hD hS hA) rfl rfl hl.1 rfl (lv_room (Nat.le_of_ble_eq_true rfl)) dX8_passYear_32 ⟨Nat.le_of_ble_eq_true rfl, Nat.le_of_ble_eq_true rfl⟩) hP hD hS hA (fun _ _ h9 => h9.2.symm) (fun r9 u9 H locs hw hp hd hs => ?_)
    obtain ⟨rfl, -⟩ := hw
    clear hP hD hS
    have hP := hp; have hD := hd; have hS := hs; clear hp hd hs
    refine lv_iload_n hx hb dX8_passYear_35 rfl (lv_at hl 3 rfl) ?_
    refine lv_ishl hx hb dX8_passYear_36 ?_
    refine lv_ior hx hb dX8_passYear_37 ?_
    refine lv_istore_n (lv' := [(2, .int (x2 ||| (r4 <<< ((x3 : Int32) &&& 31)))), (0, .ref (ad 2)), (1, .ref (ad 20)), (3, .int x3)]) hx hb dX8_passYear_38 rfl hl (by decide) rfl (fun ls hl => ?_)
    refine lv_iinc (v := x3 + 1) (lv' := [(3, .int (x3 + 1)), (2, .int (x2 ||| (r4 <<< ((x3 : Int32) &&& 31)))), (0, .ref (ad 2)), (1, .ref (ad 20))]) hx hb dX8_passYear_39 hl (k := 3) rfl rfl (by decide) rfl (fun ls hl => ?_)
    refine lv_goto (tgt := 17) hx hb dX8_passYear_42 (by decide) ?_
    exact hk17 _ _ _ _ _ _ h hP hD hS (lv_sub hl [2, 3, 1, 0] rfl)
set_option maxHeartbeats 4000000 in
set_option maxRecDepth 100000 in
theorem WX8_passYear_s2_s20_17 {p : Program} {l : Launch} {e : Env} {s : State} {m : MethodId} {args : Array Value} {below : List Frame} {meth : Method} {c : Code} {D : va_G} {ty : Nat → ClassId} {eo : Nat → Nat} {A : Nat → Prop} {ad : Nat → Nat} {o1 : Int32} {o2 : dK} (C : dc_C p s m args meth c cX8_passYear (some .int) 4 RX8 wsX8_passYear D ty eo A)   (n : Nat) (q : dK) (x2 : Int32) (x3 : Int32) (H : Heap) (locs : List Loc) (ls : Array Slot) (h : zX8_passYear_s2_s20_17  n q x2 x3 = some (o1, o2)) (hP : va_P D vwCl (wF ty ad q) H) (hD : va_D A (wF ty ad q)) (hS : va_S A s.heap H locs) (hl : lv_has ls 4 [(0, .ref (ad 2)), (1, .ref (ad 20)), (2, .int x2), (3, .int x3)]) : W p l e ({ frames := 4, cells := 0, slots := 0, locals := 103 } : Room) s m args below meth c H locs 0 0 (MQ below (va_Qi (fun (r : Int32) (u : va_W) => o1 = r ∧ wF ty ad o2 = u) (kz_B D ty A) A) args s 0 0 A) (F0 m 17 ls []) := by
  exact dFix_W (F := fun k (a : dK × Int32 × Int32) => zX8_passYear_s2_s20_17b  (fun q x2 x3 => k (q, x2, x3)) a.1 a.2.1 a.2.2) (o := (o1, o2)) (P := fun (a : dK × Int32 × Int32) H locs ls => va_P D vwCl (wF ty ad a.1) H ∧ va_D A (wF ty ad a.1) ∧ va_S A s.heap H locs ∧ lv_has ls 4 [(0, .ref (ad 2)), (1, .ref (ad 20)), (2, .int a.2.1), (3, .int a.2.2)]) (G := fun H locs ls => W p l e ({ frames := 4, cells := 0, slots := 0, locals := 103 } : Room) s m args below meth c H locs 0 0 (MQ below (va_Qi (fun (r : Int32) (u : va_W) => o1 = r ∧ wF ty ad o2 = u) (kz_B D ty A) A) args s 0 0 A) (F0 m 17 ls []))
    (fun k hk a H locs ls h hp => WX8_passYear_s2_s20_17b C  (fun q x2 x3 H locs ls h h1 h2 h3 h4 => hk (q, x2, x3) H locs ls h ⟨h1, h2, h3, h4⟩) a.1 a.2.1 a.2.2 H locs ls h hp.1 hp.2.1 hp.2.2.1 hp.2.2.2) n (q, x2, x3) H locs ls h ⟨hP, hD, hS, hl⟩
set_option maxHeartbeats 4000000 in
set_option maxRecDepth 100000 in
theorem qX8_passYear_s2_s20 (l : Launch) (D : va_G) (ty : Nat → ClassId) (eo : Nat → Nat) (sz : Nat) (ad : Nat → Nat) (q : dK)  (o1 : Int32) (o2 : dK) (h : zX8_passYear_s2_s20 q = some (o1, o2)) : Met l yX8_passYear wsX8_passYear ({ frames := 4, cells := 0, slots := 0, locals := 103 } : Room) (va_Pc [.ref (ad 2), .ref (ad 20)] (kz_pre D ty eo (wF ty ad q) sz)) (va_Qi (fun (r : Int32) (u : va_W) => o1 = r ∧ wF ty ad o2 = u) (kz_B D ty (va_A (wF ty ad q) sz)) (va_A (wF ty ad q) sz)) 0 0 (va_A (wF ty ad q) sz) := by
  refine Met.ofW (cc := cX8_passYear) (maxL := 4) (ret := (some .int)) (by decide) rfl ?_
  intro p e s m args below meth c s₁ B hml hv
  obtain ⟨rfl, hsz, hP, hK, hD0, hN, hE⟩ := hv
  have hx := B.exec
  have hb := B.bytes
  have hr := B.returns
  have hts := atoms_spec (ws := wsX8_passYear) B.pre
  have hown : s.vm.findClass RX8 = some m.cls := findClass_of_methodNamed B.named
  have hlocks := B.notSynchronized
  subst hsz
  have hD := hD0.self (sz := s.heap.size)
  generalize hAe : va_A (wF ty ad q) s.heap.size = A at hD hE ⊢
  have hA : ∀ q : Nat, s.heap.size ≤ q → A q := fun q h => by rw [← hAe]; exact Or.inr h
  clear hAe
  have hS : va_S A s.heap s.heap [] := va_S.rf
  have hl := lv_entry ([.ref (ad 2), .ref (ad 20)]) (n := 4) (Nat.le_of_ble_eq_true rfl)
  rw [lg_entry_eq]
  generalize (lg_sl ([.ref (ad 2), .ref (ad 20)]) ++ List.replicate (4 - (lg_sl ([.ref (ad 2), .ref (ad 20)])).length) Slot.unset).toArray = ls at hl ⊢
  have hl : lv_has ls 4 [(0, .ref (ad 2)), (1, .ref (ad 20))] := hl
  have C : dc_C p s m _ meth c cX8_passYear (some .int) 4 RX8 wsX8_passYear D ty eo A := ⟨hx, hb, hr, hts, hown, hlocks, hml, hK, hN, hE, hA⟩
  unfold zX8_passYear_s2_s20 at h
  refine lv_aload_n hx hb dX8_passYear_0 rfl (lv_at hl 0 rfl) ?_
  refine va_get (D := D) (ci := 8) (v := .int (q.1 2 4)) (C := RX8) (T := TX8) (N := 5) hx hb hts u9_wsX8_passYear_X8 hown hK hP 2 rfl rfl 4 (by decide) (hts (.fieldLink RX8 25 "TurnedFloors$Tower" "year" "I") f9_wsX8_passYear_644) (fun _ h9 => h9) rfl dX8_passYear_1 ?_
  refine lv_sipush (v := 999) hx hb dX8_passYear_4 (by decide) ?_
  refine lv_icmp_lt (tgt := 13) hx hb dX8_passYear_7 (by decide) (fun c9 => ?_) (fun c9 => ?_)
  · rw [if_pos c9] at h
    refine lv_iconst (v := 0) hx hb dX8_passYear_13 (by decide) ?_
    refine lv_istore_n (lv' := [(2, .int 0), (0, .ref (ad 2)), (1, .ref (ad 20))]) hx hb dX8_passYear_14 rfl hl (by decide) rfl (fun ls hl => ?_)
    refine lv_iconst (v := 0) hx hb dX8_passYear_15 (by decide) ?_
    refine lv_istore_n (lv' := [(3, .int 0), (2, .int 0), (0, .ref (ad 2)), (1, .ref (ad 20))]) hx hb dX8_passYear_16 rfl hl (by decide) rfl (fun ls hl => ?_)
    exact WX8_passYear_s2_s20_17 C  _ _ _ _ _ _ _ h hP hD hS (lv_sub hl [2, 3, 1, 0] rfl)
  · rw [if_neg c9] at h
    refine lv_bipush (v := (-3)) hx hb dX8_passYear_10 (by decide) ?_
    cases h
    exact kz_iret hx hb hr hlocks hP hK hD hS dX8_passYear_12 ⟨rfl, rfl⟩

set_option maxHeartbeats 4000000 in
set_option maxRecDepth 100000 in
theorem qX8_act_s2_s20 (l : Launch) (D : va_G) (ty : Nat → ClassId) (eo : Nat → Nat) (sz : Nat) (ad : Nat → Nat) (q : dK) (p1 : Int32) (p2 : Int32) (o1 : Int32) (o2 : dK) (h : zX8_act_s2_s20 q p1 p2 = some (o1, o2)) : Met l yX8_act wsX8_act ({ frames := 5, cells := 0, slots := 0, locals := 128 } : Room) (va_Pc [.ref (ad 2), .int p1, .int p2, .ref (ad 20)] (kz_pre D ty eo (wF ty ad q) sz)) (va_Qi (fun (r : Int32) (u : va_W) => o1 = r ∧ wF ty ad o2 = u) (kz_B D ty (va_A (wF ty ad q) sz)) (va_A (wF ty ad q) sz)) 0 0 (va_A (wF ty ad q) sz) := by
  refine Met.ofW (cc := cX8_act) (maxL := 4) (ret := (some .int)) (by decide) rfl ?_
  intro p e s m args below meth c s₁ B hml hv
  obtain ⟨rfl, hsz, hP, hK, hD0, hN, hE⟩ := hv
  have hx := B.exec
  have hb := B.bytes
  have hr := B.returns
  have hts := atoms_spec (ws := wsX8_act) B.pre
  have hown : s.vm.findClass RX8 = some m.cls := findClass_of_methodNamed B.named
  have hlocks := B.notSynchronized
  subst hsz
  have hD := hD0.self (sz := s.heap.size)
  generalize hAe : va_A (wF ty ad q) s.heap.size = A at hD hE ⊢
  have hA : ∀ q : Nat, s.heap.size ≤ q → A q := fun q h => by rw [← hAe]; exact Or.inr h
  clear hAe
  have hS : va_S A s.heap s.heap [] := va_S.rf
  have hl := lv_entry ([.ref (ad 2), .int p1, .int p2, .ref (ad 20)]) (n := 4) (Nat.le_of_ble_eq_true rfl)
  rw [lg_entry_eq]
  generalize (lg_sl ([.ref (ad 2), .int p1, .int p2, .ref (ad 20)]) ++ List.replicate (4 - (lg_sl ([.ref (ad 2), .int p1, .int p2, .ref (ad 20)])).length) Slot.unset).toArray = ls at hl ⊢
  have hl : lv_has ls 4 [(0, .ref (ad 2)), (1, .int p1), (2, .int p2), (3, .ref (ad 20))] := hl
  have C : dc_C p s m _ meth c cX8_act (some .int) 4 RX8 wsX8_act D ty eo A := ⟨hx, hb, hr, hts, hown, hlocks, hml, hK, hN, hE, hA⟩
  unfold zX8_act_s2_s20 at h
  refine lv_iload_n hx hb dX8_act_0 rfl (lv_at hl 1 rfl) ?_
  by_cases c1 : p1 = 0
  · rw [if_pos c1] at h
    refine lv_tableIn (off := 31) (tgt := 32) hx hb dX8_act_1 (by rw [c1]; decide) (by rw [c1]; decide) (by rw [c1]; decide) (by decide) ?_
    refine lv_aload_n hx hb dX8_act_32 rfl (lv_at hl 0 rfl) ?_
    refine lv_iload_n hx hb dX8_act_33 rfl (lv_at hl 2 rfl) ?_
    refine lv_aload_n hx hb dX8_act_34 rfl (lv_at hl 3 rfl) ?_
    obtain ⟨r2, q4, h3, h⟩ := dB_some h
    refine dw_ki (va_runV (As := [.int p2, .ref (ad 20)]) (rest := []) ⟨hx, hb, hml, hown, hts⟩ (qX8_turnTop_s2_s20 l D ty eo _ ad q p2 r2 q4 h3) (cwV 2 hts gX8_act_X8_turnTop rfl rfl rfl hd_X8_turnTop_v ⟨Nat.le_of_ble_eq_true rfl, Nat.le_of_ble_eq_true rfl⟩) (pvF_8_2 hK hN hE hP hD hS hA) rfl rfl hl.1 rfl (lv_room (Nat.le_of_ble_eq_true rfl)) dX8_act_35 ⟨Nat.le_of_ble_eq_true rfl, Nat.le_of_ble_eq_true rfl⟩) hD hS hA (fun r9 u9 H locs hw hp hd hs => ?_)
    clear hP hD hS
    obtain ⟨rfl, rfl⟩ := hw
    have hP := hp; have hD := hd; have hS := hs; clear hp hd hs
    cases h
    exact kz_iret hx hb hr hlocks hP hK hD hS dX8_act_38 ⟨rfl, rfl⟩
  rw [if_neg c1] at h
  by_cases c5 : p1 = 1
  · rw [if_pos c5] at h
    refine lv_tableIn (off := 38) (tgt := 39) hx hb dX8_act_1 (by rw [c5]; decide) (by rw [c5]; decide) (by rw [c5]; decide) (by decide) ?_
    refine lv_aload_n hx hb dX8_act_39 rfl (lv_at hl 0 rfl) ?_
    refine lv_iload_n hx hb dX8_act_40 rfl (lv_at hl 2 rfl) ?_
    obtain ⟨r6, q8, h7, h⟩ := dB_some h
    refine dw_ki (va_runV (As := [.int p2]) (rest := []) ⟨hx, hb, hml, hown, hts⟩ (qX8_rightAt_s2 l D ty eo _ ad q p2 r6 q8 h7) (cwV 1 hts gX8_act_X8_rightAt rfl rfl rfl hd_X8_rightAt_v ⟨Nat.le_of_ble_eq_true rfl, Nat.le_of_ble_eq_true rfl⟩) (pvF_8_2 hK hN hE hP hD hS hA) rfl rfl hl.1 rfl (lv_room (Nat.le_of_ble_eq_true rfl)) dX8_act_41 ⟨Nat.le_of_ble_eq_true rfl, Nat.le_of_ble_eq_true rfl⟩) hD hS hA (fun r9 u9 H locs hw hp hd hs => ?_)
    clear hP hD hS
    obtain ⟨rfl, rfl⟩ := hw
    have hP := hp; have hD := hd; have hS := hs; clear hp hd hs
    cases h
    exact kz_iret hx hb hr hlocks hP hK hD hS dX8_act_44 ⟨rfl, rfl⟩
  rw [if_neg c5] at h
  by_cases c9 : p1 = 2
  · rw [if_pos c9] at h
    refine lv_tableIn (off := 44) (tgt := 45) hx hb dX8_act_1 (by rw [c9]; decide) (by rw [c9]; decide) (by rw [c9]; decide) (by decide) ?_
    refine lv_aload_n hx hb dX8_act_45 rfl (lv_at hl 0 rfl) ?_
    refine lv_iload_n hx hb dX8_act_46 rfl (lv_at hl 2 rfl) ?_
    obtain ⟨r10, q12, h11, h⟩ := dB_some h
    refine dw_ki (va_runV (As := [.int p2]) (rest := []) ⟨hx, hb, hml, hown, hts⟩ (qX8_swapAt_s2 l D ty eo _ ad q p2 r10 q12 h11) (cwV 1 hts gX8_act_X8_swapAt rfl rfl rfl hd_X8_swapAt_v ⟨Nat.le_of_ble_eq_true rfl, Nat.le_of_ble_eq_true rfl⟩) (pvF_8_2 hK hN hE hP hD hS hA) rfl rfl hl.1 rfl (lv_room (Nat.le_of_ble_eq_true rfl)) dX8_act_47 ⟨Nat.le_of_ble_eq_true rfl, Nat.le_of_ble_eq_true rfl⟩) hD hS hA (fun r9 u9 H locs hw hp hd hs => ?_)
    clear hP hD hS
    obtain ⟨rfl, rfl⟩ := hw
    have hP := hp; have hD := hd; have hS := hs; clear hp hd hs
    cases h
    exact kz_iret hx hb hr hlocks hP hK hD hS dX8_act_50 ⟨rfl, rfl⟩
  rw [if_neg c9] at h
  by_cases c13 : p1 = 3
  · rw [if_pos c13] at h
    refine lv_tableIn (off := 50) (tgt := 51) hx hb dX8_act_1 (by rw [c13]; decide) (by rw [c13]; decide) (by rw [c13]; decide) (by decide) ?_
    refine lv_aload_n hx hb dX8_act_51 rfl (lv_at hl 0 rfl) ?_
    refine lv_aload_n hx hb dX8_act_52 rfl (lv_at hl 3 rfl) ?_
    obtain ⟨r14, q16, h15, h⟩ := dB_some h
    refine dw_ki (va_runV (As := [.ref (ad 20)]) (rest := []) ⟨hx, hb, hml, hown, hts⟩ (qX8_passYear_s2_s20 l D ty eo _ ad q  r14 q16 h15) (cwV 1 hts gX8_act_X8_passYear rfl rfl rfl hd_X8_passYear_v ⟨Nat.le_of_ble_eq_true rfl, Nat.le_of_ble_eq_true rfl⟩) (pvF_8_2 hK hN hE hP hD hS hA) rfl rfl hl.1 rfl (lv_room (Nat.le_of_ble_eq_true rfl)) dX8_act_53 ⟨Nat.le_of_ble_eq_true rfl, Nat.le_of_ble_eq_true rfl⟩) hD hS hA (fun r9 u9 H locs hw hp hd hs => ?_)
    clear hP hD hS
    obtain ⟨rfl, rfl⟩ := hw
    have hP := hp; have hD := hd; have hS := hs; clear hp hd hs
    cases h
    exact kz_iret hx hb hr hlocks hP hK hD hS dX8_act_56 ⟨rfl, rfl⟩
  rw [if_neg c13] at h
  refine lv_tableOut (tgt := 57) hx hb dX8_act_1 (by simp only [← Int32.toInt_inj, Int32.reduceToInt] at c1 c5 c9 c13; omega) (by decide) ?_
  refine lv_bipush (v := (-3)) hx hb dX8_act_57 (by decide) ?_
  cases h
  exact kz_iret hx hb hr hlocks hP hK hD hS dX8_act_59 ⟨rfl, rfl⟩

set_option maxHeartbeats 4000000 in
set_option maxRecDepth 100000 in
theorem WX0_keep_s10_45 {p : Program} {l : Launch} {e : Env} {s : State} {m : MethodId} {args : Array Value} {below : List Frame} {meth : Method} {c : Code} {D : va_G} {ty : Nat → ClassId} {eo : Nat → Nat} {A : Nat → Prop} {ad : Nat → Nat} {o2 : dK} (C : dc_C p s m args meth c cX0_keep none 4 RX0 wsX0_keep D ty eo A)   (q : dK) (x1 : Int32) (x2 : Int64) (H : Heap) (locs : List Loc) (ls : Array Slot) (h : zX0_keep_s10_45  q x1 x2 = some o2) (hP : va_P D vwCl (wF ty ad q) H) (hD : va_D A (wF ty ad q)) (hS : va_S A s.heap H locs) (hl : lv_has ls 4 [(0, .ref (ad 10)), (1, .int x1), (2, .long x2)]) : W p l e ({ frames := 1, cells := 0, slots := 0, locals := 40 } : Room) s m args below meth c H locs 0 0 (MQ below (va_Qv (fun (u : va_W) => wF ty ad o2 = u) (kz_B D ty A) A) args s 0 0 A) (F0 m 45 ls []) := by
  have C0 := C
  obtain ⟨hx, hb, hr, hts, hown, hlocks, hml, hK, hN, hE, hA⟩ := C
  unfold zX0_keep_s10_45 at h
  refine lv_aload_n hx hb dX0_keep_45 rfl (lv_at hl 0 rfl) ?_
  refine va_get (D := D) (ci := 0) (v := .ref (ad 11)) (C := RX0) (T := TX0) (N := 6) hx hb hts u9_wsX0_keep_X0 hown hK hP 10 rfl rfl 0 (by decide) (hts (.fieldLink RX0 9 "TurnedFloors$History" "towers" "[J") f9_wsX0_keep_648) (fun _ h9 => h9) rfl dX0_keep_46 ?_
  refine lv_aload_n hx hb dX0_keep_49 rfl (lv_at hl 0 rfl) ?_
  refine va_get (D := D) (ci := 0) (v := .int (q.1 10 2)) (C := RX0) (T := TX0) (N := 6) hx hb hts u9_wsX0_keep_X0 hown hK hP 10 rfl rfl 2 (by decide) (hts (.fieldLink RX0 19 "TurnedFloors$History" "kept" "I") f9_wsX0_keep_649) (fun _ h9 => h9) rfl dX0_keep_50 ?_
  refine lv_lload_n hx hb dX0_keep_53 rfl (lv_at hl 2 rfl) ?_
  obtain ⟨g1, h⟩ := dG_some h
  refine va_last hx hb hK hP hD hS 11 1 rfl rfl (dg_in g1) dX0_keep_54 (fun H locs hp hd hs => ?_)
  obtain ⟨q2, eq2, h⟩ := dL_some h
  refine kz_re (w2 := wF ty ad q2) hp hd hs (by rw [← eq2]; exact wF_a11 ty ad q (Int32.toNatClampNeg (q.1 10 2)) x2) ?_
  clear hp hd hs hP hD hS
  intro hP hD hS
  refine lv_aload_n hx hb dX0_keep_55 rfl (lv_at hl 0 rfl) ?_
  refine va_get (D := D) (ci := 0) (v := .ref (ad 12)) (C := RX0) (T := TX0) (N := 6) hx hb hts u9_wsX0_keep_X0 hown hK hP 10 rfl rfl 1 (by decide) (hts (.fieldLink RX0 15 "TurnedFloors$History" "kinds" "[I") f9_wsX0_keep_650) (fun _ h9 => h9) rfl dX0_keep_56 ?_
  refine lv_aload_n hx hb dX0_keep_59 rfl (lv_at hl 0 rfl) ?_
  refine va_get (D := D) (ci := 0) (v := .int (q2.1 10 2)) (C := RX0) (T := TX0) (N := 6) hx hb hts u9_wsX0_keep_X0 hown hK hP 10 rfl rfl 2 (by decide) (hts (.fieldLink RX0 19 "TurnedFloors$History" "kept" "I") f9_wsX0_keep_649) (fun _ h9 => h9) rfl dX0_keep_60 ?_
  refine lv_iload_n hx hb dX0_keep_63 rfl (lv_at hl 1 rfl) ?_
  obtain ⟨g3, h⟩ := dG_some h
  refine va_iast hx hb hK hP hD hS 12 0 rfl rfl (dg_in g3) dX0_keep_64 (fun H locs hp hd hs => ?_)
  obtain ⟨q4, eq4, h⟩ := dL_some h
  refine kz_re (w2 := wF ty ad q4) hp hd hs (by rw [← eq4]; exact wF_a12 ty ad q2 (Int32.toNatClampNeg (q2.1 10 2)) x1) ?_
  clear hp hd hs hP hD hS
  intro hP hD hS
  refine lv_aload_n hx hb dX0_keep_65 rfl (lv_at hl 0 rfl) ?_
  refine lv_dup hx hb dX0_keep_66 rfl ?_
  refine va_get (D := D) (ci := 0) (v := .int (q4.1 10 2)) (C := RX0) (T := TX0) (N := 6) hx hb hts u9_wsX0_keep_X0 hown hK hP 10 rfl rfl 2 (by decide) (hts (.fieldLink RX0 19 "TurnedFloors$History" "kept" "I") f9_wsX0_keep_649) (fun _ h9 => h9) rfl dX0_keep_67 ?_
  refine lv_iconst (v := 1) hx hb dX0_keep_70 (by decide) ?_
  refine lv_iadd hx hb dX0_keep_71 ?_
  refine va_put (D := D) (ci := 0) (v := .int ((q4.1 10 2) + 1 : Int32)) (ty := .int) (C := RX0) (T := TX0) (N := 6) hx hb hts u9_wsX0_keep_X0 tyX0 tyX0_ok nmX0 hown hK hP hD hS 10 rfl rfl 2 (by decide) (hts (.fieldLink RX0 19 "TurnedFloors$History" "kept" "I") f9_wsX0_keep_649) (fun _ h9 => h9) rfl (by decide +kernel) rfl rfl (Nat.le_of_ble_eq_true rfl) dX0_keep_72 (fun H locs hp hd hs => ?_)
  obtain ⟨q5, eq5, h⟩ := dL_some h
  refine kz_re (w2 := wF ty ad q5) hp hd hs (by rw [← eq5]; exact wF_f10_2 ty ad q4 ((q4.1 10 2) + 1 : Int32)) ?_
  clear hp hd hs hP hD hS
  intro hP hD hS
  cases h
  exact kz_vret hx hb hr hlocks hP hK hD hS dX0_keep_75 rfl
set_option maxHeartbeats 4000000 in
set_option maxRecDepth 100000 in
theorem qX0_keep_s10 (l : Launch) (D : va_G) (ty : Nat → ClassId) (eo : Nat → Nat) (sz : Nat) (ad : Nat → Nat) (q : dK) (p1 : Int32) (p2 : Int64) (o2 : dK) (h : zX0_keep_s10 q p1 p2 = some o2) : Met l yX0_keep wsX0_keep ({ frames := 1, cells := 0, slots := 0, locals := 40 } : Room) (va_Pc [.ref (ad 10), .int p1, .long p2] (kz_pre D ty eo (wF ty ad q) sz)) (va_Qv (fun (u : va_W) => wF ty ad o2 = u) (kz_B D ty (va_A (wF ty ad q) sz)) (va_A (wF ty ad q) sz)) 0 0 (va_A (wF ty ad q) sz) := by
  refine Met.ofW (cc := cX0_keep) (maxL := 4) (ret := none) (by decide) rfl ?_
  intro p e s m args below meth c s₁ B hml hv
  obtain ⟨rfl, hsz, hP, hK, hD0, hN, hE⟩ := hv
  have hx := B.exec
  have hb := B.bytes
  have hr := B.returns
  have hts := atoms_spec (ws := wsX0_keep) B.pre
  have hown : s.vm.findClass RX0 = some m.cls := findClass_of_methodNamed B.named
  have hlocks := B.notSynchronized
  subst hsz
  have hD := hD0.self (sz := s.heap.size)
  generalize hAe : va_A (wF ty ad q) s.heap.size = A at hD hE ⊢
  have hA : ∀ q : Nat, s.heap.size ≤ q → A q := fun q h => by rw [← hAe]; exact Or.inr h
  clear hAe
  have hS : va_S A s.heap s.heap [] := va_S.rf
  have hl := lv_entry ([.ref (ad 10), .int p1, .long p2]) (n := 4) (Nat.le_of_ble_eq_true rfl)
  rw [lg_entry_eq]
  generalize (lg_sl ([.ref (ad 10), .int p1, .long p2]) ++ List.replicate (4 - (lg_sl ([.ref (ad 10), .int p1, .long p2])).length) Slot.unset).toArray = ls at hl ⊢
  have hl : lv_has ls 4 [(0, .ref (ad 10)), (1, .int p1), (2, .long p2)] := hl
  have C : dc_C p s m _ meth c cX0_keep none 4 RX0 wsX0_keep D ty eo A := ⟨hx, hb, hr, hts, hown, hlocks, hml, hK, hN, hE, hA⟩
  unfold zX0_keep_s10 at h
  refine lv_aload_n hx hb dX0_keep_0 rfl (lv_at hl 0 rfl) ?_
  refine va_get (D := D) (ci := 0) (v := .int (q.1 10 2)) (C := RX0) (T := TX0) (N := 6) hx hb hts u9_wsX0_keep_X0 hown hK hP 10 rfl rfl 2 (by decide) (hts (.fieldLink RX0 19 "TurnedFloors$History" "kept" "I") f9_wsX0_keep_649) (fun _ h9 => h9) rfl dX0_keep_1 ?_
  refine lv_bipush (v := 16) hx hb dX0_keep_4 (by decide) ?_
  refine lv_icmp_lt (tgt := 45) hx hb dX0_keep_6 (by decide) (fun c9 => ?_) (fun c9 => ?_)
  · rw [if_pos c9] at h
    exact WX0_keep_s10_45 C  _ _ _ _ _ _ h hP hD hS (lv_sub hl [0, 1, 2] rfl)
  · rw [if_neg c9] at h
    refine lv_aload_n hx hb dX0_keep_9 rfl (lv_at hl 0 rfl) ?_
    refine va_get (D := D) (ci := 0) (v := .ref (ad 11)) (C := RX0) (T := TX0) (N := 6) hx hb hts u9_wsX0_keep_X0 hown hK hP 10 rfl rfl 0 (by decide) (hts (.fieldLink RX0 9 "TurnedFloors$History" "towers" "[J") f9_wsX0_keep_648) (fun _ h9 => h9) rfl dX0_keep_10 ?_
    refine lv_iconst (v := 1) hx hb dX0_keep_13 (by decide) ?_
    refine lv_aload_n hx hb dX0_keep_14 rfl (lv_at hl 0 rfl) ?_
    refine va_get (D := D) (ci := 0) (v := .ref (ad 11)) (C := RX0) (T := TX0) (N := 6) hx hb hts u9_wsX0_keep_X0 hown hK hP 10 rfl rfl 0 (by decide) (hts (.fieldLink RX0 9 "TurnedFloors$History" "towers" "[J") f9_wsX0_keep_648) (fun _ h9 => h9) rfl dX0_keep_15 ?_
    refine lv_iconst (v := 0) hx hb dX0_keep_18 (by decide) ?_
    refine lv_bipush (v := 15) hx hb dX0_keep_19 (by decide) ?_
    refine va_copyl hx hb (hml.trans hl.1.symm) hown (hts (.methodLink RX0 32 arraycopyName) f9_wsX0_keep_651) (hts (.native arraycopyName) f9_wsX0_keep_652) (hts (.static arraycopyName) f9_wsX0_keep_653) (hts (.initialized "java/lang/System") f9_wsX0_keep_654) hK hP hD hS 11 11 1 1 rfl rfl rfl rfl rfl (by decide) (by decide) (by decide) (by decide) (by decide) (fun _ _ => rfl) (Nat.le_of_ble_eq_true rfl) (Nat.le_of_ble_eq_true rfl) dX0_keep_21 (fun H locs hp hd hs => ?_)
    obtain ⟨q1, eq1, h⟩ := dL_some h
    refine kz_re (w2 := wF ty ad q1) hp hd hs (by rw [← eq1]; exact rfl) ?_
    clear hp hd hs hP hD hS
    intro hP hD hS
    refine lv_aload_n hx hb dX0_keep_24 rfl (lv_at hl 0 rfl) ?_
    refine va_get (D := D) (ci := 0) (v := .ref (ad 12)) (C := RX0) (T := TX0) (N := 6) hx hb hts u9_wsX0_keep_X0 hown hK hP 10 rfl rfl 1 (by decide) (hts (.fieldLink RX0 15 "TurnedFloors$History" "kinds" "[I") f9_wsX0_keep_650) (fun _ h9 => h9) rfl dX0_keep_25 ?_
    refine lv_iconst (v := 1) hx hb dX0_keep_28 (by decide) ?_
    refine lv_aload_n hx hb dX0_keep_29 rfl (lv_at hl 0 rfl) ?_
    refine va_get (D := D) (ci := 0) (v := .ref (ad 12)) (C := RX0) (T := TX0) (N := 6) hx hb hts u9_wsX0_keep_X0 hown hK hP 10 rfl rfl 1 (by decide) (hts (.fieldLink RX0 15 "TurnedFloors$History" "kinds" "[I") f9_wsX0_keep_650) (fun _ h9 => h9) rfl dX0_keep_30 ?_
    refine lv_iconst (v := 0) hx hb dX0_keep_33 (by decide) ?_
    refine lv_bipush (v := 15) hx hb dX0_keep_34 (by decide) ?_
    refine va_copyi hx hb (hml.trans hl.1.symm) hown (hts (.methodLink RX0 32 arraycopyName) f9_wsX0_keep_651) (hts (.native arraycopyName) f9_wsX0_keep_652) (hts (.static arraycopyName) f9_wsX0_keep_653) (hts (.initialized "java/lang/System") f9_wsX0_keep_654) hK hP hD hS 12 12 0 0 rfl rfl rfl rfl rfl (by decide) (by decide) (by decide) (by decide) (by decide) (fun _ _ => rfl) (Nat.le_of_ble_eq_true rfl) (Nat.le_of_ble_eq_true rfl) dX0_keep_36 (fun H locs hp hd hs => ?_)
    obtain ⟨q2, eq2, h⟩ := dL_some h
    refine kz_re (w2 := wF ty ad q2) hp hd hs (by rw [← eq2]; exact rfl) ?_
    clear hp hd hs hP hD hS
    intro hP hD hS
    refine lv_aload_n hx hb dX0_keep_39 rfl (lv_at hl 0 rfl) ?_
    refine lv_bipush (v := 15) hx hb dX0_keep_40 (by decide) ?_
    refine va_put (D := D) (ci := 0) (v := .int 15) (ty := .int) (C := RX0) (T := TX0) (N := 6) hx hb hts u9_wsX0_keep_X0 tyX0 tyX0_ok nmX0 hown hK hP hD hS 10 rfl rfl 2 (by decide) (hts (.fieldLink RX0 19 "TurnedFloors$History" "kept" "I") f9_wsX0_keep_649) (fun _ h9 => h9) rfl (by decide +kernel) rfl rfl (Nat.le_of_ble_eq_true rfl) dX0_keep_42 (fun H locs hp hd hs => ?_)
    obtain ⟨q3, eq3, h⟩ := dL_some h
    refine kz_re (w2 := wF ty ad q3) hp hd hs (by rw [← eq3]; exact wF_f10_2 ty ad q2 15) ?_
    clear hp hd hs hP hD hS
    intro hP hD hS
    exact WX0_keep_s10_45 C  _ _ _ _ _ _ h hP hD hS (lv_sub hl [0, 1, 2] rfl)

set_option maxHeartbeats 4000000 in
set_option maxRecDepth 100000 in
theorem WX8_unpack_s2_31b {p : Program} {l : Launch} {e : Env} {s : State} {m : MethodId} {args : Array Value} {below : List Frame} {meth : Method} {c : Code} {D : va_G} {ty : Nat → ClassId} {eo : Nat → Nat} {A : Nat → Prop} {ad : Nat → Nat} {o2 : dK} (C : dc_C p s m args meth c cX8_unpack none 6 RX8 wsX8_unpack D ty eo A) {k31 : dK → Int64 → Int32 → Option (dK)} (hk31 : ∀ (q : dK) (x3 : Int64) (x5 : Int32) (H : Heap) (locs : List Loc) (ls : Array Slot), k31 q x3 x5 = some o2 → va_P D vwCl (wF ty ad q) H → va_D A (wF ty ad q) → va_S A s.heap H locs → lv_has ls 6 [(0, .ref (ad 2)), (3, .long x3), (5, .int x5)] → W p l e ({ frames := 1, cells := 0, slots := 0, locals := 21 } : Room) s m args below meth c H locs 0 0 (MQ below (va_Qv (fun (u : va_W) => wF ty ad o2 = u) (kz_B D ty A) A) args s 0 0 A) (F0 m 31 ls [])) (q : dK) (x3 : Int64) (x5 : Int32) (H : Heap) (locs : List Loc) (ls : Array Slot) (h : zX8_unpack_s2_31b k31 q x3 x5 = some o2) (hP : va_P D vwCl (wF ty ad q) H) (hD : va_D A (wF ty ad q)) (hS : va_S A s.heap H locs) (hl : lv_has ls 6 [(0, .ref (ad 2)), (3, .long x3), (5, .int x5)]) : W p l e ({ frames := 1, cells := 0, slots := 0, locals := 21 } : Room) s m args below meth c H locs 0 0 (MQ below (va_Qv (fun (u : va_W) => wF ty ad o2 = u) (kz_B D ty A) A) args s 0 0 A) (F0 m 31 ls []) := by
  have C0 := C
  obtain ⟨hx, hb, hr, hts, hown, hlocks, hml, hK, hN, hE, hA⟩ := C
  unfold zX8_unpack_s2_31b at h
  refine lv_iload hx hb dX8_unpack_31 (lv_at hl 2 rfl) ?_
  refine lv_if_lt (tgt := 72) hx hb dX8_unpack_33 (by decide) (fun c9 => ?_) (fun c9 => ?_)
  · rw [if_pos c9] at h
    refine lv_aload_n hx hb dX8_unpack_72 rfl (lv_at hl 0 rfl) ?_
    refine lv_bipush (v := 6) hx hb dX8_unpack_73 (by decide) ?_
    refine lv_lload_n hx hb dX8_unpack_75 rfl (lv_at hl 1 rfl) ?_
    refine lv_l2i (v := Int64.toInt32 x3) hx hb dX8_unpack_76 rfl ?_
    refine va_mmin hx hb (hml.trans hl.1.symm) hown (hts (.methodLink RX8 41 Lib.Math.min.name) f9_wsX8_unpack_656) (hts (.static Lib.Math.min.name) f9_wsX8_unpack_657) (hts (.initialized "java/lang/Math") f9_wsX8_unpack_658) (hts (.code Lib.Math.min.name Lib.Math.min.code 2 (some .int)) f9_wsX8_unpack_659) (Nat.le_of_ble_eq_true rfl) (Nat.le_of_ble_eq_true rfl) (Nat.le_of_ble_eq_true rfl) (Nat.le_of_ble_eq_true rfl) dX8_unpack_77 ?_
    refine kz_topi (mnI 6 (Int64.toInt32 x3)) rfl ?_
    refine va_put (D := D) (ci := 8) (v := .int (mnI 6 (Int64.toInt32 x3))) (ty := .int) (C := RX8) (T := TX8) (N := 5) hx hb hts u9_wsX8_unpack_X8 tyX8 tyX8_ok nmX8 hown hK hP hD hS 2 rfl rfl 2 (by decide) (hts (.fieldLink RX8 18 "TurnedFloors$Tower" "floors" "I") f9_wsX8_unpack_660) (fun _ h9 => h9) rfl (by decide +kernel) rfl rfl (Nat.le_of_ble_eq_true rfl) dX8_unpack_80 (fun H locs hp hd hs => ?_)
    obtain ⟨q1, eq1, h⟩ := dL_some h
    refine kz_re (w2 := wF ty ad q1) hp hd hs (by rw [← eq1]; exact wF_f2_2 ty ad q (mnI 6 (Int64.toInt32 x3))) ?_
    clear hp hd hs hP hD hS
    intro hP hD hS
    cases h
    exact kz_vret hx hb hr hlocks hP hK hD hS dX8_unpack_83 rfl
  · rw [if_neg c9] at h
    refine lv_aload_n hx hb dX8_unpack_36 rfl (lv_at hl 0 rfl) ?_
    refine va_get (D := D) (ci := 8) (v := .ref (ad 4)) (C := RX8) (T := TX8) (N := 5) hx hb hts u9_wsX8_unpack_X8 hown hK hP 2 rfl rfl 1 (by decide) (hts (.fieldLink RX8 15 "TurnedFloors$Tower" "head" "[I") f9_wsX8_unpack_661) (fun _ h9 => h9) rfl dX8_unpack_37 ?_
    refine lv_iload hx hb dX8_unpack_40 (lv_at hl 2 rfl) ?_
    refine lv_lload_n hx hb dX8_unpack_42 rfl (lv_at hl 1 rfl) ?_
    refine lv_lconst (v := 1) hx hb dX8_unpack_43 (by decide) ?_
    refine lv_land hx hb dX8_unpack_44 ?_
    refine lv_l2i (v := Int64.toInt32 (x3 &&& 1 : Int64)) hx hb dX8_unpack_45 rfl ?_
    obtain ⟨g2, h⟩ := dG_some h
    refine va_iast hx hb hK hP hD hS 4 0 rfl rfl (dg_in g2) dX8_unpack_46 (fun H locs hp hd hs => ?_)
    obtain ⟨q3, eq3, h⟩ := dL_some h
    refine kz_re (w2 := wF ty ad q3) hp hd hs (by rw [← eq3]; exact wF_a4 ty ad q (Int32.toNatClampNeg x5) (Int64.toInt32 (x3 &&& 1 : Int64))) ?_
    clear hp hd hs hP hD hS
    intro hP hD hS
    refine lv_aload_n hx hb dX8_unpack_47 rfl (lv_at hl 0 rfl) ?_
    refine va_get (D := D) (ci := 8) (v := .ref (ad 3)) (C := RX8) (T := TX8) (N := 5) hx hb hts u9_wsX8_unpack_X8 hown hK hP 2 rfl rfl 0 (by decide) (hts (.fieldLink RX8 9 "TurnedFloors$Tower" "rank" "[I") f9_wsX8_unpack_662) (fun _ h9 => h9) rfl dX8_unpack_48 ?_
    refine lv_iload hx hb dX8_unpack_51 (lv_at hl 2 rfl) ?_
    refine lv_lload_n hx hb dX8_unpack_53 rfl (lv_at hl 1 rfl) ?_
    refine lv_iconst (v := 1) hx hb dX8_unpack_54 (by decide) ?_
    refine lv_lshr (v := x3 >>> (Int32.toInt64 (1 : Int32) &&& 63)) hx hb dX8_unpack_55 rfl ?_
    refine lv_ldc2 (v := 7) hx hb hown (hts (.constantLong RX8 39 7) f9_wsX8_unpack_663) dX8_unpack_56 ?_
    refine lv_land hx hb dX8_unpack_59 ?_
    refine lv_l2i (v := Int64.toInt32 ((x3 >>> (Int32.toInt64 (1 : Int32) &&& 63)) &&& 7 : Int64)) hx hb dX8_unpack_60 rfl ?_
    obtain ⟨g4, h⟩ := dG_some h
    refine va_iast hx hb hK hP hD hS 3 0 rfl rfl (dg_in g4) dX8_unpack_61 (fun H locs hp hd hs => ?_)
    obtain ⟨q5, eq5, h⟩ := dL_some h
    refine kz_re (w2 := wF ty ad q5) hp hd hs (by rw [← eq5]; exact wF_a3 ty ad q3 (Int32.toNatClampNeg x5) (Int64.toInt32 ((x3 >>> (Int32.toInt64 (1 : Int32) &&& 63)) &&& 7 : Int64))) ?_
    clear hp hd hs hP hD hS
    intro hP hD hS
    refine lv_lload_n hx hb dX8_unpack_62 rfl (lv_at hl 1 rfl) ?_
    refine lv_iconst (v := 4) hx hb dX8_unpack_63 (by decide) ?_
    refine lv_lshr (v := x3 >>> (Int32.toInt64 (4 : Int32) &&& 63)) hx hb dX8_unpack_64 rfl ?_
    refine lv_lstore_n (lv' := [(3, .long (x3 >>> (Int32.toInt64 (4 : Int32) &&& 63))), (0, .ref (ad 2)), (5, .int x5)]) hx hb dX8_unpack_65 rfl hl (by decide) rfl (fun ls hl => ?_)
    refine lv_iinc (v := x5 + (-1)) (lv' := [(5, .int (x5 + (-1))), (3, .long (x3 >>> (Int32.toInt64 (4 : Int32) &&& 63))), (0, .ref (ad 2))]) hx hb dX8_unpack_66 hl (k := 2) rfl rfl (by decide) rfl (fun ls hl => ?_)
    refine lv_goto (tgt := 31) hx hb dX8_unpack_69 (by decide) ?_
    exact hk31 _ _ _ _ _ _ h hP hD hS (lv_sub hl [2, 1, 0] rfl)
set_option maxHeartbeats 4000000 in
set_option maxRecDepth 100000 in
theorem WX8_unpack_s2_31 {p : Program} {l : Launch} {e : Env} {s : State} {m : MethodId} {args : Array Value} {below : List Frame} {meth : Method} {c : Code} {D : va_G} {ty : Nat → ClassId} {eo : Nat → Nat} {A : Nat → Prop} {ad : Nat → Nat} {o2 : dK} (C : dc_C p s m args meth c cX8_unpack none 6 RX8 wsX8_unpack D ty eo A)   (n : Nat) (q : dK) (x3 : Int64) (x5 : Int32) (H : Heap) (locs : List Loc) (ls : Array Slot) (h : zX8_unpack_s2_31  n q x3 x5 = some o2) (hP : va_P D vwCl (wF ty ad q) H) (hD : va_D A (wF ty ad q)) (hS : va_S A s.heap H locs) (hl : lv_has ls 6 [(0, .ref (ad 2)), (3, .long x3), (5, .int x5)]) : W p l e ({ frames := 1, cells := 0, slots := 0, locals := 21 } : Room) s m args below meth c H locs 0 0 (MQ below (va_Qv (fun (u : va_W) => wF ty ad o2 = u) (kz_B D ty A) A) args s 0 0 A) (F0 m 31 ls []) := by
  exact dFix_W (F := fun k (a : dK × Int64 × Int32) => zX8_unpack_s2_31b  (fun q x3 x5 => k (q, x3, x5)) a.1 a.2.1 a.2.2) (o := o2) (P := fun (a : dK × Int64 × Int32) H locs ls => va_P D vwCl (wF ty ad a.1) H ∧ va_D A (wF ty ad a.1) ∧ va_S A s.heap H locs ∧ lv_has ls 6 [(0, .ref (ad 2)), (3, .long a.2.1), (5, .int a.2.2)]) (G := fun H locs ls => W p l e ({ frames := 1, cells := 0, slots := 0, locals := 21 } : Room) s m args below meth c H locs 0 0 (MQ below (va_Qv (fun (u : va_W) => wF ty ad o2 = u) (kz_B D ty A) A) args s 0 0 A) (F0 m 31 ls []))
    (fun k hk a H locs ls h hp => WX8_unpack_s2_31b C  (fun q x3 x5 H locs ls h h1 h2 h3 h4 => hk (q, x3, x5) H locs ls h ⟨h1, h2, h3, h4⟩) a.1 a.2.1 a.2.2 H locs ls h hp.1 hp.2.1 hp.2.2.1 hp.2.2.2) n (q, x3, x5) H locs ls h ⟨hP, hD, hS, hl⟩
set_option maxHeartbeats 4000000 in
set_option maxRecDepth 100000 in
theorem qX8_unpack_s2 (l : Launch) (D : va_G) (ty : Nat → ClassId) (eo : Nat → Nat) (sz : Nat) (ad : Nat → Nat) (q : dK) (p1 : Int64) (o2 : dK) (h : zX8_unpack_s2 q p1 = some o2) : Met l yX8_unpack wsX8_unpack ({ frames := 1, cells := 0, slots := 0, locals := 21 } : Room) (va_Pc [.ref (ad 2), .long p1] (kz_pre D ty eo (wF ty ad q) sz)) (va_Qv (fun (u : va_W) => wF ty ad o2 = u) (kz_B D ty (va_A (wF ty ad q) sz)) (va_A (wF ty ad q) sz)) 0 0 (va_A (wF ty ad q) sz) := by
  refine Met.ofW (cc := cX8_unpack) (maxL := 6) (ret := none) (by decide) rfl ?_
  intro p e s m args below meth c s₁ B hml hv
  obtain ⟨rfl, hsz, hP, hK, hD0, hN, hE⟩ := hv
  have hx := B.exec
  have hb := B.bytes
  have hr := B.returns
  have hts := atoms_spec (ws := wsX8_unpack) B.pre
  have hown : s.vm.findClass RX8 = some m.cls := findClass_of_methodNamed B.named
  have hlocks := B.notSynchronized
  subst hsz
  have hD := hD0.self (sz := s.heap.size)
  generalize hAe : va_A (wF ty ad q) s.heap.size = A at hD hE ⊢
  have hA : ∀ q : Nat, s.heap.size ≤ q → A q := fun q h => by rw [← hAe]; exact Or.inr h
  clear hAe
  have hS : va_S A s.heap s.heap [] := va_S.rf
  have hl := lv_entry ([.ref (ad 2), .long p1]) (n := 6) (Nat.le_of_ble_eq_true rfl)
  rw [lg_entry_eq]
  generalize (lg_sl ([.ref (ad 2), .long p1]) ++ List.replicate (6 - (lg_sl ([.ref (ad 2), .long p1])).length) Slot.unset).toArray = ls at hl ⊢
  have hl : lv_has ls 6 [(0, .ref (ad 2)), (1, .long p1)] := hl
  have C : dc_C p s m _ meth c cX8_unpack none 6 RX8 wsX8_unpack D ty eo A := ⟨hx, hb, hr, hts, hown, hlocks, hml, hK, hN, hE, hA⟩
  unfold zX8_unpack_s2 at h
  refine lv_aload_n hx hb dX8_unpack_0 rfl (lv_at hl 0 rfl) ?_
  refine lv_lload_n hx hb dX8_unpack_1 rfl (lv_at hl 1 rfl) ?_
  refine lv_ldc2 (v := 1023) hx hb hown (hts (.constantLong RX8 35 1023) f9_wsX8_unpack_664) dX8_unpack_2 ?_
  refine lv_land hx hb dX8_unpack_5 ?_
  refine lv_l2i (v := Int64.toInt32 (p1 &&& 1023 : Int64)) hx hb dX8_unpack_6 rfl ?_
  refine va_put (D := D) (ci := 8) (v := .int (Int64.toInt32 (p1 &&& 1023 : Int64))) (ty := .int) (C := RX8) (T := TX8) (N := 5) hx hb hts u9_wsX8_unpack_X8 tyX8 tyX8_ok nmX8 hown hK hP hD hS 2 rfl rfl 4 (by decide) (hts (.fieldLink RX8 25 "TurnedFloors$Tower" "year" "I") f9_wsX8_unpack_665) (fun _ h9 => h9) rfl (by decide +kernel) rfl rfl (Nat.le_of_ble_eq_true rfl) dX8_unpack_7 (fun H locs hp hd hs => ?_)
  obtain ⟨q1, eq1, h⟩ := dL_some h
  refine kz_re (w2 := wF ty ad q1) hp hd hs (by rw [← eq1]; exact wF_f2_4 ty ad q (Int64.toInt32 (p1 &&& 1023 : Int64))) ?_
  clear hp hd hs hP hD hS
  intro hP hD hS
  refine lv_aload_n hx hb dX8_unpack_10 rfl (lv_at hl 0 rfl) ?_
  refine lv_lload_n hx hb dX8_unpack_11 rfl (lv_at hl 1 rfl) ?_
  refine lv_bipush (v := 10) hx hb dX8_unpack_12 (by decide) ?_
  refine lv_lshr (v := p1 >>> (Int32.toInt64 (10 : Int32) &&& 63)) hx hb dX8_unpack_14 rfl ?_
  refine lv_ldc2 (v := 16383) hx hb hown (hts (.constantLong RX8 37 16383) f9_wsX8_unpack_666) dX8_unpack_15 ?_
  refine lv_land hx hb dX8_unpack_18 ?_
  obtain ⟨v2, ev2, h⟩ := dL_some h
  refine kz_topl v2 ev2 ?_
  refine lv_l2i (v := Int64.toInt32 v2) hx hb dX8_unpack_19 rfl ?_
  refine va_put (D := D) (ci := 8) (v := .int (Int64.toInt32 v2)) (ty := .int) (C := RX8) (T := TX8) (N := 5) hx hb hts u9_wsX8_unpack_X8 tyX8 tyX8_ok nmX8 hown hK hP hD hS 2 rfl rfl 3 (by decide) (hts (.fieldLink RX8 22 "TurnedFloors$Tower" "paid" "I") f9_wsX8_unpack_667) (fun _ h9 => h9) rfl (by decide +kernel) rfl rfl (Nat.le_of_ble_eq_true rfl) dX8_unpack_20 (fun H locs hp hd hs => ?_)
  obtain ⟨q3, eq3, h⟩ := dL_some h
  refine kz_re (w2 := wF ty ad q3) hp hd hs (by rw [← eq3]; exact wF_f2_3 ty ad q1 (Int64.toInt32 v2)) ?_
  clear hp hd hs hP hD hS
  intro hP hD hS
  refine lv_lload_n hx hb dX8_unpack_23 rfl (lv_at hl 1 rfl) ?_
  refine lv_bipush (v := 24) hx hb dX8_unpack_24 (by decide) ?_
  refine lv_lshr (v := p1 >>> (Int32.toInt64 (24 : Int32) &&& 63)) hx hb dX8_unpack_26 rfl ?_
  refine lv_lstore_n (lv' := [(3, .long (p1 >>> (Int32.toInt64 (24 : Int32) &&& 63))), (0, .ref (ad 2)), (1, .long p1)]) hx hb dX8_unpack_27 rfl hl (by decide) rfl (fun ls hl => ?_)
  refine lv_iconst (v := 5) hx hb dX8_unpack_28 (by decide) ?_
  refine lv_istore (lv' := [(5, .int 5), (3, .long (p1 >>> (Int32.toInt64 (24 : Int32) &&& 63))), (0, .ref (ad 2)), (1, .long p1)]) hx hb dX8_unpack_29 hl (by decide) rfl (fun ls hl => ?_)
  exact WX8_unpack_s2_31 C  _ _ _ _ _ _ _ h hP hD hS (lv_sub hl [2, 1, 0] rfl)
end
section
theorem da9_dX0_backToMark_0 : (decode cX0_backToMark 0 = .ok (.aload_n 0, 1)) ∧ (decode cX0_backToMark 1 = .ok (.getfield 23, 3)) ∧ (decode cX0_backToMark 4 = .ok (.iconst 0, 1)) ∧ (decode cX0_backToMark 5 = .ok (.aload_n 0, 1)) ∧ (decode cX0_backToMark 6 = .ok (.getfield 9, 3)) ∧ (decode cX0_backToMark 9 = .ok (.iconst 0, 1)) ∧ (decode cX0_backToMark 10 = .ok (.bipush 16, 2)) ∧ (decode cX0_backToMark 12 = .ok (.invokestatic 32, 3)) ∧ (decode cX0_backToMark 15 = .ok (.aload_n 0, 1)) ∧ (decode cX0_backToMark 16 = .ok (.getfield 26, 3)) ∧ (decode cX0_backToMark 19 = .ok (.iconst 0, 1)) ∧ (decode cX0_backToMark 20 = .ok (.aload_n 0, 1)) ∧ (decode cX0_backToMark 21 = .ok (.getfield 15, 3)) ∧ (decode cX0_backToMark 24 = .ok (.iconst 0, 1)) ∧ (decode cX0_backToMark 25 = .ok (.bipush 16, 2)) ∧ (decode cX0_backToMark 27 = .ok (.invokestatic 32, 3)) := by decide +kernel
theorem dX0_backToMark_0 : decode cX0_backToMark 0 = .ok (.aload_n 0, 1) := da9_dX0_backToMark_0.1
theorem dX0_backToMark_1 : decode cX0_backToMark 1 = .ok (.getfield 23, 3) := da9_dX0_backToMark_0.2.1
theorem dX0_backToMark_4 : decode cX0_backToMark 4 = .ok (.iconst 0, 1) := da9_dX0_backToMark_0.2.2.1
theorem dX0_backToMark_5 : decode cX0_backToMark 5 = .ok (.aload_n 0, 1) := da9_dX0_backToMark_0.2.2.2.1
theorem dX0_backToMark_6 : decode cX0_backToMark 6 = .ok (.getfield 9, 3) := da9_dX0_backToMark_0.2.2.2.2.1
theorem dX0_backToMark_9 : decode cX0_backToMark 9 = .ok (.iconst 0, 1) := da9_dX0_backToMark_0.2.2.2.2.2.1
theorem dX0_backToMark_10 : decode cX0_backToMark 10 = .ok (.bipush 16, 2) := da9_dX0_backToMark_0.2.2.2.2.2.2.1
theorem dX0_backToMark_12 : decode cX0_backToMark 12 = .ok (.invokestatic 32, 3) := da9_dX0_backToMark_0.2.2.2.2.2.2.2.1
theorem dX0_backToMark_15 : decode cX0_backToMark 15 = .ok (.aload_n 0, 1) := da9_dX0_backToMark_0.2.2.2.2.2.2.2.2.1
theorem dX0_backToMark_16 : decode cX0_backToMark 16 = .ok (.getfield 26, 3) := da9_dX0_backToMark_0.2.2.2.2.2.2.2.2.2.1
theorem dX0_backToMark_19 : decode cX0_backToMark 19 = .ok (.iconst 0, 1) := da9_dX0_backToMark_0.2.2.2.2.2.2.2.2.2.2.1
theorem dX0_backToMark_20 : decode cX0_backToMark 20 = .ok (.aload_n 0, 1) := da9_dX0_backToMark_0.2.2.2.2.2.2.2.2.2.2.2.1
theorem dX0_backToMark_21 : decode cX0_backToMark 21 = .ok (.getfield 15, 3) := da9_dX0_backToMark_0.2.2.2.2.2.2.2.2.2.2.2.2.1
theorem dX0_backToMark_24 : decode cX0_backToMark 24 = .ok (.iconst 0, 1) := da9_dX0_backToMark_0.2.2.2.2.2.2.2.2.2.2.2.2.2.1
theorem dX0_backToMark_25 : decode cX0_backToMark 25 = .ok (.bipush 16, 2) := da9_dX0_backToMark_0.2.2.2.2.2.2.2.2.2.2.2.2.2.2.1
theorem dX0_backToMark_27 : decode cX0_backToMark 27 = .ok (.invokestatic 32, 3) := da9_dX0_backToMark_0.2.2.2.2.2.2.2.2.2.2.2.2.2.2.2
theorem da9_dX0_backToMark_30 : (decode cX0_backToMark 30 = .ok (.aload_n 0, 1)) ∧ (decode cX0_backToMark 31 = .ok (.aload_n 0, 1)) ∧ (decode cX0_backToMark 32 = .ok (.getfield 29, 3)) ∧ (decode cX0_backToMark 35 = .ok (.putfield 19, 3)) ∧ (decode cX0_backToMark 38 = .ok (.return_, 1)) := by decide +kernel
theorem dX0_backToMark_30 : decode cX0_backToMark 30 = .ok (.aload_n 0, 1) := da9_dX0_backToMark_30.1
theorem dX0_backToMark_31 : decode cX0_backToMark 31 = .ok (.aload_n 0, 1) := da9_dX0_backToMark_30.2.1
theorem dX0_backToMark_32 : decode cX0_backToMark 32 = .ok (.getfield 29, 3) := da9_dX0_backToMark_30.2.2.1
theorem dX0_backToMark_35 : decode cX0_backToMark 35 = .ok (.putfield 19, 3) := da9_dX0_backToMark_30.2.2.2.1
theorem dX0_backToMark_38 : decode cX0_backToMark 38 = .ok (.return_, 1) := da9_dX0_backToMark_30.2.2.2.2
set_option maxRecDepth 20000 in
theorem ggX5_run_X8_pack : GoodIn wsX5_run wsX8_pack := wd_c vW9_ok mvW9_366
set_option maxRecDepth 20000 in
theorem gX5_run_X8_pack : GoodIn wsX5_run (wsV RX5 26 RX8 yX8_pack wsX8_pack) := goodIn_app (wd_l vW9_ok _ pvW9_63) ggX5_run_X8_pack
set_option maxRecDepth 20000 in
theorem ggX5_run_X0_mark : GoodIn wsX5_run wsX0_mark := wd_c vW9_ok mvW9_372
set_option maxRecDepth 20000 in
theorem gX5_run_X0_mark : GoodIn wsX5_run (wsV RX5 32 RX0 yX0_mark wsX0_mark) := goodIn_app (wd_l vW9_ok _ pvW9_64) ggX5_run_X0_mark
set_option maxRecDepth 20000 in
theorem ggX5_run_X5_setWords : GoodIn wsX5_run wsX5_setWords := wd_c vW9_ok mvW9_382
set_option maxRecDepth 20000 in
theorem gX5_run_X5_setWords : GoodIn wsX5_run (wsV RX5 45 RX5 yX5_setWords wsX5_setWords) := goodIn_app (wd_l vW9_ok _ pvW9_65) ggX5_run_X5_setWords
set_option maxRecDepth 20000 in
theorem ggX5_run_X2_valueOf : GoodIn wsX5_run wsX2_valueOf := wd_c vW9_ok mvW9_82
set_option maxRecDepth 20000 in
theorem gX5_run_X2_valueOf : GoodIn wsX5_run (wsV RX5 55 RX2 yX2_valueOf wsX2_valueOf) := goodIn_app (wd_l vW9_ok _ pvW9_66) ggX5_run_X2_valueOf
set_option maxRecDepth 20000 in
theorem ggX5_run_X8_act : GoodIn wsX5_run wsX8_act := wd_c vW9_ok mvW9_398
set_option maxRecDepth 20000 in
theorem gX5_run_X8_act : GoodIn wsX5_run (wsV RX5 71 RX8 yX8_act wsX8_act) := goodIn_app (wd_l vW9_ok _ pvW9_67) ggX5_run_X8_act
set_option maxRecDepth 20000 in
theorem ggX5_run_X8_unpack : GoodIn wsX5_run wsX8_unpack := wd_c vW9_ok mvW9_432
set_option maxRecDepth 20000 in
theorem gX5_run_X8_unpack : GoodIn wsX5_run (wsV RX5 75 RX8 yX8_unpack wsX8_unpack) := goodIn_app (wd_l vW9_ok _ pvW9_68) ggX5_run_X8_unpack
set_option maxRecDepth 20000 in
theorem ggX5_run_X0_backToMark : GoodIn wsX5_run wsX0_backToMark := wd_c vW9_ok mvW9_439
set_option maxRecDepth 20000 in
theorem gX5_run_X0_backToMark : GoodIn wsX5_run (wsV RX5 79 RX0 yX0_backToMark wsX0_backToMark) := goodIn_app (wd_l vW9_ok _ pvW9_69) ggX5_run_X0_backToMark
set_option maxRecDepth 20000 in
theorem ggX5_run_X0_keep : GoodIn wsX5_run wsX0_keep := wd_c vW9_ok mvW9_443
set_option maxRecDepth 20000 in
theorem gX5_run_X0_keep : GoodIn wsX5_run (wsV RX5 82 RX0 yX0_keep wsX0_keep) := goodIn_app (wd_l vW9_ok _ pvW9_70) ggX5_run_X0_keep
theorem da9_dX5_run_0 : (decode cX5_run 0 = .ok (.aload_n 2, 1)) ∧ (decode cX5_run 1 = .ok (.invokevirtual 26, 3)) ∧ (decode cX5_run 4 = .ok (.lstore 5, 2)) ∧ (decode cX5_run 6 = .ok (.aload 4, 2)) ∧ (decode cX5_run 8 = .ok (.invokevirtual 32, 3)) ∧ (decode cX5_run 11 = .ok (.aload_n 0, 1)) ∧ (decode cX5_run 12 = .ok (.iconst 0, 1)) ∧ (decode cX5_run 13 = .ok (.putfield 15, 3)) ∧ (decode cX5_run 16 = .ok (.aload_n 0, 1)) ∧ (decode cX5_run 17 = .ok (.iconst (-1), 1)) ∧ (decode cX5_run 18 = .ok (.putfield 19, 3)) ∧ (decode cX5_run 21 = .ok (.iconst 0, 1)) ∧ (decode cX5_run 22 = .ok (.istore 7, 2)) ∧ (decode cX5_run 24 = .ok (.iload 7, 2)) ∧ (decode cX5_run 26 = .ok (.aload_n 1, 1)) ∧ (decode cX5_run 27 = .ok (.getfield 37, 3)) := by decide +kernel
theorem dX5_run_0 : decode cX5_run 0 = .ok (.aload_n 2, 1) := da9_dX5_run_0.1
theorem dX5_run_1 : decode cX5_run 1 = .ok (.invokevirtual 26, 3) := da9_dX5_run_0.2.1
theorem dX5_run_4 : decode cX5_run 4 = .ok (.lstore 5, 2) := da9_dX5_run_0.2.2.1
theorem dX5_run_6 : decode cX5_run 6 = .ok (.aload 4, 2) := da9_dX5_run_0.2.2.2.1
theorem dX5_run_8 : decode cX5_run 8 = .ok (.invokevirtual 32, 3) := da9_dX5_run_0.2.2.2.2.1
theorem dX5_run_11 : decode cX5_run 11 = .ok (.aload_n 0, 1) := da9_dX5_run_0.2.2.2.2.2.1
theorem dX5_run_12 : decode cX5_run 12 = .ok (.iconst 0, 1) := da9_dX5_run_0.2.2.2.2.2.2.1
theorem dX5_run_13 : decode cX5_run 13 = .ok (.putfield 15, 3) := da9_dX5_run_0.2.2.2.2.2.2.2.1
theorem dX5_run_16 : decode cX5_run 16 = .ok (.aload_n 0, 1) := da9_dX5_run_0.2.2.2.2.2.2.2.2.1
theorem dX5_run_17 : decode cX5_run 17 = .ok (.iconst (-1), 1) := da9_dX5_run_0.2.2.2.2.2.2.2.2.2.1
theorem dX5_run_18 : decode cX5_run 18 = .ok (.putfield 19, 3) := da9_dX5_run_0.2.2.2.2.2.2.2.2.2.2.1
theorem dX5_run_21 : decode cX5_run 21 = .ok (.iconst 0, 1) := da9_dX5_run_0.2.2.2.2.2.2.2.2.2.2.2.1
theorem dX5_run_22 : decode cX5_run 22 = .ok (.istore 7, 2) := da9_dX5_run_0.2.2.2.2.2.2.2.2.2.2.2.2.1
theorem dX5_run_24 : decode cX5_run 24 = .ok (.iload 7, 2) := da9_dX5_run_0.2.2.2.2.2.2.2.2.2.2.2.2.2.1
theorem dX5_run_26 : decode cX5_run 26 = .ok (.aload_n 1, 1) := da9_dX5_run_0.2.2.2.2.2.2.2.2.2.2.2.2.2.2.1
theorem dX5_run_27 : decode cX5_run 27 = .ok (.getfield 37, 3) := da9_dX5_run_0.2.2.2.2.2.2.2.2.2.2.2.2.2.2.2
theorem da9_dX5_run_30 : (decode cX5_run 30 = .ok (.if_icmp .ge 190, 3)) ∧ (decode cX5_run 33 = .ok (.iconst 0, 1)) ∧ (decode cX5_run 34 = .ok (.istore 8, 2)) ∧ (decode cX5_run 36 = .ok (.iload 8, 2)) ∧ (decode cX5_run 38 = .ok (.aload_n 1, 1)) ∧ (decode cX5_run 39 = .ok (.getfield 42, 3)) ∧ (decode cX5_run 42 = .ok (.iload 7, 2)) ∧ (decode cX5_run 44 = .ok (.iaload, 1)) ∧ (decode cX5_run 45 = .ok (.if_icmp .ge 169, 3)) ∧ (decode cX5_run 48 = .ok (.aload_n 0, 1)) ∧ (decode cX5_run 49 = .ok (.aload_n 2, 1)) ∧ (decode cX5_run 50 = .ok (.invokevirtual 45, 3)) ∧ (decode cX5_run 53 = .ok (.aload_n 0, 1)) ∧ (decode cX5_run 54 = .ok (.getfield 22, 3)) ∧ (decode cX5_run 57 = .ok (.aload_n 1, 1)) ∧ (decode cX5_run 58 = .ok (.aload_n 1, 1)) := by decide +kernel
theorem dX5_run_30 : decode cX5_run 30 = .ok (.if_icmp .ge 190, 3) := da9_dX5_run_30.1
theorem dX5_run_33 : decode cX5_run 33 = .ok (.iconst 0, 1) := da9_dX5_run_30.2.1
theorem dX5_run_34 : decode cX5_run 34 = .ok (.istore 8, 2) := da9_dX5_run_30.2.2.1
theorem dX5_run_36 : decode cX5_run 36 = .ok (.iload 8, 2) := da9_dX5_run_30.2.2.2.1
theorem dX5_run_38 : decode cX5_run 38 = .ok (.aload_n 1, 1) := da9_dX5_run_30.2.2.2.2.1
theorem dX5_run_39 : decode cX5_run 39 = .ok (.getfield 42, 3) := da9_dX5_run_30.2.2.2.2.2.1
theorem dX5_run_42 : decode cX5_run 42 = .ok (.iload 7, 2) := da9_dX5_run_30.2.2.2.2.2.2.1
theorem dX5_run_44 : decode cX5_run 44 = .ok (.iaload, 1) := da9_dX5_run_30.2.2.2.2.2.2.2.1
theorem dX5_run_45 : decode cX5_run 45 = .ok (.if_icmp .ge 169, 3) := da9_dX5_run_30.2.2.2.2.2.2.2.2.1
theorem dX5_run_48 : decode cX5_run 48 = .ok (.aload_n 0, 1) := da9_dX5_run_30.2.2.2.2.2.2.2.2.2.1
theorem dX5_run_49 : decode cX5_run 49 = .ok (.aload_n 2, 1) := da9_dX5_run_30.2.2.2.2.2.2.2.2.2.2.1
theorem dX5_run_50 : decode cX5_run 50 = .ok (.invokevirtual 45, 3) := da9_dX5_run_30.2.2.2.2.2.2.2.2.2.2.2.1
theorem dX5_run_53 : decode cX5_run 53 = .ok (.aload_n 0, 1) := da9_dX5_run_30.2.2.2.2.2.2.2.2.2.2.2.2.1
theorem dX5_run_54 : decode cX5_run 54 = .ok (.getfield 22, 3) := da9_dX5_run_30.2.2.2.2.2.2.2.2.2.2.2.2.2.1
theorem dX5_run_57 : decode cX5_run 57 = .ok (.aload_n 1, 1) := da9_dX5_run_30.2.2.2.2.2.2.2.2.2.2.2.2.2.2.1
theorem dX5_run_58 : decode cX5_run 58 = .ok (.aload_n 1, 1) := da9_dX5_run_30.2.2.2.2.2.2.2.2.2.2.2.2.2.2.2
theorem da9_dX5_run_59 : (decode cX5_run 59 = .ok (.getfield 49, 3)) ∧ (decode cX5_run 62 = .ok (.iload 7, 2)) ∧ (decode cX5_run 64 = .ok (.iaload, 1)) ∧ (decode cX5_run 65 = .ok (.aload_n 1, 1)) ∧ (decode cX5_run 66 = .ok (.getfield 52, 3)) ∧ (decode cX5_run 69 = .ok (.iload 7, 2)) ∧ (decode cX5_run 71 = .ok (.iaload, 1)) ∧ (decode cX5_run 72 = .ok (.aload_n 0, 1)) ∧ (decode cX5_run 73 = .ok (.getfield 11, 3)) ∧ (decode cX5_run 76 = .ok (.invokevirtual 55, 3)) ∧ (decode cX5_run 79 = .ok (.iconst 1, 1)) ∧ (decode cX5_run 80 = .ok (.if_icmp .ne 128, 3)) ∧ (decode cX5_run 83 = .ok (.aload_n 2, 1)) ∧ (decode cX5_run 84 = .ok (.invokevirtual 26, 3)) ∧ (decode cX5_run 87 = .ok (.lstore 9, 2)) ∧ (decode cX5_run 89 = .ok (.aload_n 1, 1)) := by decide +kernel
theorem dX5_run_59 : decode cX5_run 59 = .ok (.getfield 49, 3) := da9_dX5_run_59.1
theorem dX5_run_62 : decode cX5_run 62 = .ok (.iload 7, 2) := da9_dX5_run_59.2.1
theorem dX5_run_64 : decode cX5_run 64 = .ok (.iaload, 1) := da9_dX5_run_59.2.2.1
theorem dX5_run_65 : decode cX5_run 65 = .ok (.aload_n 1, 1) := da9_dX5_run_59.2.2.2.1
theorem dX5_run_66 : decode cX5_run 66 = .ok (.getfield 52, 3) := da9_dX5_run_59.2.2.2.2.1
theorem dX5_run_69 : decode cX5_run 69 = .ok (.iload 7, 2) := da9_dX5_run_59.2.2.2.2.2.1
theorem dX5_run_71 : decode cX5_run 71 = .ok (.iaload, 1) := da9_dX5_run_59.2.2.2.2.2.2.1
theorem dX5_run_72 : decode cX5_run 72 = .ok (.aload_n 0, 1) := da9_dX5_run_59.2.2.2.2.2.2.2.1
theorem dX5_run_73 : decode cX5_run 73 = .ok (.getfield 11, 3) := da9_dX5_run_59.2.2.2.2.2.2.2.2.1
theorem dX5_run_76 : decode cX5_run 76 = .ok (.invokevirtual 55, 3) := da9_dX5_run_59.2.2.2.2.2.2.2.2.2.1
theorem dX5_run_79 : decode cX5_run 79 = .ok (.iconst 1, 1) := da9_dX5_run_59.2.2.2.2.2.2.2.2.2.2.1
theorem dX5_run_80 : decode cX5_run 80 = .ok (.if_icmp .ne 128, 3) := da9_dX5_run_59.2.2.2.2.2.2.2.2.2.2.2.1
theorem dX5_run_83 : decode cX5_run 83 = .ok (.aload_n 2, 1) := da9_dX5_run_59.2.2.2.2.2.2.2.2.2.2.2.2.1
theorem dX5_run_84 : decode cX5_run 84 = .ok (.invokevirtual 26, 3) := da9_dX5_run_59.2.2.2.2.2.2.2.2.2.2.2.2.2.1
theorem dX5_run_87 : decode cX5_run 87 = .ok (.lstore 9, 2) := da9_dX5_run_59.2.2.2.2.2.2.2.2.2.2.2.2.2.2.1
theorem dX5_run_89 : decode cX5_run 89 = .ok (.aload_n 1, 1) := da9_dX5_run_59.2.2.2.2.2.2.2.2.2.2.2.2.2.2.2
theorem da9_dX5_run_90 : (decode cX5_run 90 = .ok (.getfield 61, 3)) ∧ (decode cX5_run 93 = .ok (.iload 7, 2)) ∧ (decode cX5_run 95 = .ok (.iaload, 1)) ∧ (decode cX5_run 96 = .ok (.istore 11, 2)) ∧ (decode cX5_run 98 = .ok (.aload_n 0, 1)) ∧ (decode cX5_run 99 = .ok (.getfield 22, 3)) ∧ (decode cX5_run 102 = .ok (.aload_n 1, 1)) ∧ (decode cX5_run 103 = .ok (.aload_n 1, 1)) ∧ (decode cX5_run 104 = .ok (.getfield 64, 3)) ∧ (decode cX5_run 107 = .ok (.iload 7, 2)) ∧ (decode cX5_run 109 = .ok (.iaload, 1)) ∧ (decode cX5_run 110 = .ok (.aload_n 1, 1)) ∧ (decode cX5_run 111 = .ok (.getfield 49, 3)) ∧ (decode cX5_run 114 = .ok (.iload 7, 2)) ∧ (decode cX5_run 116 = .ok (.iaload, 1)) ∧ (decode cX5_run 117 = .ok (.aload_n 0, 1)) := by decide +kernel
theorem dX5_run_90 : decode cX5_run 90 = .ok (.getfield 61, 3) := da9_dX5_run_90.1
theorem dX5_run_93 : decode cX5_run 93 = .ok (.iload 7, 2) := da9_dX5_run_90.2.1
theorem dX5_run_95 : decode cX5_run 95 = .ok (.iaload, 1) := da9_dX5_run_90.2.2.1
theorem dX5_run_96 : decode cX5_run 96 = .ok (.istore 11, 2) := da9_dX5_run_90.2.2.2.1
theorem dX5_run_98 : decode cX5_run 98 = .ok (.aload_n 0, 1) := da9_dX5_run_90.2.2.2.2.1
theorem dX5_run_99 : decode cX5_run 99 = .ok (.getfield 22, 3) := da9_dX5_run_90.2.2.2.2.2.1
theorem dX5_run_102 : decode cX5_run 102 = .ok (.aload_n 1, 1) := da9_dX5_run_90.2.2.2.2.2.2.1
theorem dX5_run_103 : decode cX5_run 103 = .ok (.aload_n 1, 1) := da9_dX5_run_90.2.2.2.2.2.2.2.1
theorem dX5_run_104 : decode cX5_run 104 = .ok (.getfield 64, 3) := da9_dX5_run_90.2.2.2.2.2.2.2.2.1
theorem dX5_run_107 : decode cX5_run 107 = .ok (.iload 7, 2) := da9_dX5_run_90.2.2.2.2.2.2.2.2.2.1
theorem dX5_run_109 : decode cX5_run 109 = .ok (.iaload, 1) := da9_dX5_run_90.2.2.2.2.2.2.2.2.2.2.1
theorem dX5_run_110 : decode cX5_run 110 = .ok (.aload_n 1, 1) := da9_dX5_run_90.2.2.2.2.2.2.2.2.2.2.2.1
theorem dX5_run_111 : decode cX5_run 111 = .ok (.getfield 49, 3) := da9_dX5_run_90.2.2.2.2.2.2.2.2.2.2.2.2.1
theorem dX5_run_114 : decode cX5_run 114 = .ok (.iload 7, 2) := da9_dX5_run_90.2.2.2.2.2.2.2.2.2.2.2.2.2.1
theorem dX5_run_116 : decode cX5_run 116 = .ok (.iaload, 1) := da9_dX5_run_90.2.2.2.2.2.2.2.2.2.2.2.2.2.2.1
theorem dX5_run_117 : decode cX5_run 117 = .ok (.aload_n 0, 1) := da9_dX5_run_90.2.2.2.2.2.2.2.2.2.2.2.2.2.2.2
theorem da9_dX5_run_118 : (decode cX5_run 118 = .ok (.getfield 11, 3)) ∧ (decode cX5_run 121 = .ok (.invokevirtual 55, 3)) ∧ (decode cX5_run 124 = .ok (.istore 12, 2)) ∧ (decode cX5_run 126 = .ok (.aload_n 0, 1)) ∧ (decode cX5_run 127 = .ok (.getfield 22, 3)) ∧ (decode cX5_run 130 = .ok (.getfield 67, 3)) ∧ (decode cX5_run 133 = .ok (.ifCond .eq 8, 3)) ∧ (decode cX5_run 136 = .ok (.bipush (-3), 2)) ∧ (decode cX5_run 138 = .ok (.goto 12, 3)) ∧ (decode cX5_run 141 = .ok (.aload_n 2, 1)) ∧ (decode cX5_run 142 = .ok (.iload 11, 2)) ∧ (decode cX5_run 144 = .ok (.iload 12, 2)) ∧ (decode cX5_run 146 = .ok (.aload_n 3, 1)) ∧ (decode cX5_run 147 = .ok (.invokevirtual 71, 3)) ∧ (decode cX5_run 150 = .ok (.istore 13, 2)) ∧ (decode cX5_run 152 = .ok (.iload 13, 2)) := by decide +kernel
theorem dX5_run_118 : decode cX5_run 118 = .ok (.getfield 11, 3) := da9_dX5_run_118.1
theorem dX5_run_121 : decode cX5_run 121 = .ok (.invokevirtual 55, 3) := da9_dX5_run_118.2.1
theorem dX5_run_124 : decode cX5_run 124 = .ok (.istore 12, 2) := da9_dX5_run_118.2.2.1
theorem dX5_run_126 : decode cX5_run 126 = .ok (.aload_n 0, 1) := da9_dX5_run_118.2.2.2.1
theorem dX5_run_127 : decode cX5_run 127 = .ok (.getfield 22, 3) := da9_dX5_run_118.2.2.2.2.1
theorem dX5_run_130 : decode cX5_run 130 = .ok (.getfield 67, 3) := da9_dX5_run_118.2.2.2.2.2.1
theorem dX5_run_133 : decode cX5_run 133 = .ok (.ifCond .eq 8, 3) := da9_dX5_run_118.2.2.2.2.2.2.1
theorem dX5_run_136 : decode cX5_run 136 = .ok (.bipush (-3), 2) := da9_dX5_run_118.2.2.2.2.2.2.2.1
theorem dX5_run_138 : decode cX5_run 138 = .ok (.goto 12, 3) := da9_dX5_run_118.2.2.2.2.2.2.2.2.1
theorem dX5_run_141 : decode cX5_run 141 = .ok (.aload_n 2, 1) := da9_dX5_run_118.2.2.2.2.2.2.2.2.2.1
theorem dX5_run_142 : decode cX5_run 142 = .ok (.iload 11, 2) := da9_dX5_run_118.2.2.2.2.2.2.2.2.2.2.1
theorem dX5_run_144 : decode cX5_run 144 = .ok (.iload 12, 2) := da9_dX5_run_118.2.2.2.2.2.2.2.2.2.2.2.1
theorem dX5_run_146 : decode cX5_run 146 = .ok (.aload_n 3, 1) := da9_dX5_run_118.2.2.2.2.2.2.2.2.2.2.2.2.1
theorem dX5_run_147 : decode cX5_run 147 = .ok (.invokevirtual 71, 3) := da9_dX5_run_118.2.2.2.2.2.2.2.2.2.2.2.2.2.1
theorem dX5_run_150 : decode cX5_run 150 = .ok (.istore 13, 2) := da9_dX5_run_118.2.2.2.2.2.2.2.2.2.2.2.2.2.2.1
theorem dX5_run_152 : decode cX5_run 152 = .ok (.iload 13, 2) := da9_dX5_run_118.2.2.2.2.2.2.2.2.2.2.2.2.2.2.2
theorem da9_dX5_run_154 : (decode cX5_run 154 = .ok (.ifCond .ge 17, 3)) ∧ (decode cX5_run 157 = .ok (.aload_n 2, 1)) ∧ (decode cX5_run 158 = .ok (.lload 5, 2)) ∧ (decode cX5_run 160 = .ok (.invokevirtual 75, 3)) ∧ (decode cX5_run 163 = .ok (.aload 4, 2)) ∧ (decode cX5_run 165 = .ok (.invokevirtual 79, 3)) ∧ (decode cX5_run 168 = .ok (.iload 7, 2)) ∧ (decode cX5_run 170 = .ok (.ireturn, 1)) ∧ (decode cX5_run 171 = .ok (.aload 4, 2)) ∧ (decode cX5_run 173 = .ok (.iload 11, 2)) ∧ (decode cX5_run 175 = .ok (.lload 9, 2)) ∧ (decode cX5_run 177 = .ok (.invokevirtual 82, 3)) ∧ (decode cX5_run 180 = .ok (.aload_n 0, 1)) ∧ (decode cX5_run 181 = .ok (.dup, 1)) ∧ (decode cX5_run 182 = .ok (.getfield 15, 3)) ∧ (decode cX5_run 185 = .ok (.iconst 1, 1)) := by decide +kernel
theorem dX5_run_154 : decode cX5_run 154 = .ok (.ifCond .ge 17, 3) := da9_dX5_run_154.1
theorem dX5_run_157 : decode cX5_run 157 = .ok (.aload_n 2, 1) := da9_dX5_run_154.2.1
theorem dX5_run_158 : decode cX5_run 158 = .ok (.lload 5, 2) := da9_dX5_run_154.2.2.1
theorem dX5_run_160 : decode cX5_run 160 = .ok (.invokevirtual 75, 3) := da9_dX5_run_154.2.2.2.1
theorem dX5_run_163 : decode cX5_run 163 = .ok (.aload 4, 2) := da9_dX5_run_154.2.2.2.2.1
theorem dX5_run_165 : decode cX5_run 165 = .ok (.invokevirtual 79, 3) := da9_dX5_run_154.2.2.2.2.2.1
theorem dX5_run_168 : decode cX5_run 168 = .ok (.iload 7, 2) := da9_dX5_run_154.2.2.2.2.2.2.1
theorem dX5_run_170 : decode cX5_run 170 = .ok (.ireturn, 1) := da9_dX5_run_154.2.2.2.2.2.2.2.1
theorem dX5_run_171 : decode cX5_run 171 = .ok (.aload 4, 2) := da9_dX5_run_154.2.2.2.2.2.2.2.2.1
theorem dX5_run_173 : decode cX5_run 173 = .ok (.iload 11, 2) := da9_dX5_run_154.2.2.2.2.2.2.2.2.2.1
theorem dX5_run_175 : decode cX5_run 175 = .ok (.lload 9, 2) := da9_dX5_run_154.2.2.2.2.2.2.2.2.2.2.1
theorem dX5_run_177 : decode cX5_run 177 = .ok (.invokevirtual 82, 3) := da9_dX5_run_154.2.2.2.2.2.2.2.2.2.2.2.1
theorem dX5_run_180 : decode cX5_run 180 = .ok (.aload_n 0, 1) := da9_dX5_run_154.2.2.2.2.2.2.2.2.2.2.2.2.1
theorem dX5_run_181 : decode cX5_run 181 = .ok (.dup, 1) := da9_dX5_run_154.2.2.2.2.2.2.2.2.2.2.2.2.2.1
theorem dX5_run_182 : decode cX5_run 182 = .ok (.getfield 15, 3) := da9_dX5_run_154.2.2.2.2.2.2.2.2.2.2.2.2.2.2.1
theorem dX5_run_185 : decode cX5_run 185 = .ok (.iconst 1, 1) := da9_dX5_run_154.2.2.2.2.2.2.2.2.2.2.2.2.2.2.2
theorem da9_dX5_run_186 : (decode cX5_run 186 = .ok (.iadd, 1)) ∧ (decode cX5_run 187 = .ok (.putfield 15, 3)) ∧ (decode cX5_run 190 = .ok (.aload_n 0, 1)) ∧ (decode cX5_run 191 = .ok (.iload 11, 2)) ∧ (decode cX5_run 193 = .ok (.ifCond .ne 8, 3)) ∧ (decode cX5_run 196 = .ok (.iload 13, 2)) ∧ (decode cX5_run 198 = .ok (.goto 7, 3)) ∧ (decode cX5_run 201 = .ok (.aload_n 0, 1)) ∧ (decode cX5_run 202 = .ok (.getfield 19, 3)) ∧ (decode cX5_run 205 = .ok (.putfield 19, 3)) ∧ (decode cX5_run 208 = .ok (.iinc 8 1, 3)) ∧ (decode cX5_run 211 = .ok (.goto (-175), 3)) ∧ (decode cX5_run 214 = .ok (.iinc 7 1, 3)) ∧ (decode cX5_run 217 = .ok (.goto (-193), 3)) ∧ (decode cX5_run 220 = .ok (.iconst (-1), 1)) ∧ (decode cX5_run 221 = .ok (.ireturn, 1)) := by decide +kernel
theorem dX5_run_186 : decode cX5_run 186 = .ok (.iadd, 1) := da9_dX5_run_186.1
theorem dX5_run_187 : decode cX5_run 187 = .ok (.putfield 15, 3) := da9_dX5_run_186.2.1
theorem dX5_run_190 : decode cX5_run 190 = .ok (.aload_n 0, 1) := da9_dX5_run_186.2.2.1
theorem dX5_run_191 : decode cX5_run 191 = .ok (.iload 11, 2) := da9_dX5_run_186.2.2.2.1
theorem dX5_run_193 : decode cX5_run 193 = .ok (.ifCond .ne 8, 3) := da9_dX5_run_186.2.2.2.2.1
theorem dX5_run_196 : decode cX5_run 196 = .ok (.iload 13, 2) := da9_dX5_run_186.2.2.2.2.2.1
theorem dX5_run_198 : decode cX5_run 198 = .ok (.goto 7, 3) := da9_dX5_run_186.2.2.2.2.2.2.1
theorem dX5_run_201 : decode cX5_run 201 = .ok (.aload_n 0, 1) := da9_dX5_run_186.2.2.2.2.2.2.2.1
theorem dX5_run_202 : decode cX5_run 202 = .ok (.getfield 19, 3) := da9_dX5_run_186.2.2.2.2.2.2.2.2.1
theorem dX5_run_205 : decode cX5_run 205 = .ok (.putfield 19, 3) := da9_dX5_run_186.2.2.2.2.2.2.2.2.2.1
theorem dX5_run_208 : decode cX5_run 208 = .ok (.iinc 8 1, 3) := da9_dX5_run_186.2.2.2.2.2.2.2.2.2.2.1
theorem dX5_run_211 : decode cX5_run 211 = .ok (.goto (-175), 3) := da9_dX5_run_186.2.2.2.2.2.2.2.2.2.2.2.1
theorem dX5_run_214 : decode cX5_run 214 = .ok (.iinc 7 1, 3) := da9_dX5_run_186.2.2.2.2.2.2.2.2.2.2.2.2.1
theorem dX5_run_217 : decode cX5_run 217 = .ok (.goto (-193), 3) := da9_dX5_run_186.2.2.2.2.2.2.2.2.2.2.2.2.2.1
theorem dX5_run_220 : decode cX5_run 220 = .ok (.iconst (-1), 1) := da9_dX5_run_186.2.2.2.2.2.2.2.2.2.2.2.2.2.2.1
theorem dX5_run_221 : decode cX5_run 221 = .ok (.ireturn, 1) := da9_dX5_run_186.2.2.2.2.2.2.2.2.2.2.2.2.2.2.2
set_option maxRecDepth 20000 in
theorem ggX9_orders_X4_read : GoodIn wsX9_orders wsX4_read := wd_c vW9_ok mvW9_161
set_option maxRecDepth 20000 in
theorem gX9_orders_X4_read : GoodIn wsX9_orders (wsV RX9 186 RX4 yX4_read wsX4_read) := goodIn_app (wd_l vW9_ok _ pvW9_108) ggX9_orders_X4_read
set_option maxRecDepth 20000 in
theorem ggX9_orders_X9_refuse : GoodIn wsX9_orders wsX9_refuse := wd_c vW9_ok mvW9_12
set_option maxRecDepth 20000 in
theorem gX9_orders_X9_refuse : GoodIn wsX9_orders (wsV RX9 118 RX9 yX9_refuse wsX9_refuse) := goodIn_app (wd_l vW9_ok _ pvW9_91) ggX9_orders_X9_refuse
set_option maxRecDepth 20000 in
theorem ggX9_orders_X9_seated : GoodIn wsX9_orders wsX9_seated := wd_c vW9_ok mvW9_44
set_option maxRecDepth 20000 in
theorem gX9_orders_X9_seated : GoodIn wsX9_orders (wsV RX9 144 RX9 yX9_seated wsX9_seated) := goodIn_app (wd_l vW9_ok _ pvW9_97) ggX9_orders_X9_seated
set_option maxRecDepth 20000 in
theorem ggX9_orders_X5_run : GoodIn wsX9_orders wsX5_run := wd_c vW9_ok mvW9_358
set_option maxRecDepth 20000 in
theorem gX9_orders_X5_run : GoodIn wsX9_orders (wsV RX9 198 RX5 yX5_run wsX5_run) := goodIn_app (wd_l vW9_ok _ pvW9_110) ggX9_orders_X5_run
set_option maxRecDepth 20000 in
theorem ggX9_orders_X9_accept : GoodIn wsX9_orders wsX9_accept := wd_c vW9_ok mvW9_36
set_option maxRecDepth 20000 in
theorem gX9_orders_X9_accept : GoodIn wsX9_orders (wsV RX9 138 RX9 yX9_accept wsX9_accept) := goodIn_app (wd_l vW9_ok _ pvW9_95) ggX9_orders_X9_accept
theorem da9_dX9_orders_0 : (decode cX9_orders 0 = .ok (.aload_n 0, 1)) ∧ (decode cX9_orders 1 = .ok (.getfield 88, 3)) ∧ (decode cX9_orders 4 = .ok (.istore_n 1, 1)) ∧ (decode cX9_orders 5 = .ok (.aload_n 0, 1)) ∧ (decode cX9_orders 6 = .ok (.iconst 0, 1)) ∧ (decode cX9_orders 7 = .ok (.putfield 88, 3)) ∧ (decode cX9_orders 10 = .ok (.aload_n 0, 1)) ∧ (decode cX9_orders 11 = .ok (.iconst (-1), 1)) ∧ (decode cX9_orders 12 = .ok (.putfield 98, 3)) ∧ (decode cX9_orders 15 = .ok (.aload_n 0, 1)) ∧ (decode cX9_orders 16 = .ok (.aload_n 0, 1)) ∧ (decode cX9_orders 17 = .ok (.getfield 64, 3)) ∧ (decode cX9_orders 20 = .ok (.aload_n 0, 1)) ∧ (decode cX9_orders 21 = .ok (.getfield 84, 3)) ∧ (decode cX9_orders 24 = .ok (.iload_n 1, 1)) ∧ (decode cX9_orders 25 = .ok (.iconst 1, 1)) := by decide +kernel
theorem dX9_orders_0 : decode cX9_orders 0 = .ok (.aload_n 0, 1) := da9_dX9_orders_0.1
theorem dX9_orders_1 : decode cX9_orders 1 = .ok (.getfield 88, 3) := da9_dX9_orders_0.2.1
theorem dX9_orders_4 : decode cX9_orders 4 = .ok (.istore_n 1, 1) := da9_dX9_orders_0.2.2.1
theorem dX9_orders_5 : decode cX9_orders 5 = .ok (.aload_n 0, 1) := da9_dX9_orders_0.2.2.2.1
theorem dX9_orders_6 : decode cX9_orders 6 = .ok (.iconst 0, 1) := da9_dX9_orders_0.2.2.2.2.1
theorem dX9_orders_7 : decode cX9_orders 7 = .ok (.putfield 88, 3) := da9_dX9_orders_0.2.2.2.2.2.1
theorem dX9_orders_10 : decode cX9_orders 10 = .ok (.aload_n 0, 1) := da9_dX9_orders_0.2.2.2.2.2.2.1
theorem dX9_orders_11 : decode cX9_orders 11 = .ok (.iconst (-1), 1) := da9_dX9_orders_0.2.2.2.2.2.2.2.1
theorem dX9_orders_12 : decode cX9_orders 12 = .ok (.putfield 98, 3) := da9_dX9_orders_0.2.2.2.2.2.2.2.2.1
theorem dX9_orders_15 : decode cX9_orders 15 = .ok (.aload_n 0, 1) := da9_dX9_orders_0.2.2.2.2.2.2.2.2.2.1
theorem dX9_orders_16 : decode cX9_orders 16 = .ok (.aload_n 0, 1) := da9_dX9_orders_0.2.2.2.2.2.2.2.2.2.2.1
theorem dX9_orders_17 : decode cX9_orders 17 = .ok (.getfield 64, 3) := da9_dX9_orders_0.2.2.2.2.2.2.2.2.2.2.2.1
theorem dX9_orders_20 : decode cX9_orders 20 = .ok (.aload_n 0, 1) := da9_dX9_orders_0.2.2.2.2.2.2.2.2.2.2.2.2.1
theorem dX9_orders_21 : decode cX9_orders 21 = .ok (.getfield 84, 3) := da9_dX9_orders_0.2.2.2.2.2.2.2.2.2.2.2.2.2.1
theorem dX9_orders_24 : decode cX9_orders 24 = .ok (.iload_n 1, 1) := da9_dX9_orders_0.2.2.2.2.2.2.2.2.2.2.2.2.2.2.1
theorem dX9_orders_25 : decode cX9_orders 25 = .ok (.iconst 1, 1) := da9_dX9_orders_0.2.2.2.2.2.2.2.2.2.2.2.2.2.2.2
theorem da9_dX9_orders_26 : (decode cX9_orders 26 = .ok (.aload_n 0, 1)) ∧ (decode cX9_orders 27 = .ok (.getfield 73, 3)) ∧ (decode cX9_orders 30 = .ok (.invokevirtual 186, 3)) ∧ (decode cX9_orders 33 = .ok (.putfield 92, 3)) ∧ (decode cX9_orders 36 = .ok (.aload_n 0, 1)) ∧ (decode cX9_orders 37 = .ok (.getfield 92, 3)) ∧ (decode cX9_orders 40 = .ok (.iconst (-1), 1)) ∧ (decode cX9_orders 41 = .ok (.if_icmp .eq 10, 3)) ∧ (decode cX9_orders 44 = .ok (.aload_n 0, 1)) ∧ (decode cX9_orders 45 = .ok (.bipush (-6), 2)) ∧ (decode cX9_orders 47 = .ok (.invokevirtual 118, 3)) ∧ (decode cX9_orders 50 = .ok (.ireturn, 1)) ∧ (decode cX9_orders 51 = .ok (.aload_n 0, 1)) ∧ (decode cX9_orders 52 = .ok (.aload_n 0, 1)) ∧ (decode cX9_orders 53 = .ok (.getfield 57, 3)) ∧ (decode cX9_orders 56 = .ok (.aload_n 0, 1)) := by decide +kernel
theorem dX9_orders_26 : decode cX9_orders 26 = .ok (.aload_n 0, 1) := da9_dX9_orders_26.1
theorem dX9_orders_27 : decode cX9_orders 27 = .ok (.getfield 73, 3) := da9_dX9_orders_26.2.1
theorem dX9_orders_30 : decode cX9_orders 30 = .ok (.invokevirtual 186, 3) := da9_dX9_orders_26.2.2.1
theorem dX9_orders_33 : decode cX9_orders 33 = .ok (.putfield 92, 3) := da9_dX9_orders_26.2.2.2.1
theorem dX9_orders_36 : decode cX9_orders 36 = .ok (.aload_n 0, 1) := da9_dX9_orders_26.2.2.2.2.1
theorem dX9_orders_37 : decode cX9_orders 37 = .ok (.getfield 92, 3) := da9_dX9_orders_26.2.2.2.2.2.1
theorem dX9_orders_40 : decode cX9_orders 40 = .ok (.iconst (-1), 1) := da9_dX9_orders_26.2.2.2.2.2.2.1
theorem dX9_orders_41 : decode cX9_orders 41 = .ok (.if_icmp .eq 10, 3) := da9_dX9_orders_26.2.2.2.2.2.2.2.1
theorem dX9_orders_44 : decode cX9_orders 44 = .ok (.aload_n 0, 1) := da9_dX9_orders_26.2.2.2.2.2.2.2.2.1
theorem dX9_orders_45 : decode cX9_orders 45 = .ok (.bipush (-6), 2) := da9_dX9_orders_26.2.2.2.2.2.2.2.2.2.1
theorem dX9_orders_47 : decode cX9_orders 47 = .ok (.invokevirtual 118, 3) := da9_dX9_orders_26.2.2.2.2.2.2.2.2.2.2.1
theorem dX9_orders_50 : decode cX9_orders 50 = .ok (.ireturn, 1) := da9_dX9_orders_26.2.2.2.2.2.2.2.2.2.2.2.1
theorem dX9_orders_51 : decode cX9_orders 51 = .ok (.aload_n 0, 1) := da9_dX9_orders_26.2.2.2.2.2.2.2.2.2.2.2.2.1
theorem dX9_orders_52 : decode cX9_orders 52 = .ok (.aload_n 0, 1) := da9_dX9_orders_26.2.2.2.2.2.2.2.2.2.2.2.2.2.1
theorem dX9_orders_53 : decode cX9_orders 53 = .ok (.getfield 57, 3) := da9_dX9_orders_26.2.2.2.2.2.2.2.2.2.2.2.2.2.2.1
theorem dX9_orders_56 : decode cX9_orders 56 = .ok (.aload_n 0, 1) := da9_dX9_orders_26.2.2.2.2.2.2.2.2.2.2.2.2.2.2.2
theorem da9_dX9_orders_57 : (decode cX9_orders 57 = .ok (.getfield 73, 3)) ∧ (decode cX9_orders 60 = .ok (.aload_n 0, 1)) ∧ (decode cX9_orders 61 = .ok (.getfield 10, 3)) ∧ (decode cX9_orders 64 = .ok (.getfield 122, 3)) ∧ (decode cX9_orders 67 = .ok (.aload_n 0, 1)) ∧ (decode cX9_orders 68 = .ok (.invokevirtual 144, 3)) ∧ (decode cX9_orders 71 = .ok (.aload_n 0, 1)) ∧ (decode cX9_orders 72 = .ok (.getfield 27, 3)) ∧ (decode cX9_orders 75 = .ok (.invokevirtual 198, 3)) ∧ (decode cX9_orders 78 = .ok (.putfield 98, 3)) ∧ (decode cX9_orders 81 = .ok (.aload_n 0, 1)) ∧ (decode cX9_orders 82 = .ok (.getfield 98, 3)) ∧ (decode cX9_orders 85 = .ok (.iconst (-1), 1)) ∧ (decode cX9_orders 86 = .ok (.if_icmp .ne 17, 3)) ∧ (decode cX9_orders 89 = .ok (.aload_n 0, 1)) ∧ (decode cX9_orders 90 = .ok (.aload_n 0, 1)) := by decide +kernel
theorem dX9_orders_57 : decode cX9_orders 57 = .ok (.getfield 73, 3) := da9_dX9_orders_57.1
theorem dX9_orders_60 : decode cX9_orders 60 = .ok (.aload_n 0, 1) := da9_dX9_orders_57.2.1
theorem dX9_orders_61 : decode cX9_orders 61 = .ok (.getfield 10, 3) := da9_dX9_orders_57.2.2.1
theorem dX9_orders_64 : decode cX9_orders 64 = .ok (.getfield 122, 3) := da9_dX9_orders_57.2.2.2.1
theorem dX9_orders_67 : decode cX9_orders 67 = .ok (.aload_n 0, 1) := da9_dX9_orders_57.2.2.2.2.1
theorem dX9_orders_68 : decode cX9_orders 68 = .ok (.invokevirtual 144, 3) := da9_dX9_orders_57.2.2.2.2.2.1
theorem dX9_orders_71 : decode cX9_orders 71 = .ok (.aload_n 0, 1) := da9_dX9_orders_57.2.2.2.2.2.2.1
theorem dX9_orders_72 : decode cX9_orders 72 = .ok (.getfield 27, 3) := da9_dX9_orders_57.2.2.2.2.2.2.2.1
theorem dX9_orders_75 : decode cX9_orders 75 = .ok (.invokevirtual 198, 3) := da9_dX9_orders_57.2.2.2.2.2.2.2.2.1
theorem dX9_orders_78 : decode cX9_orders 78 = .ok (.putfield 98, 3) := da9_dX9_orders_57.2.2.2.2.2.2.2.2.2.1
theorem dX9_orders_81 : decode cX9_orders 81 = .ok (.aload_n 0, 1) := da9_dX9_orders_57.2.2.2.2.2.2.2.2.2.2.1
theorem dX9_orders_82 : decode cX9_orders 82 = .ok (.getfield 98, 3) := da9_dX9_orders_57.2.2.2.2.2.2.2.2.2.2.2.1
theorem dX9_orders_85 : decode cX9_orders 85 = .ok (.iconst (-1), 1) := da9_dX9_orders_57.2.2.2.2.2.2.2.2.2.2.2.2.1
theorem dX9_orders_86 : decode cX9_orders 86 = .ok (.if_icmp .ne 17, 3) := da9_dX9_orders_57.2.2.2.2.2.2.2.2.2.2.2.2.2.1
theorem dX9_orders_89 : decode cX9_orders 89 = .ok (.aload_n 0, 1) := da9_dX9_orders_57.2.2.2.2.2.2.2.2.2.2.2.2.2.2.1
theorem dX9_orders_90 : decode cX9_orders 90 = .ok (.aload_n 0, 1) := da9_dX9_orders_57.2.2.2.2.2.2.2.2.2.2.2.2.2.2.2
theorem da9_dX9_orders_91 : (decode cX9_orders 91 = .ok (.getfield 57, 3)) ∧ (decode cX9_orders 94 = .ok (.getfield 202, 3)) ∧ (decode cX9_orders 97 = .ok (.invokevirtual 138, 3)) ∧ (decode cX9_orders 100 = .ok (.goto 9, 3)) ∧ (decode cX9_orders 103 = .ok (.aload_n 0, 1)) ∧ (decode cX9_orders 104 = .ok (.bipush (-3), 2)) ∧ (decode cX9_orders 106 = .ok (.invokevirtual 118, 3)) ∧ (decode cX9_orders 109 = .ok (.ireturn, 1)) := by decide +kernel
theorem dX9_orders_91 : decode cX9_orders 91 = .ok (.getfield 57, 3) := da9_dX9_orders_91.1
theorem dX9_orders_94 : decode cX9_orders 94 = .ok (.getfield 202, 3) := da9_dX9_orders_91.2.1
theorem dX9_orders_97 : decode cX9_orders 97 = .ok (.invokevirtual 138, 3) := da9_dX9_orders_91.2.2.1
theorem dX9_orders_100 : decode cX9_orders 100 = .ok (.goto 9, 3) := da9_dX9_orders_91.2.2.2.1
theorem dX9_orders_103 : decode cX9_orders 103 = .ok (.aload_n 0, 1) := da9_dX9_orders_91.2.2.2.2.1
theorem dX9_orders_104 : decode cX9_orders 104 = .ok (.bipush (-3), 2) := da9_dX9_orders_91.2.2.2.2.2.1
theorem dX9_orders_106 : decode cX9_orders 106 = .ok (.invokevirtual 118, 3) := da9_dX9_orders_91.2.2.2.2.2.2.1
theorem dX9_orders_109 : decode cX9_orders 109 = .ok (.ireturn, 1) := da9_dX9_orders_91.2.2.2.2.2.2.2
theorem da9_dX9_fault_0 : (decode cX9_fault 0 = .ok (.aload_n 0, 1)) ∧ (decode cX9_fault 1 = .ok (.getfield 92, 3)) ∧ (decode cX9_fault 4 = .ok (.ireturn, 1)) := by decide +kernel
theorem dX9_fault_0 : decode cX9_fault 0 = .ok (.aload_n 0, 1) := da9_dX9_fault_0.1
theorem dX9_fault_1 : decode cX9_fault 1 = .ok (.getfield 92, 3) := da9_dX9_fault_0.2.1
theorem dX9_fault_4 : decode cX9_fault 4 = .ok (.ireturn, 1) := da9_dX9_fault_0.2.2
theorem da9_dX9_stopped_0 : (decode cX9_stopped 0 = .ok (.aload_n 0, 1)) ∧ (decode cX9_stopped 1 = .ok (.getfield 98, 3)) ∧ (decode cX9_stopped 4 = .ok (.ireturn, 1)) := by decide +kernel
theorem dX9_stopped_0 : decode cX9_stopped 0 = .ok (.aload_n 0, 1) := da9_dX9_stopped_0.1
theorem dX9_stopped_1 : decode cX9_stopped 1 = .ok (.getfield 98, 3) := da9_dX9_stopped_0.2.1
theorem dX9_stopped_4 : decode cX9_stopped 4 = .ok (.ireturn, 1) := da9_dX9_stopped_0.2.2
set_option maxRecDepth 20000 in
theorem ggX9_force_X6_isLaw : GoodIn wsX9_force wsX6_isLaw := wd_c vW9_ok mvW9_55
set_option maxRecDepth 20000 in
theorem gX9_force_X6_isLaw : GoodIn wsX9_force (wsV RX9 205 RX6 yX6_isLaw wsX6_isLaw) := goodIn_app (wd_l vW9_ok _ pvW9_111) ggX9_force_X6_isLaw
set_option maxRecDepth 20000 in
theorem ggX9_force_X9_refuse : GoodIn wsX9_force wsX9_refuse := wd_c vW9_ok mvW9_12
set_option maxRecDepth 20000 in
theorem gX9_force_X9_refuse : GoodIn wsX9_force (wsV RX9 118 RX9 yX9_refuse wsX9_refuse) := goodIn_app (wd_l vW9_ok _ pvW9_91) ggX9_force_X9_refuse
set_option maxRecDepth 20000 in
theorem ggX9_force_X9_accept : GoodIn wsX9_force wsX9_accept := wd_c vW9_ok mvW9_36
set_option maxRecDepth 20000 in
theorem gX9_force_X9_accept : GoodIn wsX9_force (wsV RX9 138 RX9 yX9_accept wsX9_accept) := goodIn_app (wd_l vW9_ok _ pvW9_95) ggX9_force_X9_accept
theorem da9_dX9_force_0 : (decode cX9_force 0 = .ok (.iload_n 1, 1)) ∧ (decode cX9_force 1 = .ok (.iconst (-1), 1)) ∧ (decode cX9_force 2 = .ok (.if_icmp .eq 21, 3)) ∧ (decode cX9_force 5 = .ok (.aload_n 0, 1)) ∧ (decode cX9_force 6 = .ok (.getfield 10, 3)) ∧ (decode cX9_force 9 = .ok (.iload_n 1, 1)) ∧ (decode cX9_force 10 = .ok (.invokevirtual 205, 3)) ∧ (decode cX9_force 13 = .ok (.ifCond .ne 10, 3)) ∧ (decode cX9_force 16 = .ok (.aload_n 0, 1)) ∧ (decode cX9_force 17 = .ok (.bipush (-2), 2)) ∧ (decode cX9_force 19 = .ok (.invokevirtual 118, 3)) ∧ (decode cX9_force 22 = .ok (.ireturn, 1)) ∧ (decode cX9_force 23 = .ok (.aload_n 0, 1)) ∧ (decode cX9_force 24 = .ok (.getfield 10, 3)) ∧ (decode cX9_force 27 = .ok (.getfield 208, 3)) ∧ (decode cX9_force 30 = .ok (.istore_n 2, 1)) := by decide +kernel
theorem dX9_force_0 : decode cX9_force 0 = .ok (.iload_n 1, 1) := da9_dX9_force_0.1
theorem dX9_force_1 : decode cX9_force 1 = .ok (.iconst (-1), 1) := da9_dX9_force_0.2.1
theorem dX9_force_2 : decode cX9_force 2 = .ok (.if_icmp .eq 21, 3) := da9_dX9_force_0.2.2.1
theorem dX9_force_5 : decode cX9_force 5 = .ok (.aload_n 0, 1) := da9_dX9_force_0.2.2.2.1
theorem dX9_force_6 : decode cX9_force 6 = .ok (.getfield 10, 3) := da9_dX9_force_0.2.2.2.2.1
theorem dX9_force_9 : decode cX9_force 9 = .ok (.iload_n 1, 1) := da9_dX9_force_0.2.2.2.2.2.1
theorem dX9_force_10 : decode cX9_force 10 = .ok (.invokevirtual 205, 3) := da9_dX9_force_0.2.2.2.2.2.2.1
theorem dX9_force_13 : decode cX9_force 13 = .ok (.ifCond .ne 10, 3) := da9_dX9_force_0.2.2.2.2.2.2.2.1
theorem dX9_force_16 : decode cX9_force 16 = .ok (.aload_n 0, 1) := da9_dX9_force_0.2.2.2.2.2.2.2.2.1
theorem dX9_force_17 : decode cX9_force 17 = .ok (.bipush (-2), 2) := da9_dX9_force_0.2.2.2.2.2.2.2.2.2.1
theorem dX9_force_19 : decode cX9_force 19 = .ok (.invokevirtual 118, 3) := da9_dX9_force_0.2.2.2.2.2.2.2.2.2.2.1
theorem dX9_force_22 : decode cX9_force 22 = .ok (.ireturn, 1) := da9_dX9_force_0.2.2.2.2.2.2.2.2.2.2.2.1
theorem dX9_force_23 : decode cX9_force 23 = .ok (.aload_n 0, 1) := da9_dX9_force_0.2.2.2.2.2.2.2.2.2.2.2.2.1
theorem dX9_force_24 : decode cX9_force 24 = .ok (.getfield 10, 3) := da9_dX9_force_0.2.2.2.2.2.2.2.2.2.2.2.2.2.1
theorem dX9_force_27 : decode cX9_force 27 = .ok (.getfield 208, 3) := da9_dX9_force_0.2.2.2.2.2.2.2.2.2.2.2.2.2.2.1
theorem dX9_force_30 : decode cX9_force 30 = .ok (.istore_n 2, 1) := da9_dX9_force_0.2.2.2.2.2.2.2.2.2.2.2.2.2.2.2
theorem da9_dX9_force_31 : (decode cX9_force 31 = .ok (.aload_n 0, 1)) ∧ (decode cX9_force 32 = .ok (.getfield 10, 3)) ∧ (decode cX9_force 35 = .ok (.iload_n 1, 1)) ∧ (decode cX9_force 36 = .ok (.putfield 208, 3)) ∧ (decode cX9_force 39 = .ok (.aload_n 0, 1)) ∧ (decode cX9_force 40 = .ok (.iload_n 2, 1)) ∧ (decode cX9_force 41 = .ok (.invokevirtual 138, 3)) ∧ (decode cX9_force 44 = .ok (.ireturn, 1)) := by decide +kernel
theorem dX9_force_31 : decode cX9_force 31 = .ok (.aload_n 0, 1) := da9_dX9_force_31.1
theorem dX9_force_32 : decode cX9_force 32 = .ok (.getfield 10, 3) := da9_dX9_force_31.2.1
theorem dX9_force_35 : decode cX9_force 35 = .ok (.iload_n 1, 1) := da9_dX9_force_31.2.2.1
theorem dX9_force_36 : decode cX9_force 36 = .ok (.putfield 208, 3) := da9_dX9_force_31.2.2.2.1
theorem dX9_force_39 : decode cX9_force 39 = .ok (.aload_n 0, 1) := da9_dX9_force_31.2.2.2.2.1
theorem dX9_force_40 : decode cX9_force 40 = .ok (.iload_n 2, 1) := da9_dX9_force_31.2.2.2.2.2.1
theorem dX9_force_41 : decode cX9_force 41 = .ok (.invokevirtual 138, 3) := da9_dX9_force_31.2.2.2.2.2.2.1
theorem dX9_force_44 : decode cX9_force 44 = .ok (.ireturn, 1) := da9_dX9_force_31.2.2.2.2.2.2.2
set_option maxRecDepth 20000 in
theorem ggX9_turn_X9_move : GoodIn wsX9_turn wsX9_move := wd_c vW9_ok mvW9_448
set_option maxRecDepth 20000 in
theorem gX9_turn_X9_move : GoodIn wsX9_turn (wsV RX9 211 RX9 yX9_move wsX9_move) := goodIn_app (wd_l vW9_ok _ pvW9_112) ggX9_turn_X9_move
theorem da9_dX9_turn_0 : (decode cX9_turn 0 = .ok (.aload_n 0, 1)) ∧ (decode cX9_turn 1 = .ok (.iconst 0, 1)) ∧ (decode cX9_turn 2 = .ok (.iload_n 1, 1)) ∧ (decode cX9_turn 3 = .ok (.invokevirtual 211, 3)) ∧ (decode cX9_turn 6 = .ok (.ireturn, 1)) := by decide +kernel
theorem dX9_turn_0 : decode cX9_turn 0 = .ok (.aload_n 0, 1) := da9_dX9_turn_0.1
theorem dX9_turn_1 : decode cX9_turn 1 = .ok (.iconst 0, 1) := da9_dX9_turn_0.2.1
theorem dX9_turn_2 : decode cX9_turn 2 = .ok (.iload_n 1, 1) := da9_dX9_turn_0.2.2.1
theorem dX9_turn_3 : decode cX9_turn 3 = .ok (.invokevirtual 211, 3) := da9_dX9_turn_0.2.2.2.1
theorem dX9_turn_6 : decode cX9_turn 6 = .ok (.ireturn, 1) := da9_dX9_turn_0.2.2.2.2
set_option maxRecDepth 20000 in
theorem ggX9_right_X9_move : GoodIn wsX9_right wsX9_move := wd_c vW9_ok mvW9_448
set_option maxRecDepth 20000 in
theorem gX9_right_X9_move : GoodIn wsX9_right (wsV RX9 211 RX9 yX9_move wsX9_move) := goodIn_app (wd_l vW9_ok _ pvW9_112) ggX9_right_X9_move
theorem da9_dX9_right_0 : (decode cX9_right 0 = .ok (.aload_n 0, 1)) ∧ (decode cX9_right 1 = .ok (.iconst 1, 1)) ∧ (decode cX9_right 2 = .ok (.iload_n 1, 1)) ∧ (decode cX9_right 3 = .ok (.invokevirtual 211, 3)) ∧ (decode cX9_right 6 = .ok (.ireturn, 1)) := by decide +kernel
theorem dX9_right_0 : decode cX9_right 0 = .ok (.aload_n 0, 1) := da9_dX9_right_0.1
theorem dX9_right_1 : decode cX9_right 1 = .ok (.iconst 1, 1) := da9_dX9_right_0.2.1
theorem dX9_right_2 : decode cX9_right 2 = .ok (.iload_n 1, 1) := da9_dX9_right_0.2.2.1
theorem dX9_right_3 : decode cX9_right 3 = .ok (.invokevirtual 211, 3) := da9_dX9_right_0.2.2.2.1
theorem dX9_right_6 : decode cX9_right 6 = .ok (.ireturn, 1) := da9_dX9_right_0.2.2.2.2
set_option maxRecDepth 20000 in
theorem ggX9_swap_X9_move : GoodIn wsX9_swap wsX9_move := wd_c vW9_ok mvW9_448
set_option maxRecDepth 20000 in
theorem gX9_swap_X9_move : GoodIn wsX9_swap (wsV RX9 211 RX9 yX9_move wsX9_move) := goodIn_app (wd_l vW9_ok _ pvW9_112) ggX9_swap_X9_move
theorem da9_dX9_swap_0 : (decode cX9_swap 0 = .ok (.aload_n 0, 1)) ∧ (decode cX9_swap 1 = .ok (.iconst 2, 1)) ∧ (decode cX9_swap 2 = .ok (.iload_n 1, 1)) ∧ (decode cX9_swap 3 = .ok (.invokevirtual 211, 3)) ∧ (decode cX9_swap 6 = .ok (.ireturn, 1)) := by decide +kernel
theorem dX9_swap_0 : decode cX9_swap 0 = .ok (.aload_n 0, 1) := da9_dX9_swap_0.1
theorem dX9_swap_1 : decode cX9_swap 1 = .ok (.iconst 2, 1) := da9_dX9_swap_0.2.1
theorem dX9_swap_2 : decode cX9_swap 2 = .ok (.iload_n 1, 1) := da9_dX9_swap_0.2.2.1
theorem dX9_swap_3 : decode cX9_swap 3 = .ok (.invokevirtual 211, 3) := da9_dX9_swap_0.2.2.2.1
theorem dX9_swap_6 : decode cX9_swap 6 = .ok (.ireturn, 1) := da9_dX9_swap_0.2.2.2.2
set_option maxRecDepth 20000 in
theorem ggX9_move_X8_pack : GoodIn wsX9_move wsX8_pack := wd_c vW9_ok mvW9_366
set_option maxRecDepth 20000 in
theorem gX9_move_X8_pack : GoodIn wsX9_move (wsV RX9 318 RX8 yX8_pack wsX8_pack) := goodIn_app (wd_l vW9_ok _ pvW9_132) ggX9_move_X8_pack
set_option maxRecDepth 20000 in
theorem ggX9_move_X9_seated : GoodIn wsX9_move wsX9_seated := wd_c vW9_ok mvW9_44
set_option maxRecDepth 20000 in
theorem gX9_move_X9_seated : GoodIn wsX9_move (wsV RX9 144 RX9 yX9_seated wsX9_seated) := goodIn_app (wd_l vW9_ok _ pvW9_97) ggX9_move_X9_seated
set_option maxRecDepth 20000 in
theorem ggX9_move_X8_act : GoodIn wsX9_move wsX8_act := wd_c vW9_ok mvW9_398
set_option maxRecDepth 20000 in
theorem gX9_move_X8_act : GoodIn wsX9_move (wsV RX9 325 RX8 yX8_act wsX8_act) := goodIn_app (wd_l vW9_ok _ pvW9_134) ggX9_move_X8_act
set_option maxRecDepth 20000 in
theorem ggX9_move_X9_refuse : GoodIn wsX9_move wsX9_refuse := wd_c vW9_ok mvW9_12
set_option maxRecDepth 20000 in
theorem gX9_move_X9_refuse : GoodIn wsX9_move (wsV RX9 118 RX9 yX9_refuse wsX9_refuse) := goodIn_app (wd_l vW9_ok _ pvW9_91) ggX9_move_X9_refuse
set_option maxRecDepth 20000 in
theorem ggX9_move_X0_keep : GoodIn wsX9_move wsX0_keep := wd_c vW9_ok mvW9_443
set_option maxRecDepth 20000 in
theorem gX9_move_X0_keep : GoodIn wsX9_move (wsV RX9 342 RX0 yX0_keep wsX0_keep) := goodIn_app (wd_l vW9_ok _ pvW9_138) ggX9_move_X0_keep
set_option maxRecDepth 20000 in
theorem ggX9_move_X9_accept : GoodIn wsX9_move wsX9_accept := wd_c vW9_ok mvW9_36
set_option maxRecDepth 20000 in
theorem gX9_move_X9_accept : GoodIn wsX9_move (wsV RX9 138 RX9 yX9_accept wsX9_accept) := goodIn_app (wd_l vW9_ok _ pvW9_95) ggX9_move_X9_accept
theorem da9_dX9_move_0 : (decode cX9_move 0 = .ok (.aload_n 0, 1)) ∧ (decode cX9_move 1 = .ok (.getfield 10, 3)) ∧ (decode cX9_move 4 = .ok (.getfield 122, 3)) ∧ (decode cX9_move 7 = .ok (.invokevirtual 318, 3)) ∧ (decode cX9_move 10 = .ok (.lstore_n 3, 1)) ∧ (decode cX9_move 11 = .ok (.aload_n 0, 1)) ∧ (decode cX9_move 12 = .ok (.getfield 10, 3)) ∧ (decode cX9_move 15 = .ok (.getfield 122, 3)) ∧ (decode cX9_move 18 = .ok (.iload_n 1, 1)) ∧ (decode cX9_move 19 = .ok (.iload_n 2, 1)) ∧ (decode cX9_move 20 = .ok (.aload_n 0, 1)) ∧ (decode cX9_move 21 = .ok (.invokevirtual 144, 3)) ∧ (decode cX9_move 24 = .ok (.invokevirtual 325, 3)) ∧ (decode cX9_move 27 = .ok (.istore 5, 2)) ∧ (decode cX9_move 29 = .ok (.iload 5, 2)) ∧ (decode cX9_move 31 = .ok (.ifCond .ge 10, 3)) := by decide +kernel
theorem dX9_move_0 : decode cX9_move 0 = .ok (.aload_n 0, 1) := da9_dX9_move_0.1
theorem dX9_move_1 : decode cX9_move 1 = .ok (.getfield 10, 3) := da9_dX9_move_0.2.1
theorem dX9_move_4 : decode cX9_move 4 = .ok (.getfield 122, 3) := da9_dX9_move_0.2.2.1
theorem dX9_move_7 : decode cX9_move 7 = .ok (.invokevirtual 318, 3) := da9_dX9_move_0.2.2.2.1
theorem dX9_move_10 : decode cX9_move 10 = .ok (.lstore_n 3, 1) := da9_dX9_move_0.2.2.2.2.1
theorem dX9_move_11 : decode cX9_move 11 = .ok (.aload_n 0, 1) := da9_dX9_move_0.2.2.2.2.2.1
theorem dX9_move_12 : decode cX9_move 12 = .ok (.getfield 10, 3) := da9_dX9_move_0.2.2.2.2.2.2.1
theorem dX9_move_15 : decode cX9_move 15 = .ok (.getfield 122, 3) := da9_dX9_move_0.2.2.2.2.2.2.2.1
theorem dX9_move_18 : decode cX9_move 18 = .ok (.iload_n 1, 1) := da9_dX9_move_0.2.2.2.2.2.2.2.2.1
theorem dX9_move_19 : decode cX9_move 19 = .ok (.iload_n 2, 1) := da9_dX9_move_0.2.2.2.2.2.2.2.2.2.1
theorem dX9_move_20 : decode cX9_move 20 = .ok (.aload_n 0, 1) := da9_dX9_move_0.2.2.2.2.2.2.2.2.2.2.1
theorem dX9_move_21 : decode cX9_move 21 = .ok (.invokevirtual 144, 3) := da9_dX9_move_0.2.2.2.2.2.2.2.2.2.2.2.1
theorem dX9_move_24 : decode cX9_move 24 = .ok (.invokevirtual 325, 3) := da9_dX9_move_0.2.2.2.2.2.2.2.2.2.2.2.2.1
theorem dX9_move_27 : decode cX9_move 27 = .ok (.istore 5, 2) := da9_dX9_move_0.2.2.2.2.2.2.2.2.2.2.2.2.2.1
theorem dX9_move_29 : decode cX9_move 29 = .ok (.iload 5, 2) := da9_dX9_move_0.2.2.2.2.2.2.2.2.2.2.2.2.2.2.1
theorem dX9_move_31 : decode cX9_move 31 = .ok (.ifCond .ge 10, 3) := da9_dX9_move_0.2.2.2.2.2.2.2.2.2.2.2.2.2.2.2
theorem da9_dX9_move_34 : (decode cX9_move 34 = .ok (.aload_n 0, 1)) ∧ (decode cX9_move 35 = .ok (.iload 5, 2)) ∧ (decode cX9_move 37 = .ok (.invokevirtual 118, 3)) ∧ (decode cX9_move 40 = .ok (.ireturn, 1)) ∧ (decode cX9_move 41 = .ok (.aload_n 0, 1)) ∧ (decode cX9_move 42 = .ok (.getfield 27, 3)) ∧ (decode cX9_move 45 = .ok (.iload_n 1, 1)) ∧ (decode cX9_move 46 = .ok (.lload_n 3, 1)) ∧ (decode cX9_move 47 = .ok (.invokevirtual 342, 3)) ∧ (decode cX9_move 50 = .ok (.aload_n 0, 1)) ∧ (decode cX9_move 51 = .ok (.iload 5, 2)) ∧ (decode cX9_move 53 = .ok (.invokevirtual 138, 3)) ∧ (decode cX9_move 56 = .ok (.ireturn, 1)) := by decide +kernel
theorem dX9_move_34 : decode cX9_move 34 = .ok (.aload_n 0, 1) := da9_dX9_move_34.1
theorem dX9_move_35 : decode cX9_move 35 = .ok (.iload 5, 2) := da9_dX9_move_34.2.1
theorem dX9_move_37 : decode cX9_move 37 = .ok (.invokevirtual 118, 3) := da9_dX9_move_34.2.2.1
theorem dX9_move_40 : decode cX9_move 40 = .ok (.ireturn, 1) := da9_dX9_move_34.2.2.2.1
theorem dX9_move_41 : decode cX9_move 41 = .ok (.aload_n 0, 1) := da9_dX9_move_34.2.2.2.2.1
theorem dX9_move_42 : decode cX9_move 42 = .ok (.getfield 27, 3) := da9_dX9_move_34.2.2.2.2.2.1
theorem dX9_move_45 : decode cX9_move 45 = .ok (.iload_n 1, 1) := da9_dX9_move_34.2.2.2.2.2.2.1
theorem dX9_move_46 : decode cX9_move 46 = .ok (.lload_n 3, 1) := da9_dX9_move_34.2.2.2.2.2.2.2.1
theorem dX9_move_47 : decode cX9_move 47 = .ok (.invokevirtual 342, 3) := da9_dX9_move_34.2.2.2.2.2.2.2.2.1
theorem dX9_move_50 : decode cX9_move 50 = .ok (.aload_n 0, 1) := da9_dX9_move_34.2.2.2.2.2.2.2.2.2.1
theorem dX9_move_51 : decode cX9_move 51 = .ok (.iload 5, 2) := da9_dX9_move_34.2.2.2.2.2.2.2.2.2.2.1
theorem dX9_move_53 : decode cX9_move 53 = .ok (.invokevirtual 138, 3) := da9_dX9_move_34.2.2.2.2.2.2.2.2.2.2.2.1
theorem dX9_move_56 : decode cX9_move 56 = .ok (.ireturn, 1) := da9_dX9_move_34.2.2.2.2.2.2.2.2.2.2.2.2
end
section
theorem u9_wsX0_backToMark_X0 : ∀ w ∈ u_ws RX0 TX0 6, w ∈ wsX0_backToMark := fun w h => List.mem_cons_of_mem _ (vW9_wsX00 w h)
theorem f9_wsX0_backToMark_669 : (Cond.fieldLink RX0 23 "TurnedFloors$History" "markedTowers" "[J") ∈ wsX0_backToMark := List.mem_cons_of_mem _ mvW9_374
theorem f9_wsX0_backToMark_670 : (Cond.fieldLink RX0 9 "TurnedFloors$History" "towers" "[J") ∈ wsX0_backToMark := List.mem_cons_of_mem _ mvW9_373
theorem f9_wsX0_backToMark_671 : (Cond.methodLink RX0 32 arraycopyName) ∈ wsX0_backToMark := List.mem_cons_of_mem _ mvW9_375
theorem f9_wsX0_backToMark_672 : (Cond.native arraycopyName) ∈ wsX0_backToMark := List.mem_cons_of_mem _ mvW9_342
theorem f9_wsX0_backToMark_673 : (Cond.static arraycopyName) ∈ wsX0_backToMark := List.mem_cons_of_mem _ mvW9_343
theorem f9_wsX0_backToMark_674 : (Cond.initialized "java/lang/System") ∈ wsX0_backToMark := List.mem_cons_of_mem _ mvW9_344
theorem f9_wsX0_backToMark_675 : (Cond.fieldLink RX0 26 "TurnedFloors$History" "markedKinds" "[I") ∈ wsX0_backToMark := List.mem_cons_of_mem _ mvW9_377
theorem f9_wsX0_backToMark_676 : (Cond.fieldLink RX0 15 "TurnedFloors$History" "kinds" "[I") ∈ wsX0_backToMark := List.mem_cons_of_mem _ mvW9_376
theorem f9_wsX0_backToMark_677 : (Cond.fieldLink RX0 29 "TurnedFloors$History" "markedKept" "I") ∈ wsX0_backToMark := List.mem_cons_of_mem _ mvW9_378
theorem f9_wsX0_backToMark_678 : (Cond.fieldLink RX0 19 "TurnedFloors$History" "kept" "I") ∈ wsX0_backToMark := List.mem_cons_of_mem _ mvW9_32
theorem u9_wsX5_run_X5 : ∀ w ∈ u_ws RX5 TX5 4, w ∈ wsX5_run := fun w h => List.mem_cons_of_mem _ (vW9_wsX50 w h)
theorem f9_wsX5_run_680 : (Cond.fieldLink RX5 19 "TurnedFloors$Runner" "latest" "I") ∈ wsX5_run := List.mem_cons_of_mem _ mvW9_360
theorem f9_wsX5_run_681 : (Cond.fieldLink RX5 15 "TurnedFloors$Runner" "done" "I") ∈ wsX5_run := List.mem_cons_of_mem _ mvW9_359
theorem u9_wsX5_run_X7 : ∀ w ∈ u_ws RX7 TX7 8, w ∈ wsX5_run := fun w h => List.mem_cons_of_mem _ (vW9_wsX70 w h)
theorem u9_wsX5_run_X2 : ∀ w ∈ u_ws RX2 TX2 2, w ∈ wsX5_run := fun w h => List.mem_cons_of_mem _ (vW9_wsX20 w h)
theorem f9_wsX5_run_684 : (Cond.fieldLink RX5 22 "TurnedFloors$Runner" "machine" "LTurnedFloors$Machine;") ∈ wsX5_run := List.mem_cons_of_mem _ mvW9_361
theorem f9_wsX5_run_685 : (Cond.fieldLink RX5 11 "TurnedFloors$Runner" "words" "[I") ∈ wsX5_run := List.mem_cons_of_mem _ mvW9_362
theorem u9_wsX9_orders_X9 : ∀ w ∈ u_ws RX9 TX9 19, w ∈ wsX9_orders := fun w h => List.mem_cons_of_mem _ (vW9_wsX90 w h)
theorem u9_wsX9_orders_X6 : ∀ w ∈ u_ws RX6 TX6 10, w ∈ wsX9_orders := fun w h => List.mem_cons_of_mem _ (vW9_wsX60 w h)
theorem u9_wsX9_orders_X5 : ∀ w ∈ u_ws RX5 TX5 4, w ∈ wsX9_orders := fun w h => List.mem_cons_of_mem _ (vW9_wsX50 w h)
theorem f9_wsX9_orders_689 : (Cond.fieldLink RX9 88 "TurnedFloors" "tapeLength" "I") ∈ wsX9_orders := List.mem_cons_of_mem _ mvW9_143
theorem f9_wsX9_orders_690 : (Cond.fieldLink RX9 98 "TurnedFloors" "stoppedClause" "I") ∈ wsX9_orders := List.mem_cons_of_mem _ mvW9_352
theorem f9_wsX9_orders_691 : (Cond.fieldLink RX9 64 "TurnedFloors" "reader" "LTurnedFloors$Reader;") ∈ wsX9_orders := List.mem_cons_of_mem _ mvW9_154
theorem f9_wsX9_orders_692 : (Cond.fieldLink RX9 84 "TurnedFloors" "tape" "[I") ∈ wsX9_orders := List.mem_cons_of_mem _ mvW9_148
theorem f9_wsX9_orders_693 : (Cond.fieldLink RX9 73 "TurnedFloors" "draft" "LTurnedFloors$Text;") ∈ wsX9_orders := List.mem_cons_of_mem _ mvW9_155
theorem f9_wsX9_orders_694 : (Cond.fieldLink RX9 92 "TurnedFloors" "faultPlace" "I") ∈ wsX9_orders := List.mem_cons_of_mem _ mvW9_156
theorem f9_wsX9_orders_695 : (Cond.fieldLink RX9 57 "TurnedFloors" "runner" "LTurnedFloors$Runner;") ∈ wsX9_orders := List.mem_cons_of_mem _ mvW9_353
theorem f9_wsX9_orders_696 : (Cond.fieldLink RX9 10 "TurnedFloors" "state" "LTurnedFloors$State;") ∈ wsX9_orders := List.mem_cons_of_mem _ mvW9_0
theorem f9_wsX9_orders_697 : (Cond.fieldLink RX9 27 "TurnedFloors" "history" "LTurnedFloors$History;") ∈ wsX9_orders := List.mem_cons_of_mem _ mvW9_1
theorem u9_wsX9_fault_X9 : ∀ w ∈ u_ws RX9 TX9 19, w ∈ wsX9_fault := fun w h => List.mem_cons_of_mem _ (vW9_wsX90 w h)
theorem f9_wsX9_fault_699 : (Cond.fieldLink RX9 92 "TurnedFloors" "faultPlace" "I") ∈ wsX9_fault := List.mem_cons_of_mem _ mvW9_156
theorem u9_wsX9_stopped_X9 : ∀ w ∈ u_ws RX9 TX9 19, w ∈ wsX9_stopped := fun w h => List.mem_cons_of_mem _ (vW9_wsX90 w h)
theorem f9_wsX9_stopped_701 : (Cond.fieldLink RX9 98 "TurnedFloors" "stoppedClause" "I") ∈ wsX9_stopped := List.mem_cons_of_mem _ mvW9_352
theorem u9_wsX9_force_X9 : ∀ w ∈ u_ws RX9 TX9 19, w ∈ wsX9_force := fun w h => List.mem_cons_of_mem _ (vW9_wsX90 w h)
theorem u9_wsX9_force_X6 : ∀ w ∈ u_ws RX6 TX6 10, w ∈ wsX9_force := fun w h => List.mem_cons_of_mem _ (vW9_wsX60 w h)
theorem f9_wsX9_force_704 : (Cond.fieldLink RX9 10 "TurnedFloors" "state" "LTurnedFloors$State;") ∈ wsX9_force := List.mem_cons_of_mem _ mvW9_0
theorem u9_wsX9_move_X9 : ∀ w ∈ u_ws RX9 TX9 19, w ∈ wsX9_move := fun w h => List.mem_cons_of_mem _ (vW9_wsX90 w h)
theorem u9_wsX9_move_X6 : ∀ w ∈ u_ws RX6 TX6 10, w ∈ wsX9_move := fun w h => List.mem_cons_of_mem _ (vW9_wsX60 w h)
theorem f9_wsX9_move_707 : (Cond.fieldLink RX9 10 "TurnedFloors" "state" "LTurnedFloors$State;") ∈ wsX9_move := List.mem_cons_of_mem _ mvW9_0
theorem f9_wsX9_move_708 : (Cond.fieldLink RX9 27 "TurnedFloors" "history" "LTurnedFloors$History;") ∈ wsX9_move := List.mem_cons_of_mem _ mvW9_1
set_option maxHeartbeats 4000000 in
set_option maxRecDepth 100000 in
theorem qX0_backToMark_s10 (l : Launch) (D : va_G) (ty : Nat → ClassId) (eo : Nat → Nat) (sz : Nat) (ad : Nat → Nat) (q : dK)  (o2 : dK) (h : zX0_backToMark_s10 q = some o2) : Met l yX0_backToMark wsX0_backToMark ({ frames := 1, cells := 0, slots := 0, locals := 40 } : Room) (va_Pc [.ref (ad 10)] (kz_pre D ty eo (wF ty ad q) sz)) (va_Qv (fun (u : va_W) => wF ty ad o2 = u) (kz_B D ty (va_A (wF ty ad q) sz)) (va_A (wF ty ad q) sz)) 0 0 (va_A (wF ty ad q) sz) := by
  refine Met.ofW (cc := cX0_backToMark) (maxL := 1) (ret := none) (by decide) rfl ?_
  intro p e s m args below meth c s₁ B hml hv
  obtain ⟨rfl, hsz, hP, hK, hD0, hN, hE⟩ := hv
  have hx := B.exec
  have hb := B.bytes
  have hr := B.returns
  have hts := atoms_spec (ws := wsX0_backToMark) B.pre
  have hown : s.vm.findClass RX0 = some m.cls := findClass_of_methodNamed B.named
  have hlocks := B.notSynchronized
  subst hsz
  have hD := hD0.self (sz := s.heap.size)
  generalize hAe : va_A (wF ty ad q) s.heap.size = A at hD hE ⊢
  have hA : ∀ q : Nat, s.heap.size ≤ q → A q := fun q h => by rw [← hAe]; exact Or.inr h
  clear hAe
  have hS : va_S A s.heap s.heap [] := va_S.rf
  have hl := lv_entry ([.ref (ad 10)]) (n := 1) (Nat.le_of_ble_eq_true rfl)
  rw [lg_entry_eq]
  generalize (lg_sl ([.ref (ad 10)]) ++ List.replicate (1 - (lg_sl ([.ref (ad 10)])).length) Slot.unset).toArray = ls at hl ⊢
  have hl : lv_has ls 1 [(0, .ref (ad 10))] := hl
  have C : dc_C p s m _ meth c cX0_backToMark none 1 RX0 wsX0_backToMark D ty eo A := ⟨hx, hb, hr, hts, hown, hlocks, hml, hK, hN, hE, hA⟩
  unfold zX0_backToMark_s10 at h
  refine lv_aload_n hx hb dX0_backToMark_0 rfl (lv_at hl 0 rfl) ?_
  refine va_get (D := D) (ci := 0) (v := .ref (ad 13)) (C := RX0) (T := TX0) (N := 6) hx hb hts u9_wsX0_backToMark_X0 hown hK hP 10 rfl rfl 3 (by decide) (hts (.fieldLink RX0 23 "TurnedFloors$History" "markedTowers" "[J") f9_wsX0_backToMark_669) (fun _ h9 => h9) rfl dX0_backToMark_1 ?_
  refine lv_iconst (v := 0) hx hb dX0_backToMark_4 (by decide) ?_
  refine lv_aload_n hx hb dX0_backToMark_5 rfl (lv_at hl 0 rfl) ?_
  refine va_get (D := D) (ci := 0) (v := .ref (ad 11)) (C := RX0) (T := TX0) (N := 6) hx hb hts u9_wsX0_backToMark_X0 hown hK hP 10 rfl rfl 0 (by decide) (hts (.fieldLink RX0 9 "TurnedFloors$History" "towers" "[J") f9_wsX0_backToMark_670) (fun _ h9 => h9) rfl dX0_backToMark_6 ?_
  refine lv_iconst (v := 0) hx hb dX0_backToMark_9 (by decide) ?_
  refine lv_bipush (v := 16) hx hb dX0_backToMark_10 (by decide) ?_
  refine va_copyl hx hb (hml.trans hl.1.symm) hown (hts (.methodLink RX0 32 arraycopyName) f9_wsX0_backToMark_671) (hts (.native arraycopyName) f9_wsX0_backToMark_672) (hts (.static arraycopyName) f9_wsX0_backToMark_673) (hts (.initialized "java/lang/System") f9_wsX0_backToMark_674) hK hP hD hS 13 11 1 1 rfl rfl rfl rfl rfl (by decide) (by decide) (by decide) (by decide) (by decide) (fun _ _ => rfl) (Nat.le_of_ble_eq_true rfl) (Nat.le_of_ble_eq_true rfl) dX0_backToMark_12 (fun H locs hp hd hs => ?_)
  obtain ⟨q1, eq1, h⟩ := dL_some h
  refine kz_re (w2 := wF ty ad q1) hp hd hs (by rw [← eq1]; exact rfl) ?_
  clear hp hd hs hP hD hS
  intro hP hD hS
  refine lv_aload_n hx hb dX0_backToMark_15 rfl (lv_at hl 0 rfl) ?_
  refine va_get (D := D) (ci := 0) (v := .ref (ad 14)) (C := RX0) (T := TX0) (N := 6) hx hb hts u9_wsX0_backToMark_X0 hown hK hP 10 rfl rfl 4 (by decide) (hts (.fieldLink RX0 26 "TurnedFloors$History" "markedKinds" "[I") f9_wsX0_backToMark_675) (fun _ h9 => h9) rfl dX0_backToMark_16 ?_
  refine lv_iconst (v := 0) hx hb dX0_backToMark_19 (by decide) ?_
  refine lv_aload_n hx hb dX0_backToMark_20 rfl (lv_at hl 0 rfl) ?_
  refine va_get (D := D) (ci := 0) (v := .ref (ad 12)) (C := RX0) (T := TX0) (N := 6) hx hb hts u9_wsX0_backToMark_X0 hown hK hP 10 rfl rfl 1 (by decide) (hts (.fieldLink RX0 15 "TurnedFloors$History" "kinds" "[I") f9_wsX0_backToMark_676) (fun _ h9 => h9) rfl dX0_backToMark_21 ?_
  refine lv_iconst (v := 0) hx hb dX0_backToMark_24 (by decide) ?_
  refine lv_bipush (v := 16) hx hb dX0_backToMark_25 (by decide) ?_
  refine va_copyi hx hb (hml.trans hl.1.symm) hown (hts (.methodLink RX0 32 arraycopyName) f9_wsX0_backToMark_671) (hts (.native arraycopyName) f9_wsX0_backToMark_672) (hts (.static arraycopyName) f9_wsX0_backToMark_673) (hts (.initialized "java/lang/System") f9_wsX0_backToMark_674) hK hP hD hS 14 12 0 0 rfl rfl rfl rfl rfl (by decide) (by decide) (by decide) (by decide) (by decide) (fun _ _ => rfl) (Nat.le_of_ble_eq_true rfl) (Nat.le_of_ble_eq_true rfl) dX0_backToMark_27 (fun H locs hp hd hs => ?_)
  obtain ⟨q2, eq2, h⟩ := dL_some h
  refine kz_re (w2 := wF ty ad q2) hp hd hs (by rw [← eq2]; exact rfl) ?_
  clear hp hd hs hP hD hS
  intro hP hD hS
  refine lv_aload_n hx hb dX0_backToMark_30 rfl (lv_at hl 0 rfl) ?_
  refine lv_aload_n hx hb dX0_backToMark_31 rfl (lv_at hl 0 rfl) ?_
  refine va_get (D := D) (ci := 0) (v := .int (q2.1 10 5)) (C := RX0) (T := TX0) (N := 6) hx hb hts u9_wsX0_backToMark_X0 hown hK hP 10 rfl rfl 5 (by decide) (hts (.fieldLink RX0 29 "TurnedFloors$History" "markedKept" "I") f9_wsX0_backToMark_677) (fun _ h9 => h9) rfl dX0_backToMark_32 ?_
  refine va_put (D := D) (ci := 0) (v := .int (q2.1 10 5)) (ty := .int) (C := RX0) (T := TX0) (N := 6) hx hb hts u9_wsX0_backToMark_X0 tyX0 tyX0_ok nmX0 hown hK hP hD hS 10 rfl rfl 2 (by decide) (hts (.fieldLink RX0 19 "TurnedFloors$History" "kept" "I") f9_wsX0_backToMark_678) (fun _ h9 => h9) rfl (by decide +kernel) rfl rfl (Nat.le_of_ble_eq_true rfl) dX0_backToMark_35 (fun H locs hp hd hs => ?_)
  obtain ⟨q3, eq3, h⟩ := dL_some h
  refine kz_re (w2 := wF ty ad q3) hp hd hs (by rw [← eq3]; exact wF_f10_2 ty ad q2 (q2.1 10 5)) ?_
  clear hp hd hs hP hD hS
  intro hP hD hS
  cases h
  exact kz_vret hx hb hr hlocks hP hK hD hS dX0_backToMark_38 rfl

set_option maxHeartbeats 4000000 in
set_option maxRecDepth 100000 in
theorem WX5_run_s22_s25_s2_s20_s10_208 {p : Program} {l : Launch} {e : Env} {s : State} {m : MethodId} {args : Array Value} {below : List Frame} {meth : Method} {c : Code} {D : va_G} {ty : Nat → ClassId} {eo : Nat → Nat} {A : Nat → Prop} {ad : Nat → Nat} {o1 : Int32} {o2 : dK} (C : dc_C p s m args meth c cX5_run (some .int) 14 RX5 wsX5_run D ty eo A) {k24 : dK → Int64 → Int32 → Option (Int32 × dK)} {k36 : dK → Int64 → Int32 → Int32 → Option (Int32 × dK)} (hk24 : ∀ (q : dK) (x5 : Int64) (x7 : Int32) (H : Heap) (locs : List Loc) (ls : Array Slot), k24 q x5 x7 = some (o1, o2) → va_P D vwCl (wF ty ad q) H → va_D A (wF ty ad q) → va_S A s.heap H locs → lv_has ls 14 [(0, .ref (ad 22)), (1, .ref (ad 25)), (2, .ref (ad 2)), (3, .ref (ad 20)), (4, .ref (ad 10)), (5, .long x5), (7, .int x7)] → W p l e ({ frames := 6, cells := 0, slots := 0, locals := 151 } : Room) s m args below meth c H locs 0 0 (MQ below (va_Qi (fun (r : Int32) (u : va_W) => o1 = r ∧ wF ty ad o2 = u) (kz_B D ty A) A) args s 0 0 A) (F0 m 24 ls [])) (hk36 : ∀ (q : dK) (x5 : Int64) (x7 : Int32) (x8 : Int32) (H : Heap) (locs : List Loc) (ls : Array Slot), k36 q x5 x7 x8 = some (o1, o2) → va_P D vwCl (wF ty ad q) H → va_D A (wF ty ad q) → va_S A s.heap H locs → lv_has ls 14 [(0, .ref (ad 22)), (1, .ref (ad 25)), (2, .ref (ad 2)), (3, .ref (ad 20)), (4, .ref (ad 10)), (5, .long x5), (7, .int x7), (8, .int x8)] → W p l e ({ frames := 6, cells := 0, slots := 0, locals := 151 } : Room) s m args below meth c H locs 0 0 (MQ below (va_Qi (fun (r : Int32) (u : va_W) => o1 = r ∧ wF ty ad o2 = u) (kz_B D ty A) A) args s 0 0 A) (F0 m 36 ls [])) (q : dK) (x5 : Int64) (x7 : Int32) (x8 : Int32) (H : Heap) (locs : List Loc) (ls : Array Slot) (h : zX5_run_s22_s25_s2_s20_s10_208 k24 k36 q x5 x7 x8 = some (o1, o2)) (hP : va_P D vwCl (wF ty ad q) H) (hD : va_D A (wF ty ad q)) (hS : va_S A s.heap H locs) (hl : lv_has ls 14 [(0, .ref (ad 22)), (1, .ref (ad 25)), (2, .ref (ad 2)), (3, .ref (ad 20)), (4, .ref (ad 10)), (5, .long x5), (7, .int x7), (8, .int x8)]) : W p l e ({ frames := 6, cells := 0, slots := 0, locals := 151 } : Room) s m args below meth c H locs 0 0 (MQ below (va_Qi (fun (r : Int32) (u : va_W) => o1 = r ∧ wF ty ad o2 = u) (kz_B D ty A) A) args s 0 0 A) (F0 m 208 ls []) := by
  have C0 := C
  obtain ⟨hx, hb, hr, hts, hown, hlocks, hml, hK, hN, hE, hA⟩ := C
  unfold zX5_run_s22_s25_s2_s20_s10_208 at h
  refine lv_iinc (v := x8 + 1) (lv' := [(8, .int (x8 + 1)), (0, .ref (ad 22)), (1, .ref (ad 25)), (2, .ref (ad 2)), (3, .ref (ad 20)), (4, .ref (ad 10)), (5, .long x5), (7, .int x7)]) hx hb dX5_run_208 hl (k := 7) rfl rfl (by decide) rfl (fun ls hl => ?_)
  refine lv_goto (tgt := 36) hx hb dX5_run_211 (by decide) ?_
  exact hk36 _ _ _ _ _ _ _ h hP hD hS (lv_sub hl [1, 2, 3, 4, 5, 6, 7, 0] rfl)
set_option maxHeartbeats 4000000 in
set_option maxRecDepth 100000 in
theorem WX5_run_s22_s25_s2_s20_s10_205 {p : Program} {l : Launch} {e : Env} {s : State} {m : MethodId} {args : Array Value} {below : List Frame} {meth : Method} {c : Code} {D : va_G} {ty : Nat → ClassId} {eo : Nat → Nat} {A : Nat → Prop} {ad : Nat → Nat} {o1 : Int32} {o2 : dK} (C : dc_C p s m args meth c cX5_run (some .int) 14 RX5 wsX5_run D ty eo A) {k24 : dK → Int64 → Int32 → Option (Int32 × dK)} {k36 : dK → Int64 → Int32 → Int32 → Option (Int32 × dK)} (hk24 : ∀ (q : dK) (x5 : Int64) (x7 : Int32) (H : Heap) (locs : List Loc) (ls : Array Slot), k24 q x5 x7 = some (o1, o2) → va_P D vwCl (wF ty ad q) H → va_D A (wF ty ad q) → va_S A s.heap H locs → lv_has ls 14 [(0, .ref (ad 22)), (1, .ref (ad 25)), (2, .ref (ad 2)), (3, .ref (ad 20)), (4, .ref (ad 10)), (5, .long x5), (7, .int x7)] → W p l e ({ frames := 6, cells := 0, slots := 0, locals := 151 } : Room) s m args below meth c H locs 0 0 (MQ below (va_Qi (fun (r : Int32) (u : va_W) => o1 = r ∧ wF ty ad o2 = u) (kz_B D ty A) A) args s 0 0 A) (F0 m 24 ls [])) (hk36 : ∀ (q : dK) (x5 : Int64) (x7 : Int32) (x8 : Int32) (H : Heap) (locs : List Loc) (ls : Array Slot), k36 q x5 x7 x8 = some (o1, o2) → va_P D vwCl (wF ty ad q) H → va_D A (wF ty ad q) → va_S A s.heap H locs → lv_has ls 14 [(0, .ref (ad 22)), (1, .ref (ad 25)), (2, .ref (ad 2)), (3, .ref (ad 20)), (4, .ref (ad 10)), (5, .long x5), (7, .int x7), (8, .int x8)] → W p l e ({ frames := 6, cells := 0, slots := 0, locals := 151 } : Room) s m args below meth c H locs 0 0 (MQ below (va_Qi (fun (r : Int32) (u : va_W) => o1 = r ∧ wF ty ad o2 = u) (kz_B D ty A) A) args s 0 0 A) (F0 m 36 ls [])) (q : dK) (x5 : Int64) (x7 : Int32) (x8 : Int32) (y0 : Int32) (H : Heap) (locs : List Loc) (ls : Array Slot) (h : zX5_run_s22_s25_s2_s20_s10_205 k24 k36 q x5 x7 x8 y0 = some (o1, o2)) (hP : va_P D vwCl (wF ty ad q) H) (hD : va_D A (wF ty ad q)) (hS : va_S A s.heap H locs) (hl : lv_has ls 14 [(0, .ref (ad 22)), (1, .ref (ad 25)), (2, .ref (ad 2)), (3, .ref (ad 20)), (4, .ref (ad 10)), (5, .long x5), (7, .int x7), (8, .int x8)]) : W p l e ({ frames := 6, cells := 0, slots := 0, locals := 151 } : Room) s m args below meth c H locs 0 0 (MQ below (va_Qi (fun (r : Int32) (u : va_W) => o1 = r ∧ wF ty ad o2 = u) (kz_B D ty A) A) args s 0 0 A) (F0 m 205 ls [.int y0, .ref (ad 22)]) := by
  have C0 := C
  obtain ⟨hx, hb, hr, hts, hown, hlocks, hml, hK, hN, hE, hA⟩ := C
  unfold zX5_run_s22_s25_s2_s20_s10_205 at h
  refine va_put (D := D) (ci := 5) (v := .int y0) (ty := .int) (C := RX5) (T := TX5) (N := 4) hx hb hts u9_wsX5_run_X5 tyX5 tyX5_ok nmX5 hown hK hP hD hS 22 rfl rfl 3 (by decide) (hts (.fieldLink RX5 19 "TurnedFloors$Runner" "latest" "I") f9_wsX5_run_680) (fun _ h9 => h9) rfl (by decide +kernel) rfl rfl (Nat.le_of_ble_eq_true rfl) dX5_run_205 (fun H locs hp hd hs => ?_)
  obtain ⟨q1, eq1, h⟩ := dL_some h
  refine kz_re (w2 := wF ty ad q1) hp hd hs (by rw [← eq1]; exact wF_f22_3 ty ad q y0) ?_
  clear hp hd hs hP hD hS
  intro hP hD hS
  exact WX5_run_s22_s25_s2_s20_s10_208 C0 hk24 hk36 _ _ _ _ _ _ _ h hP hD hS (lv_sub hl [0, 1, 2, 3, 4, 5, 6, 7] rfl)
set_option maxHeartbeats 4000000 in
set_option maxRecDepth 100000 in
theorem WX5_run_s22_s25_s2_s20_s10_150 {p : Program} {l : Launch} {e : Env} {s : State} {m : MethodId} {args : Array Value} {below : List Frame} {meth : Method} {c : Code} {D : va_G} {ty : Nat → ClassId} {eo : Nat → Nat} {A : Nat → Prop} {ad : Nat → Nat} {o1 : Int32} {o2 : dK} (C : dc_C p s m args meth c cX5_run (some .int) 14 RX5 wsX5_run D ty eo A) {k24 : dK → Int64 → Int32 → Option (Int32 × dK)} {k36 : dK → Int64 → Int32 → Int32 → Option (Int32 × dK)} (hk24 : ∀ (q : dK) (x5 : Int64) (x7 : Int32) (H : Heap) (locs : List Loc) (ls : Array Slot), k24 q x5 x7 = some (o1, o2) → va_P D vwCl (wF ty ad q) H → va_D A (wF ty ad q) → va_S A s.heap H locs → lv_has ls 14 [(0, .ref (ad 22)), (1, .ref (ad 25)), (2, .ref (ad 2)), (3, .ref (ad 20)), (4, .ref (ad 10)), (5, .long x5), (7, .int x7)] → W p l e ({ frames := 6, cells := 0, slots := 0, locals := 151 } : Room) s m args below meth c H locs 0 0 (MQ below (va_Qi (fun (r : Int32) (u : va_W) => o1 = r ∧ wF ty ad o2 = u) (kz_B D ty A) A) args s 0 0 A) (F0 m 24 ls [])) (hk36 : ∀ (q : dK) (x5 : Int64) (x7 : Int32) (x8 : Int32) (H : Heap) (locs : List Loc) (ls : Array Slot), k36 q x5 x7 x8 = some (o1, o2) → va_P D vwCl (wF ty ad q) H → va_D A (wF ty ad q) → va_S A s.heap H locs → lv_has ls 14 [(0, .ref (ad 22)), (1, .ref (ad 25)), (2, .ref (ad 2)), (3, .ref (ad 20)), (4, .ref (ad 10)), (5, .long x5), (7, .int x7), (8, .int x8)] → W p l e ({ frames := 6, cells := 0, slots := 0, locals := 151 } : Room) s m args below meth c H locs 0 0 (MQ below (va_Qi (fun (r : Int32) (u : va_W) => o1 = r ∧ wF ty ad o2 = u) (kz_B D ty A) A) args s 0 0 A) (F0 m 36 ls [])) (q : dK) (x5 : Int64) (x7 : Int32) (x8 : Int32) (x9 : Int64) (x11 : Int32) (y0 : Int32) (H : Heap) (locs : List Loc) (ls : Array Slot) (h : zX5_run_s22_s25_s2_s20_s10_150 k24 k36 q x5 x7 x8 x9 x11 y0 = some (o1, o2)) (hP : va_P D vwCl (wF ty ad q) H) (hD : va_D A (wF ty ad q)) (hS : va_S A s.heap H locs) (hl : lv_has ls 14 [(0, .ref (ad 22)), (1, .ref (ad 25)), (2, .ref (ad 2)), (3, .ref (ad 20)), (4, .ref (ad 10)), (5, .long x5), (7, .int x7), (8, .int x8), (9, .long x9), (11, .int x11)]) : W p l e ({ frames := 6, cells := 0, slots := 0, locals := 151 } : Room) s m args below meth c H locs 0 0 (MQ below (va_Qi (fun (r : Int32) (u : va_W) => o1 = r ∧ wF ty ad o2 = u) (kz_B D ty A) A) args s 0 0 A) (F0 m 150 ls [.int y0]) := by
  have C0 := C
  obtain ⟨hx, hb, hr, hts, hown, hlocks, hml, hK, hN, hE, hA⟩ := C
  unfold zX5_run_s22_s25_s2_s20_s10_150 at h
  refine lv_istore (lv' := [(13, .int y0), (0, .ref (ad 22)), (1, .ref (ad 25)), (2, .ref (ad 2)), (3, .ref (ad 20)), (4, .ref (ad 10)), (5, .long x5), (7, .int x7), (8, .int x8), (9, .long x9), (11, .int x11)]) hx hb dX5_run_150 hl (by decide) rfl (fun ls hl => ?_)
  refine lv_iload hx hb dX5_run_152 (lv_at hl 0 rfl) ?_
  refine lv_if_ge (tgt := 171) hx hb dX5_run_154 (by decide) (fun c9 => ?_) (fun c9 => ?_)
  · rw [if_pos c9] at h
    refine lv_aload hx hb dX5_run_171 (lv_at hl 5 rfl) ?_
    refine lv_iload hx hb dX5_run_173 (lv_at hl 10 rfl) ?_
    refine lv_lload hx hb dX5_run_175 (lv_at hl 9 rfl) ?_
    obtain ⟨q3, h2, h⟩ := dV_some h
    refine dw_kv (va_runV (As := [.int x11, .long x9]) (rest := []) ⟨hx, hb, hml, hown, hts⟩ (qX0_keep_s10 l D ty eo _ ad q x11 x9 q3 h2) (cwV 2 hts gX5_run_X0_keep rfl rfl rfl hd_X0_keep_v ⟨Nat.le_of_ble_eq_true rfl, Nat.le_of_ble_eq_true rfl⟩) (pvF_0_10 hK hN hE hP hD hS hA) rfl rfl hl.1 rfl (lv_room (Nat.le_of_ble_eq_true rfl)) dX5_run_177 ⟨Nat.le_of_ble_eq_true rfl, Nat.le_of_ble_eq_true rfl⟩) hD hS hA (fun u9 H locs hw hp hd hs => ?_)
    clear hP hD hS
    obtain rfl := hw
    have hP := hp; have hD := hd; have hS := hs; clear hp hd hs
    refine lv_aload_n hx hb dX5_run_180 rfl (lv_at hl 1 rfl) ?_
    refine lv_dup hx hb dX5_run_181 rfl ?_
    refine va_get (D := D) (ci := 5) (v := .int (q3.1 22 2)) (C := RX5) (T := TX5) (N := 4) hx hb hts u9_wsX5_run_X5 hown hK hP 22 rfl rfl 2 (by decide) (hts (.fieldLink RX5 15 "TurnedFloors$Runner" "done" "I") f9_wsX5_run_681) (fun _ h9 => h9) rfl dX5_run_182 ?_
    refine lv_iconst (v := 1) hx hb dX5_run_185 (by decide) ?_
    refine lv_iadd hx hb dX5_run_186 ?_
    refine va_put (D := D) (ci := 5) (v := .int ((q3.1 22 2) + 1 : Int32)) (ty := .int) (C := RX5) (T := TX5) (N := 4) hx hb hts u9_wsX5_run_X5 tyX5 tyX5_ok nmX5 hown hK hP hD hS 22 rfl rfl 2 (by decide) (hts (.fieldLink RX5 15 "TurnedFloors$Runner" "done" "I") f9_wsX5_run_681) (fun _ h9 => h9) rfl (by decide +kernel) rfl rfl (Nat.le_of_ble_eq_true rfl) dX5_run_187 (fun H locs hp hd hs => ?_)
    obtain ⟨q4, eq4, h⟩ := dL_some h
    refine kz_re (w2 := wF ty ad q4) hp hd hs (by rw [← eq4]; exact wF_f22_2 ty ad q3 ((q3.1 22 2) + 1 : Int32)) ?_
    clear hp hd hs hP hD hS
    intro hP hD hS
    refine lv_aload_n hx hb dX5_run_190 rfl (lv_at hl 1 rfl) ?_
    refine lv_iload hx hb dX5_run_191 (lv_at hl 10 rfl) ?_
    refine lv_if_ne (tgt := 201) hx hb dX5_run_193 (by decide) (fun c9 => ?_) (fun c9 => ?_)
    · rw [if_neg c9] at h
      refine lv_aload_n hx hb dX5_run_201 rfl (lv_at hl 1 rfl) ?_
      refine va_get (D := D) (ci := 5) (v := .int (q4.1 22 3)) (C := RX5) (T := TX5) (N := 4) hx hb hts u9_wsX5_run_X5 hown hK hP 22 rfl rfl 3 (by decide) (hts (.fieldLink RX5 19 "TurnedFloors$Runner" "latest" "I") f9_wsX5_run_680) (fun _ h9 => h9) rfl dX5_run_202 ?_
      exact WX5_run_s22_s25_s2_s20_s10_205 C0 hk24 hk36 _ _ _ _ _ _ _ _ h hP hD hS (lv_sub hl [1, 2, 3, 4, 5, 6, 7, 8] rfl)
    · rw [if_pos c9] at h
      refine lv_iload hx hb dX5_run_196 (lv_at hl 0 rfl) ?_
      refine lv_goto (tgt := 205) hx hb dX5_run_198 (by decide) ?_
      exact WX5_run_s22_s25_s2_s20_s10_205 C0 hk24 hk36 _ _ _ _ _ _ _ _ h hP hD hS (lv_sub hl [1, 2, 3, 4, 5, 6, 7, 8] rfl)
  · rw [if_neg c9] at h
    refine lv_aload_n hx hb dX5_run_157 rfl (lv_at hl 3 rfl) ?_
    refine lv_lload hx hb dX5_run_158 (lv_at hl 6 rfl) ?_
    obtain ⟨q7, h6, h⟩ := dV_some h
    refine dw_kv (va_runV (As := [.long x5]) (rest := []) ⟨hx, hb, hml, hown, hts⟩ (qX8_unpack_s2 l D ty eo _ ad q x5 q7 h6) (cwV 1 hts gX5_run_X8_unpack rfl rfl rfl hd_X8_unpack_v ⟨Nat.le_of_ble_eq_true rfl, Nat.le_of_ble_eq_true rfl⟩) (pvF_8_2 hK hN hE hP hD hS hA) rfl rfl hl.1 rfl (lv_room (Nat.le_of_ble_eq_true rfl)) dX5_run_160 ⟨Nat.le_of_ble_eq_true rfl, Nat.le_of_ble_eq_true rfl⟩) hD hS hA (fun u9 H locs hw hp hd hs => ?_)
    clear hP hD hS
    obtain rfl := hw
    have hP := hp; have hD := hd; have hS := hs; clear hp hd hs
    refine lv_aload hx hb dX5_run_163 (lv_at hl 5 rfl) ?_
    obtain ⟨q10, h9, h⟩ := dV_some h
    refine dw_kv (va_runV (As := []) (rest := []) ⟨hx, hb, hml, hown, hts⟩ (qX0_backToMark_s10 l D ty eo _ ad q7  q10 h9) (cwV 0 hts gX5_run_X0_backToMark rfl rfl rfl hd_X0_backToMark_v ⟨Nat.le_of_ble_eq_true rfl, Nat.le_of_ble_eq_true rfl⟩) (pvF_0_10 hK hN hE hP hD hS hA) rfl rfl hl.1 rfl (lv_room (Nat.le_of_ble_eq_true rfl)) dX5_run_165 ⟨Nat.le_of_ble_eq_true rfl, Nat.le_of_ble_eq_true rfl⟩) hD hS hA (fun u9 H locs hw hp hd hs => ?_)
    clear hP hD hS
    obtain rfl := hw
    have hP := hp; have hD := hd; have hS := hs; clear hp hd hs
    refine lv_iload hx hb dX5_run_168 (lv_at hl 7 rfl) ?_
    cases h
    exact kz_iret hx hb hr hlocks hP hK hD hS dX5_run_170 ⟨rfl, rfl⟩
set_option maxHeartbeats 4000000 in
set_option maxRecDepth 100000 in
theorem WX5_run_s22_s25_s2_s20_s10_36b {p : Program} {l : Launch} {e : Env} {s : State} {m : MethodId} {args : Array Value} {below : List Frame} {meth : Method} {c : Code} {D : va_G} {ty : Nat → ClassId} {eo : Nat → Nat} {A : Nat → Prop} {ad : Nat → Nat} {o1 : Int32} {o2 : dK} (C : dc_C p s m args meth c cX5_run (some .int) 14 RX5 wsX5_run D ty eo A) {k24 : dK → Int64 → Int32 → Option (Int32 × dK)} {k36 : dK → Int64 → Int32 → Int32 → Option (Int32 × dK)} (hk24 : ∀ (q : dK) (x5 : Int64) (x7 : Int32) (H : Heap) (locs : List Loc) (ls : Array Slot), k24 q x5 x7 = some (o1, o2) → va_P D vwCl (wF ty ad q) H → va_D A (wF ty ad q) → va_S A s.heap H locs → lv_has ls 14 [(0, .ref (ad 22)), (1, .ref (ad 25)), (2, .ref (ad 2)), (3, .ref (ad 20)), (4, .ref (ad 10)), (5, .long x5), (7, .int x7)] → W p l e ({ frames := 6, cells := 0, slots := 0, locals := 151 } : Room) s m args below meth c H locs 0 0 (MQ below (va_Qi (fun (r : Int32) (u : va_W) => o1 = r ∧ wF ty ad o2 = u) (kz_B D ty A) A) args s 0 0 A) (F0 m 24 ls [])) (hk36 : ∀ (q : dK) (x5 : Int64) (x7 : Int32) (x8 : Int32) (H : Heap) (locs : List Loc) (ls : Array Slot), k36 q x5 x7 x8 = some (o1, o2) → va_P D vwCl (wF ty ad q) H → va_D A (wF ty ad q) → va_S A s.heap H locs → lv_has ls 14 [(0, .ref (ad 22)), (1, .ref (ad 25)), (2, .ref (ad 2)), (3, .ref (ad 20)), (4, .ref (ad 10)), (5, .long x5), (7, .int x7), (8, .int x8)] → W p l e ({ frames := 6, cells := 0, slots := 0, locals := 151 } : Room) s m args below meth c H locs 0 0 (MQ below (va_Qi (fun (r : Int32) (u : va_W) => o1 = r ∧ wF ty ad o2 = u) (kz_B D ty A) A) args s 0 0 A) (F0 m 36 ls [])) (q : dK) (x5 : Int64) (x7 : Int32) (x8 : Int32) (H : Heap) (locs : List Loc) (ls : Array Slot) (h : zX5_run_s22_s25_s2_s20_s10_36b k24 k36 q x5 x7 x8 = some (o1, o2)) (hP : va_P D vwCl (wF ty ad q) H) (hD : va_D A (wF ty ad q)) (hS : va_S A s.heap H locs) (hl : lv_has ls 14 [(0, .ref (ad 22)), (1, .ref (ad 25)), (2, .ref (ad 2)), (3, .ref (ad 20)), (4, .ref (ad 10)), (5, .long x5), (7, .int x7), (8, .int x8)]) : W p l e ({ frames := 6, cells := 0, slots := 0, locals := 151 } : Room) s m args below meth c H locs 0 0 (MQ below (va_Qi (fun (r : Int32) (u : va_W) => o1 = r ∧ wF ty ad o2 = u) (kz_B D ty A) A) args s 0 0 A) (F0 m 36 ls []) := by
  have C0 := C
  obtain ⟨hx, hb, hr, hts, hown, hlocks, hml, hK, hN, hE, hA⟩ := C
  unfold zX5_run_s22_s25_s2_s20_s10_36b at h
  refine lv_iload hx hb dX5_run_36 (lv_at hl 7 rfl) ?_
  refine lv_aload_n hx hb dX5_run_38 rfl (lv_at hl 1 rfl) ?_
  refine va_getN (D := D) (ci := 7) (v := .ref (ad 27)) (C := RX7) (T := TX7) (N := 8) hx hb hts u9_wsX5_run_X7 hown hK hP 25 rfl rfl 1 (by decide) (hN.use (.fieldLinkNest "TurnedFloors$Runner" 42 "TurnedFloors$Text" "times" "[I" "TurnedFloors") nn9_21) (fun _ h9 => h9) rfl dX5_run_39 ?_
  refine lv_iload hx hb dX5_run_42 (lv_at hl 6 rfl) ?_
  obtain ⟨g1, h⟩ := dG_some h
  refine va_iald hx hb hK hP 27 0 rfl rfl (dg_in g1) dX5_run_44 ?_
  obtain ⟨v2, ev2, h⟩ := dL_some h
  refine kz_topi v2 ev2 ?_
  refine lv_icmp_ge (tgt := 214) hx hb dX5_run_45 (by decide) (fun c9 => ?_) (fun c9 => ?_)
  · rw [if_pos c9] at h
    refine lv_iinc (v := x7 + 1) (lv' := [(7, .int (x7 + 1)), (0, .ref (ad 22)), (1, .ref (ad 25)), (2, .ref (ad 2)), (3, .ref (ad 20)), (4, .ref (ad 10)), (5, .long x5), (8, .int x8)]) hx hb dX5_run_214 hl (k := 6) rfl rfl (by decide) rfl (fun ls hl => ?_)
    refine lv_goto (tgt := 24) hx hb dX5_run_217 (by decide) ?_
    exact hk24 _ _ _ _ _ _ h hP hD hS (lv_sub hl [1, 2, 3, 4, 5, 6, 0] rfl)
  · rw [if_neg c9] at h
    refine lv_aload_n hx hb dX5_run_48 rfl (lv_at hl 0 rfl) ?_
    refine lv_aload_n hx hb dX5_run_49 rfl (lv_at hl 2 rfl) ?_
    obtain ⟨q5, h4, h⟩ := dV_some h
    refine dw_kv (va_runV (As := [.ref (ad 2)]) (rest := []) ⟨hx, hb, hml, hown, hts⟩ (qX5_setWords_s22_s2 l D ty eo _ ad q  q5 h4) (cwV 1 hts gX5_run_X5_setWords rfl rfl rfl hd_X5_setWords_v ⟨Nat.le_of_ble_eq_true rfl, Nat.le_of_ble_eq_true rfl⟩) (pvF_5_22 hK hN hE hP hD hS hA) rfl rfl hl.1 rfl (lv_room (Nat.le_of_ble_eq_true rfl)) dX5_run_50 ⟨Nat.le_of_ble_eq_true rfl, Nat.le_of_ble_eq_true rfl⟩) hD hS hA (fun u9 H locs hw hp hd hs => ?_)
    clear hP hD hS
    obtain rfl := hw
    have hP := hp; have hD := hd; have hS := hs; clear hp hd hs
    refine lv_aload_n hx hb dX5_run_53 rfl (lv_at hl 0 rfl) ?_
    refine va_get (D := D) (ci := 5) (v := .ref (ad 18)) (C := RX5) (T := TX5) (N := 4) hx hb hts u9_wsX5_run_X5 hown hK hP 22 rfl rfl 0 (by decide) (hts (.fieldLink RX5 22 "TurnedFloors$Runner" "machine" "LTurnedFloors$Machine;") f9_wsX5_run_684) (fun _ h9 => h9) rfl dX5_run_54 ?_
    refine lv_aload_n hx hb dX5_run_57 rfl (lv_at hl 1 rfl) ?_
    refine lv_aload_n hx hb dX5_run_58 rfl (lv_at hl 1 rfl) ?_
    refine va_getN (D := D) (ci := 7) (v := .ref (ad 29)) (C := RX7) (T := TX7) (N := 8) hx hb hts u9_wsX5_run_X7 hown hK hP 25 rfl rfl 3 (by decide) (hN.use (.fieldLinkNest "TurnedFloors$Runner" 49 "TurnedFloors$Text" "testFrom" "[I" "TurnedFloors") nn9_22) (fun _ h9 => h9) rfl dX5_run_59 ?_
    refine lv_iload hx hb dX5_run_62 (lv_at hl 6 rfl) ?_
    obtain ⟨g6, h⟩ := dG_some h
    refine va_iald hx hb hK hP 29 0 rfl rfl (dg_in g6) dX5_run_64 ?_
    obtain ⟨v7, ev7, h⟩ := dL_some h
    refine kz_topi v7 ev7 ?_
    refine lv_aload_n hx hb dX5_run_65 rfl (lv_at hl 1 rfl) ?_
    refine va_getN (D := D) (ci := 7) (v := .ref (ad 30)) (C := RX7) (T := TX7) (N := 8) hx hb hts u9_wsX5_run_X7 hown hK hP 25 rfl rfl 4 (by decide) (hN.use (.fieldLinkNest "TurnedFloors$Runner" 52 "TurnedFloors$Text" "testTo" "[I" "TurnedFloors") nn9_23) (fun _ h9 => h9) rfl dX5_run_66 ?_
    refine lv_iload hx hb dX5_run_69 (lv_at hl 6 rfl) ?_
    obtain ⟨g8, h⟩ := dG_some h
    refine va_iald hx hb hK hP 30 0 rfl rfl (dg_in g8) dX5_run_71 ?_
    obtain ⟨v9, ev9, h⟩ := dL_some h
    refine kz_topi v9 ev9 ?_
    refine lv_aload_n hx hb dX5_run_72 rfl (lv_at hl 0 rfl) ?_
    refine va_get (D := D) (ci := 5) (v := .ref (ad 23)) (C := RX5) (T := TX5) (N := 4) hx hb hts u9_wsX5_run_X5 hown hK hP 22 rfl rfl 1 (by decide) (hts (.fieldLink RX5 11 "TurnedFloors$Runner" "words" "[I") f9_wsX5_run_685) (fun _ h9 => h9) rfl dX5_run_73 ?_
    obtain ⟨r10, q12, h11, h⟩ := dB_some h
    refine dw_ki (va_runV (As := [.ref (ad 25), .int v7, .int v9, .ref (ad 23)]) (rest := []) ⟨hx, hb, hml, hown, hts⟩ (qX2_valueOf_s18_s25_s23 l D ty eo _ ad q5 v7 v9 r10 q12 h11) (cwV 4 hts gX5_run_X2_valueOf rfl rfl rfl hd_X2_valueOf_v ⟨Nat.le_of_ble_eq_true rfl, Nat.le_of_ble_eq_true rfl⟩) (pvF_2_18 hK hN hE hP hD hS hA) rfl rfl hl.1 rfl (lv_room (Nat.le_of_ble_eq_true rfl)) dX5_run_76 ⟨Nat.le_of_ble_eq_true rfl, Nat.le_of_ble_eq_true rfl⟩) hD hS hA (fun r9 u9 H locs hw hp hd hs => ?_)
    clear hP hD hS
    obtain ⟨rfl, rfl⟩ := hw
    have hP := hp; have hD := hd; have hS := hs; clear hp hd hs
    refine lv_iconst (v := 1) hx hb dX5_run_79 (by decide) ?_
    refine lv_icmp_ne (tgt := 208) hx hb dX5_run_80 (by decide) (fun c9 => ?_) (fun c9 => ?_)
    · rw [if_neg c9] at h
      exact WX5_run_s22_s25_s2_s20_s10_208 C0 hk24 hk36 _ _ _ _ _ _ _ h hP hD hS (lv_sub hl [0, 1, 2, 3, 4, 5, 6, 7] rfl)
    · rw [if_pos c9] at h
      refine lv_aload_n hx hb dX5_run_83 rfl (lv_at hl 2 rfl) ?_
      obtain ⟨r13, q15, h14, h⟩ := dB_some h
      refine dw_kl (va_runV (As := []) (rest := []) ⟨hx, hb, hml, hown, hts⟩ (qX8_pack_s2 l D ty eo _ ad q12  r13 q15 h14) (cwV 0 hts gX5_run_X8_pack rfl rfl rfl hd_X8_pack_v ⟨Nat.le_of_ble_eq_true rfl, Nat.le_of_ble_eq_true rfl⟩) (pvF_8_2 hK hN hE hP hD hS hA) rfl rfl hl.1 rfl (lv_room (Nat.le_of_ble_eq_true rfl)) dX5_run_84 ⟨Nat.le_of_ble_eq_true rfl, Nat.le_of_ble_eq_true rfl⟩) hD hS hA (fun r9 u9 H locs hw hp hd hs => ?_)
      clear hP hD hS
      obtain ⟨rfl, rfl⟩ := hw
      have hP := hp; have hD := hd; have hS := hs; clear hp hd hs
      refine lv_lstore (lv' := [(9, .long r13), (0, .ref (ad 22)), (1, .ref (ad 25)), (2, .ref (ad 2)), (3, .ref (ad 20)), (4, .ref (ad 10)), (5, .long x5), (7, .int x7), (8, .int x8)]) hx hb dX5_run_87 hl (by decide) rfl (fun ls hl => ?_)
      refine lv_aload_n hx hb dX5_run_89 rfl (lv_at hl 2 rfl) ?_
      refine va_getN (D := D) (ci := 7) (v := .ref (ad 26)) (C := RX7) (T := TX7) (N := 8) hx hb hts u9_wsX5_run_X7 hown hK hP 25 rfl rfl 0 (by decide) (hN.use (.fieldLinkNest "TurnedFloors$Runner" 61 "TurnedFloors$Text" "kind" "[I" "TurnedFloors") nn9_24) (fun _ h9 => h9) rfl dX5_run_90 ?_
      refine lv_iload hx hb dX5_run_93 (lv_at hl 7 rfl) ?_
      obtain ⟨g16, h⟩ := dG_some h
      refine va_iald hx hb hK hP 26 0 rfl rfl (dg_in g16) dX5_run_95 ?_
      obtain ⟨v17, ev17, h⟩ := dL_some h
      refine kz_topi v17 ev17 ?_
      refine lv_istore (lv' := [(11, .int v17), (9, .long r13), (0, .ref (ad 22)), (1, .ref (ad 25)), (2, .ref (ad 2)), (3, .ref (ad 20)), (4, .ref (ad 10)), (5, .long x5), (7, .int x7), (8, .int x8)]) hx hb dX5_run_96 hl (by decide) rfl (fun ls hl => ?_)
      refine lv_aload_n hx hb dX5_run_98 rfl (lv_at hl 2 rfl) ?_
      refine va_get (D := D) (ci := 5) (v := .ref (ad 18)) (C := RX5) (T := TX5) (N := 4) hx hb hts u9_wsX5_run_X5 hown hK hP 22 rfl rfl 0 (by decide) (hts (.fieldLink RX5 22 "TurnedFloors$Runner" "machine" "LTurnedFloors$Machine;") f9_wsX5_run_684) (fun _ h9 => h9) rfl dX5_run_99 ?_
      refine lv_aload_n hx hb dX5_run_102 rfl (lv_at hl 3 rfl) ?_
      refine lv_aload_n hx hb dX5_run_103 rfl (lv_at hl 3 rfl) ?_
      refine va_getN (D := D) (ci := 7) (v := .ref (ad 28)) (C := RX7) (T := TX7) (N := 8) hx hb hts u9_wsX5_run_X7 hown hK hP 25 rfl rfl 2 (by decide) (hN.use (.fieldLinkNest "TurnedFloors$Runner" 64 "TurnedFloors$Text" "sumFrom" "[I" "TurnedFloors") nn9_25) (fun _ h9 => h9) rfl dX5_run_104 ?_
      refine lv_iload hx hb dX5_run_107 (lv_at hl 8 rfl) ?_
      obtain ⟨g18, h⟩ := dG_some h
      refine va_iald hx hb hK hP 28 0 rfl rfl (dg_in g18) dX5_run_109 ?_
      obtain ⟨v19, ev19, h⟩ := dL_some h
      refine kz_topi v19 ev19 ?_
      refine lv_aload_n hx hb dX5_run_110 rfl (lv_at hl 3 rfl) ?_
      refine va_getN (D := D) (ci := 7) (v := .ref (ad 29)) (C := RX7) (T := TX7) (N := 8) hx hb hts u9_wsX5_run_X7 hown hK hP 25 rfl rfl 3 (by decide) (hN.use (.fieldLinkNest "TurnedFloors$Runner" 49 "TurnedFloors$Text" "testFrom" "[I" "TurnedFloors") nn9_22) (fun _ h9 => h9) rfl dX5_run_111 ?_
      refine lv_iload hx hb dX5_run_114 (lv_at hl 8 rfl) ?_
      obtain ⟨g20, h⟩ := dG_some h
      refine va_iald hx hb hK hP 29 0 rfl rfl (dg_in g20) dX5_run_116 ?_
      obtain ⟨v21, ev21, h⟩ := dL_some h
      refine kz_topi v21 ev21 ?_
      refine lv_aload_n hx hb dX5_run_117 rfl (lv_at hl 2 rfl) ?_
      refine va_get (D := D) (ci := 5) (v := .ref (ad 23)) (C := RX5) (T := TX5) (N := 4) hx hb hts u9_wsX5_run_X5 hown hK hP 22 rfl rfl 1 (by decide) (hts (.fieldLink RX5 11 "TurnedFloors$Runner" "words" "[I") f9_wsX5_run_685) (fun _ h9 => h9) rfl dX5_run_118 ?_
      obtain ⟨r22, q24, h23, h⟩ := dB_some h
      refine dw_ki (va_runV (As := [.ref (ad 25), .int v19, .int v21, .ref (ad 23)]) (rest := []) ⟨hx, hb, hml, hown, hts⟩ (qX2_valueOf_s18_s25_s23 l D ty eo _ ad q15 v19 v21 r22 q24 h23) (cwV 4 hts gX5_run_X2_valueOf rfl rfl rfl hd_X2_valueOf_v ⟨Nat.le_of_ble_eq_true rfl, Nat.le_of_ble_eq_true rfl⟩) (pvF_2_18 hK hN hE hP hD hS hA) rfl rfl hl.1 rfl (lv_room (Nat.le_of_ble_eq_true rfl)) dX5_run_121 ⟨Nat.le_of_ble_eq_true rfl, Nat.le_of_ble_eq_true rfl⟩) hD hS hA (fun r9 u9 H locs hw hp hd hs => ?_)
      clear hP hD hS
      obtain ⟨rfl, rfl⟩ := hw
      have hP := hp; have hD := hd; have hS := hs; clear hp hd hs
      refine lv_istore (lv' := [(12, .int r22), (11, .int v17), (9, .long r13), (0, .ref (ad 22)), (1, .ref (ad 25)), (2, .ref (ad 2)), (3, .ref (ad 20)), (4, .ref (ad 10)), (5, .long x5), (7, .int x7), (8, .int x8)]) hx hb dX5_run_124 hl (by decide) rfl (fun ls hl => ?_)
      refine lv_aload_n hx hb dX5_run_126 rfl (lv_at hl 3 rfl) ?_
      refine va_get (D := D) (ci := 5) (v := .ref (ad 18)) (C := RX5) (T := TX5) (N := 4) hx hb hts u9_wsX5_run_X5 hown hK hP 22 rfl rfl 0 (by decide) (hts (.fieldLink RX5 22 "TurnedFloors$Runner" "machine" "LTurnedFloors$Machine;") f9_wsX5_run_684) (fun _ h9 => h9) rfl dX5_run_127 ?_
      refine va_getN (D := D) (ci := 2) (v := .int (q24.1 18 1)) (C := RX2) (T := TX2) (N := 2) hx hb hts u9_wsX5_run_X2 hown hK hP 18 rfl rfl 1 (by decide) (hN.use (.fieldLinkNest "TurnedFloors$Runner" 67 "TurnedFloors$Machine" "broken" "Z" "TurnedFloors") nn9_26) (fun _ h9 => h9) rfl dX5_run_130 ?_
      refine lv_if_eq (tgt := 141) hx hb dX5_run_133 (by decide) (fun c9 => ?_) (fun c9 => ?_)
      · rw [if_pos c9] at h
        refine lv_aload_n hx hb dX5_run_141 rfl (lv_at hl 5 rfl) ?_
        refine lv_iload hx hb dX5_run_142 (lv_at hl 1 rfl) ?_
        refine lv_iload hx hb dX5_run_144 (lv_at hl 0 rfl) ?_
        refine lv_aload_n hx hb dX5_run_146 rfl (lv_at hl 6 rfl) ?_
        obtain ⟨r25, q27, h26, h⟩ := dB_some h
        refine dw_ki (va_runV (As := [.int v17, .int r22, .ref (ad 20)]) (rest := []) ⟨hx, hb, hml, hown, hts⟩ (qX8_act_s2_s20 l D ty eo _ ad q24 v17 r22 r25 q27 h26) (cwV 3 hts gX5_run_X8_act rfl rfl rfl hd_X8_act_v ⟨Nat.le_of_ble_eq_true rfl, Nat.le_of_ble_eq_true rfl⟩) (pvF_8_2 hK hN hE hP hD hS hA) rfl rfl hl.1 rfl (lv_room (Nat.le_of_ble_eq_true rfl)) dX5_run_147 ⟨Nat.le_of_ble_eq_true rfl, Nat.le_of_ble_eq_true rfl⟩) hD hS hA (fun r9 u9 H locs hw hp hd hs => ?_)
        clear hP hD hS
        obtain ⟨rfl, rfl⟩ := hw
        have hP := hp; have hD := hd; have hS := hs; clear hp hd hs
        exact WX5_run_s22_s25_s2_s20_s10_150 C0 hk24 hk36 _ _ _ _ _ _ _ _ _ _ h hP hD hS (lv_sub hl [3, 4, 5, 6, 7, 8, 9, 10, 2, 1] rfl)
      · rw [if_neg c9] at h
        refine lv_bipush (v := (-3)) hx hb dX5_run_136 (by decide) ?_
        refine lv_goto (tgt := 150) hx hb dX5_run_138 (by decide) ?_
        exact WX5_run_s22_s25_s2_s20_s10_150 C0 hk24 hk36 _ _ _ _ _ _ _ _ _ _ h hP hD hS (lv_sub hl [3, 4, 5, 6, 7, 8, 9, 10, 2, 1] rfl)
set_option maxHeartbeats 4000000 in
set_option maxRecDepth 100000 in
theorem WX5_run_s22_s25_s2_s20_s10_36 {p : Program} {l : Launch} {e : Env} {s : State} {m : MethodId} {args : Array Value} {below : List Frame} {meth : Method} {c : Code} {D : va_G} {ty : Nat → ClassId} {eo : Nat → Nat} {A : Nat → Prop} {ad : Nat → Nat} {o1 : Int32} {o2 : dK} (C : dc_C p s m args meth c cX5_run (some .int) 14 RX5 wsX5_run D ty eo A) {k24 : dK → Int64 → Int32 → Option (Int32 × dK)} (hk24 : ∀ (q : dK) (x5 : Int64) (x7 : Int32) (H : Heap) (locs : List Loc) (ls : Array Slot), k24 q x5 x7 = some (o1, o2) → va_P D vwCl (wF ty ad q) H → va_D A (wF ty ad q) → va_S A s.heap H locs → lv_has ls 14 [(0, .ref (ad 22)), (1, .ref (ad 25)), (2, .ref (ad 2)), (3, .ref (ad 20)), (4, .ref (ad 10)), (5, .long x5), (7, .int x7)] → W p l e ({ frames := 6, cells := 0, slots := 0, locals := 151 } : Room) s m args below meth c H locs 0 0 (MQ below (va_Qi (fun (r : Int32) (u : va_W) => o1 = r ∧ wF ty ad o2 = u) (kz_B D ty A) A) args s 0 0 A) (F0 m 24 ls [])) (n : Nat) (q : dK) (x5 : Int64) (x7 : Int32) (x8 : Int32) (H : Heap) (locs : List Loc) (ls : Array Slot) (h : zX5_run_s22_s25_s2_s20_s10_36 k24 n q x5 x7 x8 = some (o1, o2)) (hP : va_P D vwCl (wF ty ad q) H) (hD : va_D A (wF ty ad q)) (hS : va_S A s.heap H locs) (hl : lv_has ls 14 [(0, .ref (ad 22)), (1, .ref (ad 25)), (2, .ref (ad 2)), (3, .ref (ad 20)), (4, .ref (ad 10)), (5, .long x5), (7, .int x7), (8, .int x8)]) : W p l e ({ frames := 6, cells := 0, slots := 0, locals := 151 } : Room) s m args below meth c H locs 0 0 (MQ below (va_Qi (fun (r : Int32) (u : va_W) => o1 = r ∧ wF ty ad o2 = u) (kz_B D ty A) A) args s 0 0 A) (F0 m 36 ls []) := by
  exact dFix_W (F := fun k (a : dK × Int64 × Int32 × Int32) => zX5_run_s22_s25_s2_s20_s10_36b k24 (fun q x5 x7 x8 => k (q, x5, x7, x8)) a.1 a.2.1 a.2.2.1 a.2.2.2) (o := (o1, o2)) (P := fun (a : dK × Int64 × Int32 × Int32) H locs ls => va_P D vwCl (wF ty ad a.1) H ∧ va_D A (wF ty ad a.1) ∧ va_S A s.heap H locs ∧ lv_has ls 14 [(0, .ref (ad 22)), (1, .ref (ad 25)), (2, .ref (ad 2)), (3, .ref (ad 20)), (4, .ref (ad 10)), (5, .long a.2.1), (7, .int a.2.2.1), (8, .int a.2.2.2)]) (G := fun H locs ls => W p l e ({ frames := 6, cells := 0, slots := 0, locals := 151 } : Room) s m args below meth c H locs 0 0 (MQ below (va_Qi (fun (r : Int32) (u : va_W) => o1 = r ∧ wF ty ad o2 = u) (kz_B D ty A) A) args s 0 0 A) (F0 m 36 ls []))
    (fun k hk a H locs ls h hp => WX5_run_s22_s25_s2_s20_s10_36b C hk24 (fun q x5 x7 x8 H locs ls h h1 h2 h3 h4 => hk (q, x5, x7, x8) H locs ls h ⟨h1, h2, h3, h4⟩) a.1 a.2.1 a.2.2.1 a.2.2.2 H locs ls h hp.1 hp.2.1 hp.2.2.1 hp.2.2.2) n (q, x5, x7, x8) H locs ls h ⟨hP, hD, hS, hl⟩
set_option maxHeartbeats 4000000 in
set_option maxRecDepth 100000 in
theorem WX5_run_s22_s25_s2_s20_s10_24b {p : Program} {l : Launch} {e : Env} {s : State} {m : MethodId} {args : Array Value} {below : List Frame} {meth : Method} {c : Code} {D : va_G} {ty : Nat → ClassId} {eo : Nat → Nat} {A : Nat → Prop} {ad : Nat → Nat} {o1 : Int32} {o2 : dK} (C : dc_C p s m args meth c cX5_run (some .int) 14 RX5 wsX5_run D ty eo A) {k24 : dK → Int64 → Int32 → Option (Int32 × dK)} (hk24 : ∀ (q : dK) (x5 : Int64) (x7 : Int32) (H : Heap) (locs : List Loc) (ls : Array Slot), k24 q x5 x7 = some (o1, o2) → va_P D vwCl (wF ty ad q) H → va_D A (wF ty ad q) → va_S A s.heap H locs → lv_has ls 14 [(0, .ref (ad 22)), (1, .ref (ad 25)), (2, .ref (ad 2)), (3, .ref (ad 20)), (4, .ref (ad 10)), (5, .long x5), (7, .int x7)] → W p l e ({ frames := 6, cells := 0, slots := 0, locals := 151 } : Room) s m args below meth c H locs 0 0 (MQ below (va_Qi (fun (r : Int32) (u : va_W) => o1 = r ∧ wF ty ad o2 = u) (kz_B D ty A) A) args s 0 0 A) (F0 m 24 ls [])) (q : dK) (x5 : Int64) (x7 : Int32) (H : Heap) (locs : List Loc) (ls : Array Slot) (h : zX5_run_s22_s25_s2_s20_s10_24b k24 q x5 x7 = some (o1, o2)) (hP : va_P D vwCl (wF ty ad q) H) (hD : va_D A (wF ty ad q)) (hS : va_S A s.heap H locs) (hl : lv_has ls 14 [(0, .ref (ad 22)), (1, .ref (ad 25)), (2, .ref (ad 2)), (3, .ref (ad 20)), (4, .ref (ad 10)), (5, .long x5), (7, .int x7)]) : W p l e ({ frames := 6, cells := 0, slots := 0, locals := 151 } : Room) s m args below meth c H locs 0 0 (MQ below (va_Qi (fun (r : Int32) (u : va_W) => o1 = r ∧ wF ty ad o2 = u) (kz_B D ty A) A) args s 0 0 A) (F0 m 24 ls []) := by
  have C0 := C
  obtain ⟨hx, hb, hr, hts, hown, hlocks, hml, hK, hN, hE, hA⟩ := C
  unfold zX5_run_s22_s25_s2_s20_s10_24b at h
  refine lv_iload hx hb dX5_run_24 (lv_at hl 6 rfl) ?_
  refine lv_aload_n hx hb dX5_run_26 rfl (lv_at hl 1 rfl) ?_
  refine va_getN (D := D) (ci := 7) (v := .int (q.1 25 6)) (C := RX7) (T := TX7) (N := 8) hx hb hts u9_wsX5_run_X7 hown hK hP 25 rfl rfl 6 (by decide) (hN.use (.fieldLinkNest "TurnedFloors$Runner" 37 "TurnedFloors$Text" "clauses" "I" "TurnedFloors") nn9_27) (fun _ h9 => h9) rfl dX5_run_27 ?_
  refine lv_icmp_ge (tgt := 220) hx hb dX5_run_30 (by decide) (fun c9 => ?_) (fun c9 => ?_)
  · rw [if_pos c9] at h
    refine lv_iconst (v := (-1)) hx hb dX5_run_220 (by decide) ?_
    cases h
    exact kz_iret hx hb hr hlocks hP hK hD hS dX5_run_221 ⟨rfl, rfl⟩
  · rw [if_neg c9] at h
    refine lv_iconst (v := 0) hx hb dX5_run_33 (by decide) ?_
    refine lv_istore (lv' := [(8, .int 0), (0, .ref (ad 22)), (1, .ref (ad 25)), (2, .ref (ad 2)), (3, .ref (ad 20)), (4, .ref (ad 10)), (5, .long x5), (7, .int x7)]) hx hb dX5_run_34 hl (by decide) rfl (fun ls hl => ?_)
    exact WX5_run_s22_s25_s2_s20_s10_36 C0 hk24 _ _ _ _ _ _ _ _ h hP hD hS (lv_sub hl [1, 2, 3, 4, 5, 6, 7, 0] rfl)
set_option maxHeartbeats 4000000 in
set_option maxRecDepth 100000 in
theorem WX5_run_s22_s25_s2_s20_s10_24 {p : Program} {l : Launch} {e : Env} {s : State} {m : MethodId} {args : Array Value} {below : List Frame} {meth : Method} {c : Code} {D : va_G} {ty : Nat → ClassId} {eo : Nat → Nat} {A : Nat → Prop} {ad : Nat → Nat} {o1 : Int32} {o2 : dK} (C : dc_C p s m args meth c cX5_run (some .int) 14 RX5 wsX5_run D ty eo A)   (n : Nat) (q : dK) (x5 : Int64) (x7 : Int32) (H : Heap) (locs : List Loc) (ls : Array Slot) (h : zX5_run_s22_s25_s2_s20_s10_24  n q x5 x7 = some (o1, o2)) (hP : va_P D vwCl (wF ty ad q) H) (hD : va_D A (wF ty ad q)) (hS : va_S A s.heap H locs) (hl : lv_has ls 14 [(0, .ref (ad 22)), (1, .ref (ad 25)), (2, .ref (ad 2)), (3, .ref (ad 20)), (4, .ref (ad 10)), (5, .long x5), (7, .int x7)]) : W p l e ({ frames := 6, cells := 0, slots := 0, locals := 151 } : Room) s m args below meth c H locs 0 0 (MQ below (va_Qi (fun (r : Int32) (u : va_W) => o1 = r ∧ wF ty ad o2 = u) (kz_B D ty A) A) args s 0 0 A) (F0 m 24 ls []) := by
  exact dFix_W (F := fun k (a : dK × Int64 × Int32) => zX5_run_s22_s25_s2_s20_s10_24b  (fun q x5 x7 => k (q, x5, x7)) a.1 a.2.1 a.2.2) (o := (o1, o2)) (P := fun (a : dK × Int64 × Int32) H locs ls => va_P D vwCl (wF ty ad a.1) H ∧ va_D A (wF ty ad a.1) ∧ va_S A s.heap H locs ∧ lv_has ls 14 [(0, .ref (ad 22)), (1, .ref (ad 25)), (2, .ref (ad 2)), (3, .ref (ad 20)), (4, .ref (ad 10)), (5, .long a.2.1), (7, .int a.2.2)]) (G := fun H locs ls => W p l e ({ frames := 6, cells := 0, slots := 0, locals := 151 } : Room) s m args below meth c H locs 0 0 (MQ below (va_Qi (fun (r : Int32) (u : va_W) => o1 = r ∧ wF ty ad o2 = u) (kz_B D ty A) A) args s 0 0 A) (F0 m 24 ls []))
    (fun k hk a H locs ls h hp => WX5_run_s22_s25_s2_s20_s10_24b C  (fun q x5 x7 H locs ls h h1 h2 h3 h4 => hk (q, x5, x7) H locs ls h ⟨h1, h2, h3, h4⟩) a.1 a.2.1 a.2.2 H locs ls h hp.1 hp.2.1 hp.2.2.1 hp.2.2.2) n (q, x5, x7) H locs ls h ⟨hP, hD, hS, hl⟩
set_option maxHeartbeats 4000000 in
set_option maxRecDepth 100000 in
theorem qX5_run_s22_s25_s2_s20_s10 (l : Launch) (D : va_G) (ty : Nat → ClassId) (eo : Nat → Nat) (sz : Nat) (ad : Nat → Nat) (q : dK)  (o1 : Int32) (o2 : dK) (h : zX5_run_s22_s25_s2_s20_s10 q = some (o1, o2)) : Met l yX5_run wsX5_run ({ frames := 6, cells := 0, slots := 0, locals := 151 } : Room) (va_Pc [.ref (ad 22), .ref (ad 25), .ref (ad 2), .ref (ad 20), .ref (ad 10)] (kz_pre D ty eo (wF ty ad q) sz)) (va_Qi (fun (r : Int32) (u : va_W) => o1 = r ∧ wF ty ad o2 = u) (kz_B D ty (va_A (wF ty ad q) sz)) (va_A (wF ty ad q) sz)) 0 0 (va_A (wF ty ad q) sz) := by
  refine Met.ofW (cc := cX5_run) (maxL := 14) (ret := (some .int)) (by decide) rfl ?_
  intro p e s m args below meth c s₁ B hml hv
  obtain ⟨rfl, hsz, hP, hK, hD0, hN, hE⟩ := hv
  have hx := B.exec
  have hb := B.bytes
  have hr := B.returns
  have hts := atoms_spec (ws := wsX5_run) B.pre
  have hown : s.vm.findClass RX5 = some m.cls := findClass_of_methodNamed B.named
  have hlocks := B.notSynchronized
  subst hsz
  have hD := hD0.self (sz := s.heap.size)
  generalize hAe : va_A (wF ty ad q) s.heap.size = A at hD hE ⊢
  have hA : ∀ q : Nat, s.heap.size ≤ q → A q := fun q h => by rw [← hAe]; exact Or.inr h
  clear hAe
  have hS : va_S A s.heap s.heap [] := va_S.rf
  have hl := lv_entry ([.ref (ad 22), .ref (ad 25), .ref (ad 2), .ref (ad 20), .ref (ad 10)]) (n := 14) (Nat.le_of_ble_eq_true rfl)
  rw [lg_entry_eq]
  generalize (lg_sl ([.ref (ad 22), .ref (ad 25), .ref (ad 2), .ref (ad 20), .ref (ad 10)]) ++ List.replicate (14 - (lg_sl ([.ref (ad 22), .ref (ad 25), .ref (ad 2), .ref (ad 20), .ref (ad 10)])).length) Slot.unset).toArray = ls at hl ⊢
  have hl : lv_has ls 14 [(0, .ref (ad 22)), (1, .ref (ad 25)), (2, .ref (ad 2)), (3, .ref (ad 20)), (4, .ref (ad 10))] := hl
  have C : dc_C p s m _ meth c cX5_run (some .int) 14 RX5 wsX5_run D ty eo A := ⟨hx, hb, hr, hts, hown, hlocks, hml, hK, hN, hE, hA⟩
  unfold zX5_run_s22_s25_s2_s20_s10 at h
  refine lv_aload_n hx hb dX5_run_0 rfl (lv_at hl 2 rfl) ?_
  obtain ⟨r1, q3, h2, h⟩ := dB_some h
  refine dw_kl (va_runV (As := []) (rest := []) ⟨hx, hb, hml, hown, hts⟩ (qX8_pack_s2 l D ty eo _ ad q  r1 q3 h2) (cwV 0 hts gX5_run_X8_pack rfl rfl rfl hd_X8_pack_v ⟨Nat.le_of_ble_eq_true rfl, Nat.le_of_ble_eq_true rfl⟩) (pvF_8_2 hK hN hE hP hD hS hA) rfl rfl hl.1 rfl (lv_room (Nat.le_of_ble_eq_true rfl)) dX5_run_1 ⟨Nat.le_of_ble_eq_true rfl, Nat.le_of_ble_eq_true rfl⟩) hD hS hA (fun r9 u9 H locs hw hp hd hs => ?_)
  clear hP hD hS
  obtain ⟨rfl, rfl⟩ := hw
  have hP := hp; have hD := hd; have hS := hs; clear hp hd hs
  refine lv_lstore (lv' := [(5, .long r1), (0, .ref (ad 22)), (1, .ref (ad 25)), (2, .ref (ad 2)), (3, .ref (ad 20)), (4, .ref (ad 10))]) hx hb dX5_run_4 hl (by decide) rfl (fun ls hl => ?_)
  refine lv_aload hx hb dX5_run_6 (lv_at hl 5 rfl) ?_
  obtain ⟨q6, h5, h⟩ := dV_some h
  refine dw_kv (va_runV (As := []) (rest := []) ⟨hx, hb, hml, hown, hts⟩ (qX0_mark_s10 l D ty eo _ ad q3  q6 h5) (cwV 0 hts gX5_run_X0_mark rfl rfl rfl hd_X0_mark_v ⟨Nat.le_of_ble_eq_true rfl, Nat.le_of_ble_eq_true rfl⟩) (pvF_0_10 hK hN hE hP hD hS hA) rfl rfl hl.1 rfl (lv_room (Nat.le_of_ble_eq_true rfl)) dX5_run_8 ⟨Nat.le_of_ble_eq_true rfl, Nat.le_of_ble_eq_true rfl⟩) hD hS hA (fun u9 H locs hw hp hd hs => ?_)
  clear hP hD hS
  obtain rfl := hw
  have hP := hp; have hD := hd; have hS := hs; clear hp hd hs
  refine lv_aload_n hx hb dX5_run_11 rfl (lv_at hl 1 rfl) ?_
  refine lv_iconst (v := 0) hx hb dX5_run_12 (by decide) ?_
  refine va_put (D := D) (ci := 5) (v := .int 0) (ty := .int) (C := RX5) (T := TX5) (N := 4) hx hb hts u9_wsX5_run_X5 tyX5 tyX5_ok nmX5 hown hK hP hD hS 22 rfl rfl 2 (by decide) (hts (.fieldLink RX5 15 "TurnedFloors$Runner" "done" "I") f9_wsX5_run_681) (fun _ h9 => h9) rfl (by decide +kernel) rfl rfl (Nat.le_of_ble_eq_true rfl) dX5_run_13 (fun H locs hp hd hs => ?_)
  obtain ⟨q7, eq7, h⟩ := dL_some h
  refine kz_re (w2 := wF ty ad q7) hp hd hs (by rw [← eq7]; exact wF_f22_2 ty ad q6 0) ?_
  clear hp hd hs hP hD hS
  intro hP hD hS
  refine lv_aload_n hx hb dX5_run_16 rfl (lv_at hl 1 rfl) ?_
  refine lv_iconst (v := (-1)) hx hb dX5_run_17 (by decide) ?_
  refine va_put (D := D) (ci := 5) (v := .int (-1)) (ty := .int) (C := RX5) (T := TX5) (N := 4) hx hb hts u9_wsX5_run_X5 tyX5 tyX5_ok nmX5 hown hK hP hD hS 22 rfl rfl 3 (by decide) (hts (.fieldLink RX5 19 "TurnedFloors$Runner" "latest" "I") f9_wsX5_run_680) (fun _ h9 => h9) rfl (by decide +kernel) rfl rfl (Nat.le_of_ble_eq_true rfl) dX5_run_18 (fun H locs hp hd hs => ?_)
  obtain ⟨q8, eq8, h⟩ := dL_some h
  refine kz_re (w2 := wF ty ad q8) hp hd hs (by rw [← eq8]; exact wF_f22_3 ty ad q7 (-1)) ?_
  clear hp hd hs hP hD hS
  intro hP hD hS
  refine lv_iconst (v := 0) hx hb dX5_run_21 (by decide) ?_
  refine lv_istore (lv' := [(7, .int 0), (5, .long r1), (0, .ref (ad 22)), (1, .ref (ad 25)), (2, .ref (ad 2)), (3, .ref (ad 20)), (4, .ref (ad 10))]) hx hb dX5_run_22 hl (by decide) rfl (fun ls hl => ?_)
  exact WX5_run_s22_s25_s2_s20_s10_24 C  _ _ _ _ _ _ _ h hP hD hS (lv_sub hl [2, 3, 4, 5, 6, 1, 0] rfl)

set_option maxHeartbeats 4000000 in
set_option maxRecDepth 100000 in
theorem WX9_orders_s0_109 {p : Program} {l : Launch} {e : Env} {s : State} {m : MethodId} {args : Array Value} {below : List Frame} {meth : Method} {c : Code} {D : va_G} {ty : Nat → ClassId} {eo : Nat → Nat} {A : Nat → Prop} {ad : Nat → Nat} {o1 : Int32} {o2 : dK} (C : dc_C p s m args meth c cX9_orders (some .int) 2 RX9 wsX9_orders D ty eo A)   (q : dK) (y0 : Int32) (H : Heap) (locs : List Loc) (ls : Array Slot) (h : zX9_orders_s0_109  q y0 = some (o1, o2)) (hP : va_P D vwCl (wF ty ad q) H) (hD : va_D A (wF ty ad q)) (hS : va_S A s.heap H locs) (hl : lv_has ls 2 []) : W p l e ({ frames := 77, cells := 0, slots := 0, locals := 1858 } : Room) s m args below meth c H locs 0 0 (MQ below (va_Qi (fun (r : Int32) (u : va_W) => o1 = r ∧ wF ty ad o2 = u) (kz_B D ty A) A) args s 0 0 A) (F0 m 109 ls [.int y0]) := by
  have C0 := C
  obtain ⟨hx, hb, hr, hts, hown, hlocks, hml, hK, hN, hE, hA⟩ := C
  unfold zX9_orders_s0_109 at h
  cases h
  exact kz_iret hx hb hr hlocks hP hK hD hS dX9_orders_109 ⟨rfl, rfl⟩
set_option maxHeartbeats 4000000 in
set_option maxRecDepth 100000 in
theorem qX9_orders_s0 (l : Launch) (D : va_G) (ty : Nat → ClassId) (eo : Nat → Nat) (sz : Nat) (ad : Nat → Nat) (q : dK)  (o1 : Int32) (o2 : dK) (h : zX9_orders_s0 q = some (o1, o2)) : Met l yX9_orders wsX9_orders ({ frames := 77, cells := 0, slots := 0, locals := 1858 } : Room) (va_Pc [.ref (ad 0)] (kz_pre D ty eo (wF ty ad q) sz)) (va_Qi (fun (r : Int32) (u : va_W) => o1 = r ∧ wF ty ad o2 = u) (kz_B D ty (va_A (wF ty ad q) sz)) (va_A (wF ty ad q) sz)) 0 0 (va_A (wF ty ad q) sz) := by
  refine Met.ofW (cc := cX9_orders) (maxL := 2) (ret := (some .int)) (by decide) rfl ?_
  intro p e s m args below meth c s₁ B hml hv
  obtain ⟨rfl, hsz, hP, hK, hD0, hN, hE⟩ := hv
  have hx := B.exec
  have hb := B.bytes
  have hr := B.returns
  have hts := atoms_spec (ws := wsX9_orders) B.pre
  have hown : s.vm.findClass RX9 = some m.cls := findClass_of_methodNamed B.named
  have hlocks := B.notSynchronized
  subst hsz
  have hD := hD0.self (sz := s.heap.size)
  generalize hAe : va_A (wF ty ad q) s.heap.size = A at hD hE ⊢
  have hA : ∀ q : Nat, s.heap.size ≤ q → A q := fun q h => by rw [← hAe]; exact Or.inr h
  clear hAe
  have hS : va_S A s.heap s.heap [] := va_S.rf
  have hl := lv_entry ([.ref (ad 0)]) (n := 2) (Nat.le_of_ble_eq_true rfl)
  rw [lg_entry_eq]
  generalize (lg_sl ([.ref (ad 0)]) ++ List.replicate (2 - (lg_sl ([.ref (ad 0)])).length) Slot.unset).toArray = ls at hl ⊢
  have hl : lv_has ls 2 [(0, .ref (ad 0))] := hl
  have C : dc_C p s m _ meth c cX9_orders (some .int) 2 RX9 wsX9_orders D ty eo A := ⟨hx, hb, hr, hts, hown, hlocks, hml, hK, hN, hE, hA⟩
  unfold zX9_orders_s0 at h
  refine lv_aload_n hx hb dX9_orders_0 rfl (lv_at hl 0 rfl) ?_
  refine va_get (D := D) (ci := 9) (v := .int (q.1 0 12)) (C := RX9) (T := TX9) (N := 19) hx hb hts u9_wsX9_orders_X9 hown hK hP 0 rfl rfl 12 (by decide) (hts (.fieldLink RX9 88 "TurnedFloors" "tapeLength" "I") f9_wsX9_orders_689) (fun _ h9 => h9) rfl dX9_orders_1 ?_
  refine lv_istore_n (lv' := [(1, .int (q.1 0 12)), (0, .ref (ad 0))]) hx hb dX9_orders_4 rfl hl (by decide) rfl (fun ls hl => ?_)
  refine lv_aload_n hx hb dX9_orders_5 rfl (lv_at hl 1 rfl) ?_
  refine lv_iconst (v := 0) hx hb dX9_orders_6 (by decide) ?_
  refine va_put (D := D) (ci := 9) (v := .int 0) (ty := .int) (C := RX9) (T := TX9) (N := 19) hx hb hts u9_wsX9_orders_X9 tyX9 tyX9_ok nmX9 hown hK hP hD hS 0 rfl rfl 12 (by decide) (hts (.fieldLink RX9 88 "TurnedFloors" "tapeLength" "I") f9_wsX9_orders_689) (fun _ h9 => h9) rfl (by decide +kernel) rfl rfl (Nat.le_of_ble_eq_true rfl) dX9_orders_7 (fun H locs hp hd hs => ?_)
  obtain ⟨q1, eq1, h⟩ := dL_some h
  refine kz_re (w2 := wF ty ad q1) hp hd hs (by rw [← eq1]; exact wF_f0_12 ty ad q 0) ?_
  clear hp hd hs hP hD hS
  intro hP hD hS
  refine lv_aload_n hx hb dX9_orders_10 rfl (lv_at hl 1 rfl) ?_
  refine lv_iconst (v := (-1)) hx hb dX9_orders_11 (by decide) ?_
  refine va_put (D := D) (ci := 9) (v := .int (-1)) (ty := .int) (C := RX9) (T := TX9) (N := 19) hx hb hts u9_wsX9_orders_X9 tyX9 tyX9_ok nmX9 hown hK hP hD hS 0 rfl rfl 15 (by decide) (hts (.fieldLink RX9 98 "TurnedFloors" "stoppedClause" "I") f9_wsX9_orders_690) (fun _ h9 => h9) rfl (by decide +kernel) rfl rfl (Nat.le_of_ble_eq_true rfl) dX9_orders_12 (fun H locs hp hd hs => ?_)
  obtain ⟨q2, eq2, h⟩ := dL_some h
  refine kz_re (w2 := wF ty ad q2) hp hd hs (by rw [← eq2]; exact wF_f0_15 ty ad q1 (-1)) ?_
  clear hp hd hs hP hD hS
  intro hP hD hS
  refine lv_aload_n hx hb dX9_orders_15 rfl (lv_at hl 1 rfl) ?_
  refine lv_aload_n hx hb dX9_orders_16 rfl (lv_at hl 1 rfl) ?_
  refine va_get (D := D) (ci := 9) (v := .ref (ad 24)) (C := RX9) (T := TX9) (N := 19) hx hb hts u9_wsX9_orders_X9 hown hK hP 0 rfl rfl 8 (by decide) (hts (.fieldLink RX9 64 "TurnedFloors" "reader" "LTurnedFloors$Reader;") f9_wsX9_orders_691) (fun _ h9 => h9) rfl dX9_orders_17 ?_
  refine lv_aload_n hx hb dX9_orders_20 rfl (lv_at hl 1 rfl) ?_
  refine va_get (D := D) (ci := 9) (v := .ref (ad 46)) (C := RX9) (T := TX9) (N := 19) hx hb hts u9_wsX9_orders_X9 hown hK hP 0 rfl rfl 11 (by decide) (hts (.fieldLink RX9 84 "TurnedFloors" "tape" "[I") f9_wsX9_orders_692) (fun _ h9 => h9) rfl dX9_orders_21 ?_
  refine lv_iload_n hx hb dX9_orders_24 rfl (lv_at hl 0 rfl) ?_
  refine lv_iconst (v := 1) hx hb dX9_orders_25 (by decide) ?_
  refine lv_aload_n hx hb dX9_orders_26 rfl (lv_at hl 1 rfl) ?_
  refine va_get (D := D) (ci := 9) (v := .ref (ad 25)) (C := RX9) (T := TX9) (N := 19) hx hb hts u9_wsX9_orders_X9 hown hK hP 0 rfl rfl 9 (by decide) (hts (.fieldLink RX9 73 "TurnedFloors" "draft" "LTurnedFloors$Text;") f9_wsX9_orders_693) (fun _ h9 => h9) rfl dX9_orders_27 ?_
  obtain ⟨r3, q5, h4, h⟩ := dB_some h
  refine dw_ki (va_runV (As := [.ref (ad 46), .int (q.1 0 12), .int 1, .ref (ad 25)]) (rest := [.ref (ad 0)]) ⟨hx, hb, hml, hown, hts⟩ (qX4_read_s24_s46_s25 l D ty eo _ ad q2 (q.1 0 12) 1 r3 q5 h4) (cwV 4 hts gX9_orders_X4_read rfl rfl rfl hd_X4_read_v ⟨Nat.le_of_ble_eq_true rfl, Nat.le_of_ble_eq_true rfl⟩) (pvF_4_24 hK hN hE hP hD hS hA) rfl rfl hl.1 rfl (lv_room (Nat.le_of_ble_eq_true rfl)) dX9_orders_30 ⟨Nat.le_of_ble_eq_true rfl, Nat.le_of_ble_eq_true rfl⟩) hD hS hA (fun r9 u9 H locs hw hp hd hs => ?_)
  clear hP hD hS
  obtain ⟨rfl, rfl⟩ := hw
  have hP := hp; have hD := hd; have hS := hs; clear hp hd hs
  refine va_put (D := D) (ci := 9) (v := .int r3) (ty := .int) (C := RX9) (T := TX9) (N := 19) hx hb hts u9_wsX9_orders_X9 tyX9 tyX9_ok nmX9 hown hK hP hD hS 0 rfl rfl 13 (by decide) (hts (.fieldLink RX9 92 "TurnedFloors" "faultPlace" "I") f9_wsX9_orders_694) (fun _ h9 => h9) rfl (by decide +kernel) rfl rfl (Nat.le_of_ble_eq_true rfl) dX9_orders_33 (fun H locs hp hd hs => ?_)
  obtain ⟨q6, eq6, h⟩ := dL_some h
  refine kz_re (w2 := wF ty ad q6) hp hd hs (by rw [← eq6]; exact wF_f0_13 ty ad q5 r3) ?_
  clear hp hd hs hP hD hS
  intro hP hD hS
  refine lv_aload_n hx hb dX9_orders_36 rfl (lv_at hl 1 rfl) ?_
  refine va_get (D := D) (ci := 9) (v := .int (q6.1 0 13)) (C := RX9) (T := TX9) (N := 19) hx hb hts u9_wsX9_orders_X9 hown hK hP 0 rfl rfl 13 (by decide) (hts (.fieldLink RX9 92 "TurnedFloors" "faultPlace" "I") f9_wsX9_orders_694) (fun _ h9 => h9) rfl dX9_orders_37 ?_
  refine lv_iconst (v := (-1)) hx hb dX9_orders_40 (by decide) ?_
  refine lv_icmp_eq (tgt := 51) hx hb dX9_orders_41 (by decide) (fun c9 => ?_) (fun c9 => ?_)
  · rw [if_pos c9] at h
    refine lv_aload_n hx hb dX9_orders_51 rfl (lv_at hl 1 rfl) ?_
    refine lv_aload_n hx hb dX9_orders_52 rfl (lv_at hl 1 rfl) ?_
    refine va_get (D := D) (ci := 9) (v := .ref (ad 22)) (C := RX9) (T := TX9) (N := 19) hx hb hts u9_wsX9_orders_X9 hown hK hP 0 rfl rfl 7 (by decide) (hts (.fieldLink RX9 57 "TurnedFloors" "runner" "LTurnedFloors$Runner;") f9_wsX9_orders_695) (fun _ h9 => h9) rfl dX9_orders_53 ?_
    refine lv_aload_n hx hb dX9_orders_56 rfl (lv_at hl 1 rfl) ?_
    refine va_get (D := D) (ci := 9) (v := .ref (ad 25)) (C := RX9) (T := TX9) (N := 19) hx hb hts u9_wsX9_orders_X9 hown hK hP 0 rfl rfl 9 (by decide) (hts (.fieldLink RX9 73 "TurnedFloors" "draft" "LTurnedFloors$Text;") f9_wsX9_orders_693) (fun _ h9 => h9) rfl dX9_orders_57 ?_
    refine lv_aload_n hx hb dX9_orders_60 rfl (lv_at hl 1 rfl) ?_
    refine va_get (D := D) (ci := 9) (v := .ref (ad 1)) (C := RX9) (T := TX9) (N := 19) hx hb hts u9_wsX9_orders_X9 hown hK hP 0 rfl rfl 0 (by decide) (hts (.fieldLink RX9 10 "TurnedFloors" "state" "LTurnedFloors$State;") f9_wsX9_orders_696) (fun _ h9 => h9) rfl dX9_orders_61 ?_
    refine va_getN (D := D) (ci := 6) (v := .ref (ad 2)) (C := RX6) (T := TX6) (N := 10) hx hb hts u9_wsX9_orders_X6 hown hK hP 1 rfl rfl 0 (by decide) (hN.use (.fieldLinkNest "TurnedFloors" 122 "TurnedFloors$State" "tower" "LTurnedFloors$Tower;" "TurnedFloors") nn9_0) (fun _ h9 => h9) rfl dX9_orders_64 ?_
    refine lv_aload_n hx hb dX9_orders_67 rfl (lv_at hl 1 rfl) ?_
    obtain ⟨q9, h8, h⟩ := dV_some h
    refine dw_kq (va_runV (As := []) (rest := [.ref (ad 2), .ref (ad 25), .ref (ad 22), .ref (ad 0)]) ⟨hx, hb, hml, hown, hts⟩ (qX9_seated_s0 l D ty eo _ ad q6  q9 h8) (cwV 0 hts gX9_orders_X9_seated rfl rfl rfl hd_X9_seated_v ⟨Nat.le_of_ble_eq_true rfl, Nat.le_of_ble_eq_true rfl⟩) (pvF_9_0 hK hN hE hP hD hS hA) rfl rfl hl.1 rfl (lv_room (Nat.le_of_ble_eq_true rfl)) dX9_orders_68 ⟨Nat.le_of_ble_eq_true rfl, Nat.le_of_ble_eq_true rfl⟩) hP hD hS hA (fun r9 u9 H locs hw hp hd hs => ?_)
    clear hP hD hS
    obtain ⟨rfl, rfl⟩ := hw
    have hP := hp; have hD := hd; have hS := hs; clear hp hd hs
    refine lv_aload_n hx hb dX9_orders_71 rfl (lv_at hl 1 rfl) ?_
    refine va_get (D := D) (ci := 9) (v := .ref (ad 10)) (C := RX9) (T := TX9) (N := 19) hx hb hts u9_wsX9_orders_X9 hown hK hP 0 rfl rfl 3 (by decide) (hts (.fieldLink RX9 27 "TurnedFloors" "history" "LTurnedFloors$History;") f9_wsX9_orders_697) (fun _ h9 => h9) rfl dX9_orders_72 ?_
    obtain ⟨r10, q12, h11, h⟩ := dB_some h
    refine dw_ki (va_runV (As := [.ref (ad 25), .ref (ad 2), .ref (ad 20), .ref (ad 10)]) (rest := [.ref (ad 0)]) ⟨hx, hb, hml, hown, hts⟩ (qX5_run_s22_s25_s2_s20_s10 l D ty eo _ ad q9  r10 q12 h11) (cwV 4 hts gX9_orders_X5_run rfl rfl rfl hd_X5_run_v ⟨Nat.le_of_ble_eq_true rfl, Nat.le_of_ble_eq_true rfl⟩) (pvF_5_22 hK hN hE hP hD hS hA) rfl rfl hl.1 rfl (lv_room (Nat.le_of_ble_eq_true rfl)) dX9_orders_75 ⟨Nat.le_of_ble_eq_true rfl, Nat.le_of_ble_eq_true rfl⟩) hD hS hA (fun r9 u9 H locs hw hp hd hs => ?_)
    clear hP hD hS
    obtain ⟨rfl, rfl⟩ := hw
    have hP := hp; have hD := hd; have hS := hs; clear hp hd hs
    refine va_put (D := D) (ci := 9) (v := .int r10) (ty := .int) (C := RX9) (T := TX9) (N := 19) hx hb hts u9_wsX9_orders_X9 tyX9 tyX9_ok nmX9 hown hK hP hD hS 0 rfl rfl 15 (by decide) (hts (.fieldLink RX9 98 "TurnedFloors" "stoppedClause" "I") f9_wsX9_orders_690) (fun _ h9 => h9) rfl (by decide +kernel) rfl rfl (Nat.le_of_ble_eq_true rfl) dX9_orders_78 (fun H locs hp hd hs => ?_)
    obtain ⟨q13, eq13, h⟩ := dL_some h
    refine kz_re (w2 := wF ty ad q13) hp hd hs (by rw [← eq13]; exact wF_f0_15 ty ad q12 r10) ?_
    clear hp hd hs hP hD hS
    intro hP hD hS
    refine lv_aload_n hx hb dX9_orders_81 rfl (lv_at hl 1 rfl) ?_
    refine va_get (D := D) (ci := 9) (v := .int (q13.1 0 15)) (C := RX9) (T := TX9) (N := 19) hx hb hts u9_wsX9_orders_X9 hown hK hP 0 rfl rfl 15 (by decide) (hts (.fieldLink RX9 98 "TurnedFloors" "stoppedClause" "I") f9_wsX9_orders_690) (fun _ h9 => h9) rfl dX9_orders_82 ?_
    refine lv_iconst (v := (-1)) hx hb dX9_orders_85 (by decide) ?_
    refine lv_icmp_ne (tgt := 103) hx hb dX9_orders_86 (by decide) (fun c9 => ?_) (fun c9 => ?_)
    · rw [if_neg c9] at h
      refine lv_aload_n hx hb dX9_orders_103 rfl (lv_at hl 1 rfl) ?_
      refine lv_bipush (v := (-3)) hx hb dX9_orders_104 (by decide) ?_
      obtain ⟨r14, q16, h15, h⟩ := dB_some h
      refine dw_ki (va_runV (As := [.int (-3)]) (rest := []) ⟨hx, hb, hml, hown, hts⟩ (qX9_refuse_s0 l D ty eo _ ad q13 (-3) r14 q16 h15) (cwV 1 hts gX9_orders_X9_refuse rfl rfl rfl hd_X9_refuse_v ⟨Nat.le_of_ble_eq_true rfl, Nat.le_of_ble_eq_true rfl⟩) (pvF_9_0 hK hN hE hP hD hS hA) rfl rfl hl.1 rfl (lv_room (Nat.le_of_ble_eq_true rfl)) dX9_orders_106 ⟨Nat.le_of_ble_eq_true rfl, Nat.le_of_ble_eq_true rfl⟩) hD hS hA (fun r9 u9 H locs hw hp hd hs => ?_)
      clear hP hD hS
      obtain ⟨rfl, rfl⟩ := hw
      have hP := hp; have hD := hd; have hS := hs; clear hp hd hs
      exact WX9_orders_s0_109 C  _ _ _ _ _ h hP hD hS (lv_sub hl [] rfl)
    · rw [if_pos c9] at h
      refine lv_aload_n hx hb dX9_orders_89 rfl (lv_at hl 1 rfl) ?_
      refine lv_aload_n hx hb dX9_orders_90 rfl (lv_at hl 1 rfl) ?_
      refine va_get (D := D) (ci := 9) (v := .ref (ad 22)) (C := RX9) (T := TX9) (N := 19) hx hb hts u9_wsX9_orders_X9 hown hK hP 0 rfl rfl 7 (by decide) (hts (.fieldLink RX9 57 "TurnedFloors" "runner" "LTurnedFloors$Runner;") f9_wsX9_orders_695) (fun _ h9 => h9) rfl dX9_orders_91 ?_
      refine va_getN (D := D) (ci := 5) (v := .int (q13.1 22 2)) (C := RX5) (T := TX5) (N := 4) hx hb hts u9_wsX9_orders_X5 hown hK hP 22 rfl rfl 2 (by decide) (hN.use (.fieldLinkNest "TurnedFloors" 202 "TurnedFloors$Runner" "done" "I" "TurnedFloors") nn9_28) (fun _ h9 => h9) rfl dX9_orders_94 ?_
      obtain ⟨r17, q19, h18, h⟩ := dB_some h
      refine dw_ki (va_runV (As := [.int (q13.1 22 2)]) (rest := []) ⟨hx, hb, hml, hown, hts⟩ (qX9_accept_s0 l D ty eo _ ad q13 (q13.1 22 2) r17 q19 h18) (cwV 1 hts gX9_orders_X9_accept rfl rfl rfl hd_X9_accept_v ⟨Nat.le_of_ble_eq_true rfl, Nat.le_of_ble_eq_true rfl⟩) (pvF_9_0 hK hN hE hP hD hS hA) rfl rfl hl.1 rfl (lv_room (Nat.le_of_ble_eq_true rfl)) dX9_orders_97 ⟨Nat.le_of_ble_eq_true rfl, Nat.le_of_ble_eq_true rfl⟩) hD hS hA (fun r9 u9 H locs hw hp hd hs => ?_)
      clear hP hD hS
      obtain ⟨rfl, rfl⟩ := hw
      have hP := hp; have hD := hd; have hS := hs; clear hp hd hs
      refine lv_goto (tgt := 109) hx hb dX9_orders_100 (by decide) ?_
      exact WX9_orders_s0_109 C  _ _ _ _ _ h hP hD hS (lv_sub hl [] rfl)
  · rw [if_neg c9] at h
    refine lv_aload_n hx hb dX9_orders_44 rfl (lv_at hl 1 rfl) ?_
    refine lv_bipush (v := (-6)) hx hb dX9_orders_45 (by decide) ?_
    obtain ⟨r20, q22, h21, h⟩ := dB_some h
    refine dw_ki (va_runV (As := [.int (-6)]) (rest := []) ⟨hx, hb, hml, hown, hts⟩ (qX9_refuse_s0 l D ty eo _ ad q6 (-6) r20 q22 h21) (cwV 1 hts gX9_orders_X9_refuse rfl rfl rfl hd_X9_refuse_v ⟨Nat.le_of_ble_eq_true rfl, Nat.le_of_ble_eq_true rfl⟩) (pvF_9_0 hK hN hE hP hD hS hA) rfl rfl hl.1 rfl (lv_room (Nat.le_of_ble_eq_true rfl)) dX9_orders_47 ⟨Nat.le_of_ble_eq_true rfl, Nat.le_of_ble_eq_true rfl⟩) hD hS hA (fun r9 u9 H locs hw hp hd hs => ?_)
    clear hP hD hS
    obtain ⟨rfl, rfl⟩ := hw
    have hP := hp; have hD := hd; have hS := hs; clear hp hd hs
    cases h
    exact kz_iret hx hb hr hlocks hP hK hD hS dX9_orders_50 ⟨rfl, rfl⟩

set_option maxHeartbeats 4000000 in
set_option maxRecDepth 100000 in
theorem qX9_fault_s0 (l : Launch) (D : va_G) (ty : Nat → ClassId) (eo : Nat → Nat) (sz : Nat) (ad : Nat → Nat) (q : dK)  (o1 : Int32) (o2 : dK) (h : zX9_fault_s0 q = some (o1, o2)) : Met l yX9_fault wsX9_fault ({ frames := 0, cells := 0, slots := 0, locals := 0 } : Room) (va_Pc [.ref (ad 0)] (kz_pre D ty eo (wF ty ad q) sz)) (va_Qi (fun (r : Int32) (u : va_W) => o1 = r ∧ wF ty ad o2 = u) (kz_B D ty (va_A (wF ty ad q) sz)) (va_A (wF ty ad q) sz)) 0 0 (va_A (wF ty ad q) sz) := by
  refine Met.ofW (cc := cX9_fault) (maxL := 1) (ret := (some .int)) (by decide) rfl ?_
  intro p e s m args below meth c s₁ B hml hv
  obtain ⟨rfl, hsz, hP, hK, hD0, hN, hE⟩ := hv
  have hx := B.exec
  have hb := B.bytes
  have hr := B.returns
  have hts := atoms_spec (ws := wsX9_fault) B.pre
  have hown : s.vm.findClass RX9 = some m.cls := findClass_of_methodNamed B.named
  have hlocks := B.notSynchronized
  subst hsz
  have hD := hD0.self (sz := s.heap.size)
  generalize hAe : va_A (wF ty ad q) s.heap.size = A at hD hE ⊢
  have hA : ∀ q : Nat, s.heap.size ≤ q → A q := fun q h => by rw [← hAe]; exact Or.inr h
  clear hAe
  have hS : va_S A s.heap s.heap [] := va_S.rf
  have hl := lv_entry ([.ref (ad 0)]) (n := 1) (Nat.le_of_ble_eq_true rfl)
  rw [lg_entry_eq]
  generalize (lg_sl ([.ref (ad 0)]) ++ List.replicate (1 - (lg_sl ([.ref (ad 0)])).length) Slot.unset).toArray = ls at hl ⊢
  have hl : lv_has ls 1 [(0, .ref (ad 0))] := hl
  have C : dc_C p s m _ meth c cX9_fault (some .int) 1 RX9 wsX9_fault D ty eo A := ⟨hx, hb, hr, hts, hown, hlocks, hml, hK, hN, hE, hA⟩
  unfold zX9_fault_s0 at h
  refine lv_aload_n hx hb dX9_fault_0 rfl (lv_at hl 0 rfl) ?_
  refine va_get (D := D) (ci := 9) (v := .int (q.1 0 13)) (C := RX9) (T := TX9) (N := 19) hx hb hts u9_wsX9_fault_X9 hown hK hP 0 rfl rfl 13 (by decide) (hts (.fieldLink RX9 92 "TurnedFloors" "faultPlace" "I") f9_wsX9_fault_699) (fun _ h9 => h9) rfl dX9_fault_1 ?_
  cases h
  exact kz_iret hx hb hr hlocks hP hK hD hS dX9_fault_4 ⟨rfl, rfl⟩

set_option maxHeartbeats 4000000 in
set_option maxRecDepth 100000 in
theorem qX9_stopped_s0 (l : Launch) (D : va_G) (ty : Nat → ClassId) (eo : Nat → Nat) (sz : Nat) (ad : Nat → Nat) (q : dK)  (o1 : Int32) (o2 : dK) (h : zX9_stopped_s0 q = some (o1, o2)) : Met l yX9_stopped wsX9_stopped ({ frames := 0, cells := 0, slots := 0, locals := 0 } : Room) (va_Pc [.ref (ad 0)] (kz_pre D ty eo (wF ty ad q) sz)) (va_Qi (fun (r : Int32) (u : va_W) => o1 = r ∧ wF ty ad o2 = u) (kz_B D ty (va_A (wF ty ad q) sz)) (va_A (wF ty ad q) sz)) 0 0 (va_A (wF ty ad q) sz) := by
  refine Met.ofW (cc := cX9_stopped) (maxL := 1) (ret := (some .int)) (by decide) rfl ?_
  intro p e s m args below meth c s₁ B hml hv
  obtain ⟨rfl, hsz, hP, hK, hD0, hN, hE⟩ := hv
  have hx := B.exec
  have hb := B.bytes
  have hr := B.returns
  have hts := atoms_spec (ws := wsX9_stopped) B.pre
  have hown : s.vm.findClass RX9 = some m.cls := findClass_of_methodNamed B.named
  have hlocks := B.notSynchronized
  subst hsz
  have hD := hD0.self (sz := s.heap.size)
  generalize hAe : va_A (wF ty ad q) s.heap.size = A at hD hE ⊢
  have hA : ∀ q : Nat, s.heap.size ≤ q → A q := fun q h => by rw [← hAe]; exact Or.inr h
  clear hAe
  have hS : va_S A s.heap s.heap [] := va_S.rf
  have hl := lv_entry ([.ref (ad 0)]) (n := 1) (Nat.le_of_ble_eq_true rfl)
  rw [lg_entry_eq]
  generalize (lg_sl ([.ref (ad 0)]) ++ List.replicate (1 - (lg_sl ([.ref (ad 0)])).length) Slot.unset).toArray = ls at hl ⊢
  have hl : lv_has ls 1 [(0, .ref (ad 0))] := hl
  have C : dc_C p s m _ meth c cX9_stopped (some .int) 1 RX9 wsX9_stopped D ty eo A := ⟨hx, hb, hr, hts, hown, hlocks, hml, hK, hN, hE, hA⟩
  unfold zX9_stopped_s0 at h
  refine lv_aload_n hx hb dX9_stopped_0 rfl (lv_at hl 0 rfl) ?_
  refine va_get (D := D) (ci := 9) (v := .int (q.1 0 15)) (C := RX9) (T := TX9) (N := 19) hx hb hts u9_wsX9_stopped_X9 hown hK hP 0 rfl rfl 15 (by decide) (hts (.fieldLink RX9 98 "TurnedFloors" "stoppedClause" "I") f9_wsX9_stopped_701) (fun _ h9 => h9) rfl dX9_stopped_1 ?_
  cases h
  exact kz_iret hx hb hr hlocks hP hK hD hS dX9_stopped_4 ⟨rfl, rfl⟩

set_option maxHeartbeats 4000000 in
set_option maxRecDepth 100000 in
theorem WX9_force_s0_23 {p : Program} {l : Launch} {e : Env} {s : State} {m : MethodId} {args : Array Value} {below : List Frame} {meth : Method} {c : Code} {D : va_G} {ty : Nat → ClassId} {eo : Nat → Nat} {A : Nat → Prop} {ad : Nat → Nat} {o1 : Int32} {o2 : dK} (C : dc_C p s m args meth c cX9_force (some .int) 3 RX9 wsX9_force D ty eo A)   (q : dK) (x1 : Int32) (H : Heap) (locs : List Loc) (ls : Array Slot) (h : zX9_force_s0_23  q x1 = some (o1, o2)) (hP : va_P D vwCl (wF ty ad q) H) (hD : va_D A (wF ty ad q)) (hS : va_S A s.heap H locs) (hl : lv_has ls 3 [(0, .ref (ad 0)), (1, .int x1)]) : W p l e ({ frames := 1, cells := 0, slots := 0, locals := 21 } : Room) s m args below meth c H locs 0 0 (MQ below (va_Qi (fun (r : Int32) (u : va_W) => o1 = r ∧ wF ty ad o2 = u) (kz_B D ty A) A) args s 0 0 A) (F0 m 23 ls []) := by
  have C0 := C
  obtain ⟨hx, hb, hr, hts, hown, hlocks, hml, hK, hN, hE, hA⟩ := C
  unfold zX9_force_s0_23 at h
  refine lv_aload_n hx hb dX9_force_23 rfl (lv_at hl 0 rfl) ?_
  refine va_get (D := D) (ci := 9) (v := .ref (ad 1)) (C := RX9) (T := TX9) (N := 19) hx hb hts u9_wsX9_force_X9 hown hK hP 0 rfl rfl 0 (by decide) (hts (.fieldLink RX9 10 "TurnedFloors" "state" "LTurnedFloors$State;") f9_wsX9_force_704) (fun _ h9 => h9) rfl dX9_force_24 ?_
  refine va_getN (D := D) (ci := 6) (v := .int (q.1 1 9)) (C := RX6) (T := TX6) (N := 10) hx hb hts u9_wsX9_force_X6 hown hK hP 1 rfl rfl 9 (by decide) (hN.use (.fieldLinkNest "TurnedFloors" 208 "TurnedFloors$State" "inForce" "I" "TurnedFloors") nn9_2) (fun _ h9 => h9) rfl dX9_force_27 ?_
  refine lv_istore_n (lv' := [(2, .int (q.1 1 9)), (0, .ref (ad 0)), (1, .int x1)]) hx hb dX9_force_30 rfl hl (by decide) rfl (fun ls hl => ?_)
  refine lv_aload_n hx hb dX9_force_31 rfl (lv_at hl 1 rfl) ?_
  refine va_get (D := D) (ci := 9) (v := .ref (ad 1)) (C := RX9) (T := TX9) (N := 19) hx hb hts u9_wsX9_force_X9 hown hK hP 0 rfl rfl 0 (by decide) (hts (.fieldLink RX9 10 "TurnedFloors" "state" "LTurnedFloors$State;") f9_wsX9_force_704) (fun _ h9 => h9) rfl dX9_force_32 ?_
  refine lv_iload_n hx hb dX9_force_35 rfl (lv_at hl 2 rfl) ?_
  refine va_putN (D := D) (ci := 6) (v := .int x1) (ty := .int) (C := RX6) (T := TX6) (N := 10) hx hb hts u9_wsX9_force_X6 tyX6 tyX6_ok nmX6 hown hK hP hD hS 1 rfl rfl 9 (by decide) (hN.use (.fieldLinkNest "TurnedFloors" 208 "TurnedFloors$State" "inForce" "I" "TurnedFloors") nn9_2) (fun _ h9 => h9) rfl (by decide +kernel) rfl rfl (Nat.le_of_ble_eq_true rfl) dX9_force_36 (fun H locs hp hd hs => ?_)
  obtain ⟨q1, eq1, h⟩ := dL_some h
  refine kz_re (w2 := wF ty ad q1) hp hd hs (by rw [← eq1]; exact wF_f1_9 ty ad q x1) ?_
  clear hp hd hs hP hD hS
  intro hP hD hS
  refine lv_aload_n hx hb dX9_force_39 rfl (lv_at hl 1 rfl) ?_
  refine lv_iload_n hx hb dX9_force_40 rfl (lv_at hl 0 rfl) ?_
  obtain ⟨r2, q4, h3, h⟩ := dB_some h
  refine dw_ki (va_runV (As := [.int (q.1 1 9)]) (rest := []) ⟨hx, hb, hml, hown, hts⟩ (qX9_accept_s0 l D ty eo _ ad q1 (q.1 1 9) r2 q4 h3) (cwV 1 hts gX9_force_X9_accept rfl rfl rfl hd_X9_accept_v ⟨Nat.le_of_ble_eq_true rfl, Nat.le_of_ble_eq_true rfl⟩) (pvF_9_0 hK hN hE hP hD hS hA) rfl rfl hl.1 rfl (lv_room (Nat.le_of_ble_eq_true rfl)) dX9_force_41 ⟨Nat.le_of_ble_eq_true rfl, Nat.le_of_ble_eq_true rfl⟩) hD hS hA (fun r9 u9 H locs hw hp hd hs => ?_)
  clear hP hD hS
  obtain ⟨rfl, rfl⟩ := hw
  have hP := hp; have hD := hd; have hS := hs; clear hp hd hs
  cases h
  exact kz_iret hx hb hr hlocks hP hK hD hS dX9_force_44 ⟨rfl, rfl⟩
set_option maxHeartbeats 4000000 in
set_option maxRecDepth 100000 in
theorem qX9_force_s0 (l : Launch) (D : va_G) (ty : Nat → ClassId) (eo : Nat → Nat) (sz : Nat) (ad : Nat → Nat) (q : dK) (p1 : Int32) (o1 : Int32) (o2 : dK) (h : zX9_force_s0 q p1 = some (o1, o2)) : Met l yX9_force wsX9_force ({ frames := 1, cells := 0, slots := 0, locals := 21 } : Room) (va_Pc [.ref (ad 0), .int p1] (kz_pre D ty eo (wF ty ad q) sz)) (va_Qi (fun (r : Int32) (u : va_W) => o1 = r ∧ wF ty ad o2 = u) (kz_B D ty (va_A (wF ty ad q) sz)) (va_A (wF ty ad q) sz)) 0 0 (va_A (wF ty ad q) sz) := by
  refine Met.ofW (cc := cX9_force) (maxL := 3) (ret := (some .int)) (by decide) rfl ?_
  intro p e s m args below meth c s₁ B hml hv
  obtain ⟨rfl, hsz, hP, hK, hD0, hN, hE⟩ := hv
  have hx := B.exec
  have hb := B.bytes
  have hr := B.returns
  have hts := atoms_spec (ws := wsX9_force) B.pre
  have hown : s.vm.findClass RX9 = some m.cls := findClass_of_methodNamed B.named
  have hlocks := B.notSynchronized
  subst hsz
  have hD := hD0.self (sz := s.heap.size)
  generalize hAe : va_A (wF ty ad q) s.heap.size = A at hD hE ⊢
  have hA : ∀ q : Nat, s.heap.size ≤ q → A q := fun q h => by rw [← hAe]; exact Or.inr h
  clear hAe
  have hS : va_S A s.heap s.heap [] := va_S.rf
  have hl := lv_entry ([.ref (ad 0), .int p1]) (n := 3) (Nat.le_of_ble_eq_true rfl)
  rw [lg_entry_eq]
  generalize (lg_sl ([.ref (ad 0), .int p1]) ++ List.replicate (3 - (lg_sl ([.ref (ad 0), .int p1])).length) Slot.unset).toArray = ls at hl ⊢
  have hl : lv_has ls 3 [(0, .ref (ad 0)), (1, .int p1)] := hl
  have C : dc_C p s m _ meth c cX9_force (some .int) 3 RX9 wsX9_force D ty eo A := ⟨hx, hb, hr, hts, hown, hlocks, hml, hK, hN, hE, hA⟩
  unfold zX9_force_s0 at h
  refine lv_iload_n hx hb dX9_force_0 rfl (lv_at hl 1 rfl) ?_
  refine lv_iconst (v := (-1)) hx hb dX9_force_1 (by decide) ?_
  refine lv_icmp_eq (tgt := 23) hx hb dX9_force_2 (by decide) (fun c9 => ?_) (fun c9 => ?_)
  · rw [if_pos c9] at h
    exact WX9_force_s0_23 C  _ _ _ _ _ h hP hD hS (lv_sub hl [0, 1] rfl)
  · rw [if_neg c9] at h
    refine lv_aload_n hx hb dX9_force_5 rfl (lv_at hl 0 rfl) ?_
    refine va_get (D := D) (ci := 9) (v := .ref (ad 1)) (C := RX9) (T := TX9) (N := 19) hx hb hts u9_wsX9_force_X9 hown hK hP 0 rfl rfl 0 (by decide) (hts (.fieldLink RX9 10 "TurnedFloors" "state" "LTurnedFloors$State;") f9_wsX9_force_704) (fun _ h9 => h9) rfl dX9_force_6 ?_
    refine lv_iload_n hx hb dX9_force_9 rfl (lv_at hl 1 rfl) ?_
    obtain ⟨r1, q3, h2, h⟩ := dB_some h
    refine dw_ki (va_runV (As := [.int p1]) (rest := []) ⟨hx, hb, hml, hown, hts⟩ (qX6_isLaw_s1 l D ty eo _ ad q p1 r1 q3 h2) (cwV 1 hts gX9_force_X6_isLaw rfl rfl rfl hd_X6_isLaw_v ⟨Nat.le_of_ble_eq_true rfl, Nat.le_of_ble_eq_true rfl⟩) (pvF_6_1 hK hN hE hP hD hS hA) rfl rfl hl.1 rfl (lv_room (Nat.le_of_ble_eq_true rfl)) dX9_force_10 ⟨Nat.le_of_ble_eq_true rfl, Nat.le_of_ble_eq_true rfl⟩) hD hS hA (fun r9 u9 H locs hw hp hd hs => ?_)
    clear hP hD hS
    obtain ⟨rfl, rfl⟩ := hw
    have hP := hp; have hD := hd; have hS := hs; clear hp hd hs
    refine lv_if_ne (tgt := 23) hx hb dX9_force_13 (by decide) (fun c9 => ?_) (fun c9 => ?_)
    · rw [if_neg c9] at h
      exact WX9_force_s0_23 C  _ _ _ _ _ h hP hD hS (lv_sub hl [0, 1] rfl)
    · rw [if_pos c9] at h
      refine lv_aload_n hx hb dX9_force_16 rfl (lv_at hl 0 rfl) ?_
      refine lv_bipush (v := (-2)) hx hb dX9_force_17 (by decide) ?_
      obtain ⟨r4, q6, h5, h⟩ := dB_some h
      refine dw_ki (va_runV (As := [.int (-2)]) (rest := []) ⟨hx, hb, hml, hown, hts⟩ (qX9_refuse_s0 l D ty eo _ ad q3 (-2) r4 q6 h5) (cwV 1 hts gX9_force_X9_refuse rfl rfl rfl hd_X9_refuse_v ⟨Nat.le_of_ble_eq_true rfl, Nat.le_of_ble_eq_true rfl⟩) (pvF_9_0 hK hN hE hP hD hS hA) rfl rfl hl.1 rfl (lv_room (Nat.le_of_ble_eq_true rfl)) dX9_force_19 ⟨Nat.le_of_ble_eq_true rfl, Nat.le_of_ble_eq_true rfl⟩) hD hS hA (fun r9 u9 H locs hw hp hd hs => ?_)
      clear hP hD hS
      obtain ⟨rfl, rfl⟩ := hw
      have hP := hp; have hD := hd; have hS := hs; clear hp hd hs
      cases h
      exact kz_iret hx hb hr hlocks hP hK hD hS dX9_force_22 ⟨rfl, rfl⟩

set_option maxHeartbeats 4000000 in
set_option maxRecDepth 100000 in
theorem qX9_move_s0 (l : Launch) (D : va_G) (ty : Nat → ClassId) (eo : Nat → Nat) (sz : Nat) (ad : Nat → Nat) (q : dK) (p1 : Int32) (p2 : Int32) (o1 : Int32) (o2 : dK) (h : zX9_move_s0 q p1 p2 = some (o1, o2)) : Met l yX9_move wsX9_move ({ frames := 6, cells := 0, slots := 0, locals := 151 } : Room) (va_Pc [.ref (ad 0), .int p1, .int p2] (kz_pre D ty eo (wF ty ad q) sz)) (va_Qi (fun (r : Int32) (u : va_W) => o1 = r ∧ wF ty ad o2 = u) (kz_B D ty (va_A (wF ty ad q) sz)) (va_A (wF ty ad q) sz)) 0 0 (va_A (wF ty ad q) sz) := by
  refine Met.ofW (cc := cX9_move) (maxL := 6) (ret := (some .int)) (by decide) rfl ?_
  intro p e s m args below meth c s₁ B hml hv
  obtain ⟨rfl, hsz, hP, hK, hD0, hN, hE⟩ := hv
  have hx := B.exec
  have hb := B.bytes
  have hr := B.returns
  have hts := atoms_spec (ws := wsX9_move) B.pre
  have hown : s.vm.findClass RX9 = some m.cls := findClass_of_methodNamed B.named
  have hlocks := B.notSynchronized
  subst hsz
  have hD := hD0.self (sz := s.heap.size)
  generalize hAe : va_A (wF ty ad q) s.heap.size = A at hD hE ⊢
  have hA : ∀ q : Nat, s.heap.size ≤ q → A q := fun q h => by rw [← hAe]; exact Or.inr h
  clear hAe
  have hS : va_S A s.heap s.heap [] := va_S.rf
  have hl := lv_entry ([.ref (ad 0), .int p1, .int p2]) (n := 6) (Nat.le_of_ble_eq_true rfl)
  rw [lg_entry_eq]
  generalize (lg_sl ([.ref (ad 0), .int p1, .int p2]) ++ List.replicate (6 - (lg_sl ([.ref (ad 0), .int p1, .int p2])).length) Slot.unset).toArray = ls at hl ⊢
  have hl : lv_has ls 6 [(0, .ref (ad 0)), (1, .int p1), (2, .int p2)] := hl
  have C : dc_C p s m _ meth c cX9_move (some .int) 6 RX9 wsX9_move D ty eo A := ⟨hx, hb, hr, hts, hown, hlocks, hml, hK, hN, hE, hA⟩
  unfold zX9_move_s0 at h
  refine lv_aload_n hx hb dX9_move_0 rfl (lv_at hl 0 rfl) ?_
  refine va_get (D := D) (ci := 9) (v := .ref (ad 1)) (C := RX9) (T := TX9) (N := 19) hx hb hts u9_wsX9_move_X9 hown hK hP 0 rfl rfl 0 (by decide) (hts (.fieldLink RX9 10 "TurnedFloors" "state" "LTurnedFloors$State;") f9_wsX9_move_707) (fun _ h9 => h9) rfl dX9_move_1 ?_
  refine va_getN (D := D) (ci := 6) (v := .ref (ad 2)) (C := RX6) (T := TX6) (N := 10) hx hb hts u9_wsX9_move_X6 hown hK hP 1 rfl rfl 0 (by decide) (hN.use (.fieldLinkNest "TurnedFloors" 122 "TurnedFloors$State" "tower" "LTurnedFloors$Tower;" "TurnedFloors") nn9_0) (fun _ h9 => h9) rfl dX9_move_4 ?_
  obtain ⟨r1, q3, h2, h⟩ := dB_some h
  refine dw_kl (va_runV (As := []) (rest := []) ⟨hx, hb, hml, hown, hts⟩ (qX8_pack_s2 l D ty eo _ ad q  r1 q3 h2) (cwV 0 hts gX9_move_X8_pack rfl rfl rfl hd_X8_pack_v ⟨Nat.le_of_ble_eq_true rfl, Nat.le_of_ble_eq_true rfl⟩) (pvF_8_2 hK hN hE hP hD hS hA) rfl rfl hl.1 rfl (lv_room (Nat.le_of_ble_eq_true rfl)) dX9_move_7 ⟨Nat.le_of_ble_eq_true rfl, Nat.le_of_ble_eq_true rfl⟩) hD hS hA (fun r9 u9 H locs hw hp hd hs => ?_)
  clear hP hD hS
  obtain ⟨rfl, rfl⟩ := hw
  have hP := hp; have hD := hd; have hS := hs; clear hp hd hs
  refine lv_lstore_n (lv' := [(3, .long r1), (0, .ref (ad 0)), (1, .int p1), (2, .int p2)]) hx hb dX9_move_10 rfl hl (by decide) rfl (fun ls hl => ?_)
  refine lv_aload_n hx hb dX9_move_11 rfl (lv_at hl 1 rfl) ?_
  refine va_get (D := D) (ci := 9) (v := .ref (ad 1)) (C := RX9) (T := TX9) (N := 19) hx hb hts u9_wsX9_move_X9 hown hK hP 0 rfl rfl 0 (by decide) (hts (.fieldLink RX9 10 "TurnedFloors" "state" "LTurnedFloors$State;") f9_wsX9_move_707) (fun _ h9 => h9) rfl dX9_move_12 ?_
  refine va_getN (D := D) (ci := 6) (v := .ref (ad 2)) (C := RX6) (T := TX6) (N := 10) hx hb hts u9_wsX9_move_X6 hown hK hP 1 rfl rfl 0 (by decide) (hN.use (.fieldLinkNest "TurnedFloors" 122 "TurnedFloors$State" "tower" "LTurnedFloors$Tower;" "TurnedFloors") nn9_0) (fun _ h9 => h9) rfl dX9_move_15 ?_
  refine lv_iload_n hx hb dX9_move_18 rfl (lv_at hl 2 rfl) ?_
  refine lv_iload_n hx hb dX9_move_19 rfl (lv_at hl 3 rfl) ?_
  refine lv_aload_n hx hb dX9_move_20 rfl (lv_at hl 1 rfl) ?_
  obtain ⟨q6, h5, h⟩ := dV_some h
  refine dw_kq (va_runV (As := []) (rest := [.int p2, .int p1, .ref (ad 2)]) ⟨hx, hb, hml, hown, hts⟩ (qX9_seated_s0 l D ty eo _ ad q3  q6 h5) (cwV 0 hts gX9_move_X9_seated rfl rfl rfl hd_X9_seated_v ⟨Nat.le_of_ble_eq_true rfl, Nat.le_of_ble_eq_true rfl⟩) (pvF_9_0 hK hN hE hP hD hS hA) rfl rfl hl.1 rfl (lv_room (Nat.le_of_ble_eq_true rfl)) dX9_move_21 ⟨Nat.le_of_ble_eq_true rfl, Nat.le_of_ble_eq_true rfl⟩) hP hD hS hA (fun r9 u9 H locs hw hp hd hs => ?_)
  clear hP hD hS
  obtain ⟨rfl, rfl⟩ := hw
  have hP := hp; have hD := hd; have hS := hs; clear hp hd hs
  obtain ⟨r7, q9, h8, h⟩ := dB_some h
  refine dw_ki (va_runV (As := [.int p1, .int p2, .ref (ad 20)]) (rest := []) ⟨hx, hb, hml, hown, hts⟩ (qX8_act_s2_s20 l D ty eo _ ad q6 p1 p2 r7 q9 h8) (cwV 3 hts gX9_move_X8_act rfl rfl rfl hd_X8_act_v ⟨Nat.le_of_ble_eq_true rfl, Nat.le_of_ble_eq_true rfl⟩) (pvF_8_2 hK hN hE hP hD hS hA) rfl rfl hl.1 rfl (lv_room (Nat.le_of_ble_eq_true rfl)) dX9_move_24 ⟨Nat.le_of_ble_eq_true rfl, Nat.le_of_ble_eq_true rfl⟩) hD hS hA (fun r9 u9 H locs hw hp hd hs => ?_)
  clear hP hD hS
  obtain ⟨rfl, rfl⟩ := hw
  have hP := hp; have hD := hd; have hS := hs; clear hp hd hs
  refine lv_istore (lv' := [(5, .int r7), (3, .long r1), (0, .ref (ad 0)), (1, .int p1), (2, .int p2)]) hx hb dX9_move_27 hl (by decide) rfl (fun ls hl => ?_)
  refine lv_iload hx hb dX9_move_29 (lv_at hl 0 rfl) ?_
  refine lv_if_ge (tgt := 41) hx hb dX9_move_31 (by decide) (fun c9 => ?_) (fun c9 => ?_)
  · rw [if_pos c9] at h
    refine lv_aload_n hx hb dX9_move_41 rfl (lv_at hl 2 rfl) ?_
    refine va_get (D := D) (ci := 9) (v := .ref (ad 10)) (C := RX9) (T := TX9) (N := 19) hx hb hts u9_wsX9_move_X9 hown hK hP 0 rfl rfl 3 (by decide) (hts (.fieldLink RX9 27 "TurnedFloors" "history" "LTurnedFloors$History;") f9_wsX9_move_708) (fun _ h9 => h9) rfl dX9_move_42 ?_
    refine lv_iload_n hx hb dX9_move_45 rfl (lv_at hl 3 rfl) ?_
    refine lv_lload_n hx hb dX9_move_46 rfl (lv_at hl 1 rfl) ?_
    obtain ⟨q12, h11, h⟩ := dV_some h
    refine dw_kv (va_runV (As := [.int p1, .long r1]) (rest := []) ⟨hx, hb, hml, hown, hts⟩ (qX0_keep_s10 l D ty eo _ ad q9 p1 r1 q12 h11) (cwV 2 hts gX9_move_X0_keep rfl rfl rfl hd_X0_keep_v ⟨Nat.le_of_ble_eq_true rfl, Nat.le_of_ble_eq_true rfl⟩) (pvF_0_10 hK hN hE hP hD hS hA) rfl rfl hl.1 rfl (lv_room (Nat.le_of_ble_eq_true rfl)) dX9_move_47 ⟨Nat.le_of_ble_eq_true rfl, Nat.le_of_ble_eq_true rfl⟩) hD hS hA (fun u9 H locs hw hp hd hs => ?_)
    clear hP hD hS
    obtain rfl := hw
    have hP := hp; have hD := hd; have hS := hs; clear hp hd hs
    refine lv_aload_n hx hb dX9_move_50 rfl (lv_at hl 2 rfl) ?_
    refine lv_iload hx hb dX9_move_51 (lv_at hl 0 rfl) ?_
    obtain ⟨r13, q15, h14, h⟩ := dB_some h
    refine dw_ki (va_runV (As := [.int r7]) (rest := []) ⟨hx, hb, hml, hown, hts⟩ (qX9_accept_s0 l D ty eo _ ad q12 r7 r13 q15 h14) (cwV 1 hts gX9_move_X9_accept rfl rfl rfl hd_X9_accept_v ⟨Nat.le_of_ble_eq_true rfl, Nat.le_of_ble_eq_true rfl⟩) (pvF_9_0 hK hN hE hP hD hS hA) rfl rfl hl.1 rfl (lv_room (Nat.le_of_ble_eq_true rfl)) dX9_move_53 ⟨Nat.le_of_ble_eq_true rfl, Nat.le_of_ble_eq_true rfl⟩) hD hS hA (fun r9 u9 H locs hw hp hd hs => ?_)
    clear hP hD hS
    obtain ⟨rfl, rfl⟩ := hw
    have hP := hp; have hD := hd; have hS := hs; clear hp hd hs
    cases h
    exact kz_iret hx hb hr hlocks hP hK hD hS dX9_move_56 ⟨rfl, rfl⟩
  · rw [if_neg c9] at h
    refine lv_aload_n hx hb dX9_move_34 rfl (lv_at hl 2 rfl) ?_
    refine lv_iload hx hb dX9_move_35 (lv_at hl 0 rfl) ?_
    obtain ⟨r16, q18, h17, h⟩ := dB_some h
    refine dw_ki (va_runV (As := [.int r7]) (rest := []) ⟨hx, hb, hml, hown, hts⟩ (qX9_refuse_s0 l D ty eo _ ad q9 r7 r16 q18 h17) (cwV 1 hts gX9_move_X9_refuse rfl rfl rfl hd_X9_refuse_v ⟨Nat.le_of_ble_eq_true rfl, Nat.le_of_ble_eq_true rfl⟩) (pvF_9_0 hK hN hE hP hD hS hA) rfl rfl hl.1 rfl (lv_room (Nat.le_of_ble_eq_true rfl)) dX9_move_37 ⟨Nat.le_of_ble_eq_true rfl, Nat.le_of_ble_eq_true rfl⟩) hD hS hA (fun r9 u9 H locs hw hp hd hs => ?_)
    clear hP hD hS
    obtain ⟨rfl, rfl⟩ := hw
    have hP := hp; have hD := hd; have hS := hs; clear hp hd hs
    cases h
    exact kz_iret hx hb hr hlocks hP hK hD hS dX9_move_40 ⟨rfl, rfl⟩

set_option maxHeartbeats 4000000 in
set_option maxRecDepth 100000 in
theorem qX9_turn_s0 (l : Launch) (D : va_G) (ty : Nat → ClassId) (eo : Nat → Nat) (sz : Nat) (ad : Nat → Nat) (q : dK) (p1 : Int32) (o1 : Int32) (o2 : dK) (h : zX9_turn_s0 q p1 = some (o1, o2)) : Met l yX9_turn wsX9_turn ({ frames := 7, cells := 0, slots := 0, locals := 176 } : Room) (va_Pc [.ref (ad 0), .int p1] (kz_pre D ty eo (wF ty ad q) sz)) (va_Qi (fun (r : Int32) (u : va_W) => o1 = r ∧ wF ty ad o2 = u) (kz_B D ty (va_A (wF ty ad q) sz)) (va_A (wF ty ad q) sz)) 0 0 (va_A (wF ty ad q) sz) := by
  refine Met.ofW (cc := cX9_turn) (maxL := 2) (ret := (some .int)) (by decide) rfl ?_
  intro p e s m args below meth c s₁ B hml hv
  obtain ⟨rfl, hsz, hP, hK, hD0, hN, hE⟩ := hv
  have hx := B.exec
  have hb := B.bytes
  have hr := B.returns
  have hts := atoms_spec (ws := wsX9_turn) B.pre
  have hown : s.vm.findClass RX9 = some m.cls := findClass_of_methodNamed B.named
  have hlocks := B.notSynchronized
  subst hsz
  have hD := hD0.self (sz := s.heap.size)
  generalize hAe : va_A (wF ty ad q) s.heap.size = A at hD hE ⊢
  have hA : ∀ q : Nat, s.heap.size ≤ q → A q := fun q h => by rw [← hAe]; exact Or.inr h
  clear hAe
  have hS : va_S A s.heap s.heap [] := va_S.rf
  have hl := lv_entry ([.ref (ad 0), .int p1]) (n := 2) (Nat.le_of_ble_eq_true rfl)
  rw [lg_entry_eq]
  generalize (lg_sl ([.ref (ad 0), .int p1]) ++ List.replicate (2 - (lg_sl ([.ref (ad 0), .int p1])).length) Slot.unset).toArray = ls at hl ⊢
  have hl : lv_has ls 2 [(0, .ref (ad 0)), (1, .int p1)] := hl
  have C : dc_C p s m _ meth c cX9_turn (some .int) 2 RX9 wsX9_turn D ty eo A := ⟨hx, hb, hr, hts, hown, hlocks, hml, hK, hN, hE, hA⟩
  unfold zX9_turn_s0 at h
  refine lv_aload_n hx hb dX9_turn_0 rfl (lv_at hl 0 rfl) ?_
  refine lv_iconst (v := 0) hx hb dX9_turn_1 (by decide) ?_
  refine lv_iload_n hx hb dX9_turn_2 rfl (lv_at hl 1 rfl) ?_
  obtain ⟨r1, q3, h2, h⟩ := dB_some h
  refine dw_ki (va_runV (As := [.int 0, .int p1]) (rest := []) ⟨hx, hb, hml, hown, hts⟩ (qX9_move_s0 l D ty eo _ ad q 0 p1 r1 q3 h2) (cwV 2 hts gX9_turn_X9_move rfl rfl rfl hd_X9_move_v ⟨Nat.le_of_ble_eq_true rfl, Nat.le_of_ble_eq_true rfl⟩) (pvF_9_0 hK hN hE hP hD hS hA) rfl rfl hl.1 rfl (lv_room (Nat.le_of_ble_eq_true rfl)) dX9_turn_3 ⟨Nat.le_of_ble_eq_true rfl, Nat.le_of_ble_eq_true rfl⟩) hD hS hA (fun r9 u9 H locs hw hp hd hs => ?_)
  clear hP hD hS
  obtain ⟨rfl, rfl⟩ := hw
  have hP := hp; have hD := hd; have hS := hs; clear hp hd hs
  cases h
  exact kz_iret hx hb hr hlocks hP hK hD hS dX9_turn_6 ⟨rfl, rfl⟩

set_option maxHeartbeats 4000000 in
set_option maxRecDepth 100000 in
theorem qX9_right_s0 (l : Launch) (D : va_G) (ty : Nat → ClassId) (eo : Nat → Nat) (sz : Nat) (ad : Nat → Nat) (q : dK) (p1 : Int32) (o1 : Int32) (o2 : dK) (h : zX9_right_s0 q p1 = some (o1, o2)) : Met l yX9_right wsX9_right ({ frames := 7, cells := 0, slots := 0, locals := 176 } : Room) (va_Pc [.ref (ad 0), .int p1] (kz_pre D ty eo (wF ty ad q) sz)) (va_Qi (fun (r : Int32) (u : va_W) => o1 = r ∧ wF ty ad o2 = u) (kz_B D ty (va_A (wF ty ad q) sz)) (va_A (wF ty ad q) sz)) 0 0 (va_A (wF ty ad q) sz) := by
  refine Met.ofW (cc := cX9_right) (maxL := 2) (ret := (some .int)) (by decide) rfl ?_
  intro p e s m args below meth c s₁ B hml hv
  obtain ⟨rfl, hsz, hP, hK, hD0, hN, hE⟩ := hv
  have hx := B.exec
  have hb := B.bytes
  have hr := B.returns
  have hts := atoms_spec (ws := wsX9_right) B.pre
  have hown : s.vm.findClass RX9 = some m.cls := findClass_of_methodNamed B.named
  have hlocks := B.notSynchronized
  subst hsz
  have hD := hD0.self (sz := s.heap.size)
  generalize hAe : va_A (wF ty ad q) s.heap.size = A at hD hE ⊢
  have hA : ∀ q : Nat, s.heap.size ≤ q → A q := fun q h => by rw [← hAe]; exact Or.inr h
  clear hAe
  have hS : va_S A s.heap s.heap [] := va_S.rf
  have hl := lv_entry ([.ref (ad 0), .int p1]) (n := 2) (Nat.le_of_ble_eq_true rfl)
  rw [lg_entry_eq]
  generalize (lg_sl ([.ref (ad 0), .int p1]) ++ List.replicate (2 - (lg_sl ([.ref (ad 0), .int p1])).length) Slot.unset).toArray = ls at hl ⊢
  have hl : lv_has ls 2 [(0, .ref (ad 0)), (1, .int p1)] := hl
  have C : dc_C p s m _ meth c cX9_right (some .int) 2 RX9 wsX9_right D ty eo A := ⟨hx, hb, hr, hts, hown, hlocks, hml, hK, hN, hE, hA⟩
  unfold zX9_right_s0 at h
  refine lv_aload_n hx hb dX9_right_0 rfl (lv_at hl 0 rfl) ?_
  refine lv_iconst (v := 1) hx hb dX9_right_1 (by decide) ?_
  refine lv_iload_n hx hb dX9_right_2 rfl (lv_at hl 1 rfl) ?_
  obtain ⟨r1, q3, h2, h⟩ := dB_some h
  refine dw_ki (va_runV (As := [.int 1, .int p1]) (rest := []) ⟨hx, hb, hml, hown, hts⟩ (qX9_move_s0 l D ty eo _ ad q 1 p1 r1 q3 h2) (cwV 2 hts gX9_right_X9_move rfl rfl rfl hd_X9_move_v ⟨Nat.le_of_ble_eq_true rfl, Nat.le_of_ble_eq_true rfl⟩) (pvF_9_0 hK hN hE hP hD hS hA) rfl rfl hl.1 rfl (lv_room (Nat.le_of_ble_eq_true rfl)) dX9_right_3 ⟨Nat.le_of_ble_eq_true rfl, Nat.le_of_ble_eq_true rfl⟩) hD hS hA (fun r9 u9 H locs hw hp hd hs => ?_)
  clear hP hD hS
  obtain ⟨rfl, rfl⟩ := hw
  have hP := hp; have hD := hd; have hS := hs; clear hp hd hs
  cases h
  exact kz_iret hx hb hr hlocks hP hK hD hS dX9_right_6 ⟨rfl, rfl⟩

set_option maxHeartbeats 4000000 in
set_option maxRecDepth 100000 in
theorem qX9_swap_s0 (l : Launch) (D : va_G) (ty : Nat → ClassId) (eo : Nat → Nat) (sz : Nat) (ad : Nat → Nat) (q : dK) (p1 : Int32) (o1 : Int32) (o2 : dK) (h : zX9_swap_s0 q p1 = some (o1, o2)) : Met l yX9_swap wsX9_swap ({ frames := 7, cells := 0, slots := 0, locals := 176 } : Room) (va_Pc [.ref (ad 0), .int p1] (kz_pre D ty eo (wF ty ad q) sz)) (va_Qi (fun (r : Int32) (u : va_W) => o1 = r ∧ wF ty ad o2 = u) (kz_B D ty (va_A (wF ty ad q) sz)) (va_A (wF ty ad q) sz)) 0 0 (va_A (wF ty ad q) sz) := by
  refine Met.ofW (cc := cX9_swap) (maxL := 2) (ret := (some .int)) (by decide) rfl ?_
  intro p e s m args below meth c s₁ B hml hv
  obtain ⟨rfl, hsz, hP, hK, hD0, hN, hE⟩ := hv
  have hx := B.exec
  have hb := B.bytes
  have hr := B.returns
  have hts := atoms_spec (ws := wsX9_swap) B.pre
  have hown : s.vm.findClass RX9 = some m.cls := findClass_of_methodNamed B.named
  have hlocks := B.notSynchronized
  subst hsz
  have hD := hD0.self (sz := s.heap.size)
  generalize hAe : va_A (wF ty ad q) s.heap.size = A at hD hE ⊢
  have hA : ∀ q : Nat, s.heap.size ≤ q → A q := fun q h => by rw [← hAe]; exact Or.inr h
  clear hAe
  have hS : va_S A s.heap s.heap [] := va_S.rf
  have hl := lv_entry ([.ref (ad 0), .int p1]) (n := 2) (Nat.le_of_ble_eq_true rfl)
  rw [lg_entry_eq]
  generalize (lg_sl ([.ref (ad 0), .int p1]) ++ List.replicate (2 - (lg_sl ([.ref (ad 0), .int p1])).length) Slot.unset).toArray = ls at hl ⊢
  have hl : lv_has ls 2 [(0, .ref (ad 0)), (1, .int p1)] := hl
  have C : dc_C p s m _ meth c cX9_swap (some .int) 2 RX9 wsX9_swap D ty eo A := ⟨hx, hb, hr, hts, hown, hlocks, hml, hK, hN, hE, hA⟩
  unfold zX9_swap_s0 at h
  refine lv_aload_n hx hb dX9_swap_0 rfl (lv_at hl 0 rfl) ?_
  refine lv_iconst (v := 2) hx hb dX9_swap_1 (by decide) ?_
  refine lv_iload_n hx hb dX9_swap_2 rfl (lv_at hl 1 rfl) ?_
  obtain ⟨r1, q3, h2, h⟩ := dB_some h
  refine dw_ki (va_runV (As := [.int 2, .int p1]) (rest := []) ⟨hx, hb, hml, hown, hts⟩ (qX9_move_s0 l D ty eo _ ad q 2 p1 r1 q3 h2) (cwV 2 hts gX9_swap_X9_move rfl rfl rfl hd_X9_move_v ⟨Nat.le_of_ble_eq_true rfl, Nat.le_of_ble_eq_true rfl⟩) (pvF_9_0 hK hN hE hP hD hS hA) rfl rfl hl.1 rfl (lv_room (Nat.le_of_ble_eq_true rfl)) dX9_swap_3 ⟨Nat.le_of_ble_eq_true rfl, Nat.le_of_ble_eq_true rfl⟩) hD hS hA (fun r9 u9 H locs hw hp hd hs => ?_)
  clear hP hD hS
  obtain ⟨rfl, rfl⟩ := hw
  have hP := hp; have hD := hd; have hS := hs; clear hp hd hs
  cases h
  exact kz_iret hx hb hr hlocks hP hK hD hS dX9_swap_6 ⟨rfl, rfl⟩
end
section
set_option maxRecDepth 20000 in
theorem ggX3_numberOfOrder_X9_bit : GoodIn wsX3_numberOfOrder wsX9_bit := wd_c vW9_ok mvW9_97
set_option maxRecDepth 20000 in
theorem gX3_numberOfOrder_X9_bit_n133 : GoodIn wsX3_numberOfOrder (wsX9_bit) := ggX3_numberOfOrder_X9_bit
theorem da9_dX3_numberOfOrder_0 : (decode cX3_numberOfOrder 0 = .ok (.iconst 0, 1)) ∧ (decode cX3_numberOfOrder 1 = .ok (.istore_n 1, 1)) ∧ (decode cX3_numberOfOrder 2 = .ok (.iconst 0, 1)) ∧ (decode cX3_numberOfOrder 3 = .ok (.istore_n 2, 1)) ∧ (decode cX3_numberOfOrder 4 = .ok (.iload_n 2, 1)) ∧ (decode cX3_numberOfOrder 5 = .ok (.bipush 6, 2)) ∧ (decode cX3_numberOfOrder 7 = .ok (.if_icmp .ge 63, 3)) ∧ (decode cX3_numberOfOrder 10 = .ok (.iconst 0, 1)) ∧ (decode cX3_numberOfOrder 11 = .ok (.istore_n 3, 1)) ∧ (decode cX3_numberOfOrder 12 = .ok (.iconst 0, 1)) ∧ (decode cX3_numberOfOrder 13 = .ok (.istore 4, 2)) ∧ (decode cX3_numberOfOrder 15 = .ok (.iload 4, 2)) ∧ (decode cX3_numberOfOrder 17 = .ok (.iload_n 2, 1)) ∧ (decode cX3_numberOfOrder 18 = .ok (.if_icmp .ge 36, 3)) ∧ (decode cX3_numberOfOrder 21 = .ok (.iload_n 3, 1)) ∧ (decode cX3_numberOfOrder 22 = .ok (.aload_n 0, 1)) := by decide +kernel
theorem dX3_numberOfOrder_0 : decode cX3_numberOfOrder 0 = .ok (.iconst 0, 1) := da9_dX3_numberOfOrder_0.1
theorem dX3_numberOfOrder_1 : decode cX3_numberOfOrder 1 = .ok (.istore_n 1, 1) := da9_dX3_numberOfOrder_0.2.1
theorem dX3_numberOfOrder_2 : decode cX3_numberOfOrder 2 = .ok (.iconst 0, 1) := da9_dX3_numberOfOrder_0.2.2.1
theorem dX3_numberOfOrder_3 : decode cX3_numberOfOrder 3 = .ok (.istore_n 2, 1) := da9_dX3_numberOfOrder_0.2.2.2.1
theorem dX3_numberOfOrder_4 : decode cX3_numberOfOrder 4 = .ok (.iload_n 2, 1) := da9_dX3_numberOfOrder_0.2.2.2.2.1
theorem dX3_numberOfOrder_5 : decode cX3_numberOfOrder 5 = .ok (.bipush 6, 2) := da9_dX3_numberOfOrder_0.2.2.2.2.2.1
theorem dX3_numberOfOrder_7 : decode cX3_numberOfOrder 7 = .ok (.if_icmp .ge 63, 3) := da9_dX3_numberOfOrder_0.2.2.2.2.2.2.1
theorem dX3_numberOfOrder_10 : decode cX3_numberOfOrder 10 = .ok (.iconst 0, 1) := da9_dX3_numberOfOrder_0.2.2.2.2.2.2.2.1
theorem dX3_numberOfOrder_11 : decode cX3_numberOfOrder 11 = .ok (.istore_n 3, 1) := da9_dX3_numberOfOrder_0.2.2.2.2.2.2.2.2.1
theorem dX3_numberOfOrder_12 : decode cX3_numberOfOrder 12 = .ok (.iconst 0, 1) := da9_dX3_numberOfOrder_0.2.2.2.2.2.2.2.2.2.1
theorem dX3_numberOfOrder_13 : decode cX3_numberOfOrder 13 = .ok (.istore 4, 2) := da9_dX3_numberOfOrder_0.2.2.2.2.2.2.2.2.2.2.1
theorem dX3_numberOfOrder_15 : decode cX3_numberOfOrder 15 = .ok (.iload 4, 2) := da9_dX3_numberOfOrder_0.2.2.2.2.2.2.2.2.2.2.2.1
theorem dX3_numberOfOrder_17 : decode cX3_numberOfOrder 17 = .ok (.iload_n 2, 1) := da9_dX3_numberOfOrder_0.2.2.2.2.2.2.2.2.2.2.2.2.1
theorem dX3_numberOfOrder_18 : decode cX3_numberOfOrder 18 = .ok (.if_icmp .ge 36, 3) := da9_dX3_numberOfOrder_0.2.2.2.2.2.2.2.2.2.2.2.2.2.1
theorem dX3_numberOfOrder_21 : decode cX3_numberOfOrder 21 = .ok (.iload_n 3, 1) := da9_dX3_numberOfOrder_0.2.2.2.2.2.2.2.2.2.2.2.2.2.2.1
theorem dX3_numberOfOrder_22 : decode cX3_numberOfOrder 22 = .ok (.aload_n 0, 1) := da9_dX3_numberOfOrder_0.2.2.2.2.2.2.2.2.2.2.2.2.2.2.2
theorem da9_dX3_numberOfOrder_23 : (decode cX3_numberOfOrder 23 = .ok (.getfield 15, 3)) ∧ (decode cX3_numberOfOrder 26 = .ok (.iload 4, 2)) ∧ (decode cX3_numberOfOrder 28 = .ok (.iaload, 1)) ∧ (decode cX3_numberOfOrder 29 = .ok (.aload_n 0, 1)) ∧ (decode cX3_numberOfOrder 30 = .ok (.getfield 15, 3)) ∧ (decode cX3_numberOfOrder 33 = .ok (.iload_n 2, 1)) ∧ (decode cX3_numberOfOrder 34 = .ok (.iaload, 1)) ∧ (decode cX3_numberOfOrder 35 = .ok (.if_icmp .le 7, 3)) ∧ (decode cX3_numberOfOrder 38 = .ok (.iconst 1, 1)) ∧ (decode cX3_numberOfOrder 39 = .ok (.goto 4, 3)) ∧ (decode cX3_numberOfOrder 42 = .ok (.iconst 0, 1)) ∧ (decode cX3_numberOfOrder 43 = .ok (.invokestatic 133, 3)) ∧ (decode cX3_numberOfOrder 46 = .ok (.iadd, 1)) ∧ (decode cX3_numberOfOrder 47 = .ok (.istore_n 3, 1)) ∧ (decode cX3_numberOfOrder 48 = .ok (.iinc 4 1, 3)) ∧ (decode cX3_numberOfOrder 51 = .ok (.goto (-36), 3)) := by decide +kernel
theorem dX3_numberOfOrder_23 : decode cX3_numberOfOrder 23 = .ok (.getfield 15, 3) := da9_dX3_numberOfOrder_23.1
theorem dX3_numberOfOrder_26 : decode cX3_numberOfOrder 26 = .ok (.iload 4, 2) := da9_dX3_numberOfOrder_23.2.1
theorem dX3_numberOfOrder_28 : decode cX3_numberOfOrder 28 = .ok (.iaload, 1) := da9_dX3_numberOfOrder_23.2.2.1
theorem dX3_numberOfOrder_29 : decode cX3_numberOfOrder 29 = .ok (.aload_n 0, 1) := da9_dX3_numberOfOrder_23.2.2.2.1
theorem dX3_numberOfOrder_30 : decode cX3_numberOfOrder 30 = .ok (.getfield 15, 3) := da9_dX3_numberOfOrder_23.2.2.2.2.1
theorem dX3_numberOfOrder_33 : decode cX3_numberOfOrder 33 = .ok (.iload_n 2, 1) := da9_dX3_numberOfOrder_23.2.2.2.2.2.1
theorem dX3_numberOfOrder_34 : decode cX3_numberOfOrder 34 = .ok (.iaload, 1) := da9_dX3_numberOfOrder_23.2.2.2.2.2.2.1
theorem dX3_numberOfOrder_35 : decode cX3_numberOfOrder 35 = .ok (.if_icmp .le 7, 3) := da9_dX3_numberOfOrder_23.2.2.2.2.2.2.2.1
theorem dX3_numberOfOrder_38 : decode cX3_numberOfOrder 38 = .ok (.iconst 1, 1) := da9_dX3_numberOfOrder_23.2.2.2.2.2.2.2.2.1
theorem dX3_numberOfOrder_39 : decode cX3_numberOfOrder 39 = .ok (.goto 4, 3) := da9_dX3_numberOfOrder_23.2.2.2.2.2.2.2.2.2.1
theorem dX3_numberOfOrder_42 : decode cX3_numberOfOrder 42 = .ok (.iconst 0, 1) := da9_dX3_numberOfOrder_23.2.2.2.2.2.2.2.2.2.2.1
theorem dX3_numberOfOrder_43 : decode cX3_numberOfOrder 43 = .ok (.invokestatic 133, 3) := da9_dX3_numberOfOrder_23.2.2.2.2.2.2.2.2.2.2.2.1
theorem dX3_numberOfOrder_46 : decode cX3_numberOfOrder 46 = .ok (.iadd, 1) := da9_dX3_numberOfOrder_23.2.2.2.2.2.2.2.2.2.2.2.2.1
theorem dX3_numberOfOrder_47 : decode cX3_numberOfOrder 47 = .ok (.istore_n 3, 1) := da9_dX3_numberOfOrder_23.2.2.2.2.2.2.2.2.2.2.2.2.2.1
theorem dX3_numberOfOrder_48 : decode cX3_numberOfOrder 48 = .ok (.iinc 4 1, 3) := da9_dX3_numberOfOrder_23.2.2.2.2.2.2.2.2.2.2.2.2.2.2.1
theorem dX3_numberOfOrder_51 : decode cX3_numberOfOrder 51 = .ok (.goto (-36), 3) := da9_dX3_numberOfOrder_23.2.2.2.2.2.2.2.2.2.2.2.2.2.2.2
theorem da9_dX3_numberOfOrder_54 : (decode cX3_numberOfOrder 54 = .ok (.iload_n 1, 1)) ∧ (decode cX3_numberOfOrder 55 = .ok (.iload_n 3, 1)) ∧ (decode cX3_numberOfOrder 56 = .ok (.getstatic 76, 3)) ∧ (decode cX3_numberOfOrder 59 = .ok (.iload_n 2, 1)) ∧ (decode cX3_numberOfOrder 60 = .ok (.iaload, 1)) ∧ (decode cX3_numberOfOrder 61 = .ok (.imul, 1)) ∧ (decode cX3_numberOfOrder 62 = .ok (.iadd, 1)) ∧ (decode cX3_numberOfOrder 63 = .ok (.istore_n 1, 1)) ∧ (decode cX3_numberOfOrder 64 = .ok (.iinc 2 1, 3)) ∧ (decode cX3_numberOfOrder 67 = .ok (.goto (-63), 3)) ∧ (decode cX3_numberOfOrder 70 = .ok (.iload_n 1, 1)) ∧ (decode cX3_numberOfOrder 71 = .ok (.ireturn, 1)) := by decide +kernel
theorem dX3_numberOfOrder_54 : decode cX3_numberOfOrder 54 = .ok (.iload_n 1, 1) := da9_dX3_numberOfOrder_54.1
theorem dX3_numberOfOrder_55 : decode cX3_numberOfOrder 55 = .ok (.iload_n 3, 1) := da9_dX3_numberOfOrder_54.2.1
theorem dX3_numberOfOrder_56 : decode cX3_numberOfOrder 56 = .ok (.getstatic 76, 3) := da9_dX3_numberOfOrder_54.2.2.1
theorem dX3_numberOfOrder_59 : decode cX3_numberOfOrder 59 = .ok (.iload_n 2, 1) := da9_dX3_numberOfOrder_54.2.2.2.1
theorem dX3_numberOfOrder_60 : decode cX3_numberOfOrder 60 = .ok (.iaload, 1) := da9_dX3_numberOfOrder_54.2.2.2.2.1
theorem dX3_numberOfOrder_61 : decode cX3_numberOfOrder 61 = .ok (.imul, 1) := da9_dX3_numberOfOrder_54.2.2.2.2.2.1
theorem dX3_numberOfOrder_62 : decode cX3_numberOfOrder 62 = .ok (.iadd, 1) := da9_dX3_numberOfOrder_54.2.2.2.2.2.2.1
theorem dX3_numberOfOrder_63 : decode cX3_numberOfOrder 63 = .ok (.istore_n 1, 1) := da9_dX3_numberOfOrder_54.2.2.2.2.2.2.2.1
theorem dX3_numberOfOrder_64 : decode cX3_numberOfOrder 64 = .ok (.iinc 2 1, 3) := da9_dX3_numberOfOrder_54.2.2.2.2.2.2.2.2.1
theorem dX3_numberOfOrder_67 : decode cX3_numberOfOrder 67 = .ok (.goto (-63), 3) := da9_dX3_numberOfOrder_54.2.2.2.2.2.2.2.2.2.1
theorem dX3_numberOfOrder_70 : decode cX3_numberOfOrder 70 = .ok (.iload_n 1, 1) := da9_dX3_numberOfOrder_54.2.2.2.2.2.2.2.2.2.2.1
theorem dX3_numberOfOrder_71 : decode cX3_numberOfOrder 71 = .ok (.ireturn, 1) := da9_dX3_numberOfOrder_54.2.2.2.2.2.2.2.2.2.2.2
set_option maxRecDepth 20000 in
theorem ggX3_setDigits_X9_bit : GoodIn wsX3_setDigits wsX9_bit := wd_c vW9_ok mvW9_97
set_option maxRecDepth 20000 in
theorem gX3_setDigits_X9_bit_n133 : GoodIn wsX3_setDigits (wsX9_bit) := ggX3_setDigits_X9_bit
theorem da9_dX3_setDigits_0 : (decode cX3_setDigits 0 = .ok (.iconst 0, 1)) ∧ (decode cX3_setDigits 1 = .ok (.istore_n 2, 1)) ∧ (decode cX3_setDigits 2 = .ok (.iload_n 2, 1)) ∧ (decode cX3_setDigits 3 = .ok (.bipush 6, 2)) ∧ (decode cX3_setDigits 5 = .ok (.if_icmp .ge 74, 3)) ∧ (decode cX3_setDigits 8 = .ok (.iload_n 2, 1)) ∧ (decode cX3_setDigits 9 = .ok (.iload_n 1, 1)) ∧ (decode cX3_setDigits 10 = .ok (.getstatic 76, 3)) ∧ (decode cX3_setDigits 13 = .ok (.iload_n 2, 1)) ∧ (decode cX3_setDigits 14 = .ok (.iaload, 1)) ∧ (decode cX3_setDigits 15 = .ok (.idiv, 1)) ∧ (decode cX3_setDigits 16 = .ok (.iload_n 2, 1)) ∧ (decode cX3_setDigits 17 = .ok (.iconst 1, 1)) ∧ (decode cX3_setDigits 18 = .ok (.iadd, 1)) ∧ (decode cX3_setDigits 19 = .ok (.irem, 1)) ∧ (decode cX3_setDigits 20 = .ok (.isub, 1)) := by decide +kernel
theorem dX3_setDigits_0 : decode cX3_setDigits 0 = .ok (.iconst 0, 1) := da9_dX3_setDigits_0.1
theorem dX3_setDigits_1 : decode cX3_setDigits 1 = .ok (.istore_n 2, 1) := da9_dX3_setDigits_0.2.1
theorem dX3_setDigits_2 : decode cX3_setDigits 2 = .ok (.iload_n 2, 1) := da9_dX3_setDigits_0.2.2.1
theorem dX3_setDigits_3 : decode cX3_setDigits 3 = .ok (.bipush 6, 2) := da9_dX3_setDigits_0.2.2.2.1
theorem dX3_setDigits_5 : decode cX3_setDigits 5 = .ok (.if_icmp .ge 74, 3) := da9_dX3_setDigits_0.2.2.2.2.1
theorem dX3_setDigits_8 : decode cX3_setDigits 8 = .ok (.iload_n 2, 1) := da9_dX3_setDigits_0.2.2.2.2.2.1
theorem dX3_setDigits_9 : decode cX3_setDigits 9 = .ok (.iload_n 1, 1) := da9_dX3_setDigits_0.2.2.2.2.2.2.1
theorem dX3_setDigits_10 : decode cX3_setDigits 10 = .ok (.getstatic 76, 3) := da9_dX3_setDigits_0.2.2.2.2.2.2.2.1
theorem dX3_setDigits_13 : decode cX3_setDigits 13 = .ok (.iload_n 2, 1) := da9_dX3_setDigits_0.2.2.2.2.2.2.2.2.1
theorem dX3_setDigits_14 : decode cX3_setDigits 14 = .ok (.iaload, 1) := da9_dX3_setDigits_0.2.2.2.2.2.2.2.2.2.1
theorem dX3_setDigits_15 : decode cX3_setDigits 15 = .ok (.idiv, 1) := da9_dX3_setDigits_0.2.2.2.2.2.2.2.2.2.2.1
theorem dX3_setDigits_16 : decode cX3_setDigits 16 = .ok (.iload_n 2, 1) := da9_dX3_setDigits_0.2.2.2.2.2.2.2.2.2.2.2.1
theorem dX3_setDigits_17 : decode cX3_setDigits 17 = .ok (.iconst 1, 1) := da9_dX3_setDigits_0.2.2.2.2.2.2.2.2.2.2.2.2.1
theorem dX3_setDigits_18 : decode cX3_setDigits 18 = .ok (.iadd, 1) := da9_dX3_setDigits_0.2.2.2.2.2.2.2.2.2.2.2.2.2.1
theorem dX3_setDigits_19 : decode cX3_setDigits 19 = .ok (.irem, 1) := da9_dX3_setDigits_0.2.2.2.2.2.2.2.2.2.2.2.2.2.2.1
theorem dX3_setDigits_20 : decode cX3_setDigits 20 = .ok (.isub, 1) := da9_dX3_setDigits_0.2.2.2.2.2.2.2.2.2.2.2.2.2.2.2
theorem da9_dX3_setDigits_21 : (decode cX3_setDigits 21 = .ok (.istore_n 3, 1)) ∧ (decode cX3_setDigits 22 = .ok (.iconst 0, 1)) ∧ (decode cX3_setDigits 23 = .ok (.istore 4, 2)) ∧ (decode cX3_setDigits 25 = .ok (.iload 4, 2)) ∧ (decode cX3_setDigits 27 = .ok (.iload_n 2, 1)) ∧ (decode cX3_setDigits 28 = .ok (.if_icmp .ge 38, 3)) ∧ (decode cX3_setDigits 31 = .ok (.aload_n 0, 1)) ∧ (decode cX3_setDigits 32 = .ok (.getfield 15, 3)) ∧ (decode cX3_setDigits 35 = .ok (.iload 4, 2)) ∧ (decode cX3_setDigits 37 = .ok (.dup2, 1)) ∧ (decode cX3_setDigits 38 = .ok (.iaload, 1)) ∧ (decode cX3_setDigits 39 = .ok (.aload_n 0, 1)) ∧ (decode cX3_setDigits 40 = .ok (.getfield 15, 3)) ∧ (decode cX3_setDigits 43 = .ok (.iload 4, 2)) ∧ (decode cX3_setDigits 45 = .ok (.iaload, 1)) ∧ (decode cX3_setDigits 46 = .ok (.iload_n 3, 1)) := by decide +kernel
theorem dX3_setDigits_21 : decode cX3_setDigits 21 = .ok (.istore_n 3, 1) := da9_dX3_setDigits_21.1
theorem dX3_setDigits_22 : decode cX3_setDigits 22 = .ok (.iconst 0, 1) := da9_dX3_setDigits_21.2.1
theorem dX3_setDigits_23 : decode cX3_setDigits 23 = .ok (.istore 4, 2) := da9_dX3_setDigits_21.2.2.1
theorem dX3_setDigits_25 : decode cX3_setDigits 25 = .ok (.iload 4, 2) := da9_dX3_setDigits_21.2.2.2.1
theorem dX3_setDigits_27 : decode cX3_setDigits 27 = .ok (.iload_n 2, 1) := da9_dX3_setDigits_21.2.2.2.2.1
theorem dX3_setDigits_28 : decode cX3_setDigits 28 = .ok (.if_icmp .ge 38, 3) := da9_dX3_setDigits_21.2.2.2.2.2.1
theorem dX3_setDigits_31 : decode cX3_setDigits 31 = .ok (.aload_n 0, 1) := da9_dX3_setDigits_21.2.2.2.2.2.2.1
theorem dX3_setDigits_32 : decode cX3_setDigits 32 = .ok (.getfield 15, 3) := da9_dX3_setDigits_21.2.2.2.2.2.2.2.1
theorem dX3_setDigits_35 : decode cX3_setDigits 35 = .ok (.iload 4, 2) := da9_dX3_setDigits_21.2.2.2.2.2.2.2.2.1
theorem dX3_setDigits_37 : decode cX3_setDigits 37 = .ok (.dup2, 1) := da9_dX3_setDigits_21.2.2.2.2.2.2.2.2.2.1
theorem dX3_setDigits_38 : decode cX3_setDigits 38 = .ok (.iaload, 1) := da9_dX3_setDigits_21.2.2.2.2.2.2.2.2.2.2.1
theorem dX3_setDigits_39 : decode cX3_setDigits 39 = .ok (.aload_n 0, 1) := da9_dX3_setDigits_21.2.2.2.2.2.2.2.2.2.2.2.1
theorem dX3_setDigits_40 : decode cX3_setDigits 40 = .ok (.getfield 15, 3) := da9_dX3_setDigits_21.2.2.2.2.2.2.2.2.2.2.2.2.1
theorem dX3_setDigits_43 : decode cX3_setDigits 43 = .ok (.iload 4, 2) := da9_dX3_setDigits_21.2.2.2.2.2.2.2.2.2.2.2.2.2.1
theorem dX3_setDigits_45 : decode cX3_setDigits 45 = .ok (.iaload, 1) := da9_dX3_setDigits_21.2.2.2.2.2.2.2.2.2.2.2.2.2.2.1
theorem dX3_setDigits_46 : decode cX3_setDigits 46 = .ok (.iload_n 3, 1) := da9_dX3_setDigits_21.2.2.2.2.2.2.2.2.2.2.2.2.2.2.2
theorem da9_dX3_setDigits_47 : (decode cX3_setDigits 47 = .ok (.if_icmp .lt 7, 3)) ∧ (decode cX3_setDigits 50 = .ok (.iconst 1, 1)) ∧ (decode cX3_setDigits 51 = .ok (.goto 4, 3)) ∧ (decode cX3_setDigits 54 = .ok (.iconst 0, 1)) ∧ (decode cX3_setDigits 55 = .ok (.invokestatic 133, 3)) ∧ (decode cX3_setDigits 58 = .ok (.iadd, 1)) ∧ (decode cX3_setDigits 59 = .ok (.iastore, 1)) ∧ (decode cX3_setDigits 60 = .ok (.iinc 4 1, 3)) ∧ (decode cX3_setDigits 63 = .ok (.goto (-38), 3)) ∧ (decode cX3_setDigits 66 = .ok (.aload_n 0, 1)) ∧ (decode cX3_setDigits 67 = .ok (.getfield 15, 3)) ∧ (decode cX3_setDigits 70 = .ok (.iload_n 2, 1)) ∧ (decode cX3_setDigits 71 = .ok (.iload_n 3, 1)) ∧ (decode cX3_setDigits 72 = .ok (.iastore, 1)) ∧ (decode cX3_setDigits 73 = .ok (.iinc 2 1, 3)) ∧ (decode cX3_setDigits 76 = .ok (.goto (-74), 3)) := by decide +kernel
theorem dX3_setDigits_47 : decode cX3_setDigits 47 = .ok (.if_icmp .lt 7, 3) := da9_dX3_setDigits_47.1
theorem dX3_setDigits_50 : decode cX3_setDigits 50 = .ok (.iconst 1, 1) := da9_dX3_setDigits_47.2.1
theorem dX3_setDigits_51 : decode cX3_setDigits 51 = .ok (.goto 4, 3) := da9_dX3_setDigits_47.2.2.1
theorem dX3_setDigits_54 : decode cX3_setDigits 54 = .ok (.iconst 0, 1) := da9_dX3_setDigits_47.2.2.2.1
theorem dX3_setDigits_55 : decode cX3_setDigits 55 = .ok (.invokestatic 133, 3) := da9_dX3_setDigits_47.2.2.2.2.1
theorem dX3_setDigits_58 : decode cX3_setDigits 58 = .ok (.iadd, 1) := da9_dX3_setDigits_47.2.2.2.2.2.1
theorem dX3_setDigits_59 : decode cX3_setDigits 59 = .ok (.iastore, 1) := da9_dX3_setDigits_47.2.2.2.2.2.2.1
theorem dX3_setDigits_60 : decode cX3_setDigits 60 = .ok (.iinc 4 1, 3) := da9_dX3_setDigits_47.2.2.2.2.2.2.2.1
theorem dX3_setDigits_63 : decode cX3_setDigits 63 = .ok (.goto (-38), 3) := da9_dX3_setDigits_47.2.2.2.2.2.2.2.2.1
theorem dX3_setDigits_66 : decode cX3_setDigits 66 = .ok (.aload_n 0, 1) := da9_dX3_setDigits_47.2.2.2.2.2.2.2.2.2.1
theorem dX3_setDigits_67 : decode cX3_setDigits 67 = .ok (.getfield 15, 3) := da9_dX3_setDigits_47.2.2.2.2.2.2.2.2.2.2.1
theorem dX3_setDigits_70 : decode cX3_setDigits 70 = .ok (.iload_n 2, 1) := da9_dX3_setDigits_47.2.2.2.2.2.2.2.2.2.2.2.1
theorem dX3_setDigits_71 : decode cX3_setDigits 71 = .ok (.iload_n 3, 1) := da9_dX3_setDigits_47.2.2.2.2.2.2.2.2.2.2.2.2.1
theorem dX3_setDigits_72 : decode cX3_setDigits 72 = .ok (.iastore, 1) := da9_dX3_setDigits_47.2.2.2.2.2.2.2.2.2.2.2.2.2.1
theorem dX3_setDigits_73 : decode cX3_setDigits 73 = .ok (.iinc 2 1, 3) := da9_dX3_setDigits_47.2.2.2.2.2.2.2.2.2.2.2.2.2.2.1
theorem dX3_setDigits_76 : decode cX3_setDigits 76 = .ok (.goto (-74), 3) := da9_dX3_setDigits_47.2.2.2.2.2.2.2.2.2.2.2.2.2.2.2
theorem dX3_setDigits_79 : decode cX3_setDigits 79 = .ok (.return_, 1) := by decide +kernel
set_option maxRecDepth 20000 in
theorem ggX3_listOrder_X3_setDigits : GoodIn wsX3_listOrder wsX3_setDigits := wd_c vW9_ok mvW9_490
set_option maxRecDepth 20000 in
theorem gX3_listOrder_X3_setDigits : GoodIn wsX3_listOrder (wsV RX3 197 RX3 yX3_setDigits wsX3_setDigits) := goodIn_app (wd_l vW9_ok _ pvW9_34) ggX3_listOrder_X3_setDigits
set_option maxRecDepth 20000 in
theorem ggX3_listOrder_X3_numberOfOrder : GoodIn wsX3_listOrder wsX3_numberOfOrder := wd_c vW9_ok mvW9_494
set_option maxRecDepth 20000 in
theorem gX3_listOrder_X3_numberOfOrder : GoodIn wsX3_listOrder (wsV RX3 96 RX3 yX3_numberOfOrder wsX3_numberOfOrder) := goodIn_app (wd_l vW9_ok _ pvW9_12) ggX3_listOrder_X3_numberOfOrder
theorem da9_dX3_listOrder_0 : (decode cX3_listOrder 0 = .ok (.aload_n 0, 1)) ∧ (decode cX3_listOrder 1 = .ok (.iload_n 1, 1)) ∧ (decode cX3_listOrder 2 = .ok (.invokevirtual 197, 3)) ∧ (decode cX3_listOrder 5 = .ok (.iconst 0, 1)) ∧ (decode cX3_listOrder 6 = .ok (.istore_n 2, 1)) ∧ (decode cX3_listOrder 7 = .ok (.iload_n 2, 1)) ∧ (decode cX3_listOrder 8 = .ok (.bipush 6, 2)) ∧ (decode cX3_listOrder 10 = .ok (.if_icmp .ge 28, 3)) ∧ (decode cX3_listOrder 13 = .ok (.aload_n 0, 1)) ∧ (decode cX3_listOrder 14 = .ok (.getfield 30, 3)) ∧ (decode cX3_listOrder 17 = .ok (.iload_n 1, 1)) ∧ (decode cX3_listOrder 18 = .ok (.dup2, 1)) ∧ (decode cX3_listOrder 19 = .ok (.iaload, 1)) ∧ (decode cX3_listOrder 20 = .ok (.aload_n 0, 1)) ∧ (decode cX3_listOrder 21 = .ok (.getfield 15, 3)) ∧ (decode cX3_listOrder 24 = .ok (.iload_n 2, 1)) := by decide +kernel
theorem dX3_listOrder_0 : decode cX3_listOrder 0 = .ok (.aload_n 0, 1) := da9_dX3_listOrder_0.1
theorem dX3_listOrder_1 : decode cX3_listOrder 1 = .ok (.iload_n 1, 1) := da9_dX3_listOrder_0.2.1
theorem dX3_listOrder_2 : decode cX3_listOrder 2 = .ok (.invokevirtual 197, 3) := da9_dX3_listOrder_0.2.2.1
theorem dX3_listOrder_5 : decode cX3_listOrder 5 = .ok (.iconst 0, 1) := da9_dX3_listOrder_0.2.2.2.1
theorem dX3_listOrder_6 : decode cX3_listOrder 6 = .ok (.istore_n 2, 1) := da9_dX3_listOrder_0.2.2.2.2.1
theorem dX3_listOrder_7 : decode cX3_listOrder 7 = .ok (.iload_n 2, 1) := da9_dX3_listOrder_0.2.2.2.2.2.1
theorem dX3_listOrder_8 : decode cX3_listOrder 8 = .ok (.bipush 6, 2) := da9_dX3_listOrder_0.2.2.2.2.2.2.1
theorem dX3_listOrder_10 : decode cX3_listOrder 10 = .ok (.if_icmp .ge 28, 3) := da9_dX3_listOrder_0.2.2.2.2.2.2.2.1
theorem dX3_listOrder_13 : decode cX3_listOrder 13 = .ok (.aload_n 0, 1) := da9_dX3_listOrder_0.2.2.2.2.2.2.2.2.1
theorem dX3_listOrder_14 : decode cX3_listOrder 14 = .ok (.getfield 30, 3) := da9_dX3_listOrder_0.2.2.2.2.2.2.2.2.2.1
theorem dX3_listOrder_17 : decode cX3_listOrder 17 = .ok (.iload_n 1, 1) := da9_dX3_listOrder_0.2.2.2.2.2.2.2.2.2.2.1
theorem dX3_listOrder_18 : decode cX3_listOrder 18 = .ok (.dup2, 1) := da9_dX3_listOrder_0.2.2.2.2.2.2.2.2.2.2.2.1
theorem dX3_listOrder_19 : decode cX3_listOrder 19 = .ok (.iaload, 1) := da9_dX3_listOrder_0.2.2.2.2.2.2.2.2.2.2.2.2.1
theorem dX3_listOrder_20 : decode cX3_listOrder 20 = .ok (.aload_n 0, 1) := da9_dX3_listOrder_0.2.2.2.2.2.2.2.2.2.2.2.2.2.1
theorem dX3_listOrder_21 : decode cX3_listOrder 21 = .ok (.getfield 15, 3) := da9_dX3_listOrder_0.2.2.2.2.2.2.2.2.2.2.2.2.2.2.1
theorem dX3_listOrder_24 : decode cX3_listOrder 24 = .ok (.iload_n 2, 1) := da9_dX3_listOrder_0.2.2.2.2.2.2.2.2.2.2.2.2.2.2.2
theorem da9_dX3_listOrder_25 : (decode cX3_listOrder 25 = .ok (.iaload, 1)) ∧ (decode cX3_listOrder 26 = .ok (.iconst 3, 1)) ∧ (decode cX3_listOrder 27 = .ok (.iload_n 2, 1)) ∧ (decode cX3_listOrder 28 = .ok (.imul, 1)) ∧ (decode cX3_listOrder 29 = .ok (.ishl, 1)) ∧ (decode cX3_listOrder 30 = .ok (.ior, 1)) ∧ (decode cX3_listOrder 31 = .ok (.iastore, 1)) ∧ (decode cX3_listOrder 32 = .ok (.iinc 2 1, 3)) ∧ (decode cX3_listOrder 35 = .ok (.goto (-28), 3)) ∧ (decode cX3_listOrder 38 = .ok (.iconst 1, 1)) ∧ (decode cX3_listOrder 39 = .ok (.istore_n 2, 1)) ∧ (decode cX3_listOrder 40 = .ok (.iload_n 2, 1)) ∧ (decode cX3_listOrder 41 = .ok (.aload_n 0, 1)) ∧ (decode cX3_listOrder 42 = .ok (.getfield 51, 3)) ∧ (decode cX3_listOrder 45 = .ok (.if_icmp .gt 83, 3)) ∧ (decode cX3_listOrder 48 = .ok (.aload_n 0, 1)) := by decide +kernel
theorem dX3_listOrder_25 : decode cX3_listOrder 25 = .ok (.iaload, 1) := da9_dX3_listOrder_25.1
theorem dX3_listOrder_26 : decode cX3_listOrder 26 = .ok (.iconst 3, 1) := da9_dX3_listOrder_25.2.1
theorem dX3_listOrder_27 : decode cX3_listOrder 27 = .ok (.iload_n 2, 1) := da9_dX3_listOrder_25.2.2.1
theorem dX3_listOrder_28 : decode cX3_listOrder 28 = .ok (.imul, 1) := da9_dX3_listOrder_25.2.2.2.1
theorem dX3_listOrder_29 : decode cX3_listOrder 29 = .ok (.ishl, 1) := da9_dX3_listOrder_25.2.2.2.2.1
theorem dX3_listOrder_30 : decode cX3_listOrder 30 = .ok (.ior, 1) := da9_dX3_listOrder_25.2.2.2.2.2.1
theorem dX3_listOrder_31 : decode cX3_listOrder 31 = .ok (.iastore, 1) := da9_dX3_listOrder_25.2.2.2.2.2.2.1
theorem dX3_listOrder_32 : decode cX3_listOrder 32 = .ok (.iinc 2 1, 3) := da9_dX3_listOrder_25.2.2.2.2.2.2.2.1
theorem dX3_listOrder_35 : decode cX3_listOrder 35 = .ok (.goto (-28), 3) := da9_dX3_listOrder_25.2.2.2.2.2.2.2.2.1
theorem dX3_listOrder_38 : decode cX3_listOrder 38 = .ok (.iconst 1, 1) := da9_dX3_listOrder_25.2.2.2.2.2.2.2.2.2.1
theorem dX3_listOrder_39 : decode cX3_listOrder 39 = .ok (.istore_n 2, 1) := da9_dX3_listOrder_25.2.2.2.2.2.2.2.2.2.2.1
theorem dX3_listOrder_40 : decode cX3_listOrder 40 = .ok (.iload_n 2, 1) := da9_dX3_listOrder_25.2.2.2.2.2.2.2.2.2.2.2.1
theorem dX3_listOrder_41 : decode cX3_listOrder 41 = .ok (.aload_n 0, 1) := da9_dX3_listOrder_25.2.2.2.2.2.2.2.2.2.2.2.2.1
theorem dX3_listOrder_42 : decode cX3_listOrder 42 = .ok (.getfield 51, 3) := da9_dX3_listOrder_25.2.2.2.2.2.2.2.2.2.2.2.2.2.1
theorem dX3_listOrder_45 : decode cX3_listOrder 45 = .ok (.if_icmp .gt 83, 3) := da9_dX3_listOrder_25.2.2.2.2.2.2.2.2.2.2.2.2.2.2.1
theorem dX3_listOrder_48 : decode cX3_listOrder 48 = .ok (.aload_n 0, 1) := da9_dX3_listOrder_25.2.2.2.2.2.2.2.2.2.2.2.2.2.2.2
theorem da9_dX3_listOrder_49 : (decode cX3_listOrder 49 = .ok (.iload_n 1, 1)) ∧ (decode cX3_listOrder 50 = .ok (.invokevirtual 197, 3)) ∧ (decode cX3_listOrder 53 = .ok (.iconst 0, 1)) ∧ (decode cX3_listOrder 54 = .ok (.istore_n 3, 1)) ∧ (decode cX3_listOrder 55 = .ok (.iload_n 2, 1)) ∧ (decode cX3_listOrder 56 = .ok (.iconst 1, 1)) ∧ (decode cX3_listOrder 57 = .ok (.isub, 1)) ∧ (decode cX3_listOrder 58 = .ok (.istore 4, 2)) ∧ (decode cX3_listOrder 60 = .ok (.iload_n 3, 1)) ∧ (decode cX3_listOrder 61 = .ok (.iload 4, 2)) ∧ (decode cX3_listOrder 63 = .ok (.if_icmp .ge 42, 3)) ∧ (decode cX3_listOrder 66 = .ok (.aload_n 0, 1)) ∧ (decode cX3_listOrder 67 = .ok (.getfield 15, 3)) ∧ (decode cX3_listOrder 70 = .ok (.iload_n 3, 1)) ∧ (decode cX3_listOrder 71 = .ok (.iaload, 1)) ∧ (decode cX3_listOrder 72 = .ok (.istore 5, 2)) := by decide +kernel
theorem dX3_listOrder_49 : decode cX3_listOrder 49 = .ok (.iload_n 1, 1) := da9_dX3_listOrder_49.1
theorem dX3_listOrder_50 : decode cX3_listOrder 50 = .ok (.invokevirtual 197, 3) := da9_dX3_listOrder_49.2.1
theorem dX3_listOrder_53 : decode cX3_listOrder 53 = .ok (.iconst 0, 1) := da9_dX3_listOrder_49.2.2.1
theorem dX3_listOrder_54 : decode cX3_listOrder 54 = .ok (.istore_n 3, 1) := da9_dX3_listOrder_49.2.2.2.1
theorem dX3_listOrder_55 : decode cX3_listOrder 55 = .ok (.iload_n 2, 1) := da9_dX3_listOrder_49.2.2.2.2.1
theorem dX3_listOrder_56 : decode cX3_listOrder 56 = .ok (.iconst 1, 1) := da9_dX3_listOrder_49.2.2.2.2.2.1
theorem dX3_listOrder_57 : decode cX3_listOrder 57 = .ok (.isub, 1) := da9_dX3_listOrder_49.2.2.2.2.2.2.1
theorem dX3_listOrder_58 : decode cX3_listOrder 58 = .ok (.istore 4, 2) := da9_dX3_listOrder_49.2.2.2.2.2.2.2.1
theorem dX3_listOrder_60 : decode cX3_listOrder 60 = .ok (.iload_n 3, 1) := da9_dX3_listOrder_49.2.2.2.2.2.2.2.2.1
theorem dX3_listOrder_61 : decode cX3_listOrder 61 = .ok (.iload 4, 2) := da9_dX3_listOrder_49.2.2.2.2.2.2.2.2.2.1
theorem dX3_listOrder_63 : decode cX3_listOrder 63 = .ok (.if_icmp .ge 42, 3) := da9_dX3_listOrder_49.2.2.2.2.2.2.2.2.2.2.1
theorem dX3_listOrder_66 : decode cX3_listOrder 66 = .ok (.aload_n 0, 1) := da9_dX3_listOrder_49.2.2.2.2.2.2.2.2.2.2.2.1
theorem dX3_listOrder_67 : decode cX3_listOrder 67 = .ok (.getfield 15, 3) := da9_dX3_listOrder_49.2.2.2.2.2.2.2.2.2.2.2.2.1
theorem dX3_listOrder_70 : decode cX3_listOrder 70 = .ok (.iload_n 3, 1) := da9_dX3_listOrder_49.2.2.2.2.2.2.2.2.2.2.2.2.2.1
theorem dX3_listOrder_71 : decode cX3_listOrder 71 = .ok (.iaload, 1) := da9_dX3_listOrder_49.2.2.2.2.2.2.2.2.2.2.2.2.2.2.1
theorem dX3_listOrder_72 : decode cX3_listOrder 72 = .ok (.istore 5, 2) := da9_dX3_listOrder_49.2.2.2.2.2.2.2.2.2.2.2.2.2.2.2
theorem da9_dX3_listOrder_74 : (decode cX3_listOrder 74 = .ok (.aload_n 0, 1)) ∧ (decode cX3_listOrder 75 = .ok (.getfield 15, 3)) ∧ (decode cX3_listOrder 78 = .ok (.iload_n 3, 1)) ∧ (decode cX3_listOrder 79 = .ok (.aload_n 0, 1)) ∧ (decode cX3_listOrder 80 = .ok (.getfield 15, 3)) ∧ (decode cX3_listOrder 83 = .ok (.iload 4, 2)) ∧ (decode cX3_listOrder 85 = .ok (.iaload, 1)) ∧ (decode cX3_listOrder 86 = .ok (.iastore, 1)) ∧ (decode cX3_listOrder 87 = .ok (.aload_n 0, 1)) ∧ (decode cX3_listOrder 88 = .ok (.getfield 15, 3)) ∧ (decode cX3_listOrder 91 = .ok (.iload 4, 2)) ∧ (decode cX3_listOrder 93 = .ok (.iload 5, 2)) ∧ (decode cX3_listOrder 95 = .ok (.iastore, 1)) ∧ (decode cX3_listOrder 96 = .ok (.iinc 3 1, 3)) ∧ (decode cX3_listOrder 99 = .ok (.iinc 4 (-1), 3)) ∧ (decode cX3_listOrder 102 = .ok (.goto (-42), 3)) := by decide +kernel
theorem dX3_listOrder_74 : decode cX3_listOrder 74 = .ok (.aload_n 0, 1) := da9_dX3_listOrder_74.1
theorem dX3_listOrder_75 : decode cX3_listOrder 75 = .ok (.getfield 15, 3) := da9_dX3_listOrder_74.2.1
theorem dX3_listOrder_78 : decode cX3_listOrder 78 = .ok (.iload_n 3, 1) := da9_dX3_listOrder_74.2.2.1
theorem dX3_listOrder_79 : decode cX3_listOrder 79 = .ok (.aload_n 0, 1) := da9_dX3_listOrder_74.2.2.2.1
theorem dX3_listOrder_80 : decode cX3_listOrder 80 = .ok (.getfield 15, 3) := da9_dX3_listOrder_74.2.2.2.2.1
theorem dX3_listOrder_83 : decode cX3_listOrder 83 = .ok (.iload 4, 2) := da9_dX3_listOrder_74.2.2.2.2.2.1
theorem dX3_listOrder_85 : decode cX3_listOrder 85 = .ok (.iaload, 1) := da9_dX3_listOrder_74.2.2.2.2.2.2.1
theorem dX3_listOrder_86 : decode cX3_listOrder 86 = .ok (.iastore, 1) := da9_dX3_listOrder_74.2.2.2.2.2.2.2.1
theorem dX3_listOrder_87 : decode cX3_listOrder 87 = .ok (.aload_n 0, 1) := da9_dX3_listOrder_74.2.2.2.2.2.2.2.2.1
theorem dX3_listOrder_88 : decode cX3_listOrder 88 = .ok (.getfield 15, 3) := da9_dX3_listOrder_74.2.2.2.2.2.2.2.2.2.1
theorem dX3_listOrder_91 : decode cX3_listOrder 91 = .ok (.iload 4, 2) := da9_dX3_listOrder_74.2.2.2.2.2.2.2.2.2.2.1
theorem dX3_listOrder_93 : decode cX3_listOrder 93 = .ok (.iload 5, 2) := da9_dX3_listOrder_74.2.2.2.2.2.2.2.2.2.2.2.1
theorem dX3_listOrder_95 : decode cX3_listOrder 95 = .ok (.iastore, 1) := da9_dX3_listOrder_74.2.2.2.2.2.2.2.2.2.2.2.2.1
theorem dX3_listOrder_96 : decode cX3_listOrder 96 = .ok (.iinc 3 1, 3) := da9_dX3_listOrder_74.2.2.2.2.2.2.2.2.2.2.2.2.2.1
theorem dX3_listOrder_99 : decode cX3_listOrder 99 = .ok (.iinc 4 (-1), 3) := da9_dX3_listOrder_74.2.2.2.2.2.2.2.2.2.2.2.2.2.2.1
theorem dX3_listOrder_102 : decode cX3_listOrder 102 = .ok (.goto (-42), 3) := da9_dX3_listOrder_74.2.2.2.2.2.2.2.2.2.2.2.2.2.2.2
theorem da9_dX3_listOrder_105 : (decode cX3_listOrder 105 = .ok (.aload_n 0, 1)) ∧ (decode cX3_listOrder 106 = .ok (.getfield 33, 3)) ∧ (decode cX3_listOrder 109 = .ok (.iload_n 1, 1)) ∧ (decode cX3_listOrder 110 = .ok (.bipush 6, 2)) ∧ (decode cX3_listOrder 112 = .ok (.imul, 1)) ∧ (decode cX3_listOrder 113 = .ok (.iload_n 2, 1)) ∧ (decode cX3_listOrder 114 = .ok (.iadd, 1)) ∧ (decode cX3_listOrder 115 = .ok (.iconst 1, 1)) ∧ (decode cX3_listOrder 116 = .ok (.isub, 1)) ∧ (decode cX3_listOrder 117 = .ok (.aload_n 0, 1)) ∧ (decode cX3_listOrder 118 = .ok (.invokevirtual 96, 3)) ∧ (decode cX3_listOrder 121 = .ok (.iastore, 1)) ∧ (decode cX3_listOrder 122 = .ok (.iinc 2 1, 3)) ∧ (decode cX3_listOrder 125 = .ok (.goto (-85), 3)) ∧ (decode cX3_listOrder 128 = .ok (.return_, 1)) := by decide +kernel
theorem dX3_listOrder_105 : decode cX3_listOrder 105 = .ok (.aload_n 0, 1) := da9_dX3_listOrder_105.1
theorem dX3_listOrder_106 : decode cX3_listOrder 106 = .ok (.getfield 33, 3) := da9_dX3_listOrder_105.2.1
theorem dX3_listOrder_109 : decode cX3_listOrder 109 = .ok (.iload_n 1, 1) := da9_dX3_listOrder_105.2.2.1
theorem dX3_listOrder_110 : decode cX3_listOrder 110 = .ok (.bipush 6, 2) := da9_dX3_listOrder_105.2.2.2.1
theorem dX3_listOrder_112 : decode cX3_listOrder 112 = .ok (.imul, 1) := da9_dX3_listOrder_105.2.2.2.2.1
theorem dX3_listOrder_113 : decode cX3_listOrder 113 = .ok (.iload_n 2, 1) := da9_dX3_listOrder_105.2.2.2.2.2.1
theorem dX3_listOrder_114 : decode cX3_listOrder 114 = .ok (.iadd, 1) := da9_dX3_listOrder_105.2.2.2.2.2.2.1
theorem dX3_listOrder_115 : decode cX3_listOrder 115 = .ok (.iconst 1, 1) := da9_dX3_listOrder_105.2.2.2.2.2.2.2.1
theorem dX3_listOrder_116 : decode cX3_listOrder 116 = .ok (.isub, 1) := da9_dX3_listOrder_105.2.2.2.2.2.2.2.2.1
theorem dX3_listOrder_117 : decode cX3_listOrder 117 = .ok (.aload_n 0, 1) := da9_dX3_listOrder_105.2.2.2.2.2.2.2.2.2.1
theorem dX3_listOrder_118 : decode cX3_listOrder 118 = .ok (.invokevirtual 96, 3) := da9_dX3_listOrder_105.2.2.2.2.2.2.2.2.2.2.1
theorem dX3_listOrder_121 : decode cX3_listOrder 121 = .ok (.iastore, 1) := da9_dX3_listOrder_105.2.2.2.2.2.2.2.2.2.2.2.1
theorem dX3_listOrder_122 : decode cX3_listOrder 122 = .ok (.iinc 2 1, 3) := da9_dX3_listOrder_105.2.2.2.2.2.2.2.2.2.2.2.2.1
theorem dX3_listOrder_125 : decode cX3_listOrder 125 = .ok (.goto (-85), 3) := da9_dX3_listOrder_105.2.2.2.2.2.2.2.2.2.2.2.2.2.1
theorem dX3_listOrder_128 : decode cX3_listOrder 128 = .ok (.return_, 1) := da9_dX3_listOrder_105.2.2.2.2.2.2.2.2.2.2.2.2.2.2
theorem da9_dX3_headsTurned_0 : (decode cX3_headsTurned 0 = .ok (.iconst 0, 1)) ∧ (decode cX3_headsTurned 1 = .ok (.istore_n 2, 1)) ∧ (decode cX3_headsTurned 2 = .ok (.iconst 0, 1)) ∧ (decode cX3_headsTurned 3 = .ok (.istore_n 3, 1)) ∧ (decode cX3_headsTurned 4 = .ok (.iload_n 3, 1)) ∧ (decode cX3_headsTurned 5 = .ok (.iload_n 1, 1)) ∧ (decode cX3_headsTurned 6 = .ok (.if_icmp .ge 25, 3)) ∧ (decode cX3_headsTurned 9 = .ok (.iload_n 2, 1)) ∧ (decode cX3_headsTurned 10 = .ok (.iconst 1, 1)) ∧ (decode cX3_headsTurned 11 = .ok (.iload_n 0, 1)) ∧ (decode cX3_headsTurned 12 = .ok (.iload_n 3, 1)) ∧ (decode cX3_headsTurned 13 = .ok (.ishr, 1)) ∧ (decode cX3_headsTurned 14 = .ok (.iconst 1, 1)) ∧ (decode cX3_headsTurned 15 = .ok (.iand, 1)) ∧ (decode cX3_headsTurned 16 = .ok (.isub, 1)) ∧ (decode cX3_headsTurned 17 = .ok (.iload_n 1, 1)) := by decide +kernel
theorem dX3_headsTurned_0 : decode cX3_headsTurned 0 = .ok (.iconst 0, 1) := da9_dX3_headsTurned_0.1
theorem dX3_headsTurned_1 : decode cX3_headsTurned 1 = .ok (.istore_n 2, 1) := da9_dX3_headsTurned_0.2.1
theorem dX3_headsTurned_2 : decode cX3_headsTurned 2 = .ok (.iconst 0, 1) := da9_dX3_headsTurned_0.2.2.1
theorem dX3_headsTurned_3 : decode cX3_headsTurned 3 = .ok (.istore_n 3, 1) := da9_dX3_headsTurned_0.2.2.2.1
theorem dX3_headsTurned_4 : decode cX3_headsTurned 4 = .ok (.iload_n 3, 1) := da9_dX3_headsTurned_0.2.2.2.2.1
theorem dX3_headsTurned_5 : decode cX3_headsTurned 5 = .ok (.iload_n 1, 1) := da9_dX3_headsTurned_0.2.2.2.2.2.1
theorem dX3_headsTurned_6 : decode cX3_headsTurned 6 = .ok (.if_icmp .ge 25, 3) := da9_dX3_headsTurned_0.2.2.2.2.2.2.1
theorem dX3_headsTurned_9 : decode cX3_headsTurned 9 = .ok (.iload_n 2, 1) := da9_dX3_headsTurned_0.2.2.2.2.2.2.2.1
theorem dX3_headsTurned_10 : decode cX3_headsTurned 10 = .ok (.iconst 1, 1) := da9_dX3_headsTurned_0.2.2.2.2.2.2.2.2.1
theorem dX3_headsTurned_11 : decode cX3_headsTurned 11 = .ok (.iload_n 0, 1) := da9_dX3_headsTurned_0.2.2.2.2.2.2.2.2.2.1
theorem dX3_headsTurned_12 : decode cX3_headsTurned 12 = .ok (.iload_n 3, 1) := da9_dX3_headsTurned_0.2.2.2.2.2.2.2.2.2.2.1
theorem dX3_headsTurned_13 : decode cX3_headsTurned 13 = .ok (.ishr, 1) := da9_dX3_headsTurned_0.2.2.2.2.2.2.2.2.2.2.2.1
theorem dX3_headsTurned_14 : decode cX3_headsTurned 14 = .ok (.iconst 1, 1) := da9_dX3_headsTurned_0.2.2.2.2.2.2.2.2.2.2.2.2.1
theorem dX3_headsTurned_15 : decode cX3_headsTurned 15 = .ok (.iand, 1) := da9_dX3_headsTurned_0.2.2.2.2.2.2.2.2.2.2.2.2.2.1
theorem dX3_headsTurned_16 : decode cX3_headsTurned 16 = .ok (.isub, 1) := da9_dX3_headsTurned_0.2.2.2.2.2.2.2.2.2.2.2.2.2.2.1
theorem dX3_headsTurned_17 : decode cX3_headsTurned 17 = .ok (.iload_n 1, 1) := da9_dX3_headsTurned_0.2.2.2.2.2.2.2.2.2.2.2.2.2.2.2
theorem da9_dX3_headsTurned_18 : (decode cX3_headsTurned 18 = .ok (.iconst 1, 1)) ∧ (decode cX3_headsTurned 19 = .ok (.isub, 1)) ∧ (decode cX3_headsTurned 20 = .ok (.iload_n 3, 1)) ∧ (decode cX3_headsTurned 21 = .ok (.isub, 1)) ∧ (decode cX3_headsTurned 22 = .ok (.ishl, 1)) ∧ (decode cX3_headsTurned 23 = .ok (.ior, 1)) ∧ (decode cX3_headsTurned 24 = .ok (.istore_n 2, 1)) ∧ (decode cX3_headsTurned 25 = .ok (.iinc 3 1, 3)) ∧ (decode cX3_headsTurned 28 = .ok (.goto (-24), 3)) ∧ (decode cX3_headsTurned 31 = .ok (.iload_n 0, 1)) ∧ (decode cX3_headsTurned 32 = .ok (.iload_n 1, 1)) ∧ (decode cX3_headsTurned 33 = .ok (.ishr, 1)) ∧ (decode cX3_headsTurned 34 = .ok (.iload_n 1, 1)) ∧ (decode cX3_headsTurned 35 = .ok (.ishl, 1)) ∧ (decode cX3_headsTurned 36 = .ok (.iload_n 2, 1)) ∧ (decode cX3_headsTurned 37 = .ok (.ior, 1)) := by decide +kernel
theorem dX3_headsTurned_18 : decode cX3_headsTurned 18 = .ok (.iconst 1, 1) := da9_dX3_headsTurned_18.1
theorem dX3_headsTurned_19 : decode cX3_headsTurned 19 = .ok (.isub, 1) := da9_dX3_headsTurned_18.2.1
theorem dX3_headsTurned_20 : decode cX3_headsTurned 20 = .ok (.iload_n 3, 1) := da9_dX3_headsTurned_18.2.2.1
theorem dX3_headsTurned_21 : decode cX3_headsTurned 21 = .ok (.isub, 1) := da9_dX3_headsTurned_18.2.2.2.1
theorem dX3_headsTurned_22 : decode cX3_headsTurned 22 = .ok (.ishl, 1) := da9_dX3_headsTurned_18.2.2.2.2.1
theorem dX3_headsTurned_23 : decode cX3_headsTurned 23 = .ok (.ior, 1) := da9_dX3_headsTurned_18.2.2.2.2.2.1
theorem dX3_headsTurned_24 : decode cX3_headsTurned 24 = .ok (.istore_n 2, 1) := da9_dX3_headsTurned_18.2.2.2.2.2.2.1
theorem dX3_headsTurned_25 : decode cX3_headsTurned 25 = .ok (.iinc 3 1, 3) := da9_dX3_headsTurned_18.2.2.2.2.2.2.2.1
theorem dX3_headsTurned_28 : decode cX3_headsTurned 28 = .ok (.goto (-24), 3) := da9_dX3_headsTurned_18.2.2.2.2.2.2.2.2.1
theorem dX3_headsTurned_31 : decode cX3_headsTurned 31 = .ok (.iload_n 0, 1) := da9_dX3_headsTurned_18.2.2.2.2.2.2.2.2.2.1
theorem dX3_headsTurned_32 : decode cX3_headsTurned 32 = .ok (.iload_n 1, 1) := da9_dX3_headsTurned_18.2.2.2.2.2.2.2.2.2.2.1
theorem dX3_headsTurned_33 : decode cX3_headsTurned 33 = .ok (.ishr, 1) := da9_dX3_headsTurned_18.2.2.2.2.2.2.2.2.2.2.2.1
theorem dX3_headsTurned_34 : decode cX3_headsTurned 34 = .ok (.iload_n 1, 1) := da9_dX3_headsTurned_18.2.2.2.2.2.2.2.2.2.2.2.2.1
theorem dX3_headsTurned_35 : decode cX3_headsTurned 35 = .ok (.ishl, 1) := da9_dX3_headsTurned_18.2.2.2.2.2.2.2.2.2.2.2.2.2.1
theorem dX3_headsTurned_36 : decode cX3_headsTurned 36 = .ok (.iload_n 2, 1) := da9_dX3_headsTurned_18.2.2.2.2.2.2.2.2.2.2.2.2.2.2.1
theorem dX3_headsTurned_37 : decode cX3_headsTurned 37 = .ok (.ior, 1) := da9_dX3_headsTurned_18.2.2.2.2.2.2.2.2.2.2.2.2.2.2.2
theorem dX3_headsTurned_38 : decode cX3_headsTurned 38 = .ok (.ireturn, 1) := by decide +kernel
set_option maxRecDepth 20000 in
theorem ggX9_pass_X9_move : GoodIn wsX9_pass wsX9_move := wd_c vW9_ok mvW9_448
set_option maxRecDepth 20000 in
theorem gX9_pass_X9_move : GoodIn wsX9_pass (wsV RX9 211 RX9 yX9_move wsX9_move) := goodIn_app (wd_l vW9_ok _ pvW9_112) ggX9_pass_X9_move
theorem da9_dX9_pass_0 : (decode cX9_pass 0 = .ok (.aload_n 0, 1)) ∧ (decode cX9_pass 1 = .ok (.iconst 3, 1)) ∧ (decode cX9_pass 2 = .ok (.iconst 0, 1)) ∧ (decode cX9_pass 3 = .ok (.invokevirtual 211, 3)) ∧ (decode cX9_pass 6 = .ok (.ireturn, 1)) := by decide +kernel
theorem dX9_pass_0 : decode cX9_pass 0 = .ok (.aload_n 0, 1) := da9_dX9_pass_0.1
theorem dX9_pass_1 : decode cX9_pass 1 = .ok (.iconst 3, 1) := da9_dX9_pass_0.2.1
theorem dX9_pass_2 : decode cX9_pass 2 = .ok (.iconst 0, 1) := da9_dX9_pass_0.2.2.1
theorem dX9_pass_3 : decode cX9_pass 3 = .ok (.invokevirtual 211, 3) := da9_dX9_pass_0.2.2.2.1
theorem dX9_pass_6 : decode cX9_pass 6 = .ok (.ireturn, 1) := da9_dX9_pass_0.2.2.2.2
set_option maxRecDepth 20000 in
theorem ggX9_undo_X9_refuse : GoodIn wsX9_undo wsX9_refuse := wd_c vW9_ok mvW9_12
set_option maxRecDepth 20000 in
theorem gX9_undo_X9_refuse : GoodIn wsX9_undo (wsV RX9 118 RX9 yX9_refuse wsX9_refuse) := goodIn_app (wd_l vW9_ok _ pvW9_91) ggX9_undo_X9_refuse
set_option maxRecDepth 20000 in
theorem ggX9_undo_X8_unpack : GoodIn wsX9_undo wsX8_unpack := wd_c vW9_ok mvW9_432
set_option maxRecDepth 20000 in
theorem gX9_undo_X8_unpack : GoodIn wsX9_undo (wsV RX9 219 RX8 yX8_unpack wsX8_unpack) := goodIn_app (wd_l vW9_ok _ pvW9_113) ggX9_undo_X8_unpack
set_option maxRecDepth 20000 in
theorem ggX9_undo_X9_accept : GoodIn wsX9_undo wsX9_accept := wd_c vW9_ok mvW9_36
set_option maxRecDepth 20000 in
theorem gX9_undo_X9_accept : GoodIn wsX9_undo (wsV RX9 138 RX9 yX9_accept wsX9_accept) := goodIn_app (wd_l vW9_ok _ pvW9_95) ggX9_undo_X9_accept
theorem da9_dX9_undo_0 : (decode cX9_undo 0 = .ok (.aload_n 0, 1)) ∧ (decode cX9_undo 1 = .ok (.getfield 27, 3)) ∧ (decode cX9_undo 4 = .ok (.getfield 214, 3)) ∧ (decode cX9_undo 7 = .ok (.ifCond .gt 10, 3)) ∧ (decode cX9_undo 10 = .ok (.aload_n 0, 1)) ∧ (decode cX9_undo 11 = .ok (.bipush (-3), 2)) ∧ (decode cX9_undo 13 = .ok (.invokevirtual 118, 3)) ∧ (decode cX9_undo 16 = .ok (.ireturn, 1)) ∧ (decode cX9_undo 17 = .ok (.aload_n 0, 1)) ∧ (decode cX9_undo 18 = .ok (.getfield 27, 3)) ∧ (decode cX9_undo 21 = .ok (.dup, 1)) ∧ (decode cX9_undo 22 = .ok (.getfield 214, 3)) ∧ (decode cX9_undo 25 = .ok (.iconst 1, 1)) ∧ (decode cX9_undo 26 = .ok (.isub, 1)) ∧ (decode cX9_undo 27 = .ok (.putfield 214, 3)) ∧ (decode cX9_undo 30 = .ok (.aload_n 0, 1)) := by decide +kernel
theorem dX9_undo_0 : decode cX9_undo 0 = .ok (.aload_n 0, 1) := da9_dX9_undo_0.1
theorem dX9_undo_1 : decode cX9_undo 1 = .ok (.getfield 27, 3) := da9_dX9_undo_0.2.1
theorem dX9_undo_4 : decode cX9_undo 4 = .ok (.getfield 214, 3) := da9_dX9_undo_0.2.2.1
theorem dX9_undo_7 : decode cX9_undo 7 = .ok (.ifCond .gt 10, 3) := da9_dX9_undo_0.2.2.2.1
theorem dX9_undo_10 : decode cX9_undo 10 = .ok (.aload_n 0, 1) := da9_dX9_undo_0.2.2.2.2.1
theorem dX9_undo_11 : decode cX9_undo 11 = .ok (.bipush (-3), 2) := da9_dX9_undo_0.2.2.2.2.2.1
theorem dX9_undo_13 : decode cX9_undo 13 = .ok (.invokevirtual 118, 3) := da9_dX9_undo_0.2.2.2.2.2.2.1
theorem dX9_undo_16 : decode cX9_undo 16 = .ok (.ireturn, 1) := da9_dX9_undo_0.2.2.2.2.2.2.2.1
theorem dX9_undo_17 : decode cX9_undo 17 = .ok (.aload_n 0, 1) := da9_dX9_undo_0.2.2.2.2.2.2.2.2.1
theorem dX9_undo_18 : decode cX9_undo 18 = .ok (.getfield 27, 3) := da9_dX9_undo_0.2.2.2.2.2.2.2.2.2.1
theorem dX9_undo_21 : decode cX9_undo 21 = .ok (.dup, 1) := da9_dX9_undo_0.2.2.2.2.2.2.2.2.2.2.1
theorem dX9_undo_22 : decode cX9_undo 22 = .ok (.getfield 214, 3) := da9_dX9_undo_0.2.2.2.2.2.2.2.2.2.2.2.1
theorem dX9_undo_25 : decode cX9_undo 25 = .ok (.iconst 1, 1) := da9_dX9_undo_0.2.2.2.2.2.2.2.2.2.2.2.2.1
theorem dX9_undo_26 : decode cX9_undo 26 = .ok (.isub, 1) := da9_dX9_undo_0.2.2.2.2.2.2.2.2.2.2.2.2.2.1
theorem dX9_undo_27 : decode cX9_undo 27 = .ok (.putfield 214, 3) := da9_dX9_undo_0.2.2.2.2.2.2.2.2.2.2.2.2.2.2.1
theorem dX9_undo_30 : decode cX9_undo 30 = .ok (.aload_n 0, 1) := da9_dX9_undo_0.2.2.2.2.2.2.2.2.2.2.2.2.2.2.2
theorem da9_dX9_undo_31 : (decode cX9_undo 31 = .ok (.getfield 10, 3)) ∧ (decode cX9_undo 34 = .ok (.getfield 122, 3)) ∧ (decode cX9_undo 37 = .ok (.aload_n 0, 1)) ∧ (decode cX9_undo 38 = .ok (.getfield 27, 3)) ∧ (decode cX9_undo 41 = .ok (.getfield 216, 3)) ∧ (decode cX9_undo 44 = .ok (.aload_n 0, 1)) ∧ (decode cX9_undo 45 = .ok (.getfield 27, 3)) ∧ (decode cX9_undo 48 = .ok (.getfield 214, 3)) ∧ (decode cX9_undo 51 = .ok (.laload, 1)) ∧ (decode cX9_undo 52 = .ok (.invokevirtual 219, 3)) ∧ (decode cX9_undo 55 = .ok (.aload_n 0, 1)) ∧ (decode cX9_undo 56 = .ok (.aload_n 0, 1)) ∧ (decode cX9_undo 57 = .ok (.getfield 27, 3)) ∧ (decode cX9_undo 60 = .ok (.getfield 223, 3)) ∧ (decode cX9_undo 63 = .ok (.aload_n 0, 1)) ∧ (decode cX9_undo 64 = .ok (.getfield 27, 3)) := by decide +kernel
theorem dX9_undo_31 : decode cX9_undo 31 = .ok (.getfield 10, 3) := da9_dX9_undo_31.1
theorem dX9_undo_34 : decode cX9_undo 34 = .ok (.getfield 122, 3) := da9_dX9_undo_31.2.1
theorem dX9_undo_37 : decode cX9_undo 37 = .ok (.aload_n 0, 1) := da9_dX9_undo_31.2.2.1
theorem dX9_undo_38 : decode cX9_undo 38 = .ok (.getfield 27, 3) := da9_dX9_undo_31.2.2.2.1
theorem dX9_undo_41 : decode cX9_undo 41 = .ok (.getfield 216, 3) := da9_dX9_undo_31.2.2.2.2.1
theorem dX9_undo_44 : decode cX9_undo 44 = .ok (.aload_n 0, 1) := da9_dX9_undo_31.2.2.2.2.2.1
theorem dX9_undo_45 : decode cX9_undo 45 = .ok (.getfield 27, 3) := da9_dX9_undo_31.2.2.2.2.2.2.1
theorem dX9_undo_48 : decode cX9_undo 48 = .ok (.getfield 214, 3) := da9_dX9_undo_31.2.2.2.2.2.2.2.1
theorem dX9_undo_51 : decode cX9_undo 51 = .ok (.laload, 1) := da9_dX9_undo_31.2.2.2.2.2.2.2.2.1
theorem dX9_undo_52 : decode cX9_undo 52 = .ok (.invokevirtual 219, 3) := da9_dX9_undo_31.2.2.2.2.2.2.2.2.2.1
theorem dX9_undo_55 : decode cX9_undo 55 = .ok (.aload_n 0, 1) := da9_dX9_undo_31.2.2.2.2.2.2.2.2.2.2.1
theorem dX9_undo_56 : decode cX9_undo 56 = .ok (.aload_n 0, 1) := da9_dX9_undo_31.2.2.2.2.2.2.2.2.2.2.2.1
theorem dX9_undo_57 : decode cX9_undo 57 = .ok (.getfield 27, 3) := da9_dX9_undo_31.2.2.2.2.2.2.2.2.2.2.2.2.1
theorem dX9_undo_60 : decode cX9_undo 60 = .ok (.getfield 223, 3) := da9_dX9_undo_31.2.2.2.2.2.2.2.2.2.2.2.2.2.1
theorem dX9_undo_63 : decode cX9_undo 63 = .ok (.aload_n 0, 1) := da9_dX9_undo_31.2.2.2.2.2.2.2.2.2.2.2.2.2.2.1
theorem dX9_undo_64 : decode cX9_undo 64 = .ok (.getfield 27, 3) := da9_dX9_undo_31.2.2.2.2.2.2.2.2.2.2.2.2.2.2.2
theorem da9_dX9_undo_67 : (decode cX9_undo 67 = .ok (.getfield 214, 3)) ∧ (decode cX9_undo 70 = .ok (.iaload, 1)) ∧ (decode cX9_undo 71 = .ok (.invokevirtual 138, 3)) ∧ (decode cX9_undo 74 = .ok (.ireturn, 1)) := by decide +kernel
theorem dX9_undo_67 : decode cX9_undo 67 = .ok (.getfield 214, 3) := da9_dX9_undo_67.1
theorem dX9_undo_70 : decode cX9_undo 70 = .ok (.iaload, 1) := da9_dX9_undo_67.2.1
theorem dX9_undo_71 : decode cX9_undo 71 = .ok (.invokevirtual 138, 3) := da9_dX9_undo_67.2.2.1
theorem dX9_undo_74 : decode cX9_undo 74 = .ok (.ireturn, 1) := da9_dX9_undo_67.2.2.2
end
