theorem u9_wsX8_turnTop_X8 : ∀ w ∈ u_ws RX8 TX8 5, w ∈ wsX8_turnTop := by
  first | exact fun w h => List.mem_cons_of_mem _ (List.mem_append_right _ h) | decide +kernel
theorem f9_wsX8_turnTop_628 : (Cond.fieldLink RX8 22 "TurnedFloors$Tower" "paid" "I") ∈ wsX8_turnTop := by decide +kernel
theorem f9_wsX8_turnTop_629 : (Cond.methodLink RX8 41 Lib.Math.min.name) ∈ wsX8_turnTop := by decide +kernel
theorem f9_wsX8_turnTop_630 : (Cond.static Lib.Math.min.name) ∈ wsX8_turnTop := by decide +kernel
theorem f9_wsX8_turnTop_631 : (Cond.initialized "java/lang/Math") ∈ wsX8_turnTop := by decide +kernel
theorem f9_wsX8_turnTop_632 : (Cond.code Lib.Math.min.name Lib.Math.min.code 2 (some .int)) ∈ wsX8_turnTop := by decide +kernel
theorem f9_wsX8_turnTop_633 : (Cond.fieldLink RX8 15 "TurnedFloors$Tower" "head" "[I") ∈ wsX8_turnTop := by decide +kernel
theorem f9_wsX8_turnTop_634 : (Cond.fieldLink RX8 18 "TurnedFloors$Tower" "floors" "I") ∈ wsX8_turnTop := by decide +kernel
theorem u9_wsX8_rightAt_X8 : ∀ w ∈ u_ws RX8 TX8 5, w ∈ wsX8_rightAt := by
  first | exact fun w h => List.mem_cons_of_mem _ (List.mem_append_right _ h) | decide +kernel
theorem f9_wsX8_rightAt_636 : (Cond.fieldLink RX8 15 "TurnedFloors$Tower" "head" "[I") ∈ wsX8_rightAt := by decide +kernel
theorem u9_wsX8_swapAt_X8 : ∀ w ∈ u_ws RX8 TX8 5, w ∈ wsX8_swapAt := by
  first | exact fun w h => List.mem_cons_of_mem _ (List.mem_append_right _ h) | decide +kernel
theorem f9_wsX8_swapAt_638 : (Cond.fieldLink RX8 9 "TurnedFloors$Tower" "rank" "[I") ∈ wsX8_swapAt := by decide +kernel
theorem f9_wsJ6_bitCount_0f7a4_639 : (Cond.constant RJ6 265 1431655765) ∈ wsJ6_bitCount_0f7a4 := by decide +kernel
theorem f9_wsJ6_bitCount_0f7a4_640 : (Cond.constant RJ6 266 858993459) ∈ wsJ6_bitCount_0f7a4 := by decide +kernel
theorem f9_wsJ6_bitCount_0f7a4_641 : (Cond.constant RJ6 267 252645135) ∈ wsJ6_bitCount_0f7a4 := by decide +kernel
theorem u9_wsX8_passYear_X8 : ∀ w ∈ u_ws RX8 TX8 5, w ∈ wsX8_passYear := by
  first | exact fun w h => List.mem_cons_of_mem _ (List.mem_append_right _ h) | decide +kernel
theorem f9_wsX8_passYear_643 : (Cond.fieldLink RX8 18 "TurnedFloors$Tower" "floors" "I") ∈ wsX8_passYear := by decide +kernel
theorem f9_wsX8_passYear_644 : (Cond.fieldLink RX8 25 "TurnedFloors$Tower" "year" "I") ∈ wsX8_passYear := by decide +kernel
theorem f9_wsX8_passYear_645 : (Cond.fieldLink RX8 15 "TurnedFloors$Tower" "head" "[I") ∈ wsX8_passYear := by decide +kernel
theorem f9_wsX8_passYear_646 : (Cond.initialized RX9) ∈ wsX8_passYear := by decide +kernel
theorem u9_wsX0_keep_X0 : ∀ w ∈ u_ws RX0 TX0 6, w ∈ wsX0_keep := by
  first | exact fun w h => List.mem_cons_of_mem _ (List.mem_append_right _ h) | decide +kernel
theorem f9_wsX0_keep_648 : (Cond.fieldLink RX0 9 "TurnedFloors$History" "towers" "[J") ∈ wsX0_keep := by decide +kernel
theorem f9_wsX0_keep_649 : (Cond.fieldLink RX0 19 "TurnedFloors$History" "kept" "I") ∈ wsX0_keep := by decide +kernel
theorem f9_wsX0_keep_650 : (Cond.fieldLink RX0 15 "TurnedFloors$History" "kinds" "[I") ∈ wsX0_keep := by decide +kernel
theorem f9_wsX0_keep_651 : (Cond.methodLink RX0 32 arraycopyName) ∈ wsX0_keep := by decide +kernel
theorem f9_wsX0_keep_652 : (Cond.native arraycopyName) ∈ wsX0_keep := by decide +kernel
theorem f9_wsX0_keep_653 : (Cond.static arraycopyName) ∈ wsX0_keep := by decide +kernel
theorem f9_wsX0_keep_654 : (Cond.initialized "java/lang/System") ∈ wsX0_keep := by decide +kernel
theorem u9_wsX8_unpack_X8 : ∀ w ∈ u_ws RX8 TX8 5, w ∈ wsX8_unpack := by
  first | exact fun w h => List.mem_cons_of_mem _ (List.mem_append_right _ h) | decide +kernel
theorem f9_wsX8_unpack_656 : (Cond.methodLink RX8 41 Lib.Math.min.name) ∈ wsX8_unpack := by decide +kernel
theorem f9_wsX8_unpack_657 : (Cond.static Lib.Math.min.name) ∈ wsX8_unpack := by decide +kernel
theorem f9_wsX8_unpack_658 : (Cond.initialized "java/lang/Math") ∈ wsX8_unpack := by decide +kernel
theorem f9_wsX8_unpack_659 : (Cond.code Lib.Math.min.name Lib.Math.min.code 2 (some .int)) ∈ wsX8_unpack := by decide +kernel
theorem f9_wsX8_unpack_660 : (Cond.fieldLink RX8 18 "TurnedFloors$Tower" "floors" "I") ∈ wsX8_unpack := by decide +kernel
theorem f9_wsX8_unpack_661 : (Cond.fieldLink RX8 15 "TurnedFloors$Tower" "head" "[I") ∈ wsX8_unpack := by decide +kernel
theorem f9_wsX8_unpack_662 : (Cond.fieldLink RX8 9 "TurnedFloors$Tower" "rank" "[I") ∈ wsX8_unpack := by decide +kernel
theorem f9_wsX8_unpack_663 : (Cond.constantLong RX8 39 7) ∈ wsX8_unpack := by decide +kernel
theorem f9_wsX8_unpack_664 : (Cond.constantLong RX8 35 1023) ∈ wsX8_unpack := by decide +kernel
theorem f9_wsX8_unpack_665 : (Cond.fieldLink RX8 25 "TurnedFloors$Tower" "year" "I") ∈ wsX8_unpack := by decide +kernel
theorem f9_wsX8_unpack_666 : (Cond.constantLong RX8 37 16383) ∈ wsX8_unpack := by decide +kernel
theorem f9_wsX8_unpack_667 : (Cond.fieldLink RX8 22 "TurnedFloors$Tower" "paid" "I") ∈ wsX8_unpack := by decide +kernel
set_option maxHeartbeats 4000000 in
set_option maxRecDepth 100000 in
theorem WX8_turnTop_s2_s20_75b {p : Program} {l : Launch} {e : Env} {s : State} {m : MethodId} {args : Array Value} {below : List Frame} {meth : Method} {c : Code} {D : va_G} {ty : Nat → ClassId} {eo : Nat → Nat} {A : Nat → Prop} {ad : Nat → Nat} {o1 : Int32} {o2 : dK} (C : dc_C p s m args meth c cX8_turnTop (some .int) 6 RX8 wsX8_turnTop D ty eo A) {k75 : dK → Int32 → Int32 → Int32 → Option (Int32 × dK)} (hk75 : ∀ (q : dK) (x1 : Int32) (x3 : Int32) (x4 : Int32) (H : Heap) (locs : List Loc) (ls : Array Slot), k75 q x1 x3 x4 = some (o1, o2) → va_P D vwCl (wF ty ad q) H → va_D A (wF ty ad q) → va_S A s.heap H locs → lv_has ls 6 [(0, .ref (ad 2)), (1, .int x1), (3, .int x3), (4, .int x4)] → W p l e ({ frames := 4, cells := 0, slots := 0, locals := 103 } : Room) s m args below meth c H locs 0 0 (MQ below (va_Qi (fun (r : Int32) (u : va_W) => o1 = r ∧ wF ty ad o2 = u) (kz_B D ty A) A) args s 0 0 A) (F0 m 75 ls [])) (q : dK) (x1 : Int32) (x3 : Int32) (x4 : Int32) (H : Heap) (locs : List Loc) (ls : Array Slot) (h : zX8_turnTop_s2_s20_75b k75 q x1 x3 x4 = some (o1, o2)) (hP : va_P D vwCl (wF ty ad q) H) (hD : va_D A (wF ty ad q)) (hS : va_S A s.heap H locs) (hl : lv_has ls 6 [(0, .ref (ad 2)), (1, .int x1), (3, .int x3), (4, .int x4)]) : W p l e ({ frames := 4, cells := 0, slots := 0, locals := 103 } : Room) s m args below meth c H locs 0 0 (MQ below (va_Qi (fun (r : Int32) (u : va_W) => o1 = r ∧ wF ty ad o2 = u) (kz_B D ty A) A) args s 0 0 A) (F0 m 75 ls []) := by
  have C0 := C
  obtain ⟨hx, hb, hr, hts, hown, hlocks, hml, hK, hN, hE, hA⟩ := C
  unfold zX8_turnTop_s2_s20_75b at h
  refine lv_iload hx hb dX8_turnTop_75 (lv_at hl 3 rfl) ?_
  refine lv_iload_n hx hb dX8_turnTop_77 rfl (lv_at hl 1 rfl) ?_
  refine lv_icmp_ge (tgt := 103) hx hb dX8_turnTop_78 (by decide) (fun c9 => ?_) (fun c9 => ?_)
  · rw [if_pos c9] at h
    refine lv_aload_n hx hb dX8_turnTop_103 rfl (lv_at hl 0 rfl) ?_
    refine lv_sipush (v := 9999) hx hb dX8_turnTop_104 (by decide) ?_
    refine lv_aload_n hx hb dX8_turnTop_107 rfl (lv_at hl 0 rfl) ?_
    refine va_get (D := D) (ci := 8) (v := .int (q.1 2 3)) (C := RX8) (T := TX8) (N := 5) hx hb hts u9_wsX8_turnTop_X8 hown hK hP 2 rfl rfl 3 (by decide) (hts (.fieldLink RX8 22 "TurnedFloors$Tower" "paid" "I") f9_wsX8_turnTop_628) (fun _ h9 => h9) rfl dX8_turnTop_108 ?_
    refine lv_iload_n hx hb dX8_turnTop_111 rfl (lv_at hl 2 rfl) ?_
    refine lv_iadd hx hb dX8_turnTop_112 ?_
    refine va_mmin hx hb (hml.trans hl.1.symm) hown (hts (.methodLink RX8 41 Lib.Math.min.name) f9_wsX8_turnTop_629) (hts (.static Lib.Math.min.name) f9_wsX8_turnTop_630) (hts (.initialized "java/lang/Math") f9_wsX8_turnTop_631) (hts (.code Lib.Math.min.name Lib.Math.min.code 2 (some .int)) f9_wsX8_turnTop_632) (Nat.le_of_ble_eq_true rfl) (Nat.le_of_ble_eq_true rfl) (Nat.le_of_ble_eq_true rfl) (Nat.le_of_ble_eq_true rfl) dX8_turnTop_113 ?_
    refine kz_topi (mnI 9999 ((q.1 2 3) + x3)) rfl ?_
    refine va_put (D := D) (ci := 8) (v := .int (mnI 9999 ((q.1 2 3) + x3))) (ty := .int) (C := RX8) (T := TX8) (N := 5) hx hb hts u9_wsX8_turnTop_X8 tyX8 tyX8_ok nmX8 hown hK hP hD hS 2 rfl rfl 3 (by decide) (hts (.fieldLink RX8 22 "TurnedFloors$Tower" "paid" "I") f9_wsX8_turnTop_628) (fun _ h9 => h9) rfl (by decide +kernel) rfl rfl (Nat.le_of_ble_eq_true rfl) dX8_turnTop_116 (fun H locs hp hd hs => ?_)
    obtain ⟨q1, eq1, h⟩ := dL_some h
    refine kz_re (w2 := wF ty ad q1) hp hd hs (by rw [← eq1]; exact wF_f2_3 ty ad q (mnI 9999 ((q.1 2 3) + x3))) ?_
    clear hp hd hs hP hD hS
    intro hP hD hS
    refine lv_iload_n hx hb dX8_turnTop_119 rfl (lv_at hl 2 rfl) ?_
    cases h
    exact kz_iret hx hb hr hlocks hP hK hD hS dX8_turnTop_120 ⟨rfl, rfl⟩
  · rw [if_neg c9] at h
    refine lv_aload_n hx hb dX8_turnTop_81 rfl (lv_at hl 0 rfl) ?_
    refine va_get (D := D) (ci := 8) (v := .ref (ad 4)) (C := RX8) (T := TX8) (N := 5) hx hb hts u9_wsX8_turnTop_X8 hown hK hP 2 rfl rfl 1 (by decide) (hts (.fieldLink RX8 15 "TurnedFloors$Tower" "head" "[I") f9_wsX8_turnTop_633) (fun _ h9 => h9) rfl dX8_turnTop_82 ?_
    refine lv_iload hx hb dX8_turnTop_85 (lv_at hl 3 rfl) ?_
    refine lv_iconst (v := 1) hx hb dX8_turnTop_87 (by decide) ?_
    refine lv_aload_n hx hb dX8_turnTop_88 rfl (lv_at hl 0 rfl) ?_
    refine va_get (D := D) (ci := 8) (v := .ref (ad 4)) (C := RX8) (T := TX8) (N := 5) hx hb hts u9_wsX8_turnTop_X8 hown hK hP 2 rfl rfl 1 (by decide) (hts (.fieldLink RX8 15 "TurnedFloors$Tower" "head" "[I") f9_wsX8_turnTop_633) (fun _ h9 => h9) rfl dX8_turnTop_89 ?_
    refine lv_iload hx hb dX8_turnTop_92 (lv_at hl 3 rfl) ?_
    obtain ⟨g2, h⟩ := dG_some h
    refine va_iald hx hb hK hP 4 0 rfl rfl (dg_in g2) dX8_turnTop_94 ?_
    obtain ⟨v3, ev3, h⟩ := dL_some h
    refine kz_topi v3 ev3 ?_
    refine lv_isub hx hb dX8_turnTop_95 ?_
    obtain ⟨g4, h⟩ := dG_some h
    refine va_iast hx hb hK hP hD hS 4 0 rfl rfl (dg_in g4) dX8_turnTop_96 (fun H locs hp hd hs => ?_)
    obtain ⟨q5, eq5, h⟩ := dL_some h
    refine kz_re (w2 := wF ty ad q5) hp hd hs (by rw [← eq5]; exact wF_a4 ty ad q (Int32.toNatClampNeg x4) (1 - v3 : Int32)) ?_
    clear hp hd hs hP hD hS
    intro hP hD hS
    refine lv_iinc (v := x4 + 1) (lv' := [(4, .int (x4 + 1)), (0, .ref (ad 2)), (1, .int x1), (3, .int x3)]) hx hb dX8_turnTop_97 hl (k := 3) rfl rfl (by decide) rfl (fun ls hl => ?_)
    refine lv_goto (tgt := 75) hx hb dX8_turnTop_100 (by decide) ?_
    exact hk75 _ _ _ _ _ _ _ h hP hD hS (lv_sub hl [1, 2, 3, 0] rfl)
set_option maxHeartbeats 4000000 in
set_option maxRecDepth 100000 in
theorem WX8_turnTop_s2_s20_75 {p : Program} {l : Launch} {e : Env} {s : State} {m : MethodId} {args : Array Value} {below : List Frame} {meth : Method} {c : Code} {D : va_G} {ty : Nat → ClassId} {eo : Nat → Nat} {A : Nat → Prop} {ad : Nat → Nat} {o1 : Int32} {o2 : dK} (C : dc_C p s m args meth c cX8_turnTop (some .int) 6 RX8 wsX8_turnTop D ty eo A)   (n : Nat) (q : dK) (x1 : Int32) (x3 : Int32) (x4 : Int32) (H : Heap) (locs : List Loc) (ls : Array Slot) (h : zX8_turnTop_s2_s20_75  n q x1 x3 x4 = some (o1, o2)) (hP : va_P D vwCl (wF ty ad q) H) (hD : va_D A (wF ty ad q)) (hS : va_S A s.heap H locs) (hl : lv_has ls 6 [(0, .ref (ad 2)), (1, .int x1), (3, .int x3), (4, .int x4)]) : W p l e ({ frames := 4, cells := 0, slots := 0, locals := 103 } : Room) s m args below meth c H locs 0 0 (MQ below (va_Qi (fun (r : Int32) (u : va_W) => o1 = r ∧ wF ty ad o2 = u) (kz_B D ty A) A) args s 0 0 A) (F0 m 75 ls []) := by
  exact dFix_W (F := fun k (a : dK × Int32 × Int32 × Int32) => zX8_turnTop_s2_s20_75b  (fun q x1 x3 x4 => k (q, x1, x3, x4)) a.1 a.2.1 a.2.2.1 a.2.2.2) (o := (o1, o2)) (P := fun (a : dK × Int32 × Int32 × Int32) H locs ls => va_P D vwCl (wF ty ad a.1) H ∧ va_D A (wF ty ad a.1) ∧ va_S A s.heap H locs ∧ lv_has ls 6 [(0, .ref (ad 2)), (1, .int a.2.1), (3, .int a.2.2.1), (4, .int a.2.2.2)]) (G := fun H locs ls => W p l e ({ frames := 4, cells := 0, slots := 0, locals := 103 } : Room) s m args below meth c H locs 0 0 (MQ below (va_Qi (fun (r : Int32) (u : va_W) => o1 = r ∧ wF ty ad o2 = u) (kz_B D ty A) A) args s 0 0 A) (F0 m 75 ls []))
    (fun k hk a H locs ls h hp => WX8_turnTop_s2_s20_75b C  (fun q x1 x3 x4 H locs ls h h1 h2 h3 h4 => hk (q, x1, x3, x4) H locs ls h ⟨h1, h2, h3, h4⟩) a.1 a.2.1 a.2.2.1 a.2.2.2 H locs ls h hp.1 hp.2.1 hp.2.2.1 hp.2.2.2) n (q, x1, x3, x4) H locs ls h ⟨hP, hD, hS, hl⟩
set_option maxHeartbeats 4000000 in
set_option maxRecDepth 100000 in
theorem WX8_turnTop_s2_s20_48b {p : Program} {l : Launch} {e : Env} {s : State} {m : MethodId} {args : Array Value} {below : List Frame} {meth : Method} {c : Code} {D : va_G} {ty : Nat → ClassId} {eo : Nat → Nat} {A : Nat → Prop} {ad : Nat → Nat} {o1 : Int32} {o2 : dK} (C : dc_C p s m args meth c cX8_turnTop (some .int) 6 RX8 wsX8_turnTop D ty eo A) {k48 : dK → Int32 → Int32 → Int32 → Int32 → Option (Int32 × dK)} (hk48 : ∀ (q : dK) (x1 : Int32) (x3 : Int32) (x4 : Int32) (x5 : Int32) (H : Heap) (locs : List Loc) (ls : Array Slot), k48 q x1 x3 x4 x5 = some (o1, o2) → va_P D vwCl (wF ty ad q) H → va_D A (wF ty ad q) → va_S A s.heap H locs → lv_has ls 6 [(0, .ref (ad 2)), (1, .int x1), (3, .int x3), (4, .int x4), (5, .int x5)] → W p l e ({ frames := 4, cells := 0, slots := 0, locals := 103 } : Room) s m args below meth c H locs 0 0 (MQ below (va_Qi (fun (r : Int32) (u : va_W) => o1 = r ∧ wF ty ad o2 = u) (kz_B D ty A) A) args s 0 0 A) (F0 m 48 ls [])) (q : dK) (x1 : Int32) (x3 : Int32) (x4 : Int32) (x5 : Int32) (H : Heap) (locs : List Loc) (ls : Array Slot) (h : zX8_turnTop_s2_s20_48b k48 q x1 x3 x4 x5 = some (o1, o2)) (hP : va_P D vwCl (wF ty ad q) H) (hD : va_D A (wF ty ad q)) (hS : va_S A s.heap H locs) (hl : lv_has ls 6 [(0, .ref (ad 2)), (1, .int x1), (3, .int x3), (4, .int x4), (5, .int x5)]) : W p l e ({ frames := 4, cells := 0, slots := 0, locals := 103 } : Room) s m args below meth c H locs 0 0 (MQ below (va_Qi (fun (r : Int32) (u : va_W) => o1 = r ∧ wF ty ad o2 = u) (kz_B D ty A) A) args s 0 0 A) (F0 m 48 ls []) := by
  have C0 := C
  obtain ⟨hx, hb, hr, hts, hown, hlocks, hml, hK, hN, hE, hA⟩ := C
  unfold zX8_turnTop_s2_s20_48b at h
  refine lv_iload hx hb dX8_turnTop_48 (lv_at hl 3 rfl) ?_
  refine lv_iload hx hb dX8_turnTop_50 (lv_at hl 4 rfl) ?_
  refine lv_icmp_ge (tgt := 72) hx hb dX8_turnTop_52 (by decide) (fun c9 => ?_) (fun c9 => ?_)
  · rw [if_pos c9] at h
    refine lv_iconst (v := 0) hx hb dX8_turnTop_72 (by decide) ?_
    refine lv_istore (lv' := [(4, .int 0), (0, .ref (ad 2)), (1, .int x1), (3, .int x3), (5, .int x5)]) hx hb dX8_turnTop_73 hl (by decide) rfl (fun ls hl => ?_)
    exact WX8_turnTop_s2_s20_75 C0  _ _ _ _ _ _ _ _ h hP hD hS (lv_sub hl [1, 2, 3, 0] rfl)
  · rw [if_neg c9] at h
    refine lv_aload_n hx hb dX8_turnTop_55 rfl (lv_at hl 0 rfl) ?_
    refine lv_iload hx hb dX8_turnTop_56 (lv_at hl 3 rfl) ?_
    refine lv_iload hx hb dX8_turnTop_58 (lv_at hl 4 rfl) ?_
    obtain ⟨q3, h2, h⟩ := dV_some h
    refine dw_kv (va_runV (As := [.int x4, .int x5]) (rest := []) ⟨hx, hb, hml, hown, hts⟩ (qX8_exchange_s2 l D ty eo _ ad q x4 x5 q3 h2) (cwV 2 hts gX8_turnTop_X8_exchange rfl rfl rfl (by decide +kernel) ⟨Nat.le_of_ble_eq_true rfl, Nat.le_of_ble_eq_true rfl⟩) (dw_preV (ci := 8) (q0 := 2) hK hN hE hP hD hS hA rfl rfl) rfl rfl hl.1 rfl (lv_room (Nat.le_of_ble_eq_true rfl)) dX8_turnTop_60 ⟨Nat.le_of_ble_eq_true rfl, Nat.le_of_ble_eq_true rfl⟩) hD hS hA (fun u9 H locs hw hp hd hs => ?_)
    clear hP hD hS
    obtain rfl := hw
    have hP := hp; have hD := hd; have hS := hs; clear hp hd hs
    refine lv_iinc (v := x4 + 1) (lv' := [(4, .int (x4 + 1)), (0, .ref (ad 2)), (1, .int x1), (3, .int x3), (5, .int x5)]) hx hb dX8_turnTop_63 hl (k := 3) rfl rfl (by decide) rfl (fun ls hl => ?_)
    refine lv_iinc (v := x5 + (-1)) (lv' := [(5, .int (x5 + (-1))), (4, .int (x4 + 1)), (0, .ref (ad 2)), (1, .int x1), (3, .int x3)]) hx hb dX8_turnTop_66 hl (k := 4) rfl rfl (by decide) rfl (fun ls hl => ?_)
    refine lv_goto (tgt := 48) hx hb dX8_turnTop_69 (by decide) ?_
    exact hk48 _ _ _ _ _ _ _ _ h hP hD hS (lv_sub hl [2, 3, 4, 1, 0] rfl)
set_option maxHeartbeats 4000000 in
set_option maxRecDepth 100000 in
theorem WX8_turnTop_s2_s20_48 {p : Program} {l : Launch} {e : Env} {s : State} {m : MethodId} {args : Array Value} {below : List Frame} {meth : Method} {c : Code} {D : va_G} {ty : Nat → ClassId} {eo : Nat → Nat} {A : Nat → Prop} {ad : Nat → Nat} {o1 : Int32} {o2 : dK} (C : dc_C p s m args meth c cX8_turnTop (some .int) 6 RX8 wsX8_turnTop D ty eo A)   (n : Nat) (q : dK) (x1 : Int32) (x3 : Int32) (x4 : Int32) (x5 : Int32) (H : Heap) (locs : List Loc) (ls : Array Slot) (h : zX8_turnTop_s2_s20_48  n q x1 x3 x4 x5 = some (o1, o2)) (hP : va_P D vwCl (wF ty ad q) H) (hD : va_D A (wF ty ad q)) (hS : va_S A s.heap H locs) (hl : lv_has ls 6 [(0, .ref (ad 2)), (1, .int x1), (3, .int x3), (4, .int x4), (5, .int x5)]) : W p l e ({ frames := 4, cells := 0, slots := 0, locals := 103 } : Room) s m args below meth c H locs 0 0 (MQ below (va_Qi (fun (r : Int32) (u : va_W) => o1 = r ∧ wF ty ad o2 = u) (kz_B D ty A) A) args s 0 0 A) (F0 m 48 ls []) := by
  exact dFix_W (F := fun k (a : dK × Int32 × Int32 × Int32 × Int32) => zX8_turnTop_s2_s20_48b  (fun q x1 x3 x4 x5 => k (q, x1, x3, x4, x5)) a.1 a.2.1 a.2.2.1 a.2.2.2.1 a.2.2.2.2) (o := (o1, o2)) (P := fun (a : dK × Int32 × Int32 × Int32 × Int32) H locs ls => va_P D vwCl (wF ty ad a.1) H ∧ va_D A (wF ty ad a.1) ∧ va_S A s.heap H locs ∧ lv_has ls 6 [(0, .ref (ad 2)), (1, .int a.2.1), (3, .int a.2.2.1), (4, .int a.2.2.2.1), (5, .int a.2.2.2.2)]) (G := fun H locs ls => W p l e ({ frames := 4, cells := 0, slots := 0, locals := 103 } : Room) s m args below meth c H locs 0 0 (MQ below (va_Qi (fun (r : Int32) (u : va_W) => o1 = r ∧ wF ty ad o2 = u) (kz_B D ty A) A) args s 0 0 A) (F0 m 48 ls []))
    (fun k hk a H locs ls h hp => WX8_turnTop_s2_s20_48b C  (fun q x1 x3 x4 x5 H locs ls h h1 h2 h3 h4 => hk (q, x1, x3, x4, x5) H locs ls h ⟨h1, h2, h3, h4⟩) a.1 a.2.1 a.2.2.1 a.2.2.2.1 a.2.2.2.2 H locs ls h hp.1 hp.2.1 hp.2.2.1 hp.2.2.2) n (q, x1, x3, x4, x5) H locs ls h ⟨hP, hD, hS, hl⟩
set_option maxHeartbeats 4000000 in
set_option maxRecDepth 100000 in
theorem WX8_turnTop_s2_s20_30 {p : Program} {l : Launch} {e : Env} {s : State} {m : MethodId} {args : Array Value} {below : List Frame} {meth : Method} {c : Code} {D : va_G} {ty : Nat → ClassId} {eo : Nat → Nat} {A : Nat → Prop} {ad : Nat → Nat} {o1 : Int32} {o2 : dK} (C : dc_C p s m args meth c cX8_turnTop (some .int) 6 RX8 wsX8_turnTop D ty eo A)   (q : dK)  (H : Heap) (locs : List Loc) (ls : Array Slot) (h : zX8_turnTop_s2_s20_30  q = some (o1, o2)) (hP : va_P D vwCl (wF ty ad q) H) (hD : va_D A (wF ty ad q)) (hS : va_S A s.heap H locs) (hl : lv_has ls 6 []) : W p l e ({ frames := 4, cells := 0, slots := 0, locals := 103 } : Room) s m args below meth c H locs 0 0 (MQ below (va_Qi (fun (r : Int32) (u : va_W) => o1 = r ∧ wF ty ad o2 = u) (kz_B D ty A) A) args s 0 0 A) (F0 m 30 ls []) := by
  have C0 := C
  obtain ⟨hx, hb, hr, hts, hown, hlocks, hml, hK, hN, hE, hA⟩ := C
  unfold zX8_turnTop_s2_s20_30 at h
  refine lv_bipush (v := (-3)) hx hb dX8_turnTop_30 (by decide) ?_
  cases h
  exact kz_iret hx hb hr hlocks hP hK hD hS dX8_turnTop_32 ⟨rfl, rfl⟩
set_option maxHeartbeats 4000000 in
set_option maxRecDepth 100000 in
theorem WX8_turnTop_s2_s20_11 {p : Program} {l : Launch} {e : Env} {s : State} {m : MethodId} {args : Array Value} {below : List Frame} {meth : Method} {c : Code} {D : va_G} {ty : Nat → ClassId} {eo : Nat → Nat} {A : Nat → Prop} {ad : Nat → Nat} {o1 : Int32} {o2 : dK} (C : dc_C p s m args meth c cX8_turnTop (some .int) 6 RX8 wsX8_turnTop D ty eo A)   (q : dK)  (H : Heap) (locs : List Loc) (ls : Array Slot) (h : zX8_turnTop_s2_s20_11  q = some (o1, o2)) (hP : va_P D vwCl (wF ty ad q) H) (hD : va_D A (wF ty ad q)) (hS : va_S A s.heap H locs) (hl : lv_has ls 6 []) : W p l e ({ frames := 4, cells := 0, slots := 0, locals := 103 } : Room) s m args below meth c H locs 0 0 (MQ below (va_Qi (fun (r : Int32) (u : va_W) => o1 = r ∧ wF ty ad o2 = u) (kz_B D ty A) A) args s 0 0 A) (F0 m 11 ls []) := by
  have C0 := C
  obtain ⟨hx, hb, hr, hts, hown, hlocks, hml, hK, hN, hE, hA⟩ := C
  unfold zX8_turnTop_s2_s20_11 at h
  refine lv_iconst (v := (-1)) hx hb dX8_turnTop_11 (by decide) ?_
  cases h
  exact kz_iret hx hb hr hlocks hP hK hD hS dX8_turnTop_12 ⟨rfl, rfl⟩
set_option maxHeartbeats 4000000 in
set_option maxRecDepth 100000 in
theorem qX8_turnTop_s2_s20 (l : Launch) (D : va_G) (ty : Nat → ClassId) (eo : Nat → Nat) (sz : Nat) (ad : Nat → Nat) (q : dK) (p1 : Int32) (o1 : Int32) (o2 : dK) (h : zX8_turnTop_s2_s20 q p1 = some (o1, o2)) : Met l yX8_turnTop wsX8_turnTop ({ frames := 4, cells := 0, slots := 0, locals := 103 } : Room) (va_Pc [.ref (ad 2), .int p1, .ref (ad 20)] (kz_pre D ty eo (wF ty ad q) sz)) (va_Qi (fun (r : Int32) (u : va_W) => o1 = r ∧ wF ty ad o2 = u) (kz_B D ty (va_A (wF ty ad q) sz)) (va_A (wF ty ad q) sz)) 0 0 (va_A (wF ty ad q) sz) := by
  refine Met.ofW (cc := cX8_turnTop) (maxL := 6) (ret := (some .int)) (by decide) rfl ?_
  intro p e s m args below meth c s₁ B hml hv
  obtain ⟨rfl, hsz, hP, hK, hD0, hN, hE⟩ := hv
  have hx := B.exec
  have hb := B.bytes
  have hr := B.returns
  have hts := atoms_spec (ws := wsX8_turnTop) B.pre
  have hown : s.vm.findClass RX8 = some m.cls := findClass_of_methodNamed B.named
  have hlocks := B.notSynchronized
  subst hsz
  have hD := hD0.self (sz := s.heap.size)
  generalize hAe : va_A (wF ty ad q) s.heap.size = A at hD hE ⊢
  have hA : ∀ q : Nat, s.heap.size ≤ q → A q := fun q h => by rw [← hAe]; exact Or.inr h
  clear hAe
  have hS : va_S A s.heap s.heap [] := va_S.rf
  have hl := lv_entry ([.ref (ad 2), .int p1, .ref (ad 20)]) (n := 6) (Nat.le_of_ble_eq_true rfl)
  rw [lg_entry_eq]
  generalize (lg_sl ([.ref (ad 2), .int p1, .ref (ad 20)]) ++ List.replicate (6 - (lg_sl ([.ref (ad 2), .int p1, .ref (ad 20)])).length) Slot.unset).toArray = ls at hl ⊢
  have hl : lv_has ls 6 [(0, .ref (ad 2)), (1, .int p1), (2, .ref (ad 20))] := hl
  have C : dc_C p s m _ meth c cX8_turnTop (some .int) 6 RX8 wsX8_turnTop D ty eo A := ⟨hx, hb, hr, hts, hown, hlocks, hml, hK, hN, hE, hA⟩
  unfold zX8_turnTop_s2_s20 at h
  refine lv_iload_n hx hb dX8_turnTop_0 rfl (lv_at hl 1 rfl) ?_
  refine lv_iconst (v := 1) hx hb dX8_turnTop_1 (by decide) ?_
  refine lv_icmp_lt (tgt := 11) hx hb dX8_turnTop_2 (by decide) (fun c9 => ?_) (fun c9 => ?_)
  · rw [if_pos c9] at h
    exact WX8_turnTop_s2_s20_11 C  _ _ _ _ h hP hD hS (lv_sub hl [] rfl)
  · rw [if_neg c9] at h
    refine lv_iload_n hx hb dX8_turnTop_5 rfl (lv_at hl 1 rfl) ?_
    refine lv_bipush (v := 6) hx hb dX8_turnTop_6 (by decide) ?_
    refine lv_icmp_le (tgt := 13) hx hb dX8_turnTop_8 (by decide) (fun c9 => ?_) (fun c9 => ?_)
    · rw [if_pos c9] at h
      refine lv_iload_n hx hb dX8_turnTop_13 rfl (lv_at hl 1 rfl) ?_
      refine lv_aload_n hx hb dX8_turnTop_14 rfl (lv_at hl 0 rfl) ?_
      refine va_get (D := D) (ci := 8) (v := .int (q.1 2 2)) (C := RX8) (T := TX8) (N := 5) hx hb hts u9_wsX8_turnTop_X8 hown hK hP 2 rfl rfl 2 (by decide) (hts (.fieldLink RX8 18 "TurnedFloors$Tower" "floors" "I") f9_wsX8_turnTop_634) (fun _ h9 => h9) rfl dX8_turnTop_15 ?_
      refine lv_icmp_gt (tgt := 30) hx hb dX8_turnTop_18 (by decide) (fun c9 => ?_) (fun c9 => ?_)
      · rw [if_pos c9] at h
        exact WX8_turnTop_s2_s20_30 C  _ _ _ _ h hP hD hS (lv_sub hl [] rfl)
      · rw [if_neg c9] at h
        refine lv_aload_n hx hb dX8_turnTop_21 rfl (lv_at hl 2 rfl) ?_
        refine lv_aload_n hx hb dX8_turnTop_22 rfl (lv_at hl 0 rfl) ?_
        refine lv_iload_n hx hb dX8_turnTop_23 rfl (lv_at hl 1 rfl) ?_
        obtain ⟨r1, q3, h2, h⟩ := dB_some h
        refine dw_ki (va_runV (As := [.ref (ad 2), .int p1]) (rest := []) ⟨hx, hb, hml, hown, hts⟩ (qX1_bars_s20_s2 l D ty eo _ ad q p1 r1 q3 h2) (cwV 2 hts gX8_turnTop_X1_bars rfl rfl rfl (by decide +kernel) ⟨Nat.le_of_ble_eq_true rfl, Nat.le_of_ble_eq_true rfl⟩) (dw_preV (ci := 1) (q0 := 20) hK hN hE hP hD hS hA rfl rfl) rfl rfl hl.1 rfl (lv_room (Nat.le_of_ble_eq_true rfl)) dX8_turnTop_24 ⟨Nat.le_of_ble_eq_true rfl, Nat.le_of_ble_eq_true rfl⟩) hD hS hA (fun r9 u9 H locs hw hp hd hs => ?_)
        clear hP hD hS
        obtain ⟨rfl, rfl⟩ := hw
        have hP := hp; have hD := hd; have hS := hs; clear hp hd hs
        refine lv_if_eq (tgt := 33) hx hb dX8_turnTop_27 (by decide) (fun c9 => ?_) (fun c9 => ?_)
        · rw [if_pos c9] at h
          refine lv_aload_n hx hb dX8_turnTop_33 rfl (lv_at hl 2 rfl) ?_
          refine lv_aload_n hx hb dX8_turnTop_34 rfl (lv_at hl 0 rfl) ?_
          refine lv_iload_n hx hb dX8_turnTop_35 rfl (lv_at hl 1 rfl) ?_
          obtain ⟨r4, q6, h5, h⟩ := dB_some h
          refine dw_ki (va_runV (As := [.ref (ad 2), .int p1]) (rest := []) ⟨hx, hb, hml, hown, hts⟩ (qX1_payOf_s20_s2 l D ty eo _ ad q3 p1 r4 q6 h5) (cwV 2 hts gX8_turnTop_X1_payOf rfl rfl rfl (by decide +kernel) ⟨Nat.le_of_ble_eq_true rfl, Nat.le_of_ble_eq_true rfl⟩) (dw_preV (ci := 1) (q0 := 20) hK hN hE hP hD hS hA rfl rfl) rfl rfl hl.1 rfl (lv_room (Nat.le_of_ble_eq_true rfl)) dX8_turnTop_36 ⟨Nat.le_of_ble_eq_true rfl, Nat.le_of_ble_eq_true rfl⟩) hD hS hA (fun r9 u9 H locs hw hp hd hs => ?_)
          clear hP hD hS
          obtain ⟨rfl, rfl⟩ := hw
          have hP := hp; have hD := hd; have hS := hs; clear hp hd hs
          refine lv_istore_n (lv' := [(3, .int r4), (0, .ref (ad 2)), (1, .int p1), (2, .ref (ad 20))]) hx hb dX8_turnTop_39 rfl hl (by decide) rfl (fun ls hl => ?_)
          refine lv_iconst (v := 0) hx hb dX8_turnTop_40 (by decide) ?_
          refine lv_istore (lv' := [(4, .int 0), (3, .int r4), (0, .ref (ad 2)), (1, .int p1), (2, .ref (ad 20))]) hx hb dX8_turnTop_41 hl (by decide) rfl (fun ls hl => ?_)
          refine lv_iload_n hx hb dX8_turnTop_43 rfl (lv_at hl 3 rfl) ?_
          refine lv_iconst (v := 1) hx hb dX8_turnTop_44 (by decide) ?_
          refine lv_isub hx hb dX8_turnTop_45 ?_
          refine lv_istore (lv' := [(5, .int (p1 - 1 : Int32)), (4, .int 0), (3, .int r4), (0, .ref (ad 2)), (1, .int p1), (2, .ref (ad 20))]) hx hb dX8_turnTop_46 hl (by decide) rfl (fun ls hl => ?_)
          exact WX8_turnTop_s2_s20_48 C  _ _ _ _ _ _ _ _ _ h hP hD hS (lv_sub hl [3, 4, 2, 1, 0] rfl)
        · rw [if_neg c9] at h
          exact WX8_turnTop_s2_s20_30 C  _ _ _ _ h hP hD hS (lv_sub hl [] rfl)
    · rw [if_neg c9] at h
      exact WX8_turnTop_s2_s20_11 C  _ _ _ _ h hP hD hS (lv_sub hl [] rfl)

set_option maxHeartbeats 4000000 in
set_option maxRecDepth 100000 in
theorem WX8_rightAt_s2_10 {p : Program} {l : Launch} {e : Env} {s : State} {m : MethodId} {args : Array Value} {below : List Frame} {meth : Method} {c : Code} {D : va_G} {ty : Nat → ClassId} {eo : Nat → Nat} {A : Nat → Prop} {ad : Nat → Nat} {o1 : Int32} {o2 : dK} (C : dc_C p s m args meth c cX8_rightAt (some .int) 2 RX8 wsX8_rightAt D ty eo A)   (q : dK)  (H : Heap) (locs : List Loc) (ls : Array Slot) (h : zX8_rightAt_s2_10  q = some (o1, o2)) (hP : va_P D vwCl (wF ty ad q) H) (hD : va_D A (wF ty ad q)) (hS : va_S A s.heap H locs) (hl : lv_has ls 2 []) : W p l e ({ frames := 1, cells := 0, slots := 0, locals := 21 } : Room) s m args below meth c H locs 0 0 (MQ below (va_Qi (fun (r : Int32) (u : va_W) => o1 = r ∧ wF ty ad o2 = u) (kz_B D ty A) A) args s 0 0 A) (F0 m 10 ls []) := by
  have C0 := C
  obtain ⟨hx, hb, hr, hts, hown, hlocks, hml, hK, hN, hE, hA⟩ := C
  unfold zX8_rightAt_s2_10 at h
  refine lv_iconst (v := (-1)) hx hb dX8_rightAt_10 (by decide) ?_
  cases h
  exact kz_iret hx hb hr hlocks hP hK hD hS dX8_rightAt_11 ⟨rfl, rfl⟩
set_option maxHeartbeats 4000000 in
set_option maxRecDepth 100000 in
theorem qX8_rightAt_s2 (l : Launch) (D : va_G) (ty : Nat → ClassId) (eo : Nat → Nat) (sz : Nat) (ad : Nat → Nat) (q : dK) (p1 : Int32) (o1 : Int32) (o2 : dK) (h : zX8_rightAt_s2 q p1 = some (o1, o2)) : Met l yX8_rightAt wsX8_rightAt ({ frames := 1, cells := 0, slots := 0, locals := 21 } : Room) (va_Pc [.ref (ad 2), .int p1] (kz_pre D ty eo (wF ty ad q) sz)) (va_Qi (fun (r : Int32) (u : va_W) => o1 = r ∧ wF ty ad o2 = u) (kz_B D ty (va_A (wF ty ad q) sz)) (va_A (wF ty ad q) sz)) 0 0 (va_A (wF ty ad q) sz) := by
  refine Met.ofW (cc := cX8_rightAt) (maxL := 2) (ret := (some .int)) (by decide) rfl ?_
  intro p e s m args below meth c s₁ B hml hv
  obtain ⟨rfl, hsz, hP, hK, hD0, hN, hE⟩ := hv
  have hx := B.exec
  have hb := B.bytes
  have hr := B.returns
  have hts := atoms_spec (ws := wsX8_rightAt) B.pre
  have hown : s.vm.findClass RX8 = some m.cls := findClass_of_methodNamed B.named
  have hlocks := B.notSynchronized
  subst hsz
  have hD := hD0.self (sz := s.heap.size)
  generalize hAe : va_A (wF ty ad q) s.heap.size = A at hD hE ⊢
  have hA : ∀ q : Nat, s.heap.size ≤ q → A q := fun q h => by rw [← hAe]; exact Or.inr h
  clear hAe
  have hS : va_S A s.heap s.heap [] := va_S.rf
  have hl := lv_entry ([.ref (ad 2), .int p1]) (n := 2) (Nat.le_of_ble_eq_true rfl)
  rw [lg_entry_eq]
  generalize (lg_sl ([.ref (ad 2), .int p1]) ++ List.replicate (2 - (lg_sl ([.ref (ad 2), .int p1])).length) Slot.unset).toArray = ls at hl ⊢
  have hl : lv_has ls 2 [(0, .ref (ad 2)), (1, .int p1)] := hl
  have C : dc_C p s m _ meth c cX8_rightAt (some .int) 2 RX8 wsX8_rightAt D ty eo A := ⟨hx, hb, hr, hts, hown, hlocks, hml, hK, hN, hE, hA⟩
  unfold zX8_rightAt_s2 at h
  refine lv_iload_n hx hb dX8_rightAt_0 rfl (lv_at hl 1 rfl) ?_
  refine lv_if_lt (tgt := 10) hx hb dX8_rightAt_1 (by decide) (fun c9 => ?_) (fun c9 => ?_)
  · rw [if_pos c9] at h
    exact WX8_rightAt_s2_10 C  _ _ _ _ h hP hD hS (lv_sub hl [] rfl)
  · rw [if_neg c9] at h
    refine lv_iload_n hx hb dX8_rightAt_4 rfl (lv_at hl 1 rfl) ?_
    refine lv_bipush (v := 6) hx hb dX8_rightAt_5 (by decide) ?_
    refine lv_icmp_lt (tgt := 12) hx hb dX8_rightAt_7 (by decide) (fun c9 => ?_) (fun c9 => ?_)
    · rw [if_pos c9] at h
      refine lv_aload_n hx hb dX8_rightAt_12 rfl (lv_at hl 0 rfl) ?_
      refine lv_iload_n hx hb dX8_rightAt_13 rfl (lv_at hl 1 rfl) ?_
      obtain ⟨r1, q3, h2, h⟩ := dB_some h
      refine dw_ki (va_runV (As := [.int p1]) (rest := []) ⟨hx, hb, hml, hown, hts⟩ (qX8_isFloor_s2 l D ty eo _ ad q p1 r1 q3 h2) (cwV 1 hts gX8_rightAt_X8_isFloor rfl rfl rfl (by decide +kernel) ⟨Nat.le_of_ble_eq_true rfl, Nat.le_of_ble_eq_true rfl⟩) (dw_preV (ci := 8) (q0 := 2) hK hN hE hP hD hS hA rfl rfl) rfl rfl hl.1 rfl (lv_room (Nat.le_of_ble_eq_true rfl)) dX8_rightAt_14 ⟨Nat.le_of_ble_eq_true rfl, Nat.le_of_ble_eq_true rfl⟩) hD hS hA (fun r9 u9 H locs hw hp hd hs => ?_)
      clear hP hD hS
      obtain ⟨rfl, rfl⟩ := hw
      have hP := hp; have hD := hd; have hS := hs; clear hp hd hs
      refine lv_if_ne (tgt := 23) hx hb dX8_rightAt_17 (by decide) (fun c9 => ?_) (fun c9 => ?_)
      · rw [if_neg c9] at h
        refine lv_aload_n hx hb dX8_rightAt_23 rfl (lv_at hl 0 rfl) ?_
        refine va_get (D := D) (ci := 8) (v := .ref (ad 4)) (C := RX8) (T := TX8) (N := 5) hx hb hts u9_wsX8_rightAt_X8 hown hK hP 2 rfl rfl 1 (by decide) (hts (.fieldLink RX8 15 "TurnedFloors$Tower" "head" "[I") f9_wsX8_rightAt_636) (fun _ h9 => h9) rfl dX8_rightAt_24 ?_
        refine lv_iload_n hx hb dX8_rightAt_27 rfl (lv_at hl 1 rfl) ?_
        refine lv_iconst (v := 1) hx hb dX8_rightAt_28 (by decide) ?_
        refine lv_aload_n hx hb dX8_rightAt_29 rfl (lv_at hl 0 rfl) ?_
        refine va_get (D := D) (ci := 8) (v := .ref (ad 4)) (C := RX8) (T := TX8) (N := 5) hx hb hts u9_wsX8_rightAt_X8 hown hK hP 2 rfl rfl 1 (by decide) (hts (.fieldLink RX8 15 "TurnedFloors$Tower" "head" "[I") f9_wsX8_rightAt_636) (fun _ h9 => h9) rfl dX8_rightAt_30 ?_
        refine lv_iload_n hx hb dX8_rightAt_33 rfl (lv_at hl 1 rfl) ?_
        obtain ⟨g4, h⟩ := dG_some h
        refine va_iald hx hb hK hP 4 0 rfl rfl (dg_in g4) dX8_rightAt_34 ?_
        obtain ⟨v5, ev5, h⟩ := dL_some h
        refine kz_topi v5 ev5 ?_
        refine lv_isub hx hb dX8_rightAt_35 ?_
        obtain ⟨g6, h⟩ := dG_some h
        refine va_iast hx hb hK hP hD hS 4 0 rfl rfl (dg_in g6) dX8_rightAt_36 (fun H locs hp hd hs => ?_)
        obtain ⟨q7, eq7, h⟩ := dL_some h
        refine kz_re (w2 := wF ty ad q7) hp hd hs (by rw [← eq7]; exact wF_a4 ty ad q3 (Int32.toNatClampNeg p1) (1 - v5 : Int32)) ?_
        clear hp hd hs hP hD hS
        intro hP hD hS
        refine lv_aload_n hx hb dX8_rightAt_37 rfl (lv_at hl 0 rfl) ?_
        refine va_get (D := D) (ci := 8) (v := .ref (ad 4)) (C := RX8) (T := TX8) (N := 5) hx hb hts u9_wsX8_rightAt_X8 hown hK hP 2 rfl rfl 1 (by decide) (hts (.fieldLink RX8 15 "TurnedFloors$Tower" "head" "[I") f9_wsX8_rightAt_636) (fun _ h9 => h9) rfl dX8_rightAt_38 ?_
        refine lv_iload_n hx hb dX8_rightAt_41 rfl (lv_at hl 1 rfl) ?_
        obtain ⟨g8, h⟩ := dG_some h
        refine va_iald hx hb hK hP 4 0 rfl rfl (dg_in g8) dX8_rightAt_42 ?_
        obtain ⟨v9, ev9, h⟩ := dL_some h
        refine kz_topi v9 ev9 ?_
        cases h
        exact kz_iret hx hb hr hlocks hP hK hD hS dX8_rightAt_43 ⟨rfl, rfl⟩
      · rw [if_pos c9] at h
        refine lv_bipush (v := (-3)) hx hb dX8_rightAt_20 (by decide) ?_
        cases h
        exact kz_iret hx hb hr hlocks hP hK hD hS dX8_rightAt_22 ⟨rfl, rfl⟩
    · rw [if_neg c9] at h
      exact WX8_rightAt_s2_10 C  _ _ _ _ h hP hD hS (lv_sub hl [] rfl)

set_option maxHeartbeats 4000000 in
set_option maxRecDepth 100000 in
theorem WX8_swapAt_s2_9 {p : Program} {l : Launch} {e : Env} {s : State} {m : MethodId} {args : Array Value} {below : List Frame} {meth : Method} {c : Code} {D : va_G} {ty : Nat → ClassId} {eo : Nat → Nat} {A : Nat → Prop} {ad : Nat → Nat} {o1 : Int32} {o2 : dK} (C : dc_C p s m args meth c cX8_swapAt (some .int) 2 RX8 wsX8_swapAt D ty eo A)   (q : dK)  (H : Heap) (locs : List Loc) (ls : Array Slot) (h : zX8_swapAt_s2_9  q = some (o1, o2)) (hP : va_P D vwCl (wF ty ad q) H) (hD : va_D A (wF ty ad q)) (hS : va_S A s.heap H locs) (hl : lv_has ls 2 []) : W p l e ({ frames := 1, cells := 0, slots := 0, locals := 24 } : Room) s m args below meth c H locs 0 0 (MQ below (va_Qi (fun (r : Int32) (u : va_W) => o1 = r ∧ wF ty ad o2 = u) (kz_B D ty A) A) args s 0 0 A) (F0 m 9 ls []) := by
  have C0 := C
  obtain ⟨hx, hb, hr, hts, hown, hlocks, hml, hK, hN, hE, hA⟩ := C
  unfold zX8_swapAt_s2_9 at h
  refine lv_iconst (v := (-1)) hx hb dX8_swapAt_9 (by decide) ?_
  cases h
  exact kz_iret hx hb hr hlocks hP hK hD hS dX8_swapAt_10 ⟨rfl, rfl⟩
set_option maxHeartbeats 4000000 in
set_option maxRecDepth 100000 in
theorem qX8_swapAt_s2 (l : Launch) (D : va_G) (ty : Nat → ClassId) (eo : Nat → Nat) (sz : Nat) (ad : Nat → Nat) (q : dK) (p1 : Int32) (o1 : Int32) (o2 : dK) (h : zX8_swapAt_s2 q p1 = some (o1, o2)) : Met l yX8_swapAt wsX8_swapAt ({ frames := 1, cells := 0, slots := 0, locals := 24 } : Room) (va_Pc [.ref (ad 2), .int p1] (kz_pre D ty eo (wF ty ad q) sz)) (va_Qi (fun (r : Int32) (u : va_W) => o1 = r ∧ wF ty ad o2 = u) (kz_B D ty (va_A (wF ty ad q) sz)) (va_A (wF ty ad q) sz)) 0 0 (va_A (wF ty ad q) sz) := by
  refine Met.ofW (cc := cX8_swapAt) (maxL := 2) (ret := (some .int)) (by decide) rfl ?_
  intro p e s m args below meth c s₁ B hml hv
  obtain ⟨rfl, hsz, hP, hK, hD0, hN, hE⟩ := hv
  have hx := B.exec
  have hb := B.bytes
  have hr := B.returns
  have hts := atoms_spec (ws := wsX8_swapAt) B.pre
  have hown : s.vm.findClass RX8 = some m.cls := findClass_of_methodNamed B.named
  have hlocks := B.notSynchronized
  subst hsz
  have hD := hD0.self (sz := s.heap.size)
  generalize hAe : va_A (wF ty ad q) s.heap.size = A at hD hE ⊢
  have hA : ∀ q : Nat, s.heap.size ≤ q → A q := fun q h => by rw [← hAe]; exact Or.inr h
  clear hAe
  have hS : va_S A s.heap s.heap [] := va_S.rf
  have hl := lv_entry ([.ref (ad 2), .int p1]) (n := 2) (Nat.le_of_ble_eq_true rfl)
  rw [lg_entry_eq]
  generalize (lg_sl ([.ref (ad 2), .int p1]) ++ List.replicate (2 - (lg_sl ([.ref (ad 2), .int p1])).length) Slot.unset).toArray = ls at hl ⊢
  have hl : lv_has ls 2 [(0, .ref (ad 2)), (1, .int p1)] := hl
  have C : dc_C p s m _ meth c cX8_swapAt (some .int) 2 RX8 wsX8_swapAt D ty eo A := ⟨hx, hb, hr, hts, hown, hlocks, hml, hK, hN, hE, hA⟩
  unfold zX8_swapAt_s2 at h
  refine lv_iload_n hx hb dX8_swapAt_0 rfl (lv_at hl 1 rfl) ?_
  refine lv_if_lt (tgt := 9) hx hb dX8_swapAt_1 (by decide) (fun c9 => ?_) (fun c9 => ?_)
  · rw [if_pos c9] at h
    exact WX8_swapAt_s2_9 C  _ _ _ _ h hP hD hS (lv_sub hl [] rfl)
  · rw [if_neg c9] at h
    refine lv_iload_n hx hb dX8_swapAt_4 rfl (lv_at hl 1 rfl) ?_
    refine lv_iconst (v := 5) hx hb dX8_swapAt_5 (by decide) ?_
    refine lv_icmp_lt (tgt := 11) hx hb dX8_swapAt_6 (by decide) (fun c9 => ?_) (fun c9 => ?_)
    · rw [if_pos c9] at h
      refine lv_aload_n hx hb dX8_swapAt_11 rfl (lv_at hl 0 rfl) ?_
      refine lv_iload_n hx hb dX8_swapAt_12 rfl (lv_at hl 1 rfl) ?_
      refine lv_iconst (v := 1) hx hb dX8_swapAt_13 (by decide) ?_
      refine lv_iadd hx hb dX8_swapAt_14 ?_
      obtain ⟨r1, q3, h2, h⟩ := dB_some h
      refine dw_ki (va_runV (As := [.int (p1 + 1 : Int32)]) (rest := []) ⟨hx, hb, hml, hown, hts⟩ (qX8_isFloor_s2 l D ty eo _ ad q (p1 + 1 : Int32) r1 q3 h2) (cwV 1 hts gX8_swapAt_X8_isFloor rfl rfl rfl (by decide +kernel) ⟨Nat.le_of_ble_eq_true rfl, Nat.le_of_ble_eq_true rfl⟩) (dw_preV (ci := 8) (q0 := 2) hK hN hE hP hD hS hA rfl rfl) rfl rfl hl.1 rfl (lv_room (Nat.le_of_ble_eq_true rfl)) dX8_swapAt_15 ⟨Nat.le_of_ble_eq_true rfl, Nat.le_of_ble_eq_true rfl⟩) hD hS hA (fun r9 u9 H locs hw hp hd hs => ?_)
      clear hP hD hS
      obtain ⟨rfl, rfl⟩ := hw
      have hP := hp; have hD := hd; have hS := hs; clear hp hd hs
      refine lv_if_ne (tgt := 24) hx hb dX8_swapAt_18 (by decide) (fun c9 => ?_) (fun c9 => ?_)
      · rw [if_neg c9] at h
        refine lv_aload_n hx hb dX8_swapAt_24 rfl (lv_at hl 0 rfl) ?_
        refine lv_iload_n hx hb dX8_swapAt_25 rfl (lv_at hl 1 rfl) ?_
        refine lv_iload_n hx hb dX8_swapAt_26 rfl (lv_at hl 1 rfl) ?_
        refine lv_iconst (v := 1) hx hb dX8_swapAt_27 (by decide) ?_
        refine lv_iadd hx hb dX8_swapAt_28 ?_
        obtain ⟨q6, h5, h⟩ := dV_some h
        refine dw_kv (va_runV (As := [.int p1, .int (p1 + 1 : Int32)]) (rest := []) ⟨hx, hb, hml, hown, hts⟩ (qX8_exchange_s2 l D ty eo _ ad q3 p1 (p1 + 1 : Int32) q6 h5) (cwV 2 hts gX8_swapAt_X8_exchange rfl rfl rfl (by decide +kernel) ⟨Nat.le_of_ble_eq_true rfl, Nat.le_of_ble_eq_true rfl⟩) (dw_preV (ci := 8) (q0 := 2) hK hN hE hP hD hS hA rfl rfl) rfl rfl hl.1 rfl (lv_room (Nat.le_of_ble_eq_true rfl)) dX8_swapAt_29 ⟨Nat.le_of_ble_eq_true rfl, Nat.le_of_ble_eq_true rfl⟩) hD hS hA (fun u9 H locs hw hp hd hs => ?_)
        clear hP hD hS
        obtain rfl := hw
        have hP := hp; have hD := hd; have hS := hs; clear hp hd hs
        refine lv_aload_n hx hb dX8_swapAt_32 rfl (lv_at hl 0 rfl) ?_
        refine va_get (D := D) (ci := 8) (v := .ref (ad 3)) (C := RX8) (T := TX8) (N := 5) hx hb hts u9_wsX8_swapAt_X8 hown hK hP 2 rfl rfl 0 (by decide) (hts (.fieldLink RX8 9 "TurnedFloors$Tower" "rank" "[I") f9_wsX8_swapAt_638) (fun _ h9 => h9) rfl dX8_swapAt_33 ?_
        refine lv_iload_n hx hb dX8_swapAt_36 rfl (lv_at hl 1 rfl) ?_
        obtain ⟨g7, h⟩ := dG_some h
        refine va_iald hx hb hK hP 3 0 rfl rfl (dg_in g7) dX8_swapAt_37 ?_
        obtain ⟨v8, ev8, h⟩ := dL_some h
        refine kz_topi v8 ev8 ?_
        cases h
        exact kz_iret hx hb hr hlocks hP hK hD hS dX8_swapAt_38 ⟨rfl, rfl⟩
      · rw [if_pos c9] at h
        refine lv_bipush (v := (-3)) hx hb dX8_swapAt_21 (by decide) ?_
        cases h
        exact kz_iret hx hb hr hlocks hP hK hD hS dX8_swapAt_23 ⟨rfl, rfl⟩
    · rw [if_neg c9] at h
      exact WX8_swapAt_s2_9 C  _ _ _ _ h hP hD hS (lv_sub hl [] rfl)

set_option maxHeartbeats 4000000 in
set_option maxRecDepth 100000 in
theorem qJ6_bitCount_0f7a4 (l : Launch) (D : va_G) (ty : Nat → ClassId) (eo : Nat → Nat) (sz : Nat) (p1 : Int32) (o1 : Int32) (h : zJ6_bitCount_0f7a4 p1 = some o1) : Met l yJ6_bitCount_0f7a4 wsJ6_bitCount_0f7a4 ({ frames := 0, cells := 0, slots := 0, locals := 0 } : Room) (va_Pc [.int p1] (kz_pre D ty eo (([] : va_W)) sz)) (va_Qi (fun (r : Int32) (u : va_W) => o1 = r ∧ ([] : va_W) = u) (kz_B D ty (va_A (([] : va_W)) sz)) (va_A (([] : va_W)) sz)) 0 0 (va_A (([] : va_W)) sz) := by
  refine Met.ofW (cc := cJ6_bitCount_0f7a4) (maxL := 1) (ret := (some .int)) (by decide) rfl ?_
  intro p e s m args below meth c s₁ B hml hv
  obtain ⟨rfl, hsz, hP, hK, hD0, hN, hE⟩ := hv
  have hx := B.exec
  have hb := B.bytes
  have hr := B.returns
  have hts := atoms_spec (ws := wsJ6_bitCount_0f7a4) B.pre
  have hown : s.vm.findClass RJ6 = some m.cls := findClass_of_methodNamed B.named
  have hlocks := B.notSynchronized
  subst hsz
  have hD := hD0.self (sz := s.heap.size)
  generalize hAe : va_A (([] : va_W)) s.heap.size = A at hD hE ⊢
  have hA : ∀ q : Nat, s.heap.size ≤ q → A q := fun q h => by rw [← hAe]; exact Or.inr h
  clear hAe
  have hS : va_S A s.heap s.heap [] := va_S.rf
  have hl := lv_entry ([.int p1]) (n := 1) (Nat.le_of_ble_eq_true rfl)
  rw [lg_entry_eq]
  generalize (lg_sl ([.int p1]) ++ List.replicate (1 - (lg_sl ([.int p1])).length) Slot.unset).toArray = ls at hl ⊢
  have hl : lv_has ls 1 [(0, .int p1)] := hl
  have C : dc_C p s m _ meth c cJ6_bitCount_0f7a4 (some .int) 1 RJ6 wsJ6_bitCount_0f7a4 D ty eo A := ⟨hx, hb, hr, hts, hown, hlocks, hml, hK, hN, hE, hA⟩
  unfold zJ6_bitCount_0f7a4 at h
  refine lv_iload_n hx hb dJ6_bitCount_0f7a4_0 rfl (lv_at hl 0 rfl) ?_
  refine lv_iload_n hx hb dJ6_bitCount_0f7a4_1 rfl (lv_at hl 0 rfl) ?_
  refine lv_iconst (v := 1) hx hb dJ6_bitCount_0f7a4_2 (by decide) ?_
  refine lv_iushr (v := ((p1 : Int32).toUInt32 >>> ((1 : Int32).toUInt32 &&& Int32.toUInt32 31)).toInt32) hx hb dJ6_bitCount_0f7a4_3 rfl ?_
  obtain ⟨v1, ev1, h⟩ := dL_some h
  refine kz_topi v1 ev1 ?_
  refine lv_ldcw (v := 1431655765) hx hb hown (hts (.constant RJ6 265 1431655765) f9_wsJ6_bitCount_0f7a4_639) dJ6_bitCount_0f7a4_4 ?_
  refine lv_iand hx hb dJ6_bitCount_0f7a4_7 ?_
  refine lv_isub hx hb dJ6_bitCount_0f7a4_8 ?_
  refine lv_istore_n (lv' := [(0, .int (p1 - (v1 &&& 1431655765 : Int32)))]) hx hb dJ6_bitCount_0f7a4_9 rfl hl (by decide) rfl (fun ls hl => ?_)
  refine lv_iload_n hx hb dJ6_bitCount_0f7a4_10 rfl (lv_at hl 0 rfl) ?_
  refine lv_ldcw (v := 858993459) hx hb hown (hts (.constant RJ6 266 858993459) f9_wsJ6_bitCount_0f7a4_640) dJ6_bitCount_0f7a4_11 ?_
  refine lv_iand hx hb dJ6_bitCount_0f7a4_14 ?_
  refine lv_iload_n hx hb dJ6_bitCount_0f7a4_15 rfl (lv_at hl 0 rfl) ?_
  refine lv_iconst (v := 2) hx hb dJ6_bitCount_0f7a4_16 (by decide) ?_
  refine lv_iushr (v := ((p1 - (v1 &&& 1431655765 : Int32) : Int32).toUInt32 >>> ((2 : Int32).toUInt32 &&& Int32.toUInt32 31)).toInt32) hx hb dJ6_bitCount_0f7a4_17 rfl ?_
  obtain ⟨v2, ev2, h⟩ := dL_some h
  refine kz_topi v2 ev2 ?_
  refine lv_ldcw (v := 858993459) hx hb hown (hts (.constant RJ6 266 858993459) f9_wsJ6_bitCount_0f7a4_640) dJ6_bitCount_0f7a4_18 ?_
  refine lv_iand hx hb dJ6_bitCount_0f7a4_21 ?_
  refine lv_iadd hx hb dJ6_bitCount_0f7a4_22 ?_
  obtain ⟨v3, ev3, h⟩ := dL_some h
  refine kz_topi v3 ev3 ?_
  refine lv_istore_n (lv' := [(0, .int v3)]) hx hb dJ6_bitCount_0f7a4_23 rfl hl (by decide) rfl (fun ls hl => ?_)
  refine lv_iload_n hx hb dJ6_bitCount_0f7a4_24 rfl (lv_at hl 0 rfl) ?_
  refine lv_iload_n hx hb dJ6_bitCount_0f7a4_25 rfl (lv_at hl 0 rfl) ?_
  refine lv_iconst (v := 4) hx hb dJ6_bitCount_0f7a4_26 (by decide) ?_
  refine lv_iushr (v := ((v3 : Int32).toUInt32 >>> ((4 : Int32).toUInt32 &&& Int32.toUInt32 31)).toInt32) hx hb dJ6_bitCount_0f7a4_27 rfl ?_
  obtain ⟨v4, ev4, h⟩ := dL_some h
  refine kz_topi v4 ev4 ?_
  refine lv_iadd hx hb dJ6_bitCount_0f7a4_28 ?_
  refine lv_ldcw (v := 252645135) hx hb hown (hts (.constant RJ6 267 252645135) f9_wsJ6_bitCount_0f7a4_641) dJ6_bitCount_0f7a4_29 ?_
  refine lv_iand hx hb dJ6_bitCount_0f7a4_32 ?_
  refine lv_istore_n (lv' := [(0, .int ((v3 + v4) &&& 252645135 : Int32))]) hx hb dJ6_bitCount_0f7a4_33 rfl hl (by decide) rfl (fun ls hl => ?_)
  refine lv_iload_n hx hb dJ6_bitCount_0f7a4_34 rfl (lv_at hl 0 rfl) ?_
  refine lv_iload_n hx hb dJ6_bitCount_0f7a4_35 rfl (lv_at hl 0 rfl) ?_
  refine lv_bipush (v := 8) hx hb dJ6_bitCount_0f7a4_36 (by decide) ?_
  refine lv_iushr (v := ((((v3 + v4) &&& 252645135 : Int32) : Int32).toUInt32 >>> ((8 : Int32).toUInt32 &&& Int32.toUInt32 31)).toInt32) hx hb dJ6_bitCount_0f7a4_38 rfl ?_
  obtain ⟨v5, ev5, h⟩ := dL_some h
  refine kz_topi v5 ev5 ?_
  refine lv_iadd hx hb dJ6_bitCount_0f7a4_39 ?_
  refine lv_istore_n (lv' := [(0, .int (((v3 + v4) &&& 252645135 : Int32) + v5))]) hx hb dJ6_bitCount_0f7a4_40 rfl hl (by decide) rfl (fun ls hl => ?_)
  refine lv_iload_n hx hb dJ6_bitCount_0f7a4_41 rfl (lv_at hl 0 rfl) ?_
  refine lv_iload_n hx hb dJ6_bitCount_0f7a4_42 rfl (lv_at hl 0 rfl) ?_
  refine lv_bipush (v := 16) hx hb dJ6_bitCount_0f7a4_43 (by decide) ?_
  refine lv_iushr (v := ((((v3 + v4) &&& 252645135 : Int32) + v5 : Int32).toUInt32 >>> ((16 : Int32).toUInt32 &&& Int32.toUInt32 31)).toInt32) hx hb dJ6_bitCount_0f7a4_45 rfl ?_
  obtain ⟨v6, ev6, h⟩ := dL_some h
  refine kz_topi v6 ev6 ?_
  refine lv_iadd hx hb dJ6_bitCount_0f7a4_46 ?_
  refine lv_istore_n (lv' := [(0, .int ((((v3 + v4) &&& 252645135 : Int32) + v5) + v6))]) hx hb dJ6_bitCount_0f7a4_47 rfl hl (by decide) rfl (fun ls hl => ?_)
  refine lv_iload_n hx hb dJ6_bitCount_0f7a4_48 rfl (lv_at hl 0 rfl) ?_
  refine lv_bipush (v := 63) hx hb dJ6_bitCount_0f7a4_49 (by decide) ?_
  refine lv_iand hx hb dJ6_bitCount_0f7a4_51 ?_
  obtain ⟨v7, ev7, h⟩ := dL_some h
  refine kz_topi v7 ev7 ?_
  cases h
  exact kz_iret hx hb hr hlocks hP hK hD hS dJ6_bitCount_0f7a4_52 ⟨rfl, rfl⟩

set_option maxHeartbeats 4000000 in
set_option maxRecDepth 100000 in
theorem WX8_passYear_s2_s20_47b {p : Program} {l : Launch} {e : Env} {s : State} {m : MethodId} {args : Array Value} {below : List Frame} {meth : Method} {c : Code} {D : va_G} {ty : Nat → ClassId} {eo : Nat → Nat} {A : Nat → Prop} {ad : Nat → Nat} {o1 : Int32} {o2 : dK} (C : dc_C p s m args meth c cX8_passYear (some .int) 4 RX8 wsX8_passYear D ty eo A) {k47 : dK → Int32 → Int32 → Option (Int32 × dK)} (hk47 : ∀ (q : dK) (x2 : Int32) (x3 : Int32) (H : Heap) (locs : List Loc) (ls : Array Slot), k47 q x2 x3 = some (o1, o2) → va_P D vwCl (wF ty ad q) H → va_D A (wF ty ad q) → va_S A s.heap H locs → lv_has ls 4 [(0, .ref (ad 2)), (2, .int x2), (3, .int x3)] → W p l e ({ frames := 4, cells := 0, slots := 0, locals := 103 } : Room) s m args below meth c H locs 0 0 (MQ below (va_Qi (fun (r : Int32) (u : va_W) => o1 = r ∧ wF ty ad o2 = u) (kz_B D ty A) A) args s 0 0 A) (F0 m 47 ls [])) (q : dK) (x2 : Int32) (x3 : Int32) (H : Heap) (locs : List Loc) (ls : Array Slot) (h : zX8_passYear_s2_s20_47b k47 q x2 x3 = some (o1, o2)) (hP : va_P D vwCl (wF ty ad q) H) (hD : va_D A (wF ty ad q)) (hS : va_S A s.heap H locs) (hl : lv_has ls 4 [(0, .ref (ad 2)), (2, .int x2), (3, .int x3)]) : W p l e ({ frames := 4, cells := 0, slots := 0, locals := 103 } : Room) s m args below meth c H locs 0 0 (MQ below (va_Qi (fun (r : Int32) (u : va_W) => o1 = r ∧ wF ty ad o2 = u) (kz_B D ty A) A) args s 0 0 A) (F0 m 47 ls []) := by
  have C0 := C
  obtain ⟨hx, hb, hr, hts, hown, hlocks, hml, hK, hN, hE, hA⟩ := C
  unfold zX8_passYear_s2_s20_47b at h
  refine lv_iload_n hx hb dX8_passYear_47 rfl (lv_at hl 2 rfl) ?_
  refine lv_aload_n hx hb dX8_passYear_48 rfl (lv_at hl 0 rfl) ?_
  refine va_get (D := D) (ci := 8) (v := .int (q.1 2 2)) (C := RX8) (T := TX8) (N := 5) hx hb hts u9_wsX8_passYear_X8 hown hK hP 2 rfl rfl 2 (by decide) (hts (.fieldLink RX8 18 "TurnedFloors$Tower" "floors" "I") f9_wsX8_passYear_643) (fun _ h9 => h9) rfl dX8_passYear_49 ?_
  refine lv_icmp_ge (tgt := 75) hx hb dX8_passYear_52 (by decide) (fun c9 => ?_) (fun c9 => ?_)
  · rw [if_pos c9] at h
    refine lv_aload_n hx hb dX8_passYear_75 rfl (lv_at hl 0 rfl) ?_
    refine lv_dup hx hb dX8_passYear_76 rfl ?_
    refine va_get (D := D) (ci := 8) (v := .int (q.1 2 4)) (C := RX8) (T := TX8) (N := 5) hx hb hts u9_wsX8_passYear_X8 hown hK hP 2 rfl rfl 4 (by decide) (hts (.fieldLink RX8 25 "TurnedFloors$Tower" "year" "I") f9_wsX8_passYear_644) (fun _ h9 => h9) rfl dX8_passYear_77 ?_
    refine lv_iconst (v := 1) hx hb dX8_passYear_80 (by decide) ?_
    refine lv_iadd hx hb dX8_passYear_81 ?_
    refine va_put (D := D) (ci := 8) (v := .int ((q.1 2 4) + 1 : Int32)) (ty := .int) (C := RX8) (T := TX8) (N := 5) hx hb hts u9_wsX8_passYear_X8 tyX8 tyX8_ok nmX8 hown hK hP hD hS 2 rfl rfl 4 (by decide) (hts (.fieldLink RX8 25 "TurnedFloors$Tower" "year" "I") f9_wsX8_passYear_644) (fun _ h9 => h9) rfl (by decide +kernel) rfl rfl (Nat.le_of_ble_eq_true rfl) dX8_passYear_82 (fun H locs hp hd hs => ?_)
    obtain ⟨q1, eq1, h⟩ := dL_some h
    refine kz_re (w2 := wF ty ad q1) hp hd hs (by rw [← eq1]; exact wF_f2_4 ty ad q ((q.1 2 4) + 1 : Int32)) ?_
    clear hp hd hs hP hD hS
    intro hP hD hS
    refine lv_iload_n hx hb dX8_passYear_85 rfl (lv_at hl 1 rfl) ?_
    obtain ⟨r2, h3, h⟩ := dV_some h
    refine dw_ks (va_runS (As := [.int x2]) (rest := []) ⟨hx, hb, hml, hown, hts⟩ (qJ6_bitCount_0f7a4 l D ty eo _ x2 _ h3) (va_cwS 1 hts gX8_passYear_J6_bitCount_0f7a4 rfl rfl rfl (by decide +kernel) ⟨Nat.le_of_ble_eq_true rfl, Nat.le_of_ble_eq_true rfl⟩) (kz_preS hK hN hE hP hD hS hA [] (by decide) rfl) rfl rfl hl.1 rfl (lv_room (Nat.le_of_ble_eq_true rfl)) dX8_passYear_86 ⟨Nat.le_of_ble_eq_true rfl, Nat.le_of_ble_eq_true rfl⟩) hP hD hS hA (fun _ _ h9 => h9.2.symm) (fun r9 u9 H locs hw hp hd hs => ?_)
    obtain ⟨rfl, -⟩ := hw
    clear hP hD hS
    have hP := hp; have hD := hd; have hS := hs; clear hp hd hs
    cases h
    exact kz_iret hx hb hr hlocks hP hK hD hS dX8_passYear_89 ⟨rfl, rfl⟩
  · rw [if_neg c9] at h
    refine lv_aload_n hx hb dX8_passYear_55 rfl (lv_at hl 0 rfl) ?_
    refine va_get (D := D) (ci := 8) (v := .ref (ad 4)) (C := RX8) (T := TX8) (N := 5) hx hb hts u9_wsX8_passYear_X8 hown hK hP 2 rfl rfl 1 (by decide) (hts (.fieldLink RX8 15 "TurnedFloors$Tower" "head" "[I") f9_wsX8_passYear_645) (fun _ h9 => h9) rfl dX8_passYear_56 ?_
    refine lv_iload_n hx hb dX8_passYear_59 rfl (lv_at hl 2 rfl) ?_
    refine lv_dup2_11 hx hb dX8_passYear_60 rfl rfl ?_
    obtain ⟨g4, h⟩ := dG_some h
    refine va_iald hx hb hK hP 4 0 rfl rfl (dg_in g4) dX8_passYear_61 ?_
    obtain ⟨v5, ev5, h⟩ := dL_some h
    refine kz_topi v5 ev5 ?_
    refine lv_iload_n hx hb dX8_passYear_62 rfl (lv_at hl 1 rfl) ?_
    refine lv_iload_n hx hb dX8_passYear_63 rfl (lv_at hl 2 rfl) ?_
    refine lv_ishr hx hb dX8_passYear_64 ?_
    refine lv_iconst (v := 1) hx hb dX8_passYear_65 (by decide) ?_
    refine lv_iand hx hb dX8_passYear_66 ?_
    refine lv_ixor hx hb dX8_passYear_67 ?_
    obtain ⟨g6, h⟩ := dG_some h
    refine va_iast hx hb hK hP hD hS 4 0 rfl rfl (dg_in g6) dX8_passYear_68 (fun H locs hp hd hs => ?_)
    obtain ⟨q7, eq7, h⟩ := dL_some h
    refine kz_re (w2 := wF ty ad q7) hp hd hs (by rw [← eq7]; exact wF_a4 ty ad q (Int32.toNatClampNeg x3) (v5 ^^^ ((x2 >>> ((x3 : Int32) &&& 31)) &&& 1 : Int32))) ?_
    clear hp hd hs hP hD hS
    intro hP hD hS
    refine lv_iinc (v := x3 + 1) (lv' := [(3, .int (x3 + 1)), (0, .ref (ad 2)), (2, .int x2)]) hx hb dX8_passYear_69 hl (k := 2) rfl rfl (by decide) rfl (fun ls hl => ?_)
    refine lv_goto (tgt := 47) hx hb dX8_passYear_72 (by decide) ?_
    exact hk47 _ _ _ _ _ _ h hP hD hS (lv_sub hl [1, 2, 0] rfl)
set_option maxHeartbeats 4000000 in
set_option maxRecDepth 100000 in
theorem WX8_passYear_s2_s20_47 {p : Program} {l : Launch} {e : Env} {s : State} {m : MethodId} {args : Array Value} {below : List Frame} {meth : Method} {c : Code} {D : va_G} {ty : Nat → ClassId} {eo : Nat → Nat} {A : Nat → Prop} {ad : Nat → Nat} {o1 : Int32} {o2 : dK} (C : dc_C p s m args meth c cX8_passYear (some .int) 4 RX8 wsX8_passYear D ty eo A)   (n : Nat) (q : dK) (x2 : Int32) (x3 : Int32) (H : Heap) (locs : List Loc) (ls : Array Slot) (h : zX8_passYear_s2_s20_47  n q x2 x3 = some (o1, o2)) (hP : va_P D vwCl (wF ty ad q) H) (hD : va_D A (wF ty ad q)) (hS : va_S A s.heap H locs) (hl : lv_has ls 4 [(0, .ref (ad 2)), (2, .int x2), (3, .int x3)]) : W p l e ({ frames := 4, cells := 0, slots := 0, locals := 103 } : Room) s m args below meth c H locs 0 0 (MQ below (va_Qi (fun (r : Int32) (u : va_W) => o1 = r ∧ wF ty ad o2 = u) (kz_B D ty A) A) args s 0 0 A) (F0 m 47 ls []) := by
  exact dFix_W (F := fun k (a : dK × Int32 × Int32) => zX8_passYear_s2_s20_47b  (fun q x2 x3 => k (q, x2, x3)) a.1 a.2.1 a.2.2) (o := (o1, o2)) (P := fun (a : dK × Int32 × Int32) H locs ls => va_P D vwCl (wF ty ad a.1) H ∧ va_D A (wF ty ad a.1) ∧ va_S A s.heap H locs ∧ lv_has ls 4 [(0, .ref (ad 2)), (2, .int a.2.1), (3, .int a.2.2)]) (G := fun H locs ls => W p l e ({ frames := 4, cells := 0, slots := 0, locals := 103 } : Room) s m args below meth c H locs 0 0 (MQ below (va_Qi (fun (r : Int32) (u : va_W) => o1 = r ∧ wF ty ad o2 = u) (kz_B D ty A) A) args s 0 0 A) (F0 m 47 ls []))
    (fun k hk a H locs ls h hp => WX8_passYear_s2_s20_47b C  (fun q x2 x3 H locs ls h h1 h2 h3 h4 => hk (q, x2, x3) H locs ls h ⟨h1, h2, h3, h4⟩) a.1 a.2.1 a.2.2 H locs ls h hp.1 hp.2.1 hp.2.2.1 hp.2.2.2) n (q, x2, x3) H locs ls h ⟨hP, hD, hS, hl⟩
set_option maxHeartbeats 4000000 in
set_option maxRecDepth 100000 in
theorem WX8_passYear_s2_s20_17b {p : Program} {l : Launch} {e : Env} {s : State} {m : MethodId} {args : Array Value} {below : List Frame} {meth : Method} {c : Code} {D : va_G} {ty : Nat → ClassId} {eo : Nat → Nat} {A : Nat → Prop} {ad : Nat → Nat} {o1 : Int32} {o2 : dK} (C : dc_C p s m args meth c cX8_passYear (some .int) 4 RX8 wsX8_passYear D ty eo A) {k17 : dK → Int32 → Int32 → Option (Int32 × dK)} (hk17 : ∀ (q : dK) (x2 : Int32) (x3 : Int32) (H : Heap) (locs : List Loc) (ls : Array Slot), k17 q x2 x3 = some (o1, o2) → va_P D vwCl (wF ty ad q) H → va_D A (wF ty ad q) → va_S A s.heap H locs → lv_has ls 4 [(0, .ref (ad 2)), (1, .ref (ad 20)), (2, .int x2), (3, .int x3)] → W p l e ({ frames := 4, cells := 0, slots := 0, locals := 103 } : Room) s m args below meth c H locs 0 0 (MQ below (va_Qi (fun (r : Int32) (u : va_W) => o1 = r ∧ wF ty ad o2 = u) (kz_B D ty A) A) args s 0 0 A) (F0 m 17 ls [])) (q : dK) (x2 : Int32) (x3 : Int32) (H : Heap) (locs : List Loc) (ls : Array Slot) (h : zX8_passYear_s2_s20_17b k17 q x2 x3 = some (o1, o2)) (hP : va_P D vwCl (wF ty ad q) H) (hD : va_D A (wF ty ad q)) (hS : va_S A s.heap H locs) (hl : lv_has ls 4 [(0, .ref (ad 2)), (1, .ref (ad 20)), (2, .int x2), (3, .int x3)]) : W p l e ({ frames := 4, cells := 0, slots := 0, locals := 103 } : Room) s m args below meth c H locs 0 0 (MQ below (va_Qi (fun (r : Int32) (u : va_W) => o1 = r ∧ wF ty ad o2 = u) (kz_B D ty A) A) args s 0 0 A) (F0 m 17 ls []) := by
  have C0 := C
  obtain ⟨hx, hb, hr, hts, hown, hlocks, hml, hK, hN, hE, hA⟩ := C
  unfold zX8_passYear_s2_s20_17b at h
  refine lv_iload_n hx hb dX8_passYear_17 rfl (lv_at hl 3 rfl) ?_
  refine lv_aload_n hx hb dX8_passYear_18 rfl (lv_at hl 0 rfl) ?_
  refine va_get (D := D) (ci := 8) (v := .int (q.1 2 2)) (C := RX8) (T := TX8) (N := 5) hx hb hts u9_wsX8_passYear_X8 hown hK hP 2 rfl rfl 2 (by decide) (hts (.fieldLink RX8 18 "TurnedFloors$Tower" "floors" "I") f9_wsX8_passYear_643) (fun _ h9 => h9) rfl dX8_passYear_19 ?_
  refine lv_icmp_ge (tgt := 45) hx hb dX8_passYear_22 (by decide) (fun c9 => ?_) (fun c9 => ?_)
  · rw [if_pos c9] at h
    refine lv_iconst (v := 0) hx hb dX8_passYear_45 (by decide) ?_
    refine lv_istore_n (lv' := [(3, .int 0), (0, .ref (ad 2)), (1, .ref (ad 20)), (2, .int x2)]) hx hb dX8_passYear_46 rfl hl (by decide) rfl (fun ls hl => ?_)
    exact WX8_passYear_s2_s20_47 C0  _ _ _ _ _ _ _ h hP hD hS (lv_sub hl [1, 3, 0] rfl)
  · rw [if_neg c9] at h
    refine lv_iload_n hx hb dX8_passYear_25 rfl (lv_at hl 2 rfl) ?_
    refine lv_aload_n hx hb dX8_passYear_26 rfl (lv_at hl 1 rfl) ?_
    refine lv_aload_n hx hb dX8_passYear_27 rfl (lv_at hl 0 rfl) ?_
    refine lv_iload_n hx hb dX8_passYear_28 rfl (lv_at hl 3 rfl) ?_
    obtain ⟨r1, q3, h2, h⟩ := dB_some h
    refine dw_ki (va_runV (As := [.ref (ad 2), .int x3]) (rest := [.int x2]) ⟨hx, hb, hml, hown, hts⟩ (qX1_tips_s20_s2 l D ty eo _ ad q x3 r1 q3 h2) (cwV 2 hts gX8_passYear_X1_tips rfl rfl rfl (by decide +kernel) ⟨Nat.le_of_ble_eq_true rfl, Nat.le_of_ble_eq_true rfl⟩) (dw_preV (ci := 1) (q0 := 20) hK hN hE hP hD hS hA rfl rfl) rfl rfl hl.1 rfl (lv_room (Nat.le_of_ble_eq_true rfl)) dX8_passYear_29 ⟨Nat.le_of_ble_eq_true rfl, Nat.le_of_ble_eq_true rfl⟩) hD hS hA (fun r9 u9 H locs hw hp hd hs => ?_)
    clear hP hD hS
    obtain ⟨rfl, rfl⟩ := hw
    have hP := hp; have hD := hd; have hS := hs; clear hp hd hs
    obtain ⟨r4, h5, h⟩ := dV_some h
    refine dw_ks (va_runSN (As := [.int r1]) (rest := [.int x2]) ⟨hx, hb, hml, hown, hts⟩ (qX9_bit l D ty eo _ r1 _ h5) ⟨va_cnB 1 hts gX8_passYear_X9_bit_n79 rfl rfl rfl (hN.1 _ (by decide +kernel : (.methodLinkNest "TurnedFloors$Tower" 79 yX9_bit "TurnedFloors" : Cond) ∈ kzN1)) (hts (.initialized RX9) f9_wsX8_passYear_646) (by decide +kernel) ⟨Nat.le_of_ble_eq_true rfl, Nat.le_of_ble_eq_true rfl⟩, hts (.static yX9_bit) (by decide +kernel), trivial⟩ (kz_preS hK hN hE hP hD hS hA [] (by decide) rfl) rfl rfl hl.1 rfl (lv_room (Nat.le_of_ble_eq_true rfl)) dX8_passYear_32 ⟨Nat.le_of_ble_eq_true rfl, Nat.le_of_ble_eq_true rfl⟩) hP hD hS hA (fun _ _ h9 => h9.2.symm) (fun r9 u9 H locs hw hp hd hs => ?_)
    obtain ⟨rfl, -⟩ := hw
    clear hP hD hS
    have hP := hp; have hD := hd; have hS := hs; clear hp hd hs
    refine lv_iload_n hx hb dX8_passYear_35 rfl (lv_at hl 3 rfl) ?_
    refine lv_ishl hx hb dX8_passYear_36 ?_
    refine lv_ior hx hb dX8_passYear_37 ?_
    refine lv_istore_n (lv' := [(2, .int (x2 ||| (r4 <<< ((x3 : Int32) &&& 31)))), (0, .ref (ad 2)), (1, .ref (ad 20)), (3, .int x3)]) hx hb dX8_passYear_38 rfl hl (by decide) rfl (fun ls hl => ?_)
    refine lv_iinc (v := x3 + 1) (lv' := [(3, .int (x3 + 1)), (2, .int (x2 ||| (r4 <<< ((x3 : Int32) &&& 31)))), (0, .ref (ad 2)), (1, .ref (ad 20))]) hx hb dX8_passYear_39 hl (k := 3) rfl rfl (by decide) rfl (fun ls hl => ?_)
    refine lv_goto (tgt := 17) hx hb dX8_passYear_42 (by decide) ?_
    exact hk17 _ _ _ _ _ _ h hP hD hS (lv_sub hl [2, 3, 1, 0] rfl)
set_option maxHeartbeats 4000000 in
set_option maxRecDepth 100000 in
theorem WX8_passYear_s2_s20_17 {p : Program} {l : Launch} {e : Env} {s : State} {m : MethodId} {args : Array Value} {below : List Frame} {meth : Method} {c : Code} {D : va_G} {ty : Nat → ClassId} {eo : Nat → Nat} {A : Nat → Prop} {ad : Nat → Nat} {o1 : Int32} {o2 : dK} (C : dc_C p s m args meth c cX8_passYear (some .int) 4 RX8 wsX8_passYear D ty eo A)   (n : Nat) (q : dK) (x2 : Int32) (x3 : Int32) (H : Heap) (locs : List Loc) (ls : Array Slot) (h : zX8_passYear_s2_s20_17  n q x2 x3 = some (o1, o2)) (hP : va_P D vwCl (wF ty ad q) H) (hD : va_D A (wF ty ad q)) (hS : va_S A s.heap H locs) (hl : lv_has ls 4 [(0, .ref (ad 2)), (1, .ref (ad 20)), (2, .int x2), (3, .int x3)]) : W p l e ({ frames := 4, cells := 0, slots := 0, locals := 103 } : Room) s m args below meth c H locs 0 0 (MQ below (va_Qi (fun (r : Int32) (u : va_W) => o1 = r ∧ wF ty ad o2 = u) (kz_B D ty A) A) args s 0 0 A) (F0 m 17 ls []) := by
  exact dFix_W (F := fun k (a : dK × Int32 × Int32) => zX8_passYear_s2_s20_17b  (fun q x2 x3 => k (q, x2, x3)) a.1 a.2.1 a.2.2) (o := (o1, o2)) (P := fun (a : dK × Int32 × Int32) H locs ls => va_P D vwCl (wF ty ad a.1) H ∧ va_D A (wF ty ad a.1) ∧ va_S A s.heap H locs ∧ lv_has ls 4 [(0, .ref (ad 2)), (1, .ref (ad 20)), (2, .int a.2.1), (3, .int a.2.2)]) (G := fun H locs ls => W p l e ({ frames := 4, cells := 0, slots := 0, locals := 103 } : Room) s m args below meth c H locs 0 0 (MQ below (va_Qi (fun (r : Int32) (u : va_W) => o1 = r ∧ wF ty ad o2 = u) (kz_B D ty A) A) args s 0 0 A) (F0 m 17 ls []))
    (fun k hk a H locs ls h hp => WX8_passYear_s2_s20_17b C  (fun q x2 x3 H locs ls h h1 h2 h3 h4 => hk (q, x2, x3) H locs ls h ⟨h1, h2, h3, h4⟩) a.1 a.2.1 a.2.2 H locs ls h hp.1 hp.2.1 hp.2.2.1 hp.2.2.2) n (q, x2, x3) H locs ls h ⟨hP, hD, hS, hl⟩
set_option maxHeartbeats 4000000 in
set_option maxRecDepth 100000 in
theorem qX8_passYear_s2_s20 (l : Launch) (D : va_G) (ty : Nat → ClassId) (eo : Nat → Nat) (sz : Nat) (ad : Nat → Nat) (q : dK)  (o1 : Int32) (o2 : dK) (h : zX8_passYear_s2_s20 q = some (o1, o2)) : Met l yX8_passYear wsX8_passYear ({ frames := 4, cells := 0, slots := 0, locals := 103 } : Room) (va_Pc [.ref (ad 2), .ref (ad 20)] (kz_pre D ty eo (wF ty ad q) sz)) (va_Qi (fun (r : Int32) (u : va_W) => o1 = r ∧ wF ty ad o2 = u) (kz_B D ty (va_A (wF ty ad q) sz)) (va_A (wF ty ad q) sz)) 0 0 (va_A (wF ty ad q) sz) := by
  refine Met.ofW (cc := cX8_passYear) (maxL := 4) (ret := (some .int)) (by decide) rfl ?_
  intro p e s m args below meth c s₁ B hml hv
  obtain ⟨rfl, hsz, hP, hK, hD0, hN, hE⟩ := hv
  have hx := B.exec
  have hb := B.bytes
  have hr := B.returns
  have hts := atoms_spec (ws := wsX8_passYear) B.pre
  have hown : s.vm.findClass RX8 = some m.cls := findClass_of_methodNamed B.named
  have hlocks := B.notSynchronized
  subst hsz
  have hD := hD0.self (sz := s.heap.size)
  generalize hAe : va_A (wF ty ad q) s.heap.size = A at hD hE ⊢
  have hA : ∀ q : Nat, s.heap.size ≤ q → A q := fun q h => by rw [← hAe]; exact Or.inr h
  clear hAe
  have hS : va_S A s.heap s.heap [] := va_S.rf
  have hl := lv_entry ([.ref (ad 2), .ref (ad 20)]) (n := 4) (Nat.le_of_ble_eq_true rfl)
  rw [lg_entry_eq]
  generalize (lg_sl ([.ref (ad 2), .ref (ad 20)]) ++ List.replicate (4 - (lg_sl ([.ref (ad 2), .ref (ad 20)])).length) Slot.unset).toArray = ls at hl ⊢
  have hl : lv_has ls 4 [(0, .ref (ad 2)), (1, .ref (ad 20))] := hl
  have C : dc_C p s m _ meth c cX8_passYear (some .int) 4 RX8 wsX8_passYear D ty eo A := ⟨hx, hb, hr, hts, hown, hlocks, hml, hK, hN, hE, hA⟩
  unfold zX8_passYear_s2_s20 at h
  refine lv_aload_n hx hb dX8_passYear_0 rfl (lv_at hl 0 rfl) ?_
  refine va_get (D := D) (ci := 8) (v := .int (q.1 2 4)) (C := RX8) (T := TX8) (N := 5) hx hb hts u9_wsX8_passYear_X8 hown hK hP 2 rfl rfl 4 (by decide) (hts (.fieldLink RX8 25 "TurnedFloors$Tower" "year" "I") f9_wsX8_passYear_644) (fun _ h9 => h9) rfl dX8_passYear_1 ?_
  refine lv_sipush (v := 999) hx hb dX8_passYear_4 (by decide) ?_
  refine lv_icmp_lt (tgt := 13) hx hb dX8_passYear_7 (by decide) (fun c9 => ?_) (fun c9 => ?_)
  · rw [if_pos c9] at h
    refine lv_iconst (v := 0) hx hb dX8_passYear_13 (by decide) ?_
    refine lv_istore_n (lv' := [(2, .int 0), (0, .ref (ad 2)), (1, .ref (ad 20))]) hx hb dX8_passYear_14 rfl hl (by decide) rfl (fun ls hl => ?_)
    refine lv_iconst (v := 0) hx hb dX8_passYear_15 (by decide) ?_
    refine lv_istore_n (lv' := [(3, .int 0), (2, .int 0), (0, .ref (ad 2)), (1, .ref (ad 20))]) hx hb dX8_passYear_16 rfl hl (by decide) rfl (fun ls hl => ?_)
    exact WX8_passYear_s2_s20_17 C  _ _ _ _ _ _ _ h hP hD hS (lv_sub hl [2, 3, 1, 0] rfl)
  · rw [if_neg c9] at h
    refine lv_bipush (v := (-3)) hx hb dX8_passYear_10 (by decide) ?_
    cases h
    exact kz_iret hx hb hr hlocks hP hK hD hS dX8_passYear_12 ⟨rfl, rfl⟩

set_option maxHeartbeats 4000000 in
set_option maxRecDepth 100000 in
theorem qX8_act_s2_s20 (l : Launch) (D : va_G) (ty : Nat → ClassId) (eo : Nat → Nat) (sz : Nat) (ad : Nat → Nat) (q : dK) (p1 : Int32) (p2 : Int32) (o1 : Int32) (o2 : dK) (h : zX8_act_s2_s20 q p1 p2 = some (o1, o2)) : Met l yX8_act wsX8_act ({ frames := 5, cells := 0, slots := 0, locals := 128 } : Room) (va_Pc [.ref (ad 2), .int p1, .int p2, .ref (ad 20)] (kz_pre D ty eo (wF ty ad q) sz)) (va_Qi (fun (r : Int32) (u : va_W) => o1 = r ∧ wF ty ad o2 = u) (kz_B D ty (va_A (wF ty ad q) sz)) (va_A (wF ty ad q) sz)) 0 0 (va_A (wF ty ad q) sz) := by
  refine Met.ofW (cc := cX8_act) (maxL := 4) (ret := (some .int)) (by decide) rfl ?_
  intro p e s m args below meth c s₁ B hml hv
  obtain ⟨rfl, hsz, hP, hK, hD0, hN, hE⟩ := hv
  have hx := B.exec
  have hb := B.bytes
  have hr := B.returns
  have hts := atoms_spec (ws := wsX8_act) B.pre
  have hown : s.vm.findClass RX8 = some m.cls := findClass_of_methodNamed B.named
  have hlocks := B.notSynchronized
  subst hsz
  have hD := hD0.self (sz := s.heap.size)
  generalize hAe : va_A (wF ty ad q) s.heap.size = A at hD hE ⊢
  have hA : ∀ q : Nat, s.heap.size ≤ q → A q := fun q h => by rw [← hAe]; exact Or.inr h
  clear hAe
  have hS : va_S A s.heap s.heap [] := va_S.rf
  have hl := lv_entry ([.ref (ad 2), .int p1, .int p2, .ref (ad 20)]) (n := 4) (Nat.le_of_ble_eq_true rfl)
  rw [lg_entry_eq]
  generalize (lg_sl ([.ref (ad 2), .int p1, .int p2, .ref (ad 20)]) ++ List.replicate (4 - (lg_sl ([.ref (ad 2), .int p1, .int p2, .ref (ad 20)])).length) Slot.unset).toArray = ls at hl ⊢
  have hl : lv_has ls 4 [(0, .ref (ad 2)), (1, .int p1), (2, .int p2), (3, .ref (ad 20))] := hl
  have C : dc_C p s m _ meth c cX8_act (some .int) 4 RX8 wsX8_act D ty eo A := ⟨hx, hb, hr, hts, hown, hlocks, hml, hK, hN, hE, hA⟩
  unfold zX8_act_s2_s20 at h
  refine lv_iload_n hx hb dX8_act_0 rfl (lv_at hl 1 rfl) ?_
  by_cases c1 : p1 = 0
  · rw [if_pos c1] at h
    refine lv_tableIn (off := 31) (tgt := 32) hx hb dX8_act_1 (by rw [c1]; decide) (by rw [c1]; decide) (by rw [c1]; decide) (by decide) ?_
    refine lv_aload_n hx hb dX8_act_32 rfl (lv_at hl 0 rfl) ?_
    refine lv_iload_n hx hb dX8_act_33 rfl (lv_at hl 2 rfl) ?_
    refine lv_aload_n hx hb dX8_act_34 rfl (lv_at hl 3 rfl) ?_
    obtain ⟨r2, q4, h3, h⟩ := dB_some h
    refine dw_ki (va_runV (As := [.int p2, .ref (ad 20)]) (rest := []) ⟨hx, hb, hml, hown, hts⟩ (qX8_turnTop_s2_s20 l D ty eo _ ad q p2 r2 q4 h3) (cwV 2 hts gX8_act_X8_turnTop rfl rfl rfl (by decide +kernel) ⟨Nat.le_of_ble_eq_true rfl, Nat.le_of_ble_eq_true rfl⟩) (dw_preV (ci := 8) (q0 := 2) hK hN hE hP hD hS hA rfl rfl) rfl rfl hl.1 rfl (lv_room (Nat.le_of_ble_eq_true rfl)) dX8_act_35 ⟨Nat.le_of_ble_eq_true rfl, Nat.le_of_ble_eq_true rfl⟩) hD hS hA (fun r9 u9 H locs hw hp hd hs => ?_)
    clear hP hD hS
    obtain ⟨rfl, rfl⟩ := hw
    have hP := hp; have hD := hd; have hS := hs; clear hp hd hs
    cases h
    exact kz_iret hx hb hr hlocks hP hK hD hS dX8_act_38 ⟨rfl, rfl⟩
  rw [if_neg c1] at h
  by_cases c5 : p1 = 1
  · rw [if_pos c5] at h
    refine lv_tableIn (off := 38) (tgt := 39) hx hb dX8_act_1 (by rw [c5]; decide) (by rw [c5]; decide) (by rw [c5]; decide) (by decide) ?_
    refine lv_aload_n hx hb dX8_act_39 rfl (lv_at hl 0 rfl) ?_
    refine lv_iload_n hx hb dX8_act_40 rfl (lv_at hl 2 rfl) ?_
    obtain ⟨r6, q8, h7, h⟩ := dB_some h
    refine dw_ki (va_runV (As := [.int p2]) (rest := []) ⟨hx, hb, hml, hown, hts⟩ (qX8_rightAt_s2 l D ty eo _ ad q p2 r6 q8 h7) (cwV 1 hts gX8_act_X8_rightAt rfl rfl rfl (by decide +kernel) ⟨Nat.le_of_ble_eq_true rfl, Nat.le_of_ble_eq_true rfl⟩) (dw_preV (ci := 8) (q0 := 2) hK hN hE hP hD hS hA rfl rfl) rfl rfl hl.1 rfl (lv_room (Nat.le_of_ble_eq_true rfl)) dX8_act_41 ⟨Nat.le_of_ble_eq_true rfl, Nat.le_of_ble_eq_true rfl⟩) hD hS hA (fun r9 u9 H locs hw hp hd hs => ?_)
    clear hP hD hS
    obtain ⟨rfl, rfl⟩ := hw
    have hP := hp; have hD := hd; have hS := hs; clear hp hd hs
    cases h
    exact kz_iret hx hb hr hlocks hP hK hD hS dX8_act_44 ⟨rfl, rfl⟩
  rw [if_neg c5] at h
  by_cases c9 : p1 = 2
  · rw [if_pos c9] at h
    refine lv_tableIn (off := 44) (tgt := 45) hx hb dX8_act_1 (by rw [c9]; decide) (by rw [c9]; decide) (by rw [c9]; decide) (by decide) ?_
    refine lv_aload_n hx hb dX8_act_45 rfl (lv_at hl 0 rfl) ?_
    refine lv_iload_n hx hb dX8_act_46 rfl (lv_at hl 2 rfl) ?_
    obtain ⟨r10, q12, h11, h⟩ := dB_some h
    refine dw_ki (va_runV (As := [.int p2]) (rest := []) ⟨hx, hb, hml, hown, hts⟩ (qX8_swapAt_s2 l D ty eo _ ad q p2 r10 q12 h11) (cwV 1 hts gX8_act_X8_swapAt rfl rfl rfl (by decide +kernel) ⟨Nat.le_of_ble_eq_true rfl, Nat.le_of_ble_eq_true rfl⟩) (dw_preV (ci := 8) (q0 := 2) hK hN hE hP hD hS hA rfl rfl) rfl rfl hl.1 rfl (lv_room (Nat.le_of_ble_eq_true rfl)) dX8_act_47 ⟨Nat.le_of_ble_eq_true rfl, Nat.le_of_ble_eq_true rfl⟩) hD hS hA (fun r9 u9 H locs hw hp hd hs => ?_)
    clear hP hD hS
    obtain ⟨rfl, rfl⟩ := hw
    have hP := hp; have hD := hd; have hS := hs; clear hp hd hs
    cases h
    exact kz_iret hx hb hr hlocks hP hK hD hS dX8_act_50 ⟨rfl, rfl⟩
  rw [if_neg c9] at h
  by_cases c13 : p1 = 3
  · rw [if_pos c13] at h
    refine lv_tableIn (off := 50) (tgt := 51) hx hb dX8_act_1 (by rw [c13]; decide) (by rw [c13]; decide) (by rw [c13]; decide) (by decide) ?_
    refine lv_aload_n hx hb dX8_act_51 rfl (lv_at hl 0 rfl) ?_
    refine lv_aload_n hx hb dX8_act_52 rfl (lv_at hl 3 rfl) ?_
    obtain ⟨r14, q16, h15, h⟩ := dB_some h
    refine dw_ki (va_runV (As := [.ref (ad 20)]) (rest := []) ⟨hx, hb, hml, hown, hts⟩ (qX8_passYear_s2_s20 l D ty eo _ ad q  r14 q16 h15) (cwV 1 hts gX8_act_X8_passYear rfl rfl rfl (by decide +kernel) ⟨Nat.le_of_ble_eq_true rfl, Nat.le_of_ble_eq_true rfl⟩) (dw_preV (ci := 8) (q0 := 2) hK hN hE hP hD hS hA rfl rfl) rfl rfl hl.1 rfl (lv_room (Nat.le_of_ble_eq_true rfl)) dX8_act_53 ⟨Nat.le_of_ble_eq_true rfl, Nat.le_of_ble_eq_true rfl⟩) hD hS hA (fun r9 u9 H locs hw hp hd hs => ?_)
    clear hP hD hS
    obtain ⟨rfl, rfl⟩ := hw
    have hP := hp; have hD := hd; have hS := hs; clear hp hd hs
    cases h
    exact kz_iret hx hb hr hlocks hP hK hD hS dX8_act_56 ⟨rfl, rfl⟩
  rw [if_neg c13] at h
  refine lv_tableOut (tgt := 57) hx hb dX8_act_1 (by simp only [← Int32.toInt_inj, Int32.reduceToInt] at c1 c5 c9 c13; omega) (by decide) ?_
  refine lv_bipush (v := (-3)) hx hb dX8_act_57 (by decide) ?_
  cases h
  exact kz_iret hx hb hr hlocks hP hK hD hS dX8_act_59 ⟨rfl, rfl⟩

set_option maxHeartbeats 4000000 in
set_option maxRecDepth 100000 in
theorem WX0_keep_s10_45 {p : Program} {l : Launch} {e : Env} {s : State} {m : MethodId} {args : Array Value} {below : List Frame} {meth : Method} {c : Code} {D : va_G} {ty : Nat → ClassId} {eo : Nat → Nat} {A : Nat → Prop} {ad : Nat → Nat} {o2 : dK} (C : dc_C p s m args meth c cX0_keep none 4 RX0 wsX0_keep D ty eo A)   (q : dK) (x1 : Int32) (x2 : Int64) (H : Heap) (locs : List Loc) (ls : Array Slot) (h : zX0_keep_s10_45  q x1 x2 = some o2) (hP : va_P D vwCl (wF ty ad q) H) (hD : va_D A (wF ty ad q)) (hS : va_S A s.heap H locs) (hl : lv_has ls 4 [(0, .ref (ad 10)), (1, .int x1), (2, .long x2)]) : W p l e ({ frames := 1, cells := 0, slots := 0, locals := 40 } : Room) s m args below meth c H locs 0 0 (MQ below (va_Qv (fun (u : va_W) => wF ty ad o2 = u) (kz_B D ty A) A) args s 0 0 A) (F0 m 45 ls []) := by
  have C0 := C
  obtain ⟨hx, hb, hr, hts, hown, hlocks, hml, hK, hN, hE, hA⟩ := C
  unfold zX0_keep_s10_45 at h
  refine lv_aload_n hx hb dX0_keep_45 rfl (lv_at hl 0 rfl) ?_
  refine va_get (D := D) (ci := 0) (v := .ref (ad 11)) (C := RX0) (T := TX0) (N := 6) hx hb hts u9_wsX0_keep_X0 hown hK hP 10 rfl rfl 0 (by decide) (hts (.fieldLink RX0 9 "TurnedFloors$History" "towers" "[J") f9_wsX0_keep_648) (fun _ h9 => h9) rfl dX0_keep_46 ?_
  refine lv_aload_n hx hb dX0_keep_49 rfl (lv_at hl 0 rfl) ?_
  refine va_get (D := D) (ci := 0) (v := .int (q.1 10 2)) (C := RX0) (T := TX0) (N := 6) hx hb hts u9_wsX0_keep_X0 hown hK hP 10 rfl rfl 2 (by decide) (hts (.fieldLink RX0 19 "TurnedFloors$History" "kept" "I") f9_wsX0_keep_649) (fun _ h9 => h9) rfl dX0_keep_50 ?_
  refine lv_lload_n hx hb dX0_keep_53 rfl (lv_at hl 2 rfl) ?_
  obtain ⟨g1, h⟩ := dG_some h
  refine va_last hx hb hK hP hD hS 11 1 rfl rfl (dg_in g1) dX0_keep_54 (fun H locs hp hd hs => ?_)
  obtain ⟨q2, eq2, h⟩ := dL_some h
  refine kz_re (w2 := wF ty ad q2) hp hd hs (by rw [← eq2]; exact wF_a11 ty ad q (Int32.toNatClampNeg (q.1 10 2)) x2) ?_
  clear hp hd hs hP hD hS
  intro hP hD hS
  refine lv_aload_n hx hb dX0_keep_55 rfl (lv_at hl 0 rfl) ?_
  refine va_get (D := D) (ci := 0) (v := .ref (ad 12)) (C := RX0) (T := TX0) (N := 6) hx hb hts u9_wsX0_keep_X0 hown hK hP 10 rfl rfl 1 (by decide) (hts (.fieldLink RX0 15 "TurnedFloors$History" "kinds" "[I") f9_wsX0_keep_650) (fun _ h9 => h9) rfl dX0_keep_56 ?_
  refine lv_aload_n hx hb dX0_keep_59 rfl (lv_at hl 0 rfl) ?_
  refine va_get (D := D) (ci := 0) (v := .int (q2.1 10 2)) (C := RX0) (T := TX0) (N := 6) hx hb hts u9_wsX0_keep_X0 hown hK hP 10 rfl rfl 2 (by decide) (hts (.fieldLink RX0 19 "TurnedFloors$History" "kept" "I") f9_wsX0_keep_649) (fun _ h9 => h9) rfl dX0_keep_60 ?_
  refine lv_iload_n hx hb dX0_keep_63 rfl (lv_at hl 1 rfl) ?_
  obtain ⟨g3, h⟩ := dG_some h
  refine va_iast hx hb hK hP hD hS 12 0 rfl rfl (dg_in g3) dX0_keep_64 (fun H locs hp hd hs => ?_)
  obtain ⟨q4, eq4, h⟩ := dL_some h
  refine kz_re (w2 := wF ty ad q4) hp hd hs (by rw [← eq4]; exact wF_a12 ty ad q2 (Int32.toNatClampNeg (q2.1 10 2)) x1) ?_
  clear hp hd hs hP hD hS
  intro hP hD hS
  refine lv_aload_n hx hb dX0_keep_65 rfl (lv_at hl 0 rfl) ?_
  refine lv_dup hx hb dX0_keep_66 rfl ?_
  refine va_get (D := D) (ci := 0) (v := .int (q4.1 10 2)) (C := RX0) (T := TX0) (N := 6) hx hb hts u9_wsX0_keep_X0 hown hK hP 10 rfl rfl 2 (by decide) (hts (.fieldLink RX0 19 "TurnedFloors$History" "kept" "I") f9_wsX0_keep_649) (fun _ h9 => h9) rfl dX0_keep_67 ?_
  refine lv_iconst (v := 1) hx hb dX0_keep_70 (by decide) ?_
  refine lv_iadd hx hb dX0_keep_71 ?_
  refine va_put (D := D) (ci := 0) (v := .int ((q4.1 10 2) + 1 : Int32)) (ty := .int) (C := RX0) (T := TX0) (N := 6) hx hb hts u9_wsX0_keep_X0 tyX0 tyX0_ok nmX0 hown hK hP hD hS 10 rfl rfl 2 (by decide) (hts (.fieldLink RX0 19 "TurnedFloors$History" "kept" "I") f9_wsX0_keep_649) (fun _ h9 => h9) rfl (by decide +kernel) rfl rfl (Nat.le_of_ble_eq_true rfl) dX0_keep_72 (fun H locs hp hd hs => ?_)
  obtain ⟨q5, eq5, h⟩ := dL_some h
  refine kz_re (w2 := wF ty ad q5) hp hd hs (by rw [← eq5]; exact wF_f10_2 ty ad q4 ((q4.1 10 2) + 1 : Int32)) ?_
  clear hp hd hs hP hD hS
  intro hP hD hS
  cases h
  exact kz_vret hx hb hr hlocks hP hK hD hS dX0_keep_75 rfl
set_option maxHeartbeats 4000000 in
set_option maxRecDepth 100000 in
theorem qX0_keep_s10 (l : Launch) (D : va_G) (ty : Nat → ClassId) (eo : Nat → Nat) (sz : Nat) (ad : Nat → Nat) (q : dK) (p1 : Int32) (p2 : Int64) (o2 : dK) (h : zX0_keep_s10 q p1 p2 = some o2) : Met l yX0_keep wsX0_keep ({ frames := 1, cells := 0, slots := 0, locals := 40 } : Room) (va_Pc [.ref (ad 10), .int p1, .long p2] (kz_pre D ty eo (wF ty ad q) sz)) (va_Qv (fun (u : va_W) => wF ty ad o2 = u) (kz_B D ty (va_A (wF ty ad q) sz)) (va_A (wF ty ad q) sz)) 0 0 (va_A (wF ty ad q) sz) := by
  refine Met.ofW (cc := cX0_keep) (maxL := 4) (ret := none) (by decide) rfl ?_
  intro p e s m args below meth c s₁ B hml hv
  obtain ⟨rfl, hsz, hP, hK, hD0, hN, hE⟩ := hv
  have hx := B.exec
  have hb := B.bytes
  have hr := B.returns
  have hts := atoms_spec (ws := wsX0_keep) B.pre
  have hown : s.vm.findClass RX0 = some m.cls := findClass_of_methodNamed B.named
  have hlocks := B.notSynchronized
  subst hsz
  have hD := hD0.self (sz := s.heap.size)
  generalize hAe : va_A (wF ty ad q) s.heap.size = A at hD hE ⊢
  have hA : ∀ q : Nat, s.heap.size ≤ q → A q := fun q h => by rw [← hAe]; exact Or.inr h
  clear hAe
  have hS : va_S A s.heap s.heap [] := va_S.rf
  have hl := lv_entry ([.ref (ad 10), .int p1, .long p2]) (n := 4) (Nat.le_of_ble_eq_true rfl)
  rw [lg_entry_eq]
  generalize (lg_sl ([.ref (ad 10), .int p1, .long p2]) ++ List.replicate (4 - (lg_sl ([.ref (ad 10), .int p1, .long p2])).length) Slot.unset).toArray = ls at hl ⊢
  have hl : lv_has ls 4 [(0, .ref (ad 10)), (1, .int p1), (2, .long p2)] := hl
  have C : dc_C p s m _ meth c cX0_keep none 4 RX0 wsX0_keep D ty eo A := ⟨hx, hb, hr, hts, hown, hlocks, hml, hK, hN, hE, hA⟩
  unfold zX0_keep_s10 at h
  refine lv_aload_n hx hb dX0_keep_0 rfl (lv_at hl 0 rfl) ?_
  refine va_get (D := D) (ci := 0) (v := .int (q.1 10 2)) (C := RX0) (T := TX0) (N := 6) hx hb hts u9_wsX0_keep_X0 hown hK hP 10 rfl rfl 2 (by decide) (hts (.fieldLink RX0 19 "TurnedFloors$History" "kept" "I") f9_wsX0_keep_649) (fun _ h9 => h9) rfl dX0_keep_1 ?_
  refine lv_bipush (v := 16) hx hb dX0_keep_4 (by decide) ?_
  refine lv_icmp_lt (tgt := 45) hx hb dX0_keep_6 (by decide) (fun c9 => ?_) (fun c9 => ?_)
  · rw [if_pos c9] at h
    exact WX0_keep_s10_45 C  _ _ _ _ _ _ h hP hD hS (lv_sub hl [0, 1, 2] rfl)
  · rw [if_neg c9] at h
    refine lv_aload_n hx hb dX0_keep_9 rfl (lv_at hl 0 rfl) ?_
    refine va_get (D := D) (ci := 0) (v := .ref (ad 11)) (C := RX0) (T := TX0) (N := 6) hx hb hts u9_wsX0_keep_X0 hown hK hP 10 rfl rfl 0 (by decide) (hts (.fieldLink RX0 9 "TurnedFloors$History" "towers" "[J") f9_wsX0_keep_648) (fun _ h9 => h9) rfl dX0_keep_10 ?_
    refine lv_iconst (v := 1) hx hb dX0_keep_13 (by decide) ?_
    refine lv_aload_n hx hb dX0_keep_14 rfl (lv_at hl 0 rfl) ?_
    refine va_get (D := D) (ci := 0) (v := .ref (ad 11)) (C := RX0) (T := TX0) (N := 6) hx hb hts u9_wsX0_keep_X0 hown hK hP 10 rfl rfl 0 (by decide) (hts (.fieldLink RX0 9 "TurnedFloors$History" "towers" "[J") f9_wsX0_keep_648) (fun _ h9 => h9) rfl dX0_keep_15 ?_
    refine lv_iconst (v := 0) hx hb dX0_keep_18 (by decide) ?_
    refine lv_bipush (v := 15) hx hb dX0_keep_19 (by decide) ?_
    refine va_copyl hx hb (hml.trans hl.1.symm) hown (hts (.methodLink RX0 32 arraycopyName) f9_wsX0_keep_651) (hts (.native arraycopyName) f9_wsX0_keep_652) (hts (.static arraycopyName) f9_wsX0_keep_653) (hts (.initialized "java/lang/System") f9_wsX0_keep_654) hK hP hD hS 11 11 1 1 rfl rfl rfl rfl rfl (by decide) (by decide) (by decide) (by decide) (by decide) (fun _ _ => rfl) (Nat.le_of_ble_eq_true rfl) (Nat.le_of_ble_eq_true rfl) dX0_keep_21 (fun H locs hp hd hs => ?_)
    obtain ⟨q1, eq1, h⟩ := dL_some h
    refine kz_re (w2 := wF ty ad q1) hp hd hs (by rw [← eq1]; exact rfl) ?_
    clear hp hd hs hP hD hS
    intro hP hD hS
    refine lv_aload_n hx hb dX0_keep_24 rfl (lv_at hl 0 rfl) ?_
    refine va_get (D := D) (ci := 0) (v := .ref (ad 12)) (C := RX0) (T := TX0) (N := 6) hx hb hts u9_wsX0_keep_X0 hown hK hP 10 rfl rfl 1 (by decide) (hts (.fieldLink RX0 15 "TurnedFloors$History" "kinds" "[I") f9_wsX0_keep_650) (fun _ h9 => h9) rfl dX0_keep_25 ?_
    refine lv_iconst (v := 1) hx hb dX0_keep_28 (by decide) ?_
    refine lv_aload_n hx hb dX0_keep_29 rfl (lv_at hl 0 rfl) ?_
    refine va_get (D := D) (ci := 0) (v := .ref (ad 12)) (C := RX0) (T := TX0) (N := 6) hx hb hts u9_wsX0_keep_X0 hown hK hP 10 rfl rfl 1 (by decide) (hts (.fieldLink RX0 15 "TurnedFloors$History" "kinds" "[I") f9_wsX0_keep_650) (fun _ h9 => h9) rfl dX0_keep_30 ?_
    refine lv_iconst (v := 0) hx hb dX0_keep_33 (by decide) ?_
    refine lv_bipush (v := 15) hx hb dX0_keep_34 (by decide) ?_
    refine va_copyi hx hb (hml.trans hl.1.symm) hown (hts (.methodLink RX0 32 arraycopyName) f9_wsX0_keep_651) (hts (.native arraycopyName) f9_wsX0_keep_652) (hts (.static arraycopyName) f9_wsX0_keep_653) (hts (.initialized "java/lang/System") f9_wsX0_keep_654) hK hP hD hS 12 12 0 0 rfl rfl rfl rfl rfl (by decide) (by decide) (by decide) (by decide) (by decide) (fun _ _ => rfl) (Nat.le_of_ble_eq_true rfl) (Nat.le_of_ble_eq_true rfl) dX0_keep_36 (fun H locs hp hd hs => ?_)
    obtain ⟨q2, eq2, h⟩ := dL_some h
    refine kz_re (w2 := wF ty ad q2) hp hd hs (by rw [← eq2]; exact rfl) ?_
    clear hp hd hs hP hD hS
    intro hP hD hS
    refine lv_aload_n hx hb dX0_keep_39 rfl (lv_at hl 0 rfl) ?_
    refine lv_bipush (v := 15) hx hb dX0_keep_40 (by decide) ?_
    refine va_put (D := D) (ci := 0) (v := .int 15) (ty := .int) (C := RX0) (T := TX0) (N := 6) hx hb hts u9_wsX0_keep_X0 tyX0 tyX0_ok nmX0 hown hK hP hD hS 10 rfl rfl 2 (by decide) (hts (.fieldLink RX0 19 "TurnedFloors$History" "kept" "I") f9_wsX0_keep_649) (fun _ h9 => h9) rfl (by decide +kernel) rfl rfl (Nat.le_of_ble_eq_true rfl) dX0_keep_42 (fun H locs hp hd hs => ?_)
    obtain ⟨q3, eq3, h⟩ := dL_some h
    refine kz_re (w2 := wF ty ad q3) hp hd hs (by rw [← eq3]; exact wF_f10_2 ty ad q2 15) ?_
    clear hp hd hs hP hD hS
    intro hP hD hS
    exact WX0_keep_s10_45 C  _ _ _ _ _ _ h hP hD hS (lv_sub hl [0, 1, 2] rfl)

set_option maxHeartbeats 4000000 in
set_option maxRecDepth 100000 in
theorem WX8_unpack_s2_31b {p : Program} {l : Launch} {e : Env} {s : State} {m : MethodId} {args : Array Value} {below : List Frame} {meth : Method} {c : Code} {D : va_G} {ty : Nat → ClassId} {eo : Nat → Nat} {A : Nat → Prop} {ad : Nat → Nat} {o2 : dK} (C : dc_C p s m args meth c cX8_unpack none 6 RX8 wsX8_unpack D ty eo A) {k31 : dK → Int64 → Int32 → Option (dK)} (hk31 : ∀ (q : dK) (x3 : Int64) (x5 : Int32) (H : Heap) (locs : List Loc) (ls : Array Slot), k31 q x3 x5 = some o2 → va_P D vwCl (wF ty ad q) H → va_D A (wF ty ad q) → va_S A s.heap H locs → lv_has ls 6 [(0, .ref (ad 2)), (3, .long x3), (5, .int x5)] → W p l e ({ frames := 1, cells := 0, slots := 0, locals := 21 } : Room) s m args below meth c H locs 0 0 (MQ below (va_Qv (fun (u : va_W) => wF ty ad o2 = u) (kz_B D ty A) A) args s 0 0 A) (F0 m 31 ls [])) (q : dK) (x3 : Int64) (x5 : Int32) (H : Heap) (locs : List Loc) (ls : Array Slot) (h : zX8_unpack_s2_31b k31 q x3 x5 = some o2) (hP : va_P D vwCl (wF ty ad q) H) (hD : va_D A (wF ty ad q)) (hS : va_S A s.heap H locs) (hl : lv_has ls 6 [(0, .ref (ad 2)), (3, .long x3), (5, .int x5)]) : W p l e ({ frames := 1, cells := 0, slots := 0, locals := 21 } : Room) s m args below meth c H locs 0 0 (MQ below (va_Qv (fun (u : va_W) => wF ty ad o2 = u) (kz_B D ty A) A) args s 0 0 A) (F0 m 31 ls []) := by
  have C0 := C
  obtain ⟨hx, hb, hr, hts, hown, hlocks, hml, hK, hN, hE, hA⟩ := C
  unfold zX8_unpack_s2_31b at h
  refine lv_iload hx hb dX8_unpack_31 (lv_at hl 2 rfl) ?_
  refine lv_if_lt (tgt := 72) hx hb dX8_unpack_33 (by decide) (fun c9 => ?_) (fun c9 => ?_)
  · rw [if_pos c9] at h
    refine lv_aload_n hx hb dX8_unpack_72 rfl (lv_at hl 0 rfl) ?_
    refine lv_bipush (v := 6) hx hb dX8_unpack_73 (by decide) ?_
    refine lv_lload_n hx hb dX8_unpack_75 rfl (lv_at hl 1 rfl) ?_
    refine lv_l2i (v := Int64.toInt32 x3) hx hb dX8_unpack_76 rfl ?_
    refine va_mmin hx hb (hml.trans hl.1.symm) hown (hts (.methodLink RX8 41 Lib.Math.min.name) f9_wsX8_unpack_656) (hts (.static Lib.Math.min.name) f9_wsX8_unpack_657) (hts (.initialized "java/lang/Math") f9_wsX8_unpack_658) (hts (.code Lib.Math.min.name Lib.Math.min.code 2 (some .int)) f9_wsX8_unpack_659) (Nat.le_of_ble_eq_true rfl) (Nat.le_of_ble_eq_true rfl) (Nat.le_of_ble_eq_true rfl) (Nat.le_of_ble_eq_true rfl) dX8_unpack_77 ?_
    refine kz_topi (mnI 6 (Int64.toInt32 x3)) rfl ?_
    refine va_put (D := D) (ci := 8) (v := .int (mnI 6 (Int64.toInt32 x3))) (ty := .int) (C := RX8) (T := TX8) (N := 5) hx hb hts u9_wsX8_unpack_X8 tyX8 tyX8_ok nmX8 hown hK hP hD hS 2 rfl rfl 2 (by decide) (hts (.fieldLink RX8 18 "TurnedFloors$Tower" "floors" "I") f9_wsX8_unpack_660) (fun _ h9 => h9) rfl (by decide +kernel) rfl rfl (Nat.le_of_ble_eq_true rfl) dX8_unpack_80 (fun H locs hp hd hs => ?_)
    obtain ⟨q1, eq1, h⟩ := dL_some h
    refine kz_re (w2 := wF ty ad q1) hp hd hs (by rw [← eq1]; exact wF_f2_2 ty ad q (mnI 6 (Int64.toInt32 x3))) ?_
    clear hp hd hs hP hD hS
    intro hP hD hS
    cases h
    exact kz_vret hx hb hr hlocks hP hK hD hS dX8_unpack_83 rfl
  · rw [if_neg c9] at h
    refine lv_aload_n hx hb dX8_unpack_36 rfl (lv_at hl 0 rfl) ?_
    refine va_get (D := D) (ci := 8) (v := .ref (ad 4)) (C := RX8) (T := TX8) (N := 5) hx hb hts u9_wsX8_unpack_X8 hown hK hP 2 rfl rfl 1 (by decide) (hts (.fieldLink RX8 15 "TurnedFloors$Tower" "head" "[I") f9_wsX8_unpack_661) (fun _ h9 => h9) rfl dX8_unpack_37 ?_
    refine lv_iload hx hb dX8_unpack_40 (lv_at hl 2 rfl) ?_
    refine lv_lload_n hx hb dX8_unpack_42 rfl (lv_at hl 1 rfl) ?_
    refine lv_lconst (v := 1) hx hb dX8_unpack_43 (by decide) ?_
    refine lv_land hx hb dX8_unpack_44 ?_
    refine lv_l2i (v := Int64.toInt32 (x3 &&& 1 : Int64)) hx hb dX8_unpack_45 rfl ?_
    obtain ⟨g2, h⟩ := dG_some h
    refine va_iast hx hb hK hP hD hS 4 0 rfl rfl (dg_in g2) dX8_unpack_46 (fun H locs hp hd hs => ?_)
    obtain ⟨q3, eq3, h⟩ := dL_some h
    refine kz_re (w2 := wF ty ad q3) hp hd hs (by rw [← eq3]; exact wF_a4 ty ad q (Int32.toNatClampNeg x5) (Int64.toInt32 (x3 &&& 1 : Int64))) ?_
    clear hp hd hs hP hD hS
    intro hP hD hS
    refine lv_aload_n hx hb dX8_unpack_47 rfl (lv_at hl 0 rfl) ?_
    refine va_get (D := D) (ci := 8) (v := .ref (ad 3)) (C := RX8) (T := TX8) (N := 5) hx hb hts u9_wsX8_unpack_X8 hown hK hP 2 rfl rfl 0 (by decide) (hts (.fieldLink RX8 9 "TurnedFloors$Tower" "rank" "[I") f9_wsX8_unpack_662) (fun _ h9 => h9) rfl dX8_unpack_48 ?_
    refine lv_iload hx hb dX8_unpack_51 (lv_at hl 2 rfl) ?_
    refine lv_lload_n hx hb dX8_unpack_53 rfl (lv_at hl 1 rfl) ?_
    refine lv_iconst (v := 1) hx hb dX8_unpack_54 (by decide) ?_
    refine lv_lshr (v := x3 >>> (Int32.toInt64 (1 : Int32) &&& 63)) hx hb dX8_unpack_55 rfl ?_
    refine lv_ldc2 (v := 7) hx hb hown (hts (.constantLong RX8 39 7) f9_wsX8_unpack_663) dX8_unpack_56 ?_
    refine lv_land hx hb dX8_unpack_59 ?_
    refine lv_l2i (v := Int64.toInt32 ((x3 >>> (Int32.toInt64 (1 : Int32) &&& 63)) &&& 7 : Int64)) hx hb dX8_unpack_60 rfl ?_
    obtain ⟨g4, h⟩ := dG_some h
    refine va_iast hx hb hK hP hD hS 3 0 rfl rfl (dg_in g4) dX8_unpack_61 (fun H locs hp hd hs => ?_)
    obtain ⟨q5, eq5, h⟩ := dL_some h
    refine kz_re (w2 := wF ty ad q5) hp hd hs (by rw [← eq5]; exact wF_a3 ty ad q3 (Int32.toNatClampNeg x5) (Int64.toInt32 ((x3 >>> (Int32.toInt64 (1 : Int32) &&& 63)) &&& 7 : Int64))) ?_
    clear hp hd hs hP hD hS
    intro hP hD hS
    refine lv_lload_n hx hb dX8_unpack_62 rfl (lv_at hl 1 rfl) ?_
    refine lv_iconst (v := 4) hx hb dX8_unpack_63 (by decide) ?_
    refine lv_lshr (v := x3 >>> (Int32.toInt64 (4 : Int32) &&& 63)) hx hb dX8_unpack_64 rfl ?_
    refine lv_lstore_n (lv' := [(3, .long (x3 >>> (Int32.toInt64 (4 : Int32) &&& 63))), (0, .ref (ad 2)), (5, .int x5)]) hx hb dX8_unpack_65 rfl hl (by decide) rfl (fun ls hl => ?_)
    refine lv_iinc (v := x5 + (-1)) (lv' := [(5, .int (x5 + (-1))), (3, .long (x3 >>> (Int32.toInt64 (4 : Int32) &&& 63))), (0, .ref (ad 2))]) hx hb dX8_unpack_66 hl (k := 2) rfl rfl (by decide) rfl (fun ls hl => ?_)
    refine lv_goto (tgt := 31) hx hb dX8_unpack_69 (by decide) ?_
    exact hk31 _ _ _ _ _ _ h hP hD hS (lv_sub hl [2, 1, 0] rfl)
set_option maxHeartbeats 4000000 in
set_option maxRecDepth 100000 in
theorem WX8_unpack_s2_31 {p : Program} {l : Launch} {e : Env} {s : State} {m : MethodId} {args : Array Value} {below : List Frame} {meth : Method} {c : Code} {D : va_G} {ty : Nat → ClassId} {eo : Nat → Nat} {A : Nat → Prop} {ad : Nat → Nat} {o2 : dK} (C : dc_C p s m args meth c cX8_unpack none 6 RX8 wsX8_unpack D ty eo A)   (n : Nat) (q : dK) (x3 : Int64) (x5 : Int32) (H : Heap) (locs : List Loc) (ls : Array Slot) (h : zX8_unpack_s2_31  n q x3 x5 = some o2) (hP : va_P D vwCl (wF ty ad q) H) (hD : va_D A (wF ty ad q)) (hS : va_S A s.heap H locs) (hl : lv_has ls 6 [(0, .ref (ad 2)), (3, .long x3), (5, .int x5)]) : W p l e ({ frames := 1, cells := 0, slots := 0, locals := 21 } : Room) s m args below meth c H locs 0 0 (MQ below (va_Qv (fun (u : va_W) => wF ty ad o2 = u) (kz_B D ty A) A) args s 0 0 A) (F0 m 31 ls []) := by
  exact dFix_W (F := fun k (a : dK × Int64 × Int32) => zX8_unpack_s2_31b  (fun q x3 x5 => k (q, x3, x5)) a.1 a.2.1 a.2.2) (o := o2) (P := fun (a : dK × Int64 × Int32) H locs ls => va_P D vwCl (wF ty ad a.1) H ∧ va_D A (wF ty ad a.1) ∧ va_S A s.heap H locs ∧ lv_has ls 6 [(0, .ref (ad 2)), (3, .long a.2.1), (5, .int a.2.2)]) (G := fun H locs ls => W p l e ({ frames := 1, cells := 0, slots := 0, locals := 21 } : Room) s m args below meth c H locs 0 0 (MQ below (va_Qv (fun (u : va_W) => wF ty ad o2 = u) (kz_B D ty A) A) args s 0 0 A) (F0 m 31 ls []))
    (fun k hk a H locs ls h hp => WX8_unpack_s2_31b C  (fun q x3 x5 H locs ls h h1 h2 h3 h4 => hk (q, x3, x5) H locs ls h ⟨h1, h2, h3, h4⟩) a.1 a.2.1 a.2.2 H locs ls h hp.1 hp.2.1 hp.2.2.1 hp.2.2.2) n (q, x3, x5) H locs ls h ⟨hP, hD, hS, hl⟩
set_option maxHeartbeats 4000000 in
set_option maxRecDepth 100000 in
theorem qX8_unpack_s2 (l : Launch) (D : va_G) (ty : Nat → ClassId) (eo : Nat → Nat) (sz : Nat) (ad : Nat → Nat) (q : dK) (p1 : Int64) (o2 : dK) (h : zX8_unpack_s2 q p1 = some o2) : Met l yX8_unpack wsX8_unpack ({ frames := 1, cells := 0, slots := 0, locals := 21 } : Room) (va_Pc [.ref (ad 2), .long p1] (kz_pre D ty eo (wF ty ad q) sz)) (va_Qv (fun (u : va_W) => wF ty ad o2 = u) (kz_B D ty (va_A (wF ty ad q) sz)) (va_A (wF ty ad q) sz)) 0 0 (va_A (wF ty ad q) sz) := by
  refine Met.ofW (cc := cX8_unpack) (maxL := 6) (ret := none) (by decide) rfl ?_
  intro p e s m args below meth c s₁ B hml hv
  obtain ⟨rfl, hsz, hP, hK, hD0, hN, hE⟩ := hv
  have hx := B.exec
  have hb := B.bytes
  have hr := B.returns
  have hts := atoms_spec (ws := wsX8_unpack) B.pre
  have hown : s.vm.findClass RX8 = some m.cls := findClass_of_methodNamed B.named
  have hlocks := B.notSynchronized
  subst hsz
  have hD := hD0.self (sz := s.heap.size)
  generalize hAe : va_A (wF ty ad q) s.heap.size = A at hD hE ⊢
  have hA : ∀ q : Nat, s.heap.size ≤ q → A q := fun q h => by rw [← hAe]; exact Or.inr h
  clear hAe
  have hS : va_S A s.heap s.heap [] := va_S.rf
  have hl := lv_entry ([.ref (ad 2), .long p1]) (n := 6) (Nat.le_of_ble_eq_true rfl)
  rw [lg_entry_eq]
  generalize (lg_sl ([.ref (ad 2), .long p1]) ++ List.replicate (6 - (lg_sl ([.ref (ad 2), .long p1])).length) Slot.unset).toArray = ls at hl ⊢
  have hl : lv_has ls 6 [(0, .ref (ad 2)), (1, .long p1)] := hl
  have C : dc_C p s m _ meth c cX8_unpack none 6 RX8 wsX8_unpack D ty eo A := ⟨hx, hb, hr, hts, hown, hlocks, hml, hK, hN, hE, hA⟩
  unfold zX8_unpack_s2 at h
  refine lv_aload_n hx hb dX8_unpack_0 rfl (lv_at hl 0 rfl) ?_
  refine lv_lload_n hx hb dX8_unpack_1 rfl (lv_at hl 1 rfl) ?_
  refine lv_ldc2 (v := 1023) hx hb hown (hts (.constantLong RX8 35 1023) f9_wsX8_unpack_664) dX8_unpack_2 ?_
  refine lv_land hx hb dX8_unpack_5 ?_
  refine lv_l2i (v := Int64.toInt32 (p1 &&& 1023 : Int64)) hx hb dX8_unpack_6 rfl ?_
  refine va_put (D := D) (ci := 8) (v := .int (Int64.toInt32 (p1 &&& 1023 : Int64))) (ty := .int) (C := RX8) (T := TX8) (N := 5) hx hb hts u9_wsX8_unpack_X8 tyX8 tyX8_ok nmX8 hown hK hP hD hS 2 rfl rfl 4 (by decide) (hts (.fieldLink RX8 25 "TurnedFloors$Tower" "year" "I") f9_wsX8_unpack_665) (fun _ h9 => h9) rfl (by decide +kernel) rfl rfl (Nat.le_of_ble_eq_true rfl) dX8_unpack_7 (fun H locs hp hd hs => ?_)
  obtain ⟨q1, eq1, h⟩ := dL_some h
  refine kz_re (w2 := wF ty ad q1) hp hd hs (by rw [← eq1]; exact wF_f2_4 ty ad q (Int64.toInt32 (p1 &&& 1023 : Int64))) ?_
  clear hp hd hs hP hD hS
  intro hP hD hS
  refine lv_aload_n hx hb dX8_unpack_10 rfl (lv_at hl 0 rfl) ?_
  refine lv_lload_n hx hb dX8_unpack_11 rfl (lv_at hl 1 rfl) ?_
  refine lv_bipush (v := 10) hx hb dX8_unpack_12 (by decide) ?_
  refine lv_lshr (v := p1 >>> (Int32.toInt64 (10 : Int32) &&& 63)) hx hb dX8_unpack_14 rfl ?_
  refine lv_ldc2 (v := 16383) hx hb hown (hts (.constantLong RX8 37 16383) f9_wsX8_unpack_666) dX8_unpack_15 ?_
  refine lv_land hx hb dX8_unpack_18 ?_
  obtain ⟨v2, ev2, h⟩ := dL_some h
  refine kz_topl v2 ev2 ?_
  refine lv_l2i (v := Int64.toInt32 v2) hx hb dX8_unpack_19 rfl ?_
  refine va_put (D := D) (ci := 8) (v := .int (Int64.toInt32 v2)) (ty := .int) (C := RX8) (T := TX8) (N := 5) hx hb hts u9_wsX8_unpack_X8 tyX8 tyX8_ok nmX8 hown hK hP hD hS 2 rfl rfl 3 (by decide) (hts (.fieldLink RX8 22 "TurnedFloors$Tower" "paid" "I") f9_wsX8_unpack_667) (fun _ h9 => h9) rfl (by decide +kernel) rfl rfl (Nat.le_of_ble_eq_true rfl) dX8_unpack_20 (fun H locs hp hd hs => ?_)
  obtain ⟨q3, eq3, h⟩ := dL_some h
  refine kz_re (w2 := wF ty ad q3) hp hd hs (by rw [← eq3]; exact wF_f2_3 ty ad q1 (Int64.toInt32 v2)) ?_
  clear hp hd hs hP hD hS
  intro hP hD hS
  refine lv_lload_n hx hb dX8_unpack_23 rfl (lv_at hl 1 rfl) ?_
  refine lv_bipush (v := 24) hx hb dX8_unpack_24 (by decide) ?_
  refine lv_lshr (v := p1 >>> (Int32.toInt64 (24 : Int32) &&& 63)) hx hb dX8_unpack_26 rfl ?_
  refine lv_lstore_n (lv' := [(3, .long (p1 >>> (Int32.toInt64 (24 : Int32) &&& 63))), (0, .ref (ad 2)), (1, .long p1)]) hx hb dX8_unpack_27 rfl hl (by decide) rfl (fun ls hl => ?_)
  refine lv_iconst (v := 5) hx hb dX8_unpack_28 (by decide) ?_
  refine lv_istore (lv' := [(5, .int 5), (3, .long (p1 >>> (Int32.toInt64 (24 : Int32) &&& 63))), (0, .ref (ad 2)), (1, .long p1)]) hx hb dX8_unpack_29 hl (by decide) rfl (fun ls hl => ?_)
  exact WX8_unpack_s2_31 C  _ _ _ _ _ _ _ h hP hD hS (lv_sub hl [2, 1, 0] rfl)
