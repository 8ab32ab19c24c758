theorem f9_wsX9_nextDraw_931 : (Cond.constantLong RX9 350 1103) ∈ wsX9_nextDraw := by decide +kernel
theorem f9_wsX9_nextDraw_932 : (Cond.constantLong RX9 352 12345) ∈ wsX9_nextDraw := by decide +kernel
theorem f9_wsX9_nextDraw_933 : (Cond.constantLong RX9 354 1000003) ∈ wsX9_nextDraw := by decide +kernel
set_option maxHeartbeats 4000000 in
set_option maxRecDepth 100000 in
theorem WX8_unpack_s15_31b {p : Program} {l : Launch} {e : Env} {s : State} {m : MethodId} {args : Array Value} {below : List Frame} {meth : Method} {c : Code} {D : va_G} {ty : Nat → ClassId} {eo : Nat → Nat} {A : Nat → Prop} {ad : Nat → Nat} {o2 : dK} (C : dc_C p s m args meth c cX8_unpack none 6 RX8 wsX8_unpack D ty eo A) {k31 : dK → Int64 → Int32 → Option (dK)} (hk31 : ∀ (q : dK) (x3 : Int64) (x5 : Int32) (H : Heap) (locs : List Loc) (ls : Array Slot), k31 q x3 x5 = some o2 → va_P D vwCl (wF ty ad q) H → va_D A (wF ty ad q) → va_S A s.heap H locs → lv_has ls 6 [(0, .ref (ad 15)), (3, .long x3), (5, .int x5)] → W p l e ({ frames := 1, cells := 0, slots := 0, locals := 21 } : Room) s m args below meth c H locs 0 0 (MQ below (va_Qv (fun (u : va_W) => wF ty ad o2 = u) (kz_B D ty A) A) args s 0 0 A) (F0 m 31 ls [])) (q : dK) (x3 : Int64) (x5 : Int32) (H : Heap) (locs : List Loc) (ls : Array Slot) (h : zX8_unpack_s15_31b k31 q x3 x5 = some o2) (hP : va_P D vwCl (wF ty ad q) H) (hD : va_D A (wF ty ad q)) (hS : va_S A s.heap H locs) (hl : lv_has ls 6 [(0, .ref (ad 15)), (3, .long x3), (5, .int x5)]) : W p l e ({ frames := 1, cells := 0, slots := 0, locals := 21 } : Room) s m args below meth c H locs 0 0 (MQ below (va_Qv (fun (u : va_W) => wF ty ad o2 = u) (kz_B D ty A) A) args s 0 0 A) (F0 m 31 ls []) := by
  have C0 := C
  obtain ⟨hx, hb, hr, hts, hown, hlocks, hml, hK, hN, hE, hA⟩ := C
  unfold zX8_unpack_s15_31b at h
  refine lv_iload hx hb dX8_unpack_31 (lv_at hl 2 rfl) ?_
  refine lv_if_lt (tgt := 72) hx hb dX8_unpack_33 (by decide) (fun c9 => ?_) (fun c9 => ?_)
  · rw [if_pos c9] at h
    refine lv_aload_n hx hb dX8_unpack_72 rfl (lv_at hl 0 rfl) ?_
    refine lv_bipush (v := 6) hx hb dX8_unpack_73 (by decide) ?_
    refine lv_lload_n hx hb dX8_unpack_75 rfl (lv_at hl 1 rfl) ?_
    refine lv_l2i (v := Int64.toInt32 x3) hx hb dX8_unpack_76 rfl ?_
    refine va_mmin hx hb (hml.trans hl.1.symm) hown (hts (.methodLink RX8 41 Lib.Math.min.name) f9_wsX8_unpack_656) (hts (.static Lib.Math.min.name) f9_wsX8_unpack_657) (hts (.initialized "java/lang/Math") f9_wsX8_unpack_658) (hts (.code Lib.Math.min.name Lib.Math.min.code 2 (some .int)) f9_wsX8_unpack_659) (Nat.le_of_ble_eq_true rfl) (Nat.le_of_ble_eq_true rfl) (Nat.le_of_ble_eq_true rfl) (Nat.le_of_ble_eq_true rfl) dX8_unpack_77 ?_
    refine kz_topi (mnI 6 (Int64.toInt32 x3)) rfl ?_
    refine va_put (D := D) (ci := 8) (v := .int (mnI 6 (Int64.toInt32 x3))) (ty := .int) (C := RX8) (T := TX8) (N := 5) hx hb hts u9_wsX8_unpack_X8 tyX8 tyX8_ok nmX8 hown hK hP hD hS 15 rfl rfl 2 (by decide) (hts (.fieldLink RX8 18 "TurnedFloors$Tower" "floors" "I") f9_wsX8_unpack_660) (fun _ h9 => h9) rfl (by decide +kernel) rfl rfl (Nat.le_of_ble_eq_true rfl) dX8_unpack_80 (fun H locs hp hd hs => ?_)
    obtain ⟨q1, eq1, h⟩ := dL_some h
    refine kz_re (w2 := wF ty ad q1) hp hd hs (by rw [← eq1]; exact wF_f15_2 ty ad q (mnI 6 (Int64.toInt32 x3))) ?_
    clear hp hd hs hP hD hS
    intro hP hD hS
    cases h
    exact kz_vret hx hb hr hlocks hP hK hD hS dX8_unpack_83 rfl
  · rw [if_neg c9] at h
    refine lv_aload_n hx hb dX8_unpack_36 rfl (lv_at hl 0 rfl) ?_
    refine va_get (D := D) (ci := 8) (v := .ref (ad 17)) (C := RX8) (T := TX8) (N := 5) hx hb hts u9_wsX8_unpack_X8 hown hK hP 15 rfl rfl 1 (by decide) (hts (.fieldLink RX8 15 "TurnedFloors$Tower" "head" "[I") f9_wsX8_unpack_661) (fun _ h9 => h9) rfl dX8_unpack_37 ?_
    refine lv_iload hx hb dX8_unpack_40 (lv_at hl 2 rfl) ?_
    refine lv_lload_n hx hb dX8_unpack_42 rfl (lv_at hl 1 rfl) ?_
    refine lv_lconst (v := 1) hx hb dX8_unpack_43 (by decide) ?_
    refine lv_land hx hb dX8_unpack_44 ?_
    refine lv_l2i (v := Int64.toInt32 (x3 &&& 1 : Int64)) hx hb dX8_unpack_45 rfl ?_
    obtain ⟨g2, h⟩ := dG_some h
    refine va_iast hx hb hK hP hD hS 17 0 rfl rfl (dg_in g2) dX8_unpack_46 (fun H locs hp hd hs => ?_)
    obtain ⟨q3, eq3, h⟩ := dL_some h
    refine kz_re (w2 := wF ty ad q3) hp hd hs (by rw [← eq3]; exact wF_a17 ty ad q (Int32.toNatClampNeg x5) (Int64.toInt32 (x3 &&& 1 : Int64))) ?_
    clear hp hd hs hP hD hS
    intro hP hD hS
    refine lv_aload_n hx hb dX8_unpack_47 rfl (lv_at hl 0 rfl) ?_
    refine va_get (D := D) (ci := 8) (v := .ref (ad 16)) (C := RX8) (T := TX8) (N := 5) hx hb hts u9_wsX8_unpack_X8 hown hK hP 15 rfl rfl 0 (by decide) (hts (.fieldLink RX8 9 "TurnedFloors$Tower" "rank" "[I") f9_wsX8_unpack_662) (fun _ h9 => h9) rfl dX8_unpack_48 ?_
    refine lv_iload hx hb dX8_unpack_51 (lv_at hl 2 rfl) ?_
    refine lv_lload_n hx hb dX8_unpack_53 rfl (lv_at hl 1 rfl) ?_
    refine lv_iconst (v := 1) hx hb dX8_unpack_54 (by decide) ?_
    refine lv_lshr (v := x3 >>> (Int32.toInt64 (1 : Int32) &&& 63)) hx hb dX8_unpack_55 rfl ?_
    refine lv_ldc2 (v := 7) hx hb hown (hts (.constantLong RX8 39 7) f9_wsX8_unpack_663) dX8_unpack_56 ?_
    refine lv_land hx hb dX8_unpack_59 ?_
    refine lv_l2i (v := Int64.toInt32 ((x3 >>> (Int32.toInt64 (1 : Int32) &&& 63)) &&& 7 : Int64)) hx hb dX8_unpack_60 rfl ?_
    obtain ⟨g4, h⟩ := dG_some h
    refine va_iast hx hb hK hP hD hS 16 0 rfl rfl (dg_in g4) dX8_unpack_61 (fun H locs hp hd hs => ?_)
    obtain ⟨q5, eq5, h⟩ := dL_some h
    refine kz_re (w2 := wF ty ad q5) hp hd hs (by rw [← eq5]; exact wF_a16 ty ad q3 (Int32.toNatClampNeg x5) (Int64.toInt32 ((x3 >>> (Int32.toInt64 (1 : Int32) &&& 63)) &&& 7 : Int64))) ?_
    clear hp hd hs hP hD hS
    intro hP hD hS
    refine lv_lload_n hx hb dX8_unpack_62 rfl (lv_at hl 1 rfl) ?_
    refine lv_iconst (v := 4) hx hb dX8_unpack_63 (by decide) ?_
    refine lv_lshr (v := x3 >>> (Int32.toInt64 (4 : Int32) &&& 63)) hx hb dX8_unpack_64 rfl ?_
    refine lv_lstore_n (lv' := [(3, .long (x3 >>> (Int32.toInt64 (4 : Int32) &&& 63))), (0, .ref (ad 15)), (5, .int x5)]) hx hb dX8_unpack_65 rfl hl (by decide) rfl (fun ls hl => ?_)
    refine lv_iinc (v := x5 + (-1)) (lv' := [(5, .int (x5 + (-1))), (3, .long (x3 >>> (Int32.toInt64 (4 : Int32) &&& 63))), (0, .ref (ad 15))]) hx hb dX8_unpack_66 hl (k := 2) rfl rfl (by decide) rfl (fun ls hl => ?_)
    refine lv_goto (tgt := 31) hx hb dX8_unpack_69 (by decide) ?_
    exact hk31 _ _ _ _ _ _ h hP hD hS (lv_sub hl [2, 1, 0] rfl)
set_option maxHeartbeats 4000000 in
set_option maxRecDepth 100000 in
theorem WX8_unpack_s15_31 {p : Program} {l : Launch} {e : Env} {s : State} {m : MethodId} {args : Array Value} {below : List Frame} {meth : Method} {c : Code} {D : va_G} {ty : Nat → ClassId} {eo : Nat → Nat} {A : Nat → Prop} {ad : Nat → Nat} {o2 : dK} (C : dc_C p s m args meth c cX8_unpack none 6 RX8 wsX8_unpack D ty eo A)   (n : Nat) (q : dK) (x3 : Int64) (x5 : Int32) (H : Heap) (locs : List Loc) (ls : Array Slot) (h : zX8_unpack_s15_31  n q x3 x5 = some o2) (hP : va_P D vwCl (wF ty ad q) H) (hD : va_D A (wF ty ad q)) (hS : va_S A s.heap H locs) (hl : lv_has ls 6 [(0, .ref (ad 15)), (3, .long x3), (5, .int x5)]) : W p l e ({ frames := 1, cells := 0, slots := 0, locals := 21 } : Room) s m args below meth c H locs 0 0 (MQ below (va_Qv (fun (u : va_W) => wF ty ad o2 = u) (kz_B D ty A) A) args s 0 0 A) (F0 m 31 ls []) := by
  exact dFix_W (F := fun k (a : dK × Int64 × Int32) => zX8_unpack_s15_31b  (fun q x3 x5 => k (q, x3, x5)) a.1 a.2.1 a.2.2) (o := o2) (P := fun (a : dK × Int64 × Int32) H locs ls => va_P D vwCl (wF ty ad a.1) H ∧ va_D A (wF ty ad a.1) ∧ va_S A s.heap H locs ∧ lv_has ls 6 [(0, .ref (ad 15)), (3, .long a.2.1), (5, .int a.2.2)]) (G := fun H locs ls => W p l e ({ frames := 1, cells := 0, slots := 0, locals := 21 } : Room) s m args below meth c H locs 0 0 (MQ below (va_Qv (fun (u : va_W) => wF ty ad o2 = u) (kz_B D ty A) A) args s 0 0 A) (F0 m 31 ls []))
    (fun k hk a H locs ls h hp => WX8_unpack_s15_31b C  (fun q x3 x5 H locs ls h h1 h2 h3 h4 => hk (q, x3, x5) H locs ls h ⟨h1, h2, h3, h4⟩) a.1 a.2.1 a.2.2 H locs ls h hp.1 hp.2.1 hp.2.2.1 hp.2.2.2) n (q, x3, x5) H locs ls h ⟨hP, hD, hS, hl⟩
set_option maxHeartbeats 4000000 in
set_option maxRecDepth 100000 in
theorem qX8_unpack_s15 (l : Launch) (D : va_G) (ty : Nat → ClassId) (eo : Nat → Nat) (sz : Nat) (ad : Nat → Nat) (q : dK) (p1 : Int64) (o2 : dK) (h : zX8_unpack_s15 q p1 = some o2) : Met l yX8_unpack wsX8_unpack ({ frames := 1, cells := 0, slots := 0, locals := 21 } : Room) (va_Pc [.ref (ad 15), .long p1] (kz_pre D ty eo (wF ty ad q) sz)) (va_Qv (fun (u : va_W) => wF ty ad o2 = u) (kz_B D ty (va_A (wF ty ad q) sz)) (va_A (wF ty ad q) sz)) 0 0 (va_A (wF ty ad q) sz) := by
  refine Met.ofW (cc := cX8_unpack) (maxL := 6) (ret := none) (by decide) rfl ?_
  intro p e s m args below meth c s₁ B hml hv
  obtain ⟨rfl, hsz, hP, hK, hD0, hN, hE⟩ := hv
  have hx := B.exec
  have hb := B.bytes
  have hr := B.returns
  have hts := atoms_spec (ws := wsX8_unpack) B.pre
  have hown : s.vm.findClass RX8 = some m.cls := findClass_of_methodNamed B.named
  have hlocks := B.notSynchronized
  subst hsz
  have hD := hD0.self (sz := s.heap.size)
  generalize hAe : va_A (wF ty ad q) s.heap.size = A at hD hE ⊢
  have hA : ∀ q : Nat, s.heap.size ≤ q → A q := fun q h => by rw [← hAe]; exact Or.inr h
  clear hAe
  have hS : va_S A s.heap s.heap [] := va_S.rf
  have hl := lv_entry ([.ref (ad 15), .long p1]) (n := 6) (Nat.le_of_ble_eq_true rfl)
  rw [lg_entry_eq]
  generalize (lg_sl ([.ref (ad 15), .long p1]) ++ List.replicate (6 - (lg_sl ([.ref (ad 15), .long p1])).length) Slot.unset).toArray = ls at hl ⊢
  have hl : lv_has ls 6 [(0, .ref (ad 15)), (1, .long p1)] := hl
  have C : dc_C p s m _ meth c cX8_unpack none 6 RX8 wsX8_unpack D ty eo A := ⟨hx, hb, hr, hts, hown, hlocks, hml, hK, hN, hE, hA⟩
  unfold zX8_unpack_s15 at h
  refine lv_aload_n hx hb dX8_unpack_0 rfl (lv_at hl 0 rfl) ?_
  refine lv_lload_n hx hb dX8_unpack_1 rfl (lv_at hl 1 rfl) ?_
  refine lv_ldc2 (v := 1023) hx hb hown (hts (.constantLong RX8 35 1023) f9_wsX8_unpack_664) dX8_unpack_2 ?_
  refine lv_land hx hb dX8_unpack_5 ?_
  refine lv_l2i (v := Int64.toInt32 (p1 &&& 1023 : Int64)) hx hb dX8_unpack_6 rfl ?_
  refine va_put (D := D) (ci := 8) (v := .int (Int64.toInt32 (p1 &&& 1023 : Int64))) (ty := .int) (C := RX8) (T := TX8) (N := 5) hx hb hts u9_wsX8_unpack_X8 tyX8 tyX8_ok nmX8 hown hK hP hD hS 15 rfl rfl 4 (by decide) (hts (.fieldLink RX8 25 "TurnedFloors$Tower" "year" "I") f9_wsX8_unpack_665) (fun _ h9 => h9) rfl (by decide +kernel) rfl rfl (Nat.le_of_ble_eq_true rfl) dX8_unpack_7 (fun H locs hp hd hs => ?_)
  obtain ⟨q1, eq1, h⟩ := dL_some h
  refine kz_re (w2 := wF ty ad q1) hp hd hs (by rw [← eq1]; exact wF_f15_4 ty ad q (Int64.toInt32 (p1 &&& 1023 : Int64))) ?_
  clear hp hd hs hP hD hS
  intro hP hD hS
  refine lv_aload_n hx hb dX8_unpack_10 rfl (lv_at hl 0 rfl) ?_
  refine lv_lload_n hx hb dX8_unpack_11 rfl (lv_at hl 1 rfl) ?_
  refine lv_bipush (v := 10) hx hb dX8_unpack_12 (by decide) ?_
  refine lv_lshr (v := p1 >>> (Int32.toInt64 (10 : Int32) &&& 63)) hx hb dX8_unpack_14 rfl ?_
  refine lv_ldc2 (v := 16383) hx hb hown (hts (.constantLong RX8 37 16383) f9_wsX8_unpack_666) dX8_unpack_15 ?_
  refine lv_land hx hb dX8_unpack_18 ?_
  obtain ⟨v2, ev2, h⟩ := dL_some h
  refine kz_topl v2 ev2 ?_
  refine lv_l2i (v := Int64.toInt32 v2) hx hb dX8_unpack_19 rfl ?_
  refine va_put (D := D) (ci := 8) (v := .int (Int64.toInt32 v2)) (ty := .int) (C := RX8) (T := TX8) (N := 5) hx hb hts u9_wsX8_unpack_X8 tyX8 tyX8_ok nmX8 hown hK hP hD hS 15 rfl rfl 3 (by decide) (hts (.fieldLink RX8 22 "TurnedFloors$Tower" "paid" "I") f9_wsX8_unpack_667) (fun _ h9 => h9) rfl (by decide +kernel) rfl rfl (Nat.le_of_ble_eq_true rfl) dX8_unpack_20 (fun H locs hp hd hs => ?_)
  obtain ⟨q3, eq3, h⟩ := dL_some h
  refine kz_re (w2 := wF ty ad q3) hp hd hs (by rw [← eq3]; exact wF_f15_3 ty ad q1 (Int64.toInt32 v2)) ?_
  clear hp hd hs hP hD hS
  intro hP hD hS
  refine lv_lload_n hx hb dX8_unpack_23 rfl (lv_at hl 1 rfl) ?_
  refine lv_bipush (v := 24) hx hb dX8_unpack_24 (by decide) ?_
  refine lv_lshr (v := p1 >>> (Int32.toInt64 (24 : Int32) &&& 63)) hx hb dX8_unpack_26 rfl ?_
  refine lv_lstore_n (lv' := [(3, .long (p1 >>> (Int32.toInt64 (24 : Int32) &&& 63))), (0, .ref (ad 15)), (1, .long p1)]) hx hb dX8_unpack_27 rfl hl (by decide) rfl (fun ls hl => ?_)
  refine lv_iconst (v := 5) hx hb dX8_unpack_28 (by decide) ?_
  refine lv_istore (lv' := [(5, .int 5), (3, .long (p1 >>> (Int32.toInt64 (24 : Int32) &&& 63))), (0, .ref (ad 15)), (1, .long p1)]) hx hb dX8_unpack_29 hl (by decide) rfl (fun ls hl => ?_)
  exact WX8_unpack_s15_31 C  _ _ _ _ _ _ _ h hP hD hS (lv_sub hl [2, 1, 0] rfl)

set_option maxHeartbeats 4000000 in
set_option maxRecDepth 100000 in
theorem qX9_nextDraw (l : Launch) (D : va_G) (ty : Nat → ClassId) (eo : Nat → Nat) (sz : Nat) (p1 : Int32) (o1 : Int32) (h : zX9_nextDraw p1 = some o1) : Met l yX9_nextDraw wsX9_nextDraw ({ frames := 0, cells := 0, slots := 0, locals := 0 } : Room) (va_Pc [.int p1] (kz_pre D ty eo (([] : va_W)) sz)) (va_Qi (fun (r : Int32) (u : va_W) => o1 = r ∧ ([] : va_W) = u) (kz_B D ty (va_A (([] : va_W)) sz)) (va_A (([] : va_W)) sz)) 0 0 (va_A (([] : va_W)) sz) := by
  refine Met.ofW (cc := cX9_nextDraw) (maxL := 1) (ret := (some .int)) (by decide) rfl ?_
  intro p e s m args below meth c s₁ B hml hv
  obtain ⟨rfl, hsz, hP, hK, hD0, hN, hE⟩ := hv
  have hx := B.exec
  have hb := B.bytes
  have hr := B.returns
  have hts := atoms_spec (ws := wsX9_nextDraw) B.pre
  have hown : s.vm.findClass RX9 = some m.cls := findClass_of_methodNamed B.named
  have hlocks := B.notSynchronized
  subst hsz
  have hD := hD0.self (sz := s.heap.size)
  generalize hAe : va_A (([] : va_W)) s.heap.size = A at hD hE ⊢
  have hA : ∀ q : Nat, s.heap.size ≤ q → A q := fun q h => by rw [← hAe]; exact Or.inr h
  clear hAe
  have hS : va_S A s.heap s.heap [] := va_S.rf
  have hl := lv_entry ([.int p1]) (n := 1) (Nat.le_of_ble_eq_true rfl)
  rw [lg_entry_eq]
  generalize (lg_sl ([.int p1]) ++ List.replicate (1 - (lg_sl ([.int p1])).length) Slot.unset).toArray = ls at hl ⊢
  have hl : lv_has ls 1 [(0, .int p1)] := hl
  have C : dc_C p s m _ meth c cX9_nextDraw (some .int) 1 RX9 wsX9_nextDraw D ty eo A := ⟨hx, hb, hr, hts, hown, hlocks, hml, hK, hN, hE, hA⟩
  unfold zX9_nextDraw at h
  refine lv_iload_n hx hb dX9_nextDraw_0 rfl (lv_at hl 0 rfl) ?_
  refine lv_i2l (v := Int32.toInt64 p1) hx hb dX9_nextDraw_1 rfl ?_
  refine lv_ldc2 (v := 1103) hx hb hown (hts (.constantLong RX9 350 1103) f9_wsX9_nextDraw_931) dX9_nextDraw_2 ?_
  refine lv_lmul hx hb dX9_nextDraw_5 ?_
  refine lv_ldc2 (v := 12345) hx hb hown (hts (.constantLong RX9 352 12345) f9_wsX9_nextDraw_932) dX9_nextDraw_6 ?_
  refine lv_ladd hx hb dX9_nextDraw_9 ?_
  refine lv_ldc2 (v := 1000003) hx hb hown (hts (.constantLong RX9 354 1000003) f9_wsX9_nextDraw_933) dX9_nextDraw_10 ?_
  refine lv_lrem hx hb dX9_nextDraw_13 (by decide) ?_
  obtain ⟨v1, ev1, h⟩ := dL_some h
  refine kz_topl v1 ev1 ?_
  refine lv_l2i (v := Int64.toInt32 v1) hx hb dX9_nextDraw_14 rfl ?_
  cases h
  exact kz_iret hx hb hr hlocks hP hK hD hS dX9_nextDraw_15 ⟨rfl, rfl⟩

set_option maxHeartbeats 4000000 in
set_option maxRecDepth 100000 in
theorem WX8_isFloor_s15_17 {p : Program} {l : Launch} {e : Env} {s : State} {m : MethodId} {args : Array Value} {below : List Frame} {meth : Method} {c : Code} {D : va_G} {ty : Nat → ClassId} {eo : Nat → Nat} {A : Nat → Prop} {ad : Nat → Nat} {o1 : Int32} {o2 : dK} (C : dc_C p s m args meth c cX8_isFloor (some .boolean) 2 RX8 wsX8_isFloor D ty eo A)   (q : dK) (y0 : Int32) (H : Heap) (locs : List Loc) (ls : Array Slot) (h : zX8_isFloor_s15_17  q y0 = some (o1, o2)) (hP : va_P D vwCl (wF ty ad q) H) (hD : va_D A (wF ty ad q)) (hS : va_S A s.heap H locs) (hl : lv_has ls 2 []) : W p l e ({ frames := 0, cells := 0, slots := 0, locals := 0 } : Room) s m args below meth c H locs 0 0 (MQ below (va_Qi (fun (r : Int32) (u : va_W) => o1 = r ∧ wF ty ad o2 = u) (kz_B D ty A) A) args s 0 0 A) (F0 m 17 ls [.int y0]) := by
  have C0 := C
  obtain ⟨hx, hb, hr, hts, hown, hlocks, hml, hK, hN, hE, hA⟩ := C
  unfold zX8_isFloor_s15_17 at h
  obtain ⟨g1, h⟩ := dG_some h
  cases h
  exact kz_zret hx hb hr hlocks (dbl_nar g1) hP hK hD hS dX8_isFloor_17 ⟨rfl, rfl⟩
set_option maxHeartbeats 4000000 in
set_option maxRecDepth 100000 in
theorem WX8_isFloor_s15_16 {p : Program} {l : Launch} {e : Env} {s : State} {m : MethodId} {args : Array Value} {below : List Frame} {meth : Method} {c : Code} {D : va_G} {ty : Nat → ClassId} {eo : Nat → Nat} {A : Nat → Prop} {ad : Nat → Nat} {o1 : Int32} {o2 : dK} (C : dc_C p s m args meth c cX8_isFloor (some .boolean) 2 RX8 wsX8_isFloor D ty eo A)   (q : dK)  (H : Heap) (locs : List Loc) (ls : Array Slot) (h : zX8_isFloor_s15_16  q = some (o1, o2)) (hP : va_P D vwCl (wF ty ad q) H) (hD : va_D A (wF ty ad q)) (hS : va_S A s.heap H locs) (hl : lv_has ls 2 []) : W p l e ({ frames := 0, cells := 0, slots := 0, locals := 0 } : Room) s m args below meth c H locs 0 0 (MQ below (va_Qi (fun (r : Int32) (u : va_W) => o1 = r ∧ wF ty ad o2 = u) (kz_B D ty A) A) args s 0 0 A) (F0 m 16 ls []) := by
  have C0 := C
  obtain ⟨hx, hb, hr, hts, hown, hlocks, hml, hK, hN, hE, hA⟩ := C
  unfold zX8_isFloor_s15_16 at h
  refine lv_iconst (v := 0) hx hb dX8_isFloor_16 (by decide) ?_
  exact WX8_isFloor_s15_17 C0  _ _ _ _ _ h hP hD hS (lv_sub hl [] rfl)
set_option maxHeartbeats 4000000 in
set_option maxRecDepth 100000 in
theorem qX8_isFloor_s15 (l : Launch) (D : va_G) (ty : Nat → ClassId) (eo : Nat → Nat) (sz : Nat) (ad : Nat → Nat) (q : dK) (p1 : Int32) (o1 : Int32) (o2 : dK) (h : zX8_isFloor_s15 q p1 = some (o1, o2)) : Met l yX8_isFloor wsX8_isFloor ({ frames := 0, cells := 0, slots := 0, locals := 0 } : Room) (va_Pc [.ref (ad 15), .int p1] (kz_pre D ty eo (wF ty ad q) sz)) (va_Qi (fun (r : Int32) (u : va_W) => o1 = r ∧ wF ty ad o2 = u) (kz_B D ty (va_A (wF ty ad q) sz)) (va_A (wF ty ad q) sz)) 0 0 (va_A (wF ty ad q) sz) := by
  refine Met.ofW (cc := cX8_isFloor) (maxL := 2) (ret := (some .boolean)) (by decide) rfl ?_
  intro p e s m args below meth c s₁ B hml hv
  obtain ⟨rfl, hsz, hP, hK, hD0, hN, hE⟩ := hv
  have hx := B.exec
  have hb := B.bytes
  have hr := B.returns
  have hts := atoms_spec (ws := wsX8_isFloor) B.pre
  have hown : s.vm.findClass RX8 = some m.cls := findClass_of_methodNamed B.named
  have hlocks := B.notSynchronized
  subst hsz
  have hD := hD0.self (sz := s.heap.size)
  generalize hAe : va_A (wF ty ad q) s.heap.size = A at hD hE ⊢
  have hA : ∀ q : Nat, s.heap.size ≤ q → A q := fun q h => by rw [← hAe]; exact Or.inr h
  clear hAe
  have hS : va_S A s.heap s.heap [] := va_S.rf
  have hl := lv_entry ([.ref (ad 15), .int p1]) (n := 2) (Nat.le_of_ble_eq_true rfl)
  rw [lg_entry_eq]
  generalize (lg_sl ([.ref (ad 15), .int p1]) ++ List.replicate (2 - (lg_sl ([.ref (ad 15), .int p1])).length) Slot.unset).toArray = ls at hl ⊢
  have hl : lv_has ls 2 [(0, .ref (ad 15)), (1, .int p1)] := hl
  have C : dc_C p s m _ meth c cX8_isFloor (some .boolean) 2 RX8 wsX8_isFloor D ty eo A := ⟨hx, hb, hr, hts, hown, hlocks, hml, hK, hN, hE, hA⟩
  unfold zX8_isFloor_s15 at h
  refine lv_iload_n hx hb dX8_isFloor_0 rfl (lv_at hl 1 rfl) ?_
  refine lv_if_lt (tgt := 16) hx hb dX8_isFloor_1 (by decide) (fun c9 => ?_) (fun c9 => ?_)
  · rw [if_pos c9] at h
    exact WX8_isFloor_s15_16 C  _ _ _ _ h hP hD hS (lv_sub hl [] rfl)
  · rw [if_neg c9] at h
    refine lv_iload_n hx hb dX8_isFloor_4 rfl (lv_at hl 1 rfl) ?_
    refine lv_aload_n hx hb dX8_isFloor_5 rfl (lv_at hl 0 rfl) ?_
    refine va_get (D := D) (ci := 8) (v := .int (q.1 15 2)) (C := RX8) (T := TX8) (N := 5) hx hb hts u9_wsX8_isFloor_X8 hown hK hP 15 rfl rfl 2 (by decide) (hts (.fieldLink RX8 18 "TurnedFloors$Tower" "floors" "I") f9_wsX8_isFloor_363) (fun _ h9 => h9) rfl dX8_isFloor_6 ?_
    refine lv_icmp_ge (tgt := 16) hx hb dX8_isFloor_9 (by decide) (fun c9 => ?_) (fun c9 => ?_)
    · rw [if_pos c9] at h
      exact WX8_isFloor_s15_16 C  _ _ _ _ h hP hD hS (lv_sub hl [] rfl)
    · rw [if_neg c9] at h
      refine lv_iconst (v := 1) hx hb dX8_isFloor_12 (by decide) ?_
      refine lv_goto (tgt := 17) hx hb dX8_isFloor_13 (by decide) ?_
      exact WX8_isFloor_s15_17 C  _ _ _ _ _ h hP hD hS (lv_sub hl [] rfl)

set_option maxHeartbeats 4000000 in
set_option maxRecDepth 100000 in
theorem WX8_tell_s15_36 {p : Program} {l : Launch} {e : Env} {s : State} {m : MethodId} {args : Array Value} {below : List Frame} {meth : Method} {c : Code} {D : va_G} {ty : Nat → ClassId} {eo : Nat → Nat} {A : Nat → Prop} {ad : Nat → Nat} {o1 : Int32} {o2 : dK} (C : dc_C p s m args meth c cX8_tell (some .int) 3 RX8 wsX8_tell D ty eo A)   (q : dK) (y0 : Int32) (H : Heap) (locs : List Loc) (ls : Array Slot) (h : zX8_tell_s15_36  q y0 = some (o1, o2)) (hP : va_P D vwCl (wF ty ad q) H) (hD : va_D A (wF ty ad q)) (hS : va_S A s.heap H locs) (hl : lv_has ls 3 []) : W p l e ({ frames := 1, cells := 0, slots := 0, locals := 21 } : Room) s m args below meth c H locs 0 0 (MQ below (va_Qi (fun (r : Int32) (u : va_W) => o1 = r ∧ wF ty ad o2 = u) (kz_B D ty A) A) args s 0 0 A) (F0 m 36 ls [.int y0]) := by
  have C0 := C
  obtain ⟨hx, hb, hr, hts, hown, hlocks, hml, hK, hN, hE, hA⟩ := C
  unfold zX8_tell_s15_36 at h
  cases h
  exact kz_iret hx hb hr hlocks hP hK hD hS dX8_tell_36 ⟨rfl, rfl⟩
set_option maxHeartbeats 4000000 in
set_option maxRecDepth 100000 in
theorem WX8_tell_s15_15 {p : Program} {l : Launch} {e : Env} {s : State} {m : MethodId} {args : Array Value} {below : List Frame} {meth : Method} {c : Code} {D : va_G} {ty : Nat → ClassId} {eo : Nat → Nat} {A : Nat → Prop} {ad : Nat → Nat} {o1 : Int32} {o2 : dK} (C : dc_C p s m args meth c cX8_tell (some .int) 3 RX8 wsX8_tell D ty eo A)   (q : dK)  (H : Heap) (locs : List Loc) (ls : Array Slot) (h : zX8_tell_s15_15  q = some (o1, o2)) (hP : va_P D vwCl (wF ty ad q) H) (hD : va_D A (wF ty ad q)) (hS : va_S A s.heap H locs) (hl : lv_has ls 3 []) : W p l e ({ frames := 1, cells := 0, slots := 0, locals := 21 } : Room) s m args below meth c H locs 0 0 (MQ below (va_Qi (fun (r : Int32) (u : va_W) => o1 = r ∧ wF ty ad o2 = u) (kz_B D ty A) A) args s 0 0 A) (F0 m 15 ls []) := by
  have C0 := C
  obtain ⟨hx, hb, hr, hts, hown, hlocks, hml, hK, hN, hE, hA⟩ := C
  unfold zX8_tell_s15_15 at h
  refine lv_iconst (v := (-1)) hx hb dX8_tell_15 (by decide) ?_
  cases h
  exact kz_iret hx hb hr hlocks hP hK hD hS dX8_tell_16 ⟨rfl, rfl⟩
set_option maxHeartbeats 4000000 in
set_option maxRecDepth 100000 in
theorem qX8_tell_s15 (l : Launch) (D : va_G) (ty : Nat → ClassId) (eo : Nat → Nat) (sz : Nat) (ad : Nat → Nat) (q : dK) (p1 : Int32) (p2 : Int32) (o1 : Int32) (o2 : dK) (h : zX8_tell_s15 q p1 p2 = some (o1, o2)) : Met l yX8_tell wsX8_tell ({ frames := 1, cells := 0, slots := 0, locals := 21 } : Room) (va_Pc [.ref (ad 15), .int p1, .int p2] (kz_pre D ty eo (wF ty ad q) sz)) (va_Qi (fun (r : Int32) (u : va_W) => o1 = r ∧ wF ty ad o2 = u) (kz_B D ty (va_A (wF ty ad q) sz)) (va_A (wF ty ad q) sz)) 0 0 (va_A (wF ty ad q) sz) := by
  refine Met.ofW (cc := cX8_tell) (maxL := 3) (ret := (some .int)) (by decide) rfl ?_
  intro p e s m args below meth c s₁ B hml hv
  obtain ⟨rfl, hsz, hP, hK, hD0, hN, hE⟩ := hv
  have hx := B.exec
  have hb := B.bytes
  have hr := B.returns
  have hts := atoms_spec (ws := wsX8_tell) B.pre
  have hown : s.vm.findClass RX8 = some m.cls := findClass_of_methodNamed B.named
  have hlocks := B.notSynchronized
  subst hsz
  have hD := hD0.self (sz := s.heap.size)
  generalize hAe : va_A (wF ty ad q) s.heap.size = A at hD hE ⊢
  have hA : ∀ q : Nat, s.heap.size ≤ q → A q := fun q h => by rw [← hAe]; exact Or.inr h
  clear hAe
  have hS : va_S A s.heap s.heap [] := va_S.rf
  have hl := lv_entry ([.ref (ad 15), .int p1, .int p2]) (n := 3) (Nat.le_of_ble_eq_true rfl)
  rw [lg_entry_eq]
  generalize (lg_sl ([.ref (ad 15), .int p1, .int p2]) ++ List.replicate (3 - (lg_sl ([.ref (ad 15), .int p1, .int p2])).length) Slot.unset).toArray = ls at hl ⊢
  have hl : lv_has ls 3 [(0, .ref (ad 15)), (1, .int p1), (2, .int p2)] := hl
  have C : dc_C p s m _ meth c cX8_tell (some .int) 3 RX8 wsX8_tell D ty eo A := ⟨hx, hb, hr, hts, hown, hlocks, hml, hK, hN, hE, hA⟩
  unfold zX8_tell_s15 at h
  refine lv_aload_n hx hb dX8_tell_0 rfl (lv_at hl 0 rfl) ?_
  refine lv_iload_n hx hb dX8_tell_1 rfl (lv_at hl 1 rfl) ?_
  obtain ⟨r1, q3, h2, h⟩ := dB_some h
  refine dw_ki (va_runV (As := [.int p1]) (rest := []) ⟨hx, hb, hml, hown, hts⟩ (qX8_isFloor_s15 l D ty eo _ ad q p1 r1 q3 h2) (cwV 1 hts gX8_tell_X8_isFloor rfl rfl rfl (by decide +kernel) ⟨Nat.le_of_ble_eq_true rfl, Nat.le_of_ble_eq_true rfl⟩) (dw_preV (ci := 8) (q0 := 15) hK hN hE hP hD hS hA rfl rfl) rfl rfl hl.1 rfl (lv_room (Nat.le_of_ble_eq_true rfl)) dX8_tell_2 ⟨Nat.le_of_ble_eq_true rfl, Nat.le_of_ble_eq_true rfl⟩) hD hS hA (fun r9 u9 H locs hw hp hd hs => ?_)
  clear hP hD hS
  obtain ⟨rfl, rfl⟩ := hw
  have hP := hp; have hD := hd; have hS := hs; clear hp hd hs
  refine lv_if_eq (tgt := 15) hx hb dX8_tell_5 (by decide) (fun c9 => ?_) (fun c9 => ?_)
  · rw [if_pos c9] at h
    exact WX8_tell_s15_15 C  _ _ _ _ h hP hD hS (lv_sub hl [] rfl)
  · rw [if_neg c9] at h
    refine lv_iload_n hx hb dX8_tell_8 rfl (lv_at hl 2 rfl) ?_
    obtain ⟨r4, h5, h⟩ := dV_some h
    refine dw_ks (va_runSN (As := [.int p2]) (rest := []) ⟨hx, hb, hml, hown, hts⟩ (qX9_isBit l D ty eo _ p2 _ h5) ⟨va_cnB 1 hts gX8_tell_X9_isBit_n32 rfl rfl rfl (hN.1 _ (by decide +kernel : (.methodLinkNest "TurnedFloors$Tower" 32 yX9_isBit "TurnedFloors" : Cond) ∈ kzN1)) (hts (.initialized RX9) f9_wsX8_tell_365) (by decide +kernel) ⟨Nat.le_of_ble_eq_true rfl, Nat.le_of_ble_eq_true rfl⟩, hts (.static yX9_isBit) (by decide +kernel), trivial⟩ (kz_preS hK hN hE hP hD hS hA [] (by decide) rfl) rfl rfl hl.1 rfl (lv_room (Nat.le_of_ble_eq_true rfl)) dX8_tell_9 ⟨Nat.le_of_ble_eq_true rfl, Nat.le_of_ble_eq_true rfl⟩) hP hD hS hA (fun _ _ h9 => h9.2.symm) (fun r9 u9 H locs hw hp hd hs => ?_)
    obtain ⟨rfl, -⟩ := hw
    clear hP hD hS
    have hP := hp; have hD := hd; have hS := hs; clear hp hd hs
    refine lv_if_ne (tgt := 17) hx hb dX8_tell_12 (by decide) (fun c9 => ?_) (fun c9 => ?_)
    · rw [if_neg c9] at h
      refine lv_iload_n hx hb dX8_tell_17 rfl (lv_at hl 2 rfl) ?_
      refine lv_if_ne (tgt := 30) hx hb dX8_tell_18 (by decide) (fun c9 => ?_) (fun c9 => ?_)
      · rw [if_neg c9] at h
        refine lv_aload_n hx hb dX8_tell_30 rfl (lv_at hl 0 rfl) ?_
        refine va_get (D := D) (ci := 8) (v := .ref (ad 17)) (C := RX8) (T := TX8) (N := 5) hx hb hts u9_wsX8_tell_X8 hown hK hP 15 rfl rfl 1 (by decide) (hts (.fieldLink RX8 15 "TurnedFloors$Tower" "head" "[I") f9_wsX8_tell_366) (fun _ h9 => h9) rfl dX8_tell_31 ?_
        refine lv_iload_n hx hb dX8_tell_34 rfl (lv_at hl 1 rfl) ?_
        obtain ⟨g6, h⟩ := dG_some h
        refine va_iald hx hb hK hP 17 0 rfl rfl (dg_in g6) dX8_tell_35 ?_
        obtain ⟨v7, ev7, h⟩ := dL_some h
        refine kz_topi v7 ev7 ?_
        exact WX8_tell_s15_36 C  _ _ _ _ _ h hP hD hS (lv_sub hl [] rfl)
      · rw [if_pos c9] at h
        refine lv_aload_n hx hb dX8_tell_21 rfl (lv_at hl 0 rfl) ?_
        refine va_get (D := D) (ci := 8) (v := .ref (ad 16)) (C := RX8) (T := TX8) (N := 5) hx hb hts u9_wsX8_tell_X8 hown hK hP 15 rfl rfl 0 (by decide) (hts (.fieldLink RX8 9 "TurnedFloors$Tower" "rank" "[I") f9_wsX8_tell_367) (fun _ h9 => h9) rfl dX8_tell_22 ?_
        refine lv_iload_n hx hb dX8_tell_25 rfl (lv_at hl 1 rfl) ?_
        obtain ⟨g8, h⟩ := dG_some h
        refine va_iald hx hb hK hP 16 0 rfl rfl (dg_in g8) dX8_tell_26 ?_
        obtain ⟨v9, ev9, h⟩ := dL_some h
        refine kz_topi v9 ev9 ?_
        refine lv_goto (tgt := 36) hx hb dX8_tell_27 (by decide) ?_
        exact WX8_tell_s15_36 C  _ _ _ _ _ h hP hD hS (lv_sub hl [] rfl)
    · rw [if_pos c9] at h
      exact WX8_tell_s15_15 C  _ _ _ _ h hP hD hS (lv_sub hl [] rfl)

set_option maxHeartbeats 4000000 in
set_option maxRecDepth 100000 in
theorem qX1_setTurn_s20_s15 (l : Launch) (D : va_G) (ty : Nat → ClassId) (eo : Nat → Nat) (sz : Nat) (ad : Nat → Nat) (q : dK) (p2 : Int32) (o2 : dK) (h : zX1_setTurn_s20_s15 q p2 = some o2) : Met l yX1_setTurn wsX1_setTurn ({ frames := 2, cells := 0, slots := 0, locals := 43 } : Room) (va_Pc [.ref (ad 20), .ref (ad 15), .int p2] (kz_pre D ty eo (wF ty ad q) sz)) (va_Qv (fun (u : va_W) => wF ty ad o2 = u) (kz_B D ty (va_A (wF ty ad q) sz)) (va_A (wF ty ad q) sz)) 0 0 (va_A (wF ty ad q) sz) := by
  refine Met.ofW (cc := cX1_setTurn) (maxL := 3) (ret := none) (by decide) rfl ?_
  intro p e s m args below meth c s₁ B hml hv
  obtain ⟨rfl, hsz, hP, hK, hD0, hN, hE⟩ := hv
  have hx := B.exec
  have hb := B.bytes
  have hr := B.returns
  have hts := atoms_spec (ws := wsX1_setTurn) B.pre
  have hown : s.vm.findClass RX1 = some m.cls := findClass_of_methodNamed B.named
  have hlocks := B.notSynchronized
  subst hsz
  have hD := hD0.self (sz := s.heap.size)
  generalize hAe : va_A (wF ty ad q) s.heap.size = A at hD hE ⊢
  have hA : ∀ q : Nat, s.heap.size ≤ q → A q := fun q h => by rw [← hAe]; exact Or.inr h
  clear hAe
  have hS : va_S A s.heap s.heap [] := va_S.rf
  have hl := lv_entry ([.ref (ad 20), .ref (ad 15), .int p2]) (n := 3) (Nat.le_of_ble_eq_true rfl)
  rw [lg_entry_eq]
  generalize (lg_sl ([.ref (ad 20), .ref (ad 15), .int p2]) ++ List.replicate (3 - (lg_sl ([.ref (ad 20), .ref (ad 15), .int p2])).length) Slot.unset).toArray = ls at hl ⊢
  have hl : lv_has ls 3 [(0, .ref (ad 20)), (1, .ref (ad 15)), (2, .int p2)] := hl
  have C : dc_C p s m _ meth c cX1_setTurn none 3 RX1 wsX1_setTurn D ty eo A := ⟨hx, hb, hr, hts, hown, hlocks, hml, hK, hN, hE, hA⟩
  unfold zX1_setTurn_s20_s15 at h
  refine lv_aload_n hx hb dX1_setTurn_0 rfl (lv_at hl 0 rfl) ?_
  refine lv_aload_n hx hb dX1_setTurn_1 rfl (lv_at hl 1 rfl) ?_
  refine va_getN (D := D) (ci := 8) (v := .int (q.1 15 2)) (C := RX8) (T := TX8) (N := 5) hx hb hts u9_wsX1_setTurn_X8 hown hK hP 15 rfl rfl 2 (by decide) (hN.use (.fieldLinkNest "TurnedFloors$Judge" 40 "TurnedFloors$Tower" "floors" "I" "TurnedFloors") (by decide +kernel)) (fun _ h9 => h9) rfl dX1_setTurn_2 ?_
  refine lv_aload_n hx hb dX1_setTurn_5 rfl (lv_at hl 1 rfl) ?_
  refine va_getN (D := D) (ci := 8) (v := .int (q.1 15 4)) (C := RX8) (T := TX8) (N := 5) hx hb hts u9_wsX1_setTurn_X8 hown hK hP 15 rfl rfl 4 (by decide) (hN.use (.fieldLinkNest "TurnedFloors$Judge" 44 "TurnedFloors$Tower" "year" "I" "TurnedFloors") (by decide +kernel)) (fun _ h9 => h9) rfl dX1_setTurn_6 ?_
  obtain ⟨q3, h2, h⟩ := dV_some h
  refine dw_kv (va_runV (As := [.int (q.1 15 2), .int (q.1 15 4)]) (rest := []) ⟨hx, hb, hml, hown, hts⟩ (qX1_setCommon_s20 l D ty eo _ ad q (q.1 15 2) (q.1 15 4) q3 h2) (cwV 2 hts gX1_setTurn_X1_setCommon rfl rfl rfl (by decide +kernel) ⟨Nat.le_of_ble_eq_true rfl, Nat.le_of_ble_eq_true rfl⟩) (dw_preV (ci := 1) (q0 := 20) hK hN hE hP hD hS hA rfl rfl) rfl rfl hl.1 rfl (lv_room (Nat.le_of_ble_eq_true rfl)) dX1_setTurn_9 ⟨Nat.le_of_ble_eq_true rfl, Nat.le_of_ble_eq_true rfl⟩) hD hS hA (fun u9 H locs hw hp hd hs => ?_)
  clear hP hD hS
  obtain rfl := hw
  have hP := hp; have hD := hd; have hS := hs; clear hp hd hs
  refine lv_aload_n hx hb dX1_setTurn_12 rfl (lv_at hl 0 rfl) ?_
  refine lv_iload_n hx hb dX1_setTurn_13 rfl (lv_at hl 2 rfl) ?_
  refine lv_aload_n hx hb dX1_setTurn_14 rfl (lv_at hl 1 rfl) ?_
  refine lv_iconst (v := 0) hx hb dX1_setTurn_15 (by decide) ?_
  refine lv_iconst (v := 0) hx hb dX1_setTurn_16 (by decide) ?_
  obtain ⟨r4, q6, h5, h⟩ := dB_some h
  refine dw_ki (va_runV (As := [.int 0, .int 0]) (rest := [.int p2, .ref (ad 20)]) ⟨hx, hb, hml, hown, hts⟩ (qX8_tell_s15 l D ty eo _ ad q3 0 0 r4 q6 h5) (cwV 2 hts gX1_setTurn_X8_tell rfl rfl rfl (by decide +kernel) ⟨Nat.le_of_ble_eq_true rfl, Nat.le_of_ble_eq_true rfl⟩) (dw_preV (ci := 8) (q0 := 15) hK hN hE hP hD hS hA rfl rfl) rfl rfl hl.1 rfl (lv_room (Nat.le_of_ble_eq_true rfl)) dX1_setTurn_17 ⟨Nat.le_of_ble_eq_true rfl, Nat.le_of_ble_eq_true rfl⟩) hD hS hA (fun r9 u9 H locs hw hp hd hs => ?_)
  clear hP hD hS
  obtain ⟨rfl, rfl⟩ := hw
  have hP := hp; have hD := hd; have hS := hs; clear hp hd hs
  refine lv_aload_n hx hb dX1_setTurn_20 rfl (lv_at hl 1 rfl) ?_
  refine lv_iload_n hx hb dX1_setTurn_21 rfl (lv_at hl 2 rfl) ?_
  refine lv_iconst (v := 0) hx hb dX1_setTurn_22 (by decide) ?_
  obtain ⟨r7, q9, h8, h⟩ := dB_some h
  refine dw_ki (va_runV (As := [.int p2, .int 0]) (rest := [.int r4, .int p2, .ref (ad 20)]) ⟨hx, hb, hml, hown, hts⟩ (qX8_tell_s15 l D ty eo _ ad q6 p2 0 r7 q9 h8) (cwV 2 hts gX1_setTurn_X8_tell rfl rfl rfl (by decide +kernel) ⟨Nat.le_of_ble_eq_true rfl, Nat.le_of_ble_eq_true rfl⟩) (dw_preV (ci := 8) (q0 := 15) hK hN hE hP hD hS hA rfl rfl) rfl rfl hl.1 rfl (lv_room (Nat.le_of_ble_eq_true rfl)) dX1_setTurn_23 ⟨Nat.le_of_ble_eq_true rfl, Nat.le_of_ble_eq_true rfl⟩) hD hS hA (fun r9 u9 H locs hw hp hd hs => ?_)
  clear hP hD hS
  obtain ⟨rfl, rfl⟩ := hw
  have hP := hp; have hD := hd; have hS := hs; clear hp hd hs
  refine lv_aload_n hx hb dX1_setTurn_26 rfl (lv_at hl 1 rfl) ?_
  refine lv_iconst (v := 0) hx hb dX1_setTurn_27 (by decide) ?_
  refine lv_iconst (v := 1) hx hb dX1_setTurn_28 (by decide) ?_
  obtain ⟨r10, q12, h11, h⟩ := dB_some h
  refine dw_ki (va_runV (As := [.int 0, .int 1]) (rest := [.int r7, .int r4, .int p2, .ref (ad 20)]) ⟨hx, hb, hml, hown, hts⟩ (qX8_tell_s15 l D ty eo _ ad q9 0 1 r10 q12 h11) (cwV 2 hts gX1_setTurn_X8_tell rfl rfl rfl (by decide +kernel) ⟨Nat.le_of_ble_eq_true rfl, Nat.le_of_ble_eq_true rfl⟩) (dw_preV (ci := 8) (q0 := 15) hK hN hE hP hD hS hA rfl rfl) rfl rfl hl.1 rfl (lv_room (Nat.le_of_ble_eq_true rfl)) dX1_setTurn_29 ⟨Nat.le_of_ble_eq_true rfl, Nat.le_of_ble_eq_true rfl⟩) hD hS hA (fun r9 u9 H locs hw hp hd hs => ?_)
  clear hP hD hS
  obtain ⟨rfl, rfl⟩ := hw
  have hP := hp; have hD := hd; have hS := hs; clear hp hd hs
  obtain ⟨q15, h14, h⟩ := dV_some h
  refine dw_kv (va_runV (As := [.int p2, .int r4, .int r7, .int r10]) (rest := []) ⟨hx, hb, hml, hown, hts⟩ (qX1_setGrip_s20 l D ty eo _ ad q12 p2 r4 r7 r10 q15 h14) (cwV 4 hts gX1_setTurn_X1_setGrip rfl rfl rfl (by decide +kernel) ⟨Nat.le_of_ble_eq_true rfl, Nat.le_of_ble_eq_true rfl⟩) (dw_preV (ci := 1) (q0 := 20) hK hN hE hP hD hS hA rfl rfl) rfl rfl hl.1 rfl (lv_room (Nat.le_of_ble_eq_true rfl)) dX1_setTurn_32 ⟨Nat.le_of_ble_eq_true rfl, Nat.le_of_ble_eq_true rfl⟩) hD hS hA (fun u9 H locs hw hp hd hs => ?_)
  clear hP hD hS
  obtain rfl := hw
  have hP := hp; have hD := hd; have hS := hs; clear hp hd hs
  cases h
  exact kz_vret hx hb hr hlocks hP hK hD hS dX1_setTurn_35 rfl

set_option maxHeartbeats 4000000 in
set_option maxRecDepth 100000 in
theorem qX1_bars_s20_s15 (l : Launch) (D : va_G) (ty : Nat → ClassId) (eo : Nat → Nat) (sz : Nat) (ad : Nat → Nat) (q : dK) (p2 : Int32) (o1 : Int32) (o2 : dK) (h : zX1_bars_s20_s15 q p2 = some (o1, o2)) : Met l yX1_bars wsX1_bars ({ frames := 3, cells := 0, slots := 0, locals := 81 } : Room) (va_Pc [.ref (ad 20), .ref (ad 15), .int p2] (kz_pre D ty eo (wF ty ad q) sz)) (va_Qi (fun (r : Int32) (u : va_W) => o1 = r ∧ wF ty ad o2 = u) (kz_B D ty (va_A (wF ty ad q) sz)) (va_A (wF ty ad q) sz)) 0 0 (va_A (wF ty ad q) sz) := by
  refine Met.ofW (cc := cX1_bars) (maxL := 3) (ret := (some .boolean)) (by decide) rfl ?_
  intro p e s m args below meth c s₁ B hml hv
  obtain ⟨rfl, hsz, hP, hK, hD0, hN, hE⟩ := hv
  have hx := B.exec
  have hb := B.bytes
  have hr := B.returns
  have hts := atoms_spec (ws := wsX1_bars) B.pre
  have hown : s.vm.findClass RX1 = some m.cls := findClass_of_methodNamed B.named
  have hlocks := B.notSynchronized
  subst hsz
  have hD := hD0.self (sz := s.heap.size)
  generalize hAe : va_A (wF ty ad q) s.heap.size = A at hD hE ⊢
  have hA : ∀ q : Nat, s.heap.size ≤ q → A q := fun q h => by rw [← hAe]; exact Or.inr h
  clear hAe
  have hS : va_S A s.heap s.heap [] := va_S.rf
  have hl := lv_entry ([.ref (ad 20), .ref (ad 15), .int p2]) (n := 3) (Nat.le_of_ble_eq_true rfl)
  rw [lg_entry_eq]
  generalize (lg_sl ([.ref (ad 20), .ref (ad 15), .int p2]) ++ List.replicate (3 - (lg_sl ([.ref (ad 20), .ref (ad 15), .int p2])).length) Slot.unset).toArray = ls at hl ⊢
  have hl : lv_has ls 3 [(0, .ref (ad 20)), (1, .ref (ad 15)), (2, .int p2)] := hl
  have C : dc_C p s m _ meth c cX1_bars (some .boolean) 3 RX1 wsX1_bars D ty eo A := ⟨hx, hb, hr, hts, hown, hlocks, hml, hK, hN, hE, hA⟩
  unfold zX1_bars_s20_s15 at h
  refine lv_aload_n hx hb dX1_bars_0 rfl (lv_at hl 0 rfl) ?_
  refine lv_aload_n hx hb dX1_bars_1 rfl (lv_at hl 1 rfl) ?_
  refine lv_iload_n hx hb dX1_bars_2 rfl (lv_at hl 2 rfl) ?_
  obtain ⟨q3, h2, h⟩ := dV_some h
  refine dw_kv (va_runV (As := [.ref (ad 15), .int p2]) (rest := []) ⟨hx, hb, hml, hown, hts⟩ (qX1_setTurn_s20_s15 l D ty eo _ ad q p2 q3 h2) (cwV 2 hts gX1_bars_X1_setTurn rfl rfl rfl (by decide +kernel) ⟨Nat.le_of_ble_eq_true rfl, Nat.le_of_ble_eq_true rfl⟩) (dw_preV (ci := 1) (q0 := 20) hK hN hE hP hD hS hA rfl rfl) rfl rfl hl.1 rfl (lv_room (Nat.le_of_ble_eq_true rfl)) dX1_bars_3 ⟨Nat.le_of_ble_eq_true rfl, Nat.le_of_ble_eq_true rfl⟩) hD hS hA (fun u9 H locs hw hp hd hs => ?_)
  clear hP hD hS
  obtain rfl := hw
  have hP := hp; have hD := hd; have hS := hs; clear hp hd hs
  refine lv_aload_n hx hb dX1_bars_6 rfl (lv_at hl 0 rfl) ?_
  refine lv_iconst (v := 1) hx hb dX1_bars_7 (by decide) ?_
  obtain ⟨r4, q6, h5, h⟩ := dB_some h
  refine dw_ki (va_runV (As := [.int 1]) (rest := []) ⟨hx, hb, hml, hown, hts⟩ (qX1_anyHolds_s20 l D ty eo _ ad q3 1 r4 q6 h5) (cwV 1 hts gX1_bars_X1_anyHolds rfl rfl rfl (by decide +kernel) ⟨Nat.le_of_ble_eq_true rfl, Nat.le_of_ble_eq_true rfl⟩) (dw_preV (ci := 1) (q0 := 20) hK hN hE hP hD hS hA rfl rfl) rfl rfl hl.1 rfl (lv_room (Nat.le_of_ble_eq_true rfl)) dX1_bars_8 ⟨Nat.le_of_ble_eq_true rfl, Nat.le_of_ble_eq_true rfl⟩) hD hS hA (fun r9 u9 H locs hw hp hd hs => ?_)
  clear hP hD hS
  obtain ⟨rfl, rfl⟩ := hw
  have hP := hp; have hD := hd; have hS := hs; clear hp hd hs
  obtain ⟨g7, h⟩ := dG_some h
  cases h
  exact kz_zret hx hb hr hlocks (dbl_nar g7) hP hK hD hS dX1_bars_11 ⟨rfl, rfl⟩

set_option maxHeartbeats 4000000 in
set_option maxRecDepth 100000 in
theorem qX1_payOf_s20_s15 (l : Launch) (D : va_G) (ty : Nat → ClassId) (eo : Nat → Nat) (sz : Nat) (ad : Nat → Nat) (q : dK) (p2 : Int32) (o1 : Int32) (o2 : dK) (h : zX1_payOf_s20_s15 q p2 = some (o1, o2)) : Met l yX1_payOf wsX1_payOf ({ frames := 3, cells := 0, slots := 0, locals := 81 } : Room) (va_Pc [.ref (ad 20), .ref (ad 15), .int p2] (kz_pre D ty eo (wF ty ad q) sz)) (va_Qi (fun (r : Int32) (u : va_W) => o1 = r ∧ wF ty ad o2 = u) (kz_B D ty (va_A (wF ty ad q) sz)) (va_A (wF ty ad q) sz)) 0 0 (va_A (wF ty ad q) sz) := by
  refine Met.ofW (cc := cX1_payOf) (maxL := 3) (ret := (some .int)) (by decide) rfl ?_
  intro p e s m args below meth c s₁ B hml hv
  obtain ⟨rfl, hsz, hP, hK, hD0, hN, hE⟩ := hv
  have hx := B.exec
  have hb := B.bytes
  have hr := B.returns
  have hts := atoms_spec (ws := wsX1_payOf) B.pre
  have hown : s.vm.findClass RX1 = some m.cls := findClass_of_methodNamed B.named
  have hlocks := B.notSynchronized
  subst hsz
  have hD := hD0.self (sz := s.heap.size)
  generalize hAe : va_A (wF ty ad q) s.heap.size = A at hD hE ⊢
  have hA : ∀ q : Nat, s.heap.size ≤ q → A q := fun q h => by rw [← hAe]; exact Or.inr h
  clear hAe
  have hS : va_S A s.heap s.heap [] := va_S.rf
  have hl := lv_entry ([.ref (ad 20), .ref (ad 15), .int p2]) (n := 3) (Nat.le_of_ble_eq_true rfl)
  rw [lg_entry_eq]
  generalize (lg_sl ([.ref (ad 20), .ref (ad 15), .int p2]) ++ List.replicate (3 - (lg_sl ([.ref (ad 20), .ref (ad 15), .int p2])).length) Slot.unset).toArray = ls at hl ⊢
  have hl : lv_has ls 3 [(0, .ref (ad 20)), (1, .ref (ad 15)), (2, .int p2)] := hl
  have C : dc_C p s m _ meth c cX1_payOf (some .int) 3 RX1 wsX1_payOf D ty eo A := ⟨hx, hb, hr, hts, hown, hlocks, hml, hK, hN, hE, hA⟩
  unfold zX1_payOf_s20_s15 at h
  refine lv_aload_n hx hb dX1_payOf_0 rfl (lv_at hl 0 rfl) ?_
  refine lv_aload_n hx hb dX1_payOf_1 rfl (lv_at hl 1 rfl) ?_
  refine lv_iload_n hx hb dX1_payOf_2 rfl (lv_at hl 2 rfl) ?_
  obtain ⟨q3, h2, h⟩ := dV_some h
  refine dw_kv (va_runV (As := [.ref (ad 15), .int p2]) (rest := []) ⟨hx, hb, hml, hown, hts⟩ (qX1_setTurn_s20_s15 l D ty eo _ ad q p2 q3 h2) (cwV 2 hts gX1_payOf_X1_setTurn rfl rfl rfl (by decide +kernel) ⟨Nat.le_of_ble_eq_true rfl, Nat.le_of_ble_eq_true rfl⟩) (dw_preV (ci := 1) (q0 := 20) hK hN hE hP hD hS hA rfl rfl) rfl rfl hl.1 rfl (lv_room (Nat.le_of_ble_eq_true rfl)) dX1_payOf_3 ⟨Nat.le_of_ble_eq_true rfl, Nat.le_of_ble_eq_true rfl⟩) hD hS hA (fun u9 H locs hw hp hd hs => ?_)
  clear hP hD hS
  obtain rfl := hw
  have hP := hp; have hD := hd; have hS := hs; clear hp hd hs
  refine lv_aload_n hx hb dX1_payOf_6 rfl (lv_at hl 0 rfl) ?_
  obtain ⟨r4, q6, h5, h⟩ := dB_some h
  refine dw_ki (va_runV (As := []) (rest := []) ⟨hx, hb, hml, hown, hts⟩ (qX1_pay_s20 l D ty eo _ ad q3  r4 q6 h5) (cwV 0 hts gX1_payOf_X1_pay rfl rfl rfl (by decide +kernel) ⟨Nat.le_of_ble_eq_true rfl, Nat.le_of_ble_eq_true rfl⟩) (dw_preV (ci := 1) (q0 := 20) hK hN hE hP hD hS hA rfl rfl) rfl rfl hl.1 rfl (lv_room (Nat.le_of_ble_eq_true rfl)) dX1_payOf_7 ⟨Nat.le_of_ble_eq_true rfl, Nat.le_of_ble_eq_true rfl⟩) hD hS hA (fun r9 u9 H locs hw hp hd hs => ?_)
  clear hP hD hS
  obtain ⟨rfl, rfl⟩ := hw
  have hP := hp; have hD := hd; have hS := hs; clear hp hd hs
  cases h
  exact kz_iret hx hb hr hlocks hP hK hD hS dX1_payOf_10 ⟨rfl, rfl⟩

set_option maxHeartbeats 4000000 in
set_option maxRecDepth 100000 in
theorem qX8_exchange_s15 (l : Launch) (D : va_G) (ty : Nat → ClassId) (eo : Nat → Nat) (sz : Nat) (ad : Nat → Nat) (q : dK) (p1 : Int32) (p2 : Int32) (o2 : dK) (h : zX8_exchange_s15 q p1 p2 = some o2) : Met l yX8_exchange wsX8_exchange ({ frames := 0, cells := 0, slots := 0, locals := 0 } : Room) (va_Pc [.ref (ad 15), .int p1, .int p2] (kz_pre D ty eo (wF ty ad q) sz)) (va_Qv (fun (u : va_W) => wF ty ad o2 = u) (kz_B D ty (va_A (wF ty ad q) sz)) (va_A (wF ty ad q) sz)) 0 0 (va_A (wF ty ad q) sz) := by
  refine Met.ofW (cc := cX8_exchange) (maxL := 5) (ret := none) (by decide) rfl ?_
  intro p e s m args below meth c s₁ B hml hv
  obtain ⟨rfl, hsz, hP, hK, hD0, hN, hE⟩ := hv
  have hx := B.exec
  have hb := B.bytes
  have hr := B.returns
  have hts := atoms_spec (ws := wsX8_exchange) B.pre
  have hown : s.vm.findClass RX8 = some m.cls := findClass_of_methodNamed B.named
  have hlocks := B.notSynchronized
  subst hsz
  have hD := hD0.self (sz := s.heap.size)
  generalize hAe : va_A (wF ty ad q) s.heap.size = A at hD hE ⊢
  have hA : ∀ q : Nat, s.heap.size ≤ q → A q := fun q h => by rw [← hAe]; exact Or.inr h
  clear hAe
  have hS : va_S A s.heap s.heap [] := va_S.rf
  have hl := lv_entry ([.ref (ad 15), .int p1, .int p2]) (n := 5) (Nat.le_of_ble_eq_true rfl)
  rw [lg_entry_eq]
  generalize (lg_sl ([.ref (ad 15), .int p1, .int p2]) ++ List.replicate (5 - (lg_sl ([.ref (ad 15), .int p1, .int p2])).length) Slot.unset).toArray = ls at hl ⊢
  have hl : lv_has ls 5 [(0, .ref (ad 15)), (1, .int p1), (2, .int p2)] := hl
  have C : dc_C p s m _ meth c cX8_exchange none 5 RX8 wsX8_exchange D ty eo A := ⟨hx, hb, hr, hts, hown, hlocks, hml, hK, hN, hE, hA⟩
  unfold zX8_exchange_s15 at h
  refine lv_aload_n hx hb dX8_exchange_0 rfl (lv_at hl 0 rfl) ?_
  refine va_get (D := D) (ci := 8) (v := .ref (ad 16)) (C := RX8) (T := TX8) (N := 5) hx hb hts u9_wsX8_exchange_X8 hown hK hP 15 rfl rfl 0 (by decide) (hts (.fieldLink RX8 9 "TurnedFloors$Tower" "rank" "[I") f9_wsX8_exchange_625) (fun _ h9 => h9) rfl dX8_exchange_1 ?_
  refine lv_iload_n hx hb dX8_exchange_4 rfl (lv_at hl 1 rfl) ?_
  obtain ⟨g1, h⟩ := dG_some h
  refine va_iald hx hb hK hP 16 0 rfl rfl (dg_in g1) dX8_exchange_5 ?_
  obtain ⟨v2, ev2, h⟩ := dL_some h
  refine kz_topi v2 ev2 ?_
  refine lv_istore_n (lv' := [(3, .int v2), (0, .ref (ad 15)), (1, .int p1), (2, .int p2)]) hx hb dX8_exchange_6 rfl hl (by decide) rfl (fun ls hl => ?_)
  refine lv_aload_n hx hb dX8_exchange_7 rfl (lv_at hl 1 rfl) ?_
  refine va_get (D := D) (ci := 8) (v := .ref (ad 17)) (C := RX8) (T := TX8) (N := 5) hx hb hts u9_wsX8_exchange_X8 hown hK hP 15 rfl rfl 1 (by decide) (hts (.fieldLink RX8 15 "TurnedFloors$Tower" "head" "[I") f9_wsX8_exchange_626) (fun _ h9 => h9) rfl dX8_exchange_8 ?_
  refine lv_iload_n hx hb dX8_exchange_11 rfl (lv_at hl 2 rfl) ?_
  obtain ⟨g3, h⟩ := dG_some h
  refine va_iald hx hb hK hP 17 0 rfl rfl (dg_in g3) dX8_exchange_12 ?_
  obtain ⟨v4, ev4, h⟩ := dL_some h
  refine kz_topi v4 ev4 ?_
  refine lv_istore (lv' := [(4, .int v4), (3, .int v2), (0, .ref (ad 15)), (1, .int p1), (2, .int p2)]) hx hb dX8_exchange_13 hl (by decide) rfl (fun ls hl => ?_)
  refine lv_aload_n hx hb dX8_exchange_15 rfl (lv_at hl 2 rfl) ?_
  refine va_get (D := D) (ci := 8) (v := .ref (ad 16)) (C := RX8) (T := TX8) (N := 5) hx hb hts u9_wsX8_exchange_X8 hown hK hP 15 rfl rfl 0 (by decide) (hts (.fieldLink RX8 9 "TurnedFloors$Tower" "rank" "[I") f9_wsX8_exchange_625) (fun _ h9 => h9) rfl dX8_exchange_16 ?_
  refine lv_iload_n hx hb dX8_exchange_19 rfl (lv_at hl 3 rfl) ?_
  refine lv_aload_n hx hb dX8_exchange_20 rfl (lv_at hl 2 rfl) ?_
  refine va_get (D := D) (ci := 8) (v := .ref (ad 16)) (C := RX8) (T := TX8) (N := 5) hx hb hts u9_wsX8_exchange_X8 hown hK hP 15 rfl rfl 0 (by decide) (hts (.fieldLink RX8 9 "TurnedFloors$Tower" "rank" "[I") f9_wsX8_exchange_625) (fun _ h9 => h9) rfl dX8_exchange_21 ?_
  refine lv_iload_n hx hb dX8_exchange_24 rfl (lv_at hl 4 rfl) ?_
  obtain ⟨g5, h⟩ := dG_some h
  refine va_iald hx hb hK hP 16 0 rfl rfl (dg_in g5) dX8_exchange_25 ?_
  obtain ⟨v6, ev6, h⟩ := dL_some h
  refine kz_topi v6 ev6 ?_
  obtain ⟨g7, h⟩ := dG_some h
  refine va_iast hx hb hK hP hD hS 16 0 rfl rfl (dg_in g7) dX8_exchange_26 (fun H locs hp hd hs => ?_)
  obtain ⟨q8, eq8, h⟩ := dL_some h
  refine kz_re (w2 := wF ty ad q8) hp hd hs (by rw [← eq8]; exact wF_a16 ty ad q (Int32.toNatClampNeg p1) v6) ?_
  clear hp hd hs hP hD hS
  intro hP hD hS
  refine lv_aload_n hx hb dX8_exchange_27 rfl (lv_at hl 2 rfl) ?_
  refine va_get (D := D) (ci := 8) (v := .ref (ad 17)) (C := RX8) (T := TX8) (N := 5) hx hb hts u9_wsX8_exchange_X8 hown hK hP 15 rfl rfl 1 (by decide) (hts (.fieldLink RX8 15 "TurnedFloors$Tower" "head" "[I") f9_wsX8_exchange_626) (fun _ h9 => h9) rfl dX8_exchange_28 ?_
  refine lv_iload_n hx hb dX8_exchange_31 rfl (lv_at hl 3 rfl) ?_
  refine lv_aload_n hx hb dX8_exchange_32 rfl (lv_at hl 2 rfl) ?_
  refine va_get (D := D) (ci := 8) (v := .ref (ad 17)) (C := RX8) (T := TX8) (N := 5) hx hb hts u9_wsX8_exchange_X8 hown hK hP 15 rfl rfl 1 (by decide) (hts (.fieldLink RX8 15 "TurnedFloors$Tower" "head" "[I") f9_wsX8_exchange_626) (fun _ h9 => h9) rfl dX8_exchange_33 ?_
  refine lv_iload_n hx hb dX8_exchange_36 rfl (lv_at hl 4 rfl) ?_
  obtain ⟨g9, h⟩ := dG_some h
  refine va_iald hx hb hK hP 17 0 rfl rfl (dg_in g9) dX8_exchange_37 ?_
  obtain ⟨v10, ev10, h⟩ := dL_some h
  refine kz_topi v10 ev10 ?_
  obtain ⟨g11, h⟩ := dG_some h
  refine va_iast hx hb hK hP hD hS 17 0 rfl rfl (dg_in g11) dX8_exchange_38 (fun H locs hp hd hs => ?_)
  obtain ⟨q12, eq12, h⟩ := dL_some h
  refine kz_re (w2 := wF ty ad q12) hp hd hs (by rw [← eq12]; exact wF_a17 ty ad q8 (Int32.toNatClampNeg p1) v10) ?_
  clear hp hd hs hP hD hS
  intro hP hD hS
  refine lv_aload_n hx hb dX8_exchange_39 rfl (lv_at hl 2 rfl) ?_
  refine va_get (D := D) (ci := 8) (v := .ref (ad 16)) (C := RX8) (T := TX8) (N := 5) hx hb hts u9_wsX8_exchange_X8 hown hK hP 15 rfl rfl 0 (by decide) (hts (.fieldLink RX8 9 "TurnedFloors$Tower" "rank" "[I") f9_wsX8_exchange_625) (fun _ h9 => h9) rfl dX8_exchange_40 ?_
  refine lv_iload_n hx hb dX8_exchange_43 rfl (lv_at hl 4 rfl) ?_
  refine lv_iload_n hx hb dX8_exchange_44 rfl (lv_at hl 1 rfl) ?_
  obtain ⟨g13, h⟩ := dG_some h
  refine va_iast hx hb hK hP hD hS 16 0 rfl rfl (dg_in g13) dX8_exchange_45 (fun H locs hp hd hs => ?_)
  obtain ⟨q14, eq14, h⟩ := dL_some h
  refine kz_re (w2 := wF ty ad q14) hp hd hs (by rw [← eq14]; exact wF_a16 ty ad q12 (Int32.toNatClampNeg p2) v2) ?_
  clear hp hd hs hP hD hS
  intro hP hD hS
  refine lv_aload_n hx hb dX8_exchange_46 rfl (lv_at hl 2 rfl) ?_
  refine va_get (D := D) (ci := 8) (v := .ref (ad 17)) (C := RX8) (T := TX8) (N := 5) hx hb hts u9_wsX8_exchange_X8 hown hK hP 15 rfl rfl 1 (by decide) (hts (.fieldLink RX8 15 "TurnedFloors$Tower" "head" "[I") f9_wsX8_exchange_626) (fun _ h9 => h9) rfl dX8_exchange_47 ?_
  refine lv_iload_n hx hb dX8_exchange_50 rfl (lv_at hl 4 rfl) ?_
  refine lv_iload hx hb dX8_exchange_51 (lv_at hl 0 rfl) ?_
  obtain ⟨g15, h⟩ := dG_some h
  refine va_iast hx hb hK hP hD hS 17 0 rfl rfl (dg_in g15) dX8_exchange_53 (fun H locs hp hd hs => ?_)
  obtain ⟨q16, eq16, h⟩ := dL_some h
  refine kz_re (w2 := wF ty ad q16) hp hd hs (by rw [← eq16]; exact wF_a17 ty ad q14 (Int32.toNatClampNeg p2) v4) ?_
  clear hp hd hs hP hD hS
  intro hP hD hS
  cases h
  exact kz_vret hx hb hr hlocks hP hK hD hS dX8_exchange_54 rfl

set_option maxHeartbeats 4000000 in
set_option maxRecDepth 100000 in
theorem WX8_turnTop_s15_s20_75b {p : Program} {l : Launch} {e : Env} {s : State} {m : MethodId} {args : Array Value} {below : List Frame} {meth : Method} {c : Code} {D : va_G} {ty : Nat → ClassId} {eo : Nat → Nat} {A : Nat → Prop} {ad : Nat → Nat} {o1 : Int32} {o2 : dK} (C : dc_C p s m args meth c cX8_turnTop (some .int) 6 RX8 wsX8_turnTop D ty eo A) {k75 : dK → Int32 → Int32 → Int32 → Option (Int32 × dK)} (hk75 : ∀ (q : dK) (x1 : Int32) (x3 : Int32) (x4 : Int32) (H : Heap) (locs : List Loc) (ls : Array Slot), k75 q x1 x3 x4 = some (o1, o2) → va_P D vwCl (wF ty ad q) H → va_D A (wF ty ad q) → va_S A s.heap H locs → lv_has ls 6 [(0, .ref (ad 15)), (1, .int x1), (3, .int x3), (4, .int x4)] → W p l e ({ frames := 4, cells := 0, slots := 0, locals := 103 } : Room) s m args below meth c H locs 0 0 (MQ below (va_Qi (fun (r : Int32) (u : va_W) => o1 = r ∧ wF ty ad o2 = u) (kz_B D ty A) A) args s 0 0 A) (F0 m 75 ls [])) (q : dK) (x1 : Int32) (x3 : Int32) (x4 : Int32) (H : Heap) (locs : List Loc) (ls : Array Slot) (h : zX8_turnTop_s15_s20_75b k75 q x1 x3 x4 = some (o1, o2)) (hP : va_P D vwCl (wF ty ad q) H) (hD : va_D A (wF ty ad q)) (hS : va_S A s.heap H locs) (hl : lv_has ls 6 [(0, .ref (ad 15)), (1, .int x1), (3, .int x3), (4, .int x4)]) : W p l e ({ frames := 4, cells := 0, slots := 0, locals := 103 } : Room) s m args below meth c H locs 0 0 (MQ below (va_Qi (fun (r : Int32) (u : va_W) => o1 = r ∧ wF ty ad o2 = u) (kz_B D ty A) A) args s 0 0 A) (F0 m 75 ls []) := by
  have C0 := C
  obtain ⟨hx, hb, hr, hts, hown, hlocks, hml, hK, hN, hE, hA⟩ := C
  unfold zX8_turnTop_s15_s20_75b at h
  refine lv_iload hx hb dX8_turnTop_75 (lv_at hl 3 rfl) ?_
  refine lv_iload_n hx hb dX8_turnTop_77 rfl (lv_at hl 1 rfl) ?_
  refine lv_icmp_ge (tgt := 103) hx hb dX8_turnTop_78 (by decide) (fun c9 => ?_) (fun c9 => ?_)
  · rw [if_pos c9] at h
    refine lv_aload_n hx hb dX8_turnTop_103 rfl (lv_at hl 0 rfl) ?_
    refine lv_sipush (v := 9999) hx hb dX8_turnTop_104 (by decide) ?_
    refine lv_aload_n hx hb dX8_turnTop_107 rfl (lv_at hl 0 rfl) ?_
    refine va_get (D := D) (ci := 8) (v := .int (q.1 15 3)) (C := RX8) (T := TX8) (N := 5) hx hb hts u9_wsX8_turnTop_X8 hown hK hP 15 rfl rfl 3 (by decide) (hts (.fieldLink RX8 22 "TurnedFloors$Tower" "paid" "I") f9_wsX8_turnTop_628) (fun _ h9 => h9) rfl dX8_turnTop_108 ?_
    refine lv_iload_n hx hb dX8_turnTop_111 rfl (lv_at hl 2 rfl) ?_
    refine lv_iadd hx hb dX8_turnTop_112 ?_
    refine va_mmin hx hb (hml.trans hl.1.symm) hown (hts (.methodLink RX8 41 Lib.Math.min.name) f9_wsX8_turnTop_629) (hts (.static Lib.Math.min.name) f9_wsX8_turnTop_630) (hts (.initialized "java/lang/Math") f9_wsX8_turnTop_631) (hts (.code Lib.Math.min.name Lib.Math.min.code 2 (some .int)) f9_wsX8_turnTop_632) (Nat.le_of_ble_eq_true rfl) (Nat.le_of_ble_eq_true rfl) (Nat.le_of_ble_eq_true rfl) (Nat.le_of_ble_eq_true rfl) dX8_turnTop_113 ?_
    refine kz_topi (mnI 9999 ((q.1 15 3) + x3)) rfl ?_
    refine va_put (D := D) (ci := 8) (v := .int (mnI 9999 ((q.1 15 3) + x3))) (ty := .int) (C := RX8) (T := TX8) (N := 5) hx hb hts u9_wsX8_turnTop_X8 tyX8 tyX8_ok nmX8 hown hK hP hD hS 15 rfl rfl 3 (by decide) (hts (.fieldLink RX8 22 "TurnedFloors$Tower" "paid" "I") f9_wsX8_turnTop_628) (fun _ h9 => h9) rfl (by decide +kernel) rfl rfl (Nat.le_of_ble_eq_true rfl) dX8_turnTop_116 (fun H locs hp hd hs => ?_)
    obtain ⟨q1, eq1, h⟩ := dL_some h
    refine kz_re (w2 := wF ty ad q1) hp hd hs (by rw [← eq1]; exact wF_f15_3 ty ad q (mnI 9999 ((q.1 15 3) + x3))) ?_
    clear hp hd hs hP hD hS
    intro hP hD hS
    refine lv_iload_n hx hb dX8_turnTop_119 rfl (lv_at hl 2 rfl) ?_
    cases h
    exact kz_iret hx hb hr hlocks hP hK hD hS dX8_turnTop_120 ⟨rfl, rfl⟩
  · rw [if_neg c9] at h
    refine lv_aload_n hx hb dX8_turnTop_81 rfl (lv_at hl 0 rfl) ?_
    refine va_get (D := D) (ci := 8) (v := .ref (ad 17)) (C := RX8) (T := TX8) (N := 5) hx hb hts u9_wsX8_turnTop_X8 hown hK hP 15 rfl rfl 1 (by decide) (hts (.fieldLink RX8 15 "TurnedFloors$Tower" "head" "[I") f9_wsX8_turnTop_633) (fun _ h9 => h9) rfl dX8_turnTop_82 ?_
    refine lv_iload hx hb dX8_turnTop_85 (lv_at hl 3 rfl) ?_
    refine lv_iconst (v := 1) hx hb dX8_turnTop_87 (by decide) ?_
    refine lv_aload_n hx hb dX8_turnTop_88 rfl (lv_at hl 0 rfl) ?_
    refine va_get (D := D) (ci := 8) (v := .ref (ad 17)) (C := RX8) (T := TX8) (N := 5) hx hb hts u9_wsX8_turnTop_X8 hown hK hP 15 rfl rfl 1 (by decide) (hts (.fieldLink RX8 15 "TurnedFloors$Tower" "head" "[I") f9_wsX8_turnTop_633) (fun _ h9 => h9) rfl dX8_turnTop_89 ?_
    refine lv_iload hx hb dX8_turnTop_92 (lv_at hl 3 rfl) ?_
    obtain ⟨g2, h⟩ := dG_some h
    refine va_iald hx hb hK hP 17 0 rfl rfl (dg_in g2) dX8_turnTop_94 ?_
    obtain ⟨v3, ev3, h⟩ := dL_some h
    refine kz_topi v3 ev3 ?_
    refine lv_isub hx hb dX8_turnTop_95 ?_
    obtain ⟨g4, h⟩ := dG_some h
    refine va_iast hx hb hK hP hD hS 17 0 rfl rfl (dg_in g4) dX8_turnTop_96 (fun H locs hp hd hs => ?_)
    obtain ⟨q5, eq5, h⟩ := dL_some h
    refine kz_re (w2 := wF ty ad q5) hp hd hs (by rw [← eq5]; exact wF_a17 ty ad q (Int32.toNatClampNeg x4) (1 - v3 : Int32)) ?_
    clear hp hd hs hP hD hS
    intro hP hD hS
    refine lv_iinc (v := x4 + 1) (lv' := [(4, .int (x4 + 1)), (0, .ref (ad 15)), (1, .int x1), (3, .int x3)]) hx hb dX8_turnTop_97 hl (k := 3) rfl rfl (by decide) rfl (fun ls hl => ?_)
    refine lv_goto (tgt := 75) hx hb dX8_turnTop_100 (by decide) ?_
    exact hk75 _ _ _ _ _ _ _ h hP hD hS (lv_sub hl [1, 2, 3, 0] rfl)
set_option maxHeartbeats 4000000 in
set_option maxRecDepth 100000 in
theorem WX8_turnTop_s15_s20_75 {p : Program} {l : Launch} {e : Env} {s : State} {m : MethodId} {args : Array Value} {below : List Frame} {meth : Method} {c : Code} {D : va_G} {ty : Nat → ClassId} {eo : Nat → Nat} {A : Nat → Prop} {ad : Nat → Nat} {o1 : Int32} {o2 : dK} (C : dc_C p s m args meth c cX8_turnTop (some .int) 6 RX8 wsX8_turnTop D ty eo A)   (n : Nat) (q : dK) (x1 : Int32) (x3 : Int32) (x4 : Int32) (H : Heap) (locs : List Loc) (ls : Array Slot) (h : zX8_turnTop_s15_s20_75  n q x1 x3 x4 = some (o1, o2)) (hP : va_P D vwCl (wF ty ad q) H) (hD : va_D A (wF ty ad q)) (hS : va_S A s.heap H locs) (hl : lv_has ls 6 [(0, .ref (ad 15)), (1, .int x1), (3, .int x3), (4, .int x4)]) : W p l e ({ frames := 4, cells := 0, slots := 0, locals := 103 } : Room) s m args below meth c H locs 0 0 (MQ below (va_Qi (fun (r : Int32) (u : va_W) => o1 = r ∧ wF ty ad o2 = u) (kz_B D ty A) A) args s 0 0 A) (F0 m 75 ls []) := by
  exact dFix_W (F := fun k (a : dK × Int32 × Int32 × Int32) => zX8_turnTop_s15_s20_75b  (fun q x1 x3 x4 => k (q, x1, x3, x4)) a.1 a.2.1 a.2.2.1 a.2.2.2) (o := (o1, o2)) (P := fun (a : dK × Int32 × Int32 × Int32) H locs ls => va_P D vwCl (wF ty ad a.1) H ∧ va_D A (wF ty ad a.1) ∧ va_S A s.heap H locs ∧ lv_has ls 6 [(0, .ref (ad 15)), (1, .int a.2.1), (3, .int a.2.2.1), (4, .int a.2.2.2)]) (G := fun H locs ls => W p l e ({ frames := 4, cells := 0, slots := 0, locals := 103 } : Room) s m args below meth c H locs 0 0 (MQ below (va_Qi (fun (r : Int32) (u : va_W) => o1 = r ∧ wF ty ad o2 = u) (kz_B D ty A) A) args s 0 0 A) (F0 m 75 ls []))
    (fun k hk a H locs ls h hp => WX8_turnTop_s15_s20_75b C  (fun q x1 x3 x4 H locs ls h h1 h2 h3 h4 => hk (q, x1, x3, x4) H locs ls h ⟨h1, h2, h3, h4⟩) a.1 a.2.1 a.2.2.1 a.2.2.2 H locs ls h hp.1 hp.2.1 hp.2.2.1 hp.2.2.2) n (q, x1, x3, x4) H locs ls h ⟨hP, hD, hS, hl⟩
set_option maxHeartbeats 4000000 in
set_option maxRecDepth 100000 in
theorem WX8_turnTop_s15_s20_48b {p : Program} {l : Launch} {e : Env} {s : State} {m : MethodId} {args : Array Value} {below : List Frame} {meth : Method} {c : Code} {D : va_G} {ty : Nat → ClassId} {eo : Nat → Nat} {A : Nat → Prop} {ad : Nat → Nat} {o1 : Int32} {o2 : dK} (C : dc_C p s m args meth c cX8_turnTop (some .int) 6 RX8 wsX8_turnTop D ty eo A) {k48 : dK → Int32 → Int32 → Int32 → Int32 → Option (Int32 × dK)} (hk48 : ∀ (q : dK) (x1 : Int32) (x3 : Int32) (x4 : Int32) (x5 : Int32) (H : Heap) (locs : List Loc) (ls : Array Slot), k48 q x1 x3 x4 x5 = some (o1, o2) → va_P D vwCl (wF ty ad q) H → va_D A (wF ty ad q) → va_S A s.heap H locs → lv_has ls 6 [(0, .ref (ad 15)), (1, .int x1), (3, .int x3), (4, .int x4), (5, .int x5)] → W p l e ({ frames := 4, cells := 0, slots := 0, locals := 103 } : Room) s m args below meth c H locs 0 0 (MQ below (va_Qi (fun (r : Int32) (u : va_W) => o1 = r ∧ wF ty ad o2 = u) (kz_B D ty A) A) args s 0 0 A) (F0 m 48 ls [])) (q : dK) (x1 : Int32) (x3 : Int32) (x4 : Int32) (x5 : Int32) (H : Heap) (locs : List Loc) (ls : Array Slot) (h : zX8_turnTop_s15_s20_48b k48 q x1 x3 x4 x5 = some (o1, o2)) (hP : va_P D vwCl (wF ty ad q) H) (hD : va_D A (wF ty ad q)) (hS : va_S A s.heap H locs) (hl : lv_has ls 6 [(0, .ref (ad 15)), (1, .int x1), (3, .int x3), (4, .int x4), (5, .int x5)]) : W p l e ({ frames := 4, cells := 0, slots := 0, locals := 103 } : Room) s m args below meth c H locs 0 0 (MQ below (va_Qi (fun (r : Int32) (u : va_W) => o1 = r ∧ wF ty ad o2 = u) (kz_B D ty A) A) args s 0 0 A) (F0 m 48 ls []) := by
  have C0 := C
  obtain ⟨hx, hb, hr, hts, hown, hlocks, hml, hK, hN, hE, hA⟩ := C
  unfold zX8_turnTop_s15_s20_48b at h
  refine lv_iload hx hb dX8_turnTop_48 (lv_at hl 3 rfl) ?_
  refine lv_iload hx hb dX8_turnTop_50 (lv_at hl 4 rfl) ?_
  refine lv_icmp_ge (tgt := 72) hx hb dX8_turnTop_52 (by decide) (fun c9 => ?_) (fun c9 => ?_)
  · rw [if_pos c9] at h
    refine lv_iconst (v := 0) hx hb dX8_turnTop_72 (by decide) ?_
    refine lv_istore (lv' := [(4, .int 0), (0, .ref (ad 15)), (1, .int x1), (3, .int x3), (5, .int x5)]) hx hb dX8_turnTop_73 hl (by decide) rfl (fun ls hl => ?_)
    exact WX8_turnTop_s15_s20_75 C0  _ _ _ _ _ _ _ _ h hP hD hS (lv_sub hl [1, 2, 3, 0] rfl)
  · rw [if_neg c9] at h
    refine lv_aload_n hx hb dX8_turnTop_55 rfl (lv_at hl 0 rfl) ?_
    refine lv_iload hx hb dX8_turnTop_56 (lv_at hl 3 rfl) ?_
    refine lv_iload hx hb dX8_turnTop_58 (lv_at hl 4 rfl) ?_
    obtain ⟨q3, h2, h⟩ := dV_some h
    refine dw_kv (va_runV (As := [.int x4, .int x5]) (rest := []) ⟨hx, hb, hml, hown, hts⟩ (qX8_exchange_s15 l D ty eo _ ad q x4 x5 q3 h2) (cwV 2 hts gX8_turnTop_X8_exchange rfl rfl rfl (by decide +kernel) ⟨Nat.le_of_ble_eq_true rfl, Nat.le_of_ble_eq_true rfl⟩) (dw_preV (ci := 8) (q0 := 15) hK hN hE hP hD hS hA rfl rfl) rfl rfl hl.1 rfl (lv_room (Nat.le_of_ble_eq_true rfl)) dX8_turnTop_60 ⟨Nat.le_of_ble_eq_true rfl, Nat.le_of_ble_eq_true rfl⟩) hD hS hA (fun u9 H locs hw hp hd hs => ?_)
    clear hP hD hS
    obtain rfl := hw
    have hP := hp; have hD := hd; have hS := hs; clear hp hd hs
    refine lv_iinc (v := x4 + 1) (lv' := [(4, .int (x4 + 1)), (0, .ref (ad 15)), (1, .int x1), (3, .int x3), (5, .int x5)]) hx hb dX8_turnTop_63 hl (k := 3) rfl rfl (by decide) rfl (fun ls hl => ?_)
    refine lv_iinc (v := x5 + (-1)) (lv' := [(5, .int (x5 + (-1))), (4, .int (x4 + 1)), (0, .ref (ad 15)), (1, .int x1), (3, .int x3)]) hx hb dX8_turnTop_66 hl (k := 4) rfl rfl (by decide) rfl (fun ls hl => ?_)
    refine lv_goto (tgt := 48) hx hb dX8_turnTop_69 (by decide) ?_
    exact hk48 _ _ _ _ _ _ _ _ h hP hD hS (lv_sub hl [2, 3, 4, 1, 0] rfl)
set_option maxHeartbeats 4000000 in
set_option maxRecDepth 100000 in
theorem WX8_turnTop_s15_s20_48 {p : Program} {l : Launch} {e : Env} {s : State} {m : MethodId} {args : Array Value} {below : List Frame} {meth : Method} {c : Code} {D : va_G} {ty : Nat → ClassId} {eo : Nat → Nat} {A : Nat → Prop} {ad : Nat → Nat} {o1 : Int32} {o2 : dK} (C : dc_C p s m args meth c cX8_turnTop (some .int) 6 RX8 wsX8_turnTop D ty eo A)   (n : Nat) (q : dK) (x1 : Int32) (x3 : Int32) (x4 : Int32) (x5 : Int32) (H : Heap) (locs : List Loc) (ls : Array Slot) (h : zX8_turnTop_s15_s20_48  n q x1 x3 x4 x5 = some (o1, o2)) (hP : va_P D vwCl (wF ty ad q) H) (hD : va_D A (wF ty ad q)) (hS : va_S A s.heap H locs) (hl : lv_has ls 6 [(0, .ref (ad 15)), (1, .int x1), (3, .int x3), (4, .int x4), (5, .int x5)]) : W p l e ({ frames := 4, cells := 0, slots := 0, locals := 103 } : Room) s m args below meth c H locs 0 0 (MQ below (va_Qi (fun (r : Int32) (u : va_W) => o1 = r ∧ wF ty ad o2 = u) (kz_B D ty A) A) args s 0 0 A) (F0 m 48 ls []) := by
  exact dFix_W (F := fun k (a : dK × Int32 × Int32 × Int32 × Int32) => zX8_turnTop_s15_s20_48b  (fun q x1 x3 x4 x5 => k (q, x1, x3, x4, x5)) a.1 a.2.1 a.2.2.1 a.2.2.2.1 a.2.2.2.2) (o := (o1, o2)) (P := fun (a : dK × Int32 × Int32 × Int32 × Int32) H locs ls => va_P D vwCl (wF ty ad a.1) H ∧ va_D A (wF ty ad a.1) ∧ va_S A s.heap H locs ∧ lv_has ls 6 [(0, .ref (ad 15)), (1, .int a.2.1), (3, .int a.2.2.1), (4, .int a.2.2.2.1), (5, .int a.2.2.2.2)]) (G := fun H locs ls => W p l e ({ frames := 4, cells := 0, slots := 0, locals := 103 } : Room) s m args below meth c H locs 0 0 (MQ below (va_Qi (fun (r : Int32) (u : va_W) => o1 = r ∧ wF ty ad o2 = u) (kz_B D ty A) A) args s 0 0 A) (F0 m 48 ls []))
    (fun k hk a H locs ls h hp => WX8_turnTop_s15_s20_48b C  (fun q x1 x3 x4 x5 H locs ls h h1 h2 h3 h4 => hk (q, x1, x3, x4, x5) H locs ls h ⟨h1, h2, h3, h4⟩) a.1 a.2.1 a.2.2.1 a.2.2.2.1 a.2.2.2.2 H locs ls h hp.1 hp.2.1 hp.2.2.1 hp.2.2.2) n (q, x1, x3, x4, x5) H locs ls h ⟨hP, hD, hS, hl⟩
set_option maxHeartbeats 4000000 in
set_option maxRecDepth 100000 in
theorem WX8_turnTop_s15_s20_30 {p : Program} {l : Launch} {e : Env} {s : State} {m : MethodId} {args : Array Value} {below : List Frame} {meth : Method} {c : Code} {D : va_G} {ty : Nat → ClassId} {eo : Nat → Nat} {A : Nat → Prop} {ad : Nat → Nat} {o1 : Int32} {o2 : dK} (C : dc_C p s m args meth c cX8_turnTop (some .int) 6 RX8 wsX8_turnTop D ty eo A)   (q : dK)  (H : Heap) (locs : List Loc) (ls : Array Slot) (h : zX8_turnTop_s15_s20_30  q = some (o1, o2)) (hP : va_P D vwCl (wF ty ad q) H) (hD : va_D A (wF ty ad q)) (hS : va_S A s.heap H locs) (hl : lv_has ls 6 []) : W p l e ({ frames := 4, cells := 0, slots := 0, locals := 103 } : Room) s m args below meth c H locs 0 0 (MQ below (va_Qi (fun (r : Int32) (u : va_W) => o1 = r ∧ wF ty ad o2 = u) (kz_B D ty A) A) args s 0 0 A) (F0 m 30 ls []) := by
  have C0 := C
  obtain ⟨hx, hb, hr, hts, hown, hlocks, hml, hK, hN, hE, hA⟩ := C
  unfold zX8_turnTop_s15_s20_30 at h
  refine lv_bipush (v := (-3)) hx hb dX8_turnTop_30 (by decide) ?_
  cases h
  exact kz_iret hx hb hr hlocks hP hK hD hS dX8_turnTop_32 ⟨rfl, rfl⟩
set_option maxHeartbeats 4000000 in
set_option maxRecDepth 100000 in
theorem WX8_turnTop_s15_s20_11 {p : Program} {l : Launch} {e : Env} {s : State} {m : MethodId} {args : Array Value} {below : List Frame} {meth : Method} {c : Code} {D : va_G} {ty : Nat → ClassId} {eo : Nat → Nat} {A : Nat → Prop} {ad : Nat → Nat} {o1 : Int32} {o2 : dK} (C : dc_C p s m args meth c cX8_turnTop (some .int) 6 RX8 wsX8_turnTop D ty eo A)   (q : dK)  (H : Heap) (locs : List Loc) (ls : Array Slot) (h : zX8_turnTop_s15_s20_11  q = some (o1, o2)) (hP : va_P D vwCl (wF ty ad q) H) (hD : va_D A (wF ty ad q)) (hS : va_S A s.heap H locs) (hl : lv_has ls 6 []) : W p l e ({ frames := 4, cells := 0, slots := 0, locals := 103 } : Room) s m args below meth c H locs 0 0 (MQ below (va_Qi (fun (r : Int32) (u : va_W) => o1 = r ∧ wF ty ad o2 = u) (kz_B D ty A) A) args s 0 0 A) (F0 m 11 ls []) := by
  have C0 := C
  obtain ⟨hx, hb, hr, hts, hown, hlocks, hml, hK, hN, hE, hA⟩ := C
  unfold zX8_turnTop_s15_s20_11 at h
  refine lv_iconst (v := (-1)) hx hb dX8_turnTop_11 (by decide) ?_
  cases h
  exact kz_iret hx hb hr hlocks hP hK hD hS dX8_turnTop_12 ⟨rfl, rfl⟩
set_option maxHeartbeats 4000000 in
set_option maxRecDepth 100000 in
theorem qX8_turnTop_s15_s20 (l : Launch) (D : va_G) (ty : Nat → ClassId) (eo : Nat → Nat) (sz : Nat) (ad : Nat → Nat) (q : dK) (p1 : Int32) (o1 : Int32) (o2 : dK) (h : zX8_turnTop_s15_s20 q p1 = some (o1, o2)) : Met l yX8_turnTop wsX8_turnTop ({ frames := 4, cells := 0, slots := 0, locals := 103 } : Room) (va_Pc [.ref (ad 15), .int p1, .ref (ad 20)] (kz_pre D ty eo (wF ty ad q) sz)) (va_Qi (fun (r : Int32) (u : va_W) => o1 = r ∧ wF ty ad o2 = u) (kz_B D ty (va_A (wF ty ad q) sz)) (va_A (wF ty ad q) sz)) 0 0 (va_A (wF ty ad q) sz) := by
  refine Met.ofW (cc := cX8_turnTop) (maxL := 6) (ret := (some .int)) (by decide) rfl ?_
  intro p e s m args below meth c s₁ B hml hv
  obtain ⟨rfl, hsz, hP, hK, hD0, hN, hE⟩ := hv
  have hx := B.exec
  have hb := B.bytes
  have hr := B.returns
  have hts := atoms_spec (ws := wsX8_turnTop) B.pre
  have hown : s.vm.findClass RX8 = some m.cls := findClass_of_methodNamed B.named
  have hlocks := B.notSynchronized
  subst hsz
  have hD := hD0.self (sz := s.heap.size)
  generalize hAe : va_A (wF ty ad q) s.heap.size = A at hD hE ⊢
  have hA : ∀ q : Nat, s.heap.size ≤ q → A q := fun q h => by rw [← hAe]; exact Or.inr h
  clear hAe
  have hS : va_S A s.heap s.heap [] := va_S.rf
  have hl := lv_entry ([.ref (ad 15), .int p1, .ref (ad 20)]) (n := 6) (Nat.le_of_ble_eq_true rfl)
  rw [lg_entry_eq]
  generalize (lg_sl ([.ref (ad 15), .int p1, .ref (ad 20)]) ++ List.replicate (6 - (lg_sl ([.ref (ad 15), .int p1, .ref (ad 20)])).length) Slot.unset).toArray = ls at hl ⊢
  have hl : lv_has ls 6 [(0, .ref (ad 15)), (1, .int p1), (2, .ref (ad 20))] := hl
  have C : dc_C p s m _ meth c cX8_turnTop (some .int) 6 RX8 wsX8_turnTop D ty eo A := ⟨hx, hb, hr, hts, hown, hlocks, hml, hK, hN, hE, hA⟩
  unfold zX8_turnTop_s15_s20 at h
  refine lv_iload_n hx hb dX8_turnTop_0 rfl (lv_at hl 1 rfl) ?_
  refine lv_iconst (v := 1) hx hb dX8_turnTop_1 (by decide) ?_
  refine lv_icmp_lt (tgt := 11) hx hb dX8_turnTop_2 (by decide) (fun c9 => ?_) (fun c9 => ?_)
  · rw [if_pos c9] at h
    exact WX8_turnTop_s15_s20_11 C  _ _ _ _ h hP hD hS (lv_sub hl [] rfl)
  · rw [if_neg c9] at h
    refine lv_iload_n hx hb dX8_turnTop_5 rfl (lv_at hl 1 rfl) ?_
    refine lv_bipush (v := 6) hx hb dX8_turnTop_6 (by decide) ?_
    refine lv_icmp_le (tgt := 13) hx hb dX8_turnTop_8 (by decide) (fun c9 => ?_) (fun c9 => ?_)
    · rw [if_pos c9] at h
      refine lv_iload_n hx hb dX8_turnTop_13 rfl (lv_at hl 1 rfl) ?_
      refine lv_aload_n hx hb dX8_turnTop_14 rfl (lv_at hl 0 rfl) ?_
      refine va_get (D := D) (ci := 8) (v := .int (q.1 15 2)) (C := RX8) (T := TX8) (N := 5) hx hb hts u9_wsX8_turnTop_X8 hown hK hP 15 rfl rfl 2 (by decide) (hts (.fieldLink RX8 18 "TurnedFloors$Tower" "floors" "I") f9_wsX8_turnTop_634) (fun _ h9 => h9) rfl dX8_turnTop_15 ?_
      refine lv_icmp_gt (tgt := 30) hx hb dX8_turnTop_18 (by decide) (fun c9 => ?_) (fun c9 => ?_)
      · rw [if_pos c9] at h
        exact WX8_turnTop_s15_s20_30 C  _ _ _ _ h hP hD hS (lv_sub hl [] rfl)
      · rw [if_neg c9] at h
        refine lv_aload_n hx hb dX8_turnTop_21 rfl (lv_at hl 2 rfl) ?_
        refine lv_aload_n hx hb dX8_turnTop_22 rfl (lv_at hl 0 rfl) ?_
        refine lv_iload_n hx hb dX8_turnTop_23 rfl (lv_at hl 1 rfl) ?_
        obtain ⟨r1, q3, h2, h⟩ := dB_some h
        refine dw_ki (va_runV (As := [.ref (ad 15), .int p1]) (rest := []) ⟨hx, hb, hml, hown, hts⟩ (qX1_bars_s20_s15 l D ty eo _ ad q p1 r1 q3 h2) (cwV 2 hts gX8_turnTop_X1_bars rfl rfl rfl (by decide +kernel) ⟨Nat.le_of_ble_eq_true rfl, Nat.le_of_ble_eq_true rfl⟩) (dw_preV (ci := 1) (q0 := 20) hK hN hE hP hD hS hA rfl rfl) rfl rfl hl.1 rfl (lv_room (Nat.le_of_ble_eq_true rfl)) dX8_turnTop_24 ⟨Nat.le_of_ble_eq_true rfl, Nat.le_of_ble_eq_true rfl⟩) hD hS hA (fun r9 u9 H locs hw hp hd hs => ?_)
        clear hP hD hS
        obtain ⟨rfl, rfl⟩ := hw
        have hP := hp; have hD := hd; have hS := hs; clear hp hd hs
        refine lv_if_eq (tgt := 33) hx hb dX8_turnTop_27 (by decide) (fun c9 => ?_) (fun c9 => ?_)
        · rw [if_pos c9] at h
          refine lv_aload_n hx hb dX8_turnTop_33 rfl (lv_at hl 2 rfl) ?_
          refine lv_aload_n hx hb dX8_turnTop_34 rfl (lv_at hl 0 rfl) ?_
          refine lv_iload_n hx hb dX8_turnTop_35 rfl (lv_at hl 1 rfl) ?_
          obtain ⟨r4, q6, h5, h⟩ := dB_some h
          refine dw_ki (va_runV (As := [.ref (ad 15), .int p1]) (rest := []) ⟨hx, hb, hml, hown, hts⟩ (qX1_payOf_s20_s15 l D ty eo _ ad q3 p1 r4 q6 h5) (cwV 2 hts gX8_turnTop_X1_payOf rfl rfl rfl (by decide +kernel) ⟨Nat.le_of_ble_eq_true rfl, Nat.le_of_ble_eq_true rfl⟩) (dw_preV (ci := 1) (q0 := 20) hK hN hE hP hD hS hA rfl rfl) rfl rfl hl.1 rfl (lv_room (Nat.le_of_ble_eq_true rfl)) dX8_turnTop_36 ⟨Nat.le_of_ble_eq_true rfl, Nat.le_of_ble_eq_true rfl⟩) hD hS hA (fun r9 u9 H locs hw hp hd hs => ?_)
          clear hP hD hS
          obtain ⟨rfl, rfl⟩ := hw
          have hP := hp; have hD := hd; have hS := hs; clear hp hd hs
          refine lv_istore_n (lv' := [(3, .int r4), (0, .ref (ad 15)), (1, .int p1), (2, .ref (ad 20))]) hx hb dX8_turnTop_39 rfl hl (by decide) rfl (fun ls hl => ?_)
          refine lv_iconst (v := 0) hx hb dX8_turnTop_40 (by decide) ?_
          refine lv_istore (lv' := [(4, .int 0), (3, .int r4), (0, .ref (ad 15)), (1, .int p1), (2, .ref (ad 20))]) hx hb dX8_turnTop_41 hl (by decide) rfl (fun ls hl => ?_)
          refine lv_iload_n hx hb dX8_turnTop_43 rfl (lv_at hl 3 rfl) ?_
          refine lv_iconst (v := 1) hx hb dX8_turnTop_44 (by decide) ?_
          refine lv_isub hx hb dX8_turnTop_45 ?_
          refine lv_istore (lv' := [(5, .int (p1 - 1 : Int32)), (4, .int 0), (3, .int r4), (0, .ref (ad 15)), (1, .int p1), (2, .ref (ad 20))]) hx hb dX8_turnTop_46 hl (by decide) rfl (fun ls hl => ?_)
          exact WX8_turnTop_s15_s20_48 C  _ _ _ _ _ _ _ _ _ h hP hD hS (lv_sub hl [3, 4, 2, 1, 0] rfl)
        · rw [if_neg c9] at h
          exact WX8_turnTop_s15_s20_30 C  _ _ _ _ h hP hD hS (lv_sub hl [] rfl)
    · rw [if_neg c9] at h
      exact WX8_turnTop_s15_s20_11 C  _ _ _ _ h hP hD hS (lv_sub hl [] rfl)

set_option maxHeartbeats 4000000 in
set_option maxRecDepth 100000 in
theorem WX8_rightAt_s15_10 {p : Program} {l : Launch} {e : Env} {s : State} {m : MethodId} {args : Array Value} {below : List Frame} {meth : Method} {c : Code} {D : va_G} {ty : Nat → ClassId} {eo : Nat → Nat} {A : Nat → Prop} {ad : Nat → Nat} {o1 : Int32} {o2 : dK} (C : dc_C p s m args meth c cX8_rightAt (some .int) 2 RX8 wsX8_rightAt D ty eo A)   (q : dK)  (H : Heap) (locs : List Loc) (ls : Array Slot) (h : zX8_rightAt_s15_10  q = some (o1, o2)) (hP : va_P D vwCl (wF ty ad q) H) (hD : va_D A (wF ty ad q)) (hS : va_S A s.heap H locs) (hl : lv_has ls 2 []) : W p l e ({ frames := 1, cells := 0, slots := 0, locals := 21 } : Room) s m args below meth c H locs 0 0 (MQ below (va_Qi (fun (r : Int32) (u : va_W) => o1 = r ∧ wF ty ad o2 = u) (kz_B D ty A) A) args s 0 0 A) (F0 m 10 ls []) := by
  have C0 := C
  obtain ⟨hx, hb, hr, hts, hown, hlocks, hml, hK, hN, hE, hA⟩ := C
  unfold zX8_rightAt_s15_10 at h
  refine lv_iconst (v := (-1)) hx hb dX8_rightAt_10 (by decide) ?_
  cases h
  exact kz_iret hx hb hr hlocks hP hK hD hS dX8_rightAt_11 ⟨rfl, rfl⟩
set_option maxHeartbeats 4000000 in
set_option maxRecDepth 100000 in
theorem qX8_rightAt_s15 (l : Launch) (D : va_G) (ty : Nat → ClassId) (eo : Nat → Nat) (sz : Nat) (ad : Nat → Nat) (q : dK) (p1 : Int32) (o1 : Int32) (o2 : dK) (h : zX8_rightAt_s15 q p1 = some (o1, o2)) : Met l yX8_rightAt wsX8_rightAt ({ frames := 1, cells := 0, slots := 0, locals := 21 } : Room) (va_Pc [.ref (ad 15), .int p1] (kz_pre D ty eo (wF ty ad q) sz)) (va_Qi (fun (r : Int32) (u : va_W) => o1 = r ∧ wF ty ad o2 = u) (kz_B D ty (va_A (wF ty ad q) sz)) (va_A (wF ty ad q) sz)) 0 0 (va_A (wF ty ad q) sz) := by
  refine Met.ofW (cc := cX8_rightAt) (maxL := 2) (ret := (some .int)) (by decide) rfl ?_
  intro p e s m args below meth c s₁ B hml hv
  obtain ⟨rfl, hsz, hP, hK, hD0, hN, hE⟩ := hv
  have hx := B.exec
  have hb := B.bytes
  have hr := B.returns
  have hts := atoms_spec (ws := wsX8_rightAt) B.pre
  have hown : s.vm.findClass RX8 = some m.cls := findClass_of_methodNamed B.named
  have hlocks := B.notSynchronized
  subst hsz
  have hD := hD0.self (sz := s.heap.size)
  generalize hAe : va_A (wF ty ad q) s.heap.size = A at hD hE ⊢
  have hA : ∀ q : Nat, s.heap.size ≤ q → A q := fun q h => by rw [← hAe]; exact Or.inr h
  clear hAe
  have hS : va_S A s.heap s.heap [] := va_S.rf
  have hl := lv_entry ([.ref (ad 15), .int p1]) (n := 2) (Nat.le_of_ble_eq_true rfl)
  rw [lg_entry_eq]
  generalize (lg_sl ([.ref (ad 15), .int p1]) ++ List.replicate (2 - (lg_sl ([.ref (ad 15), .int p1])).length) Slot.unset).toArray = ls at hl ⊢
  have hl : lv_has ls 2 [(0, .ref (ad 15)), (1, .int p1)] := hl
  have C : dc_C p s m _ meth c cX8_rightAt (some .int) 2 RX8 wsX8_rightAt D ty eo A := ⟨hx, hb, hr, hts, hown, hlocks, hml, hK, hN, hE, hA⟩
  unfold zX8_rightAt_s15 at h
  refine lv_iload_n hx hb dX8_rightAt_0 rfl (lv_at hl 1 rfl) ?_
  refine lv_if_lt (tgt := 10) hx hb dX8_rightAt_1 (by decide) (fun c9 => ?_) (fun c9 => ?_)
  · rw [if_pos c9] at h
    exact WX8_rightAt_s15_10 C  _ _ _ _ h hP hD hS (lv_sub hl [] rfl)
  · rw [if_neg c9] at h
    refine lv_iload_n hx hb dX8_rightAt_4 rfl (lv_at hl 1 rfl) ?_
    refine lv_bipush (v := 6) hx hb dX8_rightAt_5 (by decide) ?_
    refine lv_icmp_lt (tgt := 12) hx hb dX8_rightAt_7 (by decide) (fun c9 => ?_) (fun c9 => ?_)
    · rw [if_pos c9] at h
      refine lv_aload_n hx hb dX8_rightAt_12 rfl (lv_at hl 0 rfl) ?_
      refine lv_iload_n hx hb dX8_rightAt_13 rfl (lv_at hl 1 rfl) ?_
      obtain ⟨r1, q3, h2, h⟩ := dB_some h
      refine dw_ki (va_runV (As := [.int p1]) (rest := []) ⟨hx, hb, hml, hown, hts⟩ (qX8_isFloor_s15 l D ty eo _ ad q p1 r1 q3 h2) (cwV 1 hts gX8_rightAt_X8_isFloor rfl rfl rfl (by decide +kernel) ⟨Nat.le_of_ble_eq_true rfl, Nat.le_of_ble_eq_true rfl⟩) (dw_preV (ci := 8) (q0 := 15) hK hN hE hP hD hS hA rfl rfl) rfl rfl hl.1 rfl (lv_room (Nat.le_of_ble_eq_true rfl)) dX8_rightAt_14 ⟨Nat.le_of_ble_eq_true rfl, Nat.le_of_ble_eq_true rfl⟩) hD hS hA (fun r9 u9 H locs hw hp hd hs => ?_)
      clear hP hD hS
      obtain ⟨rfl, rfl⟩ := hw
      have hP := hp; have hD := hd; have hS := hs; clear hp hd hs
      refine lv_if_ne (tgt := 23) hx hb dX8_rightAt_17 (by decide) (fun c9 => ?_) (fun c9 => ?_)
      · rw [if_neg c9] at h
        refine lv_aload_n hx hb dX8_rightAt_23 rfl (lv_at hl 0 rfl) ?_
        refine va_get (D := D) (ci := 8) (v := .ref (ad 17)) (C := RX8) (T := TX8) (N := 5) hx hb hts u9_wsX8_rightAt_X8 hown hK hP 15 rfl rfl 1 (by decide) (hts (.fieldLink RX8 15 "TurnedFloors$Tower" "head" "[I") f9_wsX8_rightAt_636) (fun _ h9 => h9) rfl dX8_rightAt_24 ?_
        refine lv_iload_n hx hb dX8_rightAt_27 rfl (lv_at hl 1 rfl) ?_
        refine lv_iconst (v := 1) hx hb dX8_rightAt_28 (by decide) ?_
        refine lv_aload_n hx hb dX8_rightAt_29 rfl (lv_at hl 0 rfl) ?_
        refine va_get (D := D) (ci := 8) (v := .ref (ad 17)) (C := RX8) (T := TX8) (N := 5) hx hb hts u9_wsX8_rightAt_X8 hown hK hP 15 rfl rfl 1 (by decide) (hts (.fieldLink RX8 15 "TurnedFloors$Tower" "head" "[I") f9_wsX8_rightAt_636) (fun _ h9 => h9) rfl dX8_rightAt_30 ?_
        refine lv_iload_n hx hb dX8_rightAt_33 rfl (lv_at hl 1 rfl) ?_
        obtain ⟨g4, h⟩ := dG_some h
        refine va_iald hx hb hK hP 17 0 rfl rfl (dg_in g4) dX8_rightAt_34 ?_
        obtain ⟨v5, ev5, h⟩ := dL_some h
        refine kz_topi v5 ev5 ?_
        refine lv_isub hx hb dX8_rightAt_35 ?_
        obtain ⟨g6, h⟩ := dG_some h
        refine va_iast hx hb hK hP hD hS 17 0 rfl rfl (dg_in g6) dX8_rightAt_36 (fun H locs hp hd hs => ?_)
        obtain ⟨q7, eq7, h⟩ := dL_some h
        refine kz_re (w2 := wF ty ad q7) hp hd hs (by rw [← eq7]; exact wF_a17 ty ad q3 (Int32.toNatClampNeg p1) (1 - v5 : Int32)) ?_
        clear hp hd hs hP hD hS
        intro hP hD hS
        refine lv_aload_n hx hb dX8_rightAt_37 rfl (lv_at hl 0 rfl) ?_
        refine va_get (D := D) (ci := 8) (v := .ref (ad 17)) (C := RX8) (T := TX8) (N := 5) hx hb hts u9_wsX8_rightAt_X8 hown hK hP 15 rfl rfl 1 (by decide) (hts (.fieldLink RX8 15 "TurnedFloors$Tower" "head" "[I") f9_wsX8_rightAt_636) (fun _ h9 => h9) rfl dX8_rightAt_38 ?_
        refine lv_iload_n hx hb dX8_rightAt_41 rfl (lv_at hl 1 rfl) ?_
        obtain ⟨g8, h⟩ := dG_some h
        refine va_iald hx hb hK hP 17 0 rfl rfl (dg_in g8) dX8_rightAt_42 ?_
        obtain ⟨v9, ev9, h⟩ := dL_some h
        refine kz_topi v9 ev9 ?_
        cases h
        exact kz_iret hx hb hr hlocks hP hK hD hS dX8_rightAt_43 ⟨rfl, rfl⟩
      · rw [if_pos c9] at h
        refine lv_bipush (v := (-3)) hx hb dX8_rightAt_20 (by decide) ?_
        cases h
        exact kz_iret hx hb hr hlocks hP hK hD hS dX8_rightAt_22 ⟨rfl, rfl⟩
    · rw [if_neg c9] at h
      exact WX8_rightAt_s15_10 C  _ _ _ _ h hP hD hS (lv_sub hl [] rfl)

set_option maxHeartbeats 4000000 in
set_option maxRecDepth 100000 in
theorem WX8_swapAt_s15_9 {p : Program} {l : Launch} {e : Env} {s : State} {m : MethodId} {args : Array Value} {below : List Frame} {meth : Method} {c : Code} {D : va_G} {ty : Nat → ClassId} {eo : Nat → Nat} {A : Nat → Prop} {ad : Nat → Nat} {o1 : Int32} {o2 : dK} (C : dc_C p s m args meth c cX8_swapAt (some .int) 2 RX8 wsX8_swapAt D ty eo A)   (q : dK)  (H : Heap) (locs : List Loc) (ls : Array Slot) (h : zX8_swapAt_s15_9  q = some (o1, o2)) (hP : va_P D vwCl (wF ty ad q) H) (hD : va_D A (wF ty ad q)) (hS : va_S A s.heap H locs) (hl : lv_has ls 2 []) : W p l e ({ frames := 1, cells := 0, slots := 0, locals := 24 } : Room) s m args below meth c H locs 0 0 (MQ below (va_Qi (fun (r : Int32) (u : va_W) => o1 = r ∧ wF ty ad o2 = u) (kz_B D ty A) A) args s 0 0 A) (F0 m 9 ls []) := by
  have C0 := C
  obtain ⟨hx, hb, hr, hts, hown, hlocks, hml, hK, hN, hE, hA⟩ := C
  unfold zX8_swapAt_s15_9 at h
  refine lv_iconst (v := (-1)) hx hb dX8_swapAt_9 (by decide) ?_
  cases h
  exact kz_iret hx hb hr hlocks hP hK hD hS dX8_swapAt_10 ⟨rfl, rfl⟩
set_option maxHeartbeats 4000000 in
set_option maxRecDepth 100000 in
theorem qX8_swapAt_s15 (l : Launch) (D : va_G) (ty : Nat → ClassId) (eo : Nat → Nat) (sz : Nat) (ad : Nat → Nat) (q : dK) (p1 : Int32) (o1 : Int32) (o2 : dK) (h : zX8_swapAt_s15 q p1 = some (o1, o2)) : Met l yX8_swapAt wsX8_swapAt ({ frames := 1, cells := 0, slots := 0, locals := 24 } : Room) (va_Pc [.ref (ad 15), .int p1] (kz_pre D ty eo (wF ty ad q) sz)) (va_Qi (fun (r : Int32) (u : va_W) => o1 = r ∧ wF ty ad o2 = u) (kz_B D ty (va_A (wF ty ad q) sz)) (va_A (wF ty ad q) sz)) 0 0 (va_A (wF ty ad q) sz) := by
  refine Met.ofW (cc := cX8_swapAt) (maxL := 2) (ret := (some .int)) (by decide) rfl ?_
  intro p e s m args below meth c s₁ B hml hv
  obtain ⟨rfl, hsz, hP, hK, hD0, hN, hE⟩ := hv
  have hx := B.exec
  have hb := B.bytes
  have hr := B.returns
  have hts := atoms_spec (ws := wsX8_swapAt) B.pre
  have hown : s.vm.findClass RX8 = some m.cls := findClass_of_methodNamed B.named
  have hlocks := B.notSynchronized
  subst hsz
  have hD := hD0.self (sz := s.heap.size)
  generalize hAe : va_A (wF ty ad q) s.heap.size = A at hD hE ⊢
  have hA : ∀ q : Nat, s.heap.size ≤ q → A q := fun q h => by rw [← hAe]; exact Or.inr h
  clear hAe
  have hS : va_S A s.heap s.heap [] := va_S.rf
  have hl := lv_entry ([.ref (ad 15), .int p1]) (n := 2) (Nat.le_of_ble_eq_true rfl)
  rw [lg_entry_eq]
  generalize (lg_sl ([.ref (ad 15), .int p1]) ++ List.replicate (2 - (lg_sl ([.ref (ad 15), .int p1])).length) Slot.unset).toArray = ls at hl ⊢
  have hl : lv_has ls 2 [(0, .ref (ad 15)), (1, .int p1)] := hl
  have C : dc_C p s m _ meth c cX8_swapAt (some .int) 2 RX8 wsX8_swapAt D ty eo A := ⟨hx, hb, hr, hts, hown, hlocks, hml, hK, hN, hE, hA⟩
  unfold zX8_swapAt_s15 at h
  refine lv_iload_n hx hb dX8_swapAt_0 rfl (lv_at hl 1 rfl) ?_
  refine lv_if_lt (tgt := 9) hx hb dX8_swapAt_1 (by decide) (fun c9 => ?_) (fun c9 => ?_)
  · rw [if_pos c9] at h
    exact WX8_swapAt_s15_9 C  _ _ _ _ h hP hD hS (lv_sub hl [] rfl)
  · rw [if_neg c9] at h
    refine lv_iload_n hx hb dX8_swapAt_4 rfl (lv_at hl 1 rfl) ?_
    refine lv_iconst (v := 5) hx hb dX8_swapAt_5 (by decide) ?_
    refine lv_icmp_lt (tgt := 11) hx hb dX8_swapAt_6 (by decide) (fun c9 => ?_) (fun c9 => ?_)
    · rw [if_pos c9] at h
      refine lv_aload_n hx hb dX8_swapAt_11 rfl (lv_at hl 0 rfl) ?_
      refine lv_iload_n hx hb dX8_swapAt_12 rfl (lv_at hl 1 rfl) ?_
      refine lv_iconst (v := 1) hx hb dX8_swapAt_13 (by decide) ?_
      refine lv_iadd hx hb dX8_swapAt_14 ?_
      obtain ⟨r1, q3, h2, h⟩ := dB_some h
      refine dw_ki (va_runV (As := [.int (p1 + 1 : Int32)]) (rest := []) ⟨hx, hb, hml, hown, hts⟩ (qX8_isFloor_s15 l D ty eo _ ad q (p1 + 1 : Int32) r1 q3 h2) (cwV 1 hts gX8_swapAt_X8_isFloor rfl rfl rfl (by decide +kernel) ⟨Nat.le_of_ble_eq_true rfl, Nat.le_of_ble_eq_true rfl⟩) (dw_preV (ci := 8) (q0 := 15) hK hN hE hP hD hS hA rfl rfl) rfl rfl hl.1 rfl (lv_room (Nat.le_of_ble_eq_true rfl)) dX8_swapAt_15 ⟨Nat.le_of_ble_eq_true rfl, Nat.le_of_ble_eq_true rfl⟩) hD hS hA (fun r9 u9 H locs hw hp hd hs => ?_)
      clear hP hD hS
      obtain ⟨rfl, rfl⟩ := hw
      have hP := hp; have hD := hd; have hS := hs; clear hp hd hs
      refine lv_if_ne (tgt := 24) hx hb dX8_swapAt_18 (by decide) (fun c9 => ?_) (fun c9 => ?_)
      · rw [if_neg c9] at h
        refine lv_aload_n hx hb dX8_swapAt_24 rfl (lv_at hl 0 rfl) ?_
        refine lv_iload_n hx hb dX8_swapAt_25 rfl (lv_at hl 1 rfl) ?_
        refine lv_iload_n hx hb dX8_swapAt_26 rfl (lv_at hl 1 rfl) ?_
        refine lv_iconst (v := 1) hx hb dX8_swapAt_27 (by decide) ?_
        refine lv_iadd hx hb dX8_swapAt_28 ?_
        obtain ⟨q6, h5, h⟩ := dV_some h
        refine dw_kv (va_runV (As := [.int p1, .int (p1 + 1 : Int32)]) (rest := []) ⟨hx, hb, hml, hown, hts⟩ (qX8_exchange_s15 l D ty eo _ ad q3 p1 (p1 + 1 : Int32) q6 h5) (cwV 2 hts gX8_swapAt_X8_exchange rfl rfl rfl (by decide +kernel) ⟨Nat.le_of_ble_eq_true rfl, Nat.le_of_ble_eq_true rfl⟩) (dw_preV (ci := 8) (q0 := 15) hK hN hE hP hD hS hA rfl rfl) rfl rfl hl.1 rfl (lv_room (Nat.le_of_ble_eq_true rfl)) dX8_swapAt_29 ⟨Nat.le_of_ble_eq_true rfl, Nat.le_of_ble_eq_true rfl⟩) hD hS hA (fun u9 H locs hw hp hd hs => ?_)
        clear hP hD hS
        obtain rfl := hw
        have hP := hp; have hD := hd; have hS := hs; clear hp hd hs
        refine lv_aload_n hx hb dX8_swapAt_32 rfl (lv_at hl 0 rfl) ?_
        refine va_get (D := D) (ci := 8) (v := .ref (ad 16)) (C := RX8) (T := TX8) (N := 5) hx hb hts u9_wsX8_swapAt_X8 hown hK hP 15 rfl rfl 0 (by decide) (hts (.fieldLink RX8 9 "TurnedFloors$Tower" "rank" "[I") f9_wsX8_swapAt_638) (fun _ h9 => h9) rfl dX8_swapAt_33 ?_
        refine lv_iload_n hx hb dX8_swapAt_36 rfl (lv_at hl 1 rfl) ?_
        obtain ⟨g7, h⟩ := dG_some h
        refine va_iald hx hb hK hP 16 0 rfl rfl (dg_in g7) dX8_swapAt_37 ?_
        obtain ⟨v8, ev8, h⟩ := dL_some h
        refine kz_topi v8 ev8 ?_
        cases h
        exact kz_iret hx hb hr hlocks hP hK hD hS dX8_swapAt_38 ⟨rfl, rfl⟩
      · rw [if_pos c9] at h
        refine lv_bipush (v := (-3)) hx hb dX8_swapAt_21 (by decide) ?_
        cases h
        exact kz_iret hx hb hr hlocks hP hK hD hS dX8_swapAt_23 ⟨rfl, rfl⟩
    · rw [if_neg c9] at h
      exact WX8_swapAt_s15_9 C  _ _ _ _ h hP hD hS (lv_sub hl [] rfl)
