section
theorem f9_wsX9_nextDraw_931 : (Cond.constantLong RX9 350 1103) ∈ wsX9_nextDraw := List.mem_cons_of_mem _ mvW9_645
theorem f9_wsX9_nextDraw_932 : (Cond.constantLong RX9 352 12345) ∈ wsX9_nextDraw := List.mem_cons_of_mem _ mvW9_646
theorem f9_wsX9_nextDraw_933 : (Cond.constantLong RX9 354 1000003) ∈ wsX9_nextDraw := List.mem_cons_of_mem _ mvW9_647
set_option maxHeartbeats 4000000 in
set_option maxRecDepth 100000 in
theorem WX8_unpack_s15_31b {p : Program} {l : Launch} {e : Env} {s : State} {m : MethodId} {args : Array Value} {below : List Frame} {meth : Method} {c : Code} {D : va_G} {ty : Nat → ClassId} {eo : Nat → Nat} {A : Nat → Prop} {ad : Nat → Nat} {o2 : dK} (C : dc_C p s m args meth c cX8_unpack none 6 RX8 wsX8_unpack D ty eo A) {k31 : dK → Int64 → Int32 → Option (dK)} (hk31 : ∀ (q : dK) (x3 : Int64) (x5 : Int32) (H : Heap) (locs : List Loc) (ls : Array Slot), k31 q x3 x5 = some o2 → va_P D vwCl (wF ty ad q) H → va_D A (wF ty ad q) → va_S A s.heap H locs → lv_has ls 6 [(0, .ref (ad 15)), (3, .long x3), (5, .int x5)] → W p l e ({ frames := 1, cells := 0, slots := 0, locals := 21 } : Room) s m args below meth c H locs 0 0 (MQ below (va_Qv (fun (u : va_W) => wF ty ad o2 = u) (kz_B D ty A) A) args s 0 0 A) (F0 m 31 ls [])) (q : dK) (x3 : Int64) (x5 : Int32) (H : Heap) (locs : List Loc) (ls : Array Slot) (h : zX8_unpack_s15_31b k31 q x3 x5 = some o2) (hP : va_P D vwCl (wF ty ad q) H) (hD : va_D A (wF ty ad q)) (hS : va_S A s.heap H locs) (hl : lv_has ls 6 [(0, .ref (ad 15)), (3, .long x3), (5, .int x5)]) : W p l e ({ frames := 1, cells := 0, slots := 0, locals := 21 } : Room) s m args below meth c H locs 0 0 (MQ below (va_Qv (fun (u : va_W) => wF ty ad o2 = u) (kz_B D ty A) A) args s 0 0 A) (F0 m 31 ls []) := by
  have C0 := C
  obtain ⟨hx, hb, hr, hts, hown, hlocks, hml, hK, hN, hE, hA⟩ := C
  unfold zX8_unpack_s15_31b at h
  refine lv_iload hx hb dX8_unpack_31 (lv_at hl 2 rfl) ?_
  refine lv_if_lt (tgt := 72) hx hb dX8_unpack_33 (by decide) (fun c9 => ?_) (fun c9 => ?_)
  · rw [if_pos c9] at h
    refine lv_aload_n hx hb dX8_unpack_72 rfl (lv_at hl 0 rfl) ?_
    refine lv_bipush (v := 6) hx hb dX8_unpack_73 (by decide) ?_
    refine lv_lload_n hx hb dX8_unpack_75 rfl (lv_at hl 1 rfl) ?_
    refine lv_l2i (v := Int64.toInt32 x3) hx hb dX8_unpack_76 rfl ?_
    refine va_mmin hx hb (hml.trans hl.1.symm) hown (hts (.methodLink RX8 41 Lib.Math.min.name) f9_wsX8_unpack_656) (hts (.static Lib.Math.min.name) f9_wsX8_unpack_657) (hts (.initialized "java/lang/Math") f9_wsX8_unpack_658) (hts (.code Lib.Math.min.name Lib.Math.min.code 2 (some .int)) f9_wsX8_unpack_659) (Nat.le_of_ble_eq_true rfl) (Nat.le_of_ble_eq_true rfl) (Nat.le_of_ble_eq_true rfl) (Nat.le_of_ble_eq_true rfl) dX8_unpack_77 ?_
    refine kz_topi (mnI 6 (Int64.toInt32 x3)) rfl ?_
    refine va_put (D := D) (ci := 8) (v := .int (mnI 6 (Int64.toInt32 x3))) (ty := .int) (C := RX8) (T := TX8) (N := 5) hx hb hts u9_wsX8_unpack_X8 tyX8 tyX8_ok nmX8 hown hK hP hD hS 15 rfl rfl 2 (by decide) (hts (.fieldLink RX8 18 "TurnedFloors$Tower" "floors" "I") f9_wsX8_unpack_660) (fun _ h9 => h9) rfl (by decide +kernel) rfl rfl (Nat.le_of_ble_eq_true rfl) dX8_unpack_80 (fun H locs hp hd hs => ?_)
    obtain ⟨q1, eq1, h⟩ := dL_some h
    refine kz_re (w2 := wF ty ad q1) hp hd hs (by rw [← eq1]; exact wF_f15_2 ty ad q (mnI 6 (Int64.toInt32 x3))) ?_
    clear hp hd hs hP hD hS
    intro hP hD hS
    cases h
    exact kz_vret hx hb hr hlocks hP hK hD hS dX8_unpack_83 rfl
  · rw [if_neg c9] at h
    refine lv_aload_n hx hb dX8_unpack_36 rfl (lv_at hl 0 rfl) ?_
    refine va_get (D := D) (ci := 8) (v := .ref (ad 17)) (C := RX8) (T := TX8) (N := 5) hx hb hts u9_wsX8_unpack_X8 hown hK hP 15 rfl rfl 1 (by decide) (hts (.fieldLink RX8 15 "TurnedFloors$Tower" "head" "[I") f9_wsX8_unpack_661) (fun _ h9 => h9) rfl dX8_unpack_37 ?_
    refine lv_iload hx hb dX8_unpack_40 (lv_at hl 2 rfl) ?_
    refine lv_lload_n hx hb dX8_unpack_42 rfl (lv_at hl 1 rfl) ?_
    refine lv_lconst (v := 1) hx hb dX8_unpack_43 (by decide) ?_
    refine lv_land hx hb dX8_unpack_44 ?_
    refine lv_l2i (v := Int64.toInt32 (x3 &&& 1 : Int64)) hx hb dX8_unpack_45 rfl ?_
    obtain ⟨g2, h⟩ := dG_some h
    refine va_iast hx hb hK hP hD hS 17 0 rfl rfl (dg_in g2) dX8_unpack_46 (fun H locs hp hd hs => ?_)
    obtain ⟨q3, eq3, h⟩ := dL_some h
    refine kz_re (w2 := wF ty ad q3) hp hd hs (by rw [← eq3]; exact wF_a17 ty ad q (Int32.toNatClampNeg x5) (Int64.toInt32 (x3 &&& 1 : Int64))) ?_
    clear hp hd hs hP hD hS
    intro hP hD hS
    refine lv_aload_n hx hb dX8_unpack_47 rfl (lv_at hl 0 rfl) ?_
    refine va_get (D := D) (ci := 8) (v := .ref (ad 16)) (C := RX8) (T := TX8) (N := 5) hx hb hts u9_wsX8_unpack_X8 hown hK hP 15 rfl rfl 0 (by decide) (hts (.fieldLink RX8 9 "TurnedFloors$Tower" "rank" "[I") f9_wsX8_unpack_662) (fun _ h9 => h9) rfl dX8_unpack_48 ?_
    refine lv_iload hx hb dX8_unpack_51 (lv_at hl 2 rfl) ?_
    refine lv_lload_n hx hb dX8_unpack_53 rfl (lv_at hl 1 rfl) ?_
    refine lv_iconst (v := 1) hx hb dX8_unpack_54 (by decide) ?_
    refine lv_lshr (v := x3 >>> (Int32.toInt64 (1 : Int32) &&& 63)) hx hb dX8_unpack_55 rfl ?_
    refine lv_ldc2 (v := 7) hx hb hown (hts (.constantLong RX8 39 7) f9_wsX8_unpack_663) dX8_unpack_56 ?_
    refine lv_land hx hb dX8_unpack_59 ?_
    refine lv_l2i (v := Int64.toInt32 ((x3 >>> (Int32.toInt64 (1 : Int32) &&& 63)) &&& 7 : Int64)) hx hb dX8_unpack_60 rfl ?_
    obtain ⟨g4, h⟩ := dG_some h
    refine va_iast hx hb hK hP hD hS 16 0 rfl rfl (dg_in g4) dX8_unpack_61 (fun H locs hp hd hs => ?_)
    obtain ⟨q5, eq5, h⟩ := dL_some h
    refine kz_re (w2 := wF ty ad q5) hp hd hs (by rw [← eq5]; exact wF_a16 ty ad q3 (Int32.toNatClampNeg x5) (Int64.toInt32 ((x3 >>> (Int32.toInt64 (1 : Int32) &&& 63)) &&& 7 : Int64))) ?_
    clear hp hd hs hP hD hS
    intro hP hD hS
    refine lv_lload_n hx hb dX8_unpack_62 rfl (lv_at hl 1 rfl) ?_
    refine lv_iconst (v := 4) hx hb dX8_unpack_63 (by decide) ?_
    refine lv_lshr (v := x3 >>> (Int32.toInt64 (4 : Int32) &&& 63)) hx hb dX8_unpack_64 rfl ?_
    refine lv_lstore_n (lv' := [(3, .long (x3 >>> (Int32.toInt64 (4 : Int32) &&& 63))), (0, .ref (ad 15)), (5, .int x5)]) hx hb dX8_unpack_65 rfl hl (by decide) rfl (fun ls hl => ?_)
    refine lv_iinc (v := x5 + (-1)) (lv' := [(5, .int (x5 + (-1))), (3, .long (x3 >>> (Int32.toInt64 (4 : Int32) &&& 63))), (0, .ref (ad 15))]) hx hb dX8_unpack_66 hl (k := 2) rfl rfl (by decide) rfl (fun ls hl => ?_)
    refine lv_goto (tgt := 31) hx hb dX8_unpack_69 (by decide) ?_
    exact hk31 _ _ _ _ _ _ h hP hD hS (lv_sub hl [2, 1, 0] rfl)
set_option maxHeartbeats 4000000 in
set_option maxRecDepth 100000 in
theorem WX8_unpack_s15_31 {p : Program} {l : Launch} {e : Env} {s : State} {m : MethodId} {args : Array Value} {below : List Frame} {meth : Method} {c : Code} {D : va_G} {ty : Nat → ClassId} {eo : Nat → Nat} {A : Nat → Prop} {ad : Nat → Nat} {o2 : dK} (C : dc_C p s m args meth c cX8_unpack none 6 RX8 wsX8_unpack D ty eo A)   (n : Nat) (q : dK) (x3 : Int64) (x5 : Int32) (H : Heap) (locs : List Loc) (ls : Array Slot) (h : zX8_unpack_s15_31  n q x3 x5 = some o2) (hP : va_P D vwCl (wF ty ad q) H) (hD : va_D A (wF ty ad q)) (hS : va_S A s.heap H locs) (hl : lv_has ls 6 [(0, .ref (ad 15)), (3, .long x3), (5, .int x5)]) : W p l e ({ frames := 1, cells := 0, slots := 0, locals := 21 } : Room) s m args below meth c H locs 0 0 (MQ below (va_Qv (fun (u : va_W) => wF ty ad o2 = u) (kz_B D ty A) A) args s 0 0 A) (F0 m 31 ls []) := by
  exact dFix_W (F := fun k (a : dK × Int64 × Int32) => zX8_unpack_s15_31b  (fun q x3 x5 => k (q, x3, x5)) a.1 a.2.1 a.2.2) (o := o2) (P := fun (a : dK × Int64 × Int32) H locs ls => va_P D vwCl (wF ty ad a.1) H ∧ va_D A (wF ty ad a.1) ∧ va_S A s.heap H locs ∧ lv_has ls 6 [(0, .ref (ad 15)), (3, .long a.2.1), (5, .int a.2.2)]) (G := fun H locs ls => W p l e ({ frames := 1, cells := 0, slots := 0, locals := 21 } : Room) s m args below meth c H locs 0 0 (MQ below (va_Qv (fun (u : va_W) => wF ty ad o2 = u) (kz_B D ty A) A) args s 0 0 A) (F0 m 31 ls []))
    (fun k hk a H locs ls h hp => WX8_unpack_s15_31b C  (fun q x3 x5 H locs ls h h1 h2 h3 h4 => hk (q, x3, x5) H locs ls h ⟨h1, h2, h3, h4⟩) a.1 a.2.1 a.2.2 H locs ls h hp.1 hp.2.1 hp.2.2.1 hp.2.2.2) n (q, x3, x5) H locs ls h ⟨hP, hD, hS, hl⟩
set_option maxHeartbeats 4000000 in
set_option maxRecDepth 100000 in
theorem qX8_unpack_s15 (l : Launch) (D : va_G) (ty : Nat → ClassId) (eo : Nat → Nat) (sz : Nat) (ad : Nat → Nat) (q : dK) (p1 : Int64) (o2 : dK) (h : zX8_unpack_s15 q p1 = some o2) : Met l yX8_unpack wsX8_unpack ({ frames := 1, cells := 0, slots := 0, locals := 21 } : Room) (va_Pc [.ref (ad 15), .long p1] (kz_pre D ty eo (wF ty ad q) sz)) (va_Qv (fun (u : va_W) => wF ty ad o2 = u) (kz_B D ty (va_A (wF ty ad q) sz)) (va_A (wF ty ad q) sz)) 0 0 (va_A (wF ty ad q) sz) := by
  refine Met.ofW (cc := cX8_unpack) (maxL := 6) (ret := none) (by decide) rfl ?_
  intro p e s m args below meth c s₁ B hml hv
  obtain ⟨rfl, hsz, hP, hK, hD0, hN, hE⟩ := hv
  have hx := B.exec
  have hb := B.bytes
  have hr := B.returns
  have hts := atoms_spec (ws := wsX8_unpack) B.pre
  have hown : s.vm.findClass RX8 = some m.cls := findClass_of_methodNamed B.named
  have hlocks := B.notSynchronized
  subst hsz
  have hD := hD0.self (sz := s.heap.size)
  generalize hAe : va_A (wF ty ad q) s.heap.size = A at hD hE ⊢
  have hA : ∀ q : Nat, s.heap.size ≤ q → A q := fun q h => by rw [← hAe]; exact Or.inr h
  clear hAe
  have hS : va_S A s.heap s.heap [] := va_S.rf
  have hl := lv_entry ([.ref (ad 15), .long p1]) (n := 6) (Nat.le_of_ble_eq_true rfl)
  rw [lg_entry_eq]
  generalize (lg_sl ([.ref (ad 15), .long p1]) ++ List.replicate (6 - (lg_sl ([.ref (ad 15), .long p1])).length) Slot.unset).toArray = ls at hl ⊢
  have hl : lv_has ls 6 [(0, .ref (ad 15)), (1, .long p1)] := hl
  have C : dc_C p s m _ meth c cX8_unpack none 6 RX8 wsX8_unpack D ty eo A := ⟨hx, hb, hr, hts, hown, hlocks, hml, hK, hN, hE, hA⟩
  unfold zX8_unpack_s15 at h
  refine lv_aload_n hx hb dX8_unpack_0 rfl (lv_at hl 0 rfl) ?_
  refine lv_lload_n hx hb dX8_unpack_1 rfl (lv_at hl 1 rfl) ?_
  refine lv_ldc2 (v := 1023) hx hb hown (hts (.constantLong RX8 35 1023) f9_wsX8_unpack_664) dX8_unpack_2 ?_
  refine lv_land hx hb dX8_unpack_5 ?_
  refine lv_l2i (v := Int64.toInt32 (p1 &&& 1023 : Int64)) hx hb dX8_unpack_6 rfl ?_
  refine va_put (D := D) (ci := 8) (v := .int (Int64.toInt32 (p1 &&& 1023 : Int64))) (ty := .int) (C := RX8) (T := TX8) (N := 5) hx hb hts u9_wsX8_unpack_X8 tyX8 tyX8_ok nmX8 hown hK hP hD hS 15 rfl rfl 4 (by decide) (hts (.fieldLink RX8 25 "TurnedFloors$Tower" "year" "I") f9_wsX8_unpack_665) (fun _ h9 => h9) rfl (by decide +kernel) rfl rfl (Nat.le_of_ble_eq_true rfl) dX8_unpack_7 (fun H locs hp hd hs => ?_)
  obtain ⟨q1, eq1, h⟩ := dL_some h
  refine kz_re (w2 := wF ty ad q1) hp hd hs (by rw [← eq1]; exact wF_f15_4 ty ad q (Int64.toInt32 (p1 &&& 1023 : Int64))) ?_
  clear hp hd hs hP hD hS
  intro hP hD hS
  refine lv_aload_n hx hb dX8_unpack_10 rfl (lv_at hl 0 rfl) ?_
  refine lv_lload_n hx hb dX8_unpack_11 rfl (lv_at hl 1 rfl) ?_
  refine lv_bipush (v := 10) hx hb dX8_unpack_12 (by decide) ?_
  refine lv_lshr (v := p1 >>> (Int32.toInt64 (10 : Int32) &&& 63)) hx hb dX8_unpack_14 rfl ?_
  refine lv_ldc2 (v := 16383) hx hb hown (hts (.constantLong RX8 37 16383) f9_wsX8_unpack_666) dX8_unpack_15 ?_
  refine lv_land hx hb dX8_unpack_18 ?_
  obtain ⟨v2, ev2, h⟩ := dL_some h
  refine kz_topl v2 ev2 ?_
  refine lv_l2i (v := Int64.toInt32 v2) hx hb dX8_unpack_19 rfl ?_
  refine va_put (D := D) (ci := 8) (v := .int (Int64.toInt32 v2)) (ty := .int) (C := RX8) (T := TX8) (N := 5) hx hb hts u9_wsX8_unpack_X8 tyX8 tyX8_ok nmX8 hown hK hP hD hS 15 rfl rfl 3 (by decide) (hts (.fieldLink RX8 22 "TurnedFloors$Tower" "paid" "I") f9_wsX8_unpack_667) (fun _ h9 => h9) rfl (by decide +kernel) rfl rfl (Nat.le_of_ble_eq_true rfl) dX8_unpack_20 (fun H locs hp hd hs => ?_)
  obtain ⟨q3, eq3, h⟩ := dL_some h
  refine kz_re (w2 := wF ty ad q3) hp hd hs (by rw [← eq3]; exact wF_f15_3 ty ad q1 (Int64.toInt32 v2)) ?_
  clear hp hd hs hP hD hS
  intro hP hD hS
  refine lv_lload_n hx hb dX8_unpack_23 rfl (lv_at hl 1 rfl) ?_
  refine lv_bipush (v := 24) hx hb dX8_unpack_24 (by decide) ?_
  refine lv_lshr (v := p1 >>> (Int32.toInt64 (24 : Int32) &&& 63)) hx hb dX8_unpack_26 rfl ?_
  refine lv_lstore_n (lv' := [(3, .long (p1 >>> (Int32.toInt64 (24 : Int32) &&& 63))), (0, .ref (ad 15)), (1, .long p1)]) hx hb dX8_unpack_27 rfl hl (by decide) rfl (fun ls hl => ?_)
  refine lv_iconst (v := 5) hx hb dX8_unpack_28 (by decide) ?_
  refine lv_istore (lv' := [(5, .int 5), (3, .long (p1 >>> (Int32.toInt64 (24 : Int32) &&& 63))), (0, .ref (ad 15)), (1, .long p1)]) hx hb dX8_unpack_29 hl (by decide) rfl (fun ls hl => ?_)
  exact WX8_unpack_s15_31 C  _ _ _ _ _ _ _ h hP hD hS (lv_sub hl [2, 1, 0] rfl)

set_option maxHeartbeats 4000000 in
set_option maxRecDepth 100000 in
theorem qX9_nextDraw (l : Launch) (D : va_G) (ty : Nat → ClassId) (eo : Nat → Nat) (sz : Nat) (p1 : Int32) (o1 : Int32) (h : zX9_nextDraw p1 = some o1) : Met l yX9_nextDraw wsX9_nextDraw ({ frames := 0, cells := 0, slots := 0, locals := 0 } : Room) (va_Pc [.int p1] (kz_pre D ty eo (([] : va_W)) sz)) (va_Qi (fun (r : Int32) (u : va_W) => o1 = r ∧ ([] : va_W) = u) (kz_B D ty (va_A (([] : va_W)) sz)) (va_A (([] : va_W)) sz)) 0 0 (va_A (([] : va_W)) sz) := by
  refine Met.ofW (cc := cX9_nextDraw) (maxL := 1) (ret := (some .int)) (by decide) rfl ?_
  intro p e s m args below meth c s₁ B hml hv
  obtain ⟨rfl, hsz, hP, hK, hD0, hN, hE⟩ := hv
  have hx := B.exec
  have hb := B.bytes
  have hr := B.returns
  have hts := atoms_spec (ws := wsX9_nextDraw) B.pre
  have hown : s.vm.findClass RX9 = some m.cls := findClass_of_methodNamed B.named
  have hlocks := B.notSynchronized
  subst hsz
  have hD := hD0.self (sz := s.heap.size)
  generalize hAe : va_A (([] : va_W)) s.heap.size = A at hD hE ⊢
  have hA : ∀ q : Nat, s.heap.size ≤ q → A q := fun q h => by rw [← hAe]; exact Or.inr h
  clear hAe
  have hS : va_S A s.heap s.heap [] := va_S.rf
  have hl := lv_entry ([.int p1]) (n := 1) (Nat.le_of_ble_eq_true rfl)
  rw [lg_entry_eq]
  generalize (lg_sl ([.int p1]) ++ List.replicate (1 - (lg_sl ([.int p1])).length) Slot.unset).toArray = ls at hl ⊢
  have hl : lv_has ls 1 [(0, .int p1)] := hl
  have C : dc_C p s m _ meth c cX9_nextDraw (some .int) 1 RX9 wsX9_nextDraw D ty eo A := ⟨hx, hb, hr, hts, hown, hlocks, hml, hK, hN, hE, hA⟩
  unfold zX9_nextDraw at h
  refine lv_iload_n hx hb dX9_nextDraw_0 rfl (lv_at hl 0 rfl) ?_
  refine lv_i2l (v := Int32.toInt64 p1) hx hb dX9_nextDraw_1 rfl ?_
  refine lv_ldc2 (v := 1103) hx hb hown (hts (.constantLong RX9 350 1103) f9_wsX9_nextDraw_931) dX9_nextDraw_2 ?_
  refine lv_lmul hx hb dX9_nextDraw_5 ?_
  refine lv_ldc2 (v := 12345) hx hb hown (hts (.constantLong RX9 352 12345) f9_wsX9_nextDraw_932) dX9_nextDraw_6 ?_
  refine lv_ladd hx hb dX9_nextDraw_9 ?_
  refine lv_ldc2 (v := 1000003) hx hb hown (hts (.constantLong RX9 354 1000003) f9_wsX9_nextDraw_933) dX9_nextDraw_10 ?_
  refine lv_lrem hx hb dX9_nextDraw_13 (by decide) ?_
  obtain ⟨v1, ev1, h⟩ := dL_some h
  refine kz_topl v1 ev1 ?_
  refine lv_l2i (v := Int64.toInt32 v1) hx hb dX9_nextDraw_14 rfl ?_
  cases h
  exact kz_iret hx hb hr hlocks hP hK hD hS dX9_nextDraw_15 ⟨rfl, rfl⟩

set_option maxHeartbeats 4000000 in
set_option maxRecDepth 100000 in
theorem WX8_isFloor_s15_17 {p : Program} {l : Launch} {e : Env} {s : State} {m : MethodId} {args : Array Value} {below : List Frame} {meth : Method} {c : Code} {D : va_G} {ty : Nat → ClassId} {eo : Nat → Nat} {A : Nat → Prop} {ad : Nat → Nat} {o1 : Int32} {o2 : dK} (C : dc_C p s m args meth c cX8_isFloor (some .boolean) 2 RX8 wsX8_isFloor D ty eo A)   (q : dK) (y0 : Int32) (H : Heap) (locs : List Loc) (ls : Array Slot) (h : zX8_isFloor_s15_17  q y0 = some (o1, o2)) (hP : va_P D vwCl (wF ty ad q) H) (hD : va_D A (wF ty ad q)) (hS : va_S A s.heap H locs) (hl : lv_has ls 2 []) : W p l e ({ frames := 0, cells := 0, slots := 0, locals := 0 } : Room) s m args below meth c H locs 0 0 (MQ below (va_Qi (fun (r : Int32) (u : va_W) => o1 = r ∧ wF ty ad o2 = u) (kz_B D ty A) A) args s 0 0 A) (F0 m 17 ls [.int y0]) := by
  have C0 := C
  obtain ⟨hx, hb, hr, hts, hown, hlocks, hml, hK, hN, hE, hA⟩ := C
  unfold zX8_isFloor_s15_17 at h
  obtain ⟨g1, h⟩ := dG_some h
  cases h
  exact kz_zret hx hb hr hlocks (dbl_nar g1) hP hK hD hS dX8_isFloor_17 ⟨rfl, rfl⟩
set_option maxHeartbeats 4000000 in
set_option maxRecDepth 100000 in
theorem WX8_isFloor_s15_16 {p : Program} {l : Launch} {e : Env} {s : State} {m : MethodId} {args : Array Value} {below : List Frame} {meth : Method} {c : Code} {D : va_G} {ty : Nat → ClassId} {eo : Nat → Nat} {A : Nat → Prop} {ad : Nat → Nat} {o1 : Int32} {o2 : dK} (C : dc_C p s m args meth c cX8_isFloor (some .boolean) 2 RX8 wsX8_isFloor D ty eo A)   (q : dK)  (H : Heap) (locs : List Loc) (ls : Array Slot) (h : zX8_isFloor_s15_16  q = some (o1, o2)) (hP : va_P D vwCl (wF ty ad q) H) (hD : va_D A (wF ty ad q)) (hS : va_S A s.heap H locs) (hl : lv_has ls 2 []) : W p l e ({ frames := 0, cells := 0, slots := 0, locals := 0 } : Room) s m args below meth c H locs 0 0 (MQ below (va_Qi (fun (r : Int32) (u : va_W) => o1 = r ∧ wF ty ad o2 = u) (kz_B D ty A) A) args s 0 0 A) (F0 m 16 ls []) := by
  have C0 := C
  obtain ⟨hx, hb, hr, hts, hown, hlocks, hml, hK, hN, hE, hA⟩ := C
  unfold zX8_isFloor_s15_16 at h
  refine lv_iconst (v := 0) hx hb dX8_isFloor_16 (by decide) ?_
  exact WX8_isFloor_s15_17 C0  _ _ _ _ _ h hP hD hS (lv_sub hl [] rfl)
set_option maxHeartbeats 4000000 in
set_option maxRecDepth 100000 in
theorem qX8_isFloor_s15 (l : Launch) (D : va_G) (ty : Nat → ClassId) (eo : Nat → Nat) (sz : Nat) (ad : Nat → Nat) (q : dK) (p1 : Int32) (o1 : Int32) (o2 : dK) (h : zX8_isFloor_s15 q p1 = some (o1, o2)) : Met l yX8_isFloor wsX8_isFloor ({ frames := 0, cells := 0, slots := 0, locals := 0 } : Room) (va_Pc [.ref (ad 15), .int p1] (kz_pre D ty eo (wF ty ad q) sz)) (va_Qi (fun (r : Int32) (u : va_W) => o1 = r ∧ wF ty ad o2 = u) (kz_B D ty (va_A (wF ty ad q) sz)) (va_A (wF ty ad q) sz)) 0 0 (va_A (wF ty ad q) sz) := by
  refine Met.ofW (cc := cX8_isFloor) (maxL := 2) (ret := (some .boolean)) (by decide) rfl ?_
  intro p e s m args below meth c s₁ B hml hv
  obtain ⟨rfl, hsz, hP, hK, hD0, hN, hE⟩ := hv
  have hx := B.exec
  have hb := B.bytes
  have hr := B.returns
  have hts := atoms_spec (ws := wsX8_isFloor) B.pre
  have hown : s.vm.findClass RX8 = some m.cls := findClass_of_methodNamed B.named
  have hlocks := B.notSynchronized
  subst hsz
  have hD := hD0.self (sz := s.heap.size)
  generalize hAe : va_A (wF ty ad q) s.heap.size = A at hD hE ⊢
  have hA : ∀ q : Nat, s.heap.size ≤ q → A q := fun q h => by rw [← hAe]; exact Or.inr h
  clear hAe
  have hS : va_S A s.heap s.heap [] := va_S.rf
  have hl := lv_entry ([.ref (ad 15), .int p1]) (n := 2) (Nat.le_of_ble_eq_true rfl)
  rw [lg_entry_eq]
  generalize (lg_sl ([.ref (ad 15), .int p1]) ++ List.replicate (2 - (lg_sl ([.ref (ad 15), .int p1])).length) Slot.unset).toArray = ls at hl ⊢
  have hl : lv_has ls 2 [(0, .ref (ad 15)), (1, .int p1)] := hl
  have C : dc_C p s m _ meth c cX8_isFloor (some .boolean) 2 RX8 wsX8_isFloor D ty eo A := ⟨hx, hb, hr, hts, hown, hlocks, hml, hK, hN, hE, hA⟩
  unfold zX8_isFloor_s15 at h
  refine lv_iload_n hx hb dX8_isFloor_0 rfl (lv_at hl 1 rfl) ?_
  refine lv_if_lt (tgt := 16) hx hb dX8_isFloor_1 (by decide) (fun c9 => ?_) (fun c9 => ?_)
  · rw [if_pos c9] at h
    exact WX8_isFloor_s15_16 C  _ _ _ _ h hP hD hS (lv_sub hl [] rfl)
  · rw [if_neg c9] at h
    refine lv_iload_n hx hb dX8_isFloor_4 rfl (lv_at hl 1 rfl) ?_
    refine lv_aload_n hx hb dX8_isFloor_5 rfl (lv_at hl 0 rfl) ?_
    refine va_get (D := D) (ci := 8) (v := .int (q.1 15 2)) (C := RX8) (T := TX8) (N := 5) hx hb hts u9_wsX8_isFloor_X8 hown hK hP 15 rfl rfl 2 (by decide) (hts (.fieldLink RX8 18 "TurnedFloors$Tower" "floors" "I") f9_wsX8_isFloor_363) (fun _ h9 => h9) rfl dX8_isFloor_6 ?_
    refine lv_icmp_ge (tgt := 16) hx hb dX8_isFloor_9 (by decide) (fun c9 => ?_) (fun c9 => ?_)
    · rw [if_pos c9] at h
      exact WX8_isFloor_s15_16 C  _ _ _ _ h hP hD hS (lv_sub hl [] rfl)
    · rw [if_neg c9] at h
      refine lv_iconst (v := 1) hx hb dX8_isFloor_12 (by decide) ?_
      refine lv_goto (tgt := 17) hx hb dX8_isFloor_13 (by decide) ?_
      exact WX8_isFloor_s15_17 C  _ _ _ _ _ h hP hD hS (lv_sub hl [] rfl)

set_option maxHeartbeats 4000000 in
set_option maxRecDepth 100000 in
theorem WX8_tell_s15_36 {p : Program} {l : Launch} {e : Env} {s : State} {m : MethodId} {args : Array Value} {below : List Frame} {meth : Method} {c : Code} {D : va_G} {ty : Nat → ClassId} {eo : Nat → Nat} {A : Nat → Prop} {ad : Nat → Nat} {o1 : Int32} {o2 : dK} (C : dc_C p s m args meth c cX8_tell (some .int) 3 RX8 wsX8_tell D ty eo A)   (q : dK) (y0 : Int32) (H : Heap) (locs : List Loc) (ls : Array Slot) (h : zX8_tell_s15_36  q y0 = some (o1, o2)) (hP : va_P D vwCl (wF ty ad q) H) (hD : va_D A (wF ty ad q)) (hS : va_S A s.heap H locs) (hl : lv_has ls 3 []) : W p l e ({ frames := 1, cells := 0, slots := 0, locals := 21 } : Room) s m args below meth c H locs 0 0 (MQ below (va_Qi (fun (r : Int32) (u : va_W) => o1 = r ∧ wF ty ad o2 = u) (kz_B D ty A) A) args s 0 0 A) (F0 m 36 ls [.int y0]) := by
  have C0 := C
  obtain ⟨hx, hb, hr, hts, hown, hlocks, hml, hK, hN, hE, hA⟩ := C
  unfold zX8_tell_s15_36 at h
  cases h
  exact kz_iret hx hb hr hlocks hP hK hD hS dX8_tell_36 ⟨rfl, rfl⟩
set_option maxHeartbeats 4000000 in
set_option maxRecDepth 100000 in
theorem WX8_tell_s15_15 {p : Program} {l : Launch} {e : Env} {s : State} {m : MethodId} {args : Array Value} {below : List Frame} {meth : Method} {c : Code} {D : va_G} {ty : Nat → ClassId} {eo : Nat → Nat} {A : Nat → Prop} {ad : Nat → Nat} {o1 : Int32} {o2 : dK} (C : dc_C p s m args meth c cX8_tell (some .int) 3 RX8 wsX8_tell D ty eo A)   (q : dK)  (H : Heap) (locs : List Loc) (ls : Array Slot) (h : zX8_tell_s15_15  q = some (o1, o2)) (hP : va_P D vwCl (wF ty ad q) H) (hD : va_D A (wF ty ad q)) (hS : va_S A s.heap H locs) (hl : lv_has ls 3 []) : W p l e ({ frames := 1, cells := 0, slots := 0, locals := 21 } : Room) s m args below meth c H locs 0 0 (MQ below (va_Qi (fun (r : Int32) (u : va_W) => o1 = r ∧ wF ty ad o2 = u) (kz_B D ty A) A) args s 0 0 A) (F0 m 15 ls []) := by
  have C0 := C
  obtain ⟨hx, hb, hr, hts, hown, hlocks, hml, hK, hN, hE, hA⟩ := C
  unfold zX8_tell_s15_15 at h
  refine lv_iconst (v := (-1)) hx hb dX8_tell_15 (by decide) ?_
  cases h
  exact kz_iret hx hb hr hlocks hP hK hD hS dX8_tell_16 ⟨rfl, rfl⟩
set_option maxHeartbeats 4000000 in
set_option maxRecDepth 100000 in
theorem qX8_tell_s15 (l : Launch) (D : va_G) (ty : Nat → ClassId) (eo : Nat → Nat) (sz : Nat) (ad : Nat → Nat) (q : dK) (p1 : Int32) (p2 : Int32) (o1 : Int32) (o2 : dK) (h : zX8_tell_s15 q p1 p2 = some (o1, o2)) : Met l yX8_tell wsX8_tell ({ frames := 1, cells := 0, slots := 0, locals := 21 } : Room) (va_Pc [.ref (ad 15), .int p1, .int p2] (kz_pre D ty eo (wF ty ad q) sz)) (va_Qi (fun (r : Int32) (u : va_W) => o1 = r ∧ wF ty ad o2 = u) (kz_B D ty (va_A (wF ty ad q) sz)) (va_A (wF ty ad q) sz)) 0 0 (va_A (wF ty ad q) sz) := by
  refine Met.ofW (cc := cX8_tell) (maxL := 3) (ret := (some .int)) (by decide) rfl ?_
  intro p e s m args below meth c s₁ B hml hv
  obtain ⟨rfl, hsz, hP, hK, hD0, hN, hE⟩ := hv
  have hx := B.exec
  have hb := B.bytes
  have hr := B.returns
  have hts := atoms_spec (ws := wsX8_tell) B.pre
  have hown : s.vm.findClass RX8 = some m.cls := findClass_of_methodNamed B.named
  have hlocks := B.notSynchronized
  subst hsz
  have hD := hD0.self (sz := s.heap.size)
  generalize hAe : va_A (wF ty ad q) s.heap.size = A at hD hE ⊢
  have hA : ∀ q : Nat, s.heap.size ≤ q → A q := fun q h => by rw [← hAe]; exact Or.inr h
  clear hAe
  have hS : va_S A s.heap s.heap [] := va_S.rf
  have hl := lv_entry ([.ref (ad 15), .int p1, .int p2]) (n := 3) (Nat.le_of_ble_eq_true rfl)
  rw [lg_entry_eq]
  generalize (lg_sl ([.ref (ad 15), .int p1, .int p2]) ++ List.replicate (3 - (lg_sl ([.ref (ad 15), .int p1, .int p2])).length) Slot.unset).toArray = ls at hl ⊢
  have hl : lv_has ls 3 [(0, .ref (ad 15)), (1, .int p1), (2, .int p2)] := hl
  have C : dc_C p s m _ meth c cX8_tell (some .int) 3 RX8 wsX8_tell D ty eo A := ⟨hx, hb, hr, hts, hown, hlocks, hml, hK, hN, hE, hA⟩
  unfold zX8_tell_s15 at h
  refine lv_aload_n hx hb dX8_tell_0 rfl (lv_at hl 0 rfl) ?_
  refine lv_iload_n hx hb dX8_tell_1 rfl (lv_at hl 1 rfl) ?_
  obtain ⟨r1, q3, h2, h⟩ := dB_some h
  refine dw_ki (va_runV (As := [.int p1]) (rest := []) ⟨hx, hb, hml, hown, hts⟩ (qX8_isFloor_s15 l D ty eo _ ad q p1 r1 q3 h2) (cwV 1 hts gX8_tell_X8_isFloor rfl rfl rfl hd_X8_isFloor_v ⟨Nat.le_of_ble_eq_true rfl, Nat.le_of_ble_eq_true rfl⟩) (pvF_8_15 hK hN hE hP hD hS hA) rfl rfl hl.1 rfl (lv_room (Nat.le_of_ble_eq_true rfl)) dX8_tell_2 ⟨Nat.le_of_ble_eq_true rfl, Nat.le_of_ble_eq_true rfl⟩) hD hS hA (fun r9 u9 H locs hw hp hd hs => ?_)
  clear hP hD hS
  obtain ⟨rfl, rfl⟩ := hw
  have hP := hp; have hD := hd; have hS := hs; clear hp hd hs
  refine lv_if_eq (tgt := 15) hx hb dX8_tell_5 (by decide) (fun c9 => ?_) (fun c9 => ?_)
  · rw [if_pos c9] at h
    exact WX8_tell_s15_15 C  _ _ _ _ h hP hD hS (lv_sub hl [] rfl)
  · rw [if_neg c9] at h
    refine lv_iload_n hx hb dX8_tell_8 rfl (lv_at hl 2 rfl) ?_
    obtain ⟨r4, h5, h⟩ := dV_some h
    refine dw_ks (va_runSN (As := [.int p2]) (rest := []) ⟨hx, hb, hml, hown, hts⟩ (qX9_isBit l D ty eo _ p2 _ h5) ⟨va_cnB 1 hts gX8_tell_X9_isBit_n32 rfl rfl rfl (hN.1 _ (by decide +kernel : (.methodLinkNest "TurnedFloors$Tower" 32 yX9_isBit "TurnedFloors" : Cond) ∈ kzN1)) (hts (.initialized RX9) f9_wsX8_tell_365) (by decide +kernel) ⟨Nat.le_of_ble_eq_true rfl, Nat.le_of_ble_eq_true rfl⟩, hts (.static yX9_isBit) (by decide +kernel), trivial⟩ (pvS_0 hK hN hE hP hD hS hA) rfl rfl hl.1 rfl (lv_room (Nat.le_of_ble_eq_true rfl)) dX8_tell_9 ⟨Nat.le_of_ble_eq_true rfl, Nat.le_of_ble_eq_true rfl⟩) hP hD hS hA (fun _ _ h9 => h9.2.symm) (fun r9 u9 H locs hw hp hd hs => ?_)
    obtain ⟨rfl, -⟩ := hw
    clear hP hD hS
    have hP := hp; have hD := hd; have hS := hs; clear hp hd hs
    refine lv_if_ne (tgt := 17) hx hb dX8_tell_12 (by decide) (fun c9 => ?_) (fun c9 => ?_)
    · rw [if_neg c9] at h
      refine lv_iload_n hx hb dX8_tell_17 rfl (lv_at hl 2 rfl) ?_
      refine lv_if_ne (tgt := 30) hx hb dX8_tell_18 (by decide) (fun c9 => ?_) (fun c9 => ?_)
      · rw [if_neg c9] at h
        refine lv_aload_n hx hb dX8_tell_30 rfl (lv_at hl 0 rfl) ?_
        refine va_get (D := D) (ci := 8) (v := .ref (ad 17)) (C := RX8) (T := TX8) (N := 5) hx hb hts u9_wsX8_tell_X8 hown hK hP 15 rfl rfl 1 (by decide) (hts (.fieldLink RX8 15 "TurnedFloors$Tower" "head" "[I") f9_wsX8_tell_366) (fun _ h9 => h9) rfl dX8_tell_31 ?_
        refine lv_iload_n hx hb dX8_tell_34 rfl (lv_at hl 1 rfl) ?_
        obtain ⟨g6, h⟩ := dG_some h
        refine va_iald hx hb hK hP 17 0 rfl rfl (dg_in g6) dX8_tell_35 ?_
        obtain ⟨v7, ev7, h⟩ := dL_some h
        refine kz_topi v7 ev7 ?_
        exact WX8_tell_s15_36 C  _ _ _ _ _ h hP hD hS (lv_sub hl [] rfl)
      · rw [if_pos c9] at h
        refine lv_aload_n hx hb dX8_tell_21 rfl (lv_at hl 0 rfl) ?_
        refine va_get (D := D) (ci := 8) (v := .ref (ad 16)) (C := RX8) (T := TX8) (N := 5) hx hb hts u9_wsX8_tell_X8 hown hK hP 15 rfl rfl 0 (by decide) (hts (.fieldLink RX8 9 "TurnedFloors$Tower" "rank" "[I") f9_wsX8_tell_367) (fun _ h9 => h9) rfl dX8_tell_22 ?_
        refine lv_iload_n hx hb dX8_tell_25 rfl (lv_at hl 1 rfl) ?_
        obtain ⟨g8, h⟩ := dG_some h
        refine va_iald hx hb hK hP 16 0 rfl rfl (dg_in g8) dX8_tell_26 ?_
        obtain ⟨v9, ev9, h⟩ := dL_some h
        refine kz_topi v9 ev9 ?_
        refine lv_goto (tgt := 36) hx hb dX8_tell_27 (by decide) ?_
        exact WX8_tell_s15_36 C  _ _ _ _ _ h hP hD hS (lv_sub hl [] rfl)
    · rw [if_pos c9] at h
      exact WX8_tell_s15_15 C  _ _ _ _ h hP hD hS (lv_sub hl [] rfl)

set_option maxHeartbeats 4000000 in
set_option maxRecDepth 100000 in
theorem qX1_setTurn_s20_s15 (l : Launch) (D : va_G) (ty : Nat → ClassId) (eo : Nat → Nat) (sz : Nat) (ad : Nat → Nat) (q : dK) (p2 : Int32) (o2 : dK) (h : zX1_setTurn_s20_s15 q p2 = some o2) : Met l yX1_setTurn wsX1_setTurn ({ frames := 2, cells := 0, slots := 0, locals := 43 } : Room) (va_Pc [.ref (ad 20), .ref (ad 15), .int p2] (kz_pre D ty eo (wF ty ad q) sz)) (va_Qv (fun (u : va_W) => wF ty ad o2 = u) (kz_B D ty (va_A (wF ty ad q) sz)) (va_A (wF ty ad q) sz)) 0 0 (va_A (wF ty ad q) sz) := by
  refine Met.ofW (cc := cX1_setTurn) (maxL := 3) (ret := none) (by decide) rfl ?_
  intro p e s m args below meth c s₁ B hml hv
  obtain ⟨rfl, hsz, hP, hK, hD0, hN, hE⟩ := hv
  have hx := B.exec
  have hb := B.bytes
  have hr := B.returns
  have hts := atoms_spec (ws := wsX1_setTurn) B.pre
  have hown : s.vm.findClass RX1 = some m.cls := findClass_of_methodNamed B.named
  have hlocks := B.notSynchronized
  subst hsz
  have hD := hD0.self (sz := s.heap.size)
  generalize hAe : va_A (wF ty ad q) s.heap.size = A at hD hE ⊢
  have hA : ∀ q : Nat, s.heap.size ≤ q → A q := fun q h => by rw [← hAe]; exact Or.inr h
  clear hAe
  have hS : va_S A s.heap s.heap [] := va_S.rf
  have hl := lv_entry ([.ref (ad 20), .ref (ad 15), .int p2]) (n := 3) (Nat.le_of_ble_eq_true rfl)
  rw [lg_entry_eq]
  generalize (lg_sl ([.ref (ad 20), .ref (ad 15), .int p2]) ++ List.replicate (3 - (lg_sl ([.ref (ad 20), .ref (ad 15), .int p2])).length) Slot.unset).toArray = ls at hl ⊢
  have hl : lv_has ls 3 [(0, .ref (ad 20)), (1, .ref (ad 15)), (2, .int p2)] := hl
  have C : dc_C p s m _ meth c cX1_setTurn none 3 RX1 wsX1_setTurn D ty eo A := ⟨hx, hb, hr, hts, hown, hlocks, hml, hK, hN, hE, hA⟩
  unfold zX1_setTurn_s20_s15 at h
  refine lv_aload_n hx hb dX1_setTurn_0 rfl (lv_at hl 0 rfl) ?_
  refine lv_aload_n hx hb dX1_setTurn_1 rfl (lv_at hl 1 rfl) ?_
  refine va_getN (D := D) (ci := 8) (v := .int (q.1 15 2)) (C := RX8) (T := TX8) (N := 5) hx hb hts u9_wsX1_setTurn_X8 hown hK hP 15 rfl rfl 2 (by decide) (hN.use (.fieldLinkNest "TurnedFloors$Judge" 40 "TurnedFloors$Tower" "floors" "I" "TurnedFloors") nn9_9) (fun _ h9 => h9) rfl dX1_setTurn_2 ?_
  refine lv_aload_n hx hb dX1_setTurn_5 rfl (lv_at hl 1 rfl) ?_
  refine va_getN (D := D) (ci := 8) (v := .int (q.1 15 4)) (C := RX8) (T := TX8) (N := 5) hx hb hts u9_wsX1_setTurn_X8 hown hK hP 15 rfl rfl 4 (by decide) (hN.use (.fieldLinkNest "TurnedFloors$Judge" 44 "TurnedFloors$Tower" "year" "I" "TurnedFloors") nn9_10) (fun _ h9 => h9) rfl dX1_setTurn_6 ?_
  obtain ⟨q3, h2, h⟩ := dV_some h
  refine dw_kv (va_runV (As := [.int (q.1 15 2), .int (q.1 15 4)]) (rest := []) ⟨hx, hb, hml, hown, hts⟩ (qX1_setCommon_s20 l D ty eo _ ad q (q.1 15 2) (q.1 15 4) q3 h2) (cwV 2 hts gX1_setTurn_X1_setCommon rfl rfl rfl hd_X1_setCommon_v ⟨Nat.le_of_ble_eq_true rfl, Nat.le_of_ble_eq_true rfl⟩) (pvF_1_20 hK hN hE hP hD hS hA) rfl rfl hl.1 rfl (lv_room (Nat.le_of_ble_eq_true rfl)) dX1_setTurn_9 ⟨Nat.le_of_ble_eq_true rfl, Nat.le_of_ble_eq_true rfl⟩) hD hS hA (fun u9 H locs hw hp hd hs => ?_)
  clear hP hD hS
  obtain rfl := hw
  have hP := hp; have hD := hd; have hS := hs; clear hp hd hs
  refine lv_aload_n hx hb dX1_setTurn_12 rfl (lv_at hl 0 rfl) ?_
  refine lv_iload_n hx hb dX1_setTurn_13 rfl (lv_at hl 2 rfl) ?_
  refine lv_aload_n hx hb dX1_setTurn_14 rfl (lv_at hl 1 rfl) ?_
  refine lv_iconst (v := 0) hx hb dX1_setTurn_15 (by decide) ?_
  refine lv_iconst (v := 0) hx hb dX1_setTurn_16 (by decide) ?_
  obtain ⟨r4, q6, h5, h⟩ := dB_some h
  refine dw_ki (va_runV (As := [.int 0, .int 0]) (rest := [.int p2, .ref (ad 20)]) ⟨hx, hb, hml, hown, hts⟩ (qX8_tell_s15 l D ty eo _ ad q3 0 0 r4 q6 h5) (cwV 2 hts gX1_setTurn_X8_tell rfl rfl rfl hd_X8_tell_v ⟨Nat.le_of_ble_eq_true rfl, Nat.le_of_ble_eq_true rfl⟩) (pvF_8_15 hK hN hE hP hD hS hA) rfl rfl hl.1 rfl (lv_room (Nat.le_of_ble_eq_true rfl)) dX1_setTurn_17 ⟨Nat.le_of_ble_eq_true rfl, Nat.le_of_ble_eq_true rfl⟩) hD hS hA (fun r9 u9 H locs hw hp hd hs => ?_)
  clear hP hD hS
  obtain ⟨rfl, rfl⟩ := hw
  have hP := hp; have hD := hd; have hS := hs; clear hp hd hs
  refine lv_aload_n hx hb dX1_setTurn_20 rfl (lv_at hl 1 rfl) ?_
  refine lv_iload_n hx hb dX1_setTurn_21 rfl (lv_at hl 2 rfl) ?_
  refine lv_iconst (v := 0) hx hb dX1_setTurn_22 (by decide) ?_
  obtain ⟨r7, q9, h8, h⟩ := dB_some h
  refine dw_ki (va_runV (As := [.int p2, .int 0]) (rest := [.int r4, .int p2, .ref (ad 20)]) ⟨hx, hb, hml, hown, hts⟩ (qX8_tell_s15 l D ty eo _ ad q6 p2 0 r7 q9 h8) (cwV 2 hts gX1_setTurn_X8_tell rfl rfl rfl hd_X8_tell_v ⟨Nat.le_of_ble_eq_true rfl, Nat.le_of_ble_eq_true rfl⟩) (pvF_8_15 hK hN hE hP hD hS hA) rfl rfl hl.1 rfl (lv_room (Nat.le_of_ble_eq_true rfl)) dX1_setTurn_23 ⟨Nat.le_of_ble_eq_true rfl, Nat.le_of_ble_eq_true rfl⟩) hD hS hA (fun r9 u9 H locs hw hp hd hs => ?_)
  clear hP hD hS
  obtain ⟨rfl, rfl⟩ := hw
  have hP := hp; have hD := hd; have hS := hs; clear hp hd hs
  refine lv_aload_n hx hb dX1_setTurn_26 rfl (lv_at hl 1 rfl) ?_
  refine lv_iconst (v := 0) hx hb dX1_setTurn_27 (by decide) ?_
  refine lv_iconst (v := 1) hx hb dX1_setTurn_28 (by decide) ?_
  obtain ⟨r10, q12, h11, h⟩ := dB_some h
  refine dw_ki (va_runV (As := [.int 0, .int 1]) (rest := [.int r7, .int r4, .int p2, .ref (ad 20)]) ⟨hx, hb, hml, hown, hts⟩ (qX8_tell_s15 l D ty eo _ ad q9 0 1 r10 q12 h11) (cwV 2 hts gX1_setTurn_X8_tell rfl rfl rfl hd_X8_tell_v ⟨Nat.le_of_ble_eq_true rfl, Nat.le_of_ble_eq_true rfl⟩) (pvF_8_15 hK hN hE hP hD hS hA) rfl rfl hl.1 rfl (lv_room (Nat.le_of_ble_eq_true rfl)) dX1_setTurn_29 ⟨Nat.le_of_ble_eq_true rfl, Nat.le_of_ble_eq_true rfl⟩) hD hS hA (fun r9 u9 H locs hw hp hd hs => ?_)
  clear hP hD hS
  obtain ⟨rfl, rfl⟩ := hw
  have hP := hp; have hD := hd; have hS := hs; clear hp hd hs
  obtain ⟨q15, h14, h⟩ := dV_some h
  refine dw_kv (va_runV (As := [.int p2, .int r4, .int r7, .int r10]) (rest := []) ⟨hx, hb, hml, hown, hts⟩ (qX1_setGrip_s20 l D ty eo _ ad q12 p2 r4 r7 r10 q15 h14) (cwV 4 hts gX1_setTurn_X1_setGrip rfl rfl rfl hd_X1_setGrip_v ⟨Nat.le_of_ble_eq_true rfl, Nat.le_of_ble_eq_true rfl⟩) (pvF_1_20 hK hN hE hP hD hS hA) rfl rfl hl.1 rfl (lv_room (Nat.le_of_ble_eq_true rfl)) dX1_setTurn_32 ⟨Nat.le_of_ble_eq_true rfl, Nat.le_of_ble_eq_true rfl⟩) hD hS hA (fun u9 H locs hw hp hd hs => ?_)
  clear hP hD hS
  obtain rfl := hw
  have hP := hp; have hD := hd; have hS := hs; clear hp hd hs
  cases h
  exact kz_vret hx hb hr hlocks hP hK hD hS dX1_setTurn_35 rfl

set_option maxHeartbeats 4000000 in
set_option maxRecDepth 100000 in
theorem qX1_bars_s20_s15 (l : Launch) (D : va_G) (ty : Nat → ClassId) (eo : Nat → Nat) (sz : Nat) (ad : Nat → Nat) (q : dK) (p2 : Int32) (o1 : Int32) (o2 : dK) (h : zX1_bars_s20_s15 q p2 = some (o1, o2)) : Met l yX1_bars wsX1_bars ({ frames := 3, cells := 0, slots := 0, locals := 81 } : Room) (va_Pc [.ref (ad 20), .ref (ad 15), .int p2] (kz_pre D ty eo (wF ty ad q) sz)) (va_Qi (fun (r : Int32) (u : va_W) => o1 = r ∧ wF ty ad o2 = u) (kz_B D ty (va_A (wF ty ad q) sz)) (va_A (wF ty ad q) sz)) 0 0 (va_A (wF ty ad q) sz) := by
  refine Met.ofW (cc := cX1_bars) (maxL := 3) (ret := (some .boolean)) (by decide) rfl ?_
  intro p e s m args below meth c s₁ B hml hv
  obtain ⟨rfl, hsz, hP, hK, hD0, hN, hE⟩ := hv
  have hx := B.exec
  have hb := B.bytes
  have hr := B.returns
  have hts := atoms_spec (ws := wsX1_bars) B.pre
  have hown : s.vm.findClass RX1 = some m.cls := findClass_of_methodNamed B.named
  have hlocks := B.notSynchronized
  subst hsz
  have hD := hD0.self (sz := s.heap.size)
  generalize hAe : va_A (wF ty ad q) s.heap.size = A at hD hE ⊢
  have hA : ∀ q : Nat, s.heap.size ≤ q → A q := fun q h => by rw [← hAe]; exact Or.inr h
  clear hAe
  have hS : va_S A s.heap s.heap [] := va_S.rf
  have hl := lv_entry ([.ref (ad 20), .ref (ad 15), .int p2]) (n := 3) (Nat.le_of_ble_eq_true rfl)
  rw [lg_entry_eq]
  generalize (lg_sl ([.ref (ad 20), .ref (ad 15), .int p2]) ++ List.replicate (3 - (lg_sl ([.ref (ad 20), .ref (ad 15), .int p2])).length) Slot.unset).toArray = ls at hl ⊢
  have hl : lv_has ls 3 [(0, .ref (ad 20)), (1, .ref (ad 15)), (2, .int p2)] := hl
  have C : dc_C p s m _ meth c cX1_bars (some .boolean) 3 RX1 wsX1_bars D ty eo A := ⟨hx, hb, hr, hts, hown, hlocks, hml, hK, hN, hE, hA⟩
  unfold zX1_bars_s20_s15 at h
  refine lv_aload_n hx hb dX1_bars_0 rfl (lv_at hl 0 rfl) ?_
  refine lv_aload_n hx hb dX1_bars_1 rfl (lv_at hl 1 rfl) ?_
  refine lv_iload_n hx hb dX1_bars_2 rfl (lv_at hl 2 rfl) ?_
  obtain ⟨q3, h2, h⟩ := dV_some h
  refine dw_kv (va_runV (As := [.ref (ad 15), .int p2]) (rest := []) ⟨hx, hb, hml, hown, hts⟩ (qX1_setTurn_s20_s15 l D ty eo _ ad q p2 q3 h2) (cwV 2 hts gX1_bars_X1_setTurn rfl rfl rfl hd_X1_setTurn_v ⟨Nat.le_of_ble_eq_true rfl, Nat.le_of_ble_eq_true rfl⟩) (pvF_1_20 hK hN hE hP hD hS hA) rfl rfl hl.1 rfl (lv_room (Nat.le_of_ble_eq_true rfl)) dX1_bars_3 ⟨Nat.le_of_ble_eq_true rfl, Nat.le_of_ble_eq_true rfl⟩) hD hS hA (fun u9 H locs hw hp hd hs => ?_)
  clear hP hD hS
  obtain rfl := hw
  have hP := hp; have hD := hd; have hS := hs; clear hp hd hs
  refine lv_aload_n hx hb dX1_bars_6 rfl (lv_at hl 0 rfl) ?_
  refine lv_iconst (v := 1) hx hb dX1_bars_7 (by decide) ?_
  obtain ⟨r4, q6, h5, h⟩ := dB_some h
  refine dw_ki (va_runV (As := [.int 1]) (rest := []) ⟨hx, hb, hml, hown, hts⟩ (qX1_anyHolds_s20 l D ty eo _ ad q3 1 r4 q6 h5) (cwV 1 hts gX1_bars_X1_anyHolds rfl rfl rfl hd_X1_anyHolds_v ⟨Nat.le_of_ble_eq_true rfl, Nat.le_of_ble_eq_true rfl⟩) (pvF_1_20 hK hN hE hP hD hS hA) rfl rfl hl.1 rfl (lv_room (Nat.le_of_ble_eq_true rfl)) dX1_bars_8 ⟨Nat.le_of_ble_eq_true rfl, Nat.le_of_ble_eq_true rfl⟩) hD hS hA (fun r9 u9 H locs hw hp hd hs => ?_)
  clear hP hD hS
  obtain ⟨rfl, rfl⟩ := hw
  have hP := hp; have hD := hd; have hS := hs; clear hp hd hs
  obtain ⟨g7, h⟩ := dG_some h
  cases h
  exact kz_zret hx hb hr hlocks (dbl_nar g7) hP hK hD hS dX1_bars_11 ⟨rfl, rfl⟩

set_option maxHeartbeats 4000000 in
set_option maxRecDepth 100000 in
theorem qX1_payOf_s20_s15 (l : Launch) (D : va_G) (ty : Nat → ClassId) (eo : Nat → Nat) (sz : Nat) (ad : Nat → Nat) (q : dK) (p2 : Int32) (o1 : Int32) (o2 : dK) (h : zX1_payOf_s20_s15 q p2 = some (o1, o2)) : Met l yX1_payOf wsX1_payOf ({ frames := 3, cells := 0, slots := 0, locals := 81 } : Room) (va_Pc [.ref (ad 20), .ref (ad 15), .int p2] (kz_pre D ty eo (wF ty ad q) sz)) (va_Qi (fun (r : Int32) (u : va_W) => o1 = r ∧ wF ty ad o2 = u) (kz_B D ty (va_A (wF ty ad q) sz)) (va_A (wF ty ad q) sz)) 0 0 (va_A (wF ty ad q) sz) := by
  refine Met.ofW (cc := cX1_payOf) (maxL := 3) (ret := (some .int)) (by decide) rfl ?_
  intro p e s m args below meth c s₁ B hml hv
  obtain ⟨rfl, hsz, hP, hK, hD0, hN, hE⟩ := hv
  have hx := B.exec
  have hb := B.bytes
  have hr := B.returns
  have hts := atoms_spec (ws := wsX1_payOf) B.pre
  have hown : s.vm.findClass RX1 = some m.cls := findClass_of_methodNamed B.named
  have hlocks := B.notSynchronized
  subst hsz
  have hD := hD0.self (sz := s.heap.size)
  generalize hAe : va_A (wF ty ad q) s.heap.size = A at hD hE ⊢
  have hA : ∀ q : Nat, s.heap.size ≤ q → A q := fun q h => by rw [← hAe]; exact Or.inr h
  clear hAe
  have hS : va_S A s.heap s.heap [] := va_S.rf
  have hl := lv_entry ([.ref (ad 20), .ref (ad 15), .int p2]) (n := 3) (Nat.le_of_ble_eq_true rfl)
  rw [lg_entry_eq]
  generalize (lg_sl ([.ref (ad 20), .ref (ad 15), .int p2]) ++ List.replicate (3 - (lg_sl ([.ref (ad 20), .ref (ad 15), .int p2])).length) Slot.unset).toArray = ls at hl ⊢
  have hl : lv_has ls 3 [(0, .ref (ad 20)), (1, .ref (ad 15)), (2, .int p2)] := hl
  have C : dc_C p s m _ meth c cX1_payOf (some .int) 3 RX1 wsX1_payOf D ty eo A := ⟨hx, hb, hr, hts, hown, hlocks, hml, hK, hN, hE, hA⟩
  unfold zX1_payOf_s20_s15 at h
  refine lv_aload_n hx hb dX1_payOf_0 rfl (lv_at hl 0 rfl) ?_
  refine lv_aload_n hx hb dX1_payOf_1 rfl (lv_at hl 1 rfl) ?_
  refine lv_iload_n hx hb dX1_payOf_2 rfl (lv_at hl 2 rfl) ?_
  obtain ⟨q3, h2, h⟩ := dV_some h
  refine dw_kv (va_runV (As := [.ref (ad 15), .int p2]) (rest := []) ⟨hx, hb, hml, hown, hts⟩ (qX1_setTurn_s20_s15 l D ty eo _ ad q p2 q3 h2) (cwV 2 hts gX1_payOf_X1_setTurn rfl rfl rfl hd_X1_setTurn_v ⟨Nat.le_of_ble_eq_true rfl, Nat.le_of_ble_eq_true rfl⟩) (pvF_1_20 hK hN hE hP hD hS hA) rfl rfl hl.1 rfl (lv_room (Nat.le_of_ble_eq_true rfl)) dX1_payOf_3 ⟨Nat.le_of_ble_eq_true rfl, Nat.le_of_ble_eq_true rfl⟩) hD hS hA (fun u9 H locs hw hp hd hs => ?_)
  clear hP hD hS
  obtain rfl := hw
  have hP := hp; have hD := hd; have hS := hs; clear hp hd hs
  refine lv_aload_n hx hb dX1_payOf_6 rfl (lv_at hl 0 rfl) ?_
  obtain ⟨r4, q6, h5, h⟩ := dB_some h
  refine dw_ki (va_runV (As := []) (rest := []) ⟨hx, hb, hml, hown, hts⟩ (qX1_pay_s20 l D ty eo _ ad q3  r4 q6 h5) (cwV 0 hts gX1_payOf_X1_pay rfl rfl rfl hd_X1_pay_v ⟨Nat.le_of_ble_eq_true rfl, Nat.le_of_ble_eq_true rfl⟩) (pvF_1_20 hK hN hE hP hD hS hA) rfl rfl hl.1 rfl (lv_room (Nat.le_of_ble_eq_true rfl)) dX1_payOf_7 ⟨Nat.le_of_ble_eq_true rfl, Nat.le_of_ble_eq_true rfl⟩) hD hS hA (fun r9 u9 H locs hw hp hd hs => ?_)
  clear hP hD hS
  obtain ⟨rfl, rfl⟩ := hw
  have hP := hp; have hD := hd; have hS := hs; clear hp hd hs
  cases h
  exact kz_iret hx hb hr hlocks hP hK hD hS dX1_payOf_10 ⟨rfl, rfl⟩

set_option maxHeartbeats 4000000 in
set_option maxRecDepth 100000 in
theorem qX8_exchange_s15 (l : Launch) (D : va_G) (ty : Nat → ClassId) (eo : Nat → Nat) (sz : Nat) (ad : Nat → Nat) (q : dK) (p1 : Int32) (p2 : Int32) (o2 : dK) (h : zX8_exchange_s15 q p1 p2 = some o2) : Met l yX8_exchange wsX8_exchange ({ frames := 0, cells := 0, slots := 0, locals := 0 } : Room) (va_Pc [.ref (ad 15), .int p1, .int p2] (kz_pre D ty eo (wF ty ad q) sz)) (va_Qv (fun (u : va_W) => wF ty ad o2 = u) (kz_B D ty (va_A (wF ty ad q) sz)) (va_A (wF ty ad q) sz)) 0 0 (va_A (wF ty ad q) sz) := by
  refine Met.ofW (cc := cX8_exchange) (maxL := 5) (ret := none) (by decide) rfl ?_
  intro p e s m args below meth c s₁ B hml hv
  obtain ⟨rfl, hsz, hP, hK, hD0, hN, hE⟩ := hv
  have hx := B.exec
  have hb := B.bytes
  have hr := B.returns
  have hts := atoms_spec (ws := wsX8_exchange) B.pre
  have hown : s.vm.findClass RX8 = some m.cls := findClass_of_methodNamed B.named
  have hlocks := B.notSynchronized
  subst hsz
  have hD := hD0.self (sz := s.heap.size)
  generalize hAe : va_A (wF ty ad q) s.heap.size = A at hD hE ⊢
  have hA : ∀ q : Nat, s.heap.size ≤ q → A q := fun q h => by rw [← hAe]; exact Or.inr h
  clear hAe
  have hS : va_S A s.heap s.heap [] := va_S.rf
  have hl := lv_entry ([.ref (ad 15), .int p1, .int p2]) (n := 5) (Nat.le_of_ble_eq_true rfl)
  rw [lg_entry_eq]
  generalize (lg_sl ([.ref (ad 15), .int p1, .int p2]) ++ List.replicate (5 - (lg_sl ([.ref (ad 15), .int p1, .int p2])).length) Slot.unset).toArray = ls at hl ⊢
  have hl : lv_has ls 5 [(0, .ref (ad 15)), (1, .int p1), (2, .int p2)] := hl
  have C : dc_C p s m _ meth c cX8_exchange none 5 RX8 wsX8_exchange D ty eo A := ⟨hx, hb, hr, hts, hown, hlocks, hml, hK, hN, hE, hA⟩
  unfold zX8_exchange_s15 at h
  refine lv_aload_n hx hb dX8_exchange_0 rfl (lv_at hl 0 rfl) ?_
  refine va_get (D := D) (ci := 8) (v := .ref (ad 16)) (C := RX8) (T := TX8) (N := 5) hx hb hts u9_wsX8_exchange_X8 hown hK hP 15 rfl rfl 0 (by decide) (hts (.fieldLink RX8 9 "TurnedFloors$Tower" "rank" "[I") f9_wsX8_exchange_625) (fun _ h9 => h9) rfl dX8_exchange_1 ?_
  refine lv_iload_n hx hb dX8_exchange_4 rfl (lv_at hl 1 rfl) ?_
  obtain ⟨g1, h⟩ := dG_some h
  refine va_iald hx hb hK hP 16 0 rfl rfl (dg_in g1) dX8_exchange_5 ?_
  obtain ⟨v2, ev2, h⟩ := dL_some h
  refine kz_topi v2 ev2 ?_
  refine lv_istore_n (lv' := [(3, .int v2), (0, .ref (ad 15)), (1, .int p1), (2, .int p2)]) hx hb dX8_exchange_6 rfl hl (by decide) rfl (fun ls hl => ?_)
  refine lv_aload_n hx hb dX8_exchange_7 rfl (lv_at hl 1 rfl) ?_
  refine va_get (D := D) (ci := 8) (v := .ref (ad 17)) (C := RX8) (T := TX8) (N := 5) hx hb hts u9_wsX8_exchange_X8 hown hK hP 15 rfl rfl 1 (by decide) (hts (.fieldLink RX8 15 "TurnedFloors$Tower" "head" "[I") f9_wsX8_exchange_626) (fun _ h9 => h9) rfl dX8_exchange_8 ?_
  refine lv_iload_n hx hb dX8_exchange_11 rfl (lv_at hl 2 rfl) ?_
  obtain ⟨g3, h⟩ := dG_some h
  refine va_iald hx hb hK hP 17 0 rfl rfl (dg_in g3) dX8_exchange_12 ?_
  obtain ⟨v4, ev4, h⟩ := dL_some h
  refine kz_topi v4 ev4 ?_
  refine lv_istore (lv' := [(4, .int v4), (3, .int v2), (0, .ref (ad 15)), (1, .int p1), (2, .int p2)]) hx hb dX8_exchange_13 hl (by decide) rfl (fun ls hl => ?_)
  refine lv_aload_n hx hb dX8_exchange_15 rfl (lv_at hl 2 rfl) ?_
  refine va_get (D := D) (ci := 8) (v := .ref (ad 16)) (C := RX8) (T := TX8) (N := 5) hx hb hts u9_wsX8_exchange_X8 hown hK hP 15 rfl rfl 0 (by decide) (hts (.fieldLink RX8 9 "TurnedFloors$Tower" "rank" "[I") f9_wsX8_exchange_625) (fun _ h9 => h9) rfl dX8_exchange_16 ?_
  refine lv_iload_n hx hb dX8_exchange_19 rfl (lv_at hl 3 rfl) ?_
  refine lv_aload_n hx hb dX8_exchange_20 rfl (lv_at hl 2 rfl) ?_
  refine va_get (D := D) (ci := 8) (v := .ref (ad 16)) (C := RX8) (T := TX8) (N := 5) hx hb hts u9_wsX8_exchange_X8 hown hK hP 15 rfl rfl 0 (by decide) (hts (.fieldLink RX8 9 "TurnedFloors$Tower" "rank" "[I") f9_wsX8_exchange_625) (fun _ h9 => h9) rfl dX8_exchange_21 ?_
  refine lv_iload_n hx hb dX8_exchange_24 rfl (lv_at hl 4 rfl) ?_
  obtain ⟨g5, h⟩ := dG_some h
  refine va_iald hx hb hK hP 16 0 rfl rfl (dg_in g5) dX8_exchange_25 ?_
  obtain ⟨v6, ev6, h⟩ := dL_some h
  refine kz_topi v6 ev6 ?_
  obtain ⟨g7, h⟩ := dG_some h
  refine va_iast hx hb hK hP hD hS 16 0 rfl rfl (dg_in g7) dX8_exchange_26 (fun H locs hp hd hs => ?_)
  obtain ⟨q8, eq8, h⟩ := dL_some h
  refine kz_re (w2 := wF ty ad q8) hp hd hs (by rw [← eq8]; exact wF_a16 ty ad q (Int32.toNatClampNeg p1) v6) ?_
  clear hp hd hs hP hD hS
  intro hP hD hS
  refine lv_aload_n hx hb dX8_exchange_27 rfl (lv_at hl 2 rfl) ?_
  refine va_get (D := D) (ci := 8) (v := .ref (ad 17)) (C := RX8) (T := TX8) (N := 5) hx hb hts u9_wsX8_exchange_X8 hown hK hP 15 rfl rfl 1 (by decide) (hts (.fieldLink RX8 15 "TurnedFloors$Tower" "head" "[I") f9_wsX8_exchange_626) (fun _ h9 => h9) rfl dX8_exchange_28 ?_
  refine lv_iload_n hx hb dX8_exchange_31 rfl (lv_at hl 3 rfl) ?_
  refine lv_aload_n hx hb dX8_exchange_32 rfl (lv_at hl 2 rfl) ?_
  refine va_get (D := D) (ci := 8) (v := .ref (ad 17)) (C := RX8) (T := TX8) (N := 5) hx hb hts u9_wsX8_exchange_X8 hown hK hP 15 rfl rfl 1 (by decide) (hts (.fieldLink RX8 15 "TurnedFloors$Tower" "head" "[I") f9_wsX8_exchange_626) (fun _ h9 => h9) rfl dX8_exchange_33 ?_
  refine lv_iload_n hx hb dX8_exchange_36 rfl (lv_at hl 4 rfl) ?_
  obtain ⟨g9, h⟩ := dG_some h
  refine va_iald hx hb hK hP 17 0 rfl rfl (dg_in g9) dX8_exchange_37 ?_
  obtain ⟨v10, ev10, h⟩ := dL_some h
  refine kz_topi v10 ev10 ?_
  obtain ⟨g11, h⟩ := dG_some h
  refine va_iast hx hb hK hP hD hS 17 0 rfl rfl (dg_in g11) dX8_exchange_38 (fun H locs hp hd hs => ?_)
  obtain ⟨q12, eq12, h⟩ := dL_some h
  refine kz_re (w2 := wF ty ad q12) hp hd hs (by rw [← eq12]; exact wF_a17 ty ad q8 (Int32.toNatClampNeg p1) v10) ?_
  clear hp hd hs hP hD hS
  intro hP hD hS
  refine lv_aload_n hx hb dX8_exchange_39 rfl (lv_at hl 2 rfl) ?_
  refine va_get (D := D) (ci := 8) (v := .ref (ad 16)) (C := RX8) (T := TX8) (N := 5) hx hb hts u9_wsX8_exchange_X8 hown hK hP 15 rfl rfl 0 (by decide) (hts (.fieldLink RX8 9 "TurnedFloors$Tower" "rank" "[I") f9_wsX8_exchange_625) (fun _ h9 => h9) rfl dX8_exchange_40 ?_
  refine lv_iload_n hx hb dX8_exchange_43 rfl (lv_at hl 4 rfl) ?_
  refine lv_iload_n hx hb dX8_exchange_44 rfl (lv_at hl 1 rfl) ?_
  obtain ⟨g13, h⟩ := dG_some h
  refine va_iast hx hb hK hP hD hS 16 0 rfl rfl (dg_in g13) dX8_exchange_45 (fun H locs hp hd hs => ?_)
  obtain ⟨q14, eq14, h⟩ := dL_some h
  refine kz_re (w2 := wF ty ad q14) hp hd hs (by rw [← eq14]; exact wF_a16 ty ad q12 (Int32.toNatClampNeg p2) v2) ?_
  clear hp hd hs hP hD hS
  intro hP hD hS
  refine lv_aload_n hx hb dX8_exchange_46 rfl (lv_at hl 2 rfl) ?_
  refine va_get (D := D) (ci := 8) (v := .ref (ad 17)) (C := RX8) (T := TX8) (N := 5) hx hb hts u9_wsX8_exchange_X8 hown hK hP 15 rfl rfl 1 (by decide) (hts (.fieldLink RX8 15 "TurnedFloors$Tower" "head" "[I") f9_wsX8_exchange_626) (fun _ h9 => h9) rfl dX8_exchange_47 ?_
  refine lv_iload_n hx hb dX8_exchange_50 rfl (lv_at hl 4 rfl) ?_
  refine lv_iload hx hb dX8_exchange_51 (lv_at hl 0 rfl) ?_
  obtain ⟨g15, h⟩ := dG_some h
  refine va_iast hx hb hK hP hD hS 17 0 rfl rfl (dg_in g15) dX8_exchange_53 (fun H locs hp hd hs => ?_)
  obtain ⟨q16, eq16, h⟩ := dL_some h
  refine kz_re (w2 := wF ty ad q16) hp hd hs (by rw [← eq16]; exact wF_a17 ty ad q14 (Int32.toNatClampNeg p2) v4) ?_
  clear hp hd hs hP hD hS
  intro hP hD hS
  cases h
  exact kz_vret hx hb hr hlocks hP hK hD hS dX8_exchange_54 rfl

set_option maxHeartbeats 4000000 in
set_option maxRecDepth 100000 in
theorem WX8_turnTop_s15_s20_75b {p : Program} {l : Launch} {e : Env} {s : State} {m : MethodId} {args : Array Value} {below : List Frame} {meth : Method} {c : Code} {D : va_G} {ty : Nat → ClassId} {eo : Nat → Nat} {A : Nat → Prop} {ad : Nat → Nat} {o1 : Int32} {o2 : dK} (C : dc_C p s m args meth c cX8_turnTop (some .int) 6 RX8 wsX8_turnTop D ty eo A) {k75 : dK → Int32 → Int32 → Int32 → Option (Int32 × dK)} (hk75 : ∀ (q : dK) (x1 : Int32) (x3 : Int32) (x4 : Int32) (H : Heap) (locs : List Loc) (ls : Array Slot), k75 q x1 x3 x4 = some (o1, o2) → va_P D vwCl (wF ty ad q) H → va_D A (wF ty ad q) → va_S A s.heap H locs → lv_has ls 6 [(0, .ref (ad 15)), (1, .int x1), (3, .int x3), (4, .int x4)] → W p l e ({ frames := 4, cells := 0, slots := 0, locals := 103 } : Room) s m args below meth c H locs 0 0 (MQ below (va_Qi (fun (r : Int32) (u : va_W) => o1 = r ∧ wF ty ad o2 = u) (kz_B D ty A) A) args s 0 0 A) (F0 m 75 ls [])) (q : dK) (x1 : Int32) (x3 : Int32) (x4 : Int32) (H : Heap) (locs : List Loc) (ls : Array Slot) (h : zX8_turnTop_s15_s20_75b k75 q x1 x3 x4 = some (o1, o2)) (hP : va_P D vwCl (wF ty ad q) H) (hD : va_D A (wF ty ad q)) (hS : va_S A s.heap H locs) (hl : lv_has ls 6 [(0, .ref (ad 15)), (1, .int x1), (3, .int x3), (4, .int x4)]) : W p l e ({ frames := 4, cells := 0, slots := 0, locals := 103 } : Room) s m args below meth c H locs 0 0 (MQ below (va_Qi (fun (r : Int32) (u : va_W) => o1 = r ∧ wF ty ad o2 = u) (kz_B D ty A) A) args s 0 0 A) (F0 m 75 ls []) := by
  have C0 := C
  obtain ⟨hx, hb, hr, hts, hown, hlocks, hml, hK, hN, hE, hA⟩ := C
  unfold zX8_turnTop_s15_s20_75b at h
  refine lv_iload hx hb dX8_turnTop_75 (lv_at hl 3 rfl) ?_
  refine lv_iload_n hx hb dX8_turnTop_77 rfl (lv_at hl 1 rfl) ?_
  refine lv_icmp_ge (tgt := 103) hx hb dX8_turnTop_78 (by decide) (fun c9 => ?_) (fun c9 => ?_)
  · rw [if_pos c9] at h
    refine lv_aload_n hx hb dX8_turnTop_103 rfl (lv_at hl 0 rfl) ?_
    refine lv_sipush (v := 9999) hx hb dX8_turnTop_104 (by decide) ?_
    refine lv_aload_n hx hb dX8_turnTop_107 rfl (lv_at hl 0 rfl) ?_
    refine va_get (D := D) (ci := 8) (v := .int (q.1 15 3)) (C := RX8) (T := TX8) (N := 5) hx hb hts u9_wsX8_turnTop_X8 hown hK hP 15 rfl rfl 3 (by decide) (hts (.fieldLink RX8 22 "TurnedFloors$Tower" "paid" "I") f9_wsX8_turnTop_628) (fun _ h9 => h9) rfl dX8_turnTop_108 ?_
    refine lv_iload_n hx hb dX8_turnTop_111 rfl (lv_at hl 2 rfl) ?_
    refine lv_iadd hx hb dX8_turnTop_112 ?_
    refine va_mmin hx hb (hml.trans hl.1.symm) hown (hts (.methodLink RX8 41 Lib.Math.min.name) f9_wsX8_turnTop_629) (hts (.static Lib.Math.min.name) f9_wsX8_turnTop_630) (hts (.initialized "java/lang/Math") f9_wsX8_turnTop_631) (hts (.code Lib.Math.min.name Lib.Math.min.code 2 (some .int)) f9_wsX8_turnTop_632) (Nat.le_of_ble_eq_true rfl) (Nat.le_of_ble_eq_true rfl) (Nat.le_of_ble_eq_true rfl) (Nat.le_of_ble_eq_true rfl) dX8_turnTop_113 ?_
    refine kz_topi (mnI 9999 ((q.1 15 3) + x3)) rfl ?_
    refine va_put (D := D) (ci := 8) (v := .int (mnI 9999 ((q.1 15 3) + x3))) (ty := .int) (C := RX8) (T := TX8) (N := 5) hx hb hts u9_wsX8_turnTop_X8 tyX8 tyX8_ok nmX8 hown hK hP hD hS 15 rfl rfl 3 (by decide) (hts (.fieldLink RX8 22 "TurnedFloors$Tower" "paid" "I") f9_wsX8_turnTop_628) (fun _ h9 => h9) rfl (by decide +kernel) rfl rfl (Nat.le_of_ble_eq_true rfl) dX8_turnTop_116 (fun H locs hp hd hs => ?_)
    obtain ⟨q1, eq1, h⟩ := dL_some h
    refine kz_re (w2 := wF ty ad q1) hp hd hs (by rw [← eq1]; exact wF_f15_3 ty ad q (mnI 9999 ((q.1 15 3) + x3))) ?_
    clear hp hd hs hP hD hS
    intro hP hD hS
    refine lv_iload_n hx hb dX8_turnTop_119 rfl (lv_at hl 2 rfl) ?_
    cases h
    exact kz_iret hx hb hr hlocks hP hK hD hS dX8_turnTop_120 ⟨rfl, rfl⟩
  · rw [if_neg c9] at h
    refine lv_aload_n hx hb dX8_turnTop_81 rfl (lv_at hl 0 rfl) ?_
    refine va_get (D := D) (ci := 8) (v := .ref (ad 17)) (C := RX8) (T := TX8) (N := 5) hx hb hts u9_wsX8_turnTop_X8 hown hK hP 15 rfl rfl 1 (by decide) (hts (.fieldLink RX8 15 "TurnedFloors$Tower" "head" "[I") f9_wsX8_turnTop_633) (fun _ h9 => h9) rfl dX8_turnTop_82 ?_
    refine lv_iload hx hb dX8_turnTop_85 (lv_at hl 3 rfl) ?_
    refine lv_iconst (v := 1) hx hb dX8_turnTop_87 (by decide) ?_
    refine lv_aload_n hx hb dX8_turnTop_88 rfl (lv_at hl 0 rfl) ?_
    refine va_get (D := D) (ci := 8) (v := .ref (ad 17)) (C := RX8) (T := TX8) (N := 5) hx hb hts u9_wsX8_turnTop_X8 hown hK hP 15 rfl rfl 1 (by decide) (hts (.fieldLink RX8 15 "TurnedFloors$Tower" "head" "[I") f9_wsX8_turnTop_633) (fun _ h9 => h9) rfl dX8_turnTop_89 ?_
    refine lv_iload hx hb dX8_turnTop_92 (lv_at hl 3 rfl) ?_
    obtain ⟨g2, h⟩ := dG_some h
    refine va_iald hx hb hK hP 17 0 rfl rfl (dg_in g2) dX8_turnTop_94 ?_
    obtain ⟨v3, ev3, h⟩ := dL_some h
    refine kz_topi v3 ev3 ?_
    refine lv_isub hx hb dX8_turnTop_95 ?_
    obtain ⟨g4, h⟩ := dG_some h
    refine va_iast hx hb hK hP hD hS 17 0 rfl rfl (dg_in g4) dX8_turnTop_96 (fun H locs hp hd hs => ?_)
    obtain ⟨q5, eq5, h⟩ := dL_some h
    refine kz_re (w2 := wF ty ad q5) hp hd hs (by rw [← eq5]; exact wF_a17 ty ad q (Int32.toNatClampNeg x4) (1 - v3 : Int32)) ?_
    clear hp hd hs hP hD hS
    intro hP hD hS
    refine lv_iinc (v := x4 + 1) (lv' := [(4, .int (x4 + 1)), (0, .ref (ad 15)), (1, .int x1), (3, .int x3)]) hx hb dX8_turnTop_97 hl (k := 3) rfl rfl (by decide) rfl (fun ls hl => ?_)
    refine lv_goto (tgt := 75) hx hb dX8_turnTop_100 (by decide) ?_
    exact hk75 _ _ _ _ _ _ _ h hP hD hS (lv_sub hl [1, 2, 3, 0] rfl)
set_option maxHeartbeats 4000000 in
set_option maxRecDepth 100000 in
theorem WX8_turnTop_s15_s20_75 {p : Program} {l : Launch} {e : Env} {s : State} {m : MethodId} {args : Array Value} {below : List Frame} {meth : Method} {c : Code} {D : va_G} {ty : Nat → ClassId} {eo : Nat → Nat} {A : Nat → Prop} {ad : Nat → Nat} {o1 : Int32} {o2 : dK} (C : dc_C p s m args meth c cX8_turnTop (some .int) 6 RX8 wsX8_turnTop D ty eo A)   (n : Nat) (q : dK) (x1 : Int32) (x3 : Int32) (x4 : Int32) (H : Heap) (locs : List Loc) (ls : Array Slot) (h : zX8_turnTop_s15_s20_75  n q x1 x3 x4 = some (o1, o2)) (hP : va_P D vwCl (wF ty ad q) H) (hD : va_D A (wF ty ad q)) (hS : va_S A s.heap H locs) (hl : lv_has ls 6 [(0, .ref (ad 15)), (1, .int x1), (3, .int x3), (4, .int x4)]) : W p l e ({ frames := 4, cells := 0, slots := 0, locals := 103 } : Room) s m args below meth c H locs 0 0 (MQ below (va_Qi (fun (r : Int32) (u : va_W) => o1 = r ∧ wF ty ad o2 = u) (kz_B D ty A) A) args s 0 0 A) (F0 m 75 ls []) := by
  exact dFix_W (F := fun k (a : dK × Int32 × Int32 × Int32) => zX8_turnTop_s15_s20_75b  (fun q x1 x3 x4 => k (q, x1, x3, x4)) a.1 a.2.1 a.2.2.1 a.2.2.2) (o := (o1, o2)) (P := fun (a : dK × Int32 × Int32 × Int32) H locs ls => va_P D vwCl (wF ty ad a.1) H ∧ va_D A (wF ty ad a.1) ∧ va_S A s.heap H locs ∧ lv_has ls 6 [(0, .ref (ad 15)), (1, .int a.2.1), (3, .int a.2.2.1), (4, .int a.2.2.2)]) (G := fun H locs ls => W p l e ({ frames := 4, cells := 0, slots := 0, locals := 103 } : Room) s m args below meth c H locs 0 0 (MQ below (va_Qi (fun (r : Int32) (u : va_W) => o1 = r ∧ wF ty ad o2 = u) (kz_B D ty A) A) args s 0 0 A) (F0 m 75 ls []))
    (fun k hk a H locs ls h hp => WX8_turnTop_s15_s20_75b C  (fun q x1 x3 x4 H locs ls h h1 h2 h3 h4 => hk (q, x1, x3, x4) H locs ls h ⟨h1, h2, h3, h4⟩) a.1 a.2.1 a.2.2.1 a.2.2.2 H locs ls h hp.1 hp.2.1 hp.2.2.1 hp.2.2.2) n (q, x1, x3, x4) H locs ls h ⟨hP, hD, hS, hl⟩
set_option maxHeartbeats 4000000 in
set_option maxRecDepth 100000 in
theorem WX8_turnTop_s15_s20_48b {p : Program} {l : Launch} {e : Env} {s : State} {m : MethodId} {args : Array Value} {below : List Frame} {meth : Method} {c : Code} {D : va_G} {ty : Nat → ClassId} {eo : Nat → Nat} {A : Nat → Prop} {ad : Nat → Nat} {o1 : Int32} {o2 : dK} (C : dc_C p s m args meth c cX8_turnTop (some .int) 6 RX8 wsX8_turnTop D ty eo A) {k48 : dK → Int32 → Int32 → Int32 → Int32 → Option (Int32 × dK)} (hk48 : ∀ (q : dK) (x1 : Int32) (x3 : Int32) (x4 : Int32) (x5 : Int32) (H : Heap) (locs : List Loc) (ls : Array Slot), k48 q x1 x3 x4 x5 = some (o1, o2) → va_P D vwCl (wF ty ad q) H → va_D A (wF ty ad q) → va_S A s.heap H locs → lv_has ls 6 [(0, .ref (ad 15)), (1, .int x1), (3, .int x3), (4, .int x4), (5, .int x5)] → W p l e ({ frames := 4, cells := 0, slots := 0, locals := 103 } : Room) s m args below meth c H locs 0 0 (MQ below (va_Qi (fun (r : Int32) (u : va_W) => o1 = r ∧ wF ty ad o2 = u) (kz_B D ty A) A) args s 0 0 A) (F0 m 48 ls [])) (q : dK) (x1 : Int32) (x3 : Int32) (x4 : Int32) (x5 : Int32) (H : Heap) (locs : List Loc) (ls : Array Slot) (h : zX8_turnTop_s15_s20_48b k48 q x1 x3 x4 x5 = some (o1, o2)) (hP : va_P D vwCl (wF ty ad q) H) (hD : va_D A (wF ty ad q)) (hS : va_S A s.heap H locs) (hl : lv_has ls 6 [(0, .ref (ad 15)), (1, .int x1), (3, .int x3), (4, .int x4), (5, .int x5)]) : W p l e ({ frames := 4, cells := 0, slots := 0, locals := 103 } : Room) s m args below meth c H locs 0 0 (MQ below (va_Qi (fun (r : Int32) (u : va_W) => o1 = r ∧ wF ty ad o2 = u) (kz_B D ty A) A) args s 0 0 A) (F0 m 48 ls []) := by
  have C0 := C
  obtain ⟨hx, hb, hr, hts, hown, hlocks, hml, hK, hN, hE, hA⟩ := C
  unfold zX8_turnTop_s15_s20_48b at h
  refine lv_iload hx hb dX8_turnTop_48 (lv_at hl 3 rfl) ?_
  refine lv_iload hx hb dX8_turnTop_50 (lv_at hl 4 rfl) ?_
  refine lv_icmp_ge (tgt := 72) hx hb dX8_turnTop_52 (by decide) (fun c9 => ?_) (fun c9 => ?_)
  · rw [if_pos c9] at h
    refine lv_iconst (v := 0) hx hb dX8_turnTop_72 (by decide) ?_
    refine lv_istore (lv' := [(4, .int 0), (0, .ref (ad 15)), (1, .int x1), (3, .int x3), (5, .int x5)]) hx hb dX8_turnTop_73 hl (by decide) rfl (fun ls hl => ?_)
    exact WX8_turnTop_s15_s20_75 C0  _ _ _ _ _ _ _ _ h hP hD hS (lv_sub hl [1, 2, 3, 0] rfl)
  · rw [if_neg c9] at h
    refine lv_aload_n hx hb dX8_turnTop_55 rfl (lv_at hl 0 rfl) ?_
    refine lv_iload hx hb dX8_turnTop_56 (lv_at hl 3 rfl) ?_
    refine lv_iload hx hb dX8_turnTop_58 (lv_at hl 4 rfl) ?_
    obtain ⟨q3, h2, h⟩ := dV_some h
    refine dw_kv (va_runV (As := [.int x4, .int x5]) (rest := []) ⟨hx, hb, hml, hown, hts⟩ (qX8_exchange_s15 l D ty eo _ ad q x4 x5 q3 h2) (cwV 2 hts gX8_turnTop_X8_exchange rfl rfl rfl hd_X8_exchange_v ⟨Nat.le_of_ble_eq_true rfl, Nat.le_of_ble_eq_true rfl⟩) (pvF_8_15 hK hN hE hP hD hS hA) rfl rfl hl.1 rfl (lv_room (Nat.le_of_ble_eq_true rfl)) dX8_turnTop_60 ⟨Nat.le_of_ble_eq_true rfl, Nat.le_of_ble_eq_true rfl⟩) hD hS hA (fun u9 H locs hw hp hd hs => ?_)
    clear hP hD hS
    obtain rfl := hw
    have hP := hp; have hD := hd; have hS := hs; clear hp hd hs
    refine lv_iinc (v := x4 + 1) (lv' := [(4, .int (x4 + 1)), (0, .ref (ad 15)), (1, .int x1), (3, .int x3), (5, .int x5)]) hx hb dX8_turnTop_63 hl (k := 3) rfl rfl (by decide) rfl (fun ls hl => ?_)
    refine lv_iinc (v := x5 + (-1)) (lv' := [(5, .int (x5 + (-1))), (4, .int (x4 + 1)), (0, .ref (ad 15)), (1, .int x1), (3, .int x3)]) hx hb dX8_turnTop_66 hl (k := 4) rfl rfl (by decide) rfl (fun ls hl => ?_)
    refine lv_goto (tgt := 48) hx hb dX8_turnTop_69 (by decide) ?_
    exact hk48 _ _ _ _ _ _ _ _ h hP hD hS (lv_sub hl [2, 3, 4, 1, 0] rfl)
set_option maxHeartbeats 4000000 in
set_option maxRecDepth 100000 in
theorem WX8_turnTop_s15_s20_48 {p : Program} {l : Launch} {e : Env} {s : State} {m : MethodId} {args : Array Value} {below : List Frame} {meth : Method} {c : Code} {D : va_G} {ty : Nat → ClassId} {eo : Nat → Nat} {A : Nat → Prop} {ad : Nat → Nat} {o1 : Int32} {o2 : dK} (C : dc_C p s m args meth c cX8_turnTop (some .int) 6 RX8 wsX8_turnTop D ty eo A)   (n : Nat) (q : dK) (x1 : Int32) (x3 : Int32) (x4 : Int32) (x5 : Int32) (H : Heap) (locs : List Loc) (ls : Array Slot) (h : zX8_turnTop_s15_s20_48  n q x1 x3 x4 x5 = some (o1, o2)) (hP : va_P D vwCl (wF ty ad q) H) (hD : va_D A (wF ty ad q)) (hS : va_S A s.heap H locs) (hl : lv_has ls 6 [(0, .ref (ad 15)), (1, .int x1), (3, .int x3), (4, .int x4), (5, .int x5)]) : W p l e ({ frames := 4, cells := 0, slots := 0, locals := 103 } : Room) s m args below meth c H locs 0 0 (MQ below (va_Qi (fun (r : Int32) (u : va_W) => o1 = r ∧ wF ty ad o2 = u) (kz_B D ty A) A) args s 0 0 A) (F0 m 48 ls []) := by
  exact dFix_W (F := fun k (a : dK × Int32 × Int32 × Int32 × Int32) => zX8_turnTop_s15_s20_48b  (fun q x1 x3 x4 x5 => k (q, x1, x3, x4, x5)) a.1 a.2.1 a.2.2.1 a.2.2.2.1 a.2.2.2.2) (o := (o1, o2)) (P := fun (a : dK × Int32 × Int32 × Int32 × Int32) H locs ls => va_P D vwCl (wF ty ad a.1) H ∧ va_D A (wF ty ad a.1) ∧ va_S A s.heap H locs ∧ lv_has ls 6 [(0, .ref (ad 15)), (1, .int a.2.1), (3, .int a.2.2.1), (4, .int a.2.2.2.1), (5, .int a.2.2.2.2)]) (G := fun H locs ls => W p l e ({ frames := 4, cells := 0, slots := 0, locals := 103 } : Room) s m args below meth c H locs 0 0 (MQ below (va_Qi (fun (r : Int32) (u : va_W) => o1 = r ∧ wF ty ad o2 = u) (kz_B D ty A) A) args s 0 0 A) (F0 m 48 ls []))
    (fun k hk a H locs ls h hp => WX8_turnTop_s15_s20_48b C  (fun q x1 x3 x4 x5 H locs ls h h1 h2 h3 h4 => hk (q, x1, x3, x4, x5) H locs ls h ⟨h1, h2, h3, h4⟩) a.1 a.2.1 a.2.2.1 a.2.2.2.1 a.2.2.2.2 H locs ls h hp.1 hp.2.1 hp.2.2.1 hp.2.2.2) n (q, x1, x3, x4, x5) H locs ls h ⟨hP, hD, hS, hl⟩
set_option maxHeartbeats 4000000 in
set_option maxRecDepth 100000 in
theorem WX8_turnTop_s15_s20_30 {p : Program} {l : Launch} {e : Env} {s : State} {m : MethodId} {args : Array Value} {below : List Frame} {meth : Method} {c : Code} {D : va_G} {ty : Nat → ClassId} {eo : Nat → Nat} {A : Nat → Prop} {ad : Nat → Nat} {o1 : Int32} {o2 : dK} (C : dc_C p s m args meth c cX8_turnTop (some .int) 6 RX8 wsX8_turnTop D ty eo A)   (q : dK)  (H : Heap) (locs : List Loc) (ls : Array Slot) (h : zX8_turnTop_s15_s20_30  q = some (o1, o2)) (hP : va_P D vwCl (wF ty ad q) H) (hD : va_D A (wF ty ad q)) (hS : va_S A s.heap H locs) (hl : lv_has ls 6 []) : W p l e ({ frames := 4, cells := 0, slots := 0, locals := 103 } : Room) s m args below meth c H locs 0 0 (MQ below (va_Qi (fun (r : Int32) (u : va_W) => o1 = r ∧ wF ty ad o2 = u) (kz_B D ty A) A) args s 0 0 A) (F0 m 30 ls []) := by
  have C0 := C
  obtain ⟨hx, hb, hr, hts, hown, hlocks, hml, hK, hN, hE, hA⟩ := C
  unfold zX8_turnTop_s15_s20_30 at h
  refine lv_bipush (v := (-3)) hx hb dX8_turnTop_30 (by decide) ?_
  cases h
  exact kz_iret hx hb hr hlocks hP hK hD hS dX8_turnTop_32 ⟨rfl, rfl⟩
set_option maxHeartbeats 4000000 in
set_option maxRecDepth 100000 in
theorem WX8_turnTop_s15_s20_11 {p : Program} {l : Launch} {e : Env} {s : State} {m : MethodId} {args : Array Value} {below : List Frame} {meth : Method} {c : Code} {D : va_G} {ty : Nat → ClassId} {eo : Nat → Nat} {A : Nat → Prop} {ad : Nat → Nat} {o1 : Int32} {o2 : dK} (C : dc_C p s m args meth c cX8_turnTop (some .int) 6 RX8 wsX8_turnTop D ty eo A)   (q : dK)  (H : Heap) (locs : List Loc) (ls : Array Slot) (h : zX8_turnTop_s15_s20_11  q = some (o1, o2)) (hP : va_P D vwCl (wF ty ad q) H) (hD : va_D A (wF ty ad q)) (hS : va_S A s.heap H locs) (hl : lv_has ls 6 []) : W p l e ({ frames := 4, cells := 0, slots := 0, locals := 103 } : Room) s m args below meth c H locs 0 0 (MQ below (va_Qi (fun (r : Int32) (u : va_W) => o1 = r ∧ wF ty ad o2 = u) (kz_B D ty A) A) args s 0 0 A) (F0 m 11 ls []) := by
  have C0 := C
  obtain ⟨hx, hb, hr, hts, hown, hlocks, hml, hK, hN, hE, hA⟩ := C
  unfold zX8_turnTop_s15_s20_11 at h
  refine lv_iconst (v := (-1)) hx hb dX8_turnTop_11 (by decide) ?_
  cases h
  exact kz_iret hx hb hr hlocks hP hK hD hS dX8_turnTop_12 ⟨rfl, rfl⟩
set_option maxHeartbeats 4000000 in
set_option maxRecDepth 100000 in
theorem qX8_turnTop_s15_s20 (l : Launch) (D : va_G) (ty : Nat → ClassId) (eo : Nat → Nat) (sz : Nat) (ad : Nat → Nat) (q : dK) (p1 : Int32) (o1 : Int32) (o2 : dK) (h : zX8_turnTop_s15_s20 q p1 = some (o1, o2)) : Met l yX8_turnTop wsX8_turnTop ({ frames := 4, cells := 0, slots := 0, locals := 103 } : Room) (va_Pc [.ref (ad 15), .int p1, .ref (ad 20)] (kz_pre D ty eo (wF ty ad q) sz)) (va_Qi (fun (r : Int32) (u : va_W) => o1 = r ∧ wF ty ad o2 = u) (kz_B D ty (va_A (wF ty ad q) sz)) (va_A (wF ty ad q) sz)) 0 0 (va_A (wF ty ad q) sz) := by
  refine Met.ofW (cc := cX8_turnTop) (maxL := 6) (ret := (some .int)) (by decide) rfl ?_
  intro p e s m args below meth c s₁ B hml hv
  obtain ⟨rfl, hsz, hP, hK, hD0, hN, hE⟩ := hv
  have hx := B.exec
  have hb := B.bytes
  have hr := B.returns
  have hts := atoms_spec (ws := wsX8_turnTop) B.pre
  have hown : s.vm.findClass RX8 = some m.cls := findClass_of_methodNamed B.named
  have hlocks := B.notSynchronized
  subst hsz
  have hD := hD0.self (sz := s.heap.size)
  generalize hAe : va_A (wF ty ad q) s.heap.size = A at hD hE ⊢
  have hA : ∀ q : Nat, s.heap.size ≤ q → A q := fun q h => by rw [← hAe]; exact Or.inr h
  clear hAe
  have hS : va_S A s.heap s.heap [] := va_S.rf
  have hl := lv_entry ([.ref (ad 15), .int p1, .ref (ad 20)]) (n := 6) (Nat.le_of_ble_eq_true rfl)
  rw [lg_entry_eq]
  generalize (lg_sl ([.ref (ad 15), .int p1, .ref (ad 20)]) ++ List.replicate (6 - (lg_sl ([.ref (ad 15), .int p1, .ref (ad 20)])).length) Slot.unset).toArray = ls at hl ⊢
  have hl : lv_has ls 6 [(0, .ref (ad 15)), (1, .int p1), (2, .ref (ad 20))] := hl
  have C : dc_C p s m _ meth c cX8_turnTop (some .int) 6 RX8 wsX8_turnTop D ty eo A := ⟨hx, hb, hr, hts, hown, hlocks, hml, hK, hN, hE, hA⟩
  unfold zX8_turnTop_s15_s20 at h
  refine lv_iload_n hx hb dX8_turnTop_0 rfl (lv_at hl 1 rfl) ?_
  refine lv_iconst (v := 1) hx hb dX8_turnTop_1 (by decide) ?_
  refine lv_icmp_lt (tgt := 11) hx hb dX8_turnTop_2 (by decide) (fun c9 => ?_) (fun c9 => ?_)
  · rw [if_pos c9] at h
    exact WX8_turnTop_s15_s20_11 C  _ _ _ _ h hP hD hS (lv_sub hl [] rfl)
  · rw [if_neg c9] at h
    refine lv_iload_n hx hb dX8_turnTop_5 rfl (lv_at hl 1 rfl) ?_
    refine lv_bipush (v := 6) hx hb dX8_turnTop_6 (by decide) ?_
    refine lv_icmp_le (tgt := 13) hx hb dX8_turnTop_8 (by decide) (fun c9 => ?_) (fun c9 => ?_)
    · rw [if_pos c9] at h
      refine lv_iload_n hx hb dX8_turnTop_13 rfl (lv_at hl 1 rfl) ?_
      refine lv_aload_n hx hb dX8_turnTop_14 rfl (lv_at hl 0 rfl) ?_
      refine va_get (D := D) (ci := 8) (v := .int (q.1 15 2)) (C := RX8) (T := TX8) (N := 5) hx hb hts u9_wsX8_turnTop_X8 hown hK hP 15 rfl rfl 2 (by decide) (hts (.fieldLink RX8 18 "TurnedFloors$Tower" "floors" "I") f9_wsX8_turnTop_634) (fun _ h9 => h9) rfl dX8_turnTop_15 ?_
      refine lv_icmp_gt (tgt := 30) hx hb dX8_turnTop_18 (by decide) (fun c9 => ?_) (fun c9 => ?_)
      · rw [if_pos c9] at h
        exact WX8_turnTop_s15_s20_30 C  _ _ _ _ h hP hD hS (lv_sub hl [] rfl)
      · rw [if_neg c9] at h
        refine lv_aload_n hx hb dX8_turnTop_21 rfl (lv_at hl 2 rfl) ?_
        refine lv_aload_n hx hb dX8_turnTop_22 rfl (lv_at hl 0 rfl) ?_
        refine lv_iload_n hx hb dX8_turnTop_23 rfl (lv_at hl 1 rfl) ?_
        obtain ⟨r1, q3, h2, h⟩ := dB_some h
        refine dw_ki (va_runV (As := [.ref (ad 15), .int p1]) (rest := []) ⟨hx, hb, hml, hown, hts⟩ (qX1_bars_s20_s15 l D ty eo _ ad q p1 r1 q3 h2) (cwV 2 hts gX8_turnTop_X1_bars rfl rfl rfl hd_X1_bars_v ⟨Nat.le_of_ble_eq_true rfl, Nat.le_of_ble_eq_true rfl⟩) (pvF_1_20 hK hN hE hP hD hS hA) rfl rfl hl.1 rfl (lv_room (Nat.le_of_ble_eq_true rfl)) dX8_turnTop_24 ⟨Nat.le_of_ble_eq_true rfl, Nat.le_of_ble_eq_true rfl⟩) hD hS hA (fun r9 u9 H locs hw hp hd hs => ?_)
        clear hP hD hS
        obtain ⟨rfl, rfl⟩ := hw
        have hP := hp; have hD := hd; have hS := hs; clear hp hd hs
        refine lv_if_eq (tgt := 33) hx hb dX8_turnTop_27 (by decide) (fun c9 => ?_) (fun c9 => ?_)
        · rw [if_pos c9] at h
          refine lv_aload_n hx hb dX8_turnTop_33 rfl (lv_at hl 2 rfl) ?_
          refine lv_aload_n hx hb dX8_turnTop_34 rfl (lv_at hl 0 rfl) ?_
          refine lv_iload_n hx hb dX8_turnTop_35 rfl (lv_at hl 1 rfl) ?_
          obtain ⟨r4, q6, h5, h⟩ := dB_some h
          refine dw_ki (va_runV (As := [.ref (ad 15), .int p1]) (rest := []) ⟨hx, hb, hml, hown, hts⟩ (qX1_payOf_s20_s15 l D ty eo _ ad q3 p1 r4 q6 h5) (cwV 2 hts gX8_turnTop_X1_payOf rfl rfl rfl hd_X1_payOf_v ⟨Nat.le_of_ble_eq_true rfl, Nat.le_of_ble_eq_true rfl⟩) (pvF_1_20 hK hN hE hP hD hS hA) rfl rfl hl.1 rfl (lv_room (Nat.le_of_ble_eq_true rfl)) dX8_turnTop_36 ⟨Nat.le_of_ble_eq_true rfl, Nat.le_of_ble_eq_true rfl⟩) hD hS hA (fun r9 u9 H locs hw hp hd hs => ?_)
          clear hP hD hS
          obtain ⟨rfl, rfl⟩ := hw
          have hP := hp; have hD := hd; have hS := hs; clear hp hd hs
          refine lv_istore_n (lv' := [(3, .int r4), (0, .ref (ad 15)), (1, .int p1), (2, .ref (ad 20))]) hx hb dX8_turnTop_39 rfl hl (by decide) rfl (fun ls hl => ?_)
          refine lv_iconst (v := 0) hx hb dX8_turnTop_40 (by decide) ?_
          refine lv_istore (lv' := [(4, .int 0), (3, .int r4), (0, .ref (ad 15)), (1, .int p1), (2, .ref (ad 20))]) hx hb dX8_turnTop_41 hl (by decide) rfl (fun ls hl => ?_)
          refine lv_iload_n hx hb dX8_turnTop_43 rfl (lv_at hl 3 rfl) ?_
          refine lv_iconst (v := 1) hx hb dX8_turnTop_44 (by decide) ?_
          refine lv_isub hx hb dX8_turnTop_45 ?_
          refine lv_istore (lv' := [(5, .int (p1 - 1 : Int32)), (4, .int 0), (3, .int r4), (0, .ref (ad 15)), (1, .int p1), (2, .ref (ad 20))]) hx hb dX8_turnTop_46 hl (by decide) rfl (fun ls hl => ?_)
          exact WX8_turnTop_s15_s20_48 C  _ _ _ _ _ _ _ _ _ h hP hD hS (lv_sub hl [3, 4, 2, 1, 0] rfl)
        · rw [if_neg c9] at h
          exact WX8_turnTop_s15_s20_30 C  _ _ _ _ h hP hD hS (lv_sub hl [] rfl)
    · rw [if_neg c9] at h
      exact WX8_turnTop_s15_s20_11 C  _ _ _ _ h hP hD hS (lv_sub hl [] rfl)

set_option maxHeartbeats 4000000 in
set_option maxRecDepth 100000 in
theorem WX8_rightAt_s15_10 {p : Program} {l : Launch} {e : Env} {s : State} {m : MethodId} {args : Array Value} {below : List Frame} {meth : Method} {c : Code} {D : va_G} {ty : Nat → ClassId} {eo : Nat → Nat} {A : Nat → Prop} {ad : Nat → Nat} {o1 : Int32} {o2 : dK} (C : dc_C p s m args meth c cX8_rightAt (some .int) 2 RX8 wsX8_rightAt D ty eo A)   (q : dK)  (H : Heap) (locs : List Loc) (ls : Array Slot) (h : zX8_rightAt_s15_10  q = some (o1, o2)) (hP : va_P D vwCl (wF ty ad q) H) (hD : va_D A (wF ty ad q)) (hS : va_S A s.heap H locs) (hl : lv_has ls 2 []) : W p l e ({ frames := 1, cells := 0, slots := 0, locals := 21 } : Room) s m args below meth c H locs 0 0 (MQ below (va_Qi (fun (r : Int32) (u : va_W) => o1 = r ∧ wF ty ad o2 = u) (kz_B D ty A) A) args s 0 0 A) (F0 m 10 ls []) := by
  have C0 := C
  obtain ⟨hx, hb, hr, hts, hown, hlocks, hml, hK, hN, hE, hA⟩ := C
  unfold zX8_rightAt_s15_10 at h
  refine lv_iconst (v := (-1)) hx hb dX8_rightAt_10 (by decide) ?_
  cases h
  exact kz_iret hx hb hr hlocks hP hK hD hS dX8_rightAt_11 ⟨rfl, rfl⟩
set_option maxHeartbeats 4000000 in
set_option maxRecDepth 100000 in
theorem qX8_rightAt_s15 (l : Launch) (D : va_G) (ty : Nat → ClassId) (eo : Nat → Nat) (sz : Nat) (ad : Nat → Nat) (q : dK) (p1 : Int32) (o1 : Int32) (o2 : dK) (h : zX8_rightAt_s15 q p1 = some (o1, o2)) : Met l yX8_rightAt wsX8_rightAt ({ frames := 1, cells := 0, slots := 0, locals := 21 } : Room) (va_Pc [.ref (ad 15), .int p1] (kz_pre D ty eo (wF ty ad q) sz)) (va_Qi (fun (r : Int32) (u : va_W) => o1 = r ∧ wF ty ad o2 = u) (kz_B D ty (va_A (wF ty ad q) sz)) (va_A (wF ty ad q) sz)) 0 0 (va_A (wF ty ad q) sz) := by
  refine Met.ofW (cc := cX8_rightAt) (maxL := 2) (ret := (some .int)) (by decide) rfl ?_
  intro p e s m args below meth c s₁ B hml hv
  obtain ⟨rfl, hsz, hP, hK, hD0, hN, hE⟩ := hv
  have hx := B.exec
  have hb := B.bytes
  have hr := B.returns
  have hts := atoms_spec (ws := wsX8_rightAt) B.pre
  have hown : s.vm.findClass RX8 = some m.cls := findClass_of_methodNamed B.named
  have hlocks := B.notSynchronized
  subst hsz
  have hD := hD0.self (sz := s.heap.size)
  generalize hAe : va_A (wF ty ad q) s.heap.size = A at hD hE ⊢
  have hA : ∀ q : Nat, s.heap.size ≤ q → A q := fun q h => by rw [← hAe]; exact Or.inr h
  clear hAe
  have hS : va_S A s.heap s.heap [] := va_S.rf
  have hl := lv_entry ([.ref (ad 15), .int p1]) (n := 2) (Nat.le_of_ble_eq_true rfl)
  rw [lg_entry_eq]
  generalize (lg_sl ([.ref (ad 15), .int p1]) ++ List.replicate (2 - (lg_sl ([.ref (ad 15), .int p1])).length) Slot.unset).toArray = ls at hl ⊢
  have hl : lv_has ls 2 [(0, .ref (ad 15)), (1, .int p1)] := hl
  have C : dc_C p s m _ meth c cX8_rightAt (some .int) 2 RX8 wsX8_rightAt D ty eo A := ⟨hx, hb, hr, hts, hown, hlocks, hml, hK, hN, hE, hA⟩
  unfold zX8_rightAt_s15 at h
  refine lv_iload_n hx hb dX8_rightAt_0 rfl (lv_at hl 1 rfl) ?_
  refine lv_if_lt (tgt := 10) hx hb dX8_rightAt_1 (by decide) (fun c9 => ?_) (fun c9 => ?_)
  · rw [if_pos c9] at h
    exact WX8_rightAt_s15_10 C  _ _ _ _ h hP hD hS (lv_sub hl [] rfl)
  · rw [if_neg c9] at h
    refine lv_iload_n hx hb dX8_rightAt_4 rfl (lv_at hl 1 rfl) ?_
    refine lv_bipush (v := 6) hx hb dX8_rightAt_5 (by decide) ?_
    refine lv_icmp_lt (tgt := 12) hx hb dX8_rightAt_7 (by decide) (fun c9 => ?_) (fun c9 => ?_)
    · rw [if_pos c9] at h
      refine lv_aload_n hx hb dX8_rightAt_12 rfl (lv_at hl 0 rfl) ?_
      refine lv_iload_n hx hb dX8_rightAt_13 rfl (lv_at hl 1 rfl) ?_
      obtain ⟨r1, q3, h2, h⟩ := dB_some h
      refine dw_ki (va_runV (As := [.int p1]) (rest := []) ⟨hx, hb, hml, hown, hts⟩ (qX8_isFloor_s15 l D ty eo _ ad q p1 r1 q3 h2) (cwV 1 hts gX8_rightAt_X8_isFloor rfl rfl rfl hd_X8_isFloor_v ⟨Nat.le_of_ble_eq_true rfl, Nat.le_of_ble_eq_true rfl⟩) (pvF_8_15 hK hN hE hP hD hS hA) rfl rfl hl.1 rfl (lv_room (Nat.le_of_ble_eq_true rfl)) dX8_rightAt_14 ⟨Nat.le_of_ble_eq_true rfl, Nat.le_of_ble_eq_true rfl⟩) hD hS hA (fun r9 u9 H locs hw hp hd hs => ?_)
      clear hP hD hS
      obtain ⟨rfl, rfl⟩ := hw
      have hP := hp; have hD := hd; have hS := hs; clear hp hd hs
      refine lv_if_ne (tgt := 23) hx hb dX8_rightAt_17 (by decide) (fun c9 => ?_) (fun c9 => ?_)
      · rw [if_neg c9] at h
        refine lv_aload_n hx hb dX8_rightAt_23 rfl (lv_at hl 0 rfl) ?_
        refine va_get (D := D) (ci := 8) (v := .ref (ad 17)) (C := RX8) (T := TX8) (N := 5) hx hb hts u9_wsX8_rightAt_X8 hown hK hP 15 rfl rfl 1 (by decide) (hts (.fieldLink RX8 15 "TurnedFloors$Tower" "head" "[I") f9_wsX8_rightAt_636) (fun _ h9 => h9) rfl dX8_rightAt_24 ?_
        refine lv_iload_n hx hb dX8_rightAt_27 rfl (lv_at hl 1 rfl) ?_
        refine lv_iconst (v := 1) hx hb dX8_rightAt_28 (by decide) ?_
        refine lv_aload_n hx hb dX8_rightAt_29 rfl (lv_at hl 0 rfl) ?_
        refine va_get (D := D) (ci := 8) (v := .ref (ad 17)) (C := RX8) (T := TX8) (N := 5) hx hb hts u9_wsX8_rightAt_X8 hown hK hP 15 rfl rfl 1 (by decide) (hts (.fieldLink RX8 15 "TurnedFloors$Tower" "head" "[I") f9_wsX8_rightAt_636) (fun _ h9 => h9) rfl dX8_rightAt_30 ?_
        refine lv_iload_n hx hb dX8_rightAt_33 rfl (lv_at hl 1 rfl) ?_
        obtain ⟨g4, h⟩ := dG_some h
        refine va_iald hx hb hK hP 17 0 rfl rfl (dg_in g4) dX8_rightAt_34 ?_
        obtain ⟨v5, ev5, h⟩ := dL_some h
        refine kz_topi v5 ev5 ?_
        refine lv_isub hx hb dX8_rightAt_35 ?_
        obtain ⟨g6, h⟩ := dG_some h
        refine va_iast hx hb hK hP hD hS 17 0 rfl rfl (dg_in g6) dX8_rightAt_36 (fun H locs hp hd hs => ?_)
        obtain ⟨q7, eq7, h⟩ := dL_some h
        refine kz_re (w2 := wF ty ad q7) hp hd hs (by rw [← eq7]; exact wF_a17 ty ad q3 (Int32.toNatClampNeg p1) (1 - v5 : Int32)) ?_
        clear hp hd hs hP hD hS
        intro hP hD hS
        refine lv_aload_n hx hb dX8_rightAt_37 rfl (lv_at hl 0 rfl) ?_
        refine va_get (D := D) (ci := 8) (v := .ref (ad 17)) (C := RX8) (T := TX8) (N := 5) hx hb hts u9_wsX8_rightAt_X8 hown hK hP 15 rfl rfl 1 (by decide) (hts (.fieldLink RX8 15 "TurnedFloors$Tower" "head" "[I") f9_wsX8_rightAt_636) (fun _ h9 => h9) rfl dX8_rightAt_38 ?_
        refine lv_iload_n hx hb dX8_rightAt_41 rfl (lv_at hl 1 rfl) ?_
        obtain ⟨g8, h⟩ := dG_some h
        refine va_iald hx hb hK hP 17 0 rfl rfl (dg_in g8) dX8_rightAt_42 ?_
        obtain ⟨v9, ev9, h⟩ := dL_some h
        refine kz_topi v9 ev9 ?_
        cases h
        exact kz_iret hx hb hr hlocks hP hK hD hS dX8_rightAt_43 ⟨rfl, rfl⟩
      · rw [if_pos c9] at h
        refine lv_bipush (v := (-3)) hx hb dX8_rightAt_20 (by decide) ?_
        cases h
        exact kz_iret hx hb hr hlocks hP hK hD hS dX8_rightAt_22 ⟨rfl, rfl⟩
    · rw [if_neg c9] at h
      exact WX8_rightAt_s15_10 C  _ _ _ _ h hP hD hS (lv_sub hl [] rfl)

set_option maxHeartbeats 4000000 in
set_option maxRecDepth 100000 in
theorem WX8_swapAt_s15_9 {p : Program} {l : Launch} {e : Env} {s : State} {m : MethodId} {args : Array Value} {below : List Frame} {meth : Method} {c : Code} {D : va_G} {ty : Nat → ClassId} {eo : Nat → Nat} {A : Nat → Prop} {ad : Nat → Nat} {o1 : Int32} {o2 : dK} (C : dc_C p s m args meth c cX8_swapAt (some .int) 2 RX8 wsX8_swapAt D ty eo A)   (q : dK)  (H : Heap) (locs : List Loc) (ls : Array Slot) (h : zX8_swapAt_s15_9  q = some (o1, o2)) (hP : va_P D vwCl (wF ty ad q) H) (hD : va_D A (wF ty ad q)) (hS : va_S A s.heap H locs) (hl : lv_has ls 2 []) : W p l e ({ frames := 1, cells := 0, slots := 0, locals := 24 } : Room) s m args below meth c H locs 0 0 (MQ below (va_Qi (fun (r : Int32) (u : va_W) => o1 = r ∧ wF ty ad o2 = u) (kz_B D ty A) A) args s 0 0 A) (F0 m 9 ls []) := by
  have C0 := C
  obtain ⟨hx, hb, hr, hts, hown, hlocks, hml, hK, hN, hE, hA⟩ := C
  unfold zX8_swapAt_s15_9 at h
  refine lv_iconst (v := (-1)) hx hb dX8_swapAt_9 (by decide) ?_
  cases h
  exact kz_iret hx hb hr hlocks hP hK hD hS dX8_swapAt_10 ⟨rfl, rfl⟩
set_option maxHeartbeats 4000000 in
set_option maxRecDepth 100000 in
theorem qX8_swapAt_s15 (l : Launch) (D : va_G) (ty : Nat → ClassId) (eo : Nat → Nat) (sz : Nat) (ad : Nat → Nat) (q : dK) (p1 : Int32) (o1 : Int32) (o2 : dK) (h : zX8_swapAt_s15 q p1 = some (o1, o2)) : Met l yX8_swapAt wsX8_swapAt ({ frames := 1, cells := 0, slots := 0, locals := 24 } : Room) (va_Pc [.ref (ad 15), .int p1] (kz_pre D ty eo (wF ty ad q) sz)) (va_Qi (fun (r : Int32) (u : va_W) => o1 = r ∧ wF ty ad o2 = u) (kz_B D ty (va_A (wF ty ad q) sz)) (va_A (wF ty ad q) sz)) 0 0 (va_A (wF ty ad q) sz) := by
  refine Met.ofW (cc := cX8_swapAt) (maxL := 2) (ret := (some .int)) (by decide) rfl ?_
  intro p e s m args below meth c s₁ B hml hv
  obtain ⟨rfl, hsz, hP, hK, hD0, hN, hE⟩ := hv
  have hx := B.exec
  have hb := B.bytes
  have hr := B.returns
  have hts := atoms_spec (ws := wsX8_swapAt) B.pre
  have hown : s.vm.findClass RX8 = some m.cls := findClass_of_methodNamed B.named
  have hlocks := B.notSynchronized
  subst hsz
  have hD := hD0.self (sz := s.heap.size)
  generalize hAe : va_A (wF ty ad q) s.heap.size = A at hD hE ⊢
  have hA : ∀ q : Nat, s.heap.size ≤ q → A q := fun q h => by rw [← hAe]; exact Or.inr h
  clear hAe
  have hS : va_S A s.heap s.heap [] := va_S.rf
  have hl := lv_entry ([.ref (ad 15), .int p1]) (n := 2) (Nat.le_of_ble_eq_true rfl)
  rw [lg_entry_eq]
  generalize (lg_sl ([.ref (ad 15), .int p1]) ++ List.replicate (2 - (lg_sl ([.ref (ad 15), .int p1])).length) Slot.unset).toArray = ls at hl ⊢
  have hl : lv_has ls 2 [(0, .ref (ad 15)), (1, .int p1)] := hl
  have C : dc_C p s m _ meth c cX8_swapAt (some .int) 2 RX8 wsX8_swapAt D ty eo A := ⟨hx, hb, hr, hts, hown, hlocks, hml, hK, hN, hE, hA⟩
  unfold zX8_swapAt_s15 at h
  refine lv_iload_n hx hb dX8_swapAt_0 rfl (lv_at hl 1 rfl) ?_
  refine lv_if_lt (tgt := 9) hx hb dX8_swapAt_1 (by decide) (fun c9 => ?_) (fun c9 => ?_)
  · rw [if_pos c9] at h
    exact WX8_swapAt_s15_9 C  _ _ _ _ h hP hD hS (lv_sub hl [] rfl)
  · rw [if_neg c9] at h
    refine lv_iload_n hx hb dX8_swapAt_4 rfl (lv_at hl 1 rfl) ?_
    refine lv_iconst (v := 5) hx hb dX8_swapAt_5 (by decide) ?_
    refine lv_icmp_lt (tgt := 11) hx hb dX8_swapAt_6 (by decide) (fun c9 => ?_) (fun c9 => ?_)
    · rw [if_pos c9] at h
      refine lv_aload_n hx hb dX8_swapAt_11 rfl (lv_at hl 0 rfl) ?_
      refine lv_iload_n hx hb dX8_swapAt_12 rfl (lv_at hl 1 rfl) ?_
      refine lv_iconst (v := 1) hx hb dX8_swapAt_13 (by decide) ?_
      refine lv_iadd hx hb dX8_swapAt_14 ?_
      obtain ⟨r1, q3, h2, h⟩ := dB_some h
      refine dw_ki (va_runV (As := [.int (p1 + 1 : Int32)]) (rest := []) ⟨hx, hb, hml, hown, hts⟩ (qX8_isFloor_s15 l D ty eo _ ad q (p1 + 1 : Int32) r1 q3 h2) (cwV 1 hts gX8_swapAt_X8_isFloor rfl rfl rfl hd_X8_isFloor_v ⟨Nat.le_of_ble_eq_true rfl, Nat.le_of_ble_eq_true rfl⟩) (pvF_8_15 hK hN hE hP hD hS hA) rfl rfl hl.1 rfl (lv_room (Nat.le_of_ble_eq_true rfl)) dX8_swapAt_15 ⟨Nat.le_of_ble_eq_true rfl, Nat.le_of_ble_eq_true rfl⟩) hD hS hA (fun r9 u9 H locs hw hp hd hs => ?_)
      clear hP hD hS
      obtain ⟨rfl, rfl⟩ := hw
      have hP := hp; have hD := hd; have hS := hs; clear hp hd hs
      refine lv_if_ne (tgt := 24) hx hb dX8_swapAt_18 (by decide) (fun c9 => ?_) (fun c9 => ?_)
      · rw [if_neg c9] at h
        refine lv_aload_n hx hb dX8_swapAt_24 rfl (lv_at hl 0 rfl) ?_
        refine lv_iload_n hx hb dX8_swapAt_25 rfl (lv_at hl 1 rfl) ?_
        refine lv_iload_n hx hb dX8_swapAt_26 rfl (lv_at hl 1 rfl) ?_
        refine lv_iconst (v := 1) hx hb dX8_swapAt_27 (by decide) ?_
        refine lv_iadd hx hb dX8_swapAt_28 ?_
        obtain ⟨q6, h5, h⟩ := dV_some h
        refine dw_kv (va_runV (As := [.int p1, .int (p1 + 1 : Int32)]) (rest := []) ⟨hx, hb, hml, hown, hts⟩ (qX8_exchange_s15 l D ty eo _ ad q3 p1 (p1 + 1 : Int32) q6 h5) (cwV 2 hts gX8_swapAt_X8_exchange rfl rfl rfl hd_X8_exchange_v ⟨Nat.le_of_ble_eq_true rfl, Nat.le_of_ble_eq_true rfl⟩) (pvF_8_15 hK hN hE hP hD hS hA) rfl rfl hl.1 rfl (lv_room (Nat.le_of_ble_eq_true rfl)) dX8_swapAt_29 ⟨Nat.le_of_ble_eq_true rfl, Nat.le_of_ble_eq_true rfl⟩) hD hS hA (fun u9 H locs hw hp hd hs => ?_)
        clear hP hD hS
        obtain rfl := hw
        have hP := hp; have hD := hd; have hS := hs; clear hp hd hs
        refine lv_aload_n hx hb dX8_swapAt_32 rfl (lv_at hl 0 rfl) ?_
        refine va_get (D := D) (ci := 8) (v := .ref (ad 16)) (C := RX8) (T := TX8) (N := 5) hx hb hts u9_wsX8_swapAt_X8 hown hK hP 15 rfl rfl 0 (by decide) (hts (.fieldLink RX8 9 "TurnedFloors$Tower" "rank" "[I") f9_wsX8_swapAt_638) (fun _ h9 => h9) rfl dX8_swapAt_33 ?_
        refine lv_iload_n hx hb dX8_swapAt_36 rfl (lv_at hl 1 rfl) ?_
        obtain ⟨g7, h⟩ := dG_some h
        refine va_iald hx hb hK hP 16 0 rfl rfl (dg_in g7) dX8_swapAt_37 ?_
        obtain ⟨v8, ev8, h⟩ := dL_some h
        refine kz_topi v8 ev8 ?_
        cases h
        exact kz_iret hx hb hr hlocks hP hK hD hS dX8_swapAt_38 ⟨rfl, rfl⟩
      · rw [if_pos c9] at h
        refine lv_bipush (v := (-3)) hx hb dX8_swapAt_21 (by decide) ?_
        cases h
        exact kz_iret hx hb hr hlocks hP hK hD hS dX8_swapAt_23 ⟨rfl, rfl⟩
    · rw [if_neg c9] at h
      exact WX8_swapAt_s15_9 C  _ _ _ _ h hP hD hS (lv_sub hl [] rfl)
end
section
set_option maxRecDepth 20000 in
theorem ggX9_years_X9_refuse : GoodIn wsX9_years wsX9_refuse := wd_c vW9_ok mvW9_12
set_option maxRecDepth 20000 in
theorem gX9_years_X9_refuse : GoodIn wsX9_years (wsV RX9 118 RX9 yX9_refuse wsX9_refuse) := goodIn_app (wd_l vW9_ok _ pvW9_91) ggX9_years_X9_refuse
set_option maxRecDepth 20000 in
theorem ggX9_years_X8_pack : GoodIn wsX9_years wsX8_pack := wd_c vW9_ok mvW9_366
set_option maxRecDepth 20000 in
theorem gX9_years_X8_pack : GoodIn wsX9_years (wsV RX9 318 RX8 yX8_pack wsX8_pack) := goodIn_app (wd_l vW9_ok _ pvW9_132) ggX9_years_X8_pack
set_option maxRecDepth 20000 in
theorem ggX9_years_X8_unpack : GoodIn wsX9_years wsX8_unpack := wd_c vW9_ok mvW9_432
set_option maxRecDepth 20000 in
theorem gX9_years_X8_unpack : GoodIn wsX9_years (wsV RX9 219 RX8 yX8_unpack wsX8_unpack) := goodIn_app (wd_l vW9_ok _ pvW9_113) ggX9_years_X8_unpack
set_option maxRecDepth 20000 in
theorem ggX9_years_X9_seated : GoodIn wsX9_years wsX9_seated := wd_c vW9_ok mvW9_44
set_option maxRecDepth 20000 in
theorem gX9_years_X9_seated : GoodIn wsX9_years (wsV RX9 144 RX9 yX9_seated wsX9_seated) := goodIn_app (wd_l vW9_ok _ pvW9_97) ggX9_years_X9_seated
set_option maxRecDepth 20000 in
theorem ggX9_years_X9_nextDraw : GoodIn wsX9_years wsX9_nextDraw := wd_c vW9_ok mvW9_644
set_option maxRecDepth 20000 in
theorem gX9_years_X9_nextDraw : GoodIn wsX9_years (va_wsS RX9 322 yX9_nextDraw wsX9_nextDraw) := goodIn_app (wd_l vW9_ok _ pvW9_133) ggX9_years_X9_nextDraw
set_option maxRecDepth 20000 in
theorem ggX9_years_X8_act : GoodIn wsX9_years wsX8_act := wd_c vW9_ok mvW9_398
set_option maxRecDepth 20000 in
theorem gX9_years_X8_act : GoodIn wsX9_years (wsV RX9 325 RX8 yX8_act wsX8_act) := goodIn_app (wd_l vW9_ok _ pvW9_134) ggX9_years_X8_act
set_option maxRecDepth 20000 in
theorem ggX9_years_X9_accept : GoodIn wsX9_years wsX9_accept := wd_c vW9_ok mvW9_36
set_option maxRecDepth 20000 in
theorem gX9_years_X9_accept : GoodIn wsX9_years (wsV RX9 138 RX9 yX9_accept wsX9_accept) := goodIn_app (wd_l vW9_ok _ pvW9_95) ggX9_years_X9_accept
theorem da9_dX9_years_0 : (decode cX9_years 0 = .ok (.iload_n 1, 1)) ∧ (decode cX9_years 1 = .ok (.ifCond .lt 21, 3)) ∧ (decode cX9_years 4 = .ok (.iload_n 1, 1)) ∧ (decode cX9_years 5 = .ok (.ldc_w 317, 3)) ∧ (decode cX9_years 8 = .ok (.if_icmp .gt 14, 3)) ∧ (decode cX9_years 11 = .ok (.iload_n 2, 1)) ∧ (decode cX9_years 12 = .ok (.iconst 1, 1)) ∧ (decode cX9_years 13 = .ok (.if_icmp .lt 9, 3)) ∧ (decode cX9_years 16 = .ok (.iload_n 2, 1)) ∧ (decode cX9_years 17 = .ok (.bipush 60, 2)) ∧ (decode cX9_years 19 = .ok (.if_icmp .le 9, 3)) ∧ (decode cX9_years 22 = .ok (.aload_n 0, 1)) ∧ (decode cX9_years 23 = .ok (.iconst (-1), 1)) ∧ (decode cX9_years 24 = .ok (.invokevirtual 118, 3)) ∧ (decode cX9_years 27 = .ok (.ireturn, 1)) ∧ (decode cX9_years 28 = .ok (.aload_n 0, 1)) := by decide +kernel
theorem dX9_years_0 : decode cX9_years 0 = .ok (.iload_n 1, 1) := da9_dX9_years_0.1
theorem dX9_years_1 : decode cX9_years 1 = .ok (.ifCond .lt 21, 3) := da9_dX9_years_0.2.1
theorem dX9_years_4 : decode cX9_years 4 = .ok (.iload_n 1, 1) := da9_dX9_years_0.2.2.1
theorem dX9_years_5 : decode cX9_years 5 = .ok (.ldc_w 317, 3) := da9_dX9_years_0.2.2.2.1
theorem dX9_years_8 : decode cX9_years 8 = .ok (.if_icmp .gt 14, 3) := da9_dX9_years_0.2.2.2.2.1
theorem dX9_years_11 : decode cX9_years 11 = .ok (.iload_n 2, 1) := da9_dX9_years_0.2.2.2.2.2.1
theorem dX9_years_12 : decode cX9_years 12 = .ok (.iconst 1, 1) := da9_dX9_years_0.2.2.2.2.2.2.1
theorem dX9_years_13 : decode cX9_years 13 = .ok (.if_icmp .lt 9, 3) := da9_dX9_years_0.2.2.2.2.2.2.2.1
theorem dX9_years_16 : decode cX9_years 16 = .ok (.iload_n 2, 1) := da9_dX9_years_0.2.2.2.2.2.2.2.2.1
theorem dX9_years_17 : decode cX9_years 17 = .ok (.bipush 60, 2) := da9_dX9_years_0.2.2.2.2.2.2.2.2.2.1
theorem dX9_years_19 : decode cX9_years 19 = .ok (.if_icmp .le 9, 3) := da9_dX9_years_0.2.2.2.2.2.2.2.2.2.2.1
theorem dX9_years_22 : decode cX9_years 22 = .ok (.aload_n 0, 1) := da9_dX9_years_0.2.2.2.2.2.2.2.2.2.2.2.1
theorem dX9_years_23 : decode cX9_years 23 = .ok (.iconst (-1), 1) := da9_dX9_years_0.2.2.2.2.2.2.2.2.2.2.2.2.1
theorem dX9_years_24 : decode cX9_years 24 = .ok (.invokevirtual 118, 3) := da9_dX9_years_0.2.2.2.2.2.2.2.2.2.2.2.2.2.1
theorem dX9_years_27 : decode cX9_years 27 = .ok (.ireturn, 1) := da9_dX9_years_0.2.2.2.2.2.2.2.2.2.2.2.2.2.2.1
theorem dX9_years_28 : decode cX9_years 28 = .ok (.aload_n 0, 1) := da9_dX9_years_0.2.2.2.2.2.2.2.2.2.2.2.2.2.2.2
theorem da9_dX9_years_29 : (decode cX9_years 29 = .ok (.getfield 10, 3)) ∧ (decode cX9_years 32 = .ok (.getfield 122, 3)) ∧ (decode cX9_years 35 = .ok (.getfield 135, 3)) ∧ (decode cX9_years 38 = .ok (.ifCond .ne 10, 3)) ∧ (decode cX9_years 41 = .ok (.aload_n 0, 1)) ∧ (decode cX9_years 42 = .ok (.bipush (-3), 2)) ∧ (decode cX9_years 44 = .ok (.invokevirtual 118, 3)) ∧ (decode cX9_years 47 = .ok (.ireturn, 1)) ∧ (decode cX9_years 48 = .ok (.aload_n 0, 1)) ∧ (decode cX9_years 49 = .ok (.getfield 34, 3)) ∧ (decode cX9_years 52 = .ok (.aload_n 0, 1)) ∧ (decode cX9_years 53 = .ok (.getfield 10, 3)) ∧ (decode cX9_years 56 = .ok (.getfield 122, 3)) ∧ (decode cX9_years 59 = .ok (.invokevirtual 318, 3)) ∧ (decode cX9_years 62 = .ok (.invokevirtual 219, 3)) ∧ (decode cX9_years 65 = .ok (.aload_n 0, 1)) := by decide +kernel
theorem dX9_years_29 : decode cX9_years 29 = .ok (.getfield 10, 3) := da9_dX9_years_29.1
theorem dX9_years_32 : decode cX9_years 32 = .ok (.getfield 122, 3) := da9_dX9_years_29.2.1
theorem dX9_years_35 : decode cX9_years 35 = .ok (.getfield 135, 3) := da9_dX9_years_29.2.2.1
theorem dX9_years_38 : decode cX9_years 38 = .ok (.ifCond .ne 10, 3) := da9_dX9_years_29.2.2.2.1
theorem dX9_years_41 : decode cX9_years 41 = .ok (.aload_n 0, 1) := da9_dX9_years_29.2.2.2.2.1
theorem dX9_years_42 : decode cX9_years 42 = .ok (.bipush (-3), 2) := da9_dX9_years_29.2.2.2.2.2.1
theorem dX9_years_44 : decode cX9_years 44 = .ok (.invokevirtual 118, 3) := da9_dX9_years_29.2.2.2.2.2.2.1
theorem dX9_years_47 : decode cX9_years 47 = .ok (.ireturn, 1) := da9_dX9_years_29.2.2.2.2.2.2.2.1
theorem dX9_years_48 : decode cX9_years 48 = .ok (.aload_n 0, 1) := da9_dX9_years_29.2.2.2.2.2.2.2.2.1
theorem dX9_years_49 : decode cX9_years 49 = .ok (.getfield 34, 3) := da9_dX9_years_29.2.2.2.2.2.2.2.2.2.1
theorem dX9_years_52 : decode cX9_years 52 = .ok (.aload_n 0, 1) := da9_dX9_years_29.2.2.2.2.2.2.2.2.2.2.1
theorem dX9_years_53 : decode cX9_years 53 = .ok (.getfield 10, 3) := da9_dX9_years_29.2.2.2.2.2.2.2.2.2.2.2.1
theorem dX9_years_56 : decode cX9_years 56 = .ok (.getfield 122, 3) := da9_dX9_years_29.2.2.2.2.2.2.2.2.2.2.2.2.1
theorem dX9_years_59 : decode cX9_years 59 = .ok (.invokevirtual 318, 3) := da9_dX9_years_29.2.2.2.2.2.2.2.2.2.2.2.2.2.1
theorem dX9_years_62 : decode cX9_years 62 = .ok (.invokevirtual 219, 3) := da9_dX9_years_29.2.2.2.2.2.2.2.2.2.2.2.2.2.2.1
theorem dX9_years_65 : decode cX9_years 65 = .ok (.aload_n 0, 1) := da9_dX9_years_29.2.2.2.2.2.2.2.2.2.2.2.2.2.2.2
theorem da9_dX9_years_66 : (decode cX9_years 66 = .ok (.invokevirtual 144, 3)) ∧ (decode cX9_years 69 = .ok (.pop, 1)) ∧ (decode cX9_years 70 = .ok (.iload_n 1, 1)) ∧ (decode cX9_years 71 = .ok (.istore_n 3, 1)) ∧ (decode cX9_years 72 = .ok (.iconst 0, 1)) ∧ (decode cX9_years 73 = .ok (.istore 4, 2)) ∧ (decode cX9_years 75 = .ok (.iload 4, 2)) ∧ (decode cX9_years 77 = .ok (.iload_n 2, 1)) ∧ (decode cX9_years 78 = .ok (.if_icmp .ge 94, 3)) ∧ (decode cX9_years 81 = .ok (.aload_n 0, 1)) ∧ (decode cX9_years 82 = .ok (.getfield 34, 3)) ∧ (decode cX9_years 85 = .ok (.getfield 240, 3)) ∧ (decode cX9_years 88 = .ok (.sipush 999, 3)) ∧ (decode cX9_years 91 = .ok (.if_icmp .ge 81, 3)) ∧ (decode cX9_years 94 = .ok (.iload_n 3, 1)) ∧ (decode cX9_years 95 = .ok (.invokestatic 322, 3)) := by decide +kernel
theorem dX9_years_66 : decode cX9_years 66 = .ok (.invokevirtual 144, 3) := da9_dX9_years_66.1
theorem dX9_years_69 : decode cX9_years 69 = .ok (.pop, 1) := da9_dX9_years_66.2.1
theorem dX9_years_70 : decode cX9_years 70 = .ok (.iload_n 1, 1) := da9_dX9_years_66.2.2.1
theorem dX9_years_71 : decode cX9_years 71 = .ok (.istore_n 3, 1) := da9_dX9_years_66.2.2.2.1
theorem dX9_years_72 : decode cX9_years 72 = .ok (.iconst 0, 1) := da9_dX9_years_66.2.2.2.2.1
theorem dX9_years_73 : decode cX9_years 73 = .ok (.istore 4, 2) := da9_dX9_years_66.2.2.2.2.2.1
theorem dX9_years_75 : decode cX9_years 75 = .ok (.iload 4, 2) := da9_dX9_years_66.2.2.2.2.2.2.1
theorem dX9_years_77 : decode cX9_years 77 = .ok (.iload_n 2, 1) := da9_dX9_years_66.2.2.2.2.2.2.2.1
theorem dX9_years_78 : decode cX9_years 78 = .ok (.if_icmp .ge 94, 3) := da9_dX9_years_66.2.2.2.2.2.2.2.2.1
theorem dX9_years_81 : decode cX9_years 81 = .ok (.aload_n 0, 1) := da9_dX9_years_66.2.2.2.2.2.2.2.2.2.1
theorem dX9_years_82 : decode cX9_years 82 = .ok (.getfield 34, 3) := da9_dX9_years_66.2.2.2.2.2.2.2.2.2.2.1
theorem dX9_years_85 : decode cX9_years 85 = .ok (.getfield 240, 3) := da9_dX9_years_66.2.2.2.2.2.2.2.2.2.2.2.1
theorem dX9_years_88 : decode cX9_years 88 = .ok (.sipush 999, 3) := da9_dX9_years_66.2.2.2.2.2.2.2.2.2.2.2.2.1
theorem dX9_years_91 : decode cX9_years 91 = .ok (.if_icmp .ge 81, 3) := da9_dX9_years_66.2.2.2.2.2.2.2.2.2.2.2.2.2.1
theorem dX9_years_94 : decode cX9_years 94 = .ok (.iload_n 3, 1) := da9_dX9_years_66.2.2.2.2.2.2.2.2.2.2.2.2.2.2.1
theorem dX9_years_95 : decode cX9_years 95 = .ok (.invokestatic 322, 3) := da9_dX9_years_66.2.2.2.2.2.2.2.2.2.2.2.2.2.2.2
theorem da9_dX9_years_98 : (decode cX9_years 98 = .ok (.istore_n 3, 1)) ∧ (decode cX9_years 99 = .ok (.iload_n 3, 1)) ∧ (decode cX9_years 100 = .ok (.bipush 6, 2)) ∧ (decode cX9_years 102 = .ok (.irem, 1)) ∧ (decode cX9_years 103 = .ok (.istore 5, 2)) ∧ (decode cX9_years 105 = .ok (.iload_n 3, 1)) ∧ (decode cX9_years 106 = .ok (.invokestatic 322, 3)) ∧ (decode cX9_years 109 = .ok (.istore_n 3, 1)) ∧ (decode cX9_years 110 = .ok (.iload_n 3, 1)) ∧ (decode cX9_years 111 = .ok (.iconst 3, 1)) ∧ (decode cX9_years 112 = .ok (.irem, 1)) ∧ (decode cX9_years 113 = .ok (.iconst 2, 1)) ∧ (decode cX9_years 114 = .ok (.if_icmp .ne 21, 3)) ∧ (decode cX9_years 117 = .ok (.aload_n 0, 1)) ∧ (decode cX9_years 118 = .ok (.getfield 34, 3)) ∧ (decode cX9_years 121 = .ok (.iconst 1, 1)) := by decide +kernel
theorem dX9_years_98 : decode cX9_years 98 = .ok (.istore_n 3, 1) := da9_dX9_years_98.1
theorem dX9_years_99 : decode cX9_years 99 = .ok (.iload_n 3, 1) := da9_dX9_years_98.2.1
theorem dX9_years_100 : decode cX9_years 100 = .ok (.bipush 6, 2) := da9_dX9_years_98.2.2.1
theorem dX9_years_102 : decode cX9_years 102 = .ok (.irem, 1) := da9_dX9_years_98.2.2.2.1
theorem dX9_years_103 : decode cX9_years 103 = .ok (.istore 5, 2) := da9_dX9_years_98.2.2.2.2.1
theorem dX9_years_105 : decode cX9_years 105 = .ok (.iload_n 3, 1) := da9_dX9_years_98.2.2.2.2.2.1
theorem dX9_years_106 : decode cX9_years 106 = .ok (.invokestatic 322, 3) := da9_dX9_years_98.2.2.2.2.2.2.1
theorem dX9_years_109 : decode cX9_years 109 = .ok (.istore_n 3, 1) := da9_dX9_years_98.2.2.2.2.2.2.2.1
theorem dX9_years_110 : decode cX9_years 110 = .ok (.iload_n 3, 1) := da9_dX9_years_98.2.2.2.2.2.2.2.2.1
theorem dX9_years_111 : decode cX9_years 111 = .ok (.iconst 3, 1) := da9_dX9_years_98.2.2.2.2.2.2.2.2.2.1
theorem dX9_years_112 : decode cX9_years 112 = .ok (.irem, 1) := da9_dX9_years_98.2.2.2.2.2.2.2.2.2.2.1
theorem dX9_years_113 : decode cX9_years 113 = .ok (.iconst 2, 1) := da9_dX9_years_98.2.2.2.2.2.2.2.2.2.2.2.1
theorem dX9_years_114 : decode cX9_years 114 = .ok (.if_icmp .ne 21, 3) := da9_dX9_years_98.2.2.2.2.2.2.2.2.2.2.2.2.1
theorem dX9_years_117 : decode cX9_years 117 = .ok (.aload_n 0, 1) := da9_dX9_years_98.2.2.2.2.2.2.2.2.2.2.2.2.2.1
theorem dX9_years_118 : decode cX9_years 118 = .ok (.getfield 34, 3) := da9_dX9_years_98.2.2.2.2.2.2.2.2.2.2.2.2.2.2.1
theorem dX9_years_121 : decode cX9_years 121 = .ok (.iconst 1, 1) := da9_dX9_years_98.2.2.2.2.2.2.2.2.2.2.2.2.2.2.2
theorem da9_dX9_years_122 : (decode cX9_years 122 = .ok (.iload 5, 2)) ∧ (decode cX9_years 124 = .ok (.aload_n 0, 1)) ∧ (decode cX9_years 125 = .ok (.getfield 50, 3)) ∧ (decode cX9_years 128 = .ok (.invokevirtual 325, 3)) ∧ (decode cX9_years 131 = .ok (.pop, 1)) ∧ (decode cX9_years 132 = .ok (.goto 20, 3)) ∧ (decode cX9_years 135 = .ok (.aload_n 0, 1)) ∧ (decode cX9_years 136 = .ok (.getfield 34, 3)) ∧ (decode cX9_years 139 = .ok (.iconst 0, 1)) ∧ (decode cX9_years 140 = .ok (.iload 5, 2)) ∧ (decode cX9_years 142 = .ok (.iconst 1, 1)) ∧ (decode cX9_years 143 = .ok (.iadd, 1)) ∧ (decode cX9_years 144 = .ok (.aload_n 0, 1)) ∧ (decode cX9_years 145 = .ok (.getfield 50, 3)) ∧ (decode cX9_years 148 = .ok (.invokevirtual 325, 3)) ∧ (decode cX9_years 151 = .ok (.pop, 1)) := by decide +kernel
theorem dX9_years_122 : decode cX9_years 122 = .ok (.iload 5, 2) := da9_dX9_years_122.1
theorem dX9_years_124 : decode cX9_years 124 = .ok (.aload_n 0, 1) := da9_dX9_years_122.2.1
theorem dX9_years_125 : decode cX9_years 125 = .ok (.getfield 50, 3) := da9_dX9_years_122.2.2.1
theorem dX9_years_128 : decode cX9_years 128 = .ok (.invokevirtual 325, 3) := da9_dX9_years_122.2.2.2.1
theorem dX9_years_131 : decode cX9_years 131 = .ok (.pop, 1) := da9_dX9_years_122.2.2.2.2.1
theorem dX9_years_132 : decode cX9_years 132 = .ok (.goto 20, 3) := da9_dX9_years_122.2.2.2.2.2.1
theorem dX9_years_135 : decode cX9_years 135 = .ok (.aload_n 0, 1) := da9_dX9_years_122.2.2.2.2.2.2.1
theorem dX9_years_136 : decode cX9_years 136 = .ok (.getfield 34, 3) := da9_dX9_years_122.2.2.2.2.2.2.2.1
theorem dX9_years_139 : decode cX9_years 139 = .ok (.iconst 0, 1) := da9_dX9_years_122.2.2.2.2.2.2.2.2.1
theorem dX9_years_140 : decode cX9_years 140 = .ok (.iload 5, 2) := da9_dX9_years_122.2.2.2.2.2.2.2.2.2.1
theorem dX9_years_142 : decode cX9_years 142 = .ok (.iconst 1, 1) := da9_dX9_years_122.2.2.2.2.2.2.2.2.2.2.1
theorem dX9_years_143 : decode cX9_years 143 = .ok (.iadd, 1) := da9_dX9_years_122.2.2.2.2.2.2.2.2.2.2.2.1
theorem dX9_years_144 : decode cX9_years 144 = .ok (.aload_n 0, 1) := da9_dX9_years_122.2.2.2.2.2.2.2.2.2.2.2.2.1
theorem dX9_years_145 : decode cX9_years 145 = .ok (.getfield 50, 3) := da9_dX9_years_122.2.2.2.2.2.2.2.2.2.2.2.2.2.1
theorem dX9_years_148 : decode cX9_years 148 = .ok (.invokevirtual 325, 3) := da9_dX9_years_122.2.2.2.2.2.2.2.2.2.2.2.2.2.2.1
theorem dX9_years_151 : decode cX9_years 151 = .ok (.pop, 1) := da9_dX9_years_122.2.2.2.2.2.2.2.2.2.2.2.2.2.2.2
theorem da9_dX9_years_152 : (decode cX9_years 152 = .ok (.aload_n 0, 1)) ∧ (decode cX9_years 153 = .ok (.getfield 34, 3)) ∧ (decode cX9_years 156 = .ok (.iconst 3, 1)) ∧ (decode cX9_years 157 = .ok (.iconst 0, 1)) ∧ (decode cX9_years 158 = .ok (.aload_n 0, 1)) ∧ (decode cX9_years 159 = .ok (.getfield 50, 3)) ∧ (decode cX9_years 162 = .ok (.invokevirtual 325, 3)) ∧ (decode cX9_years 165 = .ok (.pop, 1)) ∧ (decode cX9_years 166 = .ok (.iinc 4 1, 3)) ∧ (decode cX9_years 169 = .ok (.goto (-94), 3)) ∧ (decode cX9_years 172 = .ok (.aload_n 0, 1)) ∧ (decode cX9_years 173 = .ok (.aload_n 0, 1)) ∧ (decode cX9_years 174 = .ok (.getfield 34, 3)) ∧ (decode cX9_years 177 = .ok (.getfield 329, 3)) ∧ (decode cX9_years 180 = .ok (.aload_n 0, 1)) ∧ (decode cX9_years 181 = .ok (.getfield 10, 3)) := by decide +kernel
theorem dX9_years_152 : decode cX9_years 152 = .ok (.aload_n 0, 1) := da9_dX9_years_152.1
theorem dX9_years_153 : decode cX9_years 153 = .ok (.getfield 34, 3) := da9_dX9_years_152.2.1
theorem dX9_years_156 : decode cX9_years 156 = .ok (.iconst 3, 1) := da9_dX9_years_152.2.2.1
theorem dX9_years_157 : decode cX9_years 157 = .ok (.iconst 0, 1) := da9_dX9_years_152.2.2.2.1
theorem dX9_years_158 : decode cX9_years 158 = .ok (.aload_n 0, 1) := da9_dX9_years_152.2.2.2.2.1
theorem dX9_years_159 : decode cX9_years 159 = .ok (.getfield 50, 3) := da9_dX9_years_152.2.2.2.2.2.1
theorem dX9_years_162 : decode cX9_years 162 = .ok (.invokevirtual 325, 3) := da9_dX9_years_152.2.2.2.2.2.2.1
theorem dX9_years_165 : decode cX9_years 165 = .ok (.pop, 1) := da9_dX9_years_152.2.2.2.2.2.2.2.1
theorem dX9_years_166 : decode cX9_years 166 = .ok (.iinc 4 1, 3) := da9_dX9_years_152.2.2.2.2.2.2.2.2.1
theorem dX9_years_169 : decode cX9_years 169 = .ok (.goto (-94), 3) := da9_dX9_years_152.2.2.2.2.2.2.2.2.2.1
theorem dX9_years_172 : decode cX9_years 172 = .ok (.aload_n 0, 1) := da9_dX9_years_152.2.2.2.2.2.2.2.2.2.2.1
theorem dX9_years_173 : decode cX9_years 173 = .ok (.aload_n 0, 1) := da9_dX9_years_152.2.2.2.2.2.2.2.2.2.2.2.1
theorem dX9_years_174 : decode cX9_years 174 = .ok (.getfield 34, 3) := da9_dX9_years_152.2.2.2.2.2.2.2.2.2.2.2.2.1
theorem dX9_years_177 : decode cX9_years 177 = .ok (.getfield 329, 3) := da9_dX9_years_152.2.2.2.2.2.2.2.2.2.2.2.2.2.1
theorem dX9_years_180 : decode cX9_years 180 = .ok (.aload_n 0, 1) := da9_dX9_years_152.2.2.2.2.2.2.2.2.2.2.2.2.2.2.1
theorem dX9_years_181 : decode cX9_years 181 = .ok (.getfield 10, 3) := da9_dX9_years_152.2.2.2.2.2.2.2.2.2.2.2.2.2.2.2
theorem da9_dX9_years_184 : (decode cX9_years 184 = .ok (.getfield 122, 3)) ∧ (decode cX9_years 187 = .ok (.getfield 329, 3)) ∧ (decode cX9_years 190 = .ok (.isub, 1)) ∧ (decode cX9_years 191 = .ok (.invokevirtual 138, 3)) ∧ (decode cX9_years 194 = .ok (.ireturn, 1)) := by decide +kernel
theorem dX9_years_184 : decode cX9_years 184 = .ok (.getfield 122, 3) := da9_dX9_years_184.1
theorem dX9_years_187 : decode cX9_years 187 = .ok (.getfield 329, 3) := da9_dX9_years_184.2.1
theorem dX9_years_190 : decode cX9_years 190 = .ok (.isub, 1) := da9_dX9_years_184.2.2.1
theorem dX9_years_191 : decode cX9_years 191 = .ok (.invokevirtual 138, 3) := da9_dX9_years_184.2.2.2.1
theorem dX9_years_194 : decode cX9_years 194 = .ok (.ireturn, 1) := da9_dX9_years_184.2.2.2.2
set_option maxRecDepth 20000 in
theorem ggX9_drawn_X8_tell : GoodIn wsX9_drawn wsX8_tell := wd_c vW9_ok mvW9_101
set_option maxRecDepth 20000 in
theorem gX9_drawn_X8_tell : GoodIn wsX9_drawn (wsV RX9 156 RX8 yX8_tell wsX8_tell) := goodIn_app (wd_l vW9_ok _ pvW9_100) ggX9_drawn_X8_tell
theorem da9_dX9_drawn_0 : (decode cX9_drawn 0 = .ok (.aload_n 0, 1)) ∧ (decode cX9_drawn 1 = .ok (.getfield 34, 3)) ∧ (decode cX9_drawn 4 = .ok (.iload_n 1, 1)) ∧ (decode cX9_drawn 5 = .ok (.iload_n 2, 1)) ∧ (decode cX9_drawn 6 = .ok (.invokevirtual 156, 3)) ∧ (decode cX9_drawn 9 = .ok (.ireturn, 1)) := by decide +kernel
theorem dX9_drawn_0 : decode cX9_drawn 0 = .ok (.aload_n 0, 1) := da9_dX9_drawn_0.1
theorem dX9_drawn_1 : decode cX9_drawn 1 = .ok (.getfield 34, 3) := da9_dX9_drawn_0.2.1
theorem dX9_drawn_4 : decode cX9_drawn 4 = .ok (.iload_n 1, 1) := da9_dX9_drawn_0.2.2.1
theorem dX9_drawn_5 : decode cX9_drawn 5 = .ok (.iload_n 2, 1) := da9_dX9_drawn_0.2.2.2.1
theorem dX9_drawn_6 : decode cX9_drawn 6 = .ok (.invokevirtual 156, 3) := da9_dX9_drawn_0.2.2.2.2.1
theorem dX9_drawn_9 : decode cX9_drawn 9 = .ok (.ireturn, 1) := da9_dX9_drawn_0.2.2.2.2.2
theorem da9_dX9_isImage_0 : (decode cX9_isImage 0 = .ok (.iload_n 0, 1)) ∧ (decode cX9_isImage 1 = .ok (.ifCond .lt 12, 3)) ∧ (decode cX9_isImage 4 = .ok (.iload_n 0, 1)) ∧ (decode cX9_isImage 5 = .ok (.iconst 2, 1)) ∧ (decode cX9_isImage 6 = .ok (.if_icmp .ge 7, 3)) ∧ (decode cX9_isImage 9 = .ok (.iconst 1, 1)) ∧ (decode cX9_isImage 10 = .ok (.goto 4, 3)) ∧ (decode cX9_isImage 13 = .ok (.iconst 0, 1)) ∧ (decode cX9_isImage 14 = .ok (.ireturn, 1)) := by decide +kernel
theorem dX9_isImage_0 : decode cX9_isImage 0 = .ok (.iload_n 0, 1) := da9_dX9_isImage_0.1
theorem dX9_isImage_1 : decode cX9_isImage 1 = .ok (.ifCond .lt 12, 3) := da9_dX9_isImage_0.2.1
theorem dX9_isImage_4 : decode cX9_isImage 4 = .ok (.iload_n 0, 1) := da9_dX9_isImage_0.2.2.1
theorem dX9_isImage_5 : decode cX9_isImage 5 = .ok (.iconst 2, 1) := da9_dX9_isImage_0.2.2.2.1
theorem dX9_isImage_6 : decode cX9_isImage 6 = .ok (.if_icmp .ge 7, 3) := da9_dX9_isImage_0.2.2.2.2.1
theorem dX9_isImage_9 : decode cX9_isImage 9 = .ok (.iconst 1, 1) := da9_dX9_isImage_0.2.2.2.2.2.1
theorem dX9_isImage_10 : decode cX9_isImage 10 = .ok (.goto 4, 3) := da9_dX9_isImage_0.2.2.2.2.2.2.1
theorem dX9_isImage_13 : decode cX9_isImage 13 = .ok (.iconst 0, 1) := da9_dX9_isImage_0.2.2.2.2.2.2.2.1
theorem dX9_isImage_14 : decode cX9_isImage 14 = .ok (.ireturn, 1) := da9_dX9_isImage_0.2.2.2.2.2.2.2.2
end
section
theorem u9_wsX9_years_X9 : ∀ w ∈ u_ws RX9 TX9 19, w ∈ wsX9_years := fun w h => List.mem_cons_of_mem _ (vW9_wsX90 w h)
theorem u9_wsX9_years_X8 : ∀ w ∈ u_ws RX8 TX8 5, w ∈ wsX9_years := fun w h => List.mem_cons_of_mem _ (vW9_wsX80 w h)
theorem u9_wsX9_years_X6 : ∀ w ∈ u_ws RX6 TX6 10, w ∈ wsX9_years := fun w h => List.mem_cons_of_mem _ (vW9_wsX60 w h)
theorem f9_wsX9_years_937 : (Cond.fieldLink RX9 34 "TurnedFloors" "drawnTower" "LTurnedFloors$Tower;") ∈ wsX9_years := List.mem_cons_of_mem _ mvW9_641
theorem f9_wsX9_years_938 : (Cond.fieldLink RX9 10 "TurnedFloors" "state" "LTurnedFloors$State;") ∈ wsX9_years := List.mem_cons_of_mem _ mvW9_0
theorem f9_wsX9_years_939 : (Cond.fieldLink RX9 50 "TurnedFloors" "judge" "LTurnedFloors$Judge;") ∈ wsX9_years := List.mem_cons_of_mem _ mvW9_45
theorem f9_wsX9_years_940 : (Cond.constant RX9 317 1000000) ∈ wsX9_years := List.mem_cons_of_mem _ mvW9_640
theorem u9_wsX9_drawn_X9 : ∀ w ∈ u_ws RX9 TX9 19, w ∈ wsX9_drawn := fun w h => List.mem_cons_of_mem _ (vW9_wsX90 w h)
theorem f9_wsX9_drawn_942 : (Cond.fieldLink RX9 34 "TurnedFloors" "drawnTower" "LTurnedFloors$Tower;") ∈ wsX9_drawn := List.mem_cons_of_mem _ mvW9_641
set_option maxHeartbeats 4000000 in
set_option maxRecDepth 100000 in
theorem qX1_tips_s20_s15 (l : Launch) (D : va_G) (ty : Nat → ClassId) (eo : Nat → Nat) (sz : Nat) (ad : Nat → Nat) (q : dK) (p2 : Int32) (o1 : Int32) (o2 : dK) (h : zX1_tips_s20_s15 q p2 = some (o1, o2)) : Met l yX1_tips wsX1_tips ({ frames := 3, cells := 0, slots := 0, locals := 81 } : Room) (va_Pc [.ref (ad 20), .ref (ad 15), .int p2] (kz_pre D ty eo (wF ty ad q) sz)) (va_Qi (fun (r : Int32) (u : va_W) => o1 = r ∧ wF ty ad o2 = u) (kz_B D ty (va_A (wF ty ad q) sz)) (va_A (wF ty ad q) sz)) 0 0 (va_A (wF ty ad q) sz) := by
  refine Met.ofW (cc := cX1_tips) (maxL := 3) (ret := (some .boolean)) (by decide) rfl ?_
  intro p e s m args below meth c s₁ B hml hv
  obtain ⟨rfl, hsz, hP, hK, hD0, hN, hE⟩ := hv
  have hx := B.exec
  have hb := B.bytes
  have hr := B.returns
  have hts := atoms_spec (ws := wsX1_tips) B.pre
  have hown : s.vm.findClass RX1 = some m.cls := findClass_of_methodNamed B.named
  have hlocks := B.notSynchronized
  subst hsz
  have hD := hD0.self (sz := s.heap.size)
  generalize hAe : va_A (wF ty ad q) s.heap.size = A at hD hE ⊢
  have hA : ∀ q : Nat, s.heap.size ≤ q → A q := fun q h => by rw [← hAe]; exact Or.inr h
  clear hAe
  have hS : va_S A s.heap s.heap [] := va_S.rf
  have hl := lv_entry ([.ref (ad 20), .ref (ad 15), .int p2]) (n := 3) (Nat.le_of_ble_eq_true rfl)
  rw [lg_entry_eq]
  generalize (lg_sl ([.ref (ad 20), .ref (ad 15), .int p2]) ++ List.replicate (3 - (lg_sl ([.ref (ad 20), .ref (ad 15), .int p2])).length) Slot.unset).toArray = ls at hl ⊢
  have hl : lv_has ls 3 [(0, .ref (ad 20)), (1, .ref (ad 15)), (2, .int p2)] := hl
  have C : dc_C p s m _ meth c cX1_tips (some .boolean) 3 RX1 wsX1_tips D ty eo A := ⟨hx, hb, hr, hts, hown, hlocks, hml, hK, hN, hE, hA⟩
  unfold zX1_tips_s20_s15 at h
  refine lv_aload_n hx hb dX1_tips_0 rfl (lv_at hl 1 rfl) ?_
  refine lv_iload_n hx hb dX1_tips_1 rfl (lv_at hl 2 rfl) ?_
  obtain ⟨r1, q3, h2, h⟩ := dB_some h
  refine dw_ki (va_runV (As := [.int p2]) (rest := []) ⟨hx, hb, hml, hown, hts⟩ (qX8_isFloor_s15 l D ty eo _ ad q p2 r1 q3 h2) (cwV 1 hts gX1_tips_X8_isFloor rfl rfl rfl hd_X8_isFloor_v ⟨Nat.le_of_ble_eq_true rfl, Nat.le_of_ble_eq_true rfl⟩) (pvF_8_15 hK hN hE hP hD hS hA) rfl rfl hl.1 rfl (lv_room (Nat.le_of_ble_eq_true rfl)) dX1_tips_2 ⟨Nat.le_of_ble_eq_true rfl, Nat.le_of_ble_eq_true rfl⟩) hD hS hA (fun r9 u9 H locs hw hp hd hs => ?_)
  clear hP hD hS
  obtain ⟨rfl, rfl⟩ := hw
  have hP := hp; have hD := hd; have hS := hs; clear hp hd hs
  refine lv_if_ne (tgt := 10) hx hb dX1_tips_5 (by decide) (fun c9 => ?_) (fun c9 => ?_)
  · rw [if_neg c9] at h
    refine lv_aload_n hx hb dX1_tips_10 rfl (lv_at hl 0 rfl) ?_
    refine lv_aload_n hx hb dX1_tips_11 rfl (lv_at hl 1 rfl) ?_
    refine va_getN (D := D) (ci := 8) (v := .int (q3.1 15 2)) (C := RX8) (T := TX8) (N := 5) hx hb hts u9_wsX1_tips_X8 hown hK hP 15 rfl rfl 2 (by decide) (hN.use (.fieldLinkNest "TurnedFloors$Judge" 40 "TurnedFloors$Tower" "floors" "I" "TurnedFloors") nn9_9) (fun _ h9 => h9) rfl dX1_tips_12 ?_
    refine lv_aload_n hx hb dX1_tips_15 rfl (lv_at hl 1 rfl) ?_
    refine va_getN (D := D) (ci := 8) (v := .int (q3.1 15 4)) (C := RX8) (T := TX8) (N := 5) hx hb hts u9_wsX1_tips_X8 hown hK hP 15 rfl rfl 4 (by decide) (hN.use (.fieldLinkNest "TurnedFloors$Judge" 44 "TurnedFloors$Tower" "year" "I" "TurnedFloors") nn9_10) (fun _ h9 => h9) rfl dX1_tips_16 ?_
    obtain ⟨q6, h5, h⟩ := dV_some h
    refine dw_kv (va_runV (As := [.int (q3.1 15 2), .int (q3.1 15 4)]) (rest := []) ⟨hx, hb, hml, hown, hts⟩ (qX1_setCommon_s20 l D ty eo _ ad q3 (q3.1 15 2) (q3.1 15 4) q6 h5) (cwV 2 hts gX1_tips_X1_setCommon rfl rfl rfl hd_X1_setCommon_v ⟨Nat.le_of_ble_eq_true rfl, Nat.le_of_ble_eq_true rfl⟩) (pvF_1_20 hK hN hE hP hD hS hA) rfl rfl hl.1 rfl (lv_room (Nat.le_of_ble_eq_true rfl)) dX1_tips_19 ⟨Nat.le_of_ble_eq_true rfl, Nat.le_of_ble_eq_true rfl⟩) hD hS hA (fun u9 H locs hw hp hd hs => ?_)
    clear hP hD hS
    obtain rfl := hw
    have hP := hp; have hD := hd; have hS := hs; clear hp hd hs
    refine lv_aload_n hx hb dX1_tips_22 rfl (lv_at hl 0 rfl) ?_
    refine va_get (D := D) (ci := 1) (v := .ref (ad 21)) (C := RX1) (T := TX1) (N := 3) hx hb hts u9_wsX1_tips_X1 hown hK hP 20 rfl rfl 1 (by decide) (hts (.fieldLink RX1 11 "TurnedFloors$Judge" "words" "[I") f9_wsX1_tips_400) (fun _ h9 => h9) rfl dX1_tips_23 ?_
    refine lv_iconst (v := 0) hx hb dX1_tips_26 (by decide) ?_
    refine lv_iconst (v := (-1)) hx hb dX1_tips_27 (by decide) ?_
    refine va_iast hx hb hK hP hD hS 21 0 rfl rfl (by simp only [vp_in]; decide) dX1_tips_28 (fun H locs hp hd hs => ?_)
    obtain ⟨q7, eq7, h⟩ := dL_some h
    refine kz_re (w2 := wF ty ad q7) hp hd hs (by rw [(by decide +kernel : Int32.toNatClampNeg 0 = 0), ← eq7]; exact wF_a21 ty ad q6 0 (-1)) ?_
    clear hp hd hs hP hD hS
    intro hP hD hS
    refine lv_aload_n hx hb dX1_tips_29 rfl (lv_at hl 0 rfl) ?_
    refine va_get (D := D) (ci := 1) (v := .ref (ad 21)) (C := RX1) (T := TX1) (N := 3) hx hb hts u9_wsX1_tips_X1 hown hK hP 20 rfl rfl 1 (by decide) (hts (.fieldLink RX1 11 "TurnedFloors$Judge" "words" "[I") f9_wsX1_tips_400) (fun _ h9 => h9) rfl dX1_tips_30 ?_
    refine lv_iconst (v := 1) hx hb dX1_tips_33 (by decide) ?_
    refine lv_iconst (v := (-1)) hx hb dX1_tips_34 (by decide) ?_
    refine va_iast hx hb hK hP hD hS 21 0 rfl rfl (by simp only [vp_in]; decide) dX1_tips_35 (fun H locs hp hd hs => ?_)
    obtain ⟨q8, eq8, h⟩ := dL_some h
    refine kz_re (w2 := wF ty ad q8) hp hd hs (by rw [(by decide +kernel : Int32.toNatClampNeg 1 = 1), ← eq8]; exact wF_a21 ty ad q7 1 (-1)) ?_
    clear hp hd hs hP hD hS
    intro hP hD hS
    refine lv_aload_n hx hb dX1_tips_36 rfl (lv_at hl 0 rfl) ?_
    refine va_get (D := D) (ci := 1) (v := .ref (ad 21)) (C := RX1) (T := TX1) (N := 3) hx hb hts u9_wsX1_tips_X1 hown hK hP 20 rfl rfl 1 (by decide) (hts (.fieldLink RX1 11 "TurnedFloors$Judge" "words" "[I") f9_wsX1_tips_400) (fun _ h9 => h9) rfl dX1_tips_37 ?_
    refine lv_iconst (v := 2) hx hb dX1_tips_40 (by decide) ?_
    refine lv_iconst (v := (-1)) hx hb dX1_tips_41 (by decide) ?_
    refine va_iast hx hb hK hP hD hS 21 0 rfl rfl (by simp only [vp_in]; decide) dX1_tips_42 (fun H locs hp hd hs => ?_)
    obtain ⟨q9, eq9, h⟩ := dL_some h
    refine kz_re (w2 := wF ty ad q9) hp hd hs (by rw [(by decide +kernel : Int32.toNatClampNeg 2 = 2), ← eq9]; exact wF_a21 ty ad q8 2 (-1)) ?_
    clear hp hd hs hP hD hS
    intro hP hD hS
    refine lv_aload_n hx hb dX1_tips_43 rfl (lv_at hl 0 rfl) ?_
    refine va_get (D := D) (ci := 1) (v := .ref (ad 21)) (C := RX1) (T := TX1) (N := 3) hx hb hts u9_wsX1_tips_X1 hown hK hP 20 rfl rfl 1 (by decide) (hts (.fieldLink RX1 11 "TurnedFloors$Judge" "words" "[I") f9_wsX1_tips_400) (fun _ h9 => h9) rfl dX1_tips_44 ?_
    refine lv_iconst (v := 3) hx hb dX1_tips_47 (by decide) ?_
    refine lv_aload_n hx hb dX1_tips_48 rfl (lv_at hl 1 rfl) ?_
    refine va_getN (D := D) (ci := 8) (v := .ref (ad 17)) (C := RX8) (T := TX8) (N := 5) hx hb hts u9_wsX1_tips_X8 hown hK hP 15 rfl rfl 1 (by decide) (hN.use (.fieldLinkNest "TurnedFloors$Judge" 51 "TurnedFloors$Tower" "head" "[I" "TurnedFloors") nn9_11) (fun _ h9 => h9) rfl dX1_tips_49 ?_
    refine lv_iload_n hx hb dX1_tips_52 rfl (lv_at hl 2 rfl) ?_
    obtain ⟨g10, h⟩ := dG_some h
    refine va_iald hx hb hK hP 17 0 rfl rfl (dg_in g10) dX1_tips_53 ?_
    obtain ⟨v11, ev11, h⟩ := dL_some h
    refine kz_topi v11 ev11 ?_
    refine va_iast hx hb hK hP hD hS 21 0 rfl rfl (by simp only [vp_in]; decide) dX1_tips_54 (fun H locs hp hd hs => ?_)
    obtain ⟨q12, eq12, h⟩ := dL_some h
    refine kz_re (w2 := wF ty ad q12) hp hd hs (by rw [(by decide +kernel : Int32.toNatClampNeg 3 = 3), ← eq12]; exact wF_a21 ty ad q9 3 v11) ?_
    clear hp hd hs hP hD hS
    intro hP hD hS
    refine lv_aload_n hx hb dX1_tips_55 rfl (lv_at hl 0 rfl) ?_
    refine va_get (D := D) (ci := 1) (v := .ref (ad 21)) (C := RX1) (T := TX1) (N := 3) hx hb hts u9_wsX1_tips_X1 hown hK hP 20 rfl rfl 1 (by decide) (hts (.fieldLink RX1 11 "TurnedFloors$Judge" "words" "[I") f9_wsX1_tips_400) (fun _ h9 => h9) rfl dX1_tips_56 ?_
    refine lv_iconst (v := 5) hx hb dX1_tips_59 (by decide) ?_
    refine lv_aload_n hx hb dX1_tips_60 rfl (lv_at hl 1 rfl) ?_
    refine va_getN (D := D) (ci := 8) (v := .ref (ad 16)) (C := RX8) (T := TX8) (N := 5) hx hb hts u9_wsX1_tips_X8 hown hK hP 15 rfl rfl 0 (by decide) (hN.use (.fieldLinkNest "TurnedFloors$Judge" 54 "TurnedFloors$Tower" "rank" "[I" "TurnedFloors") nn9_12) (fun _ h9 => h9) rfl dX1_tips_61 ?_
    refine lv_iload_n hx hb dX1_tips_64 rfl (lv_at hl 2 rfl) ?_
    obtain ⟨g13, h⟩ := dG_some h
    refine va_iald hx hb hK hP 16 0 rfl rfl (dg_in g13) dX1_tips_65 ?_
    obtain ⟨v14, ev14, h⟩ := dL_some h
    refine kz_topi v14 ev14 ?_
    refine va_iast hx hb hK hP hD hS 21 0 rfl rfl (by simp only [vp_in]; decide) dX1_tips_66 (fun H locs hp hd hs => ?_)
    obtain ⟨q15, eq15, h⟩ := dL_some h
    refine kz_re (w2 := wF ty ad q15) hp hd hs (by rw [(by decide +kernel : Int32.toNatClampNeg 5 = 5), ← eq15]; exact wF_a21 ty ad q12 5 v14) ?_
    clear hp hd hs hP hD hS
    intro hP hD hS
    refine lv_aload_n hx hb dX1_tips_67 rfl (lv_at hl 0 rfl) ?_
    refine va_get (D := D) (ci := 1) (v := .ref (ad 21)) (C := RX1) (T := TX1) (N := 3) hx hb hts u9_wsX1_tips_X1 hown hK hP 20 rfl rfl 1 (by decide) (hts (.fieldLink RX1 11 "TurnedFloors$Judge" "words" "[I") f9_wsX1_tips_400) (fun _ h9 => h9) rfl dX1_tips_68 ?_
    refine lv_bipush (v := 6) hx hb dX1_tips_71 (by decide) ?_
    refine lv_iload_n hx hb dX1_tips_73 rfl (lv_at hl 2 rfl) ?_
    refine va_iast hx hb hK hP hD hS 21 0 rfl rfl (by simp only [vp_in]; decide) dX1_tips_74 (fun H locs hp hd hs => ?_)
    obtain ⟨q16, eq16, h⟩ := dL_some h
    refine kz_re (w2 := wF ty ad q16) hp hd hs (by rw [(by decide +kernel : Int32.toNatClampNeg 6 = 6), ← eq16]; exact wF_a21 ty ad q15 6 p2) ?_
    clear hp hd hs hP hD hS
    intro hP hD hS
    refine lv_aload_n hx hb dX1_tips_75 rfl (lv_at hl 0 rfl) ?_
    refine lv_iconst (v := 2) hx hb dX1_tips_76 (by decide) ?_
    obtain ⟨r17, q19, h18, h⟩ := dB_some h
    refine dw_ki (va_runV (As := [.int 2]) (rest := []) ⟨hx, hb, hml, hown, hts⟩ (qX1_anyHolds_s20 l D ty eo _ ad q16 2 r17 q19 h18) (cwV 1 hts gX1_tips_X1_anyHolds rfl rfl rfl hd_X1_anyHolds_v ⟨Nat.le_of_ble_eq_true rfl, Nat.le_of_ble_eq_true rfl⟩) (pvF_1_20 hK hN hE hP hD hS hA) rfl rfl hl.1 rfl (lv_room (Nat.le_of_ble_eq_true rfl)) dX1_tips_77 ⟨Nat.le_of_ble_eq_true rfl, Nat.le_of_ble_eq_true rfl⟩) hD hS hA (fun r9 u9 H locs hw hp hd hs => ?_)
    clear hP hD hS
    obtain ⟨rfl, rfl⟩ := hw
    have hP := hp; have hD := hd; have hS := hs; clear hp hd hs
    obtain ⟨g20, h⟩ := dG_some h
    cases h
    exact kz_zret hx hb hr hlocks (dbl_nar g20) hP hK hD hS dX1_tips_80 ⟨rfl, rfl⟩
  · rw [if_pos c9] at h
    refine lv_iconst (v := 0) hx hb dX1_tips_8 (by decide) ?_
    cases h
    exact kz_zret hx hb hr hlocks rfl hP hK hD hS dX1_tips_9 ⟨rfl, rfl⟩

set_option maxHeartbeats 4000000 in
set_option maxRecDepth 100000 in
theorem WX8_passYear_s15_s20_47b {p : Program} {l : Launch} {e : Env} {s : State} {m : MethodId} {args : Array Value} {below : List Frame} {meth : Method} {c : Code} {D : va_G} {ty : Nat → ClassId} {eo : Nat → Nat} {A : Nat → Prop} {ad : Nat → Nat} {o1 : Int32} {o2 : dK} (C : dc_C p s m args meth c cX8_passYear (some .int) 4 RX8 wsX8_passYear D ty eo A) {k47 : dK → Int32 → Int32 → Option (Int32 × dK)} (hk47 : ∀ (q : dK) (x2 : Int32) (x3 : Int32) (H : Heap) (locs : List Loc) (ls : Array Slot), k47 q x2 x3 = some (o1, o2) → va_P D vwCl (wF ty ad q) H → va_D A (wF ty ad q) → va_S A s.heap H locs → lv_has ls 4 [(0, .ref (ad 15)), (2, .int x2), (3, .int x3)] → W p l e ({ frames := 4, cells := 0, slots := 0, locals := 103 } : Room) s m args below meth c H locs 0 0 (MQ below (va_Qi (fun (r : Int32) (u : va_W) => o1 = r ∧ wF ty ad o2 = u) (kz_B D ty A) A) args s 0 0 A) (F0 m 47 ls [])) (q : dK) (x2 : Int32) (x3 : Int32) (H : Heap) (locs : List Loc) (ls : Array Slot) (h : zX8_passYear_s15_s20_47b k47 q x2 x3 = some (o1, o2)) (hP : va_P D vwCl (wF ty ad q) H) (hD : va_D A (wF ty ad q)) (hS : va_S A s.heap H locs) (hl : lv_has ls 4 [(0, .ref (ad 15)), (2, .int x2), (3, .int x3)]) : W p l e ({ frames := 4, cells := 0, slots := 0, locals := 103 } : Room) s m args below meth c H locs 0 0 (MQ below (va_Qi (fun (r : Int32) (u : va_W) => o1 = r ∧ wF ty ad o2 = u) (kz_B D ty A) A) args s 0 0 A) (F0 m 47 ls []) := by
  have C0 := C
  obtain ⟨hx, hb, hr, hts, hown, hlocks, hml, hK, hN, hE, hA⟩ := C
  unfold zX8_passYear_s15_s20_47b at h
  refine lv_iload_n hx hb dX8_passYear_47 rfl (lv_at hl 2 rfl) ?_
  refine lv_aload_n hx hb dX8_passYear_48 rfl (lv_at hl 0 rfl) ?_
  refine va_get (D := D) (ci := 8) (v := .int (q.1 15 2)) (C := RX8) (T := TX8) (N := 5) hx hb hts u9_wsX8_passYear_X8 hown hK hP 15 rfl rfl 2 (by decide) (hts (.fieldLink RX8 18 "TurnedFloors$Tower" "floors" "I") f9_wsX8_passYear_643) (fun _ h9 => h9) rfl dX8_passYear_49 ?_
  refine lv_icmp_ge (tgt := 75) hx hb dX8_passYear_52 (by decide) (fun c9 => ?_) (fun c9 => ?_)
  · rw [if_pos c9] at h
    refine lv_aload_n hx hb dX8_passYear_75 rfl (lv_at hl 0 rfl) ?_
    refine lv_dup hx hb dX8_passYear_76 rfl ?_
    refine va_get (D := D) (ci := 8) (v := .int (q.1 15 4)) (C := RX8) (T := TX8) (N := 5) hx hb hts u9_wsX8_passYear_X8 hown hK hP 15 rfl rfl 4 (by decide) (hts (.fieldLink RX8 25 "TurnedFloors$Tower" "year" "I") f9_wsX8_passYear_644) (fun _ h9 => h9) rfl dX8_passYear_77 ?_
    refine lv_iconst (v := 1) hx hb dX8_passYear_80 (by decide) ?_
    refine lv_iadd hx hb dX8_passYear_81 ?_
    refine va_put (D := D) (ci := 8) (v := .int ((q.1 15 4) + 1 : Int32)) (ty := .int) (C := RX8) (T := TX8) (N := 5) hx hb hts u9_wsX8_passYear_X8 tyX8 tyX8_ok nmX8 hown hK hP hD hS 15 rfl rfl 4 (by decide) (hts (.fieldLink RX8 25 "TurnedFloors$Tower" "year" "I") f9_wsX8_passYear_644) (fun _ h9 => h9) rfl (by decide +kernel) rfl rfl (Nat.le_of_ble_eq_true rfl) dX8_passYear_82 (fun H locs hp hd hs => ?_)
    obtain ⟨q1, eq1, h⟩ := dL_some h
    refine kz_re (w2 := wF ty ad q1) hp hd hs (by rw [← eq1]; exact wF_f15_4 ty ad q ((q.1 15 4) + 1 : Int32)) ?_
    clear hp hd hs hP hD hS
    intro hP hD hS
    refine lv_iload_n hx hb dX8_passYear_85 rfl (lv_at hl 1 rfl) ?_
    obtain ⟨r2, h3, h⟩ := dV_some h
    refine dw_ks (va_runS (As := [.int x2]) (rest := []) ⟨hx, hb, hml, hown, hts⟩ (qJ6_bitCount_0f7a4 l D ty eo _ x2 _ h3) (va_cwS 1 hts gX8_passYear_J6_bitCount_0f7a4 rfl rfl rfl hd_J6_bitCount_0f7a4 ⟨Nat.le_of_ble_eq_true rfl, Nat.le_of_ble_eq_true rfl⟩) (pvS_0 hK hN hE hP hD hS hA) rfl rfl hl.1 rfl (lv_room (Nat.le_of_ble_eq_true rfl)) dX8_passYear_86 ⟨Nat.le_of_ble_eq_true rfl, Nat.le_of_ble_eq_true rfl⟩) hP hD hS hA (fun _ _ h9 => h9.2.symm) (fun r9 u9 H locs hw hp hd hs => ?_)
    obtain ⟨rfl, -⟩ := hw
    clear hP hD hS
    have hP := hp; have hD := hd; have hS := hs; clear hp hd hs
    cases h
    exact kz_iret hx hb hr hlocks hP hK hD hS dX8_passYear_89 ⟨rfl, rfl⟩
  · rw [if_neg c9] at h
    refine lv_aload_n hx hb dX8_passYear_55 rfl (lv_at hl 0 rfl) ?_
    refine va_get (D := D) (ci := 8) (v := .ref (ad 17)) (C := RX8) (T := TX8) (N := 5) hx hb hts u9_wsX8_passYear_X8 hown hK hP 15 rfl rfl 1 (by decide) (hts (.fieldLink RX8 15 "TurnedFloors$Tower" "head" "[I") f9_wsX8_passYear_645) (fun _ h9 => h9) rfl dX8_passYear_56 ?_
    refine lv_iload_n hx hb dX8_passYear_59 rfl (lv_at hl 2 rfl) ?_
    refine lv_dup2_11 hx hb dX8_passYear_60 rfl rfl ?_
    obtain ⟨g4, h⟩ := dG_some h
    refine va_iald hx hb hK hP 17 0 rfl rfl (dg_in g4) dX8_passYear_61 ?_
    obtain ⟨v5, ev5, h⟩ := dL_some h
    refine kz_topi v5 ev5 ?_
    refine lv_iload_n hx hb dX8_passYear_62 rfl (lv_at hl 1 rfl) ?_
    refine lv_iload_n hx hb dX8_passYear_63 rfl (lv_at hl 2 rfl) ?_
    refine lv_ishr hx hb dX8_passYear_64 ?_
    refine lv_iconst (v := 1) hx hb dX8_passYear_65 (by decide) ?_
    refine lv_iand hx hb dX8_passYear_66 ?_
    refine lv_ixor hx hb dX8_passYear_67 ?_
    obtain ⟨g6, h⟩ := dG_some h
    refine va_iast hx hb hK hP hD hS 17 0 rfl rfl (dg_in g6) dX8_passYear_68 (fun H locs hp hd hs => ?_)
    obtain ⟨q7, eq7, h⟩ := dL_some h
    refine kz_re (w2 := wF ty ad q7) hp hd hs (by rw [← eq7]; exact wF_a17 ty ad q (Int32.toNatClampNeg x3) (v5 ^^^ ((x2 >>> ((x3 : Int32) &&& 31)) &&& 1 : Int32))) ?_
    clear hp hd hs hP hD hS
    intro hP hD hS
    refine lv_iinc (v := x3 + 1) (lv' := [(3, .int (x3 + 1)), (0, .ref (ad 15)), (2, .int x2)]) hx hb dX8_passYear_69 hl (k := 2) rfl rfl (by decide) rfl (fun ls hl => ?_)
    refine lv_goto (tgt := 47) hx hb dX8_passYear_72 (by decide) ?_
    exact hk47 _ _ _ _ _ _ h hP hD hS (lv_sub hl [1, 2, 0] rfl)
set_option maxHeartbeats 4000000 in
set_option maxRecDepth 100000 in
theorem WX8_passYear_s15_s20_47 {p : Program} {l : Launch} {e : Env} {s : State} {m : MethodId} {args : Array Value} {below : List Frame} {meth : Method} {c : Code} {D : va_G} {ty : Nat → ClassId} {eo : Nat → Nat} {A : Nat → Prop} {ad : Nat → Nat} {o1 : Int32} {o2 : dK} (C : dc_C p s m args meth c cX8_passYear (some .int) 4 RX8 wsX8_passYear D ty eo A)   (n : Nat) (q : dK) (x2 : Int32) (x3 : Int32) (H : Heap) (locs : List Loc) (ls : Array Slot) (h : zX8_passYear_s15_s20_47  n q x2 x3 = some (o1, o2)) (hP : va_P D vwCl (wF ty ad q) H) (hD : va_D A (wF ty ad q)) (hS : va_S A s.heap H locs) (hl : lv_has ls 4 [(0, .ref (ad 15)), (2, .int x2), (3, .int x3)]) : W p l e ({ frames := 4, cells := 0, slots := 0, locals := 103 } : Room) s m args below meth c H locs 0 0 (MQ below (va_Qi (fun (r : Int32) (u : va_W) => o1 = r ∧ wF ty ad o2 = u) (kz_B D ty A) A) args s 0 0 A) (F0 m 47 ls []) := by
  exact dFix_W (F := fun k (a : dK × Int32 × Int32) => zX8_passYear_s15_s20_47b  (fun q x2 x3 => k (q, x2, x3)) a.1 a.2.1 a.2.2) (o := (o1, o2)) (P := fun (a : dK × Int32 × Int32) H locs ls => va_P D vwCl (wF ty ad a.1) H ∧ va_D A (wF ty ad a.1) ∧ va_S A s.heap H locs ∧ lv_has ls 4 [(0, .ref (ad 15)), (2, .int a.2.1), (3, .int a.2.2)]) (G := fun H locs ls => W p l e ({ frames := 4, cells := 0, slots := 0, locals := 103 } : Room) s m args below meth c H locs 0 0 (MQ below (va_Qi (fun (r : Int32) (u : va_W) => o1 = r ∧ wF ty ad o2 = u) (kz_B D ty A) A) args s 0 0 A) (F0 m 47 ls []))
    (fun k hk a H locs ls h hp => WX8_passYear_s15_s20_47b C  (fun q x2 x3 H locs ls h h1 h2 h3 h4 => hk (q, x2, x3) H locs ls h ⟨h1, h2, h3, h4⟩) a.1 a.2.1 a.2.2 H locs ls h hp.1 hp.2.1 hp.2.2.1 hp.2.2.2) n (q, x2, x3) H locs ls h ⟨hP, hD, hS, hl⟩
set_option maxHeartbeats 4000000 in
set_option maxRecDepth 100000 in
theorem WX8_passYear_s15_s20_17b {p : Program} {l : Launch} {e : Env} {s : State} {m : MethodId} {args : Array Value} {below : List Frame} {meth : Method} {c : Code} {D : va_G} {ty : Nat → ClassId} {eo : Nat → Nat} {A : Nat → Prop} {ad : Nat → Nat} {o1 : Int32} {o2 : dK} (C : dc_C p s m args meth c cX8_passYear (some .int) 4 RX8 wsX8_passYear D ty eo A) {k17 : dK → Int32 → Int32 → Option (Int32 × dK)} (hk17 : ∀ (q : dK) (x2 : Int32) (x3 : Int32) (H : Heap) (locs : List Loc) (ls : Array Slot), k17 q x2 x3 = some (o1, o2) → va_P D vwCl (wF ty ad q) H → va_D A (wF ty ad q) → va_S A s.heap H locs → lv_has ls 4 [(0, .ref (ad 15)), (1, .ref (ad 20)), (2, .int x2), (3, .int x3)] → W p l e ({ frames := 4, cells := 0, slots := 0, locals := 103 } : Room) s m args below meth c H locs 0 0 (MQ below (va_Qi (fun (r : Int32) (u : va_W) => o1 = r ∧ wF ty ad o2 = u) (kz_B D ty A) A) args s 0 0 A) (F0 m 17 ls [])) (q : dK) (x2 : Int32) (x3 : Int32) (H : Heap) (locs : List Loc) (ls : Array Slot) (h : zX8_passYear_s15_s20_17b k17 q x2 x3 = some (o1, o2)) (hP : va_P D vwCl (wF ty ad q) H) (hD : va_D A (wF ty ad q)) (hS : va_S A s.heap H locs) (hl : lv_has ls 4 [(0, .ref (ad 15)), (1, .ref (ad 20)), (2, .int x2), (3, .int x3)]) : W p l e ({ frames := 4, cells := 0, slots := 0, locals := 103 } : Room) s m args below meth c H locs 0 0 (MQ below (va_Qi (fun (r : Int32) (u : va_W) => o1 = r ∧ wF ty ad o2 = u) (kz_B D ty A) A) args s 0 0 A) (F0 m 17 ls []) := by
  have C0 := C
  obtain ⟨hx, hb, hr, hts, hown, hlocks, hml, hK, hN, hE, hA⟩ := C
  unfold zX8_passYear_s15_s20_17b at h
  refine lv_iload_n hx hb dX8_passYear_17 rfl (lv_at hl 3 rfl) ?_
  refine lv_aload_n hx hb dX8_passYear_18 rfl (lv_at hl 0 rfl) ?_
  refine va_get (D := D) (ci := 8) (v := .int (q.1 15 2)) (C := RX8) (T := TX8) (N := 5) hx hb hts u9_wsX8_passYear_X8 hown hK hP 15 rfl rfl 2 (by decide) (hts (.fieldLink RX8 18 "TurnedFloors$Tower" "floors" "I") f9_wsX8_passYear_643) (fun _ h9 => h9) rfl dX8_passYear_19 ?_
  refine lv_icmp_ge (tgt := 45) hx hb dX8_passYear_22 (by decide) (fun c9 => ?_) (fun c9 => ?_)
  · rw [if_pos c9] at h
    refine lv_iconst (v := 0) hx hb dX8_passYear_45 (by decide) ?_
    refine lv_istore_n (lv' := [(3, .int 0), (0, .ref (ad 15)), (1, .ref (ad 20)), (2, .int x2)]) hx hb dX8_passYear_46 rfl hl (by decide) rfl (fun ls hl => ?_)
    exact WX8_passYear_s15_s20_47 C0  _ _ _ _ _ _ _ h hP hD hS (lv_sub hl [1, 3, 0] rfl)
  · rw [if_neg c9] at h
    refine lv_iload_n hx hb dX8_passYear_25 rfl (lv_at hl 2 rfl) ?_
    refine lv_aload_n hx hb dX8_passYear_26 rfl (lv_at hl 1 rfl) ?_
    refine lv_aload_n hx hb dX8_passYear_27 rfl (lv_at hl 0 rfl) ?_
    refine lv_iload_n hx hb dX8_passYear_28 rfl (lv_at hl 3 rfl) ?_
    obtain ⟨r1, q3, h2, h⟩ := dB_some h
    refine dw_ki (va_runV (As := [.ref (ad 15), .int x3]) (rest := [.int x2]) ⟨hx, hb, hml, hown, hts⟩ (qX1_tips_s20_s15 l D ty eo _ ad q x3 r1 q3 h2) (cwV 2 hts gX8_passYear_X1_tips rfl rfl rfl hd_X1_tips_v ⟨Nat.le_of_ble_eq_true rfl, Nat.le_of_ble_eq_true rfl⟩) (pvF_1_20 hK hN hE hP hD hS hA) rfl rfl hl.1 rfl (lv_room (Nat.le_of_ble_eq_true rfl)) dX8_passYear_29 ⟨Nat.le_of_ble_eq_true rfl, Nat.le_of_ble_eq_true rfl⟩) hD hS hA (fun r9 u9 H locs hw hp hd hs => ?_)
    clear hP hD hS
    obtain ⟨rfl, rfl⟩ := hw
    have hP := hp; have hD := hd; have hS := hs; clear hp hd hs
    obtain ⟨r4, h5, h⟩ := dV_some h
    refine dw_ks (va_runSN (As := [.int r1]) (rest := [.int x2]) ⟨hx, hb, hml, hown, hts⟩ (qX9_bit l D ty eo _ r1 _ h5) ⟨va_cnB 1 hts gX8_passYear_X9_bit_n79 rfl rfl rfl (hN.1 _ (by decide +kernel : (.methodLinkNest "TurnedFloors$Tower" 79 yX9_bit "TurnedFloors" : Cond) ∈ kzN1)) (hts (.initialized RX9) f9_wsX8_passYear_646) (by decide +kernel) ⟨Nat.le_of_ble_eq_true rfl, Nat.le_of_ble_eq_true rfl⟩, hts (.static yX9_bit) (by decide +kernel), trivial⟩ (pvS_0 hK hN hE hP hD hS hA) rfl rfl hl.1 rfl (lv_room (Nat.le_of_ble_eq_true rfl)) dX8_passYear_32 ⟨Nat.le_of_ble_eq_true rfl, Nat.le_of_ble_eq_true rfl⟩) hP hD hS hA (fun _ _ h9 => h9.2.symm) (fun r9 u9 H locs hw hp hd hs => ?_)
    obtain ⟨rfl, -⟩ := hw
    clear hP hD hS
    have hP := hp; have hD := hd; have hS := hs; clear hp hd hs
    refine lv_iload_n hx hb dX8_passYear_35 rfl (lv_at hl 3 rfl) ?_
    refine lv_ishl hx hb dX8_passYear_36 ?_
    refine lv_ior hx hb dX8_passYear_37 ?_
    refine lv_istore_n (lv' := [(2, .int (x2 ||| (r4 <<< ((x3 : Int32) &&& 31)))), (0, .ref (ad 15)), (1, .ref (ad 20)), (3, .int x3)]) hx hb dX8_passYear_38 rfl hl (by decide) rfl (fun ls hl => ?_)
    refine lv_iinc (v := x3 + 1) (lv' := [(3, .int (x3 + 1)), (2, .int (x2 ||| (r4 <<< ((x3 : Int32) &&& 31)))), (0, .ref (ad 15)), (1, .ref (ad 20))]) hx hb dX8_passYear_39 hl (k := 3) rfl rfl (by decide) rfl (fun ls hl => ?_)
    refine lv_goto (tgt := 17) hx hb dX8_passYear_42 (by decide) ?_
    exact hk17 _ _ _ _ _ _ h hP hD hS (lv_sub hl [2, 3, 1, 0] rfl)
set_option maxHeartbeats 4000000 in
set_option maxRecDepth 100000 in
theorem WX8_passYear_s15_s20_17 {p : Program} {l : Launch} {e : Env} {s : State} {m : MethodId} {args : Array Value} {below : List Frame} {meth : Method} {c : Code} {D : va_G} {ty : Nat → ClassId} {eo : Nat → Nat} {A : Nat → Prop} {ad : Nat → Nat} {o1 : Int32} {o2 : dK} (C : dc_C p s m args meth c cX8_passYear (some .int) 4 RX8 wsX8_passYear D ty eo A)   (n : Nat) (q : dK) (x2 : Int32) (x3 : Int32) (H : Heap) (locs : List Loc) (ls : Array Slot) (h : zX8_passYear_s15_s20_17  n q x2 x3 = some (o1, o2)) (hP : va_P D vwCl (wF ty ad q) H) (hD : va_D A (wF ty ad q)) (hS : va_S A s.heap H locs) (hl : lv_has ls 4 [(0, .ref (ad 15)), (1, .ref (ad 20)), (2, .int x2), (3, .int x3)]) : W p l e ({ frames := 4, cells := 0, slots := 0, locals := 103 } : Room) s m args below meth c H locs 0 0 (MQ below (va_Qi (fun (r : Int32) (u : va_W) => o1 = r ∧ wF ty ad o2 = u) (kz_B D ty A) A) args s 0 0 A) (F0 m 17 ls []) := by
  exact dFix_W (F := fun k (a : dK × Int32 × Int32) => zX8_passYear_s15_s20_17b  (fun q x2 x3 => k (q, x2, x3)) a.1 a.2.1 a.2.2) (o := (o1, o2)) (P := fun (a : dK × Int32 × Int32) H locs ls => va_P D vwCl (wF ty ad a.1) H ∧ va_D A (wF ty ad a.1) ∧ va_S A s.heap H locs ∧ lv_has ls 4 [(0, .ref (ad 15)), (1, .ref (ad 20)), (2, .int a.2.1), (3, .int a.2.2)]) (G := fun H locs ls => W p l e ({ frames := 4, cells := 0, slots := 0, locals := 103 } : Room) s m args below meth c H locs 0 0 (MQ below (va_Qi (fun (r : Int32) (u : va_W) => o1 = r ∧ wF ty ad o2 = u) (kz_B D ty A) A) args s 0 0 A) (F0 m 17 ls []))
    (fun k hk a H locs ls h hp => WX8_passYear_s15_s20_17b C  (fun q x2 x3 H locs ls h h1 h2 h3 h4 => hk (q, x2, x3) H locs ls h ⟨h1, h2, h3, h4⟩) a.1 a.2.1 a.2.2 H locs ls h hp.1 hp.2.1 hp.2.2.1 hp.2.2.2) n (q, x2, x3) H locs ls h ⟨hP, hD, hS, hl⟩
set_option maxHeartbeats 4000000 in
set_option maxRecDepth 100000 in
theorem qX8_passYear_s15_s20 (l : Launch) (D : va_G) (ty : Nat → ClassId) (eo : Nat → Nat) (sz : Nat) (ad : Nat → Nat) (q : dK)  (o1 : Int32) (o2 : dK) (h : zX8_passYear_s15_s20 q = some (o1, o2)) : Met l yX8_passYear wsX8_passYear ({ frames := 4, cells := 0, slots := 0, locals := 103 } : Room) (va_Pc [.ref (ad 15), .ref (ad 20)] (kz_pre D ty eo (wF ty ad q) sz)) (va_Qi (fun (r : Int32) (u : va_W) => o1 = r ∧ wF ty ad o2 = u) (kz_B D ty (va_A (wF ty ad q) sz)) (va_A (wF ty ad q) sz)) 0 0 (va_A (wF ty ad q) sz) := by
  refine Met.ofW (cc := cX8_passYear) (maxL := 4) (ret := (some .int)) (by decide) rfl ?_
  intro p e s m args below meth c s₁ B hml hv
  obtain ⟨rfl, hsz, hP, hK, hD0, hN, hE⟩ := hv
  have hx := B.exec
  have hb := B.bytes
  have hr := B.returns
  have hts := atoms_spec (ws := wsX8_passYear) B.pre
  have hown : s.vm.findClass RX8 = some m.cls := findClass_of_methodNamed B.named
  have hlocks := B.notSynchronized
  subst hsz
  have hD := hD0.self (sz := s.heap.size)
  generalize hAe : va_A (wF ty ad q) s.heap.size = A at hD hE ⊢
  have hA : ∀ q : Nat, s.heap.size ≤ q → A q := fun q h => by rw [← hAe]; exact Or.inr h
  clear hAe
  have hS : va_S A s.heap s.heap [] := va_S.rf
  have hl := lv_entry ([.ref (ad 15), .ref (ad 20)]) (n := 4) (Nat.le_of_ble_eq_true rfl)
  rw [lg_entry_eq]
  generalize (lg_sl ([.ref (ad 15), .ref (ad 20)]) ++ List.replicate (4 - (lg_sl ([.ref (ad 15), .ref (ad 20)])).length) Slot.unset).toArray = ls at hl ⊢
  have hl : lv_has ls 4 [(0, .ref (ad 15)), (1, .ref (ad 20))] := hl
  have C : dc_C p s m _ meth c cX8_passYear (some .int) 4 RX8 wsX8_passYear D ty eo A := ⟨hx, hb, hr, hts, hown, hlocks, hml, hK, hN, hE, hA⟩
  unfold zX8_passYear_s15_s20 at h
  refine lv_aload_n hx hb dX8_passYear_0 rfl (lv_at hl 0 rfl) ?_
  refine va_get (D := D) (ci := 8) (v := .int (q.1 15 4)) (C := RX8) (T := TX8) (N := 5) hx hb hts u9_wsX8_passYear_X8 hown hK hP 15 rfl rfl 4 (by decide) (hts (.fieldLink RX8 25 "TurnedFloors$Tower" "year" "I") f9_wsX8_passYear_644) (fun _ h9 => h9) rfl dX8_passYear_1 ?_
  refine lv_sipush (v := 999) hx hb dX8_passYear_4 (by decide) ?_
  refine lv_icmp_lt (tgt := 13) hx hb dX8_passYear_7 (by decide) (fun c9 => ?_) (fun c9 => ?_)
  · rw [if_pos c9] at h
    refine lv_iconst (v := 0) hx hb dX8_passYear_13 (by decide) ?_
    refine lv_istore_n (lv' := [(2, .int 0), (0, .ref (ad 15)), (1, .ref (ad 20))]) hx hb dX8_passYear_14 rfl hl (by decide) rfl (fun ls hl => ?_)
    refine lv_iconst (v := 0) hx hb dX8_passYear_15 (by decide) ?_
    refine lv_istore_n (lv' := [(3, .int 0), (2, .int 0), (0, .ref (ad 15)), (1, .ref (ad 20))]) hx hb dX8_passYear_16 rfl hl (by decide) rfl (fun ls hl => ?_)
    exact WX8_passYear_s15_s20_17 C  _ _ _ _ _ _ _ h hP hD hS (lv_sub hl [2, 3, 1, 0] rfl)
  · rw [if_neg c9] at h
    refine lv_bipush (v := (-3)) hx hb dX8_passYear_10 (by decide) ?_
    cases h
    exact kz_iret hx hb hr hlocks hP hK hD hS dX8_passYear_12 ⟨rfl, rfl⟩

set_option maxHeartbeats 4000000 in
set_option maxRecDepth 100000 in
theorem qX8_act_s15_s20 (l : Launch) (D : va_G) (ty : Nat → ClassId) (eo : Nat → Nat) (sz : Nat) (ad : Nat → Nat) (q : dK) (p1 : Int32) (p2 : Int32) (o1 : Int32) (o2 : dK) (h : zX8_act_s15_s20 q p1 p2 = some (o1, o2)) : Met l yX8_act wsX8_act ({ frames := 5, cells := 0, slots := 0, locals := 128 } : Room) (va_Pc [.ref (ad 15), .int p1, .int p2, .ref (ad 20)] (kz_pre D ty eo (wF ty ad q) sz)) (va_Qi (fun (r : Int32) (u : va_W) => o1 = r ∧ wF ty ad o2 = u) (kz_B D ty (va_A (wF ty ad q) sz)) (va_A (wF ty ad q) sz)) 0 0 (va_A (wF ty ad q) sz) := by
  refine Met.ofW (cc := cX8_act) (maxL := 4) (ret := (some .int)) (by decide) rfl ?_
  intro p e s m args below meth c s₁ B hml hv
  obtain ⟨rfl, hsz, hP, hK, hD0, hN, hE⟩ := hv
  have hx := B.exec
  have hb := B.bytes
  have hr := B.returns
  have hts := atoms_spec (ws := wsX8_act) B.pre
  have hown : s.vm.findClass RX8 = some m.cls := findClass_of_methodNamed B.named
  have hlocks := B.notSynchronized
  subst hsz
  have hD := hD0.self (sz := s.heap.size)
  generalize hAe : va_A (wF ty ad q) s.heap.size = A at hD hE ⊢
  have hA : ∀ q : Nat, s.heap.size ≤ q → A q := fun q h => by rw [← hAe]; exact Or.inr h
  clear hAe
  have hS : va_S A s.heap s.heap [] := va_S.rf
  have hl := lv_entry ([.ref (ad 15), .int p1, .int p2, .ref (ad 20)]) (n := 4) (Nat.le_of_ble_eq_true rfl)
  rw [lg_entry_eq]
  generalize (lg_sl ([.ref (ad 15), .int p1, .int p2, .ref (ad 20)]) ++ List.replicate (4 - (lg_sl ([.ref (ad 15), .int p1, .int p2, .ref (ad 20)])).length) Slot.unset).toArray = ls at hl ⊢
  have hl : lv_has ls 4 [(0, .ref (ad 15)), (1, .int p1), (2, .int p2), (3, .ref (ad 20))] := hl
  have C : dc_C p s m _ meth c cX8_act (some .int) 4 RX8 wsX8_act D ty eo A := ⟨hx, hb, hr, hts, hown, hlocks, hml, hK, hN, hE, hA⟩
  unfold zX8_act_s15_s20 at h
  refine lv_iload_n hx hb dX8_act_0 rfl (lv_at hl 1 rfl) ?_
  by_cases c1 : p1 = 0
  · rw [if_pos c1] at h
    refine lv_tableIn (off := 31) (tgt := 32) hx hb dX8_act_1 (by rw [c1]; decide) (by rw [c1]; decide) (by rw [c1]; decide) (by decide) ?_
    refine lv_aload_n hx hb dX8_act_32 rfl (lv_at hl 0 rfl) ?_
    refine lv_iload_n hx hb dX8_act_33 rfl (lv_at hl 2 rfl) ?_
    refine lv_aload_n hx hb dX8_act_34 rfl (lv_at hl 3 rfl) ?_
    obtain ⟨r2, q4, h3, h⟩ := dB_some h
    refine dw_ki (va_runV (As := [.int p2, .ref (ad 20)]) (rest := []) ⟨hx, hb, hml, hown, hts⟩ (qX8_turnTop_s15_s20 l D ty eo _ ad q p2 r2 q4 h3) (cwV 2 hts gX8_act_X8_turnTop rfl rfl rfl hd_X8_turnTop_v ⟨Nat.le_of_ble_eq_true rfl, Nat.le_of_ble_eq_true rfl⟩) (pvF_8_15 hK hN hE hP hD hS hA) rfl rfl hl.1 rfl (lv_room (Nat.le_of_ble_eq_true rfl)) dX8_act_35 ⟨Nat.le_of_ble_eq_true rfl, Nat.le_of_ble_eq_true rfl⟩) hD hS hA (fun r9 u9 H locs hw hp hd hs => ?_)
    clear hP hD hS
    obtain ⟨rfl, rfl⟩ := hw
    have hP := hp; have hD := hd; have hS := hs; clear hp hd hs
    cases h
    exact kz_iret hx hb hr hlocks hP hK hD hS dX8_act_38 ⟨rfl, rfl⟩
  rw [if_neg c1] at h
  by_cases c5 : p1 = 1
  · rw [if_pos c5] at h
    refine lv_tableIn (off := 38) (tgt := 39) hx hb dX8_act_1 (by rw [c5]; decide) (by rw [c5]; decide) (by rw [c5]; decide) (by decide) ?_
    refine lv_aload_n hx hb dX8_act_39 rfl (lv_at hl 0 rfl) ?_
    refine lv_iload_n hx hb dX8_act_40 rfl (lv_at hl 2 rfl) ?_
    obtain ⟨r6, q8, h7, h⟩ := dB_some h
    refine dw_ki (va_runV (As := [.int p2]) (rest := []) ⟨hx, hb, hml, hown, hts⟩ (qX8_rightAt_s15 l D ty eo _ ad q p2 r6 q8 h7) (cwV 1 hts gX8_act_X8_rightAt rfl rfl rfl hd_X8_rightAt_v ⟨Nat.le_of_ble_eq_true rfl, Nat.le_of_ble_eq_true rfl⟩) (pvF_8_15 hK hN hE hP hD hS hA) rfl rfl hl.1 rfl (lv_room (Nat.le_of_ble_eq_true rfl)) dX8_act_41 ⟨Nat.le_of_ble_eq_true rfl, Nat.le_of_ble_eq_true rfl⟩) hD hS hA (fun r9 u9 H locs hw hp hd hs => ?_)
    clear hP hD hS
    obtain ⟨rfl, rfl⟩ := hw
    have hP := hp; have hD := hd; have hS := hs; clear hp hd hs
    cases h
    exact kz_iret hx hb hr hlocks hP hK hD hS dX8_act_44 ⟨rfl, rfl⟩
  rw [if_neg c5] at h
  by_cases c9 : p1 = 2
  · rw [if_pos c9] at h
    refine lv_tableIn (off := 44) (tgt := 45) hx hb dX8_act_1 (by rw [c9]; decide) (by rw [c9]; decide) (by rw [c9]; decide) (by decide) ?_
    refine lv_aload_n hx hb dX8_act_45 rfl (lv_at hl 0 rfl) ?_
    refine lv_iload_n hx hb dX8_act_46 rfl (lv_at hl 2 rfl) ?_
    obtain ⟨r10, q12, h11, h⟩ := dB_some h
    refine dw_ki (va_runV (As := [.int p2]) (rest := []) ⟨hx, hb, hml, hown, hts⟩ (qX8_swapAt_s15 l D ty eo _ ad q p2 r10 q12 h11) (cwV 1 hts gX8_act_X8_swapAt rfl rfl rfl hd_X8_swapAt_v ⟨Nat.le_of_ble_eq_true rfl, Nat.le_of_ble_eq_true rfl⟩) (pvF_8_15 hK hN hE hP hD hS hA) rfl rfl hl.1 rfl (lv_room (Nat.le_of_ble_eq_true rfl)) dX8_act_47 ⟨Nat.le_of_ble_eq_true rfl, Nat.le_of_ble_eq_true rfl⟩) hD hS hA (fun r9 u9 H locs hw hp hd hs => ?_)
    clear hP hD hS
    obtain ⟨rfl, rfl⟩ := hw
    have hP := hp; have hD := hd; have hS := hs; clear hp hd hs
    cases h
    exact kz_iret hx hb hr hlocks hP hK hD hS dX8_act_50 ⟨rfl, rfl⟩
  rw [if_neg c9] at h
  by_cases c13 : p1 = 3
  · rw [if_pos c13] at h
    refine lv_tableIn (off := 50) (tgt := 51) hx hb dX8_act_1 (by rw [c13]; decide) (by rw [c13]; decide) (by rw [c13]; decide) (by decide) ?_
    refine lv_aload_n hx hb dX8_act_51 rfl (lv_at hl 0 rfl) ?_
    refine lv_aload_n hx hb dX8_act_52 rfl (lv_at hl 3 rfl) ?_
    obtain ⟨r14, q16, h15, h⟩ := dB_some h
    refine dw_ki (va_runV (As := [.ref (ad 20)]) (rest := []) ⟨hx, hb, hml, hown, hts⟩ (qX8_passYear_s15_s20 l D ty eo _ ad q  r14 q16 h15) (cwV 1 hts gX8_act_X8_passYear rfl rfl rfl hd_X8_passYear_v ⟨Nat.le_of_ble_eq_true rfl, Nat.le_of_ble_eq_true rfl⟩) (pvF_8_15 hK hN hE hP hD hS hA) rfl rfl hl.1 rfl (lv_room (Nat.le_of_ble_eq_true rfl)) dX8_act_53 ⟨Nat.le_of_ble_eq_true rfl, Nat.le_of_ble_eq_true rfl⟩) hD hS hA (fun r9 u9 H locs hw hp hd hs => ?_)
    clear hP hD hS
    obtain ⟨rfl, rfl⟩ := hw
    have hP := hp; have hD := hd; have hS := hs; clear hp hd hs
    cases h
    exact kz_iret hx hb hr hlocks hP hK hD hS dX8_act_56 ⟨rfl, rfl⟩
  rw [if_neg c13] at h
  refine lv_tableOut (tgt := 57) hx hb dX8_act_1 (by simp only [← Int32.toInt_inj, Int32.reduceToInt] at c1 c5 c9 c13; omega) (by decide) ?_
  refine lv_bipush (v := (-3)) hx hb dX8_act_57 (by decide) ?_
  cases h
  exact kz_iret hx hb hr hlocks hP hK hD hS dX8_act_59 ⟨rfl, rfl⟩

set_option maxHeartbeats 4000000 in
set_option maxRecDepth 100000 in
theorem WX9_years_s0_172 {p : Program} {l : Launch} {e : Env} {s : State} {m : MethodId} {args : Array Value} {below : List Frame} {meth : Method} {c : Code} {D : va_G} {ty : Nat → ClassId} {eo : Nat → Nat} {A : Nat → Prop} {ad : Nat → Nat} {o1 : Int32} {o2 : dK} (C : dc_C p s m args meth c cX9_years (some .int) 6 RX9 wsX9_years D ty eo A)   (q : dK)  (H : Heap) (locs : List Loc) (ls : Array Slot) (h : zX9_years_s0_172  q = some (o1, o2)) (hP : va_P D vwCl (wF ty ad q) H) (hD : va_D A (wF ty ad q)) (hS : va_S A s.heap H locs) (hl : lv_has ls 6 [(0, .ref (ad 0))]) : W p l e ({ frames := 6, cells := 0, slots := 0, locals := 151 } : Room) s m args below meth c H locs 0 0 (MQ below (va_Qi (fun (r : Int32) (u : va_W) => o1 = r ∧ wF ty ad o2 = u) (kz_B D ty A) A) args s 0 0 A) (F0 m 172 ls []) := by
  have C0 := C
  obtain ⟨hx, hb, hr, hts, hown, hlocks, hml, hK, hN, hE, hA⟩ := C
  unfold zX9_years_s0_172 at h
  refine lv_aload_n hx hb dX9_years_172 rfl (lv_at hl 0 rfl) ?_
  refine lv_aload_n hx hb dX9_years_173 rfl (lv_at hl 0 rfl) ?_
  refine va_get (D := D) (ci := 9) (v := .ref (ad 15)) (C := RX9) (T := TX9) (N := 19) hx hb hts u9_wsX9_years_X9 hown hK hP 0 rfl rfl 4 (by decide) (hts (.fieldLink RX9 34 "TurnedFloors" "drawnTower" "LTurnedFloors$Tower;") f9_wsX9_years_937) (fun _ h9 => h9) rfl dX9_years_174 ?_
  refine va_getN (D := D) (ci := 8) (v := .int (q.1 15 3)) (C := RX8) (T := TX8) (N := 5) hx hb hts u9_wsX9_years_X8 hown hK hP 15 rfl rfl 3 (by decide) (hN.use (.fieldLinkNest "TurnedFloors" 329 "TurnedFloors$Tower" "paid" "I" "TurnedFloors") nn9_42) (fun _ h9 => h9) rfl dX9_years_177 ?_
  refine lv_aload_n hx hb dX9_years_180 rfl (lv_at hl 0 rfl) ?_
  refine va_get (D := D) (ci := 9) (v := .ref (ad 1)) (C := RX9) (T := TX9) (N := 19) hx hb hts u9_wsX9_years_X9 hown hK hP 0 rfl rfl 0 (by decide) (hts (.fieldLink RX9 10 "TurnedFloors" "state" "LTurnedFloors$State;") f9_wsX9_years_938) (fun _ h9 => h9) rfl dX9_years_181 ?_
  refine va_getN (D := D) (ci := 6) (v := .ref (ad 2)) (C := RX6) (T := TX6) (N := 10) hx hb hts u9_wsX9_years_X6 hown hK hP 1 rfl rfl 0 (by decide) (hN.use (.fieldLinkNest "TurnedFloors" 122 "TurnedFloors$State" "tower" "LTurnedFloors$Tower;" "TurnedFloors") nn9_0) (fun _ h9 => h9) rfl dX9_years_184 ?_
  refine va_getN (D := D) (ci := 8) (v := .int (q.1 2 3)) (C := RX8) (T := TX8) (N := 5) hx hb hts u9_wsX9_years_X8 hown hK hP 2 rfl rfl 3 (by decide) (hN.use (.fieldLinkNest "TurnedFloors" 329 "TurnedFloors$Tower" "paid" "I" "TurnedFloors") nn9_42) (fun _ h9 => h9) rfl dX9_years_187 ?_
  refine lv_isub hx hb dX9_years_190 ?_
  obtain ⟨r1, q3, h2, h⟩ := dB_some h
  refine dw_ki (va_runV (As := [.int ((q.1 15 3) - (q.1 2 3))]) (rest := []) ⟨hx, hb, hml, hown, hts⟩ (qX9_accept_s0 l D ty eo _ ad q ((q.1 15 3) - (q.1 2 3)) r1 q3 h2) (cwV 1 hts gX9_years_X9_accept rfl rfl rfl hd_X9_accept_v ⟨Nat.le_of_ble_eq_true rfl, Nat.le_of_ble_eq_true rfl⟩) (pvF_9_0 hK hN hE hP hD hS hA) rfl rfl hl.1 rfl (lv_room (Nat.le_of_ble_eq_true rfl)) dX9_years_191 ⟨Nat.le_of_ble_eq_true rfl, Nat.le_of_ble_eq_true rfl⟩) hD hS hA (fun r9 u9 H locs hw hp hd hs => ?_)
  clear hP hD hS
  obtain ⟨rfl, rfl⟩ := hw
  have hP := hp; have hD := hd; have hS := hs; clear hp hd hs
  cases h
  exact kz_iret hx hb hr hlocks hP hK hD hS dX9_years_194 ⟨rfl, rfl⟩
set_option maxHeartbeats 4000000 in
set_option maxRecDepth 100000 in
theorem WX9_years_s0_152 {p : Program} {l : Launch} {e : Env} {s : State} {m : MethodId} {args : Array Value} {below : List Frame} {meth : Method} {c : Code} {D : va_G} {ty : Nat → ClassId} {eo : Nat → Nat} {A : Nat → Prop} {ad : Nat → Nat} {o1 : Int32} {o2 : dK} (C : dc_C p s m args meth c cX9_years (some .int) 6 RX9 wsX9_years D ty eo A) {k75 : dK → Int32 → Int32 → Int32 → Option (Int32 × dK)} (hk75 : ∀ (q : dK) (x2 : Int32) (x3 : Int32) (x4 : Int32) (H : Heap) (locs : List Loc) (ls : Array Slot), k75 q x2 x3 x4 = some (o1, o2) → va_P D vwCl (wF ty ad q) H → va_D A (wF ty ad q) → va_S A s.heap H locs → lv_has ls 6 [(0, .ref (ad 0)), (2, .int x2), (3, .int x3), (4, .int x4)] → W p l e ({ frames := 6, cells := 0, slots := 0, locals := 151 } : Room) s m args below meth c H locs 0 0 (MQ below (va_Qi (fun (r : Int32) (u : va_W) => o1 = r ∧ wF ty ad o2 = u) (kz_B D ty A) A) args s 0 0 A) (F0 m 75 ls [])) (q : dK) (x2 : Int32) (x3 : Int32) (x4 : Int32) (H : Heap) (locs : List Loc) (ls : Array Slot) (h : zX9_years_s0_152 k75 q x2 x3 x4 = some (o1, o2)) (hP : va_P D vwCl (wF ty ad q) H) (hD : va_D A (wF ty ad q)) (hS : va_S A s.heap H locs) (hl : lv_has ls 6 [(0, .ref (ad 0)), (2, .int x2), (3, .int x3), (4, .int x4)]) : W p l e ({ frames := 6, cells := 0, slots := 0, locals := 151 } : Room) s m args below meth c H locs 0 0 (MQ below (va_Qi (fun (r : Int32) (u : va_W) => o1 = r ∧ wF ty ad o2 = u) (kz_B D ty A) A) args s 0 0 A) (F0 m 152 ls []) := by
  have C0 := C
  obtain ⟨hx, hb, hr, hts, hown, hlocks, hml, hK, hN, hE, hA⟩ := C
  unfold zX9_years_s0_152 at h
  refine lv_aload_n hx hb dX9_years_152 rfl (lv_at hl 0 rfl) ?_
  refine va_get (D := D) (ci := 9) (v := .ref (ad 15)) (C := RX9) (T := TX9) (N := 19) hx hb hts u9_wsX9_years_X9 hown hK hP 0 rfl rfl 4 (by decide) (hts (.fieldLink RX9 34 "TurnedFloors" "drawnTower" "LTurnedFloors$Tower;") f9_wsX9_years_937) (fun _ h9 => h9) rfl dX9_years_153 ?_
  refine lv_iconst (v := 3) hx hb dX9_years_156 (by decide) ?_
  refine lv_iconst (v := 0) hx hb dX9_years_157 (by decide) ?_
  refine lv_aload_n hx hb dX9_years_158 rfl (lv_at hl 0 rfl) ?_
  refine va_get (D := D) (ci := 9) (v := .ref (ad 20)) (C := RX9) (T := TX9) (N := 19) hx hb hts u9_wsX9_years_X9 hown hK hP 0 rfl rfl 6 (by decide) (hts (.fieldLink RX9 50 "TurnedFloors" "judge" "LTurnedFloors$Judge;") f9_wsX9_years_939) (fun _ h9 => h9) rfl dX9_years_159 ?_
  obtain ⟨r1, q3, h2, h⟩ := dB_some h
  refine dw_ki (va_runV (As := [.int 3, .int 0, .ref (ad 20)]) (rest := []) ⟨hx, hb, hml, hown, hts⟩ (qX8_act_s15_s20 l D ty eo _ ad q 3 0 r1 q3 h2) (cwV 3 hts gX9_years_X8_act rfl rfl rfl hd_X8_act_v ⟨Nat.le_of_ble_eq_true rfl, Nat.le_of_ble_eq_true rfl⟩) (pvF_8_15 hK hN hE hP hD hS hA) rfl rfl hl.1 rfl (lv_room (Nat.le_of_ble_eq_true rfl)) dX9_years_162 ⟨Nat.le_of_ble_eq_true rfl, Nat.le_of_ble_eq_true rfl⟩) hD hS hA (fun r9 u9 H locs hw hp hd hs => ?_)
  clear hP hD hS
  obtain ⟨rfl, rfl⟩ := hw
  have hP := hp; have hD := hd; have hS := hs; clear hp hd hs
  refine lv_pop hx hb dX9_years_165 rfl ?_
  refine lv_iinc (v := x4 + 1) (lv' := [(4, .int (x4 + 1)), (0, .ref (ad 0)), (2, .int x2), (3, .int x3)]) hx hb dX9_years_166 hl (k := 3) rfl rfl (by decide) rfl (fun ls hl => ?_)
  refine lv_goto (tgt := 75) hx hb dX9_years_169 (by decide) ?_
  exact hk75 _ _ _ _ _ _ _ h hP hD hS (lv_sub hl [1, 2, 3, 0] rfl)
set_option maxHeartbeats 4000000 in
set_option maxRecDepth 100000 in
theorem WX9_years_s0_75b {p : Program} {l : Launch} {e : Env} {s : State} {m : MethodId} {args : Array Value} {below : List Frame} {meth : Method} {c : Code} {D : va_G} {ty : Nat → ClassId} {eo : Nat → Nat} {A : Nat → Prop} {ad : Nat → Nat} {o1 : Int32} {o2 : dK} (C : dc_C p s m args meth c cX9_years (some .int) 6 RX9 wsX9_years D ty eo A) {k75 : dK → Int32 → Int32 → Int32 → Option (Int32 × dK)} (hk75 : ∀ (q : dK) (x2 : Int32) (x3 : Int32) (x4 : Int32) (H : Heap) (locs : List Loc) (ls : Array Slot), k75 q x2 x3 x4 = some (o1, o2) → va_P D vwCl (wF ty ad q) H → va_D A (wF ty ad q) → va_S A s.heap H locs → lv_has ls 6 [(0, .ref (ad 0)), (2, .int x2), (3, .int x3), (4, .int x4)] → W p l e ({ frames := 6, cells := 0, slots := 0, locals := 151 } : Room) s m args below meth c H locs 0 0 (MQ below (va_Qi (fun (r : Int32) (u : va_W) => o1 = r ∧ wF ty ad o2 = u) (kz_B D ty A) A) args s 0 0 A) (F0 m 75 ls [])) (q : dK) (x2 : Int32) (x3 : Int32) (x4 : Int32) (H : Heap) (locs : List Loc) (ls : Array Slot) (h : zX9_years_s0_75b k75 q x2 x3 x4 = some (o1, o2)) (hP : va_P D vwCl (wF ty ad q) H) (hD : va_D A (wF ty ad q)) (hS : va_S A s.heap H locs) (hl : lv_has ls 6 [(0, .ref (ad 0)), (2, .int x2), (3, .int x3), (4, .int x4)]) : W p l e ({ frames := 6, cells := 0, slots := 0, locals := 151 } : Room) s m args below meth c H locs 0 0 (MQ below (va_Qi (fun (r : Int32) (u : va_W) => o1 = r ∧ wF ty ad o2 = u) (kz_B D ty A) A) args s 0 0 A) (F0 m 75 ls []) := by
  have C0 := C
  obtain ⟨hx, hb, hr, hts, hown, hlocks, hml, hK, hN, hE, hA⟩ := C
  unfold zX9_years_s0_75b at h
  refine lv_iload hx hb dX9_years_75 (lv_at hl 3 rfl) ?_
  refine lv_iload_n hx hb dX9_years_77 rfl (lv_at hl 1 rfl) ?_
  refine lv_icmp_ge (tgt := 172) hx hb dX9_years_78 (by decide) (fun c9 => ?_) (fun c9 => ?_)
  · rw [if_pos c9] at h
    exact WX9_years_s0_172 C0  _ _ _ _ h hP hD hS (lv_sub hl [0] rfl)
  · rw [if_neg c9] at h
    refine lv_aload_n hx hb dX9_years_81 rfl (lv_at hl 0 rfl) ?_
    refine va_get (D := D) (ci := 9) (v := .ref (ad 15)) (C := RX9) (T := TX9) (N := 19) hx hb hts u9_wsX9_years_X9 hown hK hP 0 rfl rfl 4 (by decide) (hts (.fieldLink RX9 34 "TurnedFloors" "drawnTower" "LTurnedFloors$Tower;") f9_wsX9_years_937) (fun _ h9 => h9) rfl dX9_years_82 ?_
    refine va_getN (D := D) (ci := 8) (v := .int (q.1 15 4)) (C := RX8) (T := TX8) (N := 5) hx hb hts u9_wsX9_years_X8 hown hK hP 15 rfl rfl 4 (by decide) (hN.use (.fieldLinkNest "TurnedFloors" 240 "TurnedFloors$Tower" "year" "I" "TurnedFloors") nn9_37) (fun _ h9 => h9) rfl dX9_years_85 ?_
    refine lv_sipush (v := 999) hx hb dX9_years_88 (by decide) ?_
    refine lv_icmp_ge (tgt := 172) hx hb dX9_years_91 (by decide) (fun c9 => ?_) (fun c9 => ?_)
    · rw [if_pos c9] at h
      exact WX9_years_s0_172 C0  _ _ _ _ h hP hD hS (lv_sub hl [0] rfl)
    · rw [if_neg c9] at h
      refine lv_iload_n hx hb dX9_years_94 rfl (lv_at hl 2 rfl) ?_
      obtain ⟨r1, h2, h⟩ := dV_some h
      refine dw_ks (va_runS (As := [.int x3]) (rest := []) ⟨hx, hb, hml, hown, hts⟩ (qX9_nextDraw l D ty eo _ x3 _ h2) (va_cwS 1 hts gX9_years_X9_nextDraw rfl rfl rfl hd_X9_nextDraw ⟨Nat.le_of_ble_eq_true rfl, Nat.le_of_ble_eq_true rfl⟩) (pvS_0 hK hN hE hP hD hS hA) rfl rfl hl.1 rfl (lv_room (Nat.le_of_ble_eq_true rfl)) dX9_years_95 ⟨Nat.le_of_ble_eq_true rfl, Nat.le_of_ble_eq_true rfl⟩) hP hD hS hA (fun _ _ h9 => h9.2.symm) (fun r9 u9 H locs hw hp hd hs => ?_)
      obtain ⟨rfl, -⟩ := hw
      clear hP hD hS
      have hP := hp; have hD := hd; have hS := hs; clear hp hd hs
      refine lv_istore_n (lv' := [(3, .int r1), (0, .ref (ad 0)), (2, .int x2), (4, .int x4)]) hx hb dX9_years_98 rfl hl (by decide) rfl (fun ls hl => ?_)
      refine lv_iload_n hx hb dX9_years_99 rfl (lv_at hl 0 rfl) ?_
      refine lv_bipush (v := 6) hx hb dX9_years_100 (by decide) ?_
      refine lv_irem hx hb dX9_years_102 (by decide) ?_
      refine lv_istore (lv' := [(5, .int (r1 - r1 / 6 * 6 : Int32)), (3, .int r1), (0, .ref (ad 0)), (2, .int x2), (4, .int x4)]) hx hb dX9_years_103 hl (by decide) rfl (fun ls hl => ?_)
      refine lv_iload_n hx hb dX9_years_105 rfl (lv_at hl 1 rfl) ?_
      obtain ⟨r3, h4, h⟩ := dV_some h
      refine dw_ks (va_runS (As := [.int r1]) (rest := []) ⟨hx, hb, hml, hown, hts⟩ (qX9_nextDraw l D ty eo _ r1 _ h4) (va_cwS 1 hts gX9_years_X9_nextDraw rfl rfl rfl hd_X9_nextDraw ⟨Nat.le_of_ble_eq_true rfl, Nat.le_of_ble_eq_true rfl⟩) (pvS_0 hK hN hE hP hD hS hA) rfl rfl hl.1 rfl (lv_room (Nat.le_of_ble_eq_true rfl)) dX9_years_106 ⟨Nat.le_of_ble_eq_true rfl, Nat.le_of_ble_eq_true rfl⟩) hP hD hS hA (fun _ _ h9 => h9.2.symm) (fun r9 u9 H locs hw hp hd hs => ?_)
      obtain ⟨rfl, -⟩ := hw
      clear hP hD hS
      have hP := hp; have hD := hd; have hS := hs; clear hp hd hs
      refine lv_istore_n (lv' := [(3, .int r3), (5, .int (r1 - r1 / 6 * 6 : Int32)), (0, .ref (ad 0)), (2, .int x2), (4, .int x4)]) hx hb dX9_years_109 rfl hl (by decide) rfl (fun ls hl => ?_)
      refine lv_iload_n hx hb dX9_years_110 rfl (lv_at hl 0 rfl) ?_
      refine lv_iconst (v := 3) hx hb dX9_years_111 (by decide) ?_
      refine lv_irem hx hb dX9_years_112 (by decide) ?_
      refine lv_iconst (v := 2) hx hb dX9_years_113 (by decide) ?_
      refine lv_icmp_ne (tgt := 135) hx hb dX9_years_114 (by decide) (fun c9 => ?_) (fun c9 => ?_)
      · rw [if_neg c9] at h
        refine lv_aload_n hx hb dX9_years_135 rfl (lv_at hl 2 rfl) ?_
        refine va_get (D := D) (ci := 9) (v := .ref (ad 15)) (C := RX9) (T := TX9) (N := 19) hx hb hts u9_wsX9_years_X9 hown hK hP 0 rfl rfl 4 (by decide) (hts (.fieldLink RX9 34 "TurnedFloors" "drawnTower" "LTurnedFloors$Tower;") f9_wsX9_years_937) (fun _ h9 => h9) rfl dX9_years_136 ?_
        refine lv_iconst (v := 0) hx hb dX9_years_139 (by decide) ?_
        refine lv_iload hx hb dX9_years_140 (lv_at hl 1 rfl) ?_
        refine lv_iconst (v := 1) hx hb dX9_years_142 (by decide) ?_
        refine lv_iadd hx hb dX9_years_143 ?_
        refine lv_aload_n hx hb dX9_years_144 rfl (lv_at hl 2 rfl) ?_
        refine va_get (D := D) (ci := 9) (v := .ref (ad 20)) (C := RX9) (T := TX9) (N := 19) hx hb hts u9_wsX9_years_X9 hown hK hP 0 rfl rfl 6 (by decide) (hts (.fieldLink RX9 50 "TurnedFloors" "judge" "LTurnedFloors$Judge;") f9_wsX9_years_939) (fun _ h9 => h9) rfl dX9_years_145 ?_
        obtain ⟨r5, q7, h6, h⟩ := dB_some h
        refine dw_ki (va_runV (As := [.int 0, .int ((r1 - r1 / 6 * 6 : Int32) + 1 : Int32), .ref (ad 20)]) (rest := []) ⟨hx, hb, hml, hown, hts⟩ (qX8_act_s15_s20 l D ty eo _ ad q 0 ((r1 - r1 / 6 * 6 : Int32) + 1 : Int32) r5 q7 h6) (cwV 3 hts gX9_years_X8_act rfl rfl rfl hd_X8_act_v ⟨Nat.le_of_ble_eq_true rfl, Nat.le_of_ble_eq_true rfl⟩) (pvF_8_15 hK hN hE hP hD hS hA) rfl rfl hl.1 rfl (lv_room (Nat.le_of_ble_eq_true rfl)) dX9_years_148 ⟨Nat.le_of_ble_eq_true rfl, Nat.le_of_ble_eq_true rfl⟩) hD hS hA (fun r9 u9 H locs hw hp hd hs => ?_)
        clear hP hD hS
        obtain ⟨rfl, rfl⟩ := hw
        have hP := hp; have hD := hd; have hS := hs; clear hp hd hs
        refine lv_pop hx hb dX9_years_151 rfl ?_
        exact WX9_years_s0_152 C0 hk75 _ _ _ _ _ _ _ h hP hD hS (lv_sub hl [2, 3, 0, 4] rfl)
      · rw [if_pos c9] at h
        refine lv_aload_n hx hb dX9_years_117 rfl (lv_at hl 2 rfl) ?_
        refine va_get (D := D) (ci := 9) (v := .ref (ad 15)) (C := RX9) (T := TX9) (N := 19) hx hb hts u9_wsX9_years_X9 hown hK hP 0 rfl rfl 4 (by decide) (hts (.fieldLink RX9 34 "TurnedFloors" "drawnTower" "LTurnedFloors$Tower;") f9_wsX9_years_937) (fun _ h9 => h9) rfl dX9_years_118 ?_
        refine lv_iconst (v := 1) hx hb dX9_years_121 (by decide) ?_
        refine lv_iload hx hb dX9_years_122 (lv_at hl 1 rfl) ?_
        refine lv_aload_n hx hb dX9_years_124 rfl (lv_at hl 2 rfl) ?_
        refine va_get (D := D) (ci := 9) (v := .ref (ad 20)) (C := RX9) (T := TX9) (N := 19) hx hb hts u9_wsX9_years_X9 hown hK hP 0 rfl rfl 6 (by decide) (hts (.fieldLink RX9 50 "TurnedFloors" "judge" "LTurnedFloors$Judge;") f9_wsX9_years_939) (fun _ h9 => h9) rfl dX9_years_125 ?_
        obtain ⟨r8, q10, h9, h⟩ := dB_some h
        refine dw_ki (va_runV (As := [.int 1, .int (r1 - r1 / 6 * 6 : Int32), .ref (ad 20)]) (rest := []) ⟨hx, hb, hml, hown, hts⟩ (qX8_act_s15_s20 l D ty eo _ ad q 1 (r1 - r1 / 6 * 6 : Int32) r8 q10 h9) (cwV 3 hts gX9_years_X8_act rfl rfl rfl hd_X8_act_v ⟨Nat.le_of_ble_eq_true rfl, Nat.le_of_ble_eq_true rfl⟩) (pvF_8_15 hK hN hE hP hD hS hA) rfl rfl hl.1 rfl (lv_room (Nat.le_of_ble_eq_true rfl)) dX9_years_128 ⟨Nat.le_of_ble_eq_true rfl, Nat.le_of_ble_eq_true rfl⟩) hD hS hA (fun r9 u9 H locs hw hp hd hs => ?_)
        clear hP hD hS
        obtain ⟨rfl, rfl⟩ := hw
        have hP := hp; have hD := hd; have hS := hs; clear hp hd hs
        refine lv_pop hx hb dX9_years_131 rfl ?_
        refine lv_goto (tgt := 152) hx hb dX9_years_132 (by decide) ?_
        exact WX9_years_s0_152 C0 hk75 _ _ _ _ _ _ _ h hP hD hS (lv_sub hl [2, 3, 0, 4] rfl)
set_option maxHeartbeats 4000000 in
set_option maxRecDepth 100000 in
theorem WX9_years_s0_75 {p : Program} {l : Launch} {e : Env} {s : State} {m : MethodId} {args : Array Value} {below : List Frame} {meth : Method} {c : Code} {D : va_G} {ty : Nat → ClassId} {eo : Nat → Nat} {A : Nat → Prop} {ad : Nat → Nat} {o1 : Int32} {o2 : dK} (C : dc_C p s m args meth c cX9_years (some .int) 6 RX9 wsX9_years D ty eo A)   (n : Nat) (q : dK) (x2 : Int32) (x3 : Int32) (x4 : Int32) (H : Heap) (locs : List Loc) (ls : Array Slot) (h : zX9_years_s0_75  n q x2 x3 x4 = some (o1, o2)) (hP : va_P D vwCl (wF ty ad q) H) (hD : va_D A (wF ty ad q)) (hS : va_S A s.heap H locs) (hl : lv_has ls 6 [(0, .ref (ad 0)), (2, .int x2), (3, .int x3), (4, .int x4)]) : W p l e ({ frames := 6, cells := 0, slots := 0, locals := 151 } : Room) s m args below meth c H locs 0 0 (MQ below (va_Qi (fun (r : Int32) (u : va_W) => o1 = r ∧ wF ty ad o2 = u) (kz_B D ty A) A) args s 0 0 A) (F0 m 75 ls []) := by
  exact dFix_W (F := fun k (a : dK × Int32 × Int32 × Int32) => zX9_years_s0_75b  (fun q x2 x3 x4 => k (q, x2, x3, x4)) a.1 a.2.1 a.2.2.1 a.2.2.2) (o := (o1, o2)) (P := fun (a : dK × Int32 × Int32 × Int32) H locs ls => va_P D vwCl (wF ty ad a.1) H ∧ va_D A (wF ty ad a.1) ∧ va_S A s.heap H locs ∧ lv_has ls 6 [(0, .ref (ad 0)), (2, .int a.2.1), (3, .int a.2.2.1), (4, .int a.2.2.2)]) (G := fun H locs ls => W p l e ({ frames := 6, cells := 0, slots := 0, locals := 151 } : Room) s m args below meth c H locs 0 0 (MQ below (va_Qi (fun (r : Int32) (u : va_W) => o1 = r ∧ wF ty ad o2 = u) (kz_B D ty A) A) args s 0 0 A) (F0 m 75 ls []))
    (fun k hk a H locs ls h hp => WX9_years_s0_75b C  (fun q x2 x3 x4 H locs ls h h1 h2 h3 h4 => hk (q, x2, x3, x4) H locs ls h ⟨h1, h2, h3, h4⟩) a.1 a.2.1 a.2.2.1 a.2.2.2 H locs ls h hp.1 hp.2.1 hp.2.2.1 hp.2.2.2) n (q, x2, x3, x4) H locs ls h ⟨hP, hD, hS, hl⟩
set_option maxHeartbeats 4000000 in
set_option maxRecDepth 100000 in
theorem WX9_years_s0_22 {p : Program} {l : Launch} {e : Env} {s : State} {m : MethodId} {args : Array Value} {below : List Frame} {meth : Method} {c : Code} {D : va_G} {ty : Nat → ClassId} {eo : Nat → Nat} {A : Nat → Prop} {ad : Nat → Nat} {o1 : Int32} {o2 : dK} (C : dc_C p s m args meth c cX9_years (some .int) 6 RX9 wsX9_years D ty eo A)   (q : dK)  (H : Heap) (locs : List Loc) (ls : Array Slot) (h : zX9_years_s0_22  q = some (o1, o2)) (hP : va_P D vwCl (wF ty ad q) H) (hD : va_D A (wF ty ad q)) (hS : va_S A s.heap H locs) (hl : lv_has ls 6 [(0, .ref (ad 0))]) : W p l e ({ frames := 6, cells := 0, slots := 0, locals := 151 } : Room) s m args below meth c H locs 0 0 (MQ below (va_Qi (fun (r : Int32) (u : va_W) => o1 = r ∧ wF ty ad o2 = u) (kz_B D ty A) A) args s 0 0 A) (F0 m 22 ls []) := by
  have C0 := C
  obtain ⟨hx, hb, hr, hts, hown, hlocks, hml, hK, hN, hE, hA⟩ := C
  unfold zX9_years_s0_22 at h
  refine lv_aload_n hx hb dX9_years_22 rfl (lv_at hl 0 rfl) ?_
  refine lv_iconst (v := (-1)) hx hb dX9_years_23 (by decide) ?_
  obtain ⟨r1, q3, h2, h⟩ := dB_some h
  refine dw_ki (va_runV (As := [.int (-1)]) (rest := []) ⟨hx, hb, hml, hown, hts⟩ (qX9_refuse_s0 l D ty eo _ ad q (-1) r1 q3 h2) (cwV 1 hts gX9_years_X9_refuse rfl rfl rfl hd_X9_refuse_v ⟨Nat.le_of_ble_eq_true rfl, Nat.le_of_ble_eq_true rfl⟩) (pvF_9_0 hK hN hE hP hD hS hA) rfl rfl hl.1 rfl (lv_room (Nat.le_of_ble_eq_true rfl)) dX9_years_24 ⟨Nat.le_of_ble_eq_true rfl, Nat.le_of_ble_eq_true rfl⟩) hD hS hA (fun r9 u9 H locs hw hp hd hs => ?_)
  clear hP hD hS
  obtain ⟨rfl, rfl⟩ := hw
  have hP := hp; have hD := hd; have hS := hs; clear hp hd hs
  cases h
  exact kz_iret hx hb hr hlocks hP hK hD hS dX9_years_27 ⟨rfl, rfl⟩
set_option maxHeartbeats 4000000 in
set_option maxRecDepth 100000 in
theorem qX9_years_s0 (l : Launch) (D : va_G) (ty : Nat → ClassId) (eo : Nat → Nat) (sz : Nat) (ad : Nat → Nat) (q : dK) (p1 : Int32) (p2 : Int32) (o1 : Int32) (o2 : dK) (h : zX9_years_s0 q p1 p2 = some (o1, o2)) : Met l yX9_years wsX9_years ({ frames := 6, cells := 0, slots := 0, locals := 151 } : Room) (va_Pc [.ref (ad 0), .int p1, .int p2] (kz_pre D ty eo (wF ty ad q) sz)) (va_Qi (fun (r : Int32) (u : va_W) => o1 = r ∧ wF ty ad o2 = u) (kz_B D ty (va_A (wF ty ad q) sz)) (va_A (wF ty ad q) sz)) 0 0 (va_A (wF ty ad q) sz) := by
  refine Met.ofW (cc := cX9_years) (maxL := 6) (ret := (some .int)) (by decide) rfl ?_
  intro p e s m args below meth c s₁ B hml hv
  obtain ⟨rfl, hsz, hP, hK, hD0, hN, hE⟩ := hv
  have hx := B.exec
  have hb := B.bytes
  have hr := B.returns
  have hts := atoms_spec (ws := wsX9_years) B.pre
  have hown : s.vm.findClass RX9 = some m.cls := findClass_of_methodNamed B.named
  have hlocks := B.notSynchronized
  subst hsz
  have hD := hD0.self (sz := s.heap.size)
  generalize hAe : va_A (wF ty ad q) s.heap.size = A at hD hE ⊢
  have hA : ∀ q : Nat, s.heap.size ≤ q → A q := fun q h => by rw [← hAe]; exact Or.inr h
  clear hAe
  have hS : va_S A s.heap s.heap [] := va_S.rf
  have hl := lv_entry ([.ref (ad 0), .int p1, .int p2]) (n := 6) (Nat.le_of_ble_eq_true rfl)
  rw [lg_entry_eq]
  generalize (lg_sl ([.ref (ad 0), .int p1, .int p2]) ++ List.replicate (6 - (lg_sl ([.ref (ad 0), .int p1, .int p2])).length) Slot.unset).toArray = ls at hl ⊢
  have hl : lv_has ls 6 [(0, .ref (ad 0)), (1, .int p1), (2, .int p2)] := hl
  have C : dc_C p s m _ meth c cX9_years (some .int) 6 RX9 wsX9_years D ty eo A := ⟨hx, hb, hr, hts, hown, hlocks, hml, hK, hN, hE, hA⟩
  unfold zX9_years_s0 at h
  refine lv_iload_n hx hb dX9_years_0 rfl (lv_at hl 1 rfl) ?_
  refine lv_if_lt (tgt := 22) hx hb dX9_years_1 (by decide) (fun c9 => ?_) (fun c9 => ?_)
  · rw [if_pos c9] at h
    exact WX9_years_s0_22 C  _ _ _ _ h hP hD hS (lv_sub hl [0] rfl)
  · rw [if_neg c9] at h
    refine lv_iload_n hx hb dX9_years_4 rfl (lv_at hl 1 rfl) ?_
    refine lv_ldcw (v := 1000000) hx hb hown (hts (.constant RX9 317 1000000) f9_wsX9_years_940) dX9_years_5 ?_
    refine lv_icmp_gt (tgt := 22) hx hb dX9_years_8 (by decide) (fun c9 => ?_) (fun c9 => ?_)
    · rw [if_pos c9] at h
      exact WX9_years_s0_22 C  _ _ _ _ h hP hD hS (lv_sub hl [0] rfl)
    · rw [if_neg c9] at h
      refine lv_iload_n hx hb dX9_years_11 rfl (lv_at hl 2 rfl) ?_
      refine lv_iconst (v := 1) hx hb dX9_years_12 (by decide) ?_
      refine lv_icmp_lt (tgt := 22) hx hb dX9_years_13 (by decide) (fun c9 => ?_) (fun c9 => ?_)
      · rw [if_pos c9] at h
        exact WX9_years_s0_22 C  _ _ _ _ h hP hD hS (lv_sub hl [0] rfl)
      · rw [if_neg c9] at h
        refine lv_iload_n hx hb dX9_years_16 rfl (lv_at hl 2 rfl) ?_
        refine lv_bipush (v := 60) hx hb dX9_years_17 (by decide) ?_
        refine lv_icmp_le (tgt := 28) hx hb dX9_years_19 (by decide) (fun c9 => ?_) (fun c9 => ?_)
        · rw [if_pos c9] at h
          refine lv_aload_n hx hb dX9_years_28 rfl (lv_at hl 0 rfl) ?_
          refine va_get (D := D) (ci := 9) (v := .ref (ad 1)) (C := RX9) (T := TX9) (N := 19) hx hb hts u9_wsX9_years_X9 hown hK hP 0 rfl rfl 0 (by decide) (hts (.fieldLink RX9 10 "TurnedFloors" "state" "LTurnedFloors$State;") f9_wsX9_years_938) (fun _ h9 => h9) rfl dX9_years_29 ?_
          refine va_getN (D := D) (ci := 6) (v := .ref (ad 2)) (C := RX6) (T := TX6) (N := 10) hx hb hts u9_wsX9_years_X6 hown hK hP 1 rfl rfl 0 (by decide) (hN.use (.fieldLinkNest "TurnedFloors" 122 "TurnedFloors$State" "tower" "LTurnedFloors$Tower;" "TurnedFloors") nn9_0) (fun _ h9 => h9) rfl dX9_years_32 ?_
          refine va_getN (D := D) (ci := 8) (v := .int (q.1 2 2)) (C := RX8) (T := TX8) (N := 5) hx hb hts u9_wsX9_years_X8 hown hK hP 2 rfl rfl 2 (by decide) (hN.use (.fieldLinkNest "TurnedFloors" 135 "TurnedFloors$Tower" "floors" "I" "TurnedFloors") nn9_1) (fun _ h9 => h9) rfl dX9_years_35 ?_
          refine lv_if_ne (tgt := 48) hx hb dX9_years_38 (by decide) (fun c9 => ?_) (fun c9 => ?_)
          · rw [if_neg c9] at h
            refine lv_aload_n hx hb dX9_years_48 rfl (lv_at hl 0 rfl) ?_
            refine va_get (D := D) (ci := 9) (v := .ref (ad 15)) (C := RX9) (T := TX9) (N := 19) hx hb hts u9_wsX9_years_X9 hown hK hP 0 rfl rfl 4 (by decide) (hts (.fieldLink RX9 34 "TurnedFloors" "drawnTower" "LTurnedFloors$Tower;") f9_wsX9_years_937) (fun _ h9 => h9) rfl dX9_years_49 ?_
            refine lv_aload_n hx hb dX9_years_52 rfl (lv_at hl 0 rfl) ?_
            refine va_get (D := D) (ci := 9) (v := .ref (ad 1)) (C := RX9) (T := TX9) (N := 19) hx hb hts u9_wsX9_years_X9 hown hK hP 0 rfl rfl 0 (by decide) (hts (.fieldLink RX9 10 "TurnedFloors" "state" "LTurnedFloors$State;") f9_wsX9_years_938) (fun _ h9 => h9) rfl dX9_years_53 ?_
            refine va_getN (D := D) (ci := 6) (v := .ref (ad 2)) (C := RX6) (T := TX6) (N := 10) hx hb hts u9_wsX9_years_X6 hown hK hP 1 rfl rfl 0 (by decide) (hN.use (.fieldLinkNest "TurnedFloors" 122 "TurnedFloors$State" "tower" "LTurnedFloors$Tower;" "TurnedFloors") nn9_0) (fun _ h9 => h9) rfl dX9_years_56 ?_
            obtain ⟨r1, q3, h2, h⟩ := dB_some h
            refine dw_kl (va_runV (As := []) (rest := [.ref (ad 15)]) ⟨hx, hb, hml, hown, hts⟩ (qX8_pack_s2 l D ty eo _ ad q  r1 q3 h2) (cwV 0 hts gX9_years_X8_pack rfl rfl rfl hd_X8_pack_v ⟨Nat.le_of_ble_eq_true rfl, Nat.le_of_ble_eq_true rfl⟩) (pvF_8_2 hK hN hE hP hD hS hA) rfl rfl hl.1 rfl (lv_room (Nat.le_of_ble_eq_true rfl)) dX9_years_59 ⟨Nat.le_of_ble_eq_true rfl, Nat.le_of_ble_eq_true rfl⟩) hD hS hA (fun r9 u9 H locs hw hp hd hs => ?_)
            clear hP hD hS
            obtain ⟨rfl, rfl⟩ := hw
            have hP := hp; have hD := hd; have hS := hs; clear hp hd hs
            obtain ⟨q6, h5, h⟩ := dV_some h
            refine dw_kv (va_runV (As := [.long r1]) (rest := []) ⟨hx, hb, hml, hown, hts⟩ (qX8_unpack_s15 l D ty eo _ ad q3 r1 q6 h5) (cwV 1 hts gX9_years_X8_unpack rfl rfl rfl hd_X8_unpack_v ⟨Nat.le_of_ble_eq_true rfl, Nat.le_of_ble_eq_true rfl⟩) (pvF_8_15 hK hN hE hP hD hS hA) rfl rfl hl.1 rfl (lv_room (Nat.le_of_ble_eq_true rfl)) dX9_years_62 ⟨Nat.le_of_ble_eq_true rfl, Nat.le_of_ble_eq_true rfl⟩) hD hS hA (fun u9 H locs hw hp hd hs => ?_)
            clear hP hD hS
            obtain rfl := hw
            have hP := hp; have hD := hd; have hS := hs; clear hp hd hs
            refine lv_aload_n hx hb dX9_years_65 rfl (lv_at hl 0 rfl) ?_
            obtain ⟨q9, h8, h⟩ := dV_some h
            refine dw_kq (va_runV (As := []) (rest := []) ⟨hx, hb, hml, hown, hts⟩ (qX9_seated_s0 l D ty eo _ ad q6  q9 h8) (cwV 0 hts gX9_years_X9_seated rfl rfl rfl hd_X9_seated_v ⟨Nat.le_of_ble_eq_true rfl, Nat.le_of_ble_eq_true rfl⟩) (pvF_9_0 hK hN hE hP hD hS hA) rfl rfl hl.1 rfl (lv_room (Nat.le_of_ble_eq_true rfl)) dX9_years_66 ⟨Nat.le_of_ble_eq_true rfl, Nat.le_of_ble_eq_true rfl⟩) hP hD hS hA (fun r9 u9 H locs hw hp hd hs => ?_)
            clear hP hD hS
            obtain ⟨rfl, rfl⟩ := hw
            have hP := hp; have hD := hd; have hS := hs; clear hp hd hs
            refine lv_pop hx hb dX9_years_69 rfl ?_
            refine lv_iload_n hx hb dX9_years_70 rfl (lv_at hl 1 rfl) ?_
            refine lv_istore_n (lv' := [(3, .int p1), (0, .ref (ad 0)), (1, .int p1), (2, .int p2)]) hx hb dX9_years_71 rfl hl (by decide) rfl (fun ls hl => ?_)
            refine lv_iconst (v := 0) hx hb dX9_years_72 (by decide) ?_
            refine lv_istore (lv' := [(4, .int 0), (3, .int p1), (0, .ref (ad 0)), (1, .int p1), (2, .int p2)]) hx hb dX9_years_73 hl (by decide) rfl (fun ls hl => ?_)
            exact WX9_years_s0_75 C  _ _ _ _ _ _ _ _ h hP hD hS (lv_sub hl [2, 4, 1, 0] rfl)
          · rw [if_pos c9] at h
            refine lv_aload_n hx hb dX9_years_41 rfl (lv_at hl 0 rfl) ?_
            refine lv_bipush (v := (-3)) hx hb dX9_years_42 (by decide) ?_
            obtain ⟨r10, q12, h11, h⟩ := dB_some h
            refine dw_ki (va_runV (As := [.int (-3)]) (rest := []) ⟨hx, hb, hml, hown, hts⟩ (qX9_refuse_s0 l D ty eo _ ad q (-3) r10 q12 h11) (cwV 1 hts gX9_years_X9_refuse rfl rfl rfl hd_X9_refuse_v ⟨Nat.le_of_ble_eq_true rfl, Nat.le_of_ble_eq_true rfl⟩) (pvF_9_0 hK hN hE hP hD hS hA) rfl rfl hl.1 rfl (lv_room (Nat.le_of_ble_eq_true rfl)) dX9_years_44 ⟨Nat.le_of_ble_eq_true rfl, Nat.le_of_ble_eq_true rfl⟩) hD hS hA (fun r9 u9 H locs hw hp hd hs => ?_)
            clear hP hD hS
            obtain ⟨rfl, rfl⟩ := hw
            have hP := hp; have hD := hd; have hS := hs; clear hp hd hs
            cases h
            exact kz_iret hx hb hr hlocks hP hK hD hS dX9_years_47 ⟨rfl, rfl⟩
        · rw [if_neg c9] at h
          exact WX9_years_s0_22 C  _ _ _ _ h hP hD hS (lv_sub hl [0] rfl)

set_option maxHeartbeats 4000000 in
set_option maxRecDepth 100000 in
theorem qX9_drawn_s0 (l : Launch) (D : va_G) (ty : Nat → ClassId) (eo : Nat → Nat) (sz : Nat) (ad : Nat → Nat) (q : dK) (p1 : Int32) (p2 : Int32) (o1 : Int32) (o2 : dK) (h : zX9_drawn_s0 q p1 p2 = some (o1, o2)) : Met l yX9_drawn wsX9_drawn ({ frames := 2, cells := 0, slots := 0, locals := 43 } : Room) (va_Pc [.ref (ad 0), .int p1, .int p2] (kz_pre D ty eo (wF ty ad q) sz)) (va_Qi (fun (r : Int32) (u : va_W) => o1 = r ∧ wF ty ad o2 = u) (kz_B D ty (va_A (wF ty ad q) sz)) (va_A (wF ty ad q) sz)) 0 0 (va_A (wF ty ad q) sz) := by
  refine Met.ofW (cc := cX9_drawn) (maxL := 3) (ret := (some .int)) (by decide) rfl ?_
  intro p e s m args below meth c s₁ B hml hv
  obtain ⟨rfl, hsz, hP, hK, hD0, hN, hE⟩ := hv
  have hx := B.exec
  have hb := B.bytes
  have hr := B.returns
  have hts := atoms_spec (ws := wsX9_drawn) B.pre
  have hown : s.vm.findClass RX9 = some m.cls := findClass_of_methodNamed B.named
  have hlocks := B.notSynchronized
  subst hsz
  have hD := hD0.self (sz := s.heap.size)
  generalize hAe : va_A (wF ty ad q) s.heap.size = A at hD hE ⊢
  have hA : ∀ q : Nat, s.heap.size ≤ q → A q := fun q h => by rw [← hAe]; exact Or.inr h
  clear hAe
  have hS : va_S A s.heap s.heap [] := va_S.rf
  have hl := lv_entry ([.ref (ad 0), .int p1, .int p2]) (n := 3) (Nat.le_of_ble_eq_true rfl)
  rw [lg_entry_eq]
  generalize (lg_sl ([.ref (ad 0), .int p1, .int p2]) ++ List.replicate (3 - (lg_sl ([.ref (ad 0), .int p1, .int p2])).length) Slot.unset).toArray = ls at hl ⊢
  have hl : lv_has ls 3 [(0, .ref (ad 0)), (1, .int p1), (2, .int p2)] := hl
  have C : dc_C p s m _ meth c cX9_drawn (some .int) 3 RX9 wsX9_drawn D ty eo A := ⟨hx, hb, hr, hts, hown, hlocks, hml, hK, hN, hE, hA⟩
  unfold zX9_drawn_s0 at h
  refine lv_aload_n hx hb dX9_drawn_0 rfl (lv_at hl 0 rfl) ?_
  refine va_get (D := D) (ci := 9) (v := .ref (ad 15)) (C := RX9) (T := TX9) (N := 19) hx hb hts u9_wsX9_drawn_X9 hown hK hP 0 rfl rfl 4 (by decide) (hts (.fieldLink RX9 34 "TurnedFloors" "drawnTower" "LTurnedFloors$Tower;") f9_wsX9_drawn_942) (fun _ h9 => h9) rfl dX9_drawn_1 ?_
  refine lv_iload_n hx hb dX9_drawn_4 rfl (lv_at hl 1 rfl) ?_
  refine lv_iload_n hx hb dX9_drawn_5 rfl (lv_at hl 2 rfl) ?_
  obtain ⟨r1, q3, h2, h⟩ := dB_some h
  refine dw_ki (va_runV (As := [.int p1, .int p2]) (rest := []) ⟨hx, hb, hml, hown, hts⟩ (qX8_tell_s15 l D ty eo _ ad q p1 p2 r1 q3 h2) (cwV 2 hts gX9_drawn_X8_tell rfl rfl rfl hd_X8_tell_v ⟨Nat.le_of_ble_eq_true rfl, Nat.le_of_ble_eq_true rfl⟩) (pvF_8_15 hK hN hE hP hD hS hA) rfl rfl hl.1 rfl (lv_room (Nat.le_of_ble_eq_true rfl)) dX9_drawn_6 ⟨Nat.le_of_ble_eq_true rfl, Nat.le_of_ble_eq_true rfl⟩) hD hS hA (fun r9 u9 H locs hw hp hd hs => ?_)
  clear hP hD hS
  obtain ⟨rfl, rfl⟩ := hw
  have hP := hp; have hD := hd; have hS := hs; clear hp hd hs
  cases h
  exact kz_iret hx hb hr hlocks hP hK hD hS dX9_drawn_9 ⟨rfl, rfl⟩

set_option maxHeartbeats 4000000 in
set_option maxRecDepth 100000 in
theorem WX9_isImage_14 {p : Program} {l : Launch} {e : Env} {s : State} {m : MethodId} {args : Array Value} {below : List Frame} {meth : Method} {c : Code} {D : va_G} {ty : Nat → ClassId} {eo : Nat → Nat} {A : Nat → Prop} {o1 : Int32} (C : dc_C p s m args meth c cX9_isImage (some .boolean) 1 RX9 wsX9_isImage D ty eo A)   (y0 : Int32) (H : Heap) (locs : List Loc) (ls : Array Slot) (h : zX9_isImage_14  y0 = some o1) (hP : va_P D vwCl (([] : va_W)) H) (hD : va_D A (([] : va_W))) (hS : va_S A s.heap H locs) (hl : lv_has ls 1 []) : W p l e ({ frames := 0, cells := 0, slots := 0, locals := 0 } : Room) s m args below meth c H locs 0 0 (MQ below (va_Qi (fun (r : Int32) (u : va_W) => o1 = r ∧ ([] : va_W) = u) (kz_B D ty A) A) args s 0 0 A) (F0 m 14 ls [.int y0]) := by
  have C0 := C
  obtain ⟨hx, hb, hr, hts, hown, hlocks, hml, hK, hN, hE, hA⟩ := C
  unfold zX9_isImage_14 at h
  obtain ⟨g1, h⟩ := dG_some h
  cases h
  exact kz_zret hx hb hr hlocks (dbl_nar g1) hP hK hD hS dX9_isImage_14 ⟨rfl, rfl⟩
set_option maxHeartbeats 4000000 in
set_option maxRecDepth 100000 in
theorem WX9_isImage_13 {p : Program} {l : Launch} {e : Env} {s : State} {m : MethodId} {args : Array Value} {below : List Frame} {meth : Method} {c : Code} {D : va_G} {ty : Nat → ClassId} {eo : Nat → Nat} {A : Nat → Prop} {o1 : Int32} (C : dc_C p s m args meth c cX9_isImage (some .boolean) 1 RX9 wsX9_isImage D ty eo A)    (H : Heap) (locs : List Loc) (ls : Array Slot) (h : zX9_isImage_13   = some o1) (hP : va_P D vwCl (([] : va_W)) H) (hD : va_D A (([] : va_W))) (hS : va_S A s.heap H locs) (hl : lv_has ls 1 []) : W p l e ({ frames := 0, cells := 0, slots := 0, locals := 0 } : Room) s m args below meth c H locs 0 0 (MQ below (va_Qi (fun (r : Int32) (u : va_W) => o1 = r ∧ ([] : va_W) = u) (kz_B D ty A) A) args s 0 0 A) (F0 m 13 ls []) := by
  have C0 := C
  obtain ⟨hx, hb, hr, hts, hown, hlocks, hml, hK, hN, hE, hA⟩ := C
  unfold zX9_isImage_13 at h
  refine lv_iconst (v := 0) hx hb dX9_isImage_13 (by decide) ?_
  exact WX9_isImage_14 C0  _ _ _ _ h hP hD hS (lv_sub hl [] rfl)
set_option maxHeartbeats 4000000 in
set_option maxRecDepth 100000 in
theorem qX9_isImage (l : Launch) (D : va_G) (ty : Nat → ClassId) (eo : Nat → Nat) (sz : Nat) (p1 : Int32) (o1 : Int32) (h : zX9_isImage p1 = some o1) : Met l yX9_isImage wsX9_isImage ({ frames := 0, cells := 0, slots := 0, locals := 0 } : Room) (va_Pc [.int p1] (kz_pre D ty eo (([] : va_W)) sz)) (va_Qi (fun (r : Int32) (u : va_W) => o1 = r ∧ ([] : va_W) = u) (kz_B D ty (va_A (([] : va_W)) sz)) (va_A (([] : va_W)) sz)) 0 0 (va_A (([] : va_W)) sz) := by
  refine Met.ofW (cc := cX9_isImage) (maxL := 1) (ret := (some .boolean)) (by decide) rfl ?_
  intro p e s m args below meth c s₁ B hml hv
  obtain ⟨rfl, hsz, hP, hK, hD0, hN, hE⟩ := hv
  have hx := B.exec
  have hb := B.bytes
  have hr := B.returns
  have hts := atoms_spec (ws := wsX9_isImage) B.pre
  have hown : s.vm.findClass RX9 = some m.cls := findClass_of_methodNamed B.named
  have hlocks := B.notSynchronized
  subst hsz
  have hD := hD0.self (sz := s.heap.size)
  generalize hAe : va_A (([] : va_W)) s.heap.size = A at hD hE ⊢
  have hA : ∀ q : Nat, s.heap.size ≤ q → A q := fun q h => by rw [← hAe]; exact Or.inr h
  clear hAe
  have hS : va_S A s.heap s.heap [] := va_S.rf
  have hl := lv_entry ([.int p1]) (n := 1) (Nat.le_of_ble_eq_true rfl)
  rw [lg_entry_eq]
  generalize (lg_sl ([.int p1]) ++ List.replicate (1 - (lg_sl ([.int p1])).length) Slot.unset).toArray = ls at hl ⊢
  have hl : lv_has ls 1 [(0, .int p1)] := hl
  have C : dc_C p s m _ meth c cX9_isImage (some .boolean) 1 RX9 wsX9_isImage D ty eo A := ⟨hx, hb, hr, hts, hown, hlocks, hml, hK, hN, hE, hA⟩
  unfold zX9_isImage at h
  refine lv_iload_n hx hb dX9_isImage_0 rfl (lv_at hl 0 rfl) ?_
  refine lv_if_lt (tgt := 13) hx hb dX9_isImage_1 (by decide) (fun c9 => ?_) (fun c9 => ?_)
  · rw [if_pos c9] at h
    exact WX9_isImage_13 C  _ _ _ h hP hD hS (lv_sub hl [] rfl)
  · rw [if_neg c9] at h
    refine lv_iload_n hx hb dX9_isImage_4 rfl (lv_at hl 0 rfl) ?_
    refine lv_iconst (v := 2) hx hb dX9_isImage_5 (by decide) ?_
    refine lv_icmp_ge (tgt := 13) hx hb dX9_isImage_6 (by decide) (fun c9 => ?_) (fun c9 => ?_)
    · rw [if_pos c9] at h
      exact WX9_isImage_13 C  _ _ _ h hP hD hS (lv_sub hl [] rfl)
    · rw [if_neg c9] at h
      refine lv_iconst (v := 1) hx hb dX9_isImage_9 (by decide) ?_
      refine lv_goto (tgt := 14) hx hb dX9_isImage_10 (by decide) ?_
      exact WX9_isImage_14 C  _ _ _ _ h hP hD hS (lv_sub hl [] rfl)

set_option maxHeartbeats 4000000 in
set_option maxRecDepth 100000 in
theorem WX8_unpack_s50_31b {p : Program} {l : Launch} {e : Env} {s : State} {m : MethodId} {args : Array Value} {below : List Frame} {meth : Method} {c : Code} {D : va_G} {ty : Nat → ClassId} {eo : Nat → Nat} {A : Nat → Prop} {ad : Nat → Nat} {o2 : dK} (C : dc_C p s m args meth c cX8_unpack none 6 RX8 wsX8_unpack D ty eo A) {k31 : dK → Int64 → Int32 → Option (dK)} (hk31 : ∀ (q : dK) (x3 : Int64) (x5 : Int32) (H : Heap) (locs : List Loc) (ls : Array Slot), k31 q x3 x5 = some o2 → va_P D vwCl (wF ty ad q) H → va_D A (wF ty ad q) → va_S A s.heap H locs → lv_has ls 6 [(0, .ref (ad 50)), (3, .long x3), (5, .int x5)] → W p l e ({ frames := 1, cells := 0, slots := 0, locals := 21 } : Room) s m args below meth c H locs 0 0 (MQ below (va_Qv (fun (u : va_W) => wF ty ad o2 = u) (kz_B D ty A) A) args s 0 0 A) (F0 m 31 ls [])) (q : dK) (x3 : Int64) (x5 : Int32) (H : Heap) (locs : List Loc) (ls : Array Slot) (h : zX8_unpack_s50_31b k31 q x3 x5 = some o2) (hP : va_P D vwCl (wF ty ad q) H) (hD : va_D A (wF ty ad q)) (hS : va_S A s.heap H locs) (hl : lv_has ls 6 [(0, .ref (ad 50)), (3, .long x3), (5, .int x5)]) : W p l e ({ frames := 1, cells := 0, slots := 0, locals := 21 } : Room) s m args below meth c H locs 0 0 (MQ below (va_Qv (fun (u : va_W) => wF ty ad o2 = u) (kz_B D ty A) A) args s 0 0 A) (F0 m 31 ls []) := by
  have C0 := C
  obtain ⟨hx, hb, hr, hts, hown, hlocks, hml, hK, hN, hE, hA⟩ := C
  unfold zX8_unpack_s50_31b at h
  refine lv_iload hx hb dX8_unpack_31 (lv_at hl 2 rfl) ?_
  refine lv_if_lt (tgt := 72) hx hb dX8_unpack_33 (by decide) (fun c9 => ?_) (fun c9 => ?_)
  · rw [if_pos c9] at h
    refine lv_aload_n hx hb dX8_unpack_72 rfl (lv_at hl 0 rfl) ?_
    refine lv_bipush (v := 6) hx hb dX8_unpack_73 (by decide) ?_
    refine lv_lload_n hx hb dX8_unpack_75 rfl (lv_at hl 1 rfl) ?_
    refine lv_l2i (v := Int64.toInt32 x3) hx hb dX8_unpack_76 rfl ?_
    refine va_mmin hx hb (hml.trans hl.1.symm) hown (hts (.methodLink RX8 41 Lib.Math.min.name) f9_wsX8_unpack_656) (hts (.static Lib.Math.min.name) f9_wsX8_unpack_657) (hts (.initialized "java/lang/Math") f9_wsX8_unpack_658) (hts (.code Lib.Math.min.name Lib.Math.min.code 2 (some .int)) f9_wsX8_unpack_659) (Nat.le_of_ble_eq_true rfl) (Nat.le_of_ble_eq_true rfl) (Nat.le_of_ble_eq_true rfl) (Nat.le_of_ble_eq_true rfl) dX8_unpack_77 ?_
    refine kz_topi (mnI 6 (Int64.toInt32 x3)) rfl ?_
    refine va_put (D := D) (ci := 8) (v := .int (mnI 6 (Int64.toInt32 x3))) (ty := .int) (C := RX8) (T := TX8) (N := 5) hx hb hts u9_wsX8_unpack_X8 tyX8 tyX8_ok nmX8 hown hK hP hD hS 50 rfl rfl 2 (by decide) (hts (.fieldLink RX8 18 "TurnedFloors$Tower" "floors" "I") f9_wsX8_unpack_660) (fun _ h9 => h9) rfl (by decide +kernel) rfl rfl (Nat.le_of_ble_eq_true rfl) dX8_unpack_80 (fun H locs hp hd hs => ?_)
    obtain ⟨q1, eq1, h⟩ := dL_some h
    refine kz_re (w2 := wF ty ad q1) hp hd hs (by rw [← eq1]; exact wF_f50_2 ty ad q (mnI 6 (Int64.toInt32 x3))) ?_
    clear hp hd hs hP hD hS
    intro hP hD hS
    cases h
    exact kz_vret hx hb hr hlocks hP hK hD hS dX8_unpack_83 rfl
  · rw [if_neg c9] at h
    refine lv_aload_n hx hb dX8_unpack_36 rfl (lv_at hl 0 rfl) ?_
    refine va_get (D := D) (ci := 8) (v := .ref (ad 52)) (C := RX8) (T := TX8) (N := 5) hx hb hts u9_wsX8_unpack_X8 hown hK hP 50 rfl rfl 1 (by decide) (hts (.fieldLink RX8 15 "TurnedFloors$Tower" "head" "[I") f9_wsX8_unpack_661) (fun _ h9 => h9) rfl dX8_unpack_37 ?_
    refine lv_iload hx hb dX8_unpack_40 (lv_at hl 2 rfl) ?_
    refine lv_lload_n hx hb dX8_unpack_42 rfl (lv_at hl 1 rfl) ?_
    refine lv_lconst (v := 1) hx hb dX8_unpack_43 (by decide) ?_
    refine lv_land hx hb dX8_unpack_44 ?_
    refine lv_l2i (v := Int64.toInt32 (x3 &&& 1 : Int64)) hx hb dX8_unpack_45 rfl ?_
    obtain ⟨g2, h⟩ := dG_some h
    refine va_iast hx hb hK hP hD hS 52 0 rfl rfl (dg_in g2) dX8_unpack_46 (fun H locs hp hd hs => ?_)
    obtain ⟨q3, eq3, h⟩ := dL_some h
    refine kz_re (w2 := wF ty ad q3) hp hd hs (by rw [← eq3]; exact wF_a52 ty ad q (Int32.toNatClampNeg x5) (Int64.toInt32 (x3 &&& 1 : Int64))) ?_
    clear hp hd hs hP hD hS
    intro hP hD hS
    refine lv_aload_n hx hb dX8_unpack_47 rfl (lv_at hl 0 rfl) ?_
    refine va_get (D := D) (ci := 8) (v := .ref (ad 51)) (C := RX8) (T := TX8) (N := 5) hx hb hts u9_wsX8_unpack_X8 hown hK hP 50 rfl rfl 0 (by decide) (hts (.fieldLink RX8 9 "TurnedFloors$Tower" "rank" "[I") f9_wsX8_unpack_662) (fun _ h9 => h9) rfl dX8_unpack_48 ?_
    refine lv_iload hx hb dX8_unpack_51 (lv_at hl 2 rfl) ?_
    refine lv_lload_n hx hb dX8_unpack_53 rfl (lv_at hl 1 rfl) ?_
    refine lv_iconst (v := 1) hx hb dX8_unpack_54 (by decide) ?_
    refine lv_lshr (v := x3 >>> (Int32.toInt64 (1 : Int32) &&& 63)) hx hb dX8_unpack_55 rfl ?_
    refine lv_ldc2 (v := 7) hx hb hown (hts (.constantLong RX8 39 7) f9_wsX8_unpack_663) dX8_unpack_56 ?_
    refine lv_land hx hb dX8_unpack_59 ?_
    refine lv_l2i (v := Int64.toInt32 ((x3 >>> (Int32.toInt64 (1 : Int32) &&& 63)) &&& 7 : Int64)) hx hb dX8_unpack_60 rfl ?_
    obtain ⟨g4, h⟩ := dG_some h
    refine va_iast hx hb hK hP hD hS 51 0 rfl rfl (dg_in g4) dX8_unpack_61 (fun H locs hp hd hs => ?_)
    obtain ⟨q5, eq5, h⟩ := dL_some h
    refine kz_re (w2 := wF ty ad q5) hp hd hs (by rw [← eq5]; exact wF_a51 ty ad q3 (Int32.toNatClampNeg x5) (Int64.toInt32 ((x3 >>> (Int32.toInt64 (1 : Int32) &&& 63)) &&& 7 : Int64))) ?_
    clear hp hd hs hP hD hS
    intro hP hD hS
    refine lv_lload_n hx hb dX8_unpack_62 rfl (lv_at hl 1 rfl) ?_
    refine lv_iconst (v := 4) hx hb dX8_unpack_63 (by decide) ?_
    refine lv_lshr (v := x3 >>> (Int32.toInt64 (4 : Int32) &&& 63)) hx hb dX8_unpack_64 rfl ?_
    refine lv_lstore_n (lv' := [(3, .long (x3 >>> (Int32.toInt64 (4 : Int32) &&& 63))), (0, .ref (ad 50)), (5, .int x5)]) hx hb dX8_unpack_65 rfl hl (by decide) rfl (fun ls hl => ?_)
    refine lv_iinc (v := x5 + (-1)) (lv' := [(5, .int (x5 + (-1))), (3, .long (x3 >>> (Int32.toInt64 (4 : Int32) &&& 63))), (0, .ref (ad 50))]) hx hb dX8_unpack_66 hl (k := 2) rfl rfl (by decide) rfl (fun ls hl => ?_)
    refine lv_goto (tgt := 31) hx hb dX8_unpack_69 (by decide) ?_
    exact hk31 _ _ _ _ _ _ h hP hD hS (lv_sub hl [2, 1, 0] rfl)
set_option maxHeartbeats 4000000 in
set_option maxRecDepth 100000 in
theorem WX8_unpack_s50_31 {p : Program} {l : Launch} {e : Env} {s : State} {m : MethodId} {args : Array Value} {below : List Frame} {meth : Method} {c : Code} {D : va_G} {ty : Nat → ClassId} {eo : Nat → Nat} {A : Nat → Prop} {ad : Nat → Nat} {o2 : dK} (C : dc_C p s m args meth c cX8_unpack none 6 RX8 wsX8_unpack D ty eo A)   (n : Nat) (q : dK) (x3 : Int64) (x5 : Int32) (H : Heap) (locs : List Loc) (ls : Array Slot) (h : zX8_unpack_s50_31  n q x3 x5 = some o2) (hP : va_P D vwCl (wF ty ad q) H) (hD : va_D A (wF ty ad q)) (hS : va_S A s.heap H locs) (hl : lv_has ls 6 [(0, .ref (ad 50)), (3, .long x3), (5, .int x5)]) : W p l e ({ frames := 1, cells := 0, slots := 0, locals := 21 } : Room) s m args below meth c H locs 0 0 (MQ below (va_Qv (fun (u : va_W) => wF ty ad o2 = u) (kz_B D ty A) A) args s 0 0 A) (F0 m 31 ls []) := by
  exact dFix_W (F := fun k (a : dK × Int64 × Int32) => zX8_unpack_s50_31b  (fun q x3 x5 => k (q, x3, x5)) a.1 a.2.1 a.2.2) (o := o2) (P := fun (a : dK × Int64 × Int32) H locs ls => va_P D vwCl (wF ty ad a.1) H ∧ va_D A (wF ty ad a.1) ∧ va_S A s.heap H locs ∧ lv_has ls 6 [(0, .ref (ad 50)), (3, .long a.2.1), (5, .int a.2.2)]) (G := fun H locs ls => W p l e ({ frames := 1, cells := 0, slots := 0, locals := 21 } : Room) s m args below meth c H locs 0 0 (MQ below (va_Qv (fun (u : va_W) => wF ty ad o2 = u) (kz_B D ty A) A) args s 0 0 A) (F0 m 31 ls []))
    (fun k hk a H locs ls h hp => WX8_unpack_s50_31b C  (fun q x3 x5 H locs ls h h1 h2 h3 h4 => hk (q, x3, x5) H locs ls h ⟨h1, h2, h3, h4⟩) a.1 a.2.1 a.2.2 H locs ls h hp.1 hp.2.1 hp.2.2.1 hp.2.2.2) n (q, x3, x5) H locs ls h ⟨hP, hD, hS, hl⟩
set_option maxHeartbeats 4000000 in
set_option maxRecDepth 100000 in
theorem qX8_unpack_s50 (l : Launch) (D : va_G) (ty : Nat → ClassId) (eo : Nat → Nat) (sz : Nat) (ad : Nat → Nat) (q : dK) (p1 : Int64) (o2 : dK) (h : zX8_unpack_s50 q p1 = some o2) : Met l yX8_unpack wsX8_unpack ({ frames := 1, cells := 0, slots := 0, locals := 21 } : Room) (va_Pc [.ref (ad 50), .long p1] (kz_pre D ty eo (wF ty ad q) sz)) (va_Qv (fun (u : va_W) => wF ty ad o2 = u) (kz_B D ty (va_A (wF ty ad q) sz)) (va_A (wF ty ad q) sz)) 0 0 (va_A (wF ty ad q) sz) := by
  refine Met.ofW (cc := cX8_unpack) (maxL := 6) (ret := none) (by decide) rfl ?_
  intro p e s m args below meth c s₁ B hml hv
  obtain ⟨rfl, hsz, hP, hK, hD0, hN, hE⟩ := hv
  have hx := B.exec
  have hb := B.bytes
  have hr := B.returns
  have hts := atoms_spec (ws := wsX8_unpack) B.pre
  have hown : s.vm.findClass RX8 = some m.cls := findClass_of_methodNamed B.named
  have hlocks := B.notSynchronized
  subst hsz
  have hD := hD0.self (sz := s.heap.size)
  generalize hAe : va_A (wF ty ad q) s.heap.size = A at hD hE ⊢
  have hA : ∀ q : Nat, s.heap.size ≤ q → A q := fun q h => by rw [← hAe]; exact Or.inr h
  clear hAe
  have hS : va_S A s.heap s.heap [] := va_S.rf
  have hl := lv_entry ([.ref (ad 50), .long p1]) (n := 6) (Nat.le_of_ble_eq_true rfl)
  rw [lg_entry_eq]
  generalize (lg_sl ([.ref (ad 50), .long p1]) ++ List.replicate (6 - (lg_sl ([.ref (ad 50), .long p1])).length) Slot.unset).toArray = ls at hl ⊢
  have hl : lv_has ls 6 [(0, .ref (ad 50)), (1, .long p1)] := hl
  have C : dc_C p s m _ meth c cX8_unpack none 6 RX8 wsX8_unpack D ty eo A := ⟨hx, hb, hr, hts, hown, hlocks, hml, hK, hN, hE, hA⟩
  unfold zX8_unpack_s50 at h
  refine lv_aload_n hx hb dX8_unpack_0 rfl (lv_at hl 0 rfl) ?_
  refine lv_lload_n hx hb dX8_unpack_1 rfl (lv_at hl 1 rfl) ?_
  refine lv_ldc2 (v := 1023) hx hb hown (hts (.constantLong RX8 35 1023) f9_wsX8_unpack_664) dX8_unpack_2 ?_
  refine lv_land hx hb dX8_unpack_5 ?_
  refine lv_l2i (v := Int64.toInt32 (p1 &&& 1023 : Int64)) hx hb dX8_unpack_6 rfl ?_
  refine va_put (D := D) (ci := 8) (v := .int (Int64.toInt32 (p1 &&& 1023 : Int64))) (ty := .int) (C := RX8) (T := TX8) (N := 5) hx hb hts u9_wsX8_unpack_X8 tyX8 tyX8_ok nmX8 hown hK hP hD hS 50 rfl rfl 4 (by decide) (hts (.fieldLink RX8 25 "TurnedFloors$Tower" "year" "I") f9_wsX8_unpack_665) (fun _ h9 => h9) rfl (by decide +kernel) rfl rfl (Nat.le_of_ble_eq_true rfl) dX8_unpack_7 (fun H locs hp hd hs => ?_)
  obtain ⟨q1, eq1, h⟩ := dL_some h
  refine kz_re (w2 := wF ty ad q1) hp hd hs (by rw [← eq1]; exact wF_f50_4 ty ad q (Int64.toInt32 (p1 &&& 1023 : Int64))) ?_
  clear hp hd hs hP hD hS
  intro hP hD hS
  refine lv_aload_n hx hb dX8_unpack_10 rfl (lv_at hl 0 rfl) ?_
  refine lv_lload_n hx hb dX8_unpack_11 rfl (lv_at hl 1 rfl) ?_
  refine lv_bipush (v := 10) hx hb dX8_unpack_12 (by decide) ?_
  refine lv_lshr (v := p1 >>> (Int32.toInt64 (10 : Int32) &&& 63)) hx hb dX8_unpack_14 rfl ?_
  refine lv_ldc2 (v := 16383) hx hb hown (hts (.constantLong RX8 37 16383) f9_wsX8_unpack_666) dX8_unpack_15 ?_
  refine lv_land hx hb dX8_unpack_18 ?_
  obtain ⟨v2, ev2, h⟩ := dL_some h
  refine kz_topl v2 ev2 ?_
  refine lv_l2i (v := Int64.toInt32 v2) hx hb dX8_unpack_19 rfl ?_
  refine va_put (D := D) (ci := 8) (v := .int (Int64.toInt32 v2)) (ty := .int) (C := RX8) (T := TX8) (N := 5) hx hb hts u9_wsX8_unpack_X8 tyX8 tyX8_ok nmX8 hown hK hP hD hS 50 rfl rfl 3 (by decide) (hts (.fieldLink RX8 22 "TurnedFloors$Tower" "paid" "I") f9_wsX8_unpack_667) (fun _ h9 => h9) rfl (by decide +kernel) rfl rfl (Nat.le_of_ble_eq_true rfl) dX8_unpack_20 (fun H locs hp hd hs => ?_)
  obtain ⟨q3, eq3, h⟩ := dL_some h
  refine kz_re (w2 := wF ty ad q3) hp hd hs (by rw [← eq3]; exact wF_f50_3 ty ad q1 (Int64.toInt32 v2)) ?_
  clear hp hd hs hP hD hS
  intro hP hD hS
  refine lv_lload_n hx hb dX8_unpack_23 rfl (lv_at hl 1 rfl) ?_
  refine lv_bipush (v := 24) hx hb dX8_unpack_24 (by decide) ?_
  refine lv_lshr (v := p1 >>> (Int32.toInt64 (24 : Int32) &&& 63)) hx hb dX8_unpack_26 rfl ?_
  refine lv_lstore_n (lv' := [(3, .long (p1 >>> (Int32.toInt64 (24 : Int32) &&& 63))), (0, .ref (ad 50)), (1, .long p1)]) hx hb dX8_unpack_27 rfl hl (by decide) rfl (fun ls hl => ?_)
  refine lv_iconst (v := 5) hx hb dX8_unpack_28 (by decide) ?_
  refine lv_istore (lv' := [(5, .int 5), (3, .long (p1 >>> (Int32.toInt64 (24 : Int32) &&& 63))), (0, .ref (ad 50)), (1, .long p1)]) hx hb dX8_unpack_29 hl (by decide) rfl (fun ls hl => ?_)
  exact WX8_unpack_s50_31 C  _ _ _ _ _ _ _ h hP hD hS (lv_sub hl [2, 1, 0] rfl)
end
section
set_option maxRecDepth 20000 in
theorem ggX6_copyFrom_X8_pack : GoodIn wsX6_copyFrom wsX8_pack := wd_c vW9_ok mvW9_366
set_option maxRecDepth 20000 in
theorem gX6_copyFrom_X8_pack : GoodIn wsX6_copyFrom (wsV RX6 50 RX8 yX8_pack wsX8_pack) := goodIn_app (wd_l vW9_ok _ pvW9_73) ggX6_copyFrom_X8_pack
set_option maxRecDepth 20000 in
theorem ggX6_copyFrom_X8_unpack : GoodIn wsX6_copyFrom wsX8_unpack := wd_c vW9_ok mvW9_432
set_option maxRecDepth 20000 in
theorem gX6_copyFrom_X8_unpack : GoodIn wsX6_copyFrom (wsV RX6 54 RX8 yX8_unpack wsX8_unpack) := goodIn_app (wd_l vW9_ok _ pvW9_74) ggX6_copyFrom_X8_unpack
theorem da9_dX6_copyFrom_0 : (decode cX6_copyFrom 0 = .ok (.aload_n 0, 1)) ∧ (decode cX6_copyFrom 1 = .ok (.getfield 12, 3)) ∧ (decode cX6_copyFrom 4 = .ok (.aload_n 1, 1)) ∧ (decode cX6_copyFrom 5 = .ok (.getfield 12, 3)) ∧ (decode cX6_copyFrom 8 = .ok (.invokevirtual 50, 3)) ∧ (decode cX6_copyFrom 11 = .ok (.invokevirtual 54, 3)) ∧ (decode cX6_copyFrom 14 = .ok (.aload_n 0, 1)) ∧ (decode cX6_copyFrom 15 = .ok (.aload_n 1, 1)) ∧ (decode cX6_copyFrom 16 = .ok (.getfield 18, 3)) ∧ (decode cX6_copyFrom 19 = .ok (.putfield 18, 3)) ∧ (decode cX6_copyFrom 22 = .ok (.aload_n 0, 1)) ∧ (decode cX6_copyFrom 23 = .ok (.aload_n 1, 1)) ∧ (decode cX6_copyFrom 24 = .ok (.getfield 22, 3)) ∧ (decode cX6_copyFrom 27 = .ok (.putfield 22, 3)) ∧ (decode cX6_copyFrom 30 = .ok (.aload_n 0, 1)) ∧ (decode cX6_copyFrom 31 = .ok (.aload_n 1, 1)) := by decide +kernel
theorem dX6_copyFrom_0 : decode cX6_copyFrom 0 = .ok (.aload_n 0, 1) := da9_dX6_copyFrom_0.1
theorem dX6_copyFrom_1 : decode cX6_copyFrom 1 = .ok (.getfield 12, 3) := da9_dX6_copyFrom_0.2.1
theorem dX6_copyFrom_4 : decode cX6_copyFrom 4 = .ok (.aload_n 1, 1) := da9_dX6_copyFrom_0.2.2.1
theorem dX6_copyFrom_5 : decode cX6_copyFrom 5 = .ok (.getfield 12, 3) := da9_dX6_copyFrom_0.2.2.2.1
theorem dX6_copyFrom_8 : decode cX6_copyFrom 8 = .ok (.invokevirtual 50, 3) := da9_dX6_copyFrom_0.2.2.2.2.1
theorem dX6_copyFrom_11 : decode cX6_copyFrom 11 = .ok (.invokevirtual 54, 3) := da9_dX6_copyFrom_0.2.2.2.2.2.1
theorem dX6_copyFrom_14 : decode cX6_copyFrom 14 = .ok (.aload_n 0, 1) := da9_dX6_copyFrom_0.2.2.2.2.2.2.1
theorem dX6_copyFrom_15 : decode cX6_copyFrom 15 = .ok (.aload_n 1, 1) := da9_dX6_copyFrom_0.2.2.2.2.2.2.2.1
theorem dX6_copyFrom_16 : decode cX6_copyFrom 16 = .ok (.getfield 18, 3) := da9_dX6_copyFrom_0.2.2.2.2.2.2.2.2.1
theorem dX6_copyFrom_19 : decode cX6_copyFrom 19 = .ok (.putfield 18, 3) := da9_dX6_copyFrom_0.2.2.2.2.2.2.2.2.2.1
theorem dX6_copyFrom_22 : decode cX6_copyFrom 22 = .ok (.aload_n 0, 1) := da9_dX6_copyFrom_0.2.2.2.2.2.2.2.2.2.2.1
theorem dX6_copyFrom_23 : decode cX6_copyFrom 23 = .ok (.aload_n 1, 1) := da9_dX6_copyFrom_0.2.2.2.2.2.2.2.2.2.2.2.1
theorem dX6_copyFrom_24 : decode cX6_copyFrom 24 = .ok (.getfield 22, 3) := da9_dX6_copyFrom_0.2.2.2.2.2.2.2.2.2.2.2.2.1
theorem dX6_copyFrom_27 : decode cX6_copyFrom 27 = .ok (.putfield 22, 3) := da9_dX6_copyFrom_0.2.2.2.2.2.2.2.2.2.2.2.2.2.1
theorem dX6_copyFrom_30 : decode cX6_copyFrom 30 = .ok (.aload_n 0, 1) := da9_dX6_copyFrom_0.2.2.2.2.2.2.2.2.2.2.2.2.2.2.1
theorem dX6_copyFrom_31 : decode cX6_copyFrom 31 = .ok (.aload_n 1, 1) := da9_dX6_copyFrom_0.2.2.2.2.2.2.2.2.2.2.2.2.2.2.2
theorem da9_dX6_copyFrom_32 : (decode cX6_copyFrom 32 = .ok (.getfield 25, 3)) ∧ (decode cX6_copyFrom 35 = .ok (.putfield 25, 3)) ∧ (decode cX6_copyFrom 38 = .ok (.aload_n 0, 1)) ∧ (decode cX6_copyFrom 39 = .ok (.aload_n 1, 1)) ∧ (decode cX6_copyFrom 40 = .ok (.getfield 35, 3)) ∧ (decode cX6_copyFrom 43 = .ok (.putfield 35, 3)) ∧ (decode cX6_copyFrom 46 = .ok (.iconst 0, 1)) ∧ (decode cX6_copyFrom 47 = .ok (.istore_n 2, 1)) ∧ (decode cX6_copyFrom 48 = .ok (.iload_n 2, 1)) ∧ (decode cX6_copyFrom 49 = .ok (.bipush 6, 2)) ∧ (decode cX6_copyFrom 51 = .ok (.if_icmp .ge 33, 3)) ∧ (decode cX6_copyFrom 54 = .ok (.aload_n 0, 1)) ∧ (decode cX6_copyFrom 55 = .ok (.getfield 28, 3)) ∧ (decode cX6_copyFrom 58 = .ok (.iload_n 2, 1)) ∧ (decode cX6_copyFrom 59 = .ok (.aload_n 1, 1)) ∧ (decode cX6_copyFrom 60 = .ok (.getfield 28, 3)) := by decide +kernel
theorem dX6_copyFrom_32 : decode cX6_copyFrom 32 = .ok (.getfield 25, 3) := da9_dX6_copyFrom_32.1
theorem dX6_copyFrom_35 : decode cX6_copyFrom 35 = .ok (.putfield 25, 3) := da9_dX6_copyFrom_32.2.1
theorem dX6_copyFrom_38 : decode cX6_copyFrom 38 = .ok (.aload_n 0, 1) := da9_dX6_copyFrom_32.2.2.1
theorem dX6_copyFrom_39 : decode cX6_copyFrom 39 = .ok (.aload_n 1, 1) := da9_dX6_copyFrom_32.2.2.2.1
theorem dX6_copyFrom_40 : decode cX6_copyFrom 40 = .ok (.getfield 35, 3) := da9_dX6_copyFrom_32.2.2.2.2.1
theorem dX6_copyFrom_43 : decode cX6_copyFrom 43 = .ok (.putfield 35, 3) := da9_dX6_copyFrom_32.2.2.2.2.2.1
theorem dX6_copyFrom_46 : decode cX6_copyFrom 46 = .ok (.iconst 0, 1) := da9_dX6_copyFrom_32.2.2.2.2.2.2.1
theorem dX6_copyFrom_47 : decode cX6_copyFrom 47 = .ok (.istore_n 2, 1) := da9_dX6_copyFrom_32.2.2.2.2.2.2.2.1
theorem dX6_copyFrom_48 : decode cX6_copyFrom 48 = .ok (.iload_n 2, 1) := da9_dX6_copyFrom_32.2.2.2.2.2.2.2.2.1
theorem dX6_copyFrom_49 : decode cX6_copyFrom 49 = .ok (.bipush 6, 2) := da9_dX6_copyFrom_32.2.2.2.2.2.2.2.2.2.1
theorem dX6_copyFrom_51 : decode cX6_copyFrom 51 = .ok (.if_icmp .ge 33, 3) := da9_dX6_copyFrom_32.2.2.2.2.2.2.2.2.2.2.1
theorem dX6_copyFrom_54 : decode cX6_copyFrom 54 = .ok (.aload_n 0, 1) := da9_dX6_copyFrom_32.2.2.2.2.2.2.2.2.2.2.2.1
theorem dX6_copyFrom_55 : decode cX6_copyFrom 55 = .ok (.getfield 28, 3) := da9_dX6_copyFrom_32.2.2.2.2.2.2.2.2.2.2.2.2.1
theorem dX6_copyFrom_58 : decode cX6_copyFrom 58 = .ok (.iload_n 2, 1) := da9_dX6_copyFrom_32.2.2.2.2.2.2.2.2.2.2.2.2.2.1
theorem dX6_copyFrom_59 : decode cX6_copyFrom 59 = .ok (.aload_n 1, 1) := da9_dX6_copyFrom_32.2.2.2.2.2.2.2.2.2.2.2.2.2.2.1
theorem dX6_copyFrom_60 : decode cX6_copyFrom 60 = .ok (.getfield 28, 3) := da9_dX6_copyFrom_32.2.2.2.2.2.2.2.2.2.2.2.2.2.2.2
theorem da9_dX6_copyFrom_63 : (decode cX6_copyFrom 63 = .ok (.iload_n 2, 1)) ∧ (decode cX6_copyFrom 64 = .ok (.iaload, 1)) ∧ (decode cX6_copyFrom 65 = .ok (.iastore, 1)) ∧ (decode cX6_copyFrom 66 = .ok (.aload_n 0, 1)) ∧ (decode cX6_copyFrom 67 = .ok (.getfield 32, 3)) ∧ (decode cX6_copyFrom 70 = .ok (.iload_n 2, 1)) ∧ (decode cX6_copyFrom 71 = .ok (.aload_n 1, 1)) ∧ (decode cX6_copyFrom 72 = .ok (.getfield 32, 3)) ∧ (decode cX6_copyFrom 75 = .ok (.iload_n 2, 1)) ∧ (decode cX6_copyFrom 76 = .ok (.iaload, 1)) ∧ (decode cX6_copyFrom 77 = .ok (.iastore, 1)) ∧ (decode cX6_copyFrom 78 = .ok (.iinc 2 1, 3)) ∧ (decode cX6_copyFrom 81 = .ok (.goto (-33), 3)) ∧ (decode cX6_copyFrom 84 = .ok (.aload_n 0, 1)) ∧ (decode cX6_copyFrom 85 = .ok (.aload_n 1, 1)) ∧ (decode cX6_copyFrom 86 = .ok (.getfield 44, 3)) := by decide +kernel
theorem dX6_copyFrom_63 : decode cX6_copyFrom 63 = .ok (.iload_n 2, 1) := da9_dX6_copyFrom_63.1
theorem dX6_copyFrom_64 : decode cX6_copyFrom 64 = .ok (.iaload, 1) := da9_dX6_copyFrom_63.2.1
theorem dX6_copyFrom_65 : decode cX6_copyFrom 65 = .ok (.iastore, 1) := da9_dX6_copyFrom_63.2.2.1
theorem dX6_copyFrom_66 : decode cX6_copyFrom 66 = .ok (.aload_n 0, 1) := da9_dX6_copyFrom_63.2.2.2.1
theorem dX6_copyFrom_67 : decode cX6_copyFrom 67 = .ok (.getfield 32, 3) := da9_dX6_copyFrom_63.2.2.2.2.1
theorem dX6_copyFrom_70 : decode cX6_copyFrom 70 = .ok (.iload_n 2, 1) := da9_dX6_copyFrom_63.2.2.2.2.2.1
theorem dX6_copyFrom_71 : decode cX6_copyFrom 71 = .ok (.aload_n 1, 1) := da9_dX6_copyFrom_63.2.2.2.2.2.2.1
theorem dX6_copyFrom_72 : decode cX6_copyFrom 72 = .ok (.getfield 32, 3) := da9_dX6_copyFrom_63.2.2.2.2.2.2.2.1
theorem dX6_copyFrom_75 : decode cX6_copyFrom 75 = .ok (.iload_n 2, 1) := da9_dX6_copyFrom_63.2.2.2.2.2.2.2.2.1
theorem dX6_copyFrom_76 : decode cX6_copyFrom 76 = .ok (.iaload, 1) := da9_dX6_copyFrom_63.2.2.2.2.2.2.2.2.2.1
theorem dX6_copyFrom_77 : decode cX6_copyFrom 77 = .ok (.iastore, 1) := da9_dX6_copyFrom_63.2.2.2.2.2.2.2.2.2.2.1
theorem dX6_copyFrom_78 : decode cX6_copyFrom 78 = .ok (.iinc 2 1, 3) := da9_dX6_copyFrom_63.2.2.2.2.2.2.2.2.2.2.2.1
theorem dX6_copyFrom_81 : decode cX6_copyFrom 81 = .ok (.goto (-33), 3) := da9_dX6_copyFrom_63.2.2.2.2.2.2.2.2.2.2.2.2.1
theorem dX6_copyFrom_84 : decode cX6_copyFrom 84 = .ok (.aload_n 0, 1) := da9_dX6_copyFrom_63.2.2.2.2.2.2.2.2.2.2.2.2.2.1
theorem dX6_copyFrom_85 : decode cX6_copyFrom 85 = .ok (.aload_n 1, 1) := da9_dX6_copyFrom_63.2.2.2.2.2.2.2.2.2.2.2.2.2.2.1
theorem dX6_copyFrom_86 : decode cX6_copyFrom 86 = .ok (.getfield 44, 3) := da9_dX6_copyFrom_63.2.2.2.2.2.2.2.2.2.2.2.2.2.2.2
theorem da9_dX6_copyFrom_89 : (decode cX6_copyFrom 89 = .ok (.putfield 44, 3)) ∧ (decode cX6_copyFrom 92 = .ok (.iconst 0, 1)) ∧ (decode cX6_copyFrom 93 = .ok (.istore_n 2, 1)) ∧ (decode cX6_copyFrom 94 = .ok (.iload_n 2, 1)) ∧ (decode cX6_copyFrom 95 = .ok (.bipush 6, 2)) ∧ (decode cX6_copyFrom 97 = .ok (.if_icmp .ge 21, 3)) ∧ (decode cX6_copyFrom 100 = .ok (.aload_n 0, 1)) ∧ (decode cX6_copyFrom 101 = .ok (.getfield 40, 3)) ∧ (decode cX6_copyFrom 104 = .ok (.iload_n 2, 1)) ∧ (decode cX6_copyFrom 105 = .ok (.aload_n 1, 1)) ∧ (decode cX6_copyFrom 106 = .ok (.getfield 40, 3)) ∧ (decode cX6_copyFrom 109 = .ok (.iload_n 2, 1)) ∧ (decode cX6_copyFrom 110 = .ok (.aaload, 1)) ∧ (decode cX6_copyFrom 111 = .ok (.aastore, 1)) ∧ (decode cX6_copyFrom 112 = .ok (.iinc 2 1, 3)) ∧ (decode cX6_copyFrom 115 = .ok (.goto (-21), 3)) := by decide +kernel
theorem dX6_copyFrom_89 : decode cX6_copyFrom 89 = .ok (.putfield 44, 3) := da9_dX6_copyFrom_89.1
theorem dX6_copyFrom_92 : decode cX6_copyFrom 92 = .ok (.iconst 0, 1) := da9_dX6_copyFrom_89.2.1
theorem dX6_copyFrom_93 : decode cX6_copyFrom 93 = .ok (.istore_n 2, 1) := da9_dX6_copyFrom_89.2.2.1
theorem dX6_copyFrom_94 : decode cX6_copyFrom 94 = .ok (.iload_n 2, 1) := da9_dX6_copyFrom_89.2.2.2.1
theorem dX6_copyFrom_95 : decode cX6_copyFrom 95 = .ok (.bipush 6, 2) := da9_dX6_copyFrom_89.2.2.2.2.1
theorem dX6_copyFrom_97 : decode cX6_copyFrom 97 = .ok (.if_icmp .ge 21, 3) := da9_dX6_copyFrom_89.2.2.2.2.2.1
theorem dX6_copyFrom_100 : decode cX6_copyFrom 100 = .ok (.aload_n 0, 1) := da9_dX6_copyFrom_89.2.2.2.2.2.2.1
theorem dX6_copyFrom_101 : decode cX6_copyFrom 101 = .ok (.getfield 40, 3) := da9_dX6_copyFrom_89.2.2.2.2.2.2.2.1
theorem dX6_copyFrom_104 : decode cX6_copyFrom 104 = .ok (.iload_n 2, 1) := da9_dX6_copyFrom_89.2.2.2.2.2.2.2.2.1
theorem dX6_copyFrom_105 : decode cX6_copyFrom 105 = .ok (.aload_n 1, 1) := da9_dX6_copyFrom_89.2.2.2.2.2.2.2.2.2.1
theorem dX6_copyFrom_106 : decode cX6_copyFrom 106 = .ok (.getfield 40, 3) := da9_dX6_copyFrom_89.2.2.2.2.2.2.2.2.2.2.1
theorem dX6_copyFrom_109 : decode cX6_copyFrom 109 = .ok (.iload_n 2, 1) := da9_dX6_copyFrom_89.2.2.2.2.2.2.2.2.2.2.2.1
theorem dX6_copyFrom_110 : decode cX6_copyFrom 110 = .ok (.aaload, 1) := da9_dX6_copyFrom_89.2.2.2.2.2.2.2.2.2.2.2.2.1
theorem dX6_copyFrom_111 : decode cX6_copyFrom 111 = .ok (.aastore, 1) := da9_dX6_copyFrom_89.2.2.2.2.2.2.2.2.2.2.2.2.2.1
theorem dX6_copyFrom_112 : decode cX6_copyFrom 112 = .ok (.iinc 2 1, 3) := da9_dX6_copyFrom_89.2.2.2.2.2.2.2.2.2.2.2.2.2.2.1
theorem dX6_copyFrom_115 : decode cX6_copyFrom 115 = .ok (.goto (-21), 3) := da9_dX6_copyFrom_89.2.2.2.2.2.2.2.2.2.2.2.2.2.2.2
theorem da9_dX6_copyFrom_118 : (decode cX6_copyFrom 118 = .ok (.aload_n 0, 1)) ∧ (decode cX6_copyFrom 119 = .ok (.aload_n 1, 1)) ∧ (decode cX6_copyFrom 120 = .ok (.getfield 47, 3)) ∧ (decode cX6_copyFrom 123 = .ok (.putfield 47, 3)) ∧ (decode cX6_copyFrom 126 = .ok (.return_, 1)) := by decide +kernel
theorem dX6_copyFrom_118 : decode cX6_copyFrom 118 = .ok (.aload_n 0, 1) := da9_dX6_copyFrom_118.1
theorem dX6_copyFrom_119 : decode cX6_copyFrom 119 = .ok (.aload_n 1, 1) := da9_dX6_copyFrom_118.2.1
theorem dX6_copyFrom_120 : decode cX6_copyFrom 120 = .ok (.getfield 47, 3) := da9_dX6_copyFrom_118.2.2.1
theorem dX6_copyFrom_123 : decode cX6_copyFrom 123 = .ok (.putfield 47, 3) := da9_dX6_copyFrom_118.2.2.2.1
theorem dX6_copyFrom_126 : decode cX6_copyFrom 126 = .ok (.return_, 1) := da9_dX6_copyFrom_118.2.2.2.2
set_option maxRecDepth 20000 in
theorem ggX9_image_X9_isImage : GoodIn wsX9_image wsX9_isImage := wd_c vW9_ok mvW9_652
set_option maxRecDepth 20000 in
theorem gX9_image_X9_isImage : GoodIn wsX9_image (va_wsS RX9 332 yX9_isImage wsX9_isImage) := goodIn_app (wd_l vW9_ok _ pvW9_135) ggX9_image_X9_isImage
set_option maxRecDepth 20000 in
theorem ggX9_image_X9_refuse : GoodIn wsX9_image wsX9_refuse := wd_c vW9_ok mvW9_12
set_option maxRecDepth 20000 in
theorem gX9_image_X9_refuse : GoodIn wsX9_image (wsV RX9 118 RX9 yX9_refuse wsX9_refuse) := goodIn_app (wd_l vW9_ok _ pvW9_91) ggX9_image_X9_refuse
set_option maxRecDepth 20000 in
theorem ggX9_image_X6_copyFrom : GoodIn wsX9_image wsX6_copyFrom := wd_c vW9_ok mvW9_656
set_option maxRecDepth 20000 in
theorem gX9_image_X6_copyFrom : GoodIn wsX9_image (wsV RX9 335 RX6 yX6_copyFrom wsX6_copyFrom) := goodIn_app (wd_l vW9_ok _ pvW9_136) ggX9_image_X6_copyFrom
set_option maxRecDepth 20000 in
theorem ggX9_image_X9_accept : GoodIn wsX9_image wsX9_accept := wd_c vW9_ok mvW9_36
set_option maxRecDepth 20000 in
theorem gX9_image_X9_accept : GoodIn wsX9_image (wsV RX9 138 RX9 yX9_accept wsX9_accept) := goodIn_app (wd_l vW9_ok _ pvW9_95) ggX9_image_X9_accept
theorem da9_dX9_image_0 : (decode cX9_image 0 = .ok (.iload_n 1, 1)) ∧ (decode cX9_image 1 = .ok (.invokestatic 332, 3)) ∧ (decode cX9_image 4 = .ok (.ifCond .ne 9, 3)) ∧ (decode cX9_image 7 = .ok (.aload_n 0, 1)) ∧ (decode cX9_image 8 = .ok (.iconst (-1), 1)) ∧ (decode cX9_image 9 = .ok (.invokevirtual 118, 3)) ∧ (decode cX9_image 12 = .ok (.ireturn, 1)) ∧ (decode cX9_image 13 = .ok (.aload_n 0, 1)) ∧ (decode cX9_image 14 = .ok (.getfield 16, 3)) ∧ (decode cX9_image 17 = .ok (.iload_n 1, 1)) ∧ (decode cX9_image 18 = .ok (.aaload, 1)) ∧ (decode cX9_image 19 = .ok (.aload_n 0, 1)) ∧ (decode cX9_image 20 = .ok (.getfield 10, 3)) ∧ (decode cX9_image 23 = .ok (.invokevirtual 335, 3)) ∧ (decode cX9_image 26 = .ok (.aload_n 0, 1)) ∧ (decode cX9_image 27 = .ok (.getfield 20, 3)) := by decide +kernel
theorem dX9_image_0 : decode cX9_image 0 = .ok (.iload_n 1, 1) := da9_dX9_image_0.1
theorem dX9_image_1 : decode cX9_image 1 = .ok (.invokestatic 332, 3) := da9_dX9_image_0.2.1
theorem dX9_image_4 : decode cX9_image 4 = .ok (.ifCond .ne 9, 3) := da9_dX9_image_0.2.2.1
theorem dX9_image_7 : decode cX9_image 7 = .ok (.aload_n 0, 1) := da9_dX9_image_0.2.2.2.1
theorem dX9_image_8 : decode cX9_image 8 = .ok (.iconst (-1), 1) := da9_dX9_image_0.2.2.2.2.1
theorem dX9_image_9 : decode cX9_image 9 = .ok (.invokevirtual 118, 3) := da9_dX9_image_0.2.2.2.2.2.1
theorem dX9_image_12 : decode cX9_image 12 = .ok (.ireturn, 1) := da9_dX9_image_0.2.2.2.2.2.2.1
theorem dX9_image_13 : decode cX9_image 13 = .ok (.aload_n 0, 1) := da9_dX9_image_0.2.2.2.2.2.2.2.1
theorem dX9_image_14 : decode cX9_image 14 = .ok (.getfield 16, 3) := da9_dX9_image_0.2.2.2.2.2.2.2.2.1
theorem dX9_image_17 : decode cX9_image 17 = .ok (.iload_n 1, 1) := da9_dX9_image_0.2.2.2.2.2.2.2.2.2.1
theorem dX9_image_18 : decode cX9_image 18 = .ok (.aaload, 1) := da9_dX9_image_0.2.2.2.2.2.2.2.2.2.2.1
theorem dX9_image_19 : decode cX9_image 19 = .ok (.aload_n 0, 1) := da9_dX9_image_0.2.2.2.2.2.2.2.2.2.2.2.1
theorem dX9_image_20 : decode cX9_image 20 = .ok (.getfield 10, 3) := da9_dX9_image_0.2.2.2.2.2.2.2.2.2.2.2.2.1
theorem dX9_image_23 : decode cX9_image 23 = .ok (.invokevirtual 335, 3) := da9_dX9_image_0.2.2.2.2.2.2.2.2.2.2.2.2.2.1
theorem dX9_image_26 : decode cX9_image 26 = .ok (.aload_n 0, 1) := da9_dX9_image_0.2.2.2.2.2.2.2.2.2.2.2.2.2.2.1
theorem dX9_image_27 : decode cX9_image 27 = .ok (.getfield 20, 3) := da9_dX9_image_0.2.2.2.2.2.2.2.2.2.2.2.2.2.2.2
theorem da9_dX9_image_30 : (decode cX9_image 30 = .ok (.iload_n 1, 1)) ∧ (decode cX9_image 31 = .ok (.iconst 1, 1)) ∧ (decode cX9_image 32 = .ok (.bastore, 1)) ∧ (decode cX9_image 33 = .ok (.aload_n 0, 1)) ∧ (decode cX9_image 34 = .ok (.iconst 0, 1)) ∧ (decode cX9_image 35 = .ok (.invokevirtual 138, 3)) ∧ (decode cX9_image 38 = .ok (.ireturn, 1)) := by decide +kernel
theorem dX9_image_30 : decode cX9_image 30 = .ok (.iload_n 1, 1) := da9_dX9_image_30.1
theorem dX9_image_31 : decode cX9_image 31 = .ok (.iconst 1, 1) := da9_dX9_image_30.2.1
theorem dX9_image_32 : decode cX9_image 32 = .ok (.bastore, 1) := da9_dX9_image_30.2.2.1
theorem dX9_image_33 : decode cX9_image 33 = .ok (.aload_n 0, 1) := da9_dX9_image_30.2.2.2.1
theorem dX9_image_34 : decode cX9_image 34 = .ok (.iconst 0, 1) := da9_dX9_image_30.2.2.2.2.1
theorem dX9_image_35 : decode cX9_image 35 = .ok (.invokevirtual 138, 3) := da9_dX9_image_30.2.2.2.2.2.1
theorem dX9_image_38 : decode cX9_image 38 = .ok (.ireturn, 1) := da9_dX9_image_30.2.2.2.2.2.2
end
section
theorem u9_wsX6_copyFrom_X6 : ∀ w ∈ u_ws RX6 TX6 10, w ∈ wsX6_copyFrom := fun w h => List.mem_cons_of_mem _ (vW9_wsX60 w h)
theorem f9_wsX6_copyFrom_944 : (Cond.fieldLink RX6 47 "TurnedFloors$State" "inForce" "I") ∈ wsX6_copyFrom := List.mem_cons_of_mem _ mvW9_657
theorem f9_wsX6_copyFrom_945 : (Cond.fieldLink RX6 40 "TurnedFloors$State" "laws" "[LTurnedFloors$Text;") ∈ wsX6_copyFrom := List.mem_cons_of_mem _ mvW9_51
theorem f9_wsX6_copyFrom_946 : (Cond.fieldLink RX6 44 "TurnedFloors$State" "lawCount" "I") ∈ wsX6_copyFrom := List.mem_cons_of_mem _ mvW9_56
theorem f9_wsX6_copyFrom_947 : (Cond.fieldLink RX6 28 "TurnedFloors$State" "seenPlace" "[I") ∈ wsX6_copyFrom := List.mem_cons_of_mem _ mvW9_618
theorem f9_wsX6_copyFrom_948 : (Cond.fieldLink RX6 32 "TurnedFloors$State" "seenRank" "[I") ∈ wsX6_copyFrom := List.mem_cons_of_mem _ mvW9_619
theorem f9_wsX6_copyFrom_949 : (Cond.fieldLink RX6 12 "TurnedFloors$State" "tower" "LTurnedFloors$Tower;") ∈ wsX6_copyFrom := List.mem_cons_of_mem _ mvW9_135
theorem f9_wsX6_copyFrom_950 : (Cond.fieldLink RX6 18 "TurnedFloors$State" "slips" "I") ∈ wsX6_copyFrom := List.mem_cons_of_mem _ mvW9_136
theorem f9_wsX6_copyFrom_951 : (Cond.fieldLink RX6 22 "TurnedFloors$State" "mood" "I") ∈ wsX6_copyFrom := List.mem_cons_of_mem _ mvW9_137
theorem f9_wsX6_copyFrom_952 : (Cond.fieldLink RX6 25 "TurnedFloors$State" "headsMatter" "I") ∈ wsX6_copyFrom := List.mem_cons_of_mem _ mvW9_138
theorem f9_wsX6_copyFrom_953 : (Cond.fieldLink RX6 35 "TurnedFloors$State" "seenCount" "I") ∈ wsX6_copyFrom := List.mem_cons_of_mem _ mvW9_617
theorem u9_wsX9_image_X9 : ∀ w ∈ u_ws RX9 TX9 19, w ∈ wsX9_image := fun w h => List.mem_cons_of_mem _ (vW9_wsX90 w h)
theorem f9_wsX9_image_955 : (Cond.fieldLink RX9 16 "TurnedFloors" "images" "[LTurnedFloors$State;") ∈ wsX9_image := List.mem_cons_of_mem _ mvW9_648
theorem f9_wsX9_image_956 : (Cond.fieldLink RX9 10 "TurnedFloors" "state" "LTurnedFloors$State;") ∈ wsX9_image := List.mem_cons_of_mem _ mvW9_0
theorem f9_wsX9_image_957 : (Cond.fieldLink RX9 20 "TurnedFloors" "kept" "[Z") ∈ wsX9_image := List.mem_cons_of_mem _ mvW9_649
set_option maxHeartbeats 4000000 in
set_option maxRecDepth 100000 in
theorem WX6_copyFrom_s49_s1_94b {p : Program} {l : Launch} {e : Env} {s : State} {m : MethodId} {args : Array Value} {below : List Frame} {meth : Method} {c : Code} {D : va_G} {ty : Nat → ClassId} {eo : Nat → Nat} {A : Nat → Prop} {ad : Nat → Nat} {o2 : dK} (C : dc_C p s m args meth c cX6_copyFrom none 3 RX6 wsX6_copyFrom D ty eo A) {k94 : dK → Int32 → Option (dK)} (hk94 : ∀ (q : dK) (x2 : Int32) (H : Heap) (locs : List Loc) (ls : Array Slot), k94 q x2 = some o2 → va_P D vwCl (wF ty ad q) H → va_D A (wF ty ad q) → va_S A s.heap H locs → lv_has ls 3 [(0, .ref (ad 49)), (1, .ref (ad 1)), (2, .int x2)] → W p l e ({ frames := 2, cells := 0, slots := 0, locals := 46 } : Room) s m args below meth c H locs 0 0 (MQ below (va_Qv (fun (u : va_W) => wF ty ad o2 = u) (kz_B D ty A) A) args s 0 0 A) (F0 m 94 ls [])) (q : dK) (x2 : Int32) (H : Heap) (locs : List Loc) (ls : Array Slot) (h : zX6_copyFrom_s49_s1_94b k94 q x2 = some o2) (hP : va_P D vwCl (wF ty ad q) H) (hD : va_D A (wF ty ad q)) (hS : va_S A s.heap H locs) (hl : lv_has ls 3 [(0, .ref (ad 49)), (1, .ref (ad 1)), (2, .int x2)]) : W p l e ({ frames := 2, cells := 0, slots := 0, locals := 46 } : Room) s m args below meth c H locs 0 0 (MQ below (va_Qv (fun (u : va_W) => wF ty ad o2 = u) (kz_B D ty A) A) args s 0 0 A) (F0 m 94 ls []) := by
  have C0 := C
  obtain ⟨hx, hb, hr, hts, hown, hlocks, hml, hK, hN, hE, hA⟩ := C
  unfold zX6_copyFrom_s49_s1_94b at h
  refine lv_iload_n hx hb dX6_copyFrom_94 rfl (lv_at hl 2 rfl) ?_
  refine lv_bipush (v := 6) hx hb dX6_copyFrom_95 (by decide) ?_
  refine lv_icmp_ge (tgt := 118) hx hb dX6_copyFrom_97 (by decide) (fun c9 => ?_) (fun c9 => ?_)
  · rw [if_pos c9] at h
    refine lv_aload_n hx hb dX6_copyFrom_118 rfl (lv_at hl 0 rfl) ?_
    refine lv_aload_n hx hb dX6_copyFrom_119 rfl (lv_at hl 1 rfl) ?_
    refine va_get (D := D) (ci := 6) (v := .int (q.1 1 9)) (C := RX6) (T := TX6) (N := 10) hx hb hts u9_wsX6_copyFrom_X6 hown hK hP 1 rfl rfl 9 (by decide) (hts (.fieldLink RX6 47 "TurnedFloors$State" "inForce" "I") f9_wsX6_copyFrom_944) (fun _ h9 => h9) rfl dX6_copyFrom_120 ?_
    refine va_put (D := D) (ci := 6) (v := .int (q.1 1 9)) (ty := .int) (C := RX6) (T := TX6) (N := 10) hx hb hts u9_wsX6_copyFrom_X6 tyX6 tyX6_ok nmX6 hown hK hP hD hS 49 rfl rfl 9 (by decide) (hts (.fieldLink RX6 47 "TurnedFloors$State" "inForce" "I") f9_wsX6_copyFrom_944) (fun _ h9 => h9) rfl (by decide +kernel) rfl rfl (Nat.le_of_ble_eq_true rfl) dX6_copyFrom_123 (fun H locs hp hd hs => ?_)
    obtain ⟨q1, eq1, h⟩ := dL_some h
    refine kz_re (w2 := wF ty ad q1) hp hd hs (by rw [← eq1]; exact wF_f49_9 ty ad q (q.1 1 9)) ?_
    clear hp hd hs hP hD hS
    intro hP hD hS
    cases h
    exact kz_vret hx hb hr hlocks hP hK hD hS dX6_copyFrom_126 rfl
  · rw [if_neg c9] at h
    refine lv_aload_n hx hb dX6_copyFrom_100 rfl (lv_at hl 0 rfl) ?_
    refine va_get (D := D) (ci := 6) (v := .ref (ad 55)) (C := RX6) (T := TX6) (N := 10) hx hb hts u9_wsX6_copyFrom_X6 hown hK hP 49 rfl rfl 7 (by decide) (hts (.fieldLink RX6 40 "TurnedFloors$State" "laws" "[LTurnedFloors$Text;") f9_wsX6_copyFrom_945) (fun _ h9 => h9) rfl dX6_copyFrom_101 ?_
    refine lv_iload_n hx hb dX6_copyFrom_104 rfl (lv_at hl 2 rfl) ?_
    refine lv_aload_n hx hb dX6_copyFrom_105 rfl (lv_at hl 1 rfl) ?_
    refine va_get (D := D) (ci := 6) (v := .ref (ad 7)) (C := RX6) (T := TX6) (N := 10) hx hb hts u9_wsX6_copyFrom_X6 hown hK hP 1 rfl rfl 7 (by decide) (hts (.fieldLink RX6 40 "TurnedFloors$State" "laws" "[LTurnedFloors$Text;") f9_wsX6_copyFrom_945) (fun _ h9 => h9) rfl dX6_copyFrom_106 ?_
    refine lv_iload_n hx hb dX6_copyFrom_109 rfl (lv_at hl 2 rfl) ?_
    obtain ⟨g2, h⟩ := dG_some h
    refine va_aldq hx hb hK hP 7 5 rfl rfl (dg_in g2) dX6_copyFrom_110 ?_
    obtain ⟨v3, ev3, h⟩ := dL_some h
    refine kz_topv (y := dLw ad v3) (by rw [dLs_rf (dg_lt g2), ev3]) ?_
    obtain ⟨g4, h⟩ := dG_some h
    by_cases c5 : v3 = 0
    · rw [if_pos c5] at h
      refine kz_topv (if_pos c5) ?_
      refine va_astqN hx hb hK hP hD hS 55 5 rfl rfl (dg_in g4) dX6_copyFrom_111 (fun H locs hp hd hs => ?_)
      rw [dLs_up0 (dg_lt g4)] at hp hd
      obtain ⟨q6, eq6, h⟩ := dL_some h
      refine kz_re (w2 := wF ty ad q6) hp hd hs (by rw [← eq6]; exact wF_t55 ty ad q (Int32.toNatClampNeg x2) 0) ?_
      clear hp hd hs hP hD hS
      intro hP hD hS
      refine lv_iinc (v := x2 + 1) (lv' := [(2, .int (x2 + 1)), (0, .ref (ad 49)), (1, .ref (ad 1))]) hx hb dX6_copyFrom_112 hl (k := 2) rfl rfl (by decide) rfl (fun ls hl => ?_)
      refine lv_goto (tgt := 94) hx hb dX6_copyFrom_115 (by decide) ?_
      exact hk94 _ _ _ _ _ h hP hD hS (lv_sub hl [1, 2, 0] rfl)
    · rw [if_neg c5] at h
      refine kz_topv (if_neg c5) ?_
      obtain ⟨g7, h⟩ := dG_some h
      refine va_astq hx hb hK hP hD hS 55 5 _ 7 rfl rfl (lw_o g7) rfl (dg_in g4) dX6_copyFrom_111 (fun H locs hp hd hs => ?_)
      rw [dLs_up (dg_lt g4) c5] at hp hd
      obtain ⟨q8, eq8, h⟩ := dL_some h
      refine kz_re (w2 := wF ty ad q8) hp hd hs (by rw [← eq8]; exact wF_t55 ty ad q (Int32.toNatClampNeg x2) v3) ?_
      clear hp hd hs hP hD hS
      intro hP hD hS
      refine lv_iinc (v := x2 + 1) (lv' := [(2, .int (x2 + 1)), (0, .ref (ad 49)), (1, .ref (ad 1))]) hx hb dX6_copyFrom_112 hl (k := 2) rfl rfl (by decide) rfl (fun ls hl => ?_)
      refine lv_goto (tgt := 94) hx hb dX6_copyFrom_115 (by decide) ?_
      exact hk94 _ _ _ _ _ h hP hD hS (lv_sub hl [1, 2, 0] rfl)
set_option maxHeartbeats 4000000 in
set_option maxRecDepth 100000 in
theorem WX6_copyFrom_s49_s1_94 {p : Program} {l : Launch} {e : Env} {s : State} {m : MethodId} {args : Array Value} {below : List Frame} {meth : Method} {c : Code} {D : va_G} {ty : Nat → ClassId} {eo : Nat → Nat} {A : Nat → Prop} {ad : Nat → Nat} {o2 : dK} (C : dc_C p s m args meth c cX6_copyFrom none 3 RX6 wsX6_copyFrom D ty eo A)   (n : Nat) (q : dK) (x2 : Int32) (H : Heap) (locs : List Loc) (ls : Array Slot) (h : zX6_copyFrom_s49_s1_94  n q x2 = some o2) (hP : va_P D vwCl (wF ty ad q) H) (hD : va_D A (wF ty ad q)) (hS : va_S A s.heap H locs) (hl : lv_has ls 3 [(0, .ref (ad 49)), (1, .ref (ad 1)), (2, .int x2)]) : W p l e ({ frames := 2, cells := 0, slots := 0, locals := 46 } : Room) s m args below meth c H locs 0 0 (MQ below (va_Qv (fun (u : va_W) => wF ty ad o2 = u) (kz_B D ty A) A) args s 0 0 A) (F0 m 94 ls []) := by
  exact dFix_W (F := fun k (a : dK × Int32) => zX6_copyFrom_s49_s1_94b  (fun q x2 => k (q, x2)) a.1 a.2) (o := o2) (P := fun (a : dK × Int32) H locs ls => va_P D vwCl (wF ty ad a.1) H ∧ va_D A (wF ty ad a.1) ∧ va_S A s.heap H locs ∧ lv_has ls 3 [(0, .ref (ad 49)), (1, .ref (ad 1)), (2, .int a.2)]) (G := fun H locs ls => W p l e ({ frames := 2, cells := 0, slots := 0, locals := 46 } : Room) s m args below meth c H locs 0 0 (MQ below (va_Qv (fun (u : va_W) => wF ty ad o2 = u) (kz_B D ty A) A) args s 0 0 A) (F0 m 94 ls []))
    (fun k hk a H locs ls h hp => WX6_copyFrom_s49_s1_94b C  (fun q x2 H locs ls h h1 h2 h3 h4 => hk (q, x2) H locs ls h ⟨h1, h2, h3, h4⟩) a.1 a.2 H locs ls h hp.1 hp.2.1 hp.2.2.1 hp.2.2.2) n (q, x2) H locs ls h ⟨hP, hD, hS, hl⟩
set_option maxHeartbeats 4000000 in
set_option maxRecDepth 100000 in
theorem WX6_copyFrom_s49_s1_48b {p : Program} {l : Launch} {e : Env} {s : State} {m : MethodId} {args : Array Value} {below : List Frame} {meth : Method} {c : Code} {D : va_G} {ty : Nat → ClassId} {eo : Nat → Nat} {A : Nat → Prop} {ad : Nat → Nat} {o2 : dK} (C : dc_C p s m args meth c cX6_copyFrom none 3 RX6 wsX6_copyFrom D ty eo A) {k48 : dK → Int32 → Option (dK)} (hk48 : ∀ (q : dK) (x2 : Int32) (H : Heap) (locs : List Loc) (ls : Array Slot), k48 q x2 = some o2 → va_P D vwCl (wF ty ad q) H → va_D A (wF ty ad q) → va_S A s.heap H locs → lv_has ls 3 [(0, .ref (ad 49)), (1, .ref (ad 1)), (2, .int x2)] → W p l e ({ frames := 2, cells := 0, slots := 0, locals := 46 } : Room) s m args below meth c H locs 0 0 (MQ below (va_Qv (fun (u : va_W) => wF ty ad o2 = u) (kz_B D ty A) A) args s 0 0 A) (F0 m 48 ls [])) (q : dK) (x2 : Int32) (H : Heap) (locs : List Loc) (ls : Array Slot) (h : zX6_copyFrom_s49_s1_48b k48 q x2 = some o2) (hP : va_P D vwCl (wF ty ad q) H) (hD : va_D A (wF ty ad q)) (hS : va_S A s.heap H locs) (hl : lv_has ls 3 [(0, .ref (ad 49)), (1, .ref (ad 1)), (2, .int x2)]) : W p l e ({ frames := 2, cells := 0, slots := 0, locals := 46 } : Room) s m args below meth c H locs 0 0 (MQ below (va_Qv (fun (u : va_W) => wF ty ad o2 = u) (kz_B D ty A) A) args s 0 0 A) (F0 m 48 ls []) := by
  have C0 := C
  obtain ⟨hx, hb, hr, hts, hown, hlocks, hml, hK, hN, hE, hA⟩ := C
  unfold zX6_copyFrom_s49_s1_48b at h
  refine lv_iload_n hx hb dX6_copyFrom_48 rfl (lv_at hl 2 rfl) ?_
  refine lv_bipush (v := 6) hx hb dX6_copyFrom_49 (by decide) ?_
  refine lv_icmp_ge (tgt := 84) hx hb dX6_copyFrom_51 (by decide) (fun c9 => ?_) (fun c9 => ?_)
  · rw [if_pos c9] at h
    refine lv_aload_n hx hb dX6_copyFrom_84 rfl (lv_at hl 0 rfl) ?_
    refine lv_aload_n hx hb dX6_copyFrom_85 rfl (lv_at hl 1 rfl) ?_
    refine va_get (D := D) (ci := 6) (v := .int (q.1 1 8)) (C := RX6) (T := TX6) (N := 10) hx hb hts u9_wsX6_copyFrom_X6 hown hK hP 1 rfl rfl 8 (by decide) (hts (.fieldLink RX6 44 "TurnedFloors$State" "lawCount" "I") f9_wsX6_copyFrom_946) (fun _ h9 => h9) rfl dX6_copyFrom_86 ?_
    refine va_put (D := D) (ci := 6) (v := .int (q.1 1 8)) (ty := .int) (C := RX6) (T := TX6) (N := 10) hx hb hts u9_wsX6_copyFrom_X6 tyX6 tyX6_ok nmX6 hown hK hP hD hS 49 rfl rfl 8 (by decide) (hts (.fieldLink RX6 44 "TurnedFloors$State" "lawCount" "I") f9_wsX6_copyFrom_946) (fun _ h9 => h9) rfl (by decide +kernel) rfl rfl (Nat.le_of_ble_eq_true rfl) dX6_copyFrom_89 (fun H locs hp hd hs => ?_)
    obtain ⟨q1, eq1, h⟩ := dL_some h
    refine kz_re (w2 := wF ty ad q1) hp hd hs (by rw [← eq1]; exact wF_f49_8 ty ad q (q.1 1 8)) ?_
    clear hp hd hs hP hD hS
    intro hP hD hS
    refine lv_iconst (v := 0) hx hb dX6_copyFrom_92 (by decide) ?_
    refine lv_istore_n (lv' := [(2, .int 0), (0, .ref (ad 49)), (1, .ref (ad 1))]) hx hb dX6_copyFrom_93 rfl hl (by decide) rfl (fun ls hl => ?_)
    exact WX6_copyFrom_s49_s1_94 C0  _ _ _ _ _ _ h hP hD hS (lv_sub hl [1, 2, 0] rfl)
  · rw [if_neg c9] at h
    refine lv_aload_n hx hb dX6_copyFrom_54 rfl (lv_at hl 0 rfl) ?_
    refine va_get (D := D) (ci := 6) (v := .ref (ad 53)) (C := RX6) (T := TX6) (N := 10) hx hb hts u9_wsX6_copyFrom_X6 hown hK hP 49 rfl rfl 4 (by decide) (hts (.fieldLink RX6 28 "TurnedFloors$State" "seenPlace" "[I") f9_wsX6_copyFrom_947) (fun _ h9 => h9) rfl dX6_copyFrom_55 ?_
    refine lv_iload_n hx hb dX6_copyFrom_58 rfl (lv_at hl 2 rfl) ?_
    refine lv_aload_n hx hb dX6_copyFrom_59 rfl (lv_at hl 1 rfl) ?_
    refine va_get (D := D) (ci := 6) (v := .ref (ad 5)) (C := RX6) (T := TX6) (N := 10) hx hb hts u9_wsX6_copyFrom_X6 hown hK hP 1 rfl rfl 4 (by decide) (hts (.fieldLink RX6 28 "TurnedFloors$State" "seenPlace" "[I") f9_wsX6_copyFrom_947) (fun _ h9 => h9) rfl dX6_copyFrom_60 ?_
    refine lv_iload_n hx hb dX6_copyFrom_63 rfl (lv_at hl 2 rfl) ?_
    obtain ⟨g2, h⟩ := dG_some h
    refine va_iald hx hb hK hP 5 0 rfl rfl (dg_in g2) dX6_copyFrom_64 ?_
    obtain ⟨v3, ev3, h⟩ := dL_some h
    refine kz_topi v3 ev3 ?_
    obtain ⟨g4, h⟩ := dG_some h
    refine va_iast hx hb hK hP hD hS 53 0 rfl rfl (dg_in g4) dX6_copyFrom_65 (fun H locs hp hd hs => ?_)
    obtain ⟨q5, eq5, h⟩ := dL_some h
    refine kz_re (w2 := wF ty ad q5) hp hd hs (by rw [← eq5]; exact wF_a53 ty ad q (Int32.toNatClampNeg x2) v3) ?_
    clear hp hd hs hP hD hS
    intro hP hD hS
    refine lv_aload_n hx hb dX6_copyFrom_66 rfl (lv_at hl 0 rfl) ?_
    refine va_get (D := D) (ci := 6) (v := .ref (ad 54)) (C := RX6) (T := TX6) (N := 10) hx hb hts u9_wsX6_copyFrom_X6 hown hK hP 49 rfl rfl 5 (by decide) (hts (.fieldLink RX6 32 "TurnedFloors$State" "seenRank" "[I") f9_wsX6_copyFrom_948) (fun _ h9 => h9) rfl dX6_copyFrom_67 ?_
    refine lv_iload_n hx hb dX6_copyFrom_70 rfl (lv_at hl 2 rfl) ?_
    refine lv_aload_n hx hb dX6_copyFrom_71 rfl (lv_at hl 1 rfl) ?_
    refine va_get (D := D) (ci := 6) (v := .ref (ad 6)) (C := RX6) (T := TX6) (N := 10) hx hb hts u9_wsX6_copyFrom_X6 hown hK hP 1 rfl rfl 5 (by decide) (hts (.fieldLink RX6 32 "TurnedFloors$State" "seenRank" "[I") f9_wsX6_copyFrom_948) (fun _ h9 => h9) rfl dX6_copyFrom_72 ?_
    refine lv_iload_n hx hb dX6_copyFrom_75 rfl (lv_at hl 2 rfl) ?_
    obtain ⟨g6, h⟩ := dG_some h
    refine va_iald hx hb hK hP 6 0 rfl rfl (dg_in g6) dX6_copyFrom_76 ?_
    obtain ⟨v7, ev7, h⟩ := dL_some h
    refine kz_topi v7 ev7 ?_
    obtain ⟨g8, h⟩ := dG_some h
    refine va_iast hx hb hK hP hD hS 54 0 rfl rfl (dg_in g8) dX6_copyFrom_77 (fun H locs hp hd hs => ?_)
    obtain ⟨q9, eq9, h⟩ := dL_some h
    refine kz_re (w2 := wF ty ad q9) hp hd hs (by rw [← eq9]; exact wF_a54 ty ad q5 (Int32.toNatClampNeg x2) v7) ?_
    clear hp hd hs hP hD hS
    intro hP hD hS
    refine lv_iinc (v := x2 + 1) (lv' := [(2, .int (x2 + 1)), (0, .ref (ad 49)), (1, .ref (ad 1))]) hx hb dX6_copyFrom_78 hl (k := 2) rfl rfl (by decide) rfl (fun ls hl => ?_)
    refine lv_goto (tgt := 48) hx hb dX6_copyFrom_81 (by decide) ?_
    exact hk48 _ _ _ _ _ h hP hD hS (lv_sub hl [1, 2, 0] rfl)
set_option maxHeartbeats 4000000 in
set_option maxRecDepth 100000 in
theorem WX6_copyFrom_s49_s1_48 {p : Program} {l : Launch} {e : Env} {s : State} {m : MethodId} {args : Array Value} {below : List Frame} {meth : Method} {c : Code} {D : va_G} {ty : Nat → ClassId} {eo : Nat → Nat} {A : Nat → Prop} {ad : Nat → Nat} {o2 : dK} (C : dc_C p s m args meth c cX6_copyFrom none 3 RX6 wsX6_copyFrom D ty eo A)   (n : Nat) (q : dK) (x2 : Int32) (H : Heap) (locs : List Loc) (ls : Array Slot) (h : zX6_copyFrom_s49_s1_48  n q x2 = some o2) (hP : va_P D vwCl (wF ty ad q) H) (hD : va_D A (wF ty ad q)) (hS : va_S A s.heap H locs) (hl : lv_has ls 3 [(0, .ref (ad 49)), (1, .ref (ad 1)), (2, .int x2)]) : W p l e ({ frames := 2, cells := 0, slots := 0, locals := 46 } : Room) s m args below meth c H locs 0 0 (MQ below (va_Qv (fun (u : va_W) => wF ty ad o2 = u) (kz_B D ty A) A) args s 0 0 A) (F0 m 48 ls []) := by
  exact dFix_W (F := fun k (a : dK × Int32) => zX6_copyFrom_s49_s1_48b  (fun q x2 => k (q, x2)) a.1 a.2) (o := o2) (P := fun (a : dK × Int32) H locs ls => va_P D vwCl (wF ty ad a.1) H ∧ va_D A (wF ty ad a.1) ∧ va_S A s.heap H locs ∧ lv_has ls 3 [(0, .ref (ad 49)), (1, .ref (ad 1)), (2, .int a.2)]) (G := fun H locs ls => W p l e ({ frames := 2, cells := 0, slots := 0, locals := 46 } : Room) s m args below meth c H locs 0 0 (MQ below (va_Qv (fun (u : va_W) => wF ty ad o2 = u) (kz_B D ty A) A) args s 0 0 A) (F0 m 48 ls []))
    (fun k hk a H locs ls h hp => WX6_copyFrom_s49_s1_48b C  (fun q x2 H locs ls h h1 h2 h3 h4 => hk (q, x2) H locs ls h ⟨h1, h2, h3, h4⟩) a.1 a.2 H locs ls h hp.1 hp.2.1 hp.2.2.1 hp.2.2.2) n (q, x2) H locs ls h ⟨hP, hD, hS, hl⟩
set_option maxHeartbeats 4000000 in
set_option maxRecDepth 100000 in
theorem qX6_copyFrom_s49_s1 (l : Launch) (D : va_G) (ty : Nat → ClassId) (eo : Nat → Nat) (sz : Nat) (ad : Nat → Nat) (q : dK)  (o2 : dK) (h : zX6_copyFrom_s49_s1 q = some o2) : Met l yX6_copyFrom wsX6_copyFrom ({ frames := 2, cells := 0, slots := 0, locals := 46 } : Room) (va_Pc [.ref (ad 49), .ref (ad 1)] (kz_pre D ty eo (wF ty ad q) sz)) (va_Qv (fun (u : va_W) => wF ty ad o2 = u) (kz_B D ty (va_A (wF ty ad q) sz)) (va_A (wF ty ad q) sz)) 0 0 (va_A (wF ty ad q) sz) := by
  refine Met.ofW (cc := cX6_copyFrom) (maxL := 3) (ret := none) (by decide) rfl ?_
  intro p e s m args below meth c s₁ B hml hv
  obtain ⟨rfl, hsz, hP, hK, hD0, hN, hE⟩ := hv
  have hx := B.exec
  have hb := B.bytes
  have hr := B.returns
  have hts := atoms_spec (ws := wsX6_copyFrom) B.pre
  have hown : s.vm.findClass RX6 = some m.cls := findClass_of_methodNamed B.named
  have hlocks := B.notSynchronized
  subst hsz
  have hD := hD0.self (sz := s.heap.size)
  generalize hAe : va_A (wF ty ad q) s.heap.size = A at hD hE ⊢
  have hA : ∀ q : Nat, s.heap.size ≤ q → A q := fun q h => by rw [← hAe]; exact Or.inr h
  clear hAe
  have hS : va_S A s.heap s.heap [] := va_S.rf
  have hl := lv_entry ([.ref (ad 49), .ref (ad 1)]) (n := 3) (Nat.le_of_ble_eq_true rfl)
  rw [lg_entry_eq]
  generalize (lg_sl ([.ref (ad 49), .ref (ad 1)]) ++ List.replicate (3 - (lg_sl ([.ref (ad 49), .ref (ad 1)])).length) Slot.unset).toArray = ls at hl ⊢
  have hl : lv_has ls 3 [(0, .ref (ad 49)), (1, .ref (ad 1))] := hl
  have C : dc_C p s m _ meth c cX6_copyFrom none 3 RX6 wsX6_copyFrom D ty eo A := ⟨hx, hb, hr, hts, hown, hlocks, hml, hK, hN, hE, hA⟩
  unfold zX6_copyFrom_s49_s1 at h
  refine lv_aload_n hx hb dX6_copyFrom_0 rfl (lv_at hl 0 rfl) ?_
  refine va_get (D := D) (ci := 6) (v := .ref (ad 50)) (C := RX6) (T := TX6) (N := 10) hx hb hts u9_wsX6_copyFrom_X6 hown hK hP 49 rfl rfl 0 (by decide) (hts (.fieldLink RX6 12 "TurnedFloors$State" "tower" "LTurnedFloors$Tower;") f9_wsX6_copyFrom_949) (fun _ h9 => h9) rfl dX6_copyFrom_1 ?_
  refine lv_aload_n hx hb dX6_copyFrom_4 rfl (lv_at hl 1 rfl) ?_
  refine va_get (D := D) (ci := 6) (v := .ref (ad 2)) (C := RX6) (T := TX6) (N := 10) hx hb hts u9_wsX6_copyFrom_X6 hown hK hP 1 rfl rfl 0 (by decide) (hts (.fieldLink RX6 12 "TurnedFloors$State" "tower" "LTurnedFloors$Tower;") f9_wsX6_copyFrom_949) (fun _ h9 => h9) rfl dX6_copyFrom_5 ?_
  obtain ⟨r1, q3, h2, h⟩ := dB_some h
  refine dw_kl (va_runV (As := []) (rest := [.ref (ad 50)]) ⟨hx, hb, hml, hown, hts⟩ (qX8_pack_s2 l D ty eo _ ad q  r1 q3 h2) (cwV 0 hts gX6_copyFrom_X8_pack rfl rfl rfl hd_X8_pack_v ⟨Nat.le_of_ble_eq_true rfl, Nat.le_of_ble_eq_true rfl⟩) (pvF_8_2 hK hN hE hP hD hS hA) rfl rfl hl.1 rfl (lv_room (Nat.le_of_ble_eq_true rfl)) dX6_copyFrom_8 ⟨Nat.le_of_ble_eq_true rfl, Nat.le_of_ble_eq_true rfl⟩) hD hS hA (fun r9 u9 H locs hw hp hd hs => ?_)
  clear hP hD hS
  obtain ⟨rfl, rfl⟩ := hw
  have hP := hp; have hD := hd; have hS := hs; clear hp hd hs
  obtain ⟨q6, h5, h⟩ := dV_some h
  refine dw_kv (va_runV (As := [.long r1]) (rest := []) ⟨hx, hb, hml, hown, hts⟩ (qX8_unpack_s50 l D ty eo _ ad q3 r1 q6 h5) (cwV 1 hts gX6_copyFrom_X8_unpack rfl rfl rfl hd_X8_unpack_v ⟨Nat.le_of_ble_eq_true rfl, Nat.le_of_ble_eq_true rfl⟩) (pvF_8_50 hK hN hE hP hD hS hA) rfl rfl hl.1 rfl (lv_room (Nat.le_of_ble_eq_true rfl)) dX6_copyFrom_11 ⟨Nat.le_of_ble_eq_true rfl, Nat.le_of_ble_eq_true rfl⟩) hD hS hA (fun u9 H locs hw hp hd hs => ?_)
  clear hP hD hS
  obtain rfl := hw
  have hP := hp; have hD := hd; have hS := hs; clear hp hd hs
  refine lv_aload_n hx hb dX6_copyFrom_14 rfl (lv_at hl 0 rfl) ?_
  refine lv_aload_n hx hb dX6_copyFrom_15 rfl (lv_at hl 1 rfl) ?_
  refine va_get (D := D) (ci := 6) (v := .int (q6.1 1 1)) (C := RX6) (T := TX6) (N := 10) hx hb hts u9_wsX6_copyFrom_X6 hown hK hP 1 rfl rfl 1 (by decide) (hts (.fieldLink RX6 18 "TurnedFloors$State" "slips" "I") f9_wsX6_copyFrom_950) (fun _ h9 => h9) rfl dX6_copyFrom_16 ?_
  refine va_put (D := D) (ci := 6) (v := .int (q6.1 1 1)) (ty := .int) (C := RX6) (T := TX6) (N := 10) hx hb hts u9_wsX6_copyFrom_X6 tyX6 tyX6_ok nmX6 hown hK hP hD hS 49 rfl rfl 1 (by decide) (hts (.fieldLink RX6 18 "TurnedFloors$State" "slips" "I") f9_wsX6_copyFrom_950) (fun _ h9 => h9) rfl (by decide +kernel) rfl rfl (Nat.le_of_ble_eq_true rfl) dX6_copyFrom_19 (fun H locs hp hd hs => ?_)
  obtain ⟨q7, eq7, h⟩ := dL_some h
  refine kz_re (w2 := wF ty ad q7) hp hd hs (by rw [← eq7]; exact wF_f49_1 ty ad q6 (q6.1 1 1)) ?_
  clear hp hd hs hP hD hS
  intro hP hD hS
  refine lv_aload_n hx hb dX6_copyFrom_22 rfl (lv_at hl 0 rfl) ?_
  refine lv_aload_n hx hb dX6_copyFrom_23 rfl (lv_at hl 1 rfl) ?_
  refine va_get (D := D) (ci := 6) (v := .int (q7.1 1 2)) (C := RX6) (T := TX6) (N := 10) hx hb hts u9_wsX6_copyFrom_X6 hown hK hP 1 rfl rfl 2 (by decide) (hts (.fieldLink RX6 22 "TurnedFloors$State" "mood" "I") f9_wsX6_copyFrom_951) (fun _ h9 => h9) rfl dX6_copyFrom_24 ?_
  refine va_put (D := D) (ci := 6) (v := .int (q7.1 1 2)) (ty := .int) (C := RX6) (T := TX6) (N := 10) hx hb hts u9_wsX6_copyFrom_X6 tyX6 tyX6_ok nmX6 hown hK hP hD hS 49 rfl rfl 2 (by decide) (hts (.fieldLink RX6 22 "TurnedFloors$State" "mood" "I") f9_wsX6_copyFrom_951) (fun _ h9 => h9) rfl (by decide +kernel) rfl rfl (Nat.le_of_ble_eq_true rfl) dX6_copyFrom_27 (fun H locs hp hd hs => ?_)
  obtain ⟨q8, eq8, h⟩ := dL_some h
  refine kz_re (w2 := wF ty ad q8) hp hd hs (by rw [← eq8]; exact wF_f49_2 ty ad q7 (q7.1 1 2)) ?_
  clear hp hd hs hP hD hS
  intro hP hD hS
  refine lv_aload_n hx hb dX6_copyFrom_30 rfl (lv_at hl 0 rfl) ?_
  refine lv_aload_n hx hb dX6_copyFrom_31 rfl (lv_at hl 1 rfl) ?_
  refine va_get (D := D) (ci := 6) (v := .int (q8.1 1 3)) (C := RX6) (T := TX6) (N := 10) hx hb hts u9_wsX6_copyFrom_X6 hown hK hP 1 rfl rfl 3 (by decide) (hts (.fieldLink RX6 25 "TurnedFloors$State" "headsMatter" "I") f9_wsX6_copyFrom_952) (fun _ h9 => h9) rfl dX6_copyFrom_32 ?_
  refine va_put (D := D) (ci := 6) (v := .int (q8.1 1 3)) (ty := .int) (C := RX6) (T := TX6) (N := 10) hx hb hts u9_wsX6_copyFrom_X6 tyX6 tyX6_ok nmX6 hown hK hP hD hS 49 rfl rfl 3 (by decide) (hts (.fieldLink RX6 25 "TurnedFloors$State" "headsMatter" "I") f9_wsX6_copyFrom_952) (fun _ h9 => h9) rfl (by decide +kernel) rfl rfl (Nat.le_of_ble_eq_true rfl) dX6_copyFrom_35 (fun H locs hp hd hs => ?_)
  obtain ⟨q9, eq9, h⟩ := dL_some h
  refine kz_re (w2 := wF ty ad q9) hp hd hs (by rw [← eq9]; exact wF_f49_3 ty ad q8 (q8.1 1 3)) ?_
  clear hp hd hs hP hD hS
  intro hP hD hS
  refine lv_aload_n hx hb dX6_copyFrom_38 rfl (lv_at hl 0 rfl) ?_
  refine lv_aload_n hx hb dX6_copyFrom_39 rfl (lv_at hl 1 rfl) ?_
  refine va_get (D := D) (ci := 6) (v := .int (q9.1 1 6)) (C := RX6) (T := TX6) (N := 10) hx hb hts u9_wsX6_copyFrom_X6 hown hK hP 1 rfl rfl 6 (by decide) (hts (.fieldLink RX6 35 "TurnedFloors$State" "seenCount" "I") f9_wsX6_copyFrom_953) (fun _ h9 => h9) rfl dX6_copyFrom_40 ?_
  refine va_put (D := D) (ci := 6) (v := .int (q9.1 1 6)) (ty := .int) (C := RX6) (T := TX6) (N := 10) hx hb hts u9_wsX6_copyFrom_X6 tyX6 tyX6_ok nmX6 hown hK hP hD hS 49 rfl rfl 6 (by decide) (hts (.fieldLink RX6 35 "TurnedFloors$State" "seenCount" "I") f9_wsX6_copyFrom_953) (fun _ h9 => h9) rfl (by decide +kernel) rfl rfl (Nat.le_of_ble_eq_true rfl) dX6_copyFrom_43 (fun H locs hp hd hs => ?_)
  obtain ⟨q10, eq10, h⟩ := dL_some h
  refine kz_re (w2 := wF ty ad q10) hp hd hs (by rw [← eq10]; exact wF_f49_6 ty ad q9 (q9.1 1 6)) ?_
  clear hp hd hs hP hD hS
  intro hP hD hS
  refine lv_iconst (v := 0) hx hb dX6_copyFrom_46 (by decide) ?_
  refine lv_istore_n (lv' := [(2, .int 0), (0, .ref (ad 49)), (1, .ref (ad 1))]) hx hb dX6_copyFrom_47 rfl hl (by decide) rfl (fun ls hl => ?_)
  exact WX6_copyFrom_s49_s1_48 C  _ _ _ _ _ _ h hP hD hS (lv_sub hl [1, 2, 0] rfl)

set_option maxHeartbeats 4000000 in
set_option maxRecDepth 100000 in
theorem WX8_unpack_s57_31b {p : Program} {l : Launch} {e : Env} {s : State} {m : MethodId} {args : Array Value} {below : List Frame} {meth : Method} {c : Code} {D : va_G} {ty : Nat → ClassId} {eo : Nat → Nat} {A : Nat → Prop} {ad : Nat → Nat} {o2 : dK} (C : dc_C p s m args meth c cX8_unpack none 6 RX8 wsX8_unpack D ty eo A) {k31 : dK → Int64 → Int32 → Option (dK)} (hk31 : ∀ (q : dK) (x3 : Int64) (x5 : Int32) (H : Heap) (locs : List Loc) (ls : Array Slot), k31 q x3 x5 = some o2 → va_P D vwCl (wF ty ad q) H → va_D A (wF ty ad q) → va_S A s.heap H locs → lv_has ls 6 [(0, .ref (ad 57)), (3, .long x3), (5, .int x5)] → W p l e ({ frames := 1, cells := 0, slots := 0, locals := 21 } : Room) s m args below meth c H locs 0 0 (MQ below (va_Qv (fun (u : va_W) => wF ty ad o2 = u) (kz_B D ty A) A) args s 0 0 A) (F0 m 31 ls [])) (q : dK) (x3 : Int64) (x5 : Int32) (H : Heap) (locs : List Loc) (ls : Array Slot) (h : zX8_unpack_s57_31b k31 q x3 x5 = some o2) (hP : va_P D vwCl (wF ty ad q) H) (hD : va_D A (wF ty ad q)) (hS : va_S A s.heap H locs) (hl : lv_has ls 6 [(0, .ref (ad 57)), (3, .long x3), (5, .int x5)]) : W p l e ({ frames := 1, cells := 0, slots := 0, locals := 21 } : Room) s m args below meth c H locs 0 0 (MQ below (va_Qv (fun (u : va_W) => wF ty ad o2 = u) (kz_B D ty A) A) args s 0 0 A) (F0 m 31 ls []) := by
  have C0 := C
  obtain ⟨hx, hb, hr, hts, hown, hlocks, hml, hK, hN, hE, hA⟩ := C
  unfold zX8_unpack_s57_31b at h
  refine lv_iload hx hb dX8_unpack_31 (lv_at hl 2 rfl) ?_
  refine lv_if_lt (tgt := 72) hx hb dX8_unpack_33 (by decide) (fun c9 => ?_) (fun c9 => ?_)
  · rw [if_pos c9] at h
    refine lv_aload_n hx hb dX8_unpack_72 rfl (lv_at hl 0 rfl) ?_
    refine lv_bipush (v := 6) hx hb dX8_unpack_73 (by decide) ?_
    refine lv_lload_n hx hb dX8_unpack_75 rfl (lv_at hl 1 rfl) ?_
    refine lv_l2i (v := Int64.toInt32 x3) hx hb dX8_unpack_76 rfl ?_
    refine va_mmin hx hb (hml.trans hl.1.symm) hown (hts (.methodLink RX8 41 Lib.Math.min.name) f9_wsX8_unpack_656) (hts (.static Lib.Math.min.name) f9_wsX8_unpack_657) (hts (.initialized "java/lang/Math") f9_wsX8_unpack_658) (hts (.code Lib.Math.min.name Lib.Math.min.code 2 (some .int)) f9_wsX8_unpack_659) (Nat.le_of_ble_eq_true rfl) (Nat.le_of_ble_eq_true rfl) (Nat.le_of_ble_eq_true rfl) (Nat.le_of_ble_eq_true rfl) dX8_unpack_77 ?_
    refine kz_topi (mnI 6 (Int64.toInt32 x3)) rfl ?_
    refine va_put (D := D) (ci := 8) (v := .int (mnI 6 (Int64.toInt32 x3))) (ty := .int) (C := RX8) (T := TX8) (N := 5) hx hb hts u9_wsX8_unpack_X8 tyX8 tyX8_ok nmX8 hown hK hP hD hS 57 rfl rfl 2 (by decide) (hts (.fieldLink RX8 18 "TurnedFloors$Tower" "floors" "I") f9_wsX8_unpack_660) (fun _ h9 => h9) rfl (by decide +kernel) rfl rfl (Nat.le_of_ble_eq_true rfl) dX8_unpack_80 (fun H locs hp hd hs => ?_)
    obtain ⟨q1, eq1, h⟩ := dL_some h
    refine kz_re (w2 := wF ty ad q1) hp hd hs (by rw [← eq1]; exact wF_f57_2 ty ad q (mnI 6 (Int64.toInt32 x3))) ?_
    clear hp hd hs hP hD hS
    intro hP hD hS
    cases h
    exact kz_vret hx hb hr hlocks hP hK hD hS dX8_unpack_83 rfl
  · rw [if_neg c9] at h
    refine lv_aload_n hx hb dX8_unpack_36 rfl (lv_at hl 0 rfl) ?_
    refine va_get (D := D) (ci := 8) (v := .ref (ad 59)) (C := RX8) (T := TX8) (N := 5) hx hb hts u9_wsX8_unpack_X8 hown hK hP 57 rfl rfl 1 (by decide) (hts (.fieldLink RX8 15 "TurnedFloors$Tower" "head" "[I") f9_wsX8_unpack_661) (fun _ h9 => h9) rfl dX8_unpack_37 ?_
    refine lv_iload hx hb dX8_unpack_40 (lv_at hl 2 rfl) ?_
    refine lv_lload_n hx hb dX8_unpack_42 rfl (lv_at hl 1 rfl) ?_
    refine lv_lconst (v := 1) hx hb dX8_unpack_43 (by decide) ?_
    refine lv_land hx hb dX8_unpack_44 ?_
    refine lv_l2i (v := Int64.toInt32 (x3 &&& 1 : Int64)) hx hb dX8_unpack_45 rfl ?_
    obtain ⟨g2, h⟩ := dG_some h
    refine va_iast hx hb hK hP hD hS 59 0 rfl rfl (dg_in g2) dX8_unpack_46 (fun H locs hp hd hs => ?_)
    obtain ⟨q3, eq3, h⟩ := dL_some h
    refine kz_re (w2 := wF ty ad q3) hp hd hs (by rw [← eq3]; exact wF_a59 ty ad q (Int32.toNatClampNeg x5) (Int64.toInt32 (x3 &&& 1 : Int64))) ?_
    clear hp hd hs hP hD hS
    intro hP hD hS
    refine lv_aload_n hx hb dX8_unpack_47 rfl (lv_at hl 0 rfl) ?_
    refine va_get (D := D) (ci := 8) (v := .ref (ad 58)) (C := RX8) (T := TX8) (N := 5) hx hb hts u9_wsX8_unpack_X8 hown hK hP 57 rfl rfl 0 (by decide) (hts (.fieldLink RX8 9 "TurnedFloors$Tower" "rank" "[I") f9_wsX8_unpack_662) (fun _ h9 => h9) rfl dX8_unpack_48 ?_
    refine lv_iload hx hb dX8_unpack_51 (lv_at hl 2 rfl) ?_
    refine lv_lload_n hx hb dX8_unpack_53 rfl (lv_at hl 1 rfl) ?_
    refine lv_iconst (v := 1) hx hb dX8_unpack_54 (by decide) ?_
    refine lv_lshr (v := x3 >>> (Int32.toInt64 (1 : Int32) &&& 63)) hx hb dX8_unpack_55 rfl ?_
    refine lv_ldc2 (v := 7) hx hb hown (hts (.constantLong RX8 39 7) f9_wsX8_unpack_663) dX8_unpack_56 ?_
    refine lv_land hx hb dX8_unpack_59 ?_
    refine lv_l2i (v := Int64.toInt32 ((x3 >>> (Int32.toInt64 (1 : Int32) &&& 63)) &&& 7 : Int64)) hx hb dX8_unpack_60 rfl ?_
    obtain ⟨g4, h⟩ := dG_some h
    refine va_iast hx hb hK hP hD hS 58 0 rfl rfl (dg_in g4) dX8_unpack_61 (fun H locs hp hd hs => ?_)
    obtain ⟨q5, eq5, h⟩ := dL_some h
    refine kz_re (w2 := wF ty ad q5) hp hd hs (by rw [← eq5]; exact wF_a58 ty ad q3 (Int32.toNatClampNeg x5) (Int64.toInt32 ((x3 >>> (Int32.toInt64 (1 : Int32) &&& 63)) &&& 7 : Int64))) ?_
    clear hp hd hs hP hD hS
    intro hP hD hS
    refine lv_lload_n hx hb dX8_unpack_62 rfl (lv_at hl 1 rfl) ?_
    refine lv_iconst (v := 4) hx hb dX8_unpack_63 (by decide) ?_
    refine lv_lshr (v := x3 >>> (Int32.toInt64 (4 : Int32) &&& 63)) hx hb dX8_unpack_64 rfl ?_
    refine lv_lstore_n (lv' := [(3, .long (x3 >>> (Int32.toInt64 (4 : Int32) &&& 63))), (0, .ref (ad 57)), (5, .int x5)]) hx hb dX8_unpack_65 rfl hl (by decide) rfl (fun ls hl => ?_)
    refine lv_iinc (v := x5 + (-1)) (lv' := [(5, .int (x5 + (-1))), (3, .long (x3 >>> (Int32.toInt64 (4 : Int32) &&& 63))), (0, .ref (ad 57))]) hx hb dX8_unpack_66 hl (k := 2) rfl rfl (by decide) rfl (fun ls hl => ?_)
    refine lv_goto (tgt := 31) hx hb dX8_unpack_69 (by decide) ?_
    exact hk31 _ _ _ _ _ _ h hP hD hS (lv_sub hl [2, 1, 0] rfl)
set_option maxHeartbeats 4000000 in
set_option maxRecDepth 100000 in
theorem WX8_unpack_s57_31 {p : Program} {l : Launch} {e : Env} {s : State} {m : MethodId} {args : Array Value} {below : List Frame} {meth : Method} {c : Code} {D : va_G} {ty : Nat → ClassId} {eo : Nat → Nat} {A : Nat → Prop} {ad : Nat → Nat} {o2 : dK} (C : dc_C p s m args meth c cX8_unpack none 6 RX8 wsX8_unpack D ty eo A)   (n : Nat) (q : dK) (x3 : Int64) (x5 : Int32) (H : Heap) (locs : List Loc) (ls : Array Slot) (h : zX8_unpack_s57_31  n q x3 x5 = some o2) (hP : va_P D vwCl (wF ty ad q) H) (hD : va_D A (wF ty ad q)) (hS : va_S A s.heap H locs) (hl : lv_has ls 6 [(0, .ref (ad 57)), (3, .long x3), (5, .int x5)]) : W p l e ({ frames := 1, cells := 0, slots := 0, locals := 21 } : Room) s m args below meth c H locs 0 0 (MQ below (va_Qv (fun (u : va_W) => wF ty ad o2 = u) (kz_B D ty A) A) args s 0 0 A) (F0 m 31 ls []) := by
  exact dFix_W (F := fun k (a : dK × Int64 × Int32) => zX8_unpack_s57_31b  (fun q x3 x5 => k (q, x3, x5)) a.1 a.2.1 a.2.2) (o := o2) (P := fun (a : dK × Int64 × Int32) H locs ls => va_P D vwCl (wF ty ad a.1) H ∧ va_D A (wF ty ad a.1) ∧ va_S A s.heap H locs ∧ lv_has ls 6 [(0, .ref (ad 57)), (3, .long a.2.1), (5, .int a.2.2)]) (G := fun H locs ls => W p l e ({ frames := 1, cells := 0, slots := 0, locals := 21 } : Room) s m args below meth c H locs 0 0 (MQ below (va_Qv (fun (u : va_W) => wF ty ad o2 = u) (kz_B D ty A) A) args s 0 0 A) (F0 m 31 ls []))
    (fun k hk a H locs ls h hp => WX8_unpack_s57_31b C  (fun q x3 x5 H locs ls h h1 h2 h3 h4 => hk (q, x3, x5) H locs ls h ⟨h1, h2, h3, h4⟩) a.1 a.2.1 a.2.2 H locs ls h hp.1 hp.2.1 hp.2.2.1 hp.2.2.2) n (q, x3, x5) H locs ls h ⟨hP, hD, hS, hl⟩
set_option maxHeartbeats 4000000 in
set_option maxRecDepth 100000 in
theorem qX8_unpack_s57 (l : Launch) (D : va_G) (ty : Nat → ClassId) (eo : Nat → Nat) (sz : Nat) (ad : Nat → Nat) (q : dK) (p1 : Int64) (o2 : dK) (h : zX8_unpack_s57 q p1 = some o2) : Met l yX8_unpack wsX8_unpack ({ frames := 1, cells := 0, slots := 0, locals := 21 } : Room) (va_Pc [.ref (ad 57), .long p1] (kz_pre D ty eo (wF ty ad q) sz)) (va_Qv (fun (u : va_W) => wF ty ad o2 = u) (kz_B D ty (va_A (wF ty ad q) sz)) (va_A (wF ty ad q) sz)) 0 0 (va_A (wF ty ad q) sz) := by
  refine Met.ofW (cc := cX8_unpack) (maxL := 6) (ret := none) (by decide) rfl ?_
  intro p e s m args below meth c s₁ B hml hv
  obtain ⟨rfl, hsz, hP, hK, hD0, hN, hE⟩ := hv
  have hx := B.exec
  have hb := B.bytes
  have hr := B.returns
  have hts := atoms_spec (ws := wsX8_unpack) B.pre
  have hown : s.vm.findClass RX8 = some m.cls := findClass_of_methodNamed B.named
  have hlocks := B.notSynchronized
  subst hsz
  have hD := hD0.self (sz := s.heap.size)
  generalize hAe : va_A (wF ty ad q) s.heap.size = A at hD hE ⊢
  have hA : ∀ q : Nat, s.heap.size ≤ q → A q := fun q h => by rw [← hAe]; exact Or.inr h
  clear hAe
  have hS : va_S A s.heap s.heap [] := va_S.rf
  have hl := lv_entry ([.ref (ad 57), .long p1]) (n := 6) (Nat.le_of_ble_eq_true rfl)
  rw [lg_entry_eq]
  generalize (lg_sl ([.ref (ad 57), .long p1]) ++ List.replicate (6 - (lg_sl ([.ref (ad 57), .long p1])).length) Slot.unset).toArray = ls at hl ⊢
  have hl : lv_has ls 6 [(0, .ref (ad 57)), (1, .long p1)] := hl
  have C : dc_C p s m _ meth c cX8_unpack none 6 RX8 wsX8_unpack D ty eo A := ⟨hx, hb, hr, hts, hown, hlocks, hml, hK, hN, hE, hA⟩
  unfold zX8_unpack_s57 at h
  refine lv_aload_n hx hb dX8_unpack_0 rfl (lv_at hl 0 rfl) ?_
  refine lv_lload_n hx hb dX8_unpack_1 rfl (lv_at hl 1 rfl) ?_
  refine lv_ldc2 (v := 1023) hx hb hown (hts (.constantLong RX8 35 1023) f9_wsX8_unpack_664) dX8_unpack_2 ?_
  refine lv_land hx hb dX8_unpack_5 ?_
  refine lv_l2i (v := Int64.toInt32 (p1 &&& 1023 : Int64)) hx hb dX8_unpack_6 rfl ?_
  refine va_put (D := D) (ci := 8) (v := .int (Int64.toInt32 (p1 &&& 1023 : Int64))) (ty := .int) (C := RX8) (T := TX8) (N := 5) hx hb hts u9_wsX8_unpack_X8 tyX8 tyX8_ok nmX8 hown hK hP hD hS 57 rfl rfl 4 (by decide) (hts (.fieldLink RX8 25 "TurnedFloors$Tower" "year" "I") f9_wsX8_unpack_665) (fun _ h9 => h9) rfl (by decide +kernel) rfl rfl (Nat.le_of_ble_eq_true rfl) dX8_unpack_7 (fun H locs hp hd hs => ?_)
  obtain ⟨q1, eq1, h⟩ := dL_some h
  refine kz_re (w2 := wF ty ad q1) hp hd hs (by rw [← eq1]; exact wF_f57_4 ty ad q (Int64.toInt32 (p1 &&& 1023 : Int64))) ?_
  clear hp hd hs hP hD hS
  intro hP hD hS
  refine lv_aload_n hx hb dX8_unpack_10 rfl (lv_at hl 0 rfl) ?_
  refine lv_lload_n hx hb dX8_unpack_11 rfl (lv_at hl 1 rfl) ?_
  refine lv_bipush (v := 10) hx hb dX8_unpack_12 (by decide) ?_
  refine lv_lshr (v := p1 >>> (Int32.toInt64 (10 : Int32) &&& 63)) hx hb dX8_unpack_14 rfl ?_
  refine lv_ldc2 (v := 16383) hx hb hown (hts (.constantLong RX8 37 16383) f9_wsX8_unpack_666) dX8_unpack_15 ?_
  refine lv_land hx hb dX8_unpack_18 ?_
  obtain ⟨v2, ev2, h⟩ := dL_some h
  refine kz_topl v2 ev2 ?_
  refine lv_l2i (v := Int64.toInt32 v2) hx hb dX8_unpack_19 rfl ?_
  refine va_put (D := D) (ci := 8) (v := .int (Int64.toInt32 v2)) (ty := .int) (C := RX8) (T := TX8) (N := 5) hx hb hts u9_wsX8_unpack_X8 tyX8 tyX8_ok nmX8 hown hK hP hD hS 57 rfl rfl 3 (by decide) (hts (.fieldLink RX8 22 "TurnedFloors$Tower" "paid" "I") f9_wsX8_unpack_667) (fun _ h9 => h9) rfl (by decide +kernel) rfl rfl (Nat.le_of_ble_eq_true rfl) dX8_unpack_20 (fun H locs hp hd hs => ?_)
  obtain ⟨q3, eq3, h⟩ := dL_some h
  refine kz_re (w2 := wF ty ad q3) hp hd hs (by rw [← eq3]; exact wF_f57_3 ty ad q1 (Int64.toInt32 v2)) ?_
  clear hp hd hs hP hD hS
  intro hP hD hS
  refine lv_lload_n hx hb dX8_unpack_23 rfl (lv_at hl 1 rfl) ?_
  refine lv_bipush (v := 24) hx hb dX8_unpack_24 (by decide) ?_
  refine lv_lshr (v := p1 >>> (Int32.toInt64 (24 : Int32) &&& 63)) hx hb dX8_unpack_26 rfl ?_
  refine lv_lstore_n (lv' := [(3, .long (p1 >>> (Int32.toInt64 (24 : Int32) &&& 63))), (0, .ref (ad 57)), (1, .long p1)]) hx hb dX8_unpack_27 rfl hl (by decide) rfl (fun ls hl => ?_)
  refine lv_iconst (v := 5) hx hb dX8_unpack_28 (by decide) ?_
  refine lv_istore (lv' := [(5, .int 5), (3, .long (p1 >>> (Int32.toInt64 (24 : Int32) &&& 63))), (0, .ref (ad 57)), (1, .long p1)]) hx hb dX8_unpack_29 hl (by decide) rfl (fun ls hl => ?_)
  exact WX8_unpack_s57_31 C  _ _ _ _ _ _ _ h hP hD hS (lv_sub hl [2, 1, 0] rfl)

set_option maxHeartbeats 4000000 in
set_option maxRecDepth 100000 in
theorem WX6_copyFrom_s56_s1_94b {p : Program} {l : Launch} {e : Env} {s : State} {m : MethodId} {args : Array Value} {below : List Frame} {meth : Method} {c : Code} {D : va_G} {ty : Nat → ClassId} {eo : Nat → Nat} {A : Nat → Prop} {ad : Nat → Nat} {o2 : dK} (C : dc_C p s m args meth c cX6_copyFrom none 3 RX6 wsX6_copyFrom D ty eo A) {k94 : dK → Int32 → Option (dK)} (hk94 : ∀ (q : dK) (x2 : Int32) (H : Heap) (locs : List Loc) (ls : Array Slot), k94 q x2 = some o2 → va_P D vwCl (wF ty ad q) H → va_D A (wF ty ad q) → va_S A s.heap H locs → lv_has ls 3 [(0, .ref (ad 56)), (1, .ref (ad 1)), (2, .int x2)] → W p l e ({ frames := 2, cells := 0, slots := 0, locals := 46 } : Room) s m args below meth c H locs 0 0 (MQ below (va_Qv (fun (u : va_W) => wF ty ad o2 = u) (kz_B D ty A) A) args s 0 0 A) (F0 m 94 ls [])) (q : dK) (x2 : Int32) (H : Heap) (locs : List Loc) (ls : Array Slot) (h : zX6_copyFrom_s56_s1_94b k94 q x2 = some o2) (hP : va_P D vwCl (wF ty ad q) H) (hD : va_D A (wF ty ad q)) (hS : va_S A s.heap H locs) (hl : lv_has ls 3 [(0, .ref (ad 56)), (1, .ref (ad 1)), (2, .int x2)]) : W p l e ({ frames := 2, cells := 0, slots := 0, locals := 46 } : Room) s m args below meth c H locs 0 0 (MQ below (va_Qv (fun (u : va_W) => wF ty ad o2 = u) (kz_B D ty A) A) args s 0 0 A) (F0 m 94 ls []) := by
  have C0 := C
  obtain ⟨hx, hb, hr, hts, hown, hlocks, hml, hK, hN, hE, hA⟩ := C
  unfold zX6_copyFrom_s56_s1_94b at h
  refine lv_iload_n hx hb dX6_copyFrom_94 rfl (lv_at hl 2 rfl) ?_
  refine lv_bipush (v := 6) hx hb dX6_copyFrom_95 (by decide) ?_
  refine lv_icmp_ge (tgt := 118) hx hb dX6_copyFrom_97 (by decide) (fun c9 => ?_) (fun c9 => ?_)
  · rw [if_pos c9] at h
    refine lv_aload_n hx hb dX6_copyFrom_118 rfl (lv_at hl 0 rfl) ?_
    refine lv_aload_n hx hb dX6_copyFrom_119 rfl (lv_at hl 1 rfl) ?_
    refine va_get (D := D) (ci := 6) (v := .int (q.1 1 9)) (C := RX6) (T := TX6) (N := 10) hx hb hts u9_wsX6_copyFrom_X6 hown hK hP 1 rfl rfl 9 (by decide) (hts (.fieldLink RX6 47 "TurnedFloors$State" "inForce" "I") f9_wsX6_copyFrom_944) (fun _ h9 => h9) rfl dX6_copyFrom_120 ?_
    refine va_put (D := D) (ci := 6) (v := .int (q.1 1 9)) (ty := .int) (C := RX6) (T := TX6) (N := 10) hx hb hts u9_wsX6_copyFrom_X6 tyX6 tyX6_ok nmX6 hown hK hP hD hS 56 rfl rfl 9 (by decide) (hts (.fieldLink RX6 47 "TurnedFloors$State" "inForce" "I") f9_wsX6_copyFrom_944) (fun _ h9 => h9) rfl (by decide +kernel) rfl rfl (Nat.le_of_ble_eq_true rfl) dX6_copyFrom_123 (fun H locs hp hd hs => ?_)
    obtain ⟨q1, eq1, h⟩ := dL_some h
    refine kz_re (w2 := wF ty ad q1) hp hd hs (by rw [← eq1]; exact wF_f56_9 ty ad q (q.1 1 9)) ?_
    clear hp hd hs hP hD hS
    intro hP hD hS
    cases h
    exact kz_vret hx hb hr hlocks hP hK hD hS dX6_copyFrom_126 rfl
  · rw [if_neg c9] at h
    refine lv_aload_n hx hb dX6_copyFrom_100 rfl (lv_at hl 0 rfl) ?_
    refine va_get (D := D) (ci := 6) (v := .ref (ad 62)) (C := RX6) (T := TX6) (N := 10) hx hb hts u9_wsX6_copyFrom_X6 hown hK hP 56 rfl rfl 7 (by decide) (hts (.fieldLink RX6 40 "TurnedFloors$State" "laws" "[LTurnedFloors$Text;") f9_wsX6_copyFrom_945) (fun _ h9 => h9) rfl dX6_copyFrom_101 ?_
    refine lv_iload_n hx hb dX6_copyFrom_104 rfl (lv_at hl 2 rfl) ?_
    refine lv_aload_n hx hb dX6_copyFrom_105 rfl (lv_at hl 1 rfl) ?_
    refine va_get (D := D) (ci := 6) (v := .ref (ad 7)) (C := RX6) (T := TX6) (N := 10) hx hb hts u9_wsX6_copyFrom_X6 hown hK hP 1 rfl rfl 7 (by decide) (hts (.fieldLink RX6 40 "TurnedFloors$State" "laws" "[LTurnedFloors$Text;") f9_wsX6_copyFrom_945) (fun _ h9 => h9) rfl dX6_copyFrom_106 ?_
    refine lv_iload_n hx hb dX6_copyFrom_109 rfl (lv_at hl 2 rfl) ?_
    obtain ⟨g2, h⟩ := dG_some h
    refine va_aldq hx hb hK hP 7 5 rfl rfl (dg_in g2) dX6_copyFrom_110 ?_
    obtain ⟨v3, ev3, h⟩ := dL_some h
    refine kz_topv (y := dLw ad v3) (by rw [dLs_rf (dg_lt g2), ev3]) ?_
    obtain ⟨g4, h⟩ := dG_some h
    by_cases c5 : v3 = 0
    · rw [if_pos c5] at h
      refine kz_topv (if_pos c5) ?_
      refine va_astqN hx hb hK hP hD hS 62 5 rfl rfl (dg_in g4) dX6_copyFrom_111 (fun H locs hp hd hs => ?_)
      rw [dLs_up0 (dg_lt g4)] at hp hd
      obtain ⟨q6, eq6, h⟩ := dL_some h
      refine kz_re (w2 := wF ty ad q6) hp hd hs (by rw [← eq6]; exact wF_t62 ty ad q (Int32.toNatClampNeg x2) 0) ?_
      clear hp hd hs hP hD hS
      intro hP hD hS
      refine lv_iinc (v := x2 + 1) (lv' := [(2, .int (x2 + 1)), (0, .ref (ad 56)), (1, .ref (ad 1))]) hx hb dX6_copyFrom_112 hl (k := 2) rfl rfl (by decide) rfl (fun ls hl => ?_)
      refine lv_goto (tgt := 94) hx hb dX6_copyFrom_115 (by decide) ?_
      exact hk94 _ _ _ _ _ h hP hD hS (lv_sub hl [1, 2, 0] rfl)
    · rw [if_neg c5] at h
      refine kz_topv (if_neg c5) ?_
      obtain ⟨g7, h⟩ := dG_some h
      refine va_astq hx hb hK hP hD hS 62 5 _ 7 rfl rfl (lw_o g7) rfl (dg_in g4) dX6_copyFrom_111 (fun H locs hp hd hs => ?_)
      rw [dLs_up (dg_lt g4) c5] at hp hd
      obtain ⟨q8, eq8, h⟩ := dL_some h
      refine kz_re (w2 := wF ty ad q8) hp hd hs (by rw [← eq8]; exact wF_t62 ty ad q (Int32.toNatClampNeg x2) v3) ?_
      clear hp hd hs hP hD hS
      intro hP hD hS
      refine lv_iinc (v := x2 + 1) (lv' := [(2, .int (x2 + 1)), (0, .ref (ad 56)), (1, .ref (ad 1))]) hx hb dX6_copyFrom_112 hl (k := 2) rfl rfl (by decide) rfl (fun ls hl => ?_)
      refine lv_goto (tgt := 94) hx hb dX6_copyFrom_115 (by decide) ?_
      exact hk94 _ _ _ _ _ h hP hD hS (lv_sub hl [1, 2, 0] rfl)
set_option maxHeartbeats 4000000 in
set_option maxRecDepth 100000 in
theorem WX6_copyFrom_s56_s1_94 {p : Program} {l : Launch} {e : Env} {s : State} {m : MethodId} {args : Array Value} {below : List Frame} {meth : Method} {c : Code} {D : va_G} {ty : Nat → ClassId} {eo : Nat → Nat} {A : Nat → Prop} {ad : Nat → Nat} {o2 : dK} (C : dc_C p s m args meth c cX6_copyFrom none 3 RX6 wsX6_copyFrom D ty eo A)   (n : Nat) (q : dK) (x2 : Int32) (H : Heap) (locs : List Loc) (ls : Array Slot) (h : zX6_copyFrom_s56_s1_94  n q x2 = some o2) (hP : va_P D vwCl (wF ty ad q) H) (hD : va_D A (wF ty ad q)) (hS : va_S A s.heap H locs) (hl : lv_has ls 3 [(0, .ref (ad 56)), (1, .ref (ad 1)), (2, .int x2)]) : W p l e ({ frames := 2, cells := 0, slots := 0, locals := 46 } : Room) s m args below meth c H locs 0 0 (MQ below (va_Qv (fun (u : va_W) => wF ty ad o2 = u) (kz_B D ty A) A) args s 0 0 A) (F0 m 94 ls []) := by
  exact dFix_W (F := fun k (a : dK × Int32) => zX6_copyFrom_s56_s1_94b  (fun q x2 => k (q, x2)) a.1 a.2) (o := o2) (P := fun (a : dK × Int32) H locs ls => va_P D vwCl (wF ty ad a.1) H ∧ va_D A (wF ty ad a.1) ∧ va_S A s.heap H locs ∧ lv_has ls 3 [(0, .ref (ad 56)), (1, .ref (ad 1)), (2, .int a.2)]) (G := fun H locs ls => W p l e ({ frames := 2, cells := 0, slots := 0, locals := 46 } : Room) s m args below meth c H locs 0 0 (MQ below (va_Qv (fun (u : va_W) => wF ty ad o2 = u) (kz_B D ty A) A) args s 0 0 A) (F0 m 94 ls []))
    (fun k hk a H locs ls h hp => WX6_copyFrom_s56_s1_94b C  (fun q x2 H locs ls h h1 h2 h3 h4 => hk (q, x2) H locs ls h ⟨h1, h2, h3, h4⟩) a.1 a.2 H locs ls h hp.1 hp.2.1 hp.2.2.1 hp.2.2.2) n (q, x2) H locs ls h ⟨hP, hD, hS, hl⟩
set_option maxHeartbeats 4000000 in
set_option maxRecDepth 100000 in
theorem WX6_copyFrom_s56_s1_48b {p : Program} {l : Launch} {e : Env} {s : State} {m : MethodId} {args : Array Value} {below : List Frame} {meth : Method} {c : Code} {D : va_G} {ty : Nat → ClassId} {eo : Nat → Nat} {A : Nat → Prop} {ad : Nat → Nat} {o2 : dK} (C : dc_C p s m args meth c cX6_copyFrom none 3 RX6 wsX6_copyFrom D ty eo A) {k48 : dK → Int32 → Option (dK)} (hk48 : ∀ (q : dK) (x2 : Int32) (H : Heap) (locs : List Loc) (ls : Array Slot), k48 q x2 = some o2 → va_P D vwCl (wF ty ad q) H → va_D A (wF ty ad q) → va_S A s.heap H locs → lv_has ls 3 [(0, .ref (ad 56)), (1, .ref (ad 1)), (2, .int x2)] → W p l e ({ frames := 2, cells := 0, slots := 0, locals := 46 } : Room) s m args below meth c H locs 0 0 (MQ below (va_Qv (fun (u : va_W) => wF ty ad o2 = u) (kz_B D ty A) A) args s 0 0 A) (F0 m 48 ls [])) (q : dK) (x2 : Int32) (H : Heap) (locs : List Loc) (ls : Array Slot) (h : zX6_copyFrom_s56_s1_48b k48 q x2 = some o2) (hP : va_P D vwCl (wF ty ad q) H) (hD : va_D A (wF ty ad q)) (hS : va_S A s.heap H locs) (hl : lv_has ls 3 [(0, .ref (ad 56)), (1, .ref (ad 1)), (2, .int x2)]) : W p l e ({ frames := 2, cells := 0, slots := 0, locals := 46 } : Room) s m args below meth c H locs 0 0 (MQ below (va_Qv (fun (u : va_W) => wF ty ad o2 = u) (kz_B D ty A) A) args s 0 0 A) (F0 m 48 ls []) := by
  have C0 := C
  obtain ⟨hx, hb, hr, hts, hown, hlocks, hml, hK, hN, hE, hA⟩ := C
  unfold zX6_copyFrom_s56_s1_48b at h
  refine lv_iload_n hx hb dX6_copyFrom_48 rfl (lv_at hl 2 rfl) ?_
  refine lv_bipush (v := 6) hx hb dX6_copyFrom_49 (by decide) ?_
  refine lv_icmp_ge (tgt := 84) hx hb dX6_copyFrom_51 (by decide) (fun c9 => ?_) (fun c9 => ?_)
  · rw [if_pos c9] at h
    refine lv_aload_n hx hb dX6_copyFrom_84 rfl (lv_at hl 0 rfl) ?_
    refine lv_aload_n hx hb dX6_copyFrom_85 rfl (lv_at hl 1 rfl) ?_
    refine va_get (D := D) (ci := 6) (v := .int (q.1 1 8)) (C := RX6) (T := TX6) (N := 10) hx hb hts u9_wsX6_copyFrom_X6 hown hK hP 1 rfl rfl 8 (by decide) (hts (.fieldLink RX6 44 "TurnedFloors$State" "lawCount" "I") f9_wsX6_copyFrom_946) (fun _ h9 => h9) rfl dX6_copyFrom_86 ?_
    refine va_put (D := D) (ci := 6) (v := .int (q.1 1 8)) (ty := .int) (C := RX6) (T := TX6) (N := 10) hx hb hts u9_wsX6_copyFrom_X6 tyX6 tyX6_ok nmX6 hown hK hP hD hS 56 rfl rfl 8 (by decide) (hts (.fieldLink RX6 44 "TurnedFloors$State" "lawCount" "I") f9_wsX6_copyFrom_946) (fun _ h9 => h9) rfl (by decide +kernel) rfl rfl (Nat.le_of_ble_eq_true rfl) dX6_copyFrom_89 (fun H locs hp hd hs => ?_)
    obtain ⟨q1, eq1, h⟩ := dL_some h
    refine kz_re (w2 := wF ty ad q1) hp hd hs (by rw [← eq1]; exact wF_f56_8 ty ad q (q.1 1 8)) ?_
    clear hp hd hs hP hD hS
    intro hP hD hS
    refine lv_iconst (v := 0) hx hb dX6_copyFrom_92 (by decide) ?_
    refine lv_istore_n (lv' := [(2, .int 0), (0, .ref (ad 56)), (1, .ref (ad 1))]) hx hb dX6_copyFrom_93 rfl hl (by decide) rfl (fun ls hl => ?_)
    exact WX6_copyFrom_s56_s1_94 C0  _ _ _ _ _ _ h hP hD hS (lv_sub hl [1, 2, 0] rfl)
  · rw [if_neg c9] at h
    refine lv_aload_n hx hb dX6_copyFrom_54 rfl (lv_at hl 0 rfl) ?_
    refine va_get (D := D) (ci := 6) (v := .ref (ad 60)) (C := RX6) (T := TX6) (N := 10) hx hb hts u9_wsX6_copyFrom_X6 hown hK hP 56 rfl rfl 4 (by decide) (hts (.fieldLink RX6 28 "TurnedFloors$State" "seenPlace" "[I") f9_wsX6_copyFrom_947) (fun _ h9 => h9) rfl dX6_copyFrom_55 ?_
    refine lv_iload_n hx hb dX6_copyFrom_58 rfl (lv_at hl 2 rfl) ?_
    refine lv_aload_n hx hb dX6_copyFrom_59 rfl (lv_at hl 1 rfl) ?_
    refine va_get (D := D) (ci := 6) (v := .ref (ad 5)) (C := RX6) (T := TX6) (N := 10) hx hb hts u9_wsX6_copyFrom_X6 hown hK hP 1 rfl rfl 4 (by decide) (hts (.fieldLink RX6 28 "TurnedFloors$State" "seenPlace" "[I") f9_wsX6_copyFrom_947) (fun _ h9 => h9) rfl dX6_copyFrom_60 ?_
    refine lv_iload_n hx hb dX6_copyFrom_63 rfl (lv_at hl 2 rfl) ?_
    obtain ⟨g2, h⟩ := dG_some h
    refine va_iald hx hb hK hP 5 0 rfl rfl (dg_in g2) dX6_copyFrom_64 ?_
    obtain ⟨v3, ev3, h⟩ := dL_some h
    refine kz_topi v3 ev3 ?_
    obtain ⟨g4, h⟩ := dG_some h
    refine va_iast hx hb hK hP hD hS 60 0 rfl rfl (dg_in g4) dX6_copyFrom_65 (fun H locs hp hd hs => ?_)
    obtain ⟨q5, eq5, h⟩ := dL_some h
    refine kz_re (w2 := wF ty ad q5) hp hd hs (by rw [← eq5]; exact wF_a60 ty ad q (Int32.toNatClampNeg x2) v3) ?_
    clear hp hd hs hP hD hS
    intro hP hD hS
    refine lv_aload_n hx hb dX6_copyFrom_66 rfl (lv_at hl 0 rfl) ?_
    refine va_get (D := D) (ci := 6) (v := .ref (ad 61)) (C := RX6) (T := TX6) (N := 10) hx hb hts u9_wsX6_copyFrom_X6 hown hK hP 56 rfl rfl 5 (by decide) (hts (.fieldLink RX6 32 "TurnedFloors$State" "seenRank" "[I") f9_wsX6_copyFrom_948) (fun _ h9 => h9) rfl dX6_copyFrom_67 ?_
    refine lv_iload_n hx hb dX6_copyFrom_70 rfl (lv_at hl 2 rfl) ?_
    refine lv_aload_n hx hb dX6_copyFrom_71 rfl (lv_at hl 1 rfl) ?_
    refine va_get (D := D) (ci := 6) (v := .ref (ad 6)) (C := RX6) (T := TX6) (N := 10) hx hb hts u9_wsX6_copyFrom_X6 hown hK hP 1 rfl rfl 5 (by decide) (hts (.fieldLink RX6 32 "TurnedFloors$State" "seenRank" "[I") f9_wsX6_copyFrom_948) (fun _ h9 => h9) rfl dX6_copyFrom_72 ?_
    refine lv_iload_n hx hb dX6_copyFrom_75 rfl (lv_at hl 2 rfl) ?_
    obtain ⟨g6, h⟩ := dG_some h
    refine va_iald hx hb hK hP 6 0 rfl rfl (dg_in g6) dX6_copyFrom_76 ?_
    obtain ⟨v7, ev7, h⟩ := dL_some h
    refine kz_topi v7 ev7 ?_
    obtain ⟨g8, h⟩ := dG_some h
    refine va_iast hx hb hK hP hD hS 61 0 rfl rfl (dg_in g8) dX6_copyFrom_77 (fun H locs hp hd hs => ?_)
    obtain ⟨q9, eq9, h⟩ := dL_some h
    refine kz_re (w2 := wF ty ad q9) hp hd hs (by rw [← eq9]; exact wF_a61 ty ad q5 (Int32.toNatClampNeg x2) v7) ?_
    clear hp hd hs hP hD hS
    intro hP hD hS
    refine lv_iinc (v := x2 + 1) (lv' := [(2, .int (x2 + 1)), (0, .ref (ad 56)), (1, .ref (ad 1))]) hx hb dX6_copyFrom_78 hl (k := 2) rfl rfl (by decide) rfl (fun ls hl => ?_)
    refine lv_goto (tgt := 48) hx hb dX6_copyFrom_81 (by decide) ?_
    exact hk48 _ _ _ _ _ h hP hD hS (lv_sub hl [1, 2, 0] rfl)
set_option maxHeartbeats 4000000 in
set_option maxRecDepth 100000 in
theorem WX6_copyFrom_s56_s1_48 {p : Program} {l : Launch} {e : Env} {s : State} {m : MethodId} {args : Array Value} {below : List Frame} {meth : Method} {c : Code} {D : va_G} {ty : Nat → ClassId} {eo : Nat → Nat} {A : Nat → Prop} {ad : Nat → Nat} {o2 : dK} (C : dc_C p s m args meth c cX6_copyFrom none 3 RX6 wsX6_copyFrom D ty eo A)   (n : Nat) (q : dK) (x2 : Int32) (H : Heap) (locs : List Loc) (ls : Array Slot) (h : zX6_copyFrom_s56_s1_48  n q x2 = some o2) (hP : va_P D vwCl (wF ty ad q) H) (hD : va_D A (wF ty ad q)) (hS : va_S A s.heap H locs) (hl : lv_has ls 3 [(0, .ref (ad 56)), (1, .ref (ad 1)), (2, .int x2)]) : W p l e ({ frames := 2, cells := 0, slots := 0, locals := 46 } : Room) s m args below meth c H locs 0 0 (MQ below (va_Qv (fun (u : va_W) => wF ty ad o2 = u) (kz_B D ty A) A) args s 0 0 A) (F0 m 48 ls []) := by
  exact dFix_W (F := fun k (a : dK × Int32) => zX6_copyFrom_s56_s1_48b  (fun q x2 => k (q, x2)) a.1 a.2) (o := o2) (P := fun (a : dK × Int32) H locs ls => va_P D vwCl (wF ty ad a.1) H ∧ va_D A (wF ty ad a.1) ∧ va_S A s.heap H locs ∧ lv_has ls 3 [(0, .ref (ad 56)), (1, .ref (ad 1)), (2, .int a.2)]) (G := fun H locs ls => W p l e ({ frames := 2, cells := 0, slots := 0, locals := 46 } : Room) s m args below meth c H locs 0 0 (MQ below (va_Qv (fun (u : va_W) => wF ty ad o2 = u) (kz_B D ty A) A) args s 0 0 A) (F0 m 48 ls []))
    (fun k hk a H locs ls h hp => WX6_copyFrom_s56_s1_48b C  (fun q x2 H locs ls h h1 h2 h3 h4 => hk (q, x2) H locs ls h ⟨h1, h2, h3, h4⟩) a.1 a.2 H locs ls h hp.1 hp.2.1 hp.2.2.1 hp.2.2.2) n (q, x2) H locs ls h ⟨hP, hD, hS, hl⟩
set_option maxHeartbeats 4000000 in
set_option maxRecDepth 100000 in
theorem qX6_copyFrom_s56_s1 (l : Launch) (D : va_G) (ty : Nat → ClassId) (eo : Nat → Nat) (sz : Nat) (ad : Nat → Nat) (q : dK)  (o2 : dK) (h : zX6_copyFrom_s56_s1 q = some o2) : Met l yX6_copyFrom wsX6_copyFrom ({ frames := 2, cells := 0, slots := 0, locals := 46 } : Room) (va_Pc [.ref (ad 56), .ref (ad 1)] (kz_pre D ty eo (wF ty ad q) sz)) (va_Qv (fun (u : va_W) => wF ty ad o2 = u) (kz_B D ty (va_A (wF ty ad q) sz)) (va_A (wF ty ad q) sz)) 0 0 (va_A (wF ty ad q) sz) := by
  refine Met.ofW (cc := cX6_copyFrom) (maxL := 3) (ret := none) (by decide) rfl ?_
  intro p e s m args below meth c s₁ B hml hv
  obtain ⟨rfl, hsz, hP, hK, hD0, hN, hE⟩ := hv
  have hx := B.exec
  have hb := B.bytes
  have hr := B.returns
  have hts := atoms_spec (ws := wsX6_copyFrom) B.pre
  have hown : s.vm.findClass RX6 = some m.cls := findClass_of_methodNamed B.named
  have hlocks := B.notSynchronized
  subst hsz
  have hD := hD0.self (sz := s.heap.size)
  generalize hAe : va_A (wF ty ad q) s.heap.size = A at hD hE ⊢
  have hA : ∀ q : Nat, s.heap.size ≤ q → A q := fun q h => by rw [← hAe]; exact Or.inr h
  clear hAe
  have hS : va_S A s.heap s.heap [] := va_S.rf
  have hl := lv_entry ([.ref (ad 56), .ref (ad 1)]) (n := 3) (Nat.le_of_ble_eq_true rfl)
  rw [lg_entry_eq]
  generalize (lg_sl ([.ref (ad 56), .ref (ad 1)]) ++ List.replicate (3 - (lg_sl ([.ref (ad 56), .ref (ad 1)])).length) Slot.unset).toArray = ls at hl ⊢
  have hl : lv_has ls 3 [(0, .ref (ad 56)), (1, .ref (ad 1))] := hl
  have C : dc_C p s m _ meth c cX6_copyFrom none 3 RX6 wsX6_copyFrom D ty eo A := ⟨hx, hb, hr, hts, hown, hlocks, hml, hK, hN, hE, hA⟩
  unfold zX6_copyFrom_s56_s1 at h
  refine lv_aload_n hx hb dX6_copyFrom_0 rfl (lv_at hl 0 rfl) ?_
  refine va_get (D := D) (ci := 6) (v := .ref (ad 57)) (C := RX6) (T := TX6) (N := 10) hx hb hts u9_wsX6_copyFrom_X6 hown hK hP 56 rfl rfl 0 (by decide) (hts (.fieldLink RX6 12 "TurnedFloors$State" "tower" "LTurnedFloors$Tower;") f9_wsX6_copyFrom_949) (fun _ h9 => h9) rfl dX6_copyFrom_1 ?_
  refine lv_aload_n hx hb dX6_copyFrom_4 rfl (lv_at hl 1 rfl) ?_
  refine va_get (D := D) (ci := 6) (v := .ref (ad 2)) (C := RX6) (T := TX6) (N := 10) hx hb hts u9_wsX6_copyFrom_X6 hown hK hP 1 rfl rfl 0 (by decide) (hts (.fieldLink RX6 12 "TurnedFloors$State" "tower" "LTurnedFloors$Tower;") f9_wsX6_copyFrom_949) (fun _ h9 => h9) rfl dX6_copyFrom_5 ?_
  obtain ⟨r1, q3, h2, h⟩ := dB_some h
  refine dw_kl (va_runV (As := []) (rest := [.ref (ad 57)]) ⟨hx, hb, hml, hown, hts⟩ (qX8_pack_s2 l D ty eo _ ad q  r1 q3 h2) (cwV 0 hts gX6_copyFrom_X8_pack rfl rfl rfl hd_X8_pack_v ⟨Nat.le_of_ble_eq_true rfl, Nat.le_of_ble_eq_true rfl⟩) (pvF_8_2 hK hN hE hP hD hS hA) rfl rfl hl.1 rfl (lv_room (Nat.le_of_ble_eq_true rfl)) dX6_copyFrom_8 ⟨Nat.le_of_ble_eq_true rfl, Nat.le_of_ble_eq_true rfl⟩) hD hS hA (fun r9 u9 H locs hw hp hd hs => ?_)
  clear hP hD hS
  obtain ⟨rfl, rfl⟩ := hw
  have hP := hp; have hD := hd; have hS := hs; clear hp hd hs
  obtain ⟨q6, h5, h⟩ := dV_some h
  refine dw_kv (va_runV (As := [.long r1]) (rest := []) ⟨hx, hb, hml, hown, hts⟩ (qX8_unpack_s57 l D ty eo _ ad q3 r1 q6 h5) (cwV 1 hts gX6_copyFrom_X8_unpack rfl rfl rfl hd_X8_unpack_v ⟨Nat.le_of_ble_eq_true rfl, Nat.le_of_ble_eq_true rfl⟩) (pvF_8_57 hK hN hE hP hD hS hA) rfl rfl hl.1 rfl (lv_room (Nat.le_of_ble_eq_true rfl)) dX6_copyFrom_11 ⟨Nat.le_of_ble_eq_true rfl, Nat.le_of_ble_eq_true rfl⟩) hD hS hA (fun u9 H locs hw hp hd hs => ?_)
  clear hP hD hS
  obtain rfl := hw
  have hP := hp; have hD := hd; have hS := hs; clear hp hd hs
  refine lv_aload_n hx hb dX6_copyFrom_14 rfl (lv_at hl 0 rfl) ?_
  refine lv_aload_n hx hb dX6_copyFrom_15 rfl (lv_at hl 1 rfl) ?_
  refine va_get (D := D) (ci := 6) (v := .int (q6.1 1 1)) (C := RX6) (T := TX6) (N := 10) hx hb hts u9_wsX6_copyFrom_X6 hown hK hP 1 rfl rfl 1 (by decide) (hts (.fieldLink RX6 18 "TurnedFloors$State" "slips" "I") f9_wsX6_copyFrom_950) (fun _ h9 => h9) rfl dX6_copyFrom_16 ?_
  refine va_put (D := D) (ci := 6) (v := .int (q6.1 1 1)) (ty := .int) (C := RX6) (T := TX6) (N := 10) hx hb hts u9_wsX6_copyFrom_X6 tyX6 tyX6_ok nmX6 hown hK hP hD hS 56 rfl rfl 1 (by decide) (hts (.fieldLink RX6 18 "TurnedFloors$State" "slips" "I") f9_wsX6_copyFrom_950) (fun _ h9 => h9) rfl (by decide +kernel) rfl rfl (Nat.le_of_ble_eq_true rfl) dX6_copyFrom_19 (fun H locs hp hd hs => ?_)
  obtain ⟨q7, eq7, h⟩ := dL_some h
  refine kz_re (w2 := wF ty ad q7) hp hd hs (by rw [← eq7]; exact wF_f56_1 ty ad q6 (q6.1 1 1)) ?_
  clear hp hd hs hP hD hS
  intro hP hD hS
  refine lv_aload_n hx hb dX6_copyFrom_22 rfl (lv_at hl 0 rfl) ?_
  refine lv_aload_n hx hb dX6_copyFrom_23 rfl (lv_at hl 1 rfl) ?_
  refine va_get (D := D) (ci := 6) (v := .int (q7.1 1 2)) (C := RX6) (T := TX6) (N := 10) hx hb hts u9_wsX6_copyFrom_X6 hown hK hP 1 rfl rfl 2 (by decide) (hts (.fieldLink RX6 22 "TurnedFloors$State" "mood" "I") f9_wsX6_copyFrom_951) (fun _ h9 => h9) rfl dX6_copyFrom_24 ?_
  refine va_put (D := D) (ci := 6) (v := .int (q7.1 1 2)) (ty := .int) (C := RX6) (T := TX6) (N := 10) hx hb hts u9_wsX6_copyFrom_X6 tyX6 tyX6_ok nmX6 hown hK hP hD hS 56 rfl rfl 2 (by decide) (hts (.fieldLink RX6 22 "TurnedFloors$State" "mood" "I") f9_wsX6_copyFrom_951) (fun _ h9 => h9) rfl (by decide +kernel) rfl rfl (Nat.le_of_ble_eq_true rfl) dX6_copyFrom_27 (fun H locs hp hd hs => ?_)
  obtain ⟨q8, eq8, h⟩ := dL_some h
  refine kz_re (w2 := wF ty ad q8) hp hd hs (by rw [← eq8]; exact wF_f56_2 ty ad q7 (q7.1 1 2)) ?_
  clear hp hd hs hP hD hS
  intro hP hD hS
  refine lv_aload_n hx hb dX6_copyFrom_30 rfl (lv_at hl 0 rfl) ?_
  refine lv_aload_n hx hb dX6_copyFrom_31 rfl (lv_at hl 1 rfl) ?_
  refine va_get (D := D) (ci := 6) (v := .int (q8.1 1 3)) (C := RX6) (T := TX6) (N := 10) hx hb hts u9_wsX6_copyFrom_X6 hown hK hP 1 rfl rfl 3 (by decide) (hts (.fieldLink RX6 25 "TurnedFloors$State" "headsMatter" "I") f9_wsX6_copyFrom_952) (fun _ h9 => h9) rfl dX6_copyFrom_32 ?_
  refine va_put (D := D) (ci := 6) (v := .int (q8.1 1 3)) (ty := .int) (C := RX6) (T := TX6) (N := 10) hx hb hts u9_wsX6_copyFrom_X6 tyX6 tyX6_ok nmX6 hown hK hP hD hS 56 rfl rfl 3 (by decide) (hts (.fieldLink RX6 25 "TurnedFloors$State" "headsMatter" "I") f9_wsX6_copyFrom_952) (fun _ h9 => h9) rfl (by decide +kernel) rfl rfl (Nat.le_of_ble_eq_true rfl) dX6_copyFrom_35 (fun H locs hp hd hs => ?_)
  obtain ⟨q9, eq9, h⟩ := dL_some h
  refine kz_re (w2 := wF ty ad q9) hp hd hs (by rw [← eq9]; exact wF_f56_3 ty ad q8 (q8.1 1 3)) ?_
  clear hp hd hs hP hD hS
  intro hP hD hS
  refine lv_aload_n hx hb dX6_copyFrom_38 rfl (lv_at hl 0 rfl) ?_
  refine lv_aload_n hx hb dX6_copyFrom_39 rfl (lv_at hl 1 rfl) ?_
  refine va_get (D := D) (ci := 6) (v := .int (q9.1 1 6)) (C := RX6) (T := TX6) (N := 10) hx hb hts u9_wsX6_copyFrom_X6 hown hK hP 1 rfl rfl 6 (by decide) (hts (.fieldLink RX6 35 "TurnedFloors$State" "seenCount" "I") f9_wsX6_copyFrom_953) (fun _ h9 => h9) rfl dX6_copyFrom_40 ?_
  refine va_put (D := D) (ci := 6) (v := .int (q9.1 1 6)) (ty := .int) (C := RX6) (T := TX6) (N := 10) hx hb hts u9_wsX6_copyFrom_X6 tyX6 tyX6_ok nmX6 hown hK hP hD hS 56 rfl rfl 6 (by decide) (hts (.fieldLink RX6 35 "TurnedFloors$State" "seenCount" "I") f9_wsX6_copyFrom_953) (fun _ h9 => h9) rfl (by decide +kernel) rfl rfl (Nat.le_of_ble_eq_true rfl) dX6_copyFrom_43 (fun H locs hp hd hs => ?_)
  obtain ⟨q10, eq10, h⟩ := dL_some h
  refine kz_re (w2 := wF ty ad q10) hp hd hs (by rw [← eq10]; exact wF_f56_6 ty ad q9 (q9.1 1 6)) ?_
  clear hp hd hs hP hD hS
  intro hP hD hS
  refine lv_iconst (v := 0) hx hb dX6_copyFrom_46 (by decide) ?_
  refine lv_istore_n (lv' := [(2, .int 0), (0, .ref (ad 56)), (1, .ref (ad 1))]) hx hb dX6_copyFrom_47 rfl hl (by decide) rfl (fun ls hl => ?_)
  exact WX6_copyFrom_s56_s1_48 C  _ _ _ _ _ _ h hP hD hS (lv_sub hl [1, 2, 0] rfl)

set_option maxHeartbeats 4000000 in
set_option maxRecDepth 100000 in
theorem qX9_image_s0 (l : Launch) (D : va_G) (ty : Nat → ClassId) (eo : Nat → Nat) (sz : Nat) (ad : Nat → Nat) (q : dK) (p1 : Int32) (o1 : Int32) (o2 : dK) (h : zX9_image_s0 q p1 = some (o1, o2)) : Met l yX9_image wsX9_image ({ frames := 3, cells := 0, slots := 0, locals := 68 } : Room) (va_Pc [.ref (ad 0), .int p1] (kz_pre D ty eo (wF ty ad q) sz)) (va_Qi (fun (r : Int32) (u : va_W) => o1 = r ∧ wF ty ad o2 = u) (kz_B D ty (va_A (wF ty ad q) sz)) (va_A (wF ty ad q) sz)) 0 0 (va_A (wF ty ad q) sz) := by
  refine Met.ofW (cc := cX9_image) (maxL := 2) (ret := (some .int)) (by decide) rfl ?_
  intro p e s m args below meth c s₁ B hml hv
  obtain ⟨rfl, hsz, hP, hK, hD0, hN, hE⟩ := hv
  have hx := B.exec
  have hb := B.bytes
  have hr := B.returns
  have hts := atoms_spec (ws := wsX9_image) B.pre
  have hown : s.vm.findClass RX9 = some m.cls := findClass_of_methodNamed B.named
  have hlocks := B.notSynchronized
  subst hsz
  have hD := hD0.self (sz := s.heap.size)
  generalize hAe : va_A (wF ty ad q) s.heap.size = A at hD hE ⊢
  have hA : ∀ q : Nat, s.heap.size ≤ q → A q := fun q h => by rw [← hAe]; exact Or.inr h
  clear hAe
  have hS : va_S A s.heap s.heap [] := va_S.rf
  have hl := lv_entry ([.ref (ad 0), .int p1]) (n := 2) (Nat.le_of_ble_eq_true rfl)
  rw [lg_entry_eq]
  generalize (lg_sl ([.ref (ad 0), .int p1]) ++ List.replicate (2 - (lg_sl ([.ref (ad 0), .int p1])).length) Slot.unset).toArray = ls at hl ⊢
  have hl : lv_has ls 2 [(0, .ref (ad 0)), (1, .int p1)] := hl
  have C : dc_C p s m _ meth c cX9_image (some .int) 2 RX9 wsX9_image D ty eo A := ⟨hx, hb, hr, hts, hown, hlocks, hml, hK, hN, hE, hA⟩
  unfold zX9_image_s0 at h
  refine lv_iload_n hx hb dX9_image_0 rfl (lv_at hl 1 rfl) ?_
  obtain ⟨r1, h2, h⟩ := dV_some h
  refine dw_ks (va_runS (As := [.int p1]) (rest := []) ⟨hx, hb, hml, hown, hts⟩ (qX9_isImage l D ty eo _ p1 _ h2) (va_cwS 1 hts gX9_image_X9_isImage rfl rfl rfl hd_X9_isImage ⟨Nat.le_of_ble_eq_true rfl, Nat.le_of_ble_eq_true rfl⟩) (pvS_0 hK hN hE hP hD hS hA) rfl rfl hl.1 rfl (lv_room (Nat.le_of_ble_eq_true rfl)) dX9_image_1 ⟨Nat.le_of_ble_eq_true rfl, Nat.le_of_ble_eq_true rfl⟩) hP hD hS hA (fun _ _ h9 => h9.2.symm) (fun r9 u9 H locs hw hp hd hs => ?_)
  obtain ⟨rfl, -⟩ := hw
  clear hP hD hS
  have hP := hp; have hD := hd; have hS := hs; clear hp hd hs
  refine lv_if_ne (tgt := 13) hx hb dX9_image_4 (by decide) (fun c9 => ?_) (fun c9 => ?_)
  · rw [if_neg c9] at h
    refine lv_aload_n hx hb dX9_image_13 rfl (lv_at hl 0 rfl) ?_
    refine va_get (D := D) (ci := 9) (v := .ref (ad 8)) (C := RX9) (T := TX9) (N := 19) hx hb hts u9_wsX9_image_X9 hown hK hP 0 rfl rfl 1 (by decide) (hts (.fieldLink RX9 16 "TurnedFloors" "images" "[LTurnedFloors$State;") f9_wsX9_image_955) (fun _ h9 => h9) rfl dX9_image_14 ?_
    refine lv_iload_n hx hb dX9_image_17 rfl (lv_at hl 1 rfl) ?_
    obtain ⟨g3, h⟩ := dG_some h
    refine va_aldq hx hb hK hP 8 4 rfl rfl (dg_in g3) dX9_image_18 ?_
    by_cases c4 : p1 = 0
    · rw [if_pos c4] at h
      refine kz_topv (y := .ref (ad 49)) (by rw [c4]; rfl) ?_
      refine lv_aload_n hx hb dX9_image_19 rfl (lv_at hl 0 rfl) ?_
      refine va_get (D := D) (ci := 9) (v := .ref (ad 1)) (C := RX9) (T := TX9) (N := 19) hx hb hts u9_wsX9_image_X9 hown hK hP 0 rfl rfl 0 (by decide) (hts (.fieldLink RX9 10 "TurnedFloors" "state" "LTurnedFloors$State;") f9_wsX9_image_956) (fun _ h9 => h9) rfl dX9_image_20 ?_
      obtain ⟨q7, h6, h⟩ := dV_some h
      refine dw_kv (va_runV (As := [.ref (ad 1)]) (rest := []) ⟨hx, hb, hml, hown, hts⟩ (qX6_copyFrom_s49_s1 l D ty eo _ ad q  q7 h6) (cwV 1 hts gX9_image_X6_copyFrom rfl rfl rfl hd_X6_copyFrom_v ⟨Nat.le_of_ble_eq_true rfl, Nat.le_of_ble_eq_true rfl⟩) (pvF_6_49 hK hN hE hP hD hS hA) rfl rfl hl.1 rfl (lv_room (Nat.le_of_ble_eq_true rfl)) dX9_image_23 ⟨Nat.le_of_ble_eq_true rfl, Nat.le_of_ble_eq_true rfl⟩) hD hS hA (fun u9 H locs hw hp hd hs => ?_)
      clear hP hD hS
      obtain rfl := hw
      have hP := hp; have hD := hd; have hS := hs; clear hp hd hs
      refine lv_aload_n hx hb dX9_image_26 rfl (lv_at hl 0 rfl) ?_
      refine va_get (D := D) (ci := 9) (v := .ref (ad 9)) (C := RX9) (T := TX9) (N := 19) hx hb hts u9_wsX9_image_X9 hown hK hP 0 rfl rfl 2 (by decide) (hts (.fieldLink RX9 20 "TurnedFloors" "kept" "[Z") f9_wsX9_image_957) (fun _ h9 => h9) rfl dX9_image_27 ?_
      refine lv_iload_n hx hb dX9_image_30 rfl (lv_at hl 1 rfl) ?_
      refine lv_iconst (v := 1) hx hb dX9_image_31 (by decide) ?_
      obtain ⟨g8, h⟩ := dG_some h
      refine va_zast hx hb hK hP hD hS 9 2 rfl rfl (dg_in g8) dX9_image_32 (fun H locs hp hd hs => ?_)
      obtain ⟨q9, eq9, h⟩ := dL_some h
      refine kz_re (w2 := wF ty ad q9) hp hd hs (by rw [← eq9]; exact wF_a9 ty ad q7 (Int32.toNatClampNeg p1) (vp_nar .boolean 1)) ?_
      clear hp hd hs hP hD hS
      intro hP hD hS
      refine lv_aload_n hx hb dX9_image_33 rfl (lv_at hl 0 rfl) ?_
      refine lv_iconst (v := 0) hx hb dX9_image_34 (by decide) ?_
      obtain ⟨r10, q12, h11, h⟩ := dB_some h
      refine dw_ki (va_runV (As := [.int 0]) (rest := []) ⟨hx, hb, hml, hown, hts⟩ (qX9_accept_s0 l D ty eo _ ad q9 0 r10 q12 h11) (cwV 1 hts gX9_image_X9_accept rfl rfl rfl hd_X9_accept_v ⟨Nat.le_of_ble_eq_true rfl, Nat.le_of_ble_eq_true rfl⟩) (pvF_9_0 hK hN hE hP hD hS hA) rfl rfl hl.1 rfl (lv_room (Nat.le_of_ble_eq_true rfl)) dX9_image_35 ⟨Nat.le_of_ble_eq_true rfl, Nat.le_of_ble_eq_true rfl⟩) hD hS hA (fun r9 u9 H locs hw hp hd hs => ?_)
      clear hP hD hS
      obtain ⟨rfl, rfl⟩ := hw
      have hP := hp; have hD := hd; have hS := hs; clear hp hd hs
      cases h
      exact kz_iret hx hb hr hlocks hP hK hD hS dX9_image_38 ⟨rfl, rfl⟩
    · rw [if_neg c4] at h
      obtain ⟨g13, h⟩ := dG_some h
      refine kz_topv (y := .ref (ad 56)) (by rw [of_decide_eq_true g13]; rfl) ?_
      refine lv_aload_n hx hb dX9_image_19 rfl (lv_at hl 0 rfl) ?_
      refine va_get (D := D) (ci := 9) (v := .ref (ad 1)) (C := RX9) (T := TX9) (N := 19) hx hb hts u9_wsX9_image_X9 hown hK hP 0 rfl rfl 0 (by decide) (hts (.fieldLink RX9 10 "TurnedFloors" "state" "LTurnedFloors$State;") f9_wsX9_image_956) (fun _ h9 => h9) rfl dX9_image_20 ?_
      obtain ⟨q16, h15, h⟩ := dV_some h
      refine dw_kv (va_runV (As := [.ref (ad 1)]) (rest := []) ⟨hx, hb, hml, hown, hts⟩ (qX6_copyFrom_s56_s1 l D ty eo _ ad q  q16 h15) (cwV 1 hts gX9_image_X6_copyFrom rfl rfl rfl hd_X6_copyFrom_v ⟨Nat.le_of_ble_eq_true rfl, Nat.le_of_ble_eq_true rfl⟩) (pvF_6_56 hK hN hE hP hD hS hA) rfl rfl hl.1 rfl (lv_room (Nat.le_of_ble_eq_true rfl)) dX9_image_23 ⟨Nat.le_of_ble_eq_true rfl, Nat.le_of_ble_eq_true rfl⟩) hD hS hA (fun u9 H locs hw hp hd hs => ?_)
      clear hP hD hS
      obtain rfl := hw
      have hP := hp; have hD := hd; have hS := hs; clear hp hd hs
      refine lv_aload_n hx hb dX9_image_26 rfl (lv_at hl 0 rfl) ?_
      refine va_get (D := D) (ci := 9) (v := .ref (ad 9)) (C := RX9) (T := TX9) (N := 19) hx hb hts u9_wsX9_image_X9 hown hK hP 0 rfl rfl 2 (by decide) (hts (.fieldLink RX9 20 "TurnedFloors" "kept" "[Z") f9_wsX9_image_957) (fun _ h9 => h9) rfl dX9_image_27 ?_
      refine lv_iload_n hx hb dX9_image_30 rfl (lv_at hl 1 rfl) ?_
      refine lv_iconst (v := 1) hx hb dX9_image_31 (by decide) ?_
      obtain ⟨g17, h⟩ := dG_some h
      refine va_zast hx hb hK hP hD hS 9 2 rfl rfl (dg_in g17) dX9_image_32 (fun H locs hp hd hs => ?_)
      obtain ⟨q18, eq18, h⟩ := dL_some h
      refine kz_re (w2 := wF ty ad q18) hp hd hs (by rw [← eq18]; exact wF_a9 ty ad q16 (Int32.toNatClampNeg p1) (vp_nar .boolean 1)) ?_
      clear hp hd hs hP hD hS
      intro hP hD hS
      refine lv_aload_n hx hb dX9_image_33 rfl (lv_at hl 0 rfl) ?_
      refine lv_iconst (v := 0) hx hb dX9_image_34 (by decide) ?_
      obtain ⟨r19, q21, h20, h⟩ := dB_some h
      refine dw_ki (va_runV (As := [.int 0]) (rest := []) ⟨hx, hb, hml, hown, hts⟩ (qX9_accept_s0 l D ty eo _ ad q18 0 r19 q21 h20) (cwV 1 hts gX9_image_X9_accept rfl rfl rfl hd_X9_accept_v ⟨Nat.le_of_ble_eq_true rfl, Nat.le_of_ble_eq_true rfl⟩) (pvF_9_0 hK hN hE hP hD hS hA) rfl rfl hl.1 rfl (lv_room (Nat.le_of_ble_eq_true rfl)) dX9_image_35 ⟨Nat.le_of_ble_eq_true rfl, Nat.le_of_ble_eq_true rfl⟩) hD hS hA (fun r9 u9 H locs hw hp hd hs => ?_)
      clear hP hD hS
      obtain ⟨rfl, rfl⟩ := hw
      have hP := hp; have hD := hd; have hS := hs; clear hp hd hs
      cases h
      exact kz_iret hx hb hr hlocks hP hK hD hS dX9_image_38 ⟨rfl, rfl⟩
  · rw [if_pos c9] at h
    refine lv_aload_n hx hb dX9_image_7 rfl (lv_at hl 0 rfl) ?_
    refine lv_iconst (v := (-1)) hx hb dX9_image_8 (by decide) ?_
    obtain ⟨r22, q24, h23, h⟩ := dB_some h
    refine dw_ki (va_runV (As := [.int (-1)]) (rest := []) ⟨hx, hb, hml, hown, hts⟩ (qX9_refuse_s0 l D ty eo _ ad q (-1) r22 q24 h23) (cwV 1 hts gX9_image_X9_refuse rfl rfl rfl hd_X9_refuse_v ⟨Nat.le_of_ble_eq_true rfl, Nat.le_of_ble_eq_true rfl⟩) (pvF_9_0 hK hN hE hP hD hS hA) rfl rfl hl.1 rfl (lv_room (Nat.le_of_ble_eq_true rfl)) dX9_image_9 ⟨Nat.le_of_ble_eq_true rfl, Nat.le_of_ble_eq_true rfl⟩) hD hS hA (fun r9 u9 H locs hw hp hd hs => ?_)
    clear hP hD hS
    obtain ⟨rfl, rfl⟩ := hw
    have hP := hp; have hD := hd; have hS := hs; clear hp hd hs
    cases h
    exact kz_iret hx hb hr hlocks hP hK hD hS dX9_image_12 ⟨rfl, rfl⟩

set_option maxHeartbeats 4000000 in
set_option maxRecDepth 100000 in
theorem WX8_pack_s50_8b {p : Program} {l : Launch} {e : Env} {s : State} {m : MethodId} {args : Array Value} {below : List Frame} {meth : Method} {c : Code} {D : va_G} {ty : Nat → ClassId} {eo : Nat → Nat} {A : Nat → Prop} {ad : Nat → Nat} {o1 : Int64} {o2 : dK} (C : dc_C p s m args meth c cX8_pack (some .long) 4 RX8 wsX8_pack D ty eo A) {k8 : dK → Int64 → Int32 → Option (Int64 × dK)} (hk8 : ∀ (q : dK) (x1 : Int64) (x3 : Int32) (H : Heap) (locs : List Loc) (ls : Array Slot), k8 q x1 x3 = some (o1, o2) → va_P D vwCl (wF ty ad q) H → va_D A (wF ty ad q) → va_S A s.heap H locs → lv_has ls 4 [(0, .ref (ad 50)), (1, .long x1), (3, .int x3)] → W p l e ({ frames := 0, cells := 0, slots := 0, locals := 0 } : Room) s m args below meth c H locs 0 0 (MQ below (va_Ql (fun (r : Int64) (u : va_W) => o1 = r ∧ wF ty ad o2 = u) (kz_B D ty A) A) args s 0 0 A) (F0 m 8 ls [])) (q : dK) (x1 : Int64) (x3 : Int32) (H : Heap) (locs : List Loc) (ls : Array Slot) (h : zX8_pack_s50_8b k8 q x1 x3 = some (o1, o2)) (hP : va_P D vwCl (wF ty ad q) H) (hD : va_D A (wF ty ad q)) (hS : va_S A s.heap H locs) (hl : lv_has ls 4 [(0, .ref (ad 50)), (1, .long x1), (3, .int x3)]) : W p l e ({ frames := 0, cells := 0, slots := 0, locals := 0 } : Room) s m args below meth c H locs 0 0 (MQ below (va_Ql (fun (r : Int64) (u : va_W) => o1 = r ∧ wF ty ad o2 = u) (kz_B D ty A) A) args s 0 0 A) (F0 m 8 ls []) := by
  have C0 := C
  obtain ⟨hx, hb, hr, hts, hown, hlocks, hml, hK, hN, hE, hA⟩ := C
  unfold zX8_pack_s50_8b at h
  refine lv_iload_n hx hb dX8_pack_8 rfl (lv_at hl 2 rfl) ?_
  refine lv_bipush (v := 6) hx hb dX8_pack_9 (by decide) ?_
  refine lv_icmp_ge (tgt := 42) hx hb dX8_pack_11 (by decide) (fun c9 => ?_) (fun c9 => ?_)
  · rw [if_pos c9] at h
    refine lv_lload_n hx hb dX8_pack_42 rfl (lv_at hl 1 rfl) ?_
    refine lv_bipush (v := 14) hx hb dX8_pack_43 (by decide) ?_
    refine lv_lshl (v := x1 <<< (Int32.toInt64 (14 : Int32) &&& 63)) hx hb dX8_pack_45 rfl ?_
    refine lv_aload_n hx hb dX8_pack_46 rfl (lv_at hl 0 rfl) ?_
    refine va_get (D := D) (ci := 8) (v := .int (q.1 50 3)) (C := RX8) (T := TX8) (N := 5) hx hb hts u9_wsX8_pack_X8 hown hK hP 50 rfl rfl 3 (by decide) (hts (.fieldLink RX8 22 "TurnedFloors$Tower" "paid" "I") f9_wsX8_pack_589) (fun _ h9 => h9) rfl dX8_pack_47 ?_
    refine lv_i2l (v := Int32.toInt64 (q.1 50 3)) hx hb dX8_pack_50 rfl ?_
    refine lv_lor hx hb dX8_pack_51 ?_
    obtain ⟨v1, ev1, h⟩ := dL_some h
    refine kz_topl v1 ev1 ?_
    refine lv_bipush (v := 10) hx hb dX8_pack_52 (by decide) ?_
    refine lv_lshl (v := v1 <<< (Int32.toInt64 (10 : Int32) &&& 63)) hx hb dX8_pack_54 rfl ?_
    refine lv_aload_n hx hb dX8_pack_55 rfl (lv_at hl 0 rfl) ?_
    refine va_get (D := D) (ci := 8) (v := .int (q.1 50 4)) (C := RX8) (T := TX8) (N := 5) hx hb hts u9_wsX8_pack_X8 hown hK hP 50 rfl rfl 4 (by decide) (hts (.fieldLink RX8 25 "TurnedFloors$Tower" "year" "I") f9_wsX8_pack_590) (fun _ h9 => h9) rfl dX8_pack_56 ?_
    refine lv_i2l (v := Int32.toInt64 (q.1 50 4)) hx hb dX8_pack_59 rfl ?_
    refine lv_lor hx hb dX8_pack_60 ?_
    obtain ⟨v2, ev2, h⟩ := dL_some h
    refine kz_topl v2 ev2 ?_
    cases h
    exact kz_lret hx hb hr hlocks hP hK hD hS dX8_pack_61 ⟨rfl, rfl⟩
  · rw [if_neg c9] at h
    refine lv_lload_n hx hb dX8_pack_14 rfl (lv_at hl 1 rfl) ?_
    refine lv_iconst (v := 4) hx hb dX8_pack_15 (by decide) ?_
    refine lv_lshl (v := x1 <<< (Int32.toInt64 (4 : Int32) &&& 63)) hx hb dX8_pack_16 rfl ?_
    refine lv_aload_n hx hb dX8_pack_17 rfl (lv_at hl 0 rfl) ?_
    refine va_get (D := D) (ci := 8) (v := .ref (ad 51)) (C := RX8) (T := TX8) (N := 5) hx hb hts u9_wsX8_pack_X8 hown hK hP 50 rfl rfl 0 (by decide) (hts (.fieldLink RX8 9 "TurnedFloors$Tower" "rank" "[I") f9_wsX8_pack_591) (fun _ h9 => h9) rfl dX8_pack_18 ?_
    refine lv_iload_n hx hb dX8_pack_21 rfl (lv_at hl 2 rfl) ?_
    obtain ⟨g3, h⟩ := dG_some h
    refine va_iald hx hb hK hP 51 0 rfl rfl (dg_in g3) dX8_pack_22 ?_
    obtain ⟨v4, ev4, h⟩ := dL_some h
    refine kz_topi v4 ev4 ?_
    refine lv_iconst (v := 1) hx hb dX8_pack_23 (by decide) ?_
    refine lv_ishl hx hb dX8_pack_24 ?_
    refine lv_i2l (v := Int32.toInt64 (v4 <<< ((1 : Int32) &&& 31) : Int32)) hx hb dX8_pack_25 rfl ?_
    refine lv_lor hx hb dX8_pack_26 ?_
    obtain ⟨v5, ev5, h⟩ := dL_some h
    refine kz_topl v5 ev5 ?_
    refine lv_aload_n hx hb dX8_pack_27 rfl (lv_at hl 0 rfl) ?_
    refine va_get (D := D) (ci := 8) (v := .ref (ad 52)) (C := RX8) (T := TX8) (N := 5) hx hb hts u9_wsX8_pack_X8 hown hK hP 50 rfl rfl 1 (by decide) (hts (.fieldLink RX8 15 "TurnedFloors$Tower" "head" "[I") f9_wsX8_pack_592) (fun _ h9 => h9) rfl dX8_pack_28 ?_
    refine lv_iload_n hx hb dX8_pack_31 rfl (lv_at hl 2 rfl) ?_
    obtain ⟨g6, h⟩ := dG_some h
    refine va_iald hx hb hK hP 52 0 rfl rfl (dg_in g6) dX8_pack_32 ?_
    obtain ⟨v7, ev7, h⟩ := dL_some h
    refine kz_topi v7 ev7 ?_
    refine lv_i2l (v := Int32.toInt64 v7) hx hb dX8_pack_33 rfl ?_
    refine lv_lor hx hb dX8_pack_34 ?_
    refine lv_lstore_n (lv' := [(1, .long (v5 ||| (Int32.toInt64 v7) : Int64)), (0, .ref (ad 50)), (3, .int x3)]) hx hb dX8_pack_35 rfl hl (by decide) rfl (fun ls hl => ?_)
    refine lv_iinc (v := x3 + 1) (lv' := [(3, .int (x3 + 1)), (1, .long (v5 ||| (Int32.toInt64 v7) : Int64)), (0, .ref (ad 50))]) hx hb dX8_pack_36 hl (k := 2) rfl rfl (by decide) rfl (fun ls hl => ?_)
    refine lv_goto (tgt := 8) hx hb dX8_pack_39 (by decide) ?_
    exact hk8 _ _ _ _ _ _ h hP hD hS (lv_sub hl [2, 1, 0] rfl)
set_option maxHeartbeats 4000000 in
set_option maxRecDepth 100000 in
theorem WX8_pack_s50_8 {p : Program} {l : Launch} {e : Env} {s : State} {m : MethodId} {args : Array Value} {below : List Frame} {meth : Method} {c : Code} {D : va_G} {ty : Nat → ClassId} {eo : Nat → Nat} {A : Nat → Prop} {ad : Nat → Nat} {o1 : Int64} {o2 : dK} (C : dc_C p s m args meth c cX8_pack (some .long) 4 RX8 wsX8_pack D ty eo A)   (n : Nat) (q : dK) (x1 : Int64) (x3 : Int32) (H : Heap) (locs : List Loc) (ls : Array Slot) (h : zX8_pack_s50_8  n q x1 x3 = some (o1, o2)) (hP : va_P D vwCl (wF ty ad q) H) (hD : va_D A (wF ty ad q)) (hS : va_S A s.heap H locs) (hl : lv_has ls 4 [(0, .ref (ad 50)), (1, .long x1), (3, .int x3)]) : W p l e ({ frames := 0, cells := 0, slots := 0, locals := 0 } : Room) s m args below meth c H locs 0 0 (MQ below (va_Ql (fun (r : Int64) (u : va_W) => o1 = r ∧ wF ty ad o2 = u) (kz_B D ty A) A) args s 0 0 A) (F0 m 8 ls []) := by
  exact dFix_W (F := fun k (a : dK × Int64 × Int32) => zX8_pack_s50_8b  (fun q x1 x3 => k (q, x1, x3)) a.1 a.2.1 a.2.2) (o := (o1, o2)) (P := fun (a : dK × Int64 × Int32) H locs ls => va_P D vwCl (wF ty ad a.1) H ∧ va_D A (wF ty ad a.1) ∧ va_S A s.heap H locs ∧ lv_has ls 4 [(0, .ref (ad 50)), (1, .long a.2.1), (3, .int a.2.2)]) (G := fun H locs ls => W p l e ({ frames := 0, cells := 0, slots := 0, locals := 0 } : Room) s m args below meth c H locs 0 0 (MQ below (va_Ql (fun (r : Int64) (u : va_W) => o1 = r ∧ wF ty ad o2 = u) (kz_B D ty A) A) args s 0 0 A) (F0 m 8 ls []))
    (fun k hk a H locs ls h hp => WX8_pack_s50_8b C  (fun q x1 x3 H locs ls h h1 h2 h3 h4 => hk (q, x1, x3) H locs ls h ⟨h1, h2, h3, h4⟩) a.1 a.2.1 a.2.2 H locs ls h hp.1 hp.2.1 hp.2.2.1 hp.2.2.2) n (q, x1, x3) H locs ls h ⟨hP, hD, hS, hl⟩
set_option maxHeartbeats 4000000 in
set_option maxRecDepth 100000 in
theorem qX8_pack_s50 (l : Launch) (D : va_G) (ty : Nat → ClassId) (eo : Nat → Nat) (sz : Nat) (ad : Nat → Nat) (q : dK)  (o1 : Int64) (o2 : dK) (h : zX8_pack_s50 q = some (o1, o2)) : Met l yX8_pack wsX8_pack ({ frames := 0, cells := 0, slots := 0, locals := 0 } : Room) (va_Pc [.ref (ad 50)] (kz_pre D ty eo (wF ty ad q) sz)) (va_Ql (fun (r : Int64) (u : va_W) => o1 = r ∧ wF ty ad o2 = u) (kz_B D ty (va_A (wF ty ad q) sz)) (va_A (wF ty ad q) sz)) 0 0 (va_A (wF ty ad q) sz) := by
  refine Met.ofW (cc := cX8_pack) (maxL := 4) (ret := (some .long)) (by decide) rfl ?_
  intro p e s m args below meth c s₁ B hml hv
  obtain ⟨rfl, hsz, hP, hK, hD0, hN, hE⟩ := hv
  have hx := B.exec
  have hb := B.bytes
  have hr := B.returns
  have hts := atoms_spec (ws := wsX8_pack) B.pre
  have hown : s.vm.findClass RX8 = some m.cls := findClass_of_methodNamed B.named
  have hlocks := B.notSynchronized
  subst hsz
  have hD := hD0.self (sz := s.heap.size)
  generalize hAe : va_A (wF ty ad q) s.heap.size = A at hD hE ⊢
  have hA : ∀ q : Nat, s.heap.size ≤ q → A q := fun q h => by rw [← hAe]; exact Or.inr h
  clear hAe
  have hS : va_S A s.heap s.heap [] := va_S.rf
  have hl := lv_entry ([.ref (ad 50)]) (n := 4) (Nat.le_of_ble_eq_true rfl)
  rw [lg_entry_eq]
  generalize (lg_sl ([.ref (ad 50)]) ++ List.replicate (4 - (lg_sl ([.ref (ad 50)])).length) Slot.unset).toArray = ls at hl ⊢
  have hl : lv_has ls 4 [(0, .ref (ad 50))] := hl
  have C : dc_C p s m _ meth c cX8_pack (some .long) 4 RX8 wsX8_pack D ty eo A := ⟨hx, hb, hr, hts, hown, hlocks, hml, hK, hN, hE, hA⟩
  unfold zX8_pack_s50 at h
  refine lv_aload_n hx hb dX8_pack_0 rfl (lv_at hl 0 rfl) ?_
  refine va_get (D := D) (ci := 8) (v := .int (q.1 50 2)) (C := RX8) (T := TX8) (N := 5) hx hb hts u9_wsX8_pack_X8 hown hK hP 50 rfl rfl 2 (by decide) (hts (.fieldLink RX8 18 "TurnedFloors$Tower" "floors" "I") f9_wsX8_pack_593) (fun _ h9 => h9) rfl dX8_pack_1 ?_
  refine lv_i2l (v := Int32.toInt64 (q.1 50 2)) hx hb dX8_pack_4 rfl ?_
  refine lv_lstore_n (lv' := [(1, .long (Int32.toInt64 (q.1 50 2))), (0, .ref (ad 50))]) hx hb dX8_pack_5 rfl hl (by decide) rfl (fun ls hl => ?_)
  refine lv_iconst (v := 0) hx hb dX8_pack_6 (by decide) ?_
  refine lv_istore_n (lv' := [(3, .int 0), (1, .long (Int32.toInt64 (q.1 50 2))), (0, .ref (ad 50))]) hx hb dX8_pack_7 rfl hl (by decide) rfl (fun ls hl => ?_)
  exact WX8_pack_s50_8 C  _ _ _ _ _ _ _ h hP hD hS (lv_sub hl [2, 1, 0] rfl)
end
section
theorem da9_dX8_onHeads_0 : (decode cX8_onHeads 0 = .ok (.iconst 0, 1)) ∧ (decode cX8_onHeads 1 = .ok (.istore_n 1, 1)) ∧ (decode cX8_onHeads 2 = .ok (.iconst 0, 1)) ∧ (decode cX8_onHeads 3 = .ok (.istore_n 2, 1)) ∧ (decode cX8_onHeads 4 = .ok (.iload_n 2, 1)) ∧ (decode cX8_onHeads 5 = .ok (.aload_n 0, 1)) ∧ (decode cX8_onHeads 6 = .ok (.getfield 18, 3)) ∧ (decode cX8_onHeads 9 = .ok (.if_icmp .ge 18, 3)) ∧ (decode cX8_onHeads 12 = .ok (.iload_n 1, 1)) ∧ (decode cX8_onHeads 13 = .ok (.aload_n 0, 1)) ∧ (decode cX8_onHeads 14 = .ok (.getfield 15, 3)) ∧ (decode cX8_onHeads 17 = .ok (.iload_n 2, 1)) ∧ (decode cX8_onHeads 18 = .ok (.iaload, 1)) ∧ (decode cX8_onHeads 19 = .ok (.iadd, 1)) ∧ (decode cX8_onHeads 20 = .ok (.istore_n 1, 1)) ∧ (decode cX8_onHeads 21 = .ok (.iinc 2 1, 3)) := by decide +kernel
theorem dX8_onHeads_0 : decode cX8_onHeads 0 = .ok (.iconst 0, 1) := da9_dX8_onHeads_0.1
theorem dX8_onHeads_1 : decode cX8_onHeads 1 = .ok (.istore_n 1, 1) := da9_dX8_onHeads_0.2.1
theorem dX8_onHeads_2 : decode cX8_onHeads 2 = .ok (.iconst 0, 1) := da9_dX8_onHeads_0.2.2.1
theorem dX8_onHeads_3 : decode cX8_onHeads 3 = .ok (.istore_n 2, 1) := da9_dX8_onHeads_0.2.2.2.1
theorem dX8_onHeads_4 : decode cX8_onHeads 4 = .ok (.iload_n 2, 1) := da9_dX8_onHeads_0.2.2.2.2.1
theorem dX8_onHeads_5 : decode cX8_onHeads 5 = .ok (.aload_n 0, 1) := da9_dX8_onHeads_0.2.2.2.2.2.1
theorem dX8_onHeads_6 : decode cX8_onHeads 6 = .ok (.getfield 18, 3) := da9_dX8_onHeads_0.2.2.2.2.2.2.1
theorem dX8_onHeads_9 : decode cX8_onHeads 9 = .ok (.if_icmp .ge 18, 3) := da9_dX8_onHeads_0.2.2.2.2.2.2.2.1
theorem dX8_onHeads_12 : decode cX8_onHeads 12 = .ok (.iload_n 1, 1) := da9_dX8_onHeads_0.2.2.2.2.2.2.2.2.1
theorem dX8_onHeads_13 : decode cX8_onHeads 13 = .ok (.aload_n 0, 1) := da9_dX8_onHeads_0.2.2.2.2.2.2.2.2.2.1
theorem dX8_onHeads_14 : decode cX8_onHeads 14 = .ok (.getfield 15, 3) := da9_dX8_onHeads_0.2.2.2.2.2.2.2.2.2.2.1
theorem dX8_onHeads_17 : decode cX8_onHeads 17 = .ok (.iload_n 2, 1) := da9_dX8_onHeads_0.2.2.2.2.2.2.2.2.2.2.2.1
theorem dX8_onHeads_18 : decode cX8_onHeads 18 = .ok (.iaload, 1) := da9_dX8_onHeads_0.2.2.2.2.2.2.2.2.2.2.2.2.1
theorem dX8_onHeads_19 : decode cX8_onHeads 19 = .ok (.iadd, 1) := da9_dX8_onHeads_0.2.2.2.2.2.2.2.2.2.2.2.2.2.1
theorem dX8_onHeads_20 : decode cX8_onHeads 20 = .ok (.istore_n 1, 1) := da9_dX8_onHeads_0.2.2.2.2.2.2.2.2.2.2.2.2.2.2.1
theorem dX8_onHeads_21 : decode cX8_onHeads 21 = .ok (.iinc 2 1, 3) := da9_dX8_onHeads_0.2.2.2.2.2.2.2.2.2.2.2.2.2.2.2
theorem da9_dX8_onHeads_24 : (decode cX8_onHeads 24 = .ok (.goto (-20), 3)) ∧ (decode cX8_onHeads 27 = .ok (.iload_n 1, 1)) ∧ (decode cX8_onHeads 28 = .ok (.ireturn, 1)) := by decide +kernel
theorem dX8_onHeads_24 : decode cX8_onHeads 24 = .ok (.goto (-20), 3) := da9_dX8_onHeads_24.1
theorem dX8_onHeads_27 : decode cX8_onHeads 27 = .ok (.iload_n 1, 1) := da9_dX8_onHeads_24.2.1
theorem dX8_onHeads_28 : decode cX8_onHeads 28 = .ok (.ireturn, 1) := da9_dX8_onHeads_24.2.2
set_option maxRecDepth 20000 in
theorem ggX9_back_X9_isImage : GoodIn wsX9_back wsX9_isImage := wd_c vW9_ok mvW9_652
set_option maxRecDepth 20000 in
theorem gX9_back_X9_isImage : GoodIn wsX9_back (va_wsS RX9 332 yX9_isImage wsX9_isImage) := goodIn_app (wd_l vW9_ok _ pvW9_135) ggX9_back_X9_isImage
set_option maxRecDepth 20000 in
theorem ggX9_back_X9_refuse : GoodIn wsX9_back wsX9_refuse := wd_c vW9_ok mvW9_12
set_option maxRecDepth 20000 in
theorem gX9_back_X9_refuse : GoodIn wsX9_back (wsV RX9 118 RX9 yX9_refuse wsX9_refuse) := goodIn_app (wd_l vW9_ok _ pvW9_91) ggX9_back_X9_refuse
set_option maxRecDepth 20000 in
theorem ggX9_back_X6_copyFrom : GoodIn wsX9_back wsX6_copyFrom := wd_c vW9_ok mvW9_656
set_option maxRecDepth 20000 in
theorem gX9_back_X6_copyFrom : GoodIn wsX9_back (wsV RX9 335 RX6 yX6_copyFrom wsX6_copyFrom) := goodIn_app (wd_l vW9_ok _ pvW9_136) ggX9_back_X6_copyFrom
set_option maxRecDepth 20000 in
theorem ggX9_back_X0_clear : GoodIn wsX9_back wsX0_clear := wd_c vW9_ok mvW9_31
set_option maxRecDepth 20000 in
theorem gX9_back_X0_clear : GoodIn wsX9_back (wsV RX9 132 RX0 yX0_clear wsX0_clear) := goodIn_app (wd_l vW9_ok _ pvW9_94) ggX9_back_X0_clear
set_option maxRecDepth 20000 in
theorem ggX9_back_X9_accept : GoodIn wsX9_back wsX9_accept := wd_c vW9_ok mvW9_36
set_option maxRecDepth 20000 in
theorem gX9_back_X9_accept : GoodIn wsX9_back (wsV RX9 138 RX9 yX9_accept wsX9_accept) := goodIn_app (wd_l vW9_ok _ pvW9_95) ggX9_back_X9_accept
theorem da9_dX9_back_0 : (decode cX9_back 0 = .ok (.iload_n 1, 1)) ∧ (decode cX9_back 1 = .ok (.invokestatic 332, 3)) ∧ (decode cX9_back 4 = .ok (.ifCond .ne 9, 3)) ∧ (decode cX9_back 7 = .ok (.aload_n 0, 1)) ∧ (decode cX9_back 8 = .ok (.iconst (-1), 1)) ∧ (decode cX9_back 9 = .ok (.invokevirtual 118, 3)) ∧ (decode cX9_back 12 = .ok (.ireturn, 1)) ∧ (decode cX9_back 13 = .ok (.aload_n 0, 1)) ∧ (decode cX9_back 14 = .ok (.getfield 20, 3)) ∧ (decode cX9_back 17 = .ok (.iload_n 1, 1)) ∧ (decode cX9_back 18 = .ok (.baload, 1)) ∧ (decode cX9_back 19 = .ok (.ifCond .ne 10, 3)) ∧ (decode cX9_back 22 = .ok (.aload_n 0, 1)) ∧ (decode cX9_back 23 = .ok (.bipush (-2), 2)) ∧ (decode cX9_back 25 = .ok (.invokevirtual 118, 3)) ∧ (decode cX9_back 28 = .ok (.ireturn, 1)) := by decide +kernel
theorem dX9_back_0 : decode cX9_back 0 = .ok (.iload_n 1, 1) := da9_dX9_back_0.1
theorem dX9_back_1 : decode cX9_back 1 = .ok (.invokestatic 332, 3) := da9_dX9_back_0.2.1
theorem dX9_back_4 : decode cX9_back 4 = .ok (.ifCond .ne 9, 3) := da9_dX9_back_0.2.2.1
theorem dX9_back_7 : decode cX9_back 7 = .ok (.aload_n 0, 1) := da9_dX9_back_0.2.2.2.1
theorem dX9_back_8 : decode cX9_back 8 = .ok (.iconst (-1), 1) := da9_dX9_back_0.2.2.2.2.1
theorem dX9_back_9 : decode cX9_back 9 = .ok (.invokevirtual 118, 3) := da9_dX9_back_0.2.2.2.2.2.1
theorem dX9_back_12 : decode cX9_back 12 = .ok (.ireturn, 1) := da9_dX9_back_0.2.2.2.2.2.2.1
theorem dX9_back_13 : decode cX9_back 13 = .ok (.aload_n 0, 1) := da9_dX9_back_0.2.2.2.2.2.2.2.1
theorem dX9_back_14 : decode cX9_back 14 = .ok (.getfield 20, 3) := da9_dX9_back_0.2.2.2.2.2.2.2.2.1
theorem dX9_back_17 : decode cX9_back 17 = .ok (.iload_n 1, 1) := da9_dX9_back_0.2.2.2.2.2.2.2.2.2.1
theorem dX9_back_18 : decode cX9_back 18 = .ok (.baload, 1) := da9_dX9_back_0.2.2.2.2.2.2.2.2.2.2.1
theorem dX9_back_19 : decode cX9_back 19 = .ok (.ifCond .ne 10, 3) := da9_dX9_back_0.2.2.2.2.2.2.2.2.2.2.2.1
theorem dX9_back_22 : decode cX9_back 22 = .ok (.aload_n 0, 1) := da9_dX9_back_0.2.2.2.2.2.2.2.2.2.2.2.2.1
theorem dX9_back_23 : decode cX9_back 23 = .ok (.bipush (-2), 2) := da9_dX9_back_0.2.2.2.2.2.2.2.2.2.2.2.2.2.1
theorem dX9_back_25 : decode cX9_back 25 = .ok (.invokevirtual 118, 3) := da9_dX9_back_0.2.2.2.2.2.2.2.2.2.2.2.2.2.2.1
theorem dX9_back_28 : decode cX9_back 28 = .ok (.ireturn, 1) := da9_dX9_back_0.2.2.2.2.2.2.2.2.2.2.2.2.2.2.2
theorem da9_dX9_back_29 : (decode cX9_back 29 = .ok (.aload_n 0, 1)) ∧ (decode cX9_back 30 = .ok (.getfield 10, 3)) ∧ (decode cX9_back 33 = .ok (.aload_n 0, 1)) ∧ (decode cX9_back 34 = .ok (.getfield 16, 3)) ∧ (decode cX9_back 37 = .ok (.iload_n 1, 1)) ∧ (decode cX9_back 38 = .ok (.aaload, 1)) ∧ (decode cX9_back 39 = .ok (.invokevirtual 335, 3)) ∧ (decode cX9_back 42 = .ok (.aload_n 0, 1)) ∧ (decode cX9_back 43 = .ok (.getfield 27, 3)) ∧ (decode cX9_back 46 = .ok (.invokevirtual 132, 3)) ∧ (decode cX9_back 49 = .ok (.aload_n 0, 1)) ∧ (decode cX9_back 50 = .ok (.iconst 0, 1)) ∧ (decode cX9_back 51 = .ok (.invokevirtual 138, 3)) ∧ (decode cX9_back 54 = .ok (.ireturn, 1)) := by decide +kernel
theorem dX9_back_29 : decode cX9_back 29 = .ok (.aload_n 0, 1) := da9_dX9_back_29.1
theorem dX9_back_30 : decode cX9_back 30 = .ok (.getfield 10, 3) := da9_dX9_back_29.2.1
theorem dX9_back_33 : decode cX9_back 33 = .ok (.aload_n 0, 1) := da9_dX9_back_29.2.2.1
theorem dX9_back_34 : decode cX9_back 34 = .ok (.getfield 16, 3) := da9_dX9_back_29.2.2.2.1
theorem dX9_back_37 : decode cX9_back 37 = .ok (.iload_n 1, 1) := da9_dX9_back_29.2.2.2.2.1
theorem dX9_back_38 : decode cX9_back 38 = .ok (.aaload, 1) := da9_dX9_back_29.2.2.2.2.2.1
theorem dX9_back_39 : decode cX9_back 39 = .ok (.invokevirtual 335, 3) := da9_dX9_back_29.2.2.2.2.2.2.1
theorem dX9_back_42 : decode cX9_back 42 = .ok (.aload_n 0, 1) := da9_dX9_back_29.2.2.2.2.2.2.2.1
theorem dX9_back_43 : decode cX9_back 43 = .ok (.getfield 27, 3) := da9_dX9_back_29.2.2.2.2.2.2.2.2.1
theorem dX9_back_46 : decode cX9_back 46 = .ok (.invokevirtual 132, 3) := da9_dX9_back_29.2.2.2.2.2.2.2.2.2.1
theorem dX9_back_49 : decode cX9_back 49 = .ok (.aload_n 0, 1) := da9_dX9_back_29.2.2.2.2.2.2.2.2.2.2.1
theorem dX9_back_50 : decode cX9_back 50 = .ok (.iconst 0, 1) := da9_dX9_back_29.2.2.2.2.2.2.2.2.2.2.2.1
theorem dX9_back_51 : decode cX9_back 51 = .ok (.invokevirtual 138, 3) := da9_dX9_back_29.2.2.2.2.2.2.2.2.2.2.2.2.1
theorem dX9_back_54 : decode cX9_back 54 = .ok (.ireturn, 1) := da9_dX9_back_29.2.2.2.2.2.2.2.2.2.2.2.2.2
end
