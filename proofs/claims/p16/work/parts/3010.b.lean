section
theorem u9_wsX10_towerNow_X10 : ∀ w ∈ u_ws RX10 TX10 56, w ∈ wsX10_towerNow := fun w h => List.mem_cons_of_mem _ (vW10_wsX100 w h)
theorem f9_wsX10_towerNow_193 : (Cond.fieldLink RX10 84 "TurnedFloorsModel" "line" "[I") ∈ wsX10_towerNow := List.mem_cons_of_mem _ mvW10_349
theorem f9_wsX10_towerNow_194 : (Cond.fieldLink RX10 28 "TurnedFloorsModel" "kept" "[I") ∈ wsX10_towerNow := List.mem_cons_of_mem _ mvW10_20
theorem u9_wsX10_laysPrices_X10 : ∀ w ∈ u_ws RX10 TX10 56, w ∈ wsX10_laysPrices := fun w h => List.mem_cons_of_mem _ (vW10_wsX100 w h)
theorem f9_wsX10_laysPrices_196 : (Cond.fieldLink RX10 87 "TurnedFloorsModel" "price" "[I") ∈ wsX10_laysPrices := List.mem_cons_of_mem _ mvW10_343
theorem u9_wsX10_priceOf_X10 : ∀ w ∈ u_ws RX10 TX10 56, w ∈ wsX10_priceOf := fun w h => List.mem_cons_of_mem _ (vW10_wsX100 w h)
theorem f9_wsX10_priceOf_198 : (Cond.fieldLink RX10 87 "TurnedFloorsModel" "price" "[I") ∈ wsX10_priceOf := List.mem_cons_of_mem _ mvW10_343
theorem f9_wsX10_priceOf_199 : (Cond.fieldLink RX10 75 "TurnedFloorsModel" "rankAt" "[I") ∈ wsX10_priceOf := List.mem_cons_of_mem _ mvW10_350
theorem u9_wsX10_isThere_X10 : ∀ w ∈ u_ws RX10 TX10 56, w ∈ wsX10_isThere := fun w h => List.mem_cons_of_mem _ (vW10_wsX100 w h)
theorem f9_wsX10_isThere_201 : (Cond.fieldLink RX10 389 "TurnedFloorsModel" "headMany" "I") ∈ wsX10_isThere := List.mem_cons_of_mem _ mvW10_348
theorem f9_wsX10_isThere_202 : (Cond.fieldLink RX10 386 "TurnedFloorsModel" "orderMany" "I") ∈ wsX10_isThere := List.mem_cons_of_mem _ mvW10_335
theorem u9_wsX10_isOrdered_X10 : ∀ w ∈ u_ws RX10 TX10 56, w ∈ wsX10_isOrdered := fun w h => List.mem_cons_of_mem _ (vW10_wsX100 w h)
theorem f9_wsX10_isOrdered_204 : (Cond.fieldLink RX10 28 "TurnedFloorsModel" "kept" "[I") ∈ wsX10_isOrdered := List.mem_cons_of_mem _ mvW10_20
set_option maxHeartbeats 4000000 in
set_option maxRecDepth 100000 in
theorem WX10_towerNow_4b {p : Program} {l : Launch} {e : Env} {s : State} {m : MethodId} {args : Array Value} {below : List Frame} {meth : Method} {c : Code} {D : va_G} {ty : Nat → ClassId} {eo : Nat → Nat} {A : Nat → Prop} {ad : Nat → Nat} {o1 : Int32} {o2 : dS} (C : dc_C p s m args meth c cX10_towerNow (some .int) 3 RX10 wsX10_towerNow D ty eo A) {k4 : dS → Int32 → Int32 → Option (Int32 × dS)} (hk4 : ∀ (q : dS) (x1 : Int32) (x2 : Int32) (H : Heap) (locs : List Loc) (ls : Array Slot), k4 q x1 x2 = some (o1, o2) → va_P D vwCl (w10 ty ad q) H → va_D A (w10 ty ad q) → va_S A s.heap H locs → lv_has ls 3 [(0, .ref (ad 0)), (1, .int x1), (2, .int x2)] → W p l e ({ frames := 2, cells := 0, slots := 0, locals := 44 } : Room) s m args below meth c H locs 0 0 (MQ below (va_Qi (fun (r : Int32) (u : va_W) => o1 = r ∧ w10 ty ad o2 = u) (kz_B D ty A) A) args s 0 0 A) (F0 m 4 ls [])) (q : dS) (x1 : Int32) (x2 : Int32) (H : Heap) (locs : List Loc) (ls : Array Slot) (h : zX10_towerNow_4b k4 q x1 x2 = some (o1, o2)) (hP : va_P D vwCl (w10 ty ad q) H) (hD : va_D A (w10 ty ad q)) (hS : va_S A s.heap H locs) (hl : lv_has ls 3 [(0, .ref (ad 0)), (1, .int x1), (2, .int x2)]) : W p l e ({ frames := 2, cells := 0, slots := 0, locals := 44 } : Room) s m args below meth c H locs 0 0 (MQ below (va_Qi (fun (r : Int32) (u : va_W) => o1 = r ∧ w10 ty ad o2 = u) (kz_B D ty A) A) args s 0 0 A) (F0 m 4 ls []) := by
  have C0 := C
  obtain ⟨hx, hb, hr, hts, hown, hlocks, hml, hK, hN, hE, hA⟩ := C
  unfold zX10_towerNow_4b at h
  refine lv_iload_n hx hb dX10_towerNow_4 rfl (lv_at hl 2 rfl) ?_
  refine lv_aload_n hx hb dX10_towerNow_5 rfl (lv_at hl 0 rfl) ?_
  obtain ⟨r1, q3, h2, h⟩ := dB_some h
  refine dw_ki (va_runV (As := []) (rest := [.int x2]) ⟨hx, hb, hml, hown, hts⟩ (qX10_size l D ty eo _ ad q  r1 q3 h2) (cwV 0 hts gX10_towerNow_X10_size rfl rfl rfl hd_X10_size_v ⟨Nat.le_of_ble_eq_true rfl, Nat.le_of_ble_eq_true rfl⟩) (pv10_10_0 hK hN hE hP hD hS hA) rfl rfl hl.1 rfl (lv_room (Nat.le_of_ble_eq_true rfl)) dX10_towerNow_6 ⟨Nat.le_of_ble_eq_true rfl, Nat.le_of_ble_eq_true rfl⟩) hD hS hA (fun r9 u9 H locs hw hp hd hs => ?_)
  clear hP hD hS
  obtain ⟨rfl, rfl⟩ := hw
  have hP := hp; have hD := hd; have hS := hs; clear hp hd hs
  refine lv_icmp_ge (tgt := 50) hx hb dX10_towerNow_9 (by decide) (fun c9 => ?_) (fun c9 => ?_)
  · rw [if_pos c9] at h
    refine lv_bipush (v := 64) hx hb dX10_towerNow_50 (by decide) ?_
    refine lv_aload_n hx hb dX10_towerNow_52 rfl (lv_at hl 0 rfl) ?_
    obtain ⟨r4, q6, h5, h⟩ := dB_some h
    refine dw_ki (va_runV (As := []) (rest := [.int 64]) ⟨hx, hb, hml, hown, hts⟩ (qX10_numberOf l D ty eo _ ad q3  r4 q6 h5) (cwV 0 hts gX10_towerNow_X10_numberOf rfl rfl rfl hd_X10_numberOf_v ⟨Nat.le_of_ble_eq_true rfl, Nat.le_of_ble_eq_true rfl⟩) (pv10_10_0 hK hN hE hP hD hS hA) rfl rfl hl.1 rfl (lv_room (Nat.le_of_ble_eq_true rfl)) dX10_towerNow_53 ⟨Nat.le_of_ble_eq_true rfl, Nat.le_of_ble_eq_true rfl⟩) hD hS hA (fun r9 u9 H locs hw hp hd hs => ?_)
    clear hP hD hS
    obtain ⟨rfl, rfl⟩ := hw
    have hP := hp; have hD := hd; have hS := hs; clear hp hd hs
    refine lv_imul hx hb dX10_towerNow_56 ?_
    refine lv_iload_n hx hb dX10_towerNow_57 rfl (lv_at hl 1 rfl) ?_
    refine lv_iadd hx hb dX10_towerNow_58 ?_
    cases h
    exact kz_iret hx hb hr hlocks hP hK hD hS dX10_towerNow_59 ⟨rfl, rfl⟩
  · rw [if_neg c9] at h
    refine lv_aload_n hx hb dX10_towerNow_12 rfl (lv_at hl 0 rfl) ?_
    refine va_get (D := D) (ci := 10) (v := .ref (ad 19)) (C := RX10) (T := TX10) (N := 56) hx hb hts u9_wsX10_towerNow_X10 hown hK hP 0 rfl rfl 36 (by decide) (hts (.fieldLink RX10 84 "TurnedFloorsModel" "line" "[I") f9_wsX10_towerNow_193) (fun _ h9 => h9) rfl dX10_towerNow_13 ?_
    refine lv_iload_n hx hb dX10_towerNow_16 rfl (lv_at hl 2 rfl) ?_
    refine lv_aload_n hx hb dX10_towerNow_17 rfl (lv_at hl 0 rfl) ?_
    refine lv_aload_n hx hb dX10_towerNow_18 rfl (lv_at hl 0 rfl) ?_
    refine va_get (D := D) (ci := 10) (v := .ref (ad 2)) (C := RX10) (T := TX10) (N := 56) hx hb hts u9_wsX10_towerNow_X10 hown hK hP 0 rfl rfl 2 (by decide) (hts (.fieldLink RX10 28 "TurnedFloorsModel" "kept" "[I") f9_wsX10_towerNow_194) (fun _ h9 => h9) rfl dX10_towerNow_19 ?_
    refine lv_iconst (v := 0) hx hb dX10_towerNow_22 (by decide) ?_
    refine lv_iload_n hx hb dX10_towerNow_23 rfl (lv_at hl 2 rfl) ?_
    refine lv_iadd hx hb dX10_towerNow_24 ?_
    obtain ⟨g7, h⟩ := dG_some h
    refine va_iald hx hb hK hP 2 0 rfl rfl (dg_in g7) dX10_towerNow_25 ?_
    obtain ⟨v8, ev8, h⟩ := dL_some h
    refine kz_topi v8 ev8 ?_
    obtain ⟨r9, q11, h10, h⟩ := dB_some h
    refine dw_ki (va_runV (As := [.int v8]) (rest := [.int x2, .ref (ad 19)]) ⟨hx, hb, hml, hown, hts⟩ (qX10_lessThan l D ty eo _ ad q3 v8 r9 q11 h10) (cwV 1 hts gX10_towerNow_X10_lessThan rfl rfl rfl hd_X10_lessThan_v ⟨Nat.le_of_ble_eq_true rfl, Nat.le_of_ble_eq_true rfl⟩) (pv10_10_0 hK hN hE hP hD hS hA) rfl rfl hl.1 rfl (lv_room (Nat.le_of_ble_eq_true rfl)) dX10_towerNow_26 ⟨Nat.le_of_ble_eq_true rfl, Nat.le_of_ble_eq_true rfl⟩) hD hS hA (fun r9 u9 H locs hw hp hd hs => ?_)
    clear hP hD hS
    obtain ⟨rfl, rfl⟩ := hw
    have hP := hp; have hD := hd; have hS := hs; clear hp hd hs
    obtain ⟨g12, h⟩ := dG_some h
    refine va_iast hx hb hK hP hD hS 19 0 rfl rfl (dg_in g12) dX10_towerNow_29 (fun H locs hp hd hs => ?_)
    obtain ⟨q13, eq13, h⟩ := dL_some h
    refine kz_re (w2 := w10 ty ad q13) hp hd hs (by rw [← eq13]; exact w10_a19 ty ad q11 (Int32.toNatClampNeg x2) r9) ?_
    clear hp hd hs hP hD hS
    intro hP hD hS
    refine lv_iload_n hx hb dX10_towerNow_30 rfl (lv_at hl 1 rfl) ?_
    refine lv_aload_n hx hb dX10_towerNow_31 rfl (lv_at hl 0 rfl) ?_
    refine va_get (D := D) (ci := 10) (v := .ref (ad 2)) (C := RX10) (T := TX10) (N := 56) hx hb hts u9_wsX10_towerNow_X10 hown hK hP 0 rfl rfl 2 (by decide) (hts (.fieldLink RX10 28 "TurnedFloorsModel" "kept" "[I") f9_wsX10_towerNow_194) (fun _ h9 => h9) rfl dX10_towerNow_32 ?_
    refine lv_bipush (v := 6) hx hb dX10_towerNow_35 (by decide) ?_
    refine lv_iload_n hx hb dX10_towerNow_37 rfl (lv_at hl 2 rfl) ?_
    refine lv_iadd hx hb dX10_towerNow_38 ?_
    obtain ⟨g14, h⟩ := dG_some h
    refine va_iald hx hb hK hP 2 0 rfl rfl (dg_in g14) dX10_towerNow_39 ?_
    obtain ⟨v15, ev15, h⟩ := dL_some h
    refine kz_topi v15 ev15 ?_
    refine lv_iload_n hx hb dX10_towerNow_40 rfl (lv_at hl 2 rfl) ?_
    refine lv_ishl hx hb dX10_towerNow_41 ?_
    refine lv_ior hx hb dX10_towerNow_42 ?_
    refine lv_istore_n (lv' := [(1, .int (x1 ||| (v15 <<< ((x2 : Int32) &&& 31)))), (0, .ref (ad 0)), (2, .int x2)]) hx hb dX10_towerNow_43 rfl hl (by decide) rfl (fun ls hl => ?_)
    refine lv_iinc (v := x2 + 1) (lv' := [(2, .int (x2 + 1)), (1, .int (x1 ||| (v15 <<< ((x2 : Int32) &&& 31)))), (0, .ref (ad 0))]) hx hb dX10_towerNow_44 hl (k := 2) rfl rfl (by decide) rfl (fun ls hl => ?_)
    refine lv_goto (tgt := 4) hx hb dX10_towerNow_47 (by decide) ?_
    exact hk4 _ _ _ _ _ _ h hP hD hS (lv_sub hl [2, 1, 0] rfl)
set_option maxHeartbeats 4000000 in
set_option maxRecDepth 100000 in
theorem WX10_towerNow_4 {p : Program} {l : Launch} {e : Env} {s : State} {m : MethodId} {args : Array Value} {below : List Frame} {meth : Method} {c : Code} {D : va_G} {ty : Nat → ClassId} {eo : Nat → Nat} {A : Nat → Prop} {ad : Nat → Nat} {o1 : Int32} {o2 : dS} (C : dc_C p s m args meth c cX10_towerNow (some .int) 3 RX10 wsX10_towerNow D ty eo A)   (n : Nat) (q : dS) (x1 : Int32) (x2 : Int32) (H : Heap) (locs : List Loc) (ls : Array Slot) (h : zX10_towerNow_4  n q x1 x2 = some (o1, o2)) (hP : va_P D vwCl (w10 ty ad q) H) (hD : va_D A (w10 ty ad q)) (hS : va_S A s.heap H locs) (hl : lv_has ls 3 [(0, .ref (ad 0)), (1, .int x1), (2, .int x2)]) : W p l e ({ frames := 2, cells := 0, slots := 0, locals := 44 } : Room) s m args below meth c H locs 0 0 (MQ below (va_Qi (fun (r : Int32) (u : va_W) => o1 = r ∧ w10 ty ad o2 = u) (kz_B D ty A) A) args s 0 0 A) (F0 m 4 ls []) := by
  exact dFix_W (F := fun k (a : dS × Int32 × Int32) => zX10_towerNow_4b  (fun q x1 x2 => k (q, x1, x2)) a.1 a.2.1 a.2.2) (o := (o1, o2)) (P := fun (a : dS × Int32 × Int32) H locs ls => va_P D vwCl (w10 ty ad a.1) H ∧ va_D A (w10 ty ad a.1) ∧ va_S A s.heap H locs ∧ lv_has ls 3 [(0, .ref (ad 0)), (1, .int a.2.1), (2, .int a.2.2)]) (G := fun H locs ls => W p l e ({ frames := 2, cells := 0, slots := 0, locals := 44 } : Room) s m args below meth c H locs 0 0 (MQ below (va_Qi (fun (r : Int32) (u : va_W) => o1 = r ∧ w10 ty ad o2 = u) (kz_B D ty A) A) args s 0 0 A) (F0 m 4 ls []))
    (fun k hk a H locs ls h hp => WX10_towerNow_4b C  (fun q x1 x2 H locs ls h h1 h2 h3 h4 => hk (q, x1, x2) H locs ls h ⟨h1, h2, h3, h4⟩) a.1 a.2.1 a.2.2 H locs ls h hp.1 hp.2.1 hp.2.2.1 hp.2.2.2) n (q, x1, x2) H locs ls h ⟨hP, hD, hS, hl⟩
set_option maxHeartbeats 4000000 in
set_option maxRecDepth 100000 in
theorem qX10_towerNow (l : Launch) (D : va_G) (ty : Nat → ClassId) (eo : Nat → Nat) (sz : Nat) (ad : Nat → Nat) (q : dS)  (o1 : Int32) (o2 : dS) (h : zX10_towerNow q = some (o1, o2)) : Met l yX10_towerNow wsX10_towerNow ({ frames := 2, cells := 0, slots := 0, locals := 44 } : Room) (va_Pc [.ref (ad 0)] (kz_pre D ty eo (w10 ty ad q) sz)) (va_Qi (fun (r : Int32) (u : va_W) => o1 = r ∧ w10 ty ad o2 = u) (kz_B D ty (va_A (w10 ty ad q) sz)) (va_A (w10 ty ad q) sz)) 0 0 (va_A (w10 ty ad q) sz) := by
  refine Met.ofW (cc := cX10_towerNow) (maxL := 3) (ret := (some .int)) (by decide) rfl ?_
  intro p e s m args below meth c s₁ B hml hv
  obtain ⟨rfl, hsz, hP, hK, hD0, hN, hE⟩ := hv
  have hx := B.exec
  have hb := B.bytes
  have hr := B.returns
  have hts := atoms_spec (ws := wsX10_towerNow) B.pre
  have hown : s.vm.findClass RX10 = some m.cls := findClass_of_methodNamed B.named
  have hlocks := B.notSynchronized
  subst hsz
  have hD := hD0.self (sz := s.heap.size)
  generalize hAe : va_A (w10 ty ad q) s.heap.size = A at hD hE ⊢
  have hA : ∀ q : Nat, s.heap.size ≤ q → A q := fun q h => by rw [← hAe]; exact Or.inr h
  clear hAe
  have hS : va_S A s.heap s.heap [] := va_S.rf
  have hl := lv_entry ([.ref (ad 0)]) (n := 3) (Nat.le_of_ble_eq_true rfl)
  rw [lg_entry_eq]
  generalize (lg_sl ([.ref (ad 0)]) ++ List.replicate (3 - (lg_sl ([.ref (ad 0)])).length) Slot.unset).toArray = ls at hl ⊢
  have hl : lv_has ls 3 [(0, .ref (ad 0))] := hl
  have C : dc_C p s m _ meth c cX10_towerNow (some .int) 3 RX10 wsX10_towerNow D ty eo A := ⟨hx, hb, hr, hts, hown, hlocks, hml, hK, hN, hE, hA⟩
  unfold zX10_towerNow at h
  refine lv_iconst (v := 0) hx hb dX10_towerNow_0 (by decide) ?_
  refine lv_istore_n (lv' := [(1, .int 0), (0, .ref (ad 0))]) hx hb dX10_towerNow_1 rfl hl (by decide) rfl (fun ls hl => ?_)
  refine lv_iconst (v := 0) hx hb dX10_towerNow_2 (by decide) ?_
  refine lv_istore_n (lv' := [(2, .int 0), (1, .int 0), (0, .ref (ad 0))]) hx hb dX10_towerNow_3 rfl hl (by decide) rfl (fun ls hl => ?_)
  exact WX10_towerNow_4 C  _ _ _ _ _ _ _ h hP hD hS (lv_sub hl [2, 1, 0] rfl)

set_option maxHeartbeats 4000000 in
set_option maxRecDepth 100000 in
theorem qX10_askedAt (l : Launch) (D : va_G) (ty : Nat → ClassId) (eo : Nat → Nat) (sz : Nat) (p1 : Int32) (p2 : Int32) (p3 : Int32) (p4 : Int32) (o1 : Int32) (h : zX10_askedAt p1 p2 p3 p4 = some o1) : Met l yX10_askedAt wsX10_askedAt ({ frames := 0, cells := 0, slots := 0, locals := 0 } : Room) (va_Pc [.int p1, .int p2, .int p3, .int p4] (kz_pre D ty eo (([] : va_W)) sz)) (va_Qi (fun (r : Int32) (u : va_W) => o1 = r ∧ ([] : va_W) = u) (kz_B D ty (va_A (([] : va_W)) sz)) (va_A (([] : va_W)) sz)) 0 0 (va_A (([] : va_W)) sz) := by
  refine Met.ofW (cc := cX10_askedAt) (maxL := 4) (ret := (some .int)) (by decide) rfl ?_
  intro p e s m args below meth c s₁ B hml hv
  obtain ⟨rfl, hsz, hP, hK, hD0, hN, hE⟩ := hv
  have hx := B.exec
  have hb := B.bytes
  have hr := B.returns
  have hts := atoms_spec (ws := wsX10_askedAt) B.pre
  have hown : s.vm.findClass RX10 = some m.cls := findClass_of_methodNamed B.named
  have hlocks := B.notSynchronized
  subst hsz
  have hD := hD0.self (sz := s.heap.size)
  generalize hAe : va_A (([] : va_W)) s.heap.size = A at hD hE ⊢
  have hA : ∀ q : Nat, s.heap.size ≤ q → A q := fun q h => by rw [← hAe]; exact Or.inr h
  clear hAe
  have hS : va_S A s.heap s.heap [] := va_S.rf
  have hl := lv_entry ([.int p1, .int p2, .int p3, .int p4]) (n := 4) (Nat.le_of_ble_eq_true rfl)
  rw [lg_entry_eq]
  generalize (lg_sl ([.int p1, .int p2, .int p3, .int p4]) ++ List.replicate (4 - (lg_sl ([.int p1, .int p2, .int p3, .int p4])).length) Slot.unset).toArray = ls at hl ⊢
  have hl : lv_has ls 4 [(0, .int p1), (1, .int p2), (2, .int p3), (3, .int p4)] := hl
  have C : dc_C p s m _ meth c cX10_askedAt (some .int) 4 RX10 wsX10_askedAt D ty eo A := ⟨hx, hb, hr, hts, hown, hlocks, hml, hK, hN, hE, hA⟩
  unfold zX10_askedAt at h
  refine lv_iload_n hx hb dX10_askedAt_0 rfl (lv_at hl 0 rfl) ?_
  refine lv_bipush (v := 6) hx hb dX10_askedAt_1 (by decide) ?_
  refine lv_imul hx hb dX10_askedAt_3 ?_
  refine lv_iload_n hx hb dX10_askedAt_4 rfl (lv_at hl 1 rfl) ?_
  refine lv_iadd hx hb dX10_askedAt_5 ?_
  refine lv_bipush (v := 7) hx hb dX10_askedAt_6 (by decide) ?_
  refine lv_imul hx hb dX10_askedAt_8 ?_
  refine lv_iload_n hx hb dX10_askedAt_9 rfl (lv_at hl 2 rfl) ?_
  refine lv_iadd hx hb dX10_askedAt_10 ?_
  refine lv_iconst (v := 2) hx hb dX10_askedAt_11 (by decide) ?_
  refine lv_imul hx hb dX10_askedAt_12 ?_
  refine lv_iload_n hx hb dX10_askedAt_13 rfl (lv_at hl 3 rfl) ?_
  refine lv_iadd hx hb dX10_askedAt_14 ?_
  obtain ⟨v1, ev1, h⟩ := dL_some h
  refine kz_topi v1 ev1 ?_
  cases h
  exact kz_iret hx hb hr hlocks hP hK hD hS dX10_askedAt_15 ⟨rfl, rfl⟩

set_option maxHeartbeats 4000000 in
set_option maxRecDepth 100000 in
theorem WX10_laysPrices_98 {p : Program} {l : Launch} {e : Env} {s : State} {m : MethodId} {args : Array Value} {below : List Frame} {meth : Method} {c : Code} {D : va_G} {ty : Nat → ClassId} {eo : Nat → Nat} {A : Nat → Prop} {ad : Nat → Nat} {o2 : dS} (C : dc_C p s m args meth c cX10_laysPrices none 5 RX10 wsX10_laysPrices D ty eo A) {k6 : dS → Int32 → Option (dS)} {k16 : dS → Int32 → Int32 → Option (dS)} {k26 : dS → Int32 → Int32 → Int32 → Option (dS)} {k37 : dS → Int32 → Int32 → Int32 → Int32 → Option (dS)} (hk6 : ∀ (q : dS) (x1 : Int32) (H : Heap) (locs : List Loc) (ls : Array Slot), k6 q x1 = some o2 → va_P D vwCl (w10 ty ad q) H → va_D A (w10 ty ad q) → va_S A s.heap H locs → lv_has ls 5 [(0, .ref (ad 0)), (1, .int x1)] → W p l e ({ frames := 87, cells := 0, slots := 0, locals := 2223 } : Room) s m args below meth c H locs 0 0 (MQ below (va_Qv (fun (u : va_W) => w10 ty ad o2 = u) (kz_B D ty A) A) args s 0 0 A) (F0 m 6 ls [])) (hk16 : ∀ (q : dS) (x1 : Int32) (x2 : Int32) (H : Heap) (locs : List Loc) (ls : Array Slot), k16 q x1 x2 = some o2 → va_P D vwCl (w10 ty ad q) H → va_D A (w10 ty ad q) → va_S A s.heap H locs → lv_has ls 5 [(0, .ref (ad 0)), (1, .int x1), (2, .int x2)] → W p l e ({ frames := 87, cells := 0, slots := 0, locals := 2223 } : Room) s m args below meth c H locs 0 0 (MQ below (va_Qv (fun (u : va_W) => w10 ty ad o2 = u) (kz_B D ty A) A) args s 0 0 A) (F0 m 16 ls [])) (hk26 : ∀ (q : dS) (x1 : Int32) (x2 : Int32) (x3 : Int32) (H : Heap) (locs : List Loc) (ls : Array Slot), k26 q x1 x2 x3 = some o2 → va_P D vwCl (w10 ty ad q) H → va_D A (w10 ty ad q) → va_S A s.heap H locs → lv_has ls 5 [(0, .ref (ad 0)), (1, .int x1), (2, .int x2), (3, .int x3)] → W p l e ({ frames := 87, cells := 0, slots := 0, locals := 2223 } : Room) s m args below meth c H locs 0 0 (MQ below (va_Qv (fun (u : va_W) => w10 ty ad o2 = u) (kz_B D ty A) A) args s 0 0 A) (F0 m 26 ls [])) (hk37 : ∀ (q : dS) (x1 : Int32) (x2 : Int32) (x3 : Int32) (x4 : Int32) (H : Heap) (locs : List Loc) (ls : Array Slot), k37 q x1 x2 x3 x4 = some o2 → va_P D vwCl (w10 ty ad q) H → va_D A (w10 ty ad q) → va_S A s.heap H locs → lv_has ls 5 [(0, .ref (ad 0)), (1, .int x1), (2, .int x2), (3, .int x3), (4, .int x4)] → W p l e ({ frames := 87, cells := 0, slots := 0, locals := 2223 } : Room) s m args below meth c H locs 0 0 (MQ below (va_Qv (fun (u : va_W) => w10 ty ad o2 = u) (kz_B D ty A) A) args s 0 0 A) (F0 m 37 ls [])) (q : dS) (x1 : Int32) (x2 : Int32) (x3 : Int32) (x4 : Int32) (y0 : Int32) (y1 : Int32) (H : Heap) (locs : List Loc) (ls : Array Slot) (h : zX10_laysPrices_98 k6 k16 k26 k37 q x1 x2 x3 x4 y0 y1 = some o2) (hP : va_P D vwCl (w10 ty ad q) H) (hD : va_D A (w10 ty ad q)) (hS : va_S A s.heap H locs) (hl : lv_has ls 5 [(0, .ref (ad 0)), (1, .int x1), (2, .int x2), (3, .int x3), (4, .int x4)]) : W p l e ({ frames := 87, cells := 0, slots := 0, locals := 2223 } : Room) s m args below meth c H locs 0 0 (MQ below (va_Qv (fun (u : va_W) => w10 ty ad o2 = u) (kz_B D ty A) A) args s 0 0 A) (F0 m 98 ls [.int y0, .int y1, .ref (ad 20)]) := by
  have C0 := C
  obtain ⟨hx, hb, hr, hts, hown, hlocks, hml, hK, hN, hE, hA⟩ := C
  unfold zX10_laysPrices_98 at h
  obtain ⟨g1, h⟩ := dG_some h
  refine va_iast hx hb hK hP hD hS 20 0 rfl rfl (dg_in g1) dX10_laysPrices_98 (fun H locs hp hd hs => ?_)
  obtain ⟨q2, eq2, h⟩ := dL_some h
  refine kz_re (w2 := w10 ty ad q2) hp hd hs (by rw [← eq2]; exact w10_a20 ty ad q (Int32.toNatClampNeg y1) y0) ?_
  clear hp hd hs hP hD hS
  intro hP hD hS
  refine lv_iinc (v := x4 + 1) (lv' := [(4, .int (x4 + 1)), (0, .ref (ad 0)), (1, .int x1), (2, .int x2), (3, .int x3)]) hx hb dX10_laysPrices_99 hl (k := 4) rfl rfl (by decide) rfl (fun ls hl => ?_)
  refine lv_goto (tgt := 37) hx hb dX10_laysPrices_102 (by decide) ?_
  exact hk37 _ _ _ _ _ _ _ _ h hP hD hS (lv_sub hl [1, 2, 3, 4, 0] rfl)
set_option maxHeartbeats 4000000 in
set_option maxRecDepth 100000 in
theorem WX10_laysPrices_65 {p : Program} {l : Launch} {e : Env} {s : State} {m : MethodId} {args : Array Value} {below : List Frame} {meth : Method} {c : Code} {D : va_G} {ty : Nat → ClassId} {eo : Nat → Nat} {A : Nat → Prop} {ad : Nat → Nat} {o2 : dS} (C : dc_C p s m args meth c cX10_laysPrices none 5 RX10 wsX10_laysPrices D ty eo A) {k6 : dS → Int32 → Option (dS)} {k16 : dS → Int32 → Int32 → Option (dS)} {k26 : dS → Int32 → Int32 → Int32 → Option (dS)} {k37 : dS → Int32 → Int32 → Int32 → Int32 → Option (dS)} (hk6 : ∀ (q : dS) (x1 : Int32) (H : Heap) (locs : List Loc) (ls : Array Slot), k6 q x1 = some o2 → va_P D vwCl (w10 ty ad q) H → va_D A (w10 ty ad q) → va_S A s.heap H locs → lv_has ls 5 [(0, .ref (ad 0)), (1, .int x1)] → W p l e ({ frames := 87, cells := 0, slots := 0, locals := 2223 } : Room) s m args below meth c H locs 0 0 (MQ below (va_Qv (fun (u : va_W) => w10 ty ad o2 = u) (kz_B D ty A) A) args s 0 0 A) (F0 m 6 ls [])) (hk16 : ∀ (q : dS) (x1 : Int32) (x2 : Int32) (H : Heap) (locs : List Loc) (ls : Array Slot), k16 q x1 x2 = some o2 → va_P D vwCl (w10 ty ad q) H → va_D A (w10 ty ad q) → va_S A s.heap H locs → lv_has ls 5 [(0, .ref (ad 0)), (1, .int x1), (2, .int x2)] → W p l e ({ frames := 87, cells := 0, slots := 0, locals := 2223 } : Room) s m args below meth c H locs 0 0 (MQ below (va_Qv (fun (u : va_W) => w10 ty ad o2 = u) (kz_B D ty A) A) args s 0 0 A) (F0 m 16 ls [])) (hk26 : ∀ (q : dS) (x1 : Int32) (x2 : Int32) (x3 : Int32) (H : Heap) (locs : List Loc) (ls : Array Slot), k26 q x1 x2 x3 = some o2 → va_P D vwCl (w10 ty ad q) H → va_D A (w10 ty ad q) → va_S A s.heap H locs → lv_has ls 5 [(0, .ref (ad 0)), (1, .int x1), (2, .int x2), (3, .int x3)] → W p l e ({ frames := 87, cells := 0, slots := 0, locals := 2223 } : Room) s m args below meth c H locs 0 0 (MQ below (va_Qv (fun (u : va_W) => w10 ty ad o2 = u) (kz_B D ty A) A) args s 0 0 A) (F0 m 26 ls [])) (hk37 : ∀ (q : dS) (x1 : Int32) (x2 : Int32) (x3 : Int32) (x4 : Int32) (H : Heap) (locs : List Loc) (ls : Array Slot), k37 q x1 x2 x3 x4 = some o2 → va_P D vwCl (w10 ty ad q) H → va_D A (w10 ty ad q) → va_S A s.heap H locs → lv_has ls 5 [(0, .ref (ad 0)), (1, .int x1), (2, .int x2), (3, .int x3), (4, .int x4)] → W p l e ({ frames := 87, cells := 0, slots := 0, locals := 2223 } : Room) s m args below meth c H locs 0 0 (MQ below (va_Qv (fun (u : va_W) => w10 ty ad o2 = u) (kz_B D ty A) A) args s 0 0 A) (F0 m 37 ls [])) (q : dS) (x1 : Int32) (x2 : Int32) (x3 : Int32) (x4 : Int32) (y0 : Int32) (y1 : Int32) (y2 : Int32) (H : Heap) (locs : List Loc) (ls : Array Slot) (h : zX10_laysPrices_65 k6 k16 k26 k37 q x1 x2 x3 x4 y0 y1 y2 = some o2) (hP : va_P D vwCl (w10 ty ad q) H) (hD : va_D A (w10 ty ad q)) (hS : va_S A s.heap H locs) (hl : lv_has ls 5 [(0, .ref (ad 0)), (1, .int x1), (2, .int x2), (3, .int x3), (4, .int x4)]) : W p l e ({ frames := 87, cells := 0, slots := 0, locals := 2223 } : Room) s m args below meth c H locs 0 0 (MQ below (va_Qv (fun (u : va_W) => w10 ty ad o2 = u) (kz_B D ty A) A) args s 0 0 A) (F0 m 65 ls [.int y0, .int y1, .int y2, .ref (ad 0)]) := by
  have C0 := C
  obtain ⟨hx, hb, hr, hts, hown, hlocks, hml, hK, hN, hE, hA⟩ := C
  unfold zX10_laysPrices_65 at h
  refine lv_iload hx hb dX10_laysPrices_65 (lv_at hl 4 rfl) ?_
  obtain ⟨q3, h2, h⟩ := dV_some h
  refine dw_kv (va_runV (As := [.int y2, .int y1, .int y0, .int x4]) (rest := []) ⟨hx, hb, hml, hown, hts⟩ (qX10_setsTurn l D ty eo _ ad q y2 y1 y0 x4 q3 h2) (cwV 4 hts gX10_laysPrices_X10_setsTurn rfl rfl rfl hd_X10_setsTurn_v ⟨Nat.le_of_ble_eq_true rfl, Nat.le_of_ble_eq_true rfl⟩) (pv10_10_0 hK hN hE hP hD hS hA) rfl rfl hl.1 rfl (lv_room (Nat.le_of_ble_eq_true rfl)) dX10_laysPrices_67 ⟨Nat.le_of_ble_eq_true rfl, Nat.le_of_ble_eq_true rfl⟩) hD hS hA (fun u9 H locs hw hp hd hs => ?_)
  clear hP hD hS
  obtain rfl := hw
  have hP := hp; have hD := hd; have hS := hs; clear hp hd hs
  refine lv_aload_n hx hb dX10_laysPrices_70 rfl (lv_at hl 0 rfl) ?_
  refine va_get (D := D) (ci := 10) (v := .ref (ad 20)) (C := RX10) (T := TX10) (N := 56) hx hb hts u9_wsX10_laysPrices_X10 hown hK hP 0 rfl rfl 39 (by decide) (hts (.fieldLink RX10 87 "TurnedFloorsModel" "price" "[I") f9_wsX10_laysPrices_196) (fun _ h9 => h9) rfl dX10_laysPrices_71 ?_
  refine lv_iload_n hx hb dX10_laysPrices_74 rfl (lv_at hl 1 rfl) ?_
  refine lv_iload_n hx hb dX10_laysPrices_75 rfl (lv_at hl 2 rfl) ?_
  refine lv_iload_n hx hb dX10_laysPrices_76 rfl (lv_at hl 3 rfl) ?_
  refine lv_iload hx hb dX10_laysPrices_77 (lv_at hl 4 rfl) ?_
  obtain ⟨r4, h5, h⟩ := dV_some h
  refine dw_ks (va_runS (As := [.int x1, .int x2, .int x3, .int x4]) (rest := [.ref (ad 20)]) ⟨hx, hb, hml, hown, hts⟩ (qX10_askedAt l D ty eo _ x1 x2 x3 x4 _ h5) (va_cwS 4 hts gX10_laysPrices_X10_askedAt rfl rfl rfl hd_X10_askedAt ⟨Nat.le_of_ble_eq_true rfl, Nat.le_of_ble_eq_true rfl⟩) (pvS_0 hK hN hE hP hD hS hA) rfl rfl hl.1 rfl (lv_room (Nat.le_of_ble_eq_true rfl)) dX10_laysPrices_79 ⟨Nat.le_of_ble_eq_true rfl, Nat.le_of_ble_eq_true rfl⟩) hP hD hS hA (fun _ _ h9 => h9.2.symm) (fun r9 u9 H locs hw hp hd hs => ?_)
  obtain ⟨rfl, -⟩ := hw
  clear hP hD hS
  have hP := hp; have hD := hd; have hS := hs; clear hp hd hs
  refine lv_aload_n hx hb dX10_laysPrices_82 rfl (lv_at hl 0 rfl) ?_
  refine lv_iconst (v := 2) hx hb dX10_laysPrices_83 (by decide) ?_
  obtain ⟨r6, q8, h7, h⟩ := dB_some h
  refine dw_ki (va_runV (As := [.int 2]) (rest := [.int r4, .ref (ad 20)]) ⟨hx, hb, hml, hown, hts⟩ (qX10_isNow l D ty eo _ ad q3 2 r6 q8 h7) (cwV 1 hts gX10_laysPrices_X10_isNow rfl rfl rfl hd_X10_isNow_v ⟨Nat.le_of_ble_eq_true rfl, Nat.le_of_ble_eq_true rfl⟩) (pv10_10_0 hK hN hE hP hD hS hA) rfl rfl hl.1 rfl (lv_room (Nat.le_of_ble_eq_true rfl)) dX10_laysPrices_84 ⟨Nat.le_of_ble_eq_true rfl, Nat.le_of_ble_eq_true rfl⟩) hD hS hA (fun r9 u9 H locs hw hp hd hs => ?_)
  clear hP hD hS
  obtain ⟨rfl, rfl⟩ := hw
  have hP := hp; have hD := hd; have hS := hs; clear hp hd hs
  refine lv_if_eq (tgt := 94) hx hb dX10_laysPrices_87 (by decide) (fun c9 => ?_) (fun c9 => ?_)
  · rw [if_pos c9] at h
    refine lv_aload_n hx hb dX10_laysPrices_94 rfl (lv_at hl 0 rfl) ?_
    obtain ⟨r9, q11, h10, h⟩ := dB_some h
    refine dw_ki (va_runV (As := []) (rest := [.int r4, .ref (ad 20)]) ⟨hx, hb, hml, hown, hts⟩ (qX10_paysNow l D ty eo _ ad q8  r9 q11 h10) (cwV 0 hts gX10_laysPrices_X10_paysNow rfl rfl rfl hd_X10_paysNow_v ⟨Nat.le_of_ble_eq_true rfl, Nat.le_of_ble_eq_true rfl⟩) (pv10_10_0 hK hN hE hP hD hS hA) rfl rfl hl.1 rfl (lv_room (Nat.le_of_ble_eq_true rfl)) dX10_laysPrices_95 ⟨Nat.le_of_ble_eq_true rfl, Nat.le_of_ble_eq_true rfl⟩) hD hS hA (fun r9 u9 H locs hw hp hd hs => ?_)
    clear hP hD hS
    obtain ⟨rfl, rfl⟩ := hw
    have hP := hp; have hD := hd; have hS := hs; clear hp hd hs
    exact WX10_laysPrices_98 C0 hk6 hk16 hk26 hk37 _ _ _ _ _ _ _ _ _ _ h hP hD hS (lv_sub hl [0, 1, 2, 3, 4] rfl)
  · rw [if_neg c9] at h
    refine lv_iconst (v := (-1)) hx hb dX10_laysPrices_90 (by decide) ?_
    refine lv_goto (tgt := 98) hx hb dX10_laysPrices_91 (by decide) ?_
    exact WX10_laysPrices_98 C0 hk6 hk16 hk26 hk37 _ _ _ _ _ _ _ _ _ _ h hP hD hS (lv_sub hl [0, 1, 2, 3, 4] rfl)
set_option maxHeartbeats 4000000 in
set_option maxRecDepth 100000 in
theorem WX10_laysPrices_37b {p : Program} {l : Launch} {e : Env} {s : State} {m : MethodId} {args : Array Value} {below : List Frame} {meth : Method} {c : Code} {D : va_G} {ty : Nat → ClassId} {eo : Nat → Nat} {A : Nat → Prop} {ad : Nat → Nat} {o2 : dS} (C : dc_C p s m args meth c cX10_laysPrices none 5 RX10 wsX10_laysPrices D ty eo A) {k6 : dS → Int32 → Option (dS)} {k16 : dS → Int32 → Int32 → Option (dS)} {k26 : dS → Int32 → Int32 → Int32 → Option (dS)} {k37 : dS → Int32 → Int32 → Int32 → Int32 → Option (dS)} (hk6 : ∀ (q : dS) (x1 : Int32) (H : Heap) (locs : List Loc) (ls : Array Slot), k6 q x1 = some o2 → va_P D vwCl (w10 ty ad q) H → va_D A (w10 ty ad q) → va_S A s.heap H locs → lv_has ls 5 [(0, .ref (ad 0)), (1, .int x1)] → W p l e ({ frames := 87, cells := 0, slots := 0, locals := 2223 } : Room) s m args below meth c H locs 0 0 (MQ below (va_Qv (fun (u : va_W) => w10 ty ad o2 = u) (kz_B D ty A) A) args s 0 0 A) (F0 m 6 ls [])) (hk16 : ∀ (q : dS) (x1 : Int32) (x2 : Int32) (H : Heap) (locs : List Loc) (ls : Array Slot), k16 q x1 x2 = some o2 → va_P D vwCl (w10 ty ad q) H → va_D A (w10 ty ad q) → va_S A s.heap H locs → lv_has ls 5 [(0, .ref (ad 0)), (1, .int x1), (2, .int x2)] → W p l e ({ frames := 87, cells := 0, slots := 0, locals := 2223 } : Room) s m args below meth c H locs 0 0 (MQ below (va_Qv (fun (u : va_W) => w10 ty ad o2 = u) (kz_B D ty A) A) args s 0 0 A) (F0 m 16 ls [])) (hk26 : ∀ (q : dS) (x1 : Int32) (x2 : Int32) (x3 : Int32) (H : Heap) (locs : List Loc) (ls : Array Slot), k26 q x1 x2 x3 = some o2 → va_P D vwCl (w10 ty ad q) H → va_D A (w10 ty ad q) → va_S A s.heap H locs → lv_has ls 5 [(0, .ref (ad 0)), (1, .int x1), (2, .int x2), (3, .int x3)] → W p l e ({ frames := 87, cells := 0, slots := 0, locals := 2223 } : Room) s m args below meth c H locs 0 0 (MQ below (va_Qv (fun (u : va_W) => w10 ty ad o2 = u) (kz_B D ty A) A) args s 0 0 A) (F0 m 26 ls [])) (hk37 : ∀ (q : dS) (x1 : Int32) (x2 : Int32) (x3 : Int32) (x4 : Int32) (H : Heap) (locs : List Loc) (ls : Array Slot), k37 q x1 x2 x3 x4 = some o2 → va_P D vwCl (w10 ty ad q) H → va_D A (w10 ty ad q) → va_S A s.heap H locs → lv_has ls 5 [(0, .ref (ad 0)), (1, .int x1), (2, .int x2), (3, .int x3), (4, .int x4)] → W p l e ({ frames := 87, cells := 0, slots := 0, locals := 2223 } : Room) s m args below meth c H locs 0 0 (MQ below (va_Qv (fun (u : va_W) => w10 ty ad o2 = u) (kz_B D ty A) A) args s 0 0 A) (F0 m 37 ls [])) (q : dS) (x1 : Int32) (x2 : Int32) (x3 : Int32) (x4 : Int32) (H : Heap) (locs : List Loc) (ls : Array Slot) (h : zX10_laysPrices_37b k6 k16 k26 k37 q x1 x2 x3 x4 = some o2) (hP : va_P D vwCl (w10 ty ad q) H) (hD : va_D A (w10 ty ad q)) (hS : va_S A s.heap H locs) (hl : lv_has ls 5 [(0, .ref (ad 0)), (1, .int x1), (2, .int x2), (3, .int x3), (4, .int x4)]) : W p l e ({ frames := 87, cells := 0, slots := 0, locals := 2223 } : Room) s m args below meth c H locs 0 0 (MQ below (va_Qv (fun (u : va_W) => w10 ty ad o2 = u) (kz_B D ty A) A) args s 0 0 A) (F0 m 37 ls []) := by
  have C0 := C
  obtain ⟨hx, hb, hr, hts, hown, hlocks, hml, hK, hN, hE, hA⟩ := C
  unfold zX10_laysPrices_37b at h
  refine lv_iload hx hb dX10_laysPrices_37 (lv_at hl 4 rfl) ?_
  refine lv_iconst (v := 2) hx hb dX10_laysPrices_39 (by decide) ?_
  refine lv_icmp_ge (tgt := 105) hx hb dX10_laysPrices_40 (by decide) (fun c9 => ?_) (fun c9 => ?_)
  · rw [if_pos c9] at h
    refine lv_iinc (v := x3 + 1) (lv' := [(3, .int (x3 + 1)), (0, .ref (ad 0)), (1, .int x1), (2, .int x2), (4, .int x4)]) hx hb dX10_laysPrices_105 hl (k := 3) rfl rfl (by decide) rfl (fun ls hl => ?_)
    refine lv_goto (tgt := 26) hx hb dX10_laysPrices_108 (by decide) ?_
    exact hk26 _ _ _ _ _ _ _ h hP hD hS (lv_sub hl [1, 2, 3, 0] rfl)
  · rw [if_neg c9] at h
    refine lv_aload_n hx hb dX10_laysPrices_43 rfl (lv_at hl 0 rfl) ?_
    refine lv_iload_n hx hb dX10_laysPrices_44 rfl (lv_at hl 1 rfl) ?_
    refine lv_aload_n hx hb dX10_laysPrices_45 rfl (lv_at hl 0 rfl) ?_
    refine lv_iload_n hx hb dX10_laysPrices_46 rfl (lv_at hl 2 rfl) ?_
    obtain ⟨r1, q3, h2, h⟩ := dB_some h
    refine dw_ki (va_runV (As := [.int x2]) (rest := [.int x1, .ref (ad 0)]) ⟨hx, hb, hml, hown, hts⟩ (qX10_rankOf l D ty eo _ ad q x2 r1 q3 h2) (cwV 1 hts gX10_laysPrices_X10_rankOf rfl rfl rfl hd_X10_rankOf_v ⟨Nat.le_of_ble_eq_true rfl, Nat.le_of_ble_eq_true rfl⟩) (pv10_10_0 hK hN hE hP hD hS hA) rfl rfl hl.1 rfl (lv_room (Nat.le_of_ble_eq_true rfl)) dX10_laysPrices_47 ⟨Nat.le_of_ble_eq_true rfl, Nat.le_of_ble_eq_true rfl⟩) hD hS hA (fun r9 u9 H locs hw hp hd hs => ?_)
    clear hP hD hS
    obtain ⟨rfl, rfl⟩ := hw
    have hP := hp; have hD := hd; have hS := hs; clear hp hd hs
    refine lv_iload_n hx hb dX10_laysPrices_50 rfl (lv_at hl 3 rfl) ?_
    refine lv_if_ne (tgt := 58) hx hb dX10_laysPrices_51 (by decide) (fun c9 => ?_) (fun c9 => ?_)
    · rw [if_neg c9] at h
      refine lv_aload_n hx hb dX10_laysPrices_58 rfl (lv_at hl 0 rfl) ?_
      refine lv_iload_n hx hb dX10_laysPrices_59 rfl (lv_at hl 3 rfl) ?_
      refine lv_iconst (v := 1) hx hb dX10_laysPrices_60 (by decide) ?_
      refine lv_isub hx hb dX10_laysPrices_61 ?_
      obtain ⟨r4, q6, h5, h⟩ := dB_some h
      refine dw_ki (va_runV (As := [.int (x3 - 1 : Int32)]) (rest := [.int r1, .int x1, .ref (ad 0)]) ⟨hx, hb, hml, hown, hts⟩ (qX10_rankOf l D ty eo _ ad q3 (x3 - 1 : Int32) r4 q6 h5) (cwV 1 hts gX10_laysPrices_X10_rankOf rfl rfl rfl hd_X10_rankOf_v ⟨Nat.le_of_ble_eq_true rfl, Nat.le_of_ble_eq_true rfl⟩) (pv10_10_0 hK hN hE hP hD hS hA) rfl rfl hl.1 rfl (lv_room (Nat.le_of_ble_eq_true rfl)) dX10_laysPrices_62 ⟨Nat.le_of_ble_eq_true rfl, Nat.le_of_ble_eq_true rfl⟩) hD hS hA (fun r9 u9 H locs hw hp hd hs => ?_)
      clear hP hD hS
      obtain ⟨rfl, rfl⟩ := hw
      have hP := hp; have hD := hd; have hS := hs; clear hp hd hs
      exact WX10_laysPrices_65 C0 hk6 hk16 hk26 hk37 _ _ _ _ _ _ _ _ _ _ _ h hP hD hS (lv_sub hl [0, 1, 2, 3, 4] rfl)
    · rw [if_pos c9] at h
      refine lv_iconst (v := (-1)) hx hb dX10_laysPrices_54 (by decide) ?_
      refine lv_goto (tgt := 65) hx hb dX10_laysPrices_55 (by decide) ?_
      exact WX10_laysPrices_65 C0 hk6 hk16 hk26 hk37 _ _ _ _ _ _ _ _ _ _ _ h hP hD hS (lv_sub hl [0, 1, 2, 3, 4] rfl)
set_option maxHeartbeats 4000000 in
set_option maxRecDepth 100000 in
theorem WX10_laysPrices_37 {p : Program} {l : Launch} {e : Env} {s : State} {m : MethodId} {args : Array Value} {below : List Frame} {meth : Method} {c : Code} {D : va_G} {ty : Nat → ClassId} {eo : Nat → Nat} {A : Nat → Prop} {ad : Nat → Nat} {o2 : dS} (C : dc_C p s m args meth c cX10_laysPrices none 5 RX10 wsX10_laysPrices D ty eo A) {k6 : dS → Int32 → Option (dS)} {k16 : dS → Int32 → Int32 → Option (dS)} {k26 : dS → Int32 → Int32 → Int32 → Option (dS)} (hk6 : ∀ (q : dS) (x1 : Int32) (H : Heap) (locs : List Loc) (ls : Array Slot), k6 q x1 = some o2 → va_P D vwCl (w10 ty ad q) H → va_D A (w10 ty ad q) → va_S A s.heap H locs → lv_has ls 5 [(0, .ref (ad 0)), (1, .int x1)] → W p l e ({ frames := 87, cells := 0, slots := 0, locals := 2223 } : Room) s m args below meth c H locs 0 0 (MQ below (va_Qv (fun (u : va_W) => w10 ty ad o2 = u) (kz_B D ty A) A) args s 0 0 A) (F0 m 6 ls [])) (hk16 : ∀ (q : dS) (x1 : Int32) (x2 : Int32) (H : Heap) (locs : List Loc) (ls : Array Slot), k16 q x1 x2 = some o2 → va_P D vwCl (w10 ty ad q) H → va_D A (w10 ty ad q) → va_S A s.heap H locs → lv_has ls 5 [(0, .ref (ad 0)), (1, .int x1), (2, .int x2)] → W p l e ({ frames := 87, cells := 0, slots := 0, locals := 2223 } : Room) s m args below meth c H locs 0 0 (MQ below (va_Qv (fun (u : va_W) => w10 ty ad o2 = u) (kz_B D ty A) A) args s 0 0 A) (F0 m 16 ls [])) (hk26 : ∀ (q : dS) (x1 : Int32) (x2 : Int32) (x3 : Int32) (H : Heap) (locs : List Loc) (ls : Array Slot), k26 q x1 x2 x3 = some o2 → va_P D vwCl (w10 ty ad q) H → va_D A (w10 ty ad q) → va_S A s.heap H locs → lv_has ls 5 [(0, .ref (ad 0)), (1, .int x1), (2, .int x2), (3, .int x3)] → W p l e ({ frames := 87, cells := 0, slots := 0, locals := 2223 } : Room) s m args below meth c H locs 0 0 (MQ below (va_Qv (fun (u : va_W) => w10 ty ad o2 = u) (kz_B D ty A) A) args s 0 0 A) (F0 m 26 ls [])) (n : Nat) (q : dS) (x1 : Int32) (x2 : Int32) (x3 : Int32) (x4 : Int32) (H : Heap) (locs : List Loc) (ls : Array Slot) (h : zX10_laysPrices_37 k6 k16 k26 n q x1 x2 x3 x4 = some o2) (hP : va_P D vwCl (w10 ty ad q) H) (hD : va_D A (w10 ty ad q)) (hS : va_S A s.heap H locs) (hl : lv_has ls 5 [(0, .ref (ad 0)), (1, .int x1), (2, .int x2), (3, .int x3), (4, .int x4)]) : W p l e ({ frames := 87, cells := 0, slots := 0, locals := 2223 } : Room) s m args below meth c H locs 0 0 (MQ below (va_Qv (fun (u : va_W) => w10 ty ad o2 = u) (kz_B D ty A) A) args s 0 0 A) (F0 m 37 ls []) := by
  exact dFix_W (F := fun k (a : dS × Int32 × Int32 × Int32 × Int32) => zX10_laysPrices_37b k6 k16 k26 (fun q x1 x2 x3 x4 => k (q, x1, x2, x3, x4)) a.1 a.2.1 a.2.2.1 a.2.2.2.1 a.2.2.2.2) (o := o2) (P := fun (a : dS × Int32 × Int32 × Int32 × Int32) H locs ls => va_P D vwCl (w10 ty ad a.1) H ∧ va_D A (w10 ty ad a.1) ∧ va_S A s.heap H locs ∧ lv_has ls 5 [(0, .ref (ad 0)), (1, .int a.2.1), (2, .int a.2.2.1), (3, .int a.2.2.2.1), (4, .int a.2.2.2.2)]) (G := fun H locs ls => W p l e ({ frames := 87, cells := 0, slots := 0, locals := 2223 } : Room) s m args below meth c H locs 0 0 (MQ below (va_Qv (fun (u : va_W) => w10 ty ad o2 = u) (kz_B D ty A) A) args s 0 0 A) (F0 m 37 ls []))
    (fun k hk a H locs ls h hp => WX10_laysPrices_37b C hk6 hk16 hk26 (fun q x1 x2 x3 x4 H locs ls h h1 h2 h3 h4 => hk (q, x1, x2, x3, x4) H locs ls h ⟨h1, h2, h3, h4⟩) a.1 a.2.1 a.2.2.1 a.2.2.2.1 a.2.2.2.2 H locs ls h hp.1 hp.2.1 hp.2.2.1 hp.2.2.2) n (q, x1, x2, x3, x4) H locs ls h ⟨hP, hD, hS, hl⟩
set_option maxHeartbeats 4000000 in
set_option maxRecDepth 100000 in
theorem WX10_laysPrices_26b {p : Program} {l : Launch} {e : Env} {s : State} {m : MethodId} {args : Array Value} {below : List Frame} {meth : Method} {c : Code} {D : va_G} {ty : Nat → ClassId} {eo : Nat → Nat} {A : Nat → Prop} {ad : Nat → Nat} {o2 : dS} (C : dc_C p s m args meth c cX10_laysPrices none 5 RX10 wsX10_laysPrices D ty eo A) {k6 : dS → Int32 → Option (dS)} {k16 : dS → Int32 → Int32 → Option (dS)} {k26 : dS → Int32 → Int32 → Int32 → Option (dS)} (hk6 : ∀ (q : dS) (x1 : Int32) (H : Heap) (locs : List Loc) (ls : Array Slot), k6 q x1 = some o2 → va_P D vwCl (w10 ty ad q) H → va_D A (w10 ty ad q) → va_S A s.heap H locs → lv_has ls 5 [(0, .ref (ad 0)), (1, .int x1)] → W p l e ({ frames := 87, cells := 0, slots := 0, locals := 2223 } : Room) s m args below meth c H locs 0 0 (MQ below (va_Qv (fun (u : va_W) => w10 ty ad o2 = u) (kz_B D ty A) A) args s 0 0 A) (F0 m 6 ls [])) (hk16 : ∀ (q : dS) (x1 : Int32) (x2 : Int32) (H : Heap) (locs : List Loc) (ls : Array Slot), k16 q x1 x2 = some o2 → va_P D vwCl (w10 ty ad q) H → va_D A (w10 ty ad q) → va_S A s.heap H locs → lv_has ls 5 [(0, .ref (ad 0)), (1, .int x1), (2, .int x2)] → W p l e ({ frames := 87, cells := 0, slots := 0, locals := 2223 } : Room) s m args below meth c H locs 0 0 (MQ below (va_Qv (fun (u : va_W) => w10 ty ad o2 = u) (kz_B D ty A) A) args s 0 0 A) (F0 m 16 ls [])) (hk26 : ∀ (q : dS) (x1 : Int32) (x2 : Int32) (x3 : Int32) (H : Heap) (locs : List Loc) (ls : Array Slot), k26 q x1 x2 x3 = some o2 → va_P D vwCl (w10 ty ad q) H → va_D A (w10 ty ad q) → va_S A s.heap H locs → lv_has ls 5 [(0, .ref (ad 0)), (1, .int x1), (2, .int x2), (3, .int x3)] → W p l e ({ frames := 87, cells := 0, slots := 0, locals := 2223 } : Room) s m args below meth c H locs 0 0 (MQ below (va_Qv (fun (u : va_W) => w10 ty ad o2 = u) (kz_B D ty A) A) args s 0 0 A) (F0 m 26 ls [])) (q : dS) (x1 : Int32) (x2 : Int32) (x3 : Int32) (H : Heap) (locs : List Loc) (ls : Array Slot) (h : zX10_laysPrices_26b k6 k16 k26 q x1 x2 x3 = some o2) (hP : va_P D vwCl (w10 ty ad q) H) (hD : va_D A (w10 ty ad q)) (hS : va_S A s.heap H locs) (hl : lv_has ls 5 [(0, .ref (ad 0)), (1, .int x1), (2, .int x2), (3, .int x3)]) : W p l e ({ frames := 87, cells := 0, slots := 0, locals := 2223 } : Room) s m args below meth c H locs 0 0 (MQ below (va_Qv (fun (u : va_W) => w10 ty ad o2 = u) (kz_B D ty A) A) args s 0 0 A) (F0 m 26 ls []) := by
  have C0 := C
  obtain ⟨hx, hb, hr, hts, hown, hlocks, hml, hK, hN, hE, hA⟩ := C
  unfold zX10_laysPrices_26b at h
  refine lv_iload_n hx hb dX10_laysPrices_26 rfl (lv_at hl 3 rfl) ?_
  refine lv_aload_n hx hb dX10_laysPrices_27 rfl (lv_at hl 0 rfl) ?_
  obtain ⟨r1, q3, h2, h⟩ := dB_some h
  refine dw_ki (va_runV (As := []) (rest := [.int x3]) ⟨hx, hb, hml, hown, hts⟩ (qX10_size l D ty eo _ ad q  r1 q3 h2) (cwV 0 hts gX10_laysPrices_X10_size rfl rfl rfl hd_X10_size_v ⟨Nat.le_of_ble_eq_true rfl, Nat.le_of_ble_eq_true rfl⟩) (pv10_10_0 hK hN hE hP hD hS hA) rfl rfl hl.1 rfl (lv_room (Nat.le_of_ble_eq_true rfl)) dX10_laysPrices_28 ⟨Nat.le_of_ble_eq_true rfl, Nat.le_of_ble_eq_true rfl⟩) hD hS hA (fun r9 u9 H locs hw hp hd hs => ?_)
  clear hP hD hS
  obtain ⟨rfl, rfl⟩ := hw
  have hP := hp; have hD := hd; have hS := hs; clear hp hd hs
  refine lv_icmp_gt (tgt := 111) hx hb dX10_laysPrices_31 (by decide) (fun c9 => ?_) (fun c9 => ?_)
  · rw [if_pos c9] at h
    refine lv_iinc (v := x2 + 1) (lv' := [(2, .int (x2 + 1)), (0, .ref (ad 0)), (1, .int x1), (3, .int x3)]) hx hb dX10_laysPrices_111 hl (k := 2) rfl rfl (by decide) rfl (fun ls hl => ?_)
    refine lv_goto (tgt := 16) hx hb dX10_laysPrices_114 (by decide) ?_
    exact hk16 _ _ _ _ _ _ h hP hD hS (lv_sub hl [1, 2, 0] rfl)
  · rw [if_neg c9] at h
    refine lv_iconst (v := 0) hx hb dX10_laysPrices_34 (by decide) ?_
    refine lv_istore (lv' := [(4, .int 0), (0, .ref (ad 0)), (1, .int x1), (2, .int x2), (3, .int x3)]) hx hb dX10_laysPrices_35 hl (by decide) rfl (fun ls hl => ?_)
    exact WX10_laysPrices_37 C0 hk6 hk16 hk26 _ _ _ _ _ _ _ _ _ h hP hD hS (lv_sub hl [1, 2, 3, 4, 0] rfl)
set_option maxHeartbeats 4000000 in
set_option maxRecDepth 100000 in
theorem WX10_laysPrices_26 {p : Program} {l : Launch} {e : Env} {s : State} {m : MethodId} {args : Array Value} {below : List Frame} {meth : Method} {c : Code} {D : va_G} {ty : Nat → ClassId} {eo : Nat → Nat} {A : Nat → Prop} {ad : Nat → Nat} {o2 : dS} (C : dc_C p s m args meth c cX10_laysPrices none 5 RX10 wsX10_laysPrices D ty eo A) {k6 : dS → Int32 → Option (dS)} {k16 : dS → Int32 → Int32 → Option (dS)} (hk6 : ∀ (q : dS) (x1 : Int32) (H : Heap) (locs : List Loc) (ls : Array Slot), k6 q x1 = some o2 → va_P D vwCl (w10 ty ad q) H → va_D A (w10 ty ad q) → va_S A s.heap H locs → lv_has ls 5 [(0, .ref (ad 0)), (1, .int x1)] → W p l e ({ frames := 87, cells := 0, slots := 0, locals := 2223 } : Room) s m args below meth c H locs 0 0 (MQ below (va_Qv (fun (u : va_W) => w10 ty ad o2 = u) (kz_B D ty A) A) args s 0 0 A) (F0 m 6 ls [])) (hk16 : ∀ (q : dS) (x1 : Int32) (x2 : Int32) (H : Heap) (locs : List Loc) (ls : Array Slot), k16 q x1 x2 = some o2 → va_P D vwCl (w10 ty ad q) H → va_D A (w10 ty ad q) → va_S A s.heap H locs → lv_has ls 5 [(0, .ref (ad 0)), (1, .int x1), (2, .int x2)] → W p l e ({ frames := 87, cells := 0, slots := 0, locals := 2223 } : Room) s m args below meth c H locs 0 0 (MQ below (va_Qv (fun (u : va_W) => w10 ty ad o2 = u) (kz_B D ty A) A) args s 0 0 A) (F0 m 16 ls [])) (n : Nat) (q : dS) (x1 : Int32) (x2 : Int32) (x3 : Int32) (H : Heap) (locs : List Loc) (ls : Array Slot) (h : zX10_laysPrices_26 k6 k16 n q x1 x2 x3 = some o2) (hP : va_P D vwCl (w10 ty ad q) H) (hD : va_D A (w10 ty ad q)) (hS : va_S A s.heap H locs) (hl : lv_has ls 5 [(0, .ref (ad 0)), (1, .int x1), (2, .int x2), (3, .int x3)]) : W p l e ({ frames := 87, cells := 0, slots := 0, locals := 2223 } : Room) s m args below meth c H locs 0 0 (MQ below (va_Qv (fun (u : va_W) => w10 ty ad o2 = u) (kz_B D ty A) A) args s 0 0 A) (F0 m 26 ls []) := by
  exact dFix_W (F := fun k (a : dS × Int32 × Int32 × Int32) => zX10_laysPrices_26b k6 k16 (fun q x1 x2 x3 => k (q, x1, x2, x3)) a.1 a.2.1 a.2.2.1 a.2.2.2) (o := o2) (P := fun (a : dS × Int32 × Int32 × Int32) H locs ls => va_P D vwCl (w10 ty ad a.1) H ∧ va_D A (w10 ty ad a.1) ∧ va_S A s.heap H locs ∧ lv_has ls 5 [(0, .ref (ad 0)), (1, .int a.2.1), (2, .int a.2.2.1), (3, .int a.2.2.2)]) (G := fun H locs ls => W p l e ({ frames := 87, cells := 0, slots := 0, locals := 2223 } : Room) s m args below meth c H locs 0 0 (MQ below (va_Qv (fun (u : va_W) => w10 ty ad o2 = u) (kz_B D ty A) A) args s 0 0 A) (F0 m 26 ls []))
    (fun k hk a H locs ls h hp => WX10_laysPrices_26b C hk6 hk16 (fun q x1 x2 x3 H locs ls h h1 h2 h3 h4 => hk (q, x1, x2, x3) H locs ls h ⟨h1, h2, h3, h4⟩) a.1 a.2.1 a.2.2.1 a.2.2.2 H locs ls h hp.1 hp.2.1 hp.2.2.1 hp.2.2.2) n (q, x1, x2, x3) H locs ls h ⟨hP, hD, hS, hl⟩
set_option maxHeartbeats 4000000 in
set_option maxRecDepth 100000 in
theorem WX10_laysPrices_16b {p : Program} {l : Launch} {e : Env} {s : State} {m : MethodId} {args : Array Value} {below : List Frame} {meth : Method} {c : Code} {D : va_G} {ty : Nat → ClassId} {eo : Nat → Nat} {A : Nat → Prop} {ad : Nat → Nat} {o2 : dS} (C : dc_C p s m args meth c cX10_laysPrices none 5 RX10 wsX10_laysPrices D ty eo A) {k6 : dS → Int32 → Option (dS)} {k16 : dS → Int32 → Int32 → Option (dS)} (hk6 : ∀ (q : dS) (x1 : Int32) (H : Heap) (locs : List Loc) (ls : Array Slot), k6 q x1 = some o2 → va_P D vwCl (w10 ty ad q) H → va_D A (w10 ty ad q) → va_S A s.heap H locs → lv_has ls 5 [(0, .ref (ad 0)), (1, .int x1)] → W p l e ({ frames := 87, cells := 0, slots := 0, locals := 2223 } : Room) s m args below meth c H locs 0 0 (MQ below (va_Qv (fun (u : va_W) => w10 ty ad o2 = u) (kz_B D ty A) A) args s 0 0 A) (F0 m 6 ls [])) (hk16 : ∀ (q : dS) (x1 : Int32) (x2 : Int32) (H : Heap) (locs : List Loc) (ls : Array Slot), k16 q x1 x2 = some o2 → va_P D vwCl (w10 ty ad q) H → va_D A (w10 ty ad q) → va_S A s.heap H locs → lv_has ls 5 [(0, .ref (ad 0)), (1, .int x1), (2, .int x2)] → W p l e ({ frames := 87, cells := 0, slots := 0, locals := 2223 } : Room) s m args below meth c H locs 0 0 (MQ below (va_Qv (fun (u : va_W) => w10 ty ad o2 = u) (kz_B D ty A) A) args s 0 0 A) (F0 m 16 ls [])) (q : dS) (x1 : Int32) (x2 : Int32) (H : Heap) (locs : List Loc) (ls : Array Slot) (h : zX10_laysPrices_16b k6 k16 q x1 x2 = some o2) (hP : va_P D vwCl (w10 ty ad q) H) (hD : va_D A (w10 ty ad q)) (hS : va_S A s.heap H locs) (hl : lv_has ls 5 [(0, .ref (ad 0)), (1, .int x1), (2, .int x2)]) : W p l e ({ frames := 87, cells := 0, slots := 0, locals := 2223 } : Room) s m args below meth c H locs 0 0 (MQ below (va_Qv (fun (u : va_W) => w10 ty ad o2 = u) (kz_B D ty A) A) args s 0 0 A) (F0 m 16 ls []) := by
  have C0 := C
  obtain ⟨hx, hb, hr, hts, hown, hlocks, hml, hK, hN, hE, hA⟩ := C
  unfold zX10_laysPrices_16b at h
  refine lv_iload_n hx hb dX10_laysPrices_16 rfl (lv_at hl 2 rfl) ?_
  refine lv_aload_n hx hb dX10_laysPrices_17 rfl (lv_at hl 0 rfl) ?_
  obtain ⟨r1, q3, h2, h⟩ := dB_some h
  refine dw_ki (va_runV (As := []) (rest := [.int x2]) ⟨hx, hb, hml, hown, hts⟩ (qX10_size l D ty eo _ ad q  r1 q3 h2) (cwV 0 hts gX10_laysPrices_X10_size rfl rfl rfl hd_X10_size_v ⟨Nat.le_of_ble_eq_true rfl, Nat.le_of_ble_eq_true rfl⟩) (pv10_10_0 hK hN hE hP hD hS hA) rfl rfl hl.1 rfl (lv_room (Nat.le_of_ble_eq_true rfl)) dX10_laysPrices_18 ⟨Nat.le_of_ble_eq_true rfl, Nat.le_of_ble_eq_true rfl⟩) hD hS hA (fun r9 u9 H locs hw hp hd hs => ?_)
  clear hP hD hS
  obtain ⟨rfl, rfl⟩ := hw
  have hP := hp; have hD := hd; have hS := hs; clear hp hd hs
  refine lv_icmp_ge (tgt := 117) hx hb dX10_laysPrices_21 (by decide) (fun c9 => ?_) (fun c9 => ?_)
  · rw [if_pos c9] at h
    refine lv_iinc (v := x1 + 1) (lv' := [(1, .int (x1 + 1)), (0, .ref (ad 0)), (2, .int x2)]) hx hb dX10_laysPrices_117 hl (k := 1) rfl rfl (by decide) rfl (fun ls hl => ?_)
    refine lv_goto (tgt := 6) hx hb dX10_laysPrices_120 (by decide) ?_
    exact hk6 _ _ _ _ _ h hP hD hS (lv_sub hl [1, 0] rfl)
  · rw [if_neg c9] at h
    refine lv_iconst (v := 0) hx hb dX10_laysPrices_24 (by decide) ?_
    refine lv_istore_n (lv' := [(3, .int 0), (0, .ref (ad 0)), (1, .int x1), (2, .int x2)]) hx hb dX10_laysPrices_25 rfl hl (by decide) rfl (fun ls hl => ?_)
    exact WX10_laysPrices_26 C0 hk6 hk16 _ _ _ _ _ _ _ _ h hP hD hS (lv_sub hl [1, 2, 3, 0] rfl)
set_option maxHeartbeats 4000000 in
set_option maxRecDepth 100000 in
theorem WX10_laysPrices_16 {p : Program} {l : Launch} {e : Env} {s : State} {m : MethodId} {args : Array Value} {below : List Frame} {meth : Method} {c : Code} {D : va_G} {ty : Nat → ClassId} {eo : Nat → Nat} {A : Nat → Prop} {ad : Nat → Nat} {o2 : dS} (C : dc_C p s m args meth c cX10_laysPrices none 5 RX10 wsX10_laysPrices D ty eo A) {k6 : dS → Int32 → Option (dS)} (hk6 : ∀ (q : dS) (x1 : Int32) (H : Heap) (locs : List Loc) (ls : Array Slot), k6 q x1 = some o2 → va_P D vwCl (w10 ty ad q) H → va_D A (w10 ty ad q) → va_S A s.heap H locs → lv_has ls 5 [(0, .ref (ad 0)), (1, .int x1)] → W p l e ({ frames := 87, cells := 0, slots := 0, locals := 2223 } : Room) s m args below meth c H locs 0 0 (MQ below (va_Qv (fun (u : va_W) => w10 ty ad o2 = u) (kz_B D ty A) A) args s 0 0 A) (F0 m 6 ls [])) (n : Nat) (q : dS) (x1 : Int32) (x2 : Int32) (H : Heap) (locs : List Loc) (ls : Array Slot) (h : zX10_laysPrices_16 k6 n q x1 x2 = some o2) (hP : va_P D vwCl (w10 ty ad q) H) (hD : va_D A (w10 ty ad q)) (hS : va_S A s.heap H locs) (hl : lv_has ls 5 [(0, .ref (ad 0)), (1, .int x1), (2, .int x2)]) : W p l e ({ frames := 87, cells := 0, slots := 0, locals := 2223 } : Room) s m args below meth c H locs 0 0 (MQ below (va_Qv (fun (u : va_W) => w10 ty ad o2 = u) (kz_B D ty A) A) args s 0 0 A) (F0 m 16 ls []) := by
  exact dFix_W (F := fun k (a : dS × Int32 × Int32) => zX10_laysPrices_16b k6 (fun q x1 x2 => k (q, x1, x2)) a.1 a.2.1 a.2.2) (o := o2) (P := fun (a : dS × Int32 × Int32) H locs ls => va_P D vwCl (w10 ty ad a.1) H ∧ va_D A (w10 ty ad a.1) ∧ va_S A s.heap H locs ∧ lv_has ls 5 [(0, .ref (ad 0)), (1, .int a.2.1), (2, .int a.2.2)]) (G := fun H locs ls => W p l e ({ frames := 87, cells := 0, slots := 0, locals := 2223 } : Room) s m args below meth c H locs 0 0 (MQ below (va_Qv (fun (u : va_W) => w10 ty ad o2 = u) (kz_B D ty A) A) args s 0 0 A) (F0 m 16 ls []))
    (fun k hk a H locs ls h hp => WX10_laysPrices_16b C hk6 (fun q x1 x2 H locs ls h h1 h2 h3 h4 => hk (q, x1, x2) H locs ls h ⟨h1, h2, h3, h4⟩) a.1 a.2.1 a.2.2 H locs ls h hp.1 hp.2.1 hp.2.2.1 hp.2.2.2) n (q, x1, x2) H locs ls h ⟨hP, hD, hS, hl⟩
set_option maxHeartbeats 4000000 in
set_option maxRecDepth 100000 in
theorem WX10_laysPrices_6b {p : Program} {l : Launch} {e : Env} {s : State} {m : MethodId} {args : Array Value} {below : List Frame} {meth : Method} {c : Code} {D : va_G} {ty : Nat → ClassId} {eo : Nat → Nat} {A : Nat → Prop} {ad : Nat → Nat} {o2 : dS} (C : dc_C p s m args meth c cX10_laysPrices none 5 RX10 wsX10_laysPrices D ty eo A) {k6 : dS → Int32 → Option (dS)} (hk6 : ∀ (q : dS) (x1 : Int32) (H : Heap) (locs : List Loc) (ls : Array Slot), k6 q x1 = some o2 → va_P D vwCl (w10 ty ad q) H → va_D A (w10 ty ad q) → va_S A s.heap H locs → lv_has ls 5 [(0, .ref (ad 0)), (1, .int x1)] → W p l e ({ frames := 87, cells := 0, slots := 0, locals := 2223 } : Room) s m args below meth c H locs 0 0 (MQ below (va_Qv (fun (u : va_W) => w10 ty ad o2 = u) (kz_B D ty A) A) args s 0 0 A) (F0 m 6 ls [])) (q : dS) (x1 : Int32) (H : Heap) (locs : List Loc) (ls : Array Slot) (h : zX10_laysPrices_6b k6 q x1 = some o2) (hP : va_P D vwCl (w10 ty ad q) H) (hD : va_D A (w10 ty ad q)) (hS : va_S A s.heap H locs) (hl : lv_has ls 5 [(0, .ref (ad 0)), (1, .int x1)]) : W p l e ({ frames := 87, cells := 0, slots := 0, locals := 2223 } : Room) s m args below meth c H locs 0 0 (MQ below (va_Qv (fun (u : va_W) => w10 ty ad o2 = u) (kz_B D ty A) A) args s 0 0 A) (F0 m 6 ls []) := by
  have C0 := C
  obtain ⟨hx, hb, hr, hts, hown, hlocks, hml, hK, hN, hE, hA⟩ := C
  unfold zX10_laysPrices_6b at h
  refine lv_iload_n hx hb dX10_laysPrices_6 rfl (lv_at hl 1 rfl) ?_
  refine lv_aload_n hx hb dX10_laysPrices_7 rfl (lv_at hl 0 rfl) ?_
  obtain ⟨r1, q3, h2, h⟩ := dB_some h
  refine dw_ki (va_runV (As := []) (rest := [.int x1]) ⟨hx, hb, hml, hown, hts⟩ (qX10_size l D ty eo _ ad q  r1 q3 h2) (cwV 0 hts gX10_laysPrices_X10_size rfl rfl rfl hd_X10_size_v ⟨Nat.le_of_ble_eq_true rfl, Nat.le_of_ble_eq_true rfl⟩) (pv10_10_0 hK hN hE hP hD hS hA) rfl rfl hl.1 rfl (lv_room (Nat.le_of_ble_eq_true rfl)) dX10_laysPrices_8 ⟨Nat.le_of_ble_eq_true rfl, Nat.le_of_ble_eq_true rfl⟩) hD hS hA (fun r9 u9 H locs hw hp hd hs => ?_)
  clear hP hD hS
  obtain ⟨rfl, rfl⟩ := hw
  have hP := hp; have hD := hd; have hS := hs; clear hp hd hs
  refine lv_icmp_gt (tgt := 123) hx hb dX10_laysPrices_11 (by decide) (fun c9 => ?_) (fun c9 => ?_)
  · rw [if_pos c9] at h
    cases h
    exact kz_vret hx hb hr hlocks hP hK hD hS dX10_laysPrices_123 rfl
  · rw [if_neg c9] at h
    refine lv_iconst (v := 0) hx hb dX10_laysPrices_14 (by decide) ?_
    refine lv_istore_n (lv' := [(2, .int 0), (0, .ref (ad 0)), (1, .int x1)]) hx hb dX10_laysPrices_15 rfl hl (by decide) rfl (fun ls hl => ?_)
    exact WX10_laysPrices_16 C0 hk6 _ _ _ _ _ _ _ h hP hD hS (lv_sub hl [1, 2, 0] rfl)
set_option maxHeartbeats 4000000 in
set_option maxRecDepth 100000 in
theorem WX10_laysPrices_6 {p : Program} {l : Launch} {e : Env} {s : State} {m : MethodId} {args : Array Value} {below : List Frame} {meth : Method} {c : Code} {D : va_G} {ty : Nat → ClassId} {eo : Nat → Nat} {A : Nat → Prop} {ad : Nat → Nat} {o2 : dS} (C : dc_C p s m args meth c cX10_laysPrices none 5 RX10 wsX10_laysPrices D ty eo A)   (n : Nat) (q : dS) (x1 : Int32) (H : Heap) (locs : List Loc) (ls : Array Slot) (h : zX10_laysPrices_6  n q x1 = some o2) (hP : va_P D vwCl (w10 ty ad q) H) (hD : va_D A (w10 ty ad q)) (hS : va_S A s.heap H locs) (hl : lv_has ls 5 [(0, .ref (ad 0)), (1, .int x1)]) : W p l e ({ frames := 87, cells := 0, slots := 0, locals := 2223 } : Room) s m args below meth c H locs 0 0 (MQ below (va_Qv (fun (u : va_W) => w10 ty ad o2 = u) (kz_B D ty A) A) args s 0 0 A) (F0 m 6 ls []) := by
  exact dFix_W (F := fun k (a : dS × Int32) => zX10_laysPrices_6b  (fun q x1 => k (q, x1)) a.1 a.2) (o := o2) (P := fun (a : dS × Int32) H locs ls => va_P D vwCl (w10 ty ad a.1) H ∧ va_D A (w10 ty ad a.1) ∧ va_S A s.heap H locs ∧ lv_has ls 5 [(0, .ref (ad 0)), (1, .int a.2)]) (G := fun H locs ls => W p l e ({ frames := 87, cells := 0, slots := 0, locals := 2223 } : Room) s m args below meth c H locs 0 0 (MQ below (va_Qv (fun (u : va_W) => w10 ty ad o2 = u) (kz_B D ty A) A) args s 0 0 A) (F0 m 6 ls []))
    (fun k hk a H locs ls h hp => WX10_laysPrices_6b C  (fun q x1 H locs ls h h1 h2 h3 h4 => hk (q, x1) H locs ls h ⟨h1, h2, h3, h4⟩) a.1 a.2 H locs ls h hp.1 hp.2.1 hp.2.2.1 hp.2.2.2) n (q, x1) H locs ls h ⟨hP, hD, hS, hl⟩
set_option maxHeartbeats 4000000 in
set_option maxRecDepth 100000 in
theorem qX10_laysPrices (l : Launch) (D : va_G) (ty : Nat → ClassId) (eo : Nat → Nat) (sz : Nat) (ad : Nat → Nat) (q : dS)  (o2 : dS) (h : zX10_laysPrices q = some o2) : Met l yX10_laysPrices wsX10_laysPrices ({ frames := 87, cells := 0, slots := 0, locals := 2223 } : Room) (va_Pc [.ref (ad 0)] (kz_pre D ty eo (w10 ty ad q) sz)) (va_Qv (fun (u : va_W) => w10 ty ad o2 = u) (kz_B D ty (va_A (w10 ty ad q) sz)) (va_A (w10 ty ad q) sz)) 0 0 (va_A (w10 ty ad q) sz) := by
  refine Met.ofW (cc := cX10_laysPrices) (maxL := 5) (ret := none) (by decide) rfl ?_
  intro p e s m args below meth c s₁ B hml hv
  obtain ⟨rfl, hsz, hP, hK, hD0, hN, hE⟩ := hv
  have hx := B.exec
  have hb := B.bytes
  have hr := B.returns
  have hts := atoms_spec (ws := wsX10_laysPrices) B.pre
  have hown : s.vm.findClass RX10 = some m.cls := findClass_of_methodNamed B.named
  have hlocks := B.notSynchronized
  subst hsz
  have hD := hD0.self (sz := s.heap.size)
  generalize hAe : va_A (w10 ty ad q) s.heap.size = A at hD hE ⊢
  have hA : ∀ q : Nat, s.heap.size ≤ q → A q := fun q h => by rw [← hAe]; exact Or.inr h
  clear hAe
  have hS : va_S A s.heap s.heap [] := va_S.rf
  have hl := lv_entry ([.ref (ad 0)]) (n := 5) (Nat.le_of_ble_eq_true rfl)
  rw [lg_entry_eq]
  generalize (lg_sl ([.ref (ad 0)]) ++ List.replicate (5 - (lg_sl ([.ref (ad 0)])).length) Slot.unset).toArray = ls at hl ⊢
  have hl : lv_has ls 5 [(0, .ref (ad 0))] := hl
  have C : dc_C p s m _ meth c cX10_laysPrices none 5 RX10 wsX10_laysPrices D ty eo A := ⟨hx, hb, hr, hts, hown, hlocks, hml, hK, hN, hE, hA⟩
  unfold zX10_laysPrices at h
  refine lv_aload_n hx hb dX10_laysPrices_0 rfl (lv_at hl 0 rfl) ?_
  obtain ⟨q3, h2, h⟩ := dV_some h
  refine dw_kv (va_runV (As := []) (rest := []) ⟨hx, hb, hml, hown, hts⟩ (qX10_laysTables l D ty eo _ ad q  q3 h2) (cwV 0 hts gX10_laysPrices_X10_laysTables rfl rfl rfl hd_X10_laysTables_v ⟨Nat.le_of_ble_eq_true rfl, Nat.le_of_ble_eq_true rfl⟩) (pv10_10_0 hK hN hE hP hD hS hA) rfl rfl hl.1 rfl (lv_room (Nat.le_of_ble_eq_true rfl)) dX10_laysPrices_1 ⟨Nat.le_of_ble_eq_true rfl, Nat.le_of_ble_eq_true rfl⟩) hD hS hA (fun u9 H locs hw hp hd hs => ?_)
  clear hP hD hS
  obtain rfl := hw
  have hP := hp; have hD := hd; have hS := hs; clear hp hd hs
  refine lv_iconst (v := 1) hx hb dX10_laysPrices_4 (by decide) ?_
  refine lv_istore_n (lv' := [(1, .int 1), (0, .ref (ad 0))]) hx hb dX10_laysPrices_5 rfl hl (by decide) rfl (fun ls hl => ?_)
  exact WX10_laysPrices_6 C  _ _ _ _ _ _ h hP hD hS (lv_sub hl [1, 0] rfl)

set_option maxHeartbeats 4000000 in
set_option maxRecDepth 100000 in
theorem WX10_priceOf_41 {p : Program} {l : Launch} {e : Env} {s : State} {m : MethodId} {args : Array Value} {below : List Frame} {meth : Method} {c : Code} {D : va_G} {ty : Nat → ClassId} {eo : Nat → Nat} {A : Nat → Prop} {ad : Nat → Nat} {o1 : Int32} {o2 : dS} (C : dc_C p s m args meth c cX10_priceOf (some .int) 4 RX10 wsX10_priceOf D ty eo A)   (q : dS) (x1 : Int32) (y0 : Int32) (y1 : Int32) (y2 : Int32) (H : Heap) (locs : List Loc) (ls : Array Slot) (h : zX10_priceOf_41  q x1 y0 y1 y2 = some (o1, o2)) (hP : va_P D vwCl (w10 ty ad q) H) (hD : va_D A (w10 ty ad q)) (hS : va_S A s.heap H locs) (hl : lv_has ls 4 [(1, .int x1)]) : W p l e ({ frames := 1, cells := 0, slots := 0, locals := 23 } : Room) s m args below meth c H locs 0 0 (MQ below (va_Qi (fun (r : Int32) (u : va_W) => o1 = r ∧ w10 ty ad o2 = u) (kz_B D ty A) A) args s 0 0 A) (F0 m 41 ls [.int y0, .int y1, .int y2, .ref (ad 20)]) := by
  have C0 := C
  obtain ⟨hx, hb, hr, hts, hown, hlocks, hml, hK, hN, hE, hA⟩ := C
  unfold zX10_priceOf_41 at h
  refine lv_iload_n hx hb dX10_priceOf_41 rfl (lv_at hl 0 rfl) ?_
  refine lv_iconst (v := 2) hx hb dX10_priceOf_42 (by decide) ?_
  refine lv_irem hx hb dX10_priceOf_43 (by decide) ?_
  obtain ⟨r1, h2, h⟩ := dV_some h
  refine dw_ks (va_runS (As := [.int y2, .int y1, .int y0, .int (x1 - x1 / 2 * 2 : Int32)]) (rest := [.ref (ad 20)]) ⟨hx, hb, hml, hown, hts⟩ (qX10_askedAt l D ty eo _ y2 y1 y0 (x1 - x1 / 2 * 2 : Int32) _ h2) (va_cwS 4 hts gX10_priceOf_X10_askedAt rfl rfl rfl hd_X10_askedAt ⟨Nat.le_of_ble_eq_true rfl, Nat.le_of_ble_eq_true rfl⟩) (pvS_0 hK hN hE hP hD hS hA) rfl rfl hl.1 rfl (lv_room (Nat.le_of_ble_eq_true rfl)) dX10_priceOf_44 ⟨Nat.le_of_ble_eq_true rfl, Nat.le_of_ble_eq_true rfl⟩) hP hD hS hA (fun _ _ h9 => h9.2.symm) (fun r9 u9 H locs hw hp hd hs => ?_)
  obtain ⟨rfl, -⟩ := hw
  clear hP hD hS
  have hP := hp; have hD := hd; have hS := hs; clear hp hd hs
  obtain ⟨g3, h⟩ := dG_some h
  refine va_iald hx hb hK hP 20 0 rfl rfl (dg_in g3) dX10_priceOf_47 ?_
  obtain ⟨v4, ev4, h⟩ := dL_some h
  refine kz_topi v4 ev4 ?_
  cases h
  exact kz_iret hx hb hr hlocks hP hK hD hS dX10_priceOf_48 ⟨rfl, rfl⟩
set_option maxHeartbeats 4000000 in
set_option maxRecDepth 100000 in
theorem qX10_priceOf (l : Launch) (D : va_G) (ty : Nat → ClassId) (eo : Nat → Nat) (sz : Nat) (ad : Nat → Nat) (q : dS) (p1 : Int32) (p2 : Int32) (o1 : Int32) (o2 : dS) (h : zX10_priceOf q p1 p2 = some (o1, o2)) : Met l yX10_priceOf wsX10_priceOf ({ frames := 1, cells := 0, slots := 0, locals := 23 } : Room) (va_Pc [.ref (ad 0), .int p1, .int p2] (kz_pre D ty eo (w10 ty ad q) sz)) (va_Qi (fun (r : Int32) (u : va_W) => o1 = r ∧ w10 ty ad o2 = u) (kz_B D ty (va_A (w10 ty ad q) sz)) (va_A (w10 ty ad q) sz)) 0 0 (va_A (w10 ty ad q) sz) := by
  refine Met.ofW (cc := cX10_priceOf) (maxL := 4) (ret := (some .int)) (by decide) rfl ?_
  intro p e s m args below meth c s₁ B hml hv
  obtain ⟨rfl, hsz, hP, hK, hD0, hN, hE⟩ := hv
  have hx := B.exec
  have hb := B.bytes
  have hr := B.returns
  have hts := atoms_spec (ws := wsX10_priceOf) B.pre
  have hown : s.vm.findClass RX10 = some m.cls := findClass_of_methodNamed B.named
  have hlocks := B.notSynchronized
  subst hsz
  have hD := hD0.self (sz := s.heap.size)
  generalize hAe : va_A (w10 ty ad q) s.heap.size = A at hD hE ⊢
  have hA : ∀ q : Nat, s.heap.size ≤ q → A q := fun q h => by rw [← hAe]; exact Or.inr h
  clear hAe
  have hS : va_S A s.heap s.heap [] := va_S.rf
  have hl := lv_entry ([.ref (ad 0), .int p1, .int p2]) (n := 4) (Nat.le_of_ble_eq_true rfl)
  rw [lg_entry_eq]
  generalize (lg_sl ([.ref (ad 0), .int p1, .int p2]) ++ List.replicate (4 - (lg_sl ([.ref (ad 0), .int p1, .int p2])).length) Slot.unset).toArray = ls at hl ⊢
  have hl : lv_has ls 4 [(0, .ref (ad 0)), (1, .int p1), (2, .int p2)] := hl
  have C : dc_C p s m _ meth c cX10_priceOf (some .int) 4 RX10 wsX10_priceOf D ty eo A := ⟨hx, hb, hr, hts, hown, hlocks, hml, hK, hN, hE, hA⟩
  unfold zX10_priceOf at h
  refine lv_bipush (v := 6) hx hb dX10_priceOf_0 (by decide) ?_
  refine lv_iload_n hx hb dX10_priceOf_2 rfl (lv_at hl 1 rfl) ?_
  refine lv_bipush (v := 64) hx hb dX10_priceOf_3 (by decide) ?_
  refine lv_idiv hx hb dX10_priceOf_5 (by decide) ?_
  refine lv_imul hx hb dX10_priceOf_6 ?_
  refine lv_istore_n (lv' := [(3, .int (6 * (p1 / 64 : Int32) : Int32)), (0, .ref (ad 0)), (1, .int p1), (2, .int p2)]) hx hb dX10_priceOf_7 rfl hl (by decide) rfl (fun ls hl => ?_)
  refine lv_aload_n hx hb dX10_priceOf_8 rfl (lv_at hl 1 rfl) ?_
  refine va_get (D := D) (ci := 10) (v := .ref (ad 20)) (C := RX10) (T := TX10) (N := 56) hx hb hts u9_wsX10_priceOf_X10 hown hK hP 0 rfl rfl 39 (by decide) (hts (.fieldLink RX10 87 "TurnedFloorsModel" "price" "[I") f9_wsX10_priceOf_198) (fun _ h9 => h9) rfl dX10_priceOf_9 ?_
  refine lv_iload_n hx hb dX10_priceOf_12 rfl (lv_at hl 3 rfl) ?_
  refine lv_aload_n hx hb dX10_priceOf_13 rfl (lv_at hl 1 rfl) ?_
  refine va_get (D := D) (ci := 10) (v := .ref (ad 16)) (C := RX10) (T := TX10) (N := 56) hx hb hts u9_wsX10_priceOf_X10 hown hK hP 0 rfl rfl 33 (by decide) (hts (.fieldLink RX10 75 "TurnedFloorsModel" "rankAt" "[I") f9_wsX10_priceOf_199) (fun _ h9 => h9) rfl dX10_priceOf_14 ?_
  refine lv_iload_n hx hb dX10_priceOf_17 rfl (lv_at hl 0 rfl) ?_
  obtain ⟨g1, h⟩ := dG_some h
  refine va_iald hx hb hK hP 16 0 rfl rfl (dg_in g1) dX10_priceOf_18 ?_
  obtain ⟨v2, ev2, h⟩ := dL_some h
  refine kz_topi v2 ev2 ?_
  refine lv_iload_n hx hb dX10_priceOf_19 rfl (lv_at hl 3 rfl) ?_
  refine lv_aload_n hx hb dX10_priceOf_20 rfl (lv_at hl 1 rfl) ?_
  obtain ⟨r3, q5, h4, h⟩ := dB_some h
  refine dw_ki (va_runV (As := []) (rest := [.int p2, .int v2, .int p2, .ref (ad 20)]) ⟨hx, hb, hml, hown, hts⟩ (qX10_size l D ty eo _ ad q  r3 q5 h4) (cwV 0 hts gX10_priceOf_X10_size rfl rfl rfl hd_X10_size_v ⟨Nat.le_of_ble_eq_true rfl, Nat.le_of_ble_eq_true rfl⟩) (pv10_10_0 hK hN hE hP hD hS hA) rfl rfl hl.1 rfl (lv_room (Nat.le_of_ble_eq_true rfl)) dX10_priceOf_21 ⟨Nat.le_of_ble_eq_true rfl, Nat.le_of_ble_eq_true rfl⟩) hD hS hA (fun r9 u9 H locs hw hp hd hs => ?_)
  clear hP hD hS
  obtain ⟨rfl, rfl⟩ := hw
  have hP := hp; have hD := hd; have hS := hs; clear hp hd hs
  refine lv_icmp_ge (tgt := 40) hx hb dX10_priceOf_24 (by decide) (fun c9 => ?_) (fun c9 => ?_)
  · rw [if_pos c9] at h
    refine lv_iconst (v := 0) hx hb dX10_priceOf_40 (by decide) ?_
    exact WX10_priceOf_41 C  _ _ _ _ _ _ _ _ h hP hD hS (lv_sub hl [2] rfl)
  · rw [if_neg c9] at h
    refine lv_iconst (v := 1) hx hb dX10_priceOf_27 (by decide) ?_
    refine lv_aload_n hx hb dX10_priceOf_28 rfl (lv_at hl 1 rfl) ?_
    refine va_get (D := D) (ci := 10) (v := .ref (ad 16)) (C := RX10) (T := TX10) (N := 56) hx hb hts u9_wsX10_priceOf_X10 hown hK hP 0 rfl rfl 33 (by decide) (hts (.fieldLink RX10 75 "TurnedFloorsModel" "rankAt" "[I") f9_wsX10_priceOf_199) (fun _ h9 => h9) rfl dX10_priceOf_29 ?_
    refine lv_iload_n hx hb dX10_priceOf_32 rfl (lv_at hl 0 rfl) ?_
    refine lv_iload_n hx hb dX10_priceOf_33 rfl (lv_at hl 3 rfl) ?_
    refine lv_iadd hx hb dX10_priceOf_34 ?_
    obtain ⟨g6, h⟩ := dG_some h
    refine va_iald hx hb hK hP 16 0 rfl rfl (dg_in g6) dX10_priceOf_35 ?_
    obtain ⟨v7, ev7, h⟩ := dL_some h
    refine kz_topi v7 ev7 ?_
    refine lv_iadd hx hb dX10_priceOf_36 ?_
    refine lv_goto (tgt := 41) hx hb dX10_priceOf_37 (by decide) ?_
    exact WX10_priceOf_41 C  _ _ _ _ _ _ _ _ h hP hD hS (lv_sub hl [2] rfl)

set_option maxHeartbeats 4000000 in
set_option maxRecDepth 100000 in
theorem WX10_isThere_27 {p : Program} {l : Launch} {e : Env} {s : State} {m : MethodId} {args : Array Value} {below : List Frame} {meth : Method} {c : Code} {D : va_G} {ty : Nat → ClassId} {eo : Nat → Nat} {A : Nat → Prop} {ad : Nat → Nat} {o1 : Int32} {o2 : dS} (C : dc_C p s m args meth c cX10_isThere (some .boolean) 2 RX10 wsX10_isThere D ty eo A)   (q : dS) (y0 : Int32) (H : Heap) (locs : List Loc) (ls : Array Slot) (h : zX10_isThere_27  q y0 = some (o1, o2)) (hP : va_P D vwCl (w10 ty ad q) H) (hD : va_D A (w10 ty ad q)) (hS : va_S A s.heap H locs) (hl : lv_has ls 2 []) : W p l e ({ frames := 0, cells := 0, slots := 0, locals := 0 } : Room) s m args below meth c H locs 0 0 (MQ below (va_Qi (fun (r : Int32) (u : va_W) => o1 = r ∧ w10 ty ad o2 = u) (kz_B D ty A) A) args s 0 0 A) (F0 m 27 ls [.int y0]) := by
  have C0 := C
  obtain ⟨hx, hb, hr, hts, hown, hlocks, hml, hK, hN, hE, hA⟩ := C
  unfold zX10_isThere_27 at h
  obtain ⟨g1, h⟩ := dG_some h
  cases h
  exact kz_zret hx hb hr hlocks (dbl_nar g1) hP hK hD hS dX10_isThere_27 ⟨rfl, rfl⟩
set_option maxHeartbeats 4000000 in
set_option maxRecDepth 100000 in
theorem WX10_isThere_26 {p : Program} {l : Launch} {e : Env} {s : State} {m : MethodId} {args : Array Value} {below : List Frame} {meth : Method} {c : Code} {D : va_G} {ty : Nat → ClassId} {eo : Nat → Nat} {A : Nat → Prop} {ad : Nat → Nat} {o1 : Int32} {o2 : dS} (C : dc_C p s m args meth c cX10_isThere (some .boolean) 2 RX10 wsX10_isThere D ty eo A)   (q : dS)  (H : Heap) (locs : List Loc) (ls : Array Slot) (h : zX10_isThere_26  q = some (o1, o2)) (hP : va_P D vwCl (w10 ty ad q) H) (hD : va_D A (w10 ty ad q)) (hS : va_S A s.heap H locs) (hl : lv_has ls 2 []) : W p l e ({ frames := 0, cells := 0, slots := 0, locals := 0 } : Room) s m args below meth c H locs 0 0 (MQ below (va_Qi (fun (r : Int32) (u : va_W) => o1 = r ∧ w10 ty ad o2 = u) (kz_B D ty A) A) args s 0 0 A) (F0 m 26 ls []) := by
  have C0 := C
  obtain ⟨hx, hb, hr, hts, hown, hlocks, hml, hK, hN, hE, hA⟩ := C
  unfold zX10_isThere_26 at h
  refine lv_iconst (v := 0) hx hb dX10_isThere_26 (by decide) ?_
  exact WX10_isThere_27 C0  _ _ _ _ _ h hP hD hS (lv_sub hl [] rfl)
set_option maxHeartbeats 4000000 in
set_option maxRecDepth 100000 in
theorem qX10_isThere (l : Launch) (D : va_G) (ty : Nat → ClassId) (eo : Nat → Nat) (sz : Nat) (ad : Nat → Nat) (q : dS) (p1 : Int32) (o1 : Int32) (o2 : dS) (h : zX10_isThere q p1 = some (o1, o2)) : Met l yX10_isThere wsX10_isThere ({ frames := 0, cells := 0, slots := 0, locals := 0 } : Room) (va_Pc [.ref (ad 0), .int p1] (kz_pre D ty eo (w10 ty ad q) sz)) (va_Qi (fun (r : Int32) (u : va_W) => o1 = r ∧ w10 ty ad o2 = u) (kz_B D ty (va_A (w10 ty ad q) sz)) (va_A (w10 ty ad q) sz)) 0 0 (va_A (w10 ty ad q) sz) := by
  refine Met.ofW (cc := cX10_isThere) (maxL := 2) (ret := (some .boolean)) (by decide) rfl ?_
  intro p e s m args below meth c s₁ B hml hv
  obtain ⟨rfl, hsz, hP, hK, hD0, hN, hE⟩ := hv
  have hx := B.exec
  have hb := B.bytes
  have hr := B.returns
  have hts := atoms_spec (ws := wsX10_isThere) B.pre
  have hown : s.vm.findClass RX10 = some m.cls := findClass_of_methodNamed B.named
  have hlocks := B.notSynchronized
  subst hsz
  have hD := hD0.self (sz := s.heap.size)
  generalize hAe : va_A (w10 ty ad q) s.heap.size = A at hD hE ⊢
  have hA : ∀ q : Nat, s.heap.size ≤ q → A q := fun q h => by rw [← hAe]; exact Or.inr h
  clear hAe
  have hS : va_S A s.heap s.heap [] := va_S.rf
  have hl := lv_entry ([.ref (ad 0), .int p1]) (n := 2) (Nat.le_of_ble_eq_true rfl)
  rw [lg_entry_eq]
  generalize (lg_sl ([.ref (ad 0), .int p1]) ++ List.replicate (2 - (lg_sl ([.ref (ad 0), .int p1])).length) Slot.unset).toArray = ls at hl ⊢
  have hl : lv_has ls 2 [(0, .ref (ad 0)), (1, .int p1)] := hl
  have C : dc_C p s m _ meth c cX10_isThere (some .boolean) 2 RX10 wsX10_isThere D ty eo A := ⟨hx, hb, hr, hts, hown, hlocks, hml, hK, hN, hE, hA⟩
  unfold zX10_isThere at h
  refine lv_iload_n hx hb dX10_isThere_0 rfl (lv_at hl 1 rfl) ?_
  refine lv_bipush (v := 64) hx hb dX10_isThere_1 (by decide) ?_
  refine lv_irem hx hb dX10_isThere_3 (by decide) ?_
  refine lv_aload_n hx hb dX10_isThere_4 rfl (lv_at hl 0 rfl) ?_
  refine va_get (D := D) (ci := 10) (v := .int (q.1 0 38)) (C := RX10) (T := TX10) (N := 56) hx hb hts u9_wsX10_isThere_X10 hown hK hP 0 rfl rfl 38 (by decide) (hts (.fieldLink RX10 389 "TurnedFloorsModel" "headMany" "I") f9_wsX10_isThere_201) (fun _ h9 => h9) rfl dX10_isThere_5 ?_
  refine lv_icmp_ge (tgt := 26) hx hb dX10_isThere_8 (by decide) (fun c9 => ?_) (fun c9 => ?_)
  · rw [if_pos c9] at h
    exact WX10_isThere_26 C  _ _ _ _ h hP hD hS (lv_sub hl [] rfl)
  · rw [if_neg c9] at h
    refine lv_iload_n hx hb dX10_isThere_11 rfl (lv_at hl 1 rfl) ?_
    refine lv_bipush (v := 64) hx hb dX10_isThere_12 (by decide) ?_
    refine lv_idiv hx hb dX10_isThere_14 (by decide) ?_
    refine lv_aload_n hx hb dX10_isThere_15 rfl (lv_at hl 0 rfl) ?_
    refine va_get (D := D) (ci := 10) (v := .int (q.1 0 37)) (C := RX10) (T := TX10) (N := 56) hx hb hts u9_wsX10_isThere_X10 hown hK hP 0 rfl rfl 37 (by decide) (hts (.fieldLink RX10 386 "TurnedFloorsModel" "orderMany" "I") f9_wsX10_isThere_202) (fun _ h9 => h9) rfl dX10_isThere_16 ?_
    refine lv_icmp_ge (tgt := 26) hx hb dX10_isThere_19 (by decide) (fun c9 => ?_) (fun c9 => ?_)
    · rw [if_pos c9] at h
      exact WX10_isThere_26 C  _ _ _ _ h hP hD hS (lv_sub hl [] rfl)
    · rw [if_neg c9] at h
      refine lv_iconst (v := 1) hx hb dX10_isThere_22 (by decide) ?_
      refine lv_goto (tgt := 27) hx hb dX10_isThere_23 (by decide) ?_
      exact WX10_isThere_27 C  _ _ _ _ _ h hP hD hS (lv_sub hl [] rfl)

set_option maxHeartbeats 4000000 in
set_option maxRecDepth 100000 in
theorem WX10_isOrdered_29 {p : Program} {l : Launch} {e : Env} {s : State} {m : MethodId} {args : Array Value} {below : List Frame} {meth : Method} {c : Code} {D : va_G} {ty : Nat → ClassId} {eo : Nat → Nat} {A : Nat → Prop} {ad : Nat → Nat} {o1 : Int32} {o2 : dS} (C : dc_C p s m args meth c cX10_isOrdered (some .boolean) 2 RX10 wsX10_isOrdered D ty eo A)   (q : dS) (y0 : Int32) (H : Heap) (locs : List Loc) (ls : Array Slot) (h : zX10_isOrdered_29  q y0 = some (o1, o2)) (hP : va_P D vwCl (w10 ty ad q) H) (hD : va_D A (w10 ty ad q)) (hS : va_S A s.heap H locs) (hl : lv_has ls 2 []) : W p l e ({ frames := 0, cells := 0, slots := 0, locals := 0 } : Room) s m args below meth c H locs 0 0 (MQ below (va_Qi (fun (r : Int32) (u : va_W) => o1 = r ∧ w10 ty ad o2 = u) (kz_B D ty A) A) args s 0 0 A) (F0 m 29 ls [.int y0]) := by
  have C0 := C
  obtain ⟨hx, hb, hr, hts, hown, hlocks, hml, hK, hN, hE, hA⟩ := C
  unfold zX10_isOrdered_29 at h
  obtain ⟨g1, h⟩ := dG_some h
  cases h
  exact kz_zret hx hb hr hlocks (dbl_nar g1) hP hK hD hS dX10_isOrdered_29 ⟨rfl, rfl⟩
set_option maxHeartbeats 4000000 in
set_option maxRecDepth 100000 in
theorem WX10_isOrdered_28 {p : Program} {l : Launch} {e : Env} {s : State} {m : MethodId} {args : Array Value} {below : List Frame} {meth : Method} {c : Code} {D : va_G} {ty : Nat → ClassId} {eo : Nat → Nat} {A : Nat → Prop} {ad : Nat → Nat} {o1 : Int32} {o2 : dS} (C : dc_C p s m args meth c cX10_isOrdered (some .boolean) 2 RX10 wsX10_isOrdered D ty eo A)   (q : dS)  (H : Heap) (locs : List Loc) (ls : Array Slot) (h : zX10_isOrdered_28  q = some (o1, o2)) (hP : va_P D vwCl (w10 ty ad q) H) (hD : va_D A (w10 ty ad q)) (hS : va_S A s.heap H locs) (hl : lv_has ls 2 []) : W p l e ({ frames := 0, cells := 0, slots := 0, locals := 0 } : Room) s m args below meth c H locs 0 0 (MQ below (va_Qi (fun (r : Int32) (u : va_W) => o1 = r ∧ w10 ty ad o2 = u) (kz_B D ty A) A) args s 0 0 A) (F0 m 28 ls []) := by
  have C0 := C
  obtain ⟨hx, hb, hr, hts, hown, hlocks, hml, hK, hN, hE, hA⟩ := C
  unfold zX10_isOrdered_28 at h
  refine lv_iconst (v := 0) hx hb dX10_isOrdered_28 (by decide) ?_
  exact WX10_isOrdered_29 C0  _ _ _ _ _ h hP hD hS (lv_sub hl [] rfl)
set_option maxHeartbeats 4000000 in
set_option maxRecDepth 100000 in
theorem WX10_isOrdered_24 {p : Program} {l : Launch} {e : Env} {s : State} {m : MethodId} {args : Array Value} {below : List Frame} {meth : Method} {c : Code} {D : va_G} {ty : Nat → ClassId} {eo : Nat → Nat} {A : Nat → Prop} {ad : Nat → Nat} {o1 : Int32} {o2 : dS} (C : dc_C p s m args meth c cX10_isOrdered (some .boolean) 2 RX10 wsX10_isOrdered D ty eo A)   (q : dS)  (H : Heap) (locs : List Loc) (ls : Array Slot) (h : zX10_isOrdered_24  q = some (o1, o2)) (hP : va_P D vwCl (w10 ty ad q) H) (hD : va_D A (w10 ty ad q)) (hS : va_S A s.heap H locs) (hl : lv_has ls 2 []) : W p l e ({ frames := 0, cells := 0, slots := 0, locals := 0 } : Room) s m args below meth c H locs 0 0 (MQ below (va_Qi (fun (r : Int32) (u : va_W) => o1 = r ∧ w10 ty ad o2 = u) (kz_B D ty A) A) args s 0 0 A) (F0 m 24 ls []) := by
  have C0 := C
  obtain ⟨hx, hb, hr, hts, hown, hlocks, hml, hK, hN, hE, hA⟩ := C
  unfold zX10_isOrdered_24 at h
  refine lv_iconst (v := 1) hx hb dX10_isOrdered_24 (by decide) ?_
  refine lv_goto (tgt := 29) hx hb dX10_isOrdered_25 (by decide) ?_
  exact WX10_isOrdered_29 C0  _ _ _ _ _ h hP hD hS (lv_sub hl [] rfl)
set_option maxHeartbeats 4000000 in
set_option maxRecDepth 100000 in
theorem qX10_isOrdered (l : Launch) (D : va_G) (ty : Nat → ClassId) (eo : Nat → Nat) (sz : Nat) (ad : Nat → Nat) (q : dS) (p1 : Int32) (o1 : Int32) (o2 : dS) (h : zX10_isOrdered q p1 = some (o1, o2)) : Met l yX10_isOrdered wsX10_isOrdered ({ frames := 0, cells := 0, slots := 0, locals := 0 } : Room) (va_Pc [.ref (ad 0), .int p1] (kz_pre D ty eo (w10 ty ad q) sz)) (va_Qi (fun (r : Int32) (u : va_W) => o1 = r ∧ w10 ty ad o2 = u) (kz_B D ty (va_A (w10 ty ad q) sz)) (va_A (w10 ty ad q) sz)) 0 0 (va_A (w10 ty ad q) sz) := by
  refine Met.ofW (cc := cX10_isOrdered) (maxL := 2) (ret := (some .boolean)) (by decide) rfl ?_
  intro p e s m args below meth c s₁ B hml hv
  obtain ⟨rfl, hsz, hP, hK, hD0, hN, hE⟩ := hv
  have hx := B.exec
  have hb := B.bytes
  have hr := B.returns
  have hts := atoms_spec (ws := wsX10_isOrdered) B.pre
  have hown : s.vm.findClass RX10 = some m.cls := findClass_of_methodNamed B.named
  have hlocks := B.notSynchronized
  subst hsz
  have hD := hD0.self (sz := s.heap.size)
  generalize hAe : va_A (w10 ty ad q) s.heap.size = A at hD hE ⊢
  have hA : ∀ q : Nat, s.heap.size ≤ q → A q := fun q h => by rw [← hAe]; exact Or.inr h
  clear hAe
  have hS : va_S A s.heap s.heap [] := va_S.rf
  have hl := lv_entry ([.ref (ad 0), .int p1]) (n := 2) (Nat.le_of_ble_eq_true rfl)
  rw [lg_entry_eq]
  generalize (lg_sl ([.ref (ad 0), .int p1]) ++ List.replicate (2 - (lg_sl ([.ref (ad 0), .int p1])).length) Slot.unset).toArray = ls at hl ⊢
  have hl : lv_has ls 2 [(0, .ref (ad 0)), (1, .int p1)] := hl
  have C : dc_C p s m _ meth c cX10_isOrdered (some .boolean) 2 RX10 wsX10_isOrdered D ty eo A := ⟨hx, hb, hr, hts, hown, hlocks, hml, hK, hN, hE, hA⟩
  unfold zX10_isOrdered at h
  refine lv_iload_n hx hb dX10_isOrdered_0 rfl (lv_at hl 1 rfl) ?_
  refine lv_bipush (v := 64) hx hb dX10_isOrdered_1 (by decide) ?_
  refine lv_idiv hx hb dX10_isOrdered_3 (by decide) ?_
  refine lv_if_ne (tgt := 28) hx hb dX10_isOrdered_4 (by decide) (fun c9 => ?_) (fun c9 => ?_)
  · rw [if_neg c9] at h
    exact WX10_isOrdered_28 C  _ _ _ _ h hP hD hS (lv_sub hl [] rfl)
  · rw [if_pos c9] at h
    refine lv_aload_n hx hb dX10_isOrdered_7 rfl (lv_at hl 0 rfl) ?_
    refine va_get (D := D) (ci := 10) (v := .ref (ad 2)) (C := RX10) (T := TX10) (N := 56) hx hb hts u9_wsX10_isOrdered_X10 hown hK hP 0 rfl rfl 2 (by decide) (hts (.fieldLink RX10 28 "TurnedFloorsModel" "kept" "[I") f9_wsX10_isOrdered_204) (fun _ h9 => h9) rfl dX10_isOrdered_8 ?_
    refine lv_bipush (v := 28) hx hb dX10_isOrdered_11 (by decide) ?_
    refine va_iald hx hb hK hP 2 0 rfl rfl (by simp only [vp_in]; decide) dX10_isOrdered_13 ?_
    refine kz_topi (q.1 2 28) (congrArg (q.1 2) (by decide +kernel : Int32.toNatClampNeg 28 = 28)) ?_
    refine lv_if_eq (tgt := 24) hx hb dX10_isOrdered_14 (by decide) (fun c9 => ?_) (fun c9 => ?_)
    · rw [if_pos c9] at h
      exact WX10_isOrdered_24 C  _ _ _ _ h hP hD hS (lv_sub hl [] rfl)
    · rw [if_neg c9] at h
      refine lv_iload_n hx hb dX10_isOrdered_17 rfl (lv_at hl 1 rfl) ?_
      refine lv_bipush (v := 64) hx hb dX10_isOrdered_18 (by decide) ?_
      refine lv_irem hx hb dX10_isOrdered_20 (by decide) ?_
      refine lv_if_ne (tgt := 28) hx hb dX10_isOrdered_21 (by decide) (fun c9 => ?_) (fun c9 => ?_)
      · rw [if_neg c9] at h
        exact WX10_isOrdered_28 C  _ _ _ _ h hP hD hS (lv_sub hl [] rfl)
      · rw [if_pos c9] at h
        exact WX10_isOrdered_24 C  _ _ _ _ h hP hD hS (lv_sub hl [] rfl)
end
section
set_option maxRecDepth 20000 in
theorem ggX10_laysDist_X10_laysPrices : GoodIn wsX10_laysDist wsX10_laysPrices := wd_c vW10_ok mvW10_342
set_option maxRecDepth 20000 in
theorem gX10_laysDist_X10_laysPrices : GoodIn wsX10_laysDist (wsV RX10 414 RX10 yX10_laysPrices wsX10_laysPrices) := goodIn_app (wd_l vW10_ok _ pvW10_216) ggX10_laysDist_X10_laysPrices
set_option maxRecDepth 20000 in
theorem ggX10_laysDist_X10_isThere : GoodIn wsX10_laysDist wsX10_isThere := wd_c vW10_ok mvW10_381
set_option maxRecDepth 20000 in
theorem gX10_laysDist_X10_isThere : GoodIn wsX10_laysDist (wsV RX10 417 RX10 yX10_isThere wsX10_isThere) := goodIn_app (wd_l vW10_ok _ pvW10_217) ggX10_laysDist_X10_isThere
set_option maxRecDepth 20000 in
theorem ggX10_laysDist_X10_isOrdered : GoodIn wsX10_laysDist wsX10_isOrdered := wd_c vW10_ok mvW10_385
set_option maxRecDepth 20000 in
theorem gX10_laysDist_X10_isOrdered : GoodIn wsX10_laysDist (wsV RX10 420 RX10 yX10_isOrdered wsX10_isOrdered) := goodIn_app (wd_l vW10_ok _ pvW10_218) ggX10_laysDist_X10_isOrdered
set_option maxRecDepth 20000 in
theorem ggX10_laysDist_X10_size : GoodIn wsX10_laysDist wsX10_size := wd_c vW10_ok mvW10_24
set_option maxRecDepth 20000 in
theorem gX10_laysDist_X10_size : GoodIn wsX10_laysDist (wsV RX10 125 RX10 yX10_size wsX10_size) := goodIn_app (wd_l vW10_ok _ pvW10_144) ggX10_laysDist_X10_size
set_option maxRecDepth 20000 in
theorem ggX10_laysDist_X10_behind : GoodIn wsX10_laysDist wsX10_behind := wd_c vW10_ok mvW10_389
set_option maxRecDepth 20000 in
theorem gX10_laysDist_X10_behind : GoodIn wsX10_laysDist (wsV RX10 423 RX10 yX10_behind wsX10_behind) := goodIn_app (wd_l vW10_ok _ pvW10_219) ggX10_laysDist_X10_behind
set_option maxRecDepth 20000 in
theorem ggX10_laysDist_X10_priceOf : GoodIn wsX10_laysDist wsX10_priceOf := wd_c vW10_ok mvW10_393
set_option maxRecDepth 20000 in
theorem gX10_laysDist_X10_priceOf : GoodIn wsX10_laysDist (wsV RX10 426 RX10 yX10_priceOf wsX10_priceOf) := goodIn_app (wd_l vW10_ok _ pvW10_220) ggX10_laysDist_X10_priceOf
set_option maxRecDepth 20000 in
theorem ggX10_laysDist_X10_lesser : GoodIn wsX10_laysDist wsX10_lesser := wd_c vW10_ok mvW10_317
set_option maxRecDepth 20000 in
theorem gX10_laysDist_X10_lesser : GoodIn wsX10_laysDist (va_wsS RX10 350 yX10_lesser wsX10_lesser) := goodIn_app (wd_l vW10_ok _ pvW10_197) ggX10_laysDist_X10_lesser
theorem da9_dX10_laysDist_0 : (decode cX10_laysDist 0 = .ok (.aload_n 0, 1)) ∧ (decode cX10_laysDist 1 = .ok (.invokevirtual 414, 3)) ∧ (decode cX10_laysDist 4 = .ok (.iconst 0, 1)) ∧ (decode cX10_laysDist 5 = .ok (.istore_n 1, 1)) ∧ (decode cX10_laysDist 6 = .ok (.iconst 0, 1)) ∧ (decode cX10_laysDist 7 = .ok (.istore_n 2, 1)) ∧ (decode cX10_laysDist 8 = .ok (.iload_n 2, 1)) ∧ (decode cX10_laysDist 9 = .ok (.bipush 64, 2)) ∧ (decode cX10_laysDist 11 = .ok (.aload_n 0, 1)) ∧ (decode cX10_laysDist 12 = .ok (.getfield 386, 3)) ∧ (decode cX10_laysDist 15 = .ok (.imul, 1)) ∧ (decode cX10_laysDist 16 = .ok (.if_icmp .ge 79, 3)) ∧ (decode cX10_laysDist 19 = .ok (.aload_n 0, 1)) ∧ (decode cX10_laysDist 20 = .ok (.iload_n 2, 1)) ∧ (decode cX10_laysDist 21 = .ok (.invokevirtual 417, 3)) ∧ (decode cX10_laysDist 24 = .ok (.ifCond .eq 15, 3)) := by decide +kernel
theorem dX10_laysDist_0 : decode cX10_laysDist 0 = .ok (.aload_n 0, 1) := da9_dX10_laysDist_0.1
theorem dX10_laysDist_1 : decode cX10_laysDist 1 = .ok (.invokevirtual 414, 3) := da9_dX10_laysDist_0.2.1
theorem dX10_laysDist_4 : decode cX10_laysDist 4 = .ok (.iconst 0, 1) := da9_dX10_laysDist_0.2.2.1
theorem dX10_laysDist_5 : decode cX10_laysDist 5 = .ok (.istore_n 1, 1) := da9_dX10_laysDist_0.2.2.2.1
theorem dX10_laysDist_6 : decode cX10_laysDist 6 = .ok (.iconst 0, 1) := da9_dX10_laysDist_0.2.2.2.2.1
theorem dX10_laysDist_7 : decode cX10_laysDist 7 = .ok (.istore_n 2, 1) := da9_dX10_laysDist_0.2.2.2.2.2.1
theorem dX10_laysDist_8 : decode cX10_laysDist 8 = .ok (.iload_n 2, 1) := da9_dX10_laysDist_0.2.2.2.2.2.2.1
theorem dX10_laysDist_9 : decode cX10_laysDist 9 = .ok (.bipush 64, 2) := da9_dX10_laysDist_0.2.2.2.2.2.2.2.1
theorem dX10_laysDist_11 : decode cX10_laysDist 11 = .ok (.aload_n 0, 1) := da9_dX10_laysDist_0.2.2.2.2.2.2.2.2.1
theorem dX10_laysDist_12 : decode cX10_laysDist 12 = .ok (.getfield 386, 3) := da9_dX10_laysDist_0.2.2.2.2.2.2.2.2.2.1
theorem dX10_laysDist_15 : decode cX10_laysDist 15 = .ok (.imul, 1) := da9_dX10_laysDist_0.2.2.2.2.2.2.2.2.2.2.1
theorem dX10_laysDist_16 : decode cX10_laysDist 16 = .ok (.if_icmp .ge 79, 3) := da9_dX10_laysDist_0.2.2.2.2.2.2.2.2.2.2.2.1
theorem dX10_laysDist_19 : decode cX10_laysDist 19 = .ok (.aload_n 0, 1) := da9_dX10_laysDist_0.2.2.2.2.2.2.2.2.2.2.2.2.1
theorem dX10_laysDist_20 : decode cX10_laysDist 20 = .ok (.iload_n 2, 1) := da9_dX10_laysDist_0.2.2.2.2.2.2.2.2.2.2.2.2.2.1
theorem dX10_laysDist_21 : decode cX10_laysDist 21 = .ok (.invokevirtual 417, 3) := da9_dX10_laysDist_0.2.2.2.2.2.2.2.2.2.2.2.2.2.2.1
theorem dX10_laysDist_24 : decode cX10_laysDist 24 = .ok (.ifCond .eq 15, 3) := da9_dX10_laysDist_0.2.2.2.2.2.2.2.2.2.2.2.2.2.2.2
theorem da9_dX10_laysDist_27 : (decode cX10_laysDist 27 = .ok (.aload_n 0, 1)) ∧ (decode cX10_laysDist 28 = .ok (.iload_n 2, 1)) ∧ (decode cX10_laysDist 29 = .ok (.invokevirtual 420, 3)) ∧ (decode cX10_laysDist 32 = .ok (.ifCond .eq 7, 3)) ∧ (decode cX10_laysDist 35 = .ok (.iconst 1, 1)) ∧ (decode cX10_laysDist 36 = .ok (.goto 4, 3)) ∧ (decode cX10_laysDist 39 = .ok (.iconst 0, 1)) ∧ (decode cX10_laysDist 40 = .ok (.istore_n 3, 1)) ∧ (decode cX10_laysDist 41 = .ok (.aload_n 0, 1)) ∧ (decode cX10_laysDist 42 = .ok (.getfield 91, 3)) ∧ (decode cX10_laysDist 45 = .ok (.iload_n 2, 1)) ∧ (decode cX10_laysDist 46 = .ok (.iload_n 3, 1)) ∧ (decode cX10_laysDist 47 = .ok (.ifCond .eq 7, 3)) ∧ (decode cX10_laysDist 50 = .ok (.iconst 0, 1)) ∧ (decode cX10_laysDist 51 = .ok (.goto 5, 3)) ∧ (decode cX10_laysDist 54 = .ok (.ldc 188, 2)) := by decide +kernel
theorem dX10_laysDist_27 : decode cX10_laysDist 27 = .ok (.aload_n 0, 1) := da9_dX10_laysDist_27.1
theorem dX10_laysDist_28 : decode cX10_laysDist 28 = .ok (.iload_n 2, 1) := da9_dX10_laysDist_27.2.1
theorem dX10_laysDist_29 : decode cX10_laysDist 29 = .ok (.invokevirtual 420, 3) := da9_dX10_laysDist_27.2.2.1
theorem dX10_laysDist_32 : decode cX10_laysDist 32 = .ok (.ifCond .eq 7, 3) := da9_dX10_laysDist_27.2.2.2.1
theorem dX10_laysDist_35 : decode cX10_laysDist 35 = .ok (.iconst 1, 1) := da9_dX10_laysDist_27.2.2.2.2.1
theorem dX10_laysDist_36 : decode cX10_laysDist 36 = .ok (.goto 4, 3) := da9_dX10_laysDist_27.2.2.2.2.2.1
theorem dX10_laysDist_39 : decode cX10_laysDist 39 = .ok (.iconst 0, 1) := da9_dX10_laysDist_27.2.2.2.2.2.2.1
theorem dX10_laysDist_40 : decode cX10_laysDist 40 = .ok (.istore_n 3, 1) := da9_dX10_laysDist_27.2.2.2.2.2.2.2.1
theorem dX10_laysDist_41 : decode cX10_laysDist 41 = .ok (.aload_n 0, 1) := da9_dX10_laysDist_27.2.2.2.2.2.2.2.2.1
theorem dX10_laysDist_42 : decode cX10_laysDist 42 = .ok (.getfield 91, 3) := da9_dX10_laysDist_27.2.2.2.2.2.2.2.2.2.1
theorem dX10_laysDist_45 : decode cX10_laysDist 45 = .ok (.iload_n 2, 1) := da9_dX10_laysDist_27.2.2.2.2.2.2.2.2.2.2.1
theorem dX10_laysDist_46 : decode cX10_laysDist 46 = .ok (.iload_n 3, 1) := da9_dX10_laysDist_27.2.2.2.2.2.2.2.2.2.2.2.1
theorem dX10_laysDist_47 : decode cX10_laysDist 47 = .ok (.ifCond .eq 7, 3) := da9_dX10_laysDist_27.2.2.2.2.2.2.2.2.2.2.2.2.1
theorem dX10_laysDist_50 : decode cX10_laysDist 50 = .ok (.iconst 0, 1) := da9_dX10_laysDist_27.2.2.2.2.2.2.2.2.2.2.2.2.2.1
theorem dX10_laysDist_51 : decode cX10_laysDist 51 = .ok (.goto 5, 3) := da9_dX10_laysDist_27.2.2.2.2.2.2.2.2.2.2.2.2.2.2.1
theorem dX10_laysDist_54 : decode cX10_laysDist 54 = .ok (.ldc 188, 2) := da9_dX10_laysDist_27.2.2.2.2.2.2.2.2.2.2.2.2.2.2.2
theorem da9_dX10_laysDist_56 : (decode cX10_laysDist 56 = .ok (.iastore, 1)) ∧ (decode cX10_laysDist 57 = .ok (.aload_n 0, 1)) ∧ (decode cX10_laysDist 58 = .ok (.getfield 94, 3)) ∧ (decode cX10_laysDist 61 = .ok (.iload_n 2, 1)) ∧ (decode cX10_laysDist 62 = .ok (.iload_n 3, 1)) ∧ (decode cX10_laysDist 63 = .ok (.ifCond .eq 7, 3)) ∧ (decode cX10_laysDist 66 = .ok (.iconst 1, 1)) ∧ (decode cX10_laysDist 67 = .ok (.goto 4, 3)) ∧ (decode cX10_laysDist 70 = .ok (.iconst 0, 1)) ∧ (decode cX10_laysDist 71 = .ok (.iastore, 1)) ∧ (decode cX10_laysDist 72 = .ok (.iload_n 3, 1)) ∧ (decode cX10_laysDist 73 = .ok (.ifCond .ne 6, 3)) ∧ (decode cX10_laysDist 76 = .ok (.goto 13, 3)) ∧ (decode cX10_laysDist 79 = .ok (.aload_n 0, 1)) ∧ (decode cX10_laysDist 80 = .ok (.getfield 97, 3)) ∧ (decode cX10_laysDist 83 = .ok (.iload_n 1, 1)) := by decide +kernel
theorem dX10_laysDist_56 : decode cX10_laysDist 56 = .ok (.iastore, 1) := da9_dX10_laysDist_56.1
theorem dX10_laysDist_57 : decode cX10_laysDist 57 = .ok (.aload_n 0, 1) := da9_dX10_laysDist_56.2.1
theorem dX10_laysDist_58 : decode cX10_laysDist 58 = .ok (.getfield 94, 3) := da9_dX10_laysDist_56.2.2.1
theorem dX10_laysDist_61 : decode cX10_laysDist 61 = .ok (.iload_n 2, 1) := da9_dX10_laysDist_56.2.2.2.1
theorem dX10_laysDist_62 : decode cX10_laysDist 62 = .ok (.iload_n 3, 1) := da9_dX10_laysDist_56.2.2.2.2.1
theorem dX10_laysDist_63 : decode cX10_laysDist 63 = .ok (.ifCond .eq 7, 3) := da9_dX10_laysDist_56.2.2.2.2.2.1
theorem dX10_laysDist_66 : decode cX10_laysDist 66 = .ok (.iconst 1, 1) := da9_dX10_laysDist_56.2.2.2.2.2.2.1
theorem dX10_laysDist_67 : decode cX10_laysDist 67 = .ok (.goto 4, 3) := da9_dX10_laysDist_56.2.2.2.2.2.2.2.1
theorem dX10_laysDist_70 : decode cX10_laysDist 70 = .ok (.iconst 0, 1) := da9_dX10_laysDist_56.2.2.2.2.2.2.2.2.1
theorem dX10_laysDist_71 : decode cX10_laysDist 71 = .ok (.iastore, 1) := da9_dX10_laysDist_56.2.2.2.2.2.2.2.2.2.1
theorem dX10_laysDist_72 : decode cX10_laysDist 72 = .ok (.iload_n 3, 1) := da9_dX10_laysDist_56.2.2.2.2.2.2.2.2.2.2.1
theorem dX10_laysDist_73 : decode cX10_laysDist 73 = .ok (.ifCond .ne 6, 3) := da9_dX10_laysDist_56.2.2.2.2.2.2.2.2.2.2.2.1
theorem dX10_laysDist_76 : decode cX10_laysDist 76 = .ok (.goto 13, 3) := da9_dX10_laysDist_56.2.2.2.2.2.2.2.2.2.2.2.2.1
theorem dX10_laysDist_79 : decode cX10_laysDist 79 = .ok (.aload_n 0, 1) := da9_dX10_laysDist_56.2.2.2.2.2.2.2.2.2.2.2.2.2.1
theorem dX10_laysDist_80 : decode cX10_laysDist 80 = .ok (.getfield 97, 3) := da9_dX10_laysDist_56.2.2.2.2.2.2.2.2.2.2.2.2.2.2.1
theorem dX10_laysDist_83 : decode cX10_laysDist 83 = .ok (.iload_n 1, 1) := da9_dX10_laysDist_56.2.2.2.2.2.2.2.2.2.2.2.2.2.2.2
theorem da9_dX10_laysDist_84 : (decode cX10_laysDist 84 = .ok (.iload_n 2, 1)) ∧ (decode cX10_laysDist 85 = .ok (.iastore, 1)) ∧ (decode cX10_laysDist 86 = .ok (.iinc 1 1, 3)) ∧ (decode cX10_laysDist 89 = .ok (.iinc 2 1, 3)) ∧ (decode cX10_laysDist 92 = .ok (.goto (-84), 3)) ∧ (decode cX10_laysDist 95 = .ok (.iconst 0, 1)) ∧ (decode cX10_laysDist 96 = .ok (.istore_n 2, 1)) ∧ (decode cX10_laysDist 97 = .ok (.iload_n 2, 1)) ∧ (decode cX10_laysDist 98 = .ok (.iload_n 1, 1)) ∧ (decode cX10_laysDist 99 = .ok (.if_icmp .ge 145, 3)) ∧ (decode cX10_laysDist 102 = .ok (.aload_n 0, 1)) ∧ (decode cX10_laysDist 103 = .ok (.getfield 97, 3)) ∧ (decode cX10_laysDist 106 = .ok (.iload_n 2, 1)) ∧ (decode cX10_laysDist 107 = .ok (.iaload, 1)) ∧ (decode cX10_laysDist 108 = .ok (.istore_n 3, 1)) ∧ (decode cX10_laysDist 109 = .ok (.iconst 1, 1)) := by decide +kernel
theorem dX10_laysDist_84 : decode cX10_laysDist 84 = .ok (.iload_n 2, 1) := da9_dX10_laysDist_84.1
theorem dX10_laysDist_85 : decode cX10_laysDist 85 = .ok (.iastore, 1) := da9_dX10_laysDist_84.2.1
theorem dX10_laysDist_86 : decode cX10_laysDist 86 = .ok (.iinc 1 1, 3) := da9_dX10_laysDist_84.2.2.1
theorem dX10_laysDist_89 : decode cX10_laysDist 89 = .ok (.iinc 2 1, 3) := da9_dX10_laysDist_84.2.2.2.1
theorem dX10_laysDist_92 : decode cX10_laysDist 92 = .ok (.goto (-84), 3) := da9_dX10_laysDist_84.2.2.2.2.1
theorem dX10_laysDist_95 : decode cX10_laysDist 95 = .ok (.iconst 0, 1) := da9_dX10_laysDist_84.2.2.2.2.2.1
theorem dX10_laysDist_96 : decode cX10_laysDist 96 = .ok (.istore_n 2, 1) := da9_dX10_laysDist_84.2.2.2.2.2.2.1
theorem dX10_laysDist_97 : decode cX10_laysDist 97 = .ok (.iload_n 2, 1) := da9_dX10_laysDist_84.2.2.2.2.2.2.2.1
theorem dX10_laysDist_98 : decode cX10_laysDist 98 = .ok (.iload_n 1, 1) := da9_dX10_laysDist_84.2.2.2.2.2.2.2.2.1
theorem dX10_laysDist_99 : decode cX10_laysDist 99 = .ok (.if_icmp .ge 145, 3) := da9_dX10_laysDist_84.2.2.2.2.2.2.2.2.2.1
theorem dX10_laysDist_102 : decode cX10_laysDist 102 = .ok (.aload_n 0, 1) := da9_dX10_laysDist_84.2.2.2.2.2.2.2.2.2.2.1
theorem dX10_laysDist_103 : decode cX10_laysDist 103 = .ok (.getfield 97, 3) := da9_dX10_laysDist_84.2.2.2.2.2.2.2.2.2.2.2.1
theorem dX10_laysDist_106 : decode cX10_laysDist 106 = .ok (.iload_n 2, 1) := da9_dX10_laysDist_84.2.2.2.2.2.2.2.2.2.2.2.2.1
theorem dX10_laysDist_107 : decode cX10_laysDist 107 = .ok (.iaload, 1) := da9_dX10_laysDist_84.2.2.2.2.2.2.2.2.2.2.2.2.2.1
theorem dX10_laysDist_108 : decode cX10_laysDist 108 = .ok (.istore_n 3, 1) := da9_dX10_laysDist_84.2.2.2.2.2.2.2.2.2.2.2.2.2.2.1
theorem dX10_laysDist_109 : decode cX10_laysDist 109 = .ok (.iconst 1, 1) := da9_dX10_laysDist_84.2.2.2.2.2.2.2.2.2.2.2.2.2.2.2
theorem da9_dX10_laysDist_110 : (decode cX10_laysDist 110 = .ok (.istore 4, 2)) ∧ (decode cX10_laysDist 112 = .ok (.iload 4, 2)) ∧ (decode cX10_laysDist 114 = .ok (.aload_n 0, 1)) ∧ (decode cX10_laysDist 115 = .ok (.invokevirtual 125, 3)) ∧ (decode cX10_laysDist 118 = .ok (.if_icmp .gt 120, 3)) ∧ (decode cX10_laysDist 121 = .ok (.aload_n 0, 1)) ∧ (decode cX10_laysDist 122 = .ok (.iload_n 3, 1)) ∧ (decode cX10_laysDist 123 = .ok (.iload 4, 2)) ∧ (decode cX10_laysDist 125 = .ok (.invokevirtual 423, 3)) ∧ (decode cX10_laysDist 128 = .ok (.istore 5, 2)) ∧ (decode cX10_laysDist 130 = .ok (.aload_n 0, 1)) ∧ (decode cX10_laysDist 131 = .ok (.iload 5, 2)) ∧ (decode cX10_laysDist 133 = .ok (.iload 4, 2)) ∧ (decode cX10_laysDist 135 = .ok (.invokevirtual 426, 3)) ∧ (decode cX10_laysDist 138 = .ok (.iconst (-1), 1)) ∧ (decode cX10_laysDist 139 = .ok (.if_icmp .ne 6, 3)) := by decide +kernel
theorem dX10_laysDist_110 : decode cX10_laysDist 110 = .ok (.istore 4, 2) := da9_dX10_laysDist_110.1
theorem dX10_laysDist_112 : decode cX10_laysDist 112 = .ok (.iload 4, 2) := da9_dX10_laysDist_110.2.1
theorem dX10_laysDist_114 : decode cX10_laysDist 114 = .ok (.aload_n 0, 1) := da9_dX10_laysDist_110.2.2.1
theorem dX10_laysDist_115 : decode cX10_laysDist 115 = .ok (.invokevirtual 125, 3) := da9_dX10_laysDist_110.2.2.2.1
theorem dX10_laysDist_118 : decode cX10_laysDist 118 = .ok (.if_icmp .gt 120, 3) := da9_dX10_laysDist_110.2.2.2.2.1
theorem dX10_laysDist_121 : decode cX10_laysDist 121 = .ok (.aload_n 0, 1) := da9_dX10_laysDist_110.2.2.2.2.2.1
theorem dX10_laysDist_122 : decode cX10_laysDist 122 = .ok (.iload_n 3, 1) := da9_dX10_laysDist_110.2.2.2.2.2.2.1
theorem dX10_laysDist_123 : decode cX10_laysDist 123 = .ok (.iload 4, 2) := da9_dX10_laysDist_110.2.2.2.2.2.2.2.1
theorem dX10_laysDist_125 : decode cX10_laysDist 125 = .ok (.invokevirtual 423, 3) := da9_dX10_laysDist_110.2.2.2.2.2.2.2.2.1
theorem dX10_laysDist_128 : decode cX10_laysDist 128 = .ok (.istore 5, 2) := da9_dX10_laysDist_110.2.2.2.2.2.2.2.2.2.1
theorem dX10_laysDist_130 : decode cX10_laysDist 130 = .ok (.aload_n 0, 1) := da9_dX10_laysDist_110.2.2.2.2.2.2.2.2.2.2.1
theorem dX10_laysDist_131 : decode cX10_laysDist 131 = .ok (.iload 5, 2) := da9_dX10_laysDist_110.2.2.2.2.2.2.2.2.2.2.2.1
theorem dX10_laysDist_133 : decode cX10_laysDist 133 = .ok (.iload 4, 2) := da9_dX10_laysDist_110.2.2.2.2.2.2.2.2.2.2.2.2.1
theorem dX10_laysDist_135 : decode cX10_laysDist 135 = .ok (.invokevirtual 426, 3) := da9_dX10_laysDist_110.2.2.2.2.2.2.2.2.2.2.2.2.2.1
theorem dX10_laysDist_138 : decode cX10_laysDist 138 = .ok (.iconst (-1), 1) := da9_dX10_laysDist_110.2.2.2.2.2.2.2.2.2.2.2.2.2.2.1
theorem dX10_laysDist_139 : decode cX10_laysDist 139 = .ok (.if_icmp .ne 6, 3) := da9_dX10_laysDist_110.2.2.2.2.2.2.2.2.2.2.2.2.2.2.2
theorem da9_dX10_laysDist_142 : (decode cX10_laysDist 142 = .ok (.goto 90, 3)) ∧ (decode cX10_laysDist 145 = .ok (.aload_n 0, 1)) ∧ (decode cX10_laysDist 146 = .ok (.getfield 91, 3)) ∧ (decode cX10_laysDist 149 = .ok (.iload 5, 2)) ∧ (decode cX10_laysDist 151 = .ok (.iaload, 1)) ∧ (decode cX10_laysDist 152 = .ok (.ldc 188, 2)) ∧ (decode cX10_laysDist 154 = .ok (.if_icmp .ne 29, 3)) ∧ (decode cX10_laysDist 157 = .ok (.aload_n 0, 1)) ∧ (decode cX10_laysDist 158 = .ok (.getfield 91, 3)) ∧ (decode cX10_laysDist 161 = .ok (.iload 5, 2)) ∧ (decode cX10_laysDist 163 = .ok (.aload_n 0, 1)) ∧ (decode cX10_laysDist 164 = .ok (.getfield 91, 3)) ∧ (decode cX10_laysDist 167 = .ok (.iload_n 3, 1)) ∧ (decode cX10_laysDist 168 = .ok (.iaload, 1)) ∧ (decode cX10_laysDist 169 = .ok (.iconst 1, 1)) ∧ (decode cX10_laysDist 170 = .ok (.iadd, 1)) := by decide +kernel
theorem dX10_laysDist_142 : decode cX10_laysDist 142 = .ok (.goto 90, 3) := da9_dX10_laysDist_142.1
theorem dX10_laysDist_145 : decode cX10_laysDist 145 = .ok (.aload_n 0, 1) := da9_dX10_laysDist_142.2.1
theorem dX10_laysDist_146 : decode cX10_laysDist 146 = .ok (.getfield 91, 3) := da9_dX10_laysDist_142.2.2.1
theorem dX10_laysDist_149 : decode cX10_laysDist 149 = .ok (.iload 5, 2) := da9_dX10_laysDist_142.2.2.2.1
theorem dX10_laysDist_151 : decode cX10_laysDist 151 = .ok (.iaload, 1) := da9_dX10_laysDist_142.2.2.2.2.1
theorem dX10_laysDist_152 : decode cX10_laysDist 152 = .ok (.ldc 188, 2) := da9_dX10_laysDist_142.2.2.2.2.2.1
theorem dX10_laysDist_154 : decode cX10_laysDist 154 = .ok (.if_icmp .ne 29, 3) := da9_dX10_laysDist_142.2.2.2.2.2.2.1
theorem dX10_laysDist_157 : decode cX10_laysDist 157 = .ok (.aload_n 0, 1) := da9_dX10_laysDist_142.2.2.2.2.2.2.2.1
theorem dX10_laysDist_158 : decode cX10_laysDist 158 = .ok (.getfield 91, 3) := da9_dX10_laysDist_142.2.2.2.2.2.2.2.2.1
theorem dX10_laysDist_161 : decode cX10_laysDist 161 = .ok (.iload 5, 2) := da9_dX10_laysDist_142.2.2.2.2.2.2.2.2.2.1
theorem dX10_laysDist_163 : decode cX10_laysDist 163 = .ok (.aload_n 0, 1) := da9_dX10_laysDist_142.2.2.2.2.2.2.2.2.2.2.1
theorem dX10_laysDist_164 : decode cX10_laysDist 164 = .ok (.getfield 91, 3) := da9_dX10_laysDist_142.2.2.2.2.2.2.2.2.2.2.2.1
theorem dX10_laysDist_167 : decode cX10_laysDist 167 = .ok (.iload_n 3, 1) := da9_dX10_laysDist_142.2.2.2.2.2.2.2.2.2.2.2.2.1
theorem dX10_laysDist_168 : decode cX10_laysDist 168 = .ok (.iaload, 1) := da9_dX10_laysDist_142.2.2.2.2.2.2.2.2.2.2.2.2.2.1
theorem dX10_laysDist_169 : decode cX10_laysDist 169 = .ok (.iconst 1, 1) := da9_dX10_laysDist_142.2.2.2.2.2.2.2.2.2.2.2.2.2.2.1
theorem dX10_laysDist_170 : decode cX10_laysDist 170 = .ok (.iadd, 1) := da9_dX10_laysDist_142.2.2.2.2.2.2.2.2.2.2.2.2.2.2.2
theorem da9_dX10_laysDist_171 : (decode cX10_laysDist 171 = .ok (.iastore, 1)) ∧ (decode cX10_laysDist 172 = .ok (.aload_n 0, 1)) ∧ (decode cX10_laysDist 173 = .ok (.getfield 97, 3)) ∧ (decode cX10_laysDist 176 = .ok (.iload_n 1, 1)) ∧ (decode cX10_laysDist 177 = .ok (.iload 5, 2)) ∧ (decode cX10_laysDist 179 = .ok (.iastore, 1)) ∧ (decode cX10_laysDist 180 = .ok (.iinc 1 1, 3)) ∧ (decode cX10_laysDist 183 = .ok (.aload_n 0, 1)) ∧ (decode cX10_laysDist 184 = .ok (.getfield 94, 3)) ∧ (decode cX10_laysDist 187 = .ok (.iload 5, 2)) ∧ (decode cX10_laysDist 189 = .ok (.ldc_w 429, 3)) ∧ (decode cX10_laysDist 192 = .ok (.aload_n 0, 1)) ∧ (decode cX10_laysDist 193 = .ok (.getfield 94, 3)) ∧ (decode cX10_laysDist 196 = .ok (.iload 5, 2)) ∧ (decode cX10_laysDist 198 = .ok (.iaload, 1)) ∧ (decode cX10_laysDist 199 = .ok (.aload_n 0, 1)) := by decide +kernel
theorem dX10_laysDist_171 : decode cX10_laysDist 171 = .ok (.iastore, 1) := da9_dX10_laysDist_171.1
theorem dX10_laysDist_172 : decode cX10_laysDist 172 = .ok (.aload_n 0, 1) := da9_dX10_laysDist_171.2.1
theorem dX10_laysDist_173 : decode cX10_laysDist 173 = .ok (.getfield 97, 3) := da9_dX10_laysDist_171.2.2.1
theorem dX10_laysDist_176 : decode cX10_laysDist 176 = .ok (.iload_n 1, 1) := da9_dX10_laysDist_171.2.2.2.1
theorem dX10_laysDist_177 : decode cX10_laysDist 177 = .ok (.iload 5, 2) := da9_dX10_laysDist_171.2.2.2.2.1
theorem dX10_laysDist_179 : decode cX10_laysDist 179 = .ok (.iastore, 1) := da9_dX10_laysDist_171.2.2.2.2.2.1
theorem dX10_laysDist_180 : decode cX10_laysDist 180 = .ok (.iinc 1 1, 3) := da9_dX10_laysDist_171.2.2.2.2.2.2.1
theorem dX10_laysDist_183 : decode cX10_laysDist 183 = .ok (.aload_n 0, 1) := da9_dX10_laysDist_171.2.2.2.2.2.2.2.1
theorem dX10_laysDist_184 : decode cX10_laysDist 184 = .ok (.getfield 94, 3) := da9_dX10_laysDist_171.2.2.2.2.2.2.2.2.1
theorem dX10_laysDist_187 : decode cX10_laysDist 187 = .ok (.iload 5, 2) := da9_dX10_laysDist_171.2.2.2.2.2.2.2.2.2.1
theorem dX10_laysDist_189 : decode cX10_laysDist 189 = .ok (.ldc_w 429, 3) := da9_dX10_laysDist_171.2.2.2.2.2.2.2.2.2.2.1
theorem dX10_laysDist_192 : decode cX10_laysDist 192 = .ok (.aload_n 0, 1) := da9_dX10_laysDist_171.2.2.2.2.2.2.2.2.2.2.2.1
theorem dX10_laysDist_193 : decode cX10_laysDist 193 = .ok (.getfield 94, 3) := da9_dX10_laysDist_171.2.2.2.2.2.2.2.2.2.2.2.2.1
theorem dX10_laysDist_196 : decode cX10_laysDist 196 = .ok (.iload 5, 2) := da9_dX10_laysDist_171.2.2.2.2.2.2.2.2.2.2.2.2.2.1
theorem dX10_laysDist_198 : decode cX10_laysDist 198 = .ok (.iaload, 1) := da9_dX10_laysDist_171.2.2.2.2.2.2.2.2.2.2.2.2.2.2.1
theorem dX10_laysDist_199 : decode cX10_laysDist 199 = .ok (.aload_n 0, 1) := da9_dX10_laysDist_171.2.2.2.2.2.2.2.2.2.2.2.2.2.2.2
theorem da9_dX10_laysDist_200 : (decode cX10_laysDist 200 = .ok (.getfield 91, 3)) ∧ (decode cX10_laysDist 203 = .ok (.iload 5, 2)) ∧ (decode cX10_laysDist 205 = .ok (.iaload, 1)) ∧ (decode cX10_laysDist 206 = .ok (.aload_n 0, 1)) ∧ (decode cX10_laysDist 207 = .ok (.getfield 91, 3)) ∧ (decode cX10_laysDist 210 = .ok (.iload_n 3, 1)) ∧ (decode cX10_laysDist 211 = .ok (.iaload, 1)) ∧ (decode cX10_laysDist 212 = .ok (.iconst 1, 1)) ∧ (decode cX10_laysDist 213 = .ok (.iadd, 1)) ∧ (decode cX10_laysDist 214 = .ok (.if_icmp .ne 12, 3)) ∧ (decode cX10_laysDist 217 = .ok (.aload_n 0, 1)) ∧ (decode cX10_laysDist 218 = .ok (.getfield 94, 3)) ∧ (decode cX10_laysDist 221 = .ok (.iload_n 3, 1)) ∧ (decode cX10_laysDist 222 = .ok (.iaload, 1)) ∧ (decode cX10_laysDist 223 = .ok (.goto 4, 3)) ∧ (decode cX10_laysDist 226 = .ok (.iconst 0, 1)) := by decide +kernel
theorem dX10_laysDist_200 : decode cX10_laysDist 200 = .ok (.getfield 91, 3) := da9_dX10_laysDist_200.1
theorem dX10_laysDist_203 : decode cX10_laysDist 203 = .ok (.iload 5, 2) := da9_dX10_laysDist_200.2.1
theorem dX10_laysDist_205 : decode cX10_laysDist 205 = .ok (.iaload, 1) := da9_dX10_laysDist_200.2.2.1
theorem dX10_laysDist_206 : decode cX10_laysDist 206 = .ok (.aload_n 0, 1) := da9_dX10_laysDist_200.2.2.2.1
theorem dX10_laysDist_207 : decode cX10_laysDist 207 = .ok (.getfield 91, 3) := da9_dX10_laysDist_200.2.2.2.2.1
theorem dX10_laysDist_210 : decode cX10_laysDist 210 = .ok (.iload_n 3, 1) := da9_dX10_laysDist_200.2.2.2.2.2.1
theorem dX10_laysDist_211 : decode cX10_laysDist 211 = .ok (.iaload, 1) := da9_dX10_laysDist_200.2.2.2.2.2.2.1
theorem dX10_laysDist_212 : decode cX10_laysDist 212 = .ok (.iconst 1, 1) := da9_dX10_laysDist_200.2.2.2.2.2.2.2.1
theorem dX10_laysDist_213 : decode cX10_laysDist 213 = .ok (.iadd, 1) := da9_dX10_laysDist_200.2.2.2.2.2.2.2.2.1
theorem dX10_laysDist_214 : decode cX10_laysDist 214 = .ok (.if_icmp .ne 12, 3) := da9_dX10_laysDist_200.2.2.2.2.2.2.2.2.2.1
theorem dX10_laysDist_217 : decode cX10_laysDist 217 = .ok (.aload_n 0, 1) := da9_dX10_laysDist_200.2.2.2.2.2.2.2.2.2.2.1
theorem dX10_laysDist_218 : decode cX10_laysDist 218 = .ok (.getfield 94, 3) := da9_dX10_laysDist_200.2.2.2.2.2.2.2.2.2.2.2.1
theorem dX10_laysDist_221 : decode cX10_laysDist 221 = .ok (.iload_n 3, 1) := da9_dX10_laysDist_200.2.2.2.2.2.2.2.2.2.2.2.2.1
theorem dX10_laysDist_222 : decode cX10_laysDist 222 = .ok (.iaload, 1) := da9_dX10_laysDist_200.2.2.2.2.2.2.2.2.2.2.2.2.2.1
theorem dX10_laysDist_223 : decode cX10_laysDist 223 = .ok (.goto 4, 3) := da9_dX10_laysDist_200.2.2.2.2.2.2.2.2.2.2.2.2.2.2.1
theorem dX10_laysDist_226 : decode cX10_laysDist 226 = .ok (.iconst 0, 1) := da9_dX10_laysDist_200.2.2.2.2.2.2.2.2.2.2.2.2.2.2.2
theorem da9_dX10_laysDist_227 : (decode cX10_laysDist 227 = .ok (.iadd, 1)) ∧ (decode cX10_laysDist 228 = .ok (.invokestatic 350, 3)) ∧ (decode cX10_laysDist 231 = .ok (.iastore, 1)) ∧ (decode cX10_laysDist 232 = .ok (.iinc 4 1, 3)) ∧ (decode cX10_laysDist 235 = .ok (.goto (-123), 3)) ∧ (decode cX10_laysDist 238 = .ok (.iinc 2 1, 3)) ∧ (decode cX10_laysDist 241 = .ok (.goto (-144), 3)) ∧ (decode cX10_laysDist 244 = .ok (.return_, 1)) := by decide +kernel
theorem dX10_laysDist_227 : decode cX10_laysDist 227 = .ok (.iadd, 1) := da9_dX10_laysDist_227.1
theorem dX10_laysDist_228 : decode cX10_laysDist 228 = .ok (.invokestatic 350, 3) := da9_dX10_laysDist_227.2.1
theorem dX10_laysDist_231 : decode cX10_laysDist 231 = .ok (.iastore, 1) := da9_dX10_laysDist_227.2.2.1
theorem dX10_laysDist_232 : decode cX10_laysDist 232 = .ok (.iinc 4 1, 3) := da9_dX10_laysDist_227.2.2.2.1
theorem dX10_laysDist_235 : decode cX10_laysDist 235 = .ok (.goto (-123), 3) := da9_dX10_laysDist_227.2.2.2.2.1
theorem dX10_laysDist_238 : decode cX10_laysDist 238 = .ok (.iinc 2 1, 3) := da9_dX10_laysDist_227.2.2.2.2.2.1
theorem dX10_laysDist_241 : decode cX10_laysDist 241 = .ok (.goto (-144), 3) := da9_dX10_laysDist_227.2.2.2.2.2.2.1
theorem dX10_laysDist_244 : decode cX10_laysDist 244 = .ok (.return_, 1) := da9_dX10_laysDist_227.2.2.2.2.2.2.2
set_option maxRecDepth 20000 in
theorem ggX10_fewest_X10_laysDist : GoodIn wsX10_fewest wsX10_laysDist := wd_c vW10_ok mvW10_334
set_option maxRecDepth 20000 in
theorem gX10_fewest_X10_laysDist : GoodIn wsX10_fewest (wsV RX10 430 RX10 yX10_laysDist wsX10_laysDist) := goodIn_app (wd_l vW10_ok _ pvW10_221) ggX10_fewest_X10_laysDist
set_option maxRecDepth 20000 in
theorem ggX10_fewest_X10_towerNow : GoodIn wsX10_fewest wsX10_towerNow := wd_c vW10_ok mvW10_397
set_option maxRecDepth 20000 in
theorem gX10_fewest_X10_towerNow : GoodIn wsX10_fewest (wsV RX10 433 RX10 yX10_towerNow wsX10_towerNow) := goodIn_app (wd_l vW10_ok _ pvW10_222) ggX10_fewest_X10_towerNow
set_option maxRecDepth 20000 in
theorem ggX10_fewest_X10_priceOf : GoodIn wsX10_fewest wsX10_priceOf := wd_c vW10_ok mvW10_393
set_option maxRecDepth 20000 in
theorem gX10_fewest_X10_priceOf : GoodIn wsX10_fewest (wsV RX10 426 RX10 yX10_priceOf wsX10_priceOf) := goodIn_app (wd_l vW10_ok _ pvW10_220) ggX10_fewest_X10_priceOf
set_option maxRecDepth 20000 in
theorem ggX10_fewest_X10_behind : GoodIn wsX10_fewest wsX10_behind := wd_c vW10_ok mvW10_389
set_option maxRecDepth 20000 in
theorem gX10_fewest_X10_behind : GoodIn wsX10_fewest (wsV RX10 423 RX10 yX10_behind wsX10_behind) := goodIn_app (wd_l vW10_ok _ pvW10_219) ggX10_fewest_X10_behind
theorem da9_dX10_fewest_0 : (decode cX10_fewest 0 = .ok (.iload_n 1, 1)) ∧ (decode cX10_fewest 1 = .ok (.iconst (-1), 1)) ∧ (decode cX10_fewest 2 = .ok (.if_icmp .ge 5, 3)) ∧ (decode cX10_fewest 5 = .ok (.iconst (-1), 1)) ∧ (decode cX10_fewest 6 = .ok (.ireturn, 1)) ∧ (decode cX10_fewest 7 = .ok (.aload_n 0, 1)) ∧ (decode cX10_fewest 8 = .ok (.invokevirtual 430, 3)) ∧ (decode cX10_fewest 11 = .ok (.aload_n 0, 1)) ∧ (decode cX10_fewest 12 = .ok (.invokevirtual 433, 3)) ∧ (decode cX10_fewest 15 = .ok (.istore_n 2, 1)) ∧ (decode cX10_fewest 16 = .ok (.aload_n 0, 1)) ∧ (decode cX10_fewest 17 = .ok (.getfield 91, 3)) ∧ (decode cX10_fewest 20 = .ok (.iload_n 2, 1)) ∧ (decode cX10_fewest 21 = .ok (.iaload, 1)) ∧ (decode cX10_fewest 22 = .ok (.ldc 188, 2)) ∧ (decode cX10_fewest 24 = .ok (.if_icmp .eq 8, 3)) := by decide +kernel
theorem dX10_fewest_0 : decode cX10_fewest 0 = .ok (.iload_n 1, 1) := da9_dX10_fewest_0.1
theorem dX10_fewest_1 : decode cX10_fewest 1 = .ok (.iconst (-1), 1) := da9_dX10_fewest_0.2.1
theorem dX10_fewest_2 : decode cX10_fewest 2 = .ok (.if_icmp .ge 5, 3) := da9_dX10_fewest_0.2.2.1
theorem dX10_fewest_5 : decode cX10_fewest 5 = .ok (.iconst (-1), 1) := da9_dX10_fewest_0.2.2.2.1
theorem dX10_fewest_6 : decode cX10_fewest 6 = .ok (.ireturn, 1) := da9_dX10_fewest_0.2.2.2.2.1
theorem dX10_fewest_7 : decode cX10_fewest 7 = .ok (.aload_n 0, 1) := da9_dX10_fewest_0.2.2.2.2.2.1
theorem dX10_fewest_8 : decode cX10_fewest 8 = .ok (.invokevirtual 430, 3) := da9_dX10_fewest_0.2.2.2.2.2.2.1
theorem dX10_fewest_11 : decode cX10_fewest 11 = .ok (.aload_n 0, 1) := da9_dX10_fewest_0.2.2.2.2.2.2.2.1
theorem dX10_fewest_12 : decode cX10_fewest 12 = .ok (.invokevirtual 433, 3) := da9_dX10_fewest_0.2.2.2.2.2.2.2.2.1
theorem dX10_fewest_15 : decode cX10_fewest 15 = .ok (.istore_n 2, 1) := da9_dX10_fewest_0.2.2.2.2.2.2.2.2.2.1
theorem dX10_fewest_16 : decode cX10_fewest 16 = .ok (.aload_n 0, 1) := da9_dX10_fewest_0.2.2.2.2.2.2.2.2.2.2.1
theorem dX10_fewest_17 : decode cX10_fewest 17 = .ok (.getfield 91, 3) := da9_dX10_fewest_0.2.2.2.2.2.2.2.2.2.2.2.1
theorem dX10_fewest_20 : decode cX10_fewest 20 = .ok (.iload_n 2, 1) := da9_dX10_fewest_0.2.2.2.2.2.2.2.2.2.2.2.2.1
theorem dX10_fewest_21 : decode cX10_fewest 21 = .ok (.iaload, 1) := da9_dX10_fewest_0.2.2.2.2.2.2.2.2.2.2.2.2.2.1
theorem dX10_fewest_22 : decode cX10_fewest 22 = .ok (.ldc 188, 2) := da9_dX10_fewest_0.2.2.2.2.2.2.2.2.2.2.2.2.2.2.1
theorem dX10_fewest_24 : decode cX10_fewest 24 = .ok (.if_icmp .eq 8, 3) := da9_dX10_fewest_0.2.2.2.2.2.2.2.2.2.2.2.2.2.2.2
theorem da9_dX10_fewest_27 : (decode cX10_fewest 27 = .ok (.iload_n 1, 1)) ∧ (decode cX10_fewest 28 = .ok (.iconst (-1), 1)) ∧ (decode cX10_fewest 29 = .ok (.if_icmp .ne 25, 3)) ∧ (decode cX10_fewest 32 = .ok (.aload_n 0, 1)) ∧ (decode cX10_fewest 33 = .ok (.getfield 91, 3)) ∧ (decode cX10_fewest 36 = .ok (.iload_n 2, 1)) ∧ (decode cX10_fewest 37 = .ok (.iaload, 1)) ∧ (decode cX10_fewest 38 = .ok (.ldc 188, 2)) ∧ (decode cX10_fewest 40 = .ok (.if_icmp .ne 7, 3)) ∧ (decode cX10_fewest 43 = .ok (.iconst (-1), 1)) ∧ (decode cX10_fewest 44 = .ok (.goto 9, 3)) ∧ (decode cX10_fewest 47 = .ok (.aload_n 0, 1)) ∧ (decode cX10_fewest 48 = .ok (.getfield 91, 3)) ∧ (decode cX10_fewest 51 = .ok (.iload_n 2, 1)) ∧ (decode cX10_fewest 52 = .ok (.iaload, 1)) ∧ (decode cX10_fewest 53 = .ok (.ireturn, 1)) := by decide +kernel
theorem dX10_fewest_27 : decode cX10_fewest 27 = .ok (.iload_n 1, 1) := da9_dX10_fewest_27.1
theorem dX10_fewest_28 : decode cX10_fewest 28 = .ok (.iconst (-1), 1) := da9_dX10_fewest_27.2.1
theorem dX10_fewest_29 : decode cX10_fewest 29 = .ok (.if_icmp .ne 25, 3) := da9_dX10_fewest_27.2.2.1
theorem dX10_fewest_32 : decode cX10_fewest 32 = .ok (.aload_n 0, 1) := da9_dX10_fewest_27.2.2.2.1
theorem dX10_fewest_33 : decode cX10_fewest 33 = .ok (.getfield 91, 3) := da9_dX10_fewest_27.2.2.2.2.1
theorem dX10_fewest_36 : decode cX10_fewest 36 = .ok (.iload_n 2, 1) := da9_dX10_fewest_27.2.2.2.2.2.1
theorem dX10_fewest_37 : decode cX10_fewest 37 = .ok (.iaload, 1) := da9_dX10_fewest_27.2.2.2.2.2.2.1
theorem dX10_fewest_38 : decode cX10_fewest 38 = .ok (.ldc 188, 2) := da9_dX10_fewest_27.2.2.2.2.2.2.2.1
theorem dX10_fewest_40 : decode cX10_fewest 40 = .ok (.if_icmp .ne 7, 3) := da9_dX10_fewest_27.2.2.2.2.2.2.2.2.1
theorem dX10_fewest_43 : decode cX10_fewest 43 = .ok (.iconst (-1), 1) := da9_dX10_fewest_27.2.2.2.2.2.2.2.2.2.1
theorem dX10_fewest_44 : decode cX10_fewest 44 = .ok (.goto 9, 3) := da9_dX10_fewest_27.2.2.2.2.2.2.2.2.2.2.1
theorem dX10_fewest_47 : decode cX10_fewest 47 = .ok (.aload_n 0, 1) := da9_dX10_fewest_27.2.2.2.2.2.2.2.2.2.2.2.1
theorem dX10_fewest_48 : decode cX10_fewest 48 = .ok (.getfield 91, 3) := da9_dX10_fewest_27.2.2.2.2.2.2.2.2.2.2.2.2.1
theorem dX10_fewest_51 : decode cX10_fewest 51 = .ok (.iload_n 2, 1) := da9_dX10_fewest_27.2.2.2.2.2.2.2.2.2.2.2.2.2.1
theorem dX10_fewest_52 : decode cX10_fewest 52 = .ok (.iaload, 1) := da9_dX10_fewest_27.2.2.2.2.2.2.2.2.2.2.2.2.2.2.1
theorem dX10_fewest_53 : decode cX10_fewest 53 = .ok (.ireturn, 1) := da9_dX10_fewest_27.2.2.2.2.2.2.2.2.2.2.2.2.2.2.2
theorem da9_dX10_fewest_54 : (decode cX10_fewest 54 = .ok (.iload_n 1, 1)) ∧ (decode cX10_fewest 55 = .ok (.aload_n 0, 1)) ∧ (decode cX10_fewest 56 = .ok (.getfield 91, 3)) ∧ (decode cX10_fewest 59 = .ok (.iload_n 2, 1)) ∧ (decode cX10_fewest 60 = .ok (.iaload, 1)) ∧ (decode cX10_fewest 61 = .ok (.if_icmp .lt 5, 3)) ∧ (decode cX10_fewest 64 = .ok (.iconst (-1), 1)) ∧ (decode cX10_fewest 65 = .ok (.ireturn, 1)) ∧ (decode cX10_fewest 66 = .ok (.iconst 0, 1)) ∧ (decode cX10_fewest 67 = .ok (.istore_n 3, 1)) ∧ (decode cX10_fewest 68 = .ok (.iconst 0, 1)) ∧ (decode cX10_fewest 69 = .ok (.istore 4, 2)) ∧ (decode cX10_fewest 71 = .ok (.iload 4, 2)) ∧ (decode cX10_fewest 73 = .ok (.iload_n 1, 1)) ∧ (decode cX10_fewest 74 = .ok (.if_icmp .gt 56, 3)) ∧ (decode cX10_fewest 77 = .ok (.iconst 1, 1)) := by decide +kernel
theorem dX10_fewest_54 : decode cX10_fewest 54 = .ok (.iload_n 1, 1) := da9_dX10_fewest_54.1
theorem dX10_fewest_55 : decode cX10_fewest 55 = .ok (.aload_n 0, 1) := da9_dX10_fewest_54.2.1
theorem dX10_fewest_56 : decode cX10_fewest 56 = .ok (.getfield 91, 3) := da9_dX10_fewest_54.2.2.1
theorem dX10_fewest_59 : decode cX10_fewest 59 = .ok (.iload_n 2, 1) := da9_dX10_fewest_54.2.2.2.1
theorem dX10_fewest_60 : decode cX10_fewest 60 = .ok (.iaload, 1) := da9_dX10_fewest_54.2.2.2.2.1
theorem dX10_fewest_61 : decode cX10_fewest 61 = .ok (.if_icmp .lt 5, 3) := da9_dX10_fewest_54.2.2.2.2.2.1
theorem dX10_fewest_64 : decode cX10_fewest 64 = .ok (.iconst (-1), 1) := da9_dX10_fewest_54.2.2.2.2.2.2.1
theorem dX10_fewest_65 : decode cX10_fewest 65 = .ok (.ireturn, 1) := da9_dX10_fewest_54.2.2.2.2.2.2.2.1
theorem dX10_fewest_66 : decode cX10_fewest 66 = .ok (.iconst 0, 1) := da9_dX10_fewest_54.2.2.2.2.2.2.2.2.1
theorem dX10_fewest_67 : decode cX10_fewest 67 = .ok (.istore_n 3, 1) := da9_dX10_fewest_54.2.2.2.2.2.2.2.2.2.1
theorem dX10_fewest_68 : decode cX10_fewest 68 = .ok (.iconst 0, 1) := da9_dX10_fewest_54.2.2.2.2.2.2.2.2.2.2.1
theorem dX10_fewest_69 : decode cX10_fewest 69 = .ok (.istore 4, 2) := da9_dX10_fewest_54.2.2.2.2.2.2.2.2.2.2.2.1
theorem dX10_fewest_71 : decode cX10_fewest 71 = .ok (.iload 4, 2) := da9_dX10_fewest_54.2.2.2.2.2.2.2.2.2.2.2.2.1
theorem dX10_fewest_73 : decode cX10_fewest 73 = .ok (.iload_n 1, 1) := da9_dX10_fewest_54.2.2.2.2.2.2.2.2.2.2.2.2.2.1
theorem dX10_fewest_74 : decode cX10_fewest 74 = .ok (.if_icmp .gt 56, 3) := da9_dX10_fewest_54.2.2.2.2.2.2.2.2.2.2.2.2.2.2.1
theorem dX10_fewest_77 : decode cX10_fewest 77 = .ok (.iconst 1, 1) := da9_dX10_fewest_54.2.2.2.2.2.2.2.2.2.2.2.2.2.2.2
theorem da9_dX10_fewest_78 : (decode cX10_fewest 78 = .ok (.istore_n 3, 1)) ∧ (decode cX10_fewest 79 = .ok (.aload_n 0, 1)) ∧ (decode cX10_fewest 80 = .ok (.iload_n 2, 1)) ∧ (decode cX10_fewest 81 = .ok (.iload_n 3, 1)) ∧ (decode cX10_fewest 82 = .ok (.invokevirtual 426, 3)) ∧ (decode cX10_fewest 85 = .ok (.iconst (-1), 1)) ∧ (decode cX10_fewest 86 = .ok (.if_icmp .eq 25, 3)) ∧ (decode cX10_fewest 89 = .ok (.aload_n 0, 1)) ∧ (decode cX10_fewest 90 = .ok (.getfield 91, 3)) ∧ (decode cX10_fewest 93 = .ok (.aload_n 0, 1)) ∧ (decode cX10_fewest 94 = .ok (.iload_n 2, 1)) ∧ (decode cX10_fewest 95 = .ok (.iload_n 3, 1)) ∧ (decode cX10_fewest 96 = .ok (.invokevirtual 423, 3)) ∧ (decode cX10_fewest 99 = .ok (.iaload, 1)) ∧ (decode cX10_fewest 100 = .ok (.aload_n 0, 1)) ∧ (decode cX10_fewest 101 = .ok (.getfield 91, 3)) := by decide +kernel
theorem dX10_fewest_78 : decode cX10_fewest 78 = .ok (.istore_n 3, 1) := da9_dX10_fewest_78.1
theorem dX10_fewest_79 : decode cX10_fewest 79 = .ok (.aload_n 0, 1) := da9_dX10_fewest_78.2.1
theorem dX10_fewest_80 : decode cX10_fewest 80 = .ok (.iload_n 2, 1) := da9_dX10_fewest_78.2.2.1
theorem dX10_fewest_81 : decode cX10_fewest 81 = .ok (.iload_n 3, 1) := da9_dX10_fewest_78.2.2.2.1
theorem dX10_fewest_82 : decode cX10_fewest 82 = .ok (.invokevirtual 426, 3) := da9_dX10_fewest_78.2.2.2.2.1
theorem dX10_fewest_85 : decode cX10_fewest 85 = .ok (.iconst (-1), 1) := da9_dX10_fewest_78.2.2.2.2.2.1
theorem dX10_fewest_86 : decode cX10_fewest 86 = .ok (.if_icmp .eq 25, 3) := da9_dX10_fewest_78.2.2.2.2.2.2.1
theorem dX10_fewest_89 : decode cX10_fewest 89 = .ok (.aload_n 0, 1) := da9_dX10_fewest_78.2.2.2.2.2.2.2.1
theorem dX10_fewest_90 : decode cX10_fewest 90 = .ok (.getfield 91, 3) := da9_dX10_fewest_78.2.2.2.2.2.2.2.2.1
theorem dX10_fewest_93 : decode cX10_fewest 93 = .ok (.aload_n 0, 1) := da9_dX10_fewest_78.2.2.2.2.2.2.2.2.2.1
theorem dX10_fewest_94 : decode cX10_fewest 94 = .ok (.iload_n 2, 1) := da9_dX10_fewest_78.2.2.2.2.2.2.2.2.2.2.1
theorem dX10_fewest_95 : decode cX10_fewest 95 = .ok (.iload_n 3, 1) := da9_dX10_fewest_78.2.2.2.2.2.2.2.2.2.2.2.1
theorem dX10_fewest_96 : decode cX10_fewest 96 = .ok (.invokevirtual 423, 3) := da9_dX10_fewest_78.2.2.2.2.2.2.2.2.2.2.2.2.1
theorem dX10_fewest_99 : decode cX10_fewest 99 = .ok (.iaload, 1) := da9_dX10_fewest_78.2.2.2.2.2.2.2.2.2.2.2.2.2.1
theorem dX10_fewest_100 : decode cX10_fewest 100 = .ok (.aload_n 0, 1) := da9_dX10_fewest_78.2.2.2.2.2.2.2.2.2.2.2.2.2.2.1
theorem dX10_fewest_101 : decode cX10_fewest 101 = .ok (.getfield 91, 3) := da9_dX10_fewest_78.2.2.2.2.2.2.2.2.2.2.2.2.2.2.2
theorem da9_dX10_fewest_104 : (decode cX10_fewest 104 = .ok (.iload_n 2, 1)) ∧ (decode cX10_fewest 105 = .ok (.iaload, 1)) ∧ (decode cX10_fewest 106 = .ok (.iconst 1, 1)) ∧ (decode cX10_fewest 107 = .ok (.isub, 1)) ∧ (decode cX10_fewest 108 = .ok (.if_icmp .eq 9, 3)) ∧ (decode cX10_fewest 111 = .ok (.iinc 3 1, 3)) ∧ (decode cX10_fewest 114 = .ok (.goto (-35), 3)) ∧ (decode cX10_fewest 117 = .ok (.aload_n 0, 1)) ∧ (decode cX10_fewest 118 = .ok (.iload_n 2, 1)) ∧ (decode cX10_fewest 119 = .ok (.iload_n 3, 1)) ∧ (decode cX10_fewest 120 = .ok (.invokevirtual 423, 3)) ∧ (decode cX10_fewest 123 = .ok (.istore_n 2, 1)) ∧ (decode cX10_fewest 124 = .ok (.iinc 4 1, 3)) ∧ (decode cX10_fewest 127 = .ok (.goto (-56), 3)) ∧ (decode cX10_fewest 130 = .ok (.iload_n 3, 1)) ∧ (decode cX10_fewest 131 = .ok (.ireturn, 1)) := by decide +kernel
theorem dX10_fewest_104 : decode cX10_fewest 104 = .ok (.iload_n 2, 1) := da9_dX10_fewest_104.1
theorem dX10_fewest_105 : decode cX10_fewest 105 = .ok (.iaload, 1) := da9_dX10_fewest_104.2.1
theorem dX10_fewest_106 : decode cX10_fewest 106 = .ok (.iconst 1, 1) := da9_dX10_fewest_104.2.2.1
theorem dX10_fewest_107 : decode cX10_fewest 107 = .ok (.isub, 1) := da9_dX10_fewest_104.2.2.2.1
theorem dX10_fewest_108 : decode cX10_fewest 108 = .ok (.if_icmp .eq 9, 3) := da9_dX10_fewest_104.2.2.2.2.1
theorem dX10_fewest_111 : decode cX10_fewest 111 = .ok (.iinc 3 1, 3) := da9_dX10_fewest_104.2.2.2.2.2.1
theorem dX10_fewest_114 : decode cX10_fewest 114 = .ok (.goto (-35), 3) := da9_dX10_fewest_104.2.2.2.2.2.2.1
theorem dX10_fewest_117 : decode cX10_fewest 117 = .ok (.aload_n 0, 1) := da9_dX10_fewest_104.2.2.2.2.2.2.2.1
theorem dX10_fewest_118 : decode cX10_fewest 118 = .ok (.iload_n 2, 1) := da9_dX10_fewest_104.2.2.2.2.2.2.2.2.1
theorem dX10_fewest_119 : decode cX10_fewest 119 = .ok (.iload_n 3, 1) := da9_dX10_fewest_104.2.2.2.2.2.2.2.2.2.1
theorem dX10_fewest_120 : decode cX10_fewest 120 = .ok (.invokevirtual 423, 3) := da9_dX10_fewest_104.2.2.2.2.2.2.2.2.2.2.1
theorem dX10_fewest_123 : decode cX10_fewest 123 = .ok (.istore_n 2, 1) := da9_dX10_fewest_104.2.2.2.2.2.2.2.2.2.2.2.1
theorem dX10_fewest_124 : decode cX10_fewest 124 = .ok (.iinc 4 1, 3) := da9_dX10_fewest_104.2.2.2.2.2.2.2.2.2.2.2.2.1
theorem dX10_fewest_127 : decode cX10_fewest 127 = .ok (.goto (-56), 3) := da9_dX10_fewest_104.2.2.2.2.2.2.2.2.2.2.2.2.2.1
theorem dX10_fewest_130 : decode cX10_fewest 130 = .ok (.iload_n 3, 1) := da9_dX10_fewest_104.2.2.2.2.2.2.2.2.2.2.2.2.2.2.1
theorem dX10_fewest_131 : decode cX10_fewest 131 = .ok (.ireturn, 1) := da9_dX10_fewest_104.2.2.2.2.2.2.2.2.2.2.2.2.2.2.2
set_option maxRecDepth 20000 in
theorem ggX10_many_X10_laysDist : GoodIn wsX10_many wsX10_laysDist := wd_c vW10_ok mvW10_334
set_option maxRecDepth 20000 in
theorem gX10_many_X10_laysDist : GoodIn wsX10_many (wsV RX10 430 RX10 yX10_laysDist wsX10_laysDist) := goodIn_app (wd_l vW10_ok _ pvW10_221) ggX10_many_X10_laysDist
set_option maxRecDepth 20000 in
theorem ggX10_many_X10_towerNow : GoodIn wsX10_many wsX10_towerNow := wd_c vW10_ok mvW10_397
set_option maxRecDepth 20000 in
theorem gX10_many_X10_towerNow : GoodIn wsX10_many (wsV RX10 433 RX10 yX10_towerNow wsX10_towerNow) := goodIn_app (wd_l vW10_ok _ pvW10_222) ggX10_many_X10_towerNow
theorem da9_dX10_many_0 : (decode cX10_many 0 = .ok (.aload_n 0, 1)) ∧ (decode cX10_many 1 = .ok (.invokevirtual 430, 3)) ∧ (decode cX10_many 4 = .ok (.aload_n 0, 1)) ∧ (decode cX10_many 5 = .ok (.getfield 94, 3)) ∧ (decode cX10_many 8 = .ok (.aload_n 0, 1)) ∧ (decode cX10_many 9 = .ok (.invokevirtual 433, 3)) ∧ (decode cX10_many 12 = .ok (.iaload, 1)) ∧ (decode cX10_many 13 = .ok (.ireturn, 1)) := by decide +kernel
theorem dX10_many_0 : decode cX10_many 0 = .ok (.aload_n 0, 1) := da9_dX10_many_0.1
theorem dX10_many_1 : decode cX10_many 1 = .ok (.invokevirtual 430, 3) := da9_dX10_many_0.2.1
theorem dX10_many_4 : decode cX10_many 4 = .ok (.aload_n 0, 1) := da9_dX10_many_0.2.2.1
theorem dX10_many_5 : decode cX10_many 5 = .ok (.getfield 94, 3) := da9_dX10_many_0.2.2.2.1
theorem dX10_many_8 : decode cX10_many 8 = .ok (.aload_n 0, 1) := da9_dX10_many_0.2.2.2.2.1
theorem dX10_many_9 : decode cX10_many 9 = .ok (.invokevirtual 433, 3) := da9_dX10_many_0.2.2.2.2.2.1
theorem dX10_many_12 : decode cX10_many 12 = .ok (.iaload, 1) := da9_dX10_many_0.2.2.2.2.2.2.1
theorem dX10_many_13 : decode cX10_many 13 = .ok (.ireturn, 1) := da9_dX10_many_0.2.2.2.2.2.2.2
set_option maxRecDepth 20000 in
theorem ggX10_compare_X10_isLaw : GoodIn wsX10_compare wsX10_isLaw := wd_c vW10_ok mvW10_325
set_option maxRecDepth 20000 in
theorem gX10_compare_X10_isLaw : GoodIn wsX10_compare (wsV RX10 272 RX10 yX10_isLaw wsX10_isLaw) := goodIn_app (wd_l vW10_ok _ pvW10_180) ggX10_compare_X10_isLaw
set_option maxRecDepth 20000 in
theorem ggX10_compare_X10_fewest : GoodIn wsX10_compare wsX10_fewest := wd_c vW10_ok mvW10_442
set_option maxRecDepth 20000 in
theorem gX10_compare_X10_fewest : GoodIn wsX10_compare (wsV RX10 436 RX10 yX10_fewest wsX10_fewest) := goodIn_app (wd_l vW10_ok _ pvW10_223) ggX10_compare_X10_fewest
theorem da9_dX10_compare_0 : (decode cX10_compare 0 = .ok (.aload_n 0, 1)) ∧ (decode cX10_compare 1 = .ok (.iload_n 1, 1)) ∧ (decode cX10_compare 2 = .ok (.invokevirtual 272, 3)) ∧ (decode cX10_compare 5 = .ok (.ifCond .ne 5, 3)) ∧ (decode cX10_compare 8 = .ok (.iconst (-1), 1)) ∧ (decode cX10_compare 9 = .ok (.ireturn, 1)) ∧ (decode cX10_compare 10 = .ok (.aload_n 0, 1)) ∧ (decode cX10_compare 11 = .ok (.getfield 28, 3)) ∧ (decode cX10_compare 14 = .ok (.bipush 32, 2)) ∧ (decode cX10_compare 16 = .ok (.iaload, 1)) ∧ (decode cX10_compare 17 = .ok (.istore_n 2, 1)) ∧ (decode cX10_compare 18 = .ok (.aload_n 0, 1)) ∧ (decode cX10_compare 19 = .ok (.getfield 28, 3)) ∧ (decode cX10_compare 22 = .ok (.bipush 32, 2)) ∧ (decode cX10_compare 24 = .ok (.iload_n 1, 1)) ∧ (decode cX10_compare 25 = .ok (.iastore, 1)) := by decide +kernel
theorem dX10_compare_0 : decode cX10_compare 0 = .ok (.aload_n 0, 1) := da9_dX10_compare_0.1
theorem dX10_compare_1 : decode cX10_compare 1 = .ok (.iload_n 1, 1) := da9_dX10_compare_0.2.1
theorem dX10_compare_2 : decode cX10_compare 2 = .ok (.invokevirtual 272, 3) := da9_dX10_compare_0.2.2.1
theorem dX10_compare_5 : decode cX10_compare 5 = .ok (.ifCond .ne 5, 3) := da9_dX10_compare_0.2.2.2.1
theorem dX10_compare_8 : decode cX10_compare 8 = .ok (.iconst (-1), 1) := da9_dX10_compare_0.2.2.2.2.1
theorem dX10_compare_9 : decode cX10_compare 9 = .ok (.ireturn, 1) := da9_dX10_compare_0.2.2.2.2.2.1
theorem dX10_compare_10 : decode cX10_compare 10 = .ok (.aload_n 0, 1) := da9_dX10_compare_0.2.2.2.2.2.2.1
theorem dX10_compare_11 : decode cX10_compare 11 = .ok (.getfield 28, 3) := da9_dX10_compare_0.2.2.2.2.2.2.2.1
theorem dX10_compare_14 : decode cX10_compare 14 = .ok (.bipush 32, 2) := da9_dX10_compare_0.2.2.2.2.2.2.2.2.1
theorem dX10_compare_16 : decode cX10_compare 16 = .ok (.iaload, 1) := da9_dX10_compare_0.2.2.2.2.2.2.2.2.2.1
theorem dX10_compare_17 : decode cX10_compare 17 = .ok (.istore_n 2, 1) := da9_dX10_compare_0.2.2.2.2.2.2.2.2.2.2.1
theorem dX10_compare_18 : decode cX10_compare 18 = .ok (.aload_n 0, 1) := da9_dX10_compare_0.2.2.2.2.2.2.2.2.2.2.2.1
theorem dX10_compare_19 : decode cX10_compare 19 = .ok (.getfield 28, 3) := da9_dX10_compare_0.2.2.2.2.2.2.2.2.2.2.2.2.1
theorem dX10_compare_22 : decode cX10_compare 22 = .ok (.bipush 32, 2) := da9_dX10_compare_0.2.2.2.2.2.2.2.2.2.2.2.2.2.1
theorem dX10_compare_24 : decode cX10_compare 24 = .ok (.iload_n 1, 1) := da9_dX10_compare_0.2.2.2.2.2.2.2.2.2.2.2.2.2.2.1
theorem dX10_compare_25 : decode cX10_compare 25 = .ok (.iastore, 1) := da9_dX10_compare_0.2.2.2.2.2.2.2.2.2.2.2.2.2.2.2
theorem da9_dX10_compare_26 : (decode cX10_compare 26 = .ok (.aload_n 0, 1)) ∧ (decode cX10_compare 27 = .ok (.iconst (-1), 1)) ∧ (decode cX10_compare 28 = .ok (.invokevirtual 436, 3)) ∧ (decode cX10_compare 31 = .ok (.istore_n 3, 1)) ∧ (decode cX10_compare 32 = .ok (.aload_n 0, 1)) ∧ (decode cX10_compare 33 = .ok (.getfield 28, 3)) ∧ (decode cX10_compare 36 = .ok (.bipush 32, 2)) ∧ (decode cX10_compare 38 = .ok (.iload_n 2, 1)) ∧ (decode cX10_compare 39 = .ok (.iastore, 1)) ∧ (decode cX10_compare 40 = .ok (.iload_n 3, 1)) ∧ (decode cX10_compare 41 = .ok (.ireturn, 1)) := by decide +kernel
theorem dX10_compare_26 : decode cX10_compare 26 = .ok (.aload_n 0, 1) := da9_dX10_compare_26.1
theorem dX10_compare_27 : decode cX10_compare 27 = .ok (.iconst (-1), 1) := da9_dX10_compare_26.2.1
theorem dX10_compare_28 : decode cX10_compare 28 = .ok (.invokevirtual 436, 3) := da9_dX10_compare_26.2.2.1
theorem dX10_compare_31 : decode cX10_compare 31 = .ok (.istore_n 3, 1) := da9_dX10_compare_26.2.2.2.1
theorem dX10_compare_32 : decode cX10_compare 32 = .ok (.aload_n 0, 1) := da9_dX10_compare_26.2.2.2.2.1
theorem dX10_compare_33 : decode cX10_compare 33 = .ok (.getfield 28, 3) := da9_dX10_compare_26.2.2.2.2.2.1
theorem dX10_compare_36 : decode cX10_compare 36 = .ok (.bipush 32, 2) := da9_dX10_compare_26.2.2.2.2.2.2.1
theorem dX10_compare_38 : decode cX10_compare 38 = .ok (.iload_n 2, 1) := da9_dX10_compare_26.2.2.2.2.2.2.2.1
theorem dX10_compare_39 : decode cX10_compare 39 = .ok (.iastore, 1) := da9_dX10_compare_26.2.2.2.2.2.2.2.2.1
theorem dX10_compare_40 : decode cX10_compare 40 = .ok (.iload_n 3, 1) := da9_dX10_compare_26.2.2.2.2.2.2.2.2.2.1
theorem dX10_compare_41 : decode cX10_compare 41 = .ok (.ireturn, 1) := da9_dX10_compare_26.2.2.2.2.2.2.2.2.2.2
set_option maxRecDepth 20000 in
theorem ggX10_worst_X10_lies : GoodIn wsX10_worst wsX10_lies := wd_c vW10_ok mvW10_6
set_option maxRecDepth 20000 in
theorem gX10_worst_X10_lies : GoodIn wsX10_worst (va_wsS RX10 18 yX10_lies wsX10_lies) := goodIn_app (wd_l vW10_ok _ pvW10_141) ggX10_worst_X10_lies
set_option maxRecDepth 20000 in
theorem ggX10_worst_X10_laysDist : GoodIn wsX10_worst wsX10_laysDist := wd_c vW10_ok mvW10_334
set_option maxRecDepth 20000 in
theorem gX10_worst_X10_laysDist : GoodIn wsX10_worst (wsV RX10 430 RX10 yX10_laysDist wsX10_laysDist) := goodIn_app (wd_l vW10_ok _ pvW10_221) ggX10_worst_X10_laysDist
set_option maxRecDepth 20000 in
theorem ggX10_worst_X10_isThere : GoodIn wsX10_worst wsX10_isThere := wd_c vW10_ok mvW10_381
set_option maxRecDepth 20000 in
theorem gX10_worst_X10_isThere : GoodIn wsX10_worst (wsV RX10 417 RX10 yX10_isThere wsX10_isThere) := goodIn_app (wd_l vW10_ok _ pvW10_217) ggX10_worst_X10_isThere
set_option maxRecDepth 20000 in
theorem ggX10_worst_X10_greater : GoodIn wsX10_worst wsX10_greater := wd_c vW10_ok mvW10_402
set_option maxRecDepth 20000 in
theorem gX10_worst_X10_greater : GoodIn wsX10_worst (va_wsS RX10 439 yX10_greater wsX10_greater) := goodIn_app (wd_l vW10_ok _ pvW10_224) ggX10_worst_X10_greater
theorem da9_dX10_worst_0 : (decode cX10_worst 0 = .ok (.iload_n 1, 1)) ∧ (decode cX10_worst 1 = .ok (.iconst 0, 1)) ∧ (decode cX10_worst 2 = .ok (.iconst 2, 1)) ∧ (decode cX10_worst 3 = .ok (.invokestatic 18, 3)) ∧ (decode cX10_worst 6 = .ok (.ifCond .ne 5, 3)) ∧ (decode cX10_worst 9 = .ok (.iconst (-1), 1)) ∧ (decode cX10_worst 10 = .ok (.ireturn, 1)) ∧ (decode cX10_worst 11 = .ok (.aload_n 0, 1)) ∧ (decode cX10_worst 12 = .ok (.invokevirtual 430, 3)) ∧ (decode cX10_worst 15 = .ok (.iconst 0, 1)) ∧ (decode cX10_worst 16 = .ok (.istore_n 2, 1)) ∧ (decode cX10_worst 17 = .ok (.iconst 0, 1)) ∧ (decode cX10_worst 18 = .ok (.istore_n 3, 1)) ∧ (decode cX10_worst 19 = .ok (.iconst 0, 1)) ∧ (decode cX10_worst 20 = .ok (.istore 4, 2)) ∧ (decode cX10_worst 22 = .ok (.iconst 0, 1)) := by decide +kernel
theorem dX10_worst_0 : decode cX10_worst 0 = .ok (.iload_n 1, 1) := da9_dX10_worst_0.1
theorem dX10_worst_1 : decode cX10_worst 1 = .ok (.iconst 0, 1) := da9_dX10_worst_0.2.1
theorem dX10_worst_2 : decode cX10_worst 2 = .ok (.iconst 2, 1) := da9_dX10_worst_0.2.2.1
theorem dX10_worst_3 : decode cX10_worst 3 = .ok (.invokestatic 18, 3) := da9_dX10_worst_0.2.2.2.1
theorem dX10_worst_6 : decode cX10_worst 6 = .ok (.ifCond .ne 5, 3) := da9_dX10_worst_0.2.2.2.2.1
theorem dX10_worst_9 : decode cX10_worst 9 = .ok (.iconst (-1), 1) := da9_dX10_worst_0.2.2.2.2.2.1
theorem dX10_worst_10 : decode cX10_worst 10 = .ok (.ireturn, 1) := da9_dX10_worst_0.2.2.2.2.2.2.1
theorem dX10_worst_11 : decode cX10_worst 11 = .ok (.aload_n 0, 1) := da9_dX10_worst_0.2.2.2.2.2.2.2.1
theorem dX10_worst_12 : decode cX10_worst 12 = .ok (.invokevirtual 430, 3) := da9_dX10_worst_0.2.2.2.2.2.2.2.2.1
theorem dX10_worst_15 : decode cX10_worst 15 = .ok (.iconst 0, 1) := da9_dX10_worst_0.2.2.2.2.2.2.2.2.2.1
theorem dX10_worst_16 : decode cX10_worst 16 = .ok (.istore_n 2, 1) := da9_dX10_worst_0.2.2.2.2.2.2.2.2.2.2.1
theorem dX10_worst_17 : decode cX10_worst 17 = .ok (.iconst 0, 1) := da9_dX10_worst_0.2.2.2.2.2.2.2.2.2.2.2.1
theorem dX10_worst_18 : decode cX10_worst 18 = .ok (.istore_n 3, 1) := da9_dX10_worst_0.2.2.2.2.2.2.2.2.2.2.2.2.1
theorem dX10_worst_19 : decode cX10_worst 19 = .ok (.iconst 0, 1) := da9_dX10_worst_0.2.2.2.2.2.2.2.2.2.2.2.2.2.1
theorem dX10_worst_20 : decode cX10_worst 20 = .ok (.istore 4, 2) := da9_dX10_worst_0.2.2.2.2.2.2.2.2.2.2.2.2.2.2.1
theorem dX10_worst_22 : decode cX10_worst 22 = .ok (.iconst 0, 1) := da9_dX10_worst_0.2.2.2.2.2.2.2.2.2.2.2.2.2.2.2
theorem da9_dX10_worst_23 : (decode cX10_worst 23 = .ok (.istore 5, 2)) ∧ (decode cX10_worst 25 = .ok (.iload 5, 2)) ∧ (decode cX10_worst 27 = .ok (.bipush 64, 2)) ∧ (decode cX10_worst 29 = .ok (.aload_n 0, 1)) ∧ (decode cX10_worst 30 = .ok (.getfield 386, 3)) ∧ (decode cX10_worst 33 = .ok (.imul, 1)) ∧ (decode cX10_worst 34 = .ok (.if_icmp .ge 82, 3)) ∧ (decode cX10_worst 37 = .ok (.aload_n 0, 1)) ∧ (decode cX10_worst 38 = .ok (.iload 5, 2)) ∧ (decode cX10_worst 40 = .ok (.invokevirtual 417, 3)) ∧ (decode cX10_worst 43 = .ok (.ifCond .eq 67, 3)) ∧ (decode cX10_worst 46 = .ok (.aload_n 0, 1)) ∧ (decode cX10_worst 47 = .ok (.getfield 91, 3)) ∧ (decode cX10_worst 50 = .ok (.iload 5, 2)) ∧ (decode cX10_worst 52 = .ok (.iaload, 1)) ∧ (decode cX10_worst 53 = .ok (.ldc 188, 2)) := by decide +kernel
theorem dX10_worst_23 : decode cX10_worst 23 = .ok (.istore 5, 2) := da9_dX10_worst_23.1
theorem dX10_worst_25 : decode cX10_worst 25 = .ok (.iload 5, 2) := da9_dX10_worst_23.2.1
theorem dX10_worst_27 : decode cX10_worst 27 = .ok (.bipush 64, 2) := da9_dX10_worst_23.2.2.1
theorem dX10_worst_29 : decode cX10_worst 29 = .ok (.aload_n 0, 1) := da9_dX10_worst_23.2.2.2.1
theorem dX10_worst_30 : decode cX10_worst 30 = .ok (.getfield 386, 3) := da9_dX10_worst_23.2.2.2.2.1
theorem dX10_worst_33 : decode cX10_worst 33 = .ok (.imul, 1) := da9_dX10_worst_23.2.2.2.2.2.1
theorem dX10_worst_34 : decode cX10_worst 34 = .ok (.if_icmp .ge 82, 3) := da9_dX10_worst_23.2.2.2.2.2.2.1
theorem dX10_worst_37 : decode cX10_worst 37 = .ok (.aload_n 0, 1) := da9_dX10_worst_23.2.2.2.2.2.2.2.1
theorem dX10_worst_38 : decode cX10_worst 38 = .ok (.iload 5, 2) := da9_dX10_worst_23.2.2.2.2.2.2.2.2.1
theorem dX10_worst_40 : decode cX10_worst 40 = .ok (.invokevirtual 417, 3) := da9_dX10_worst_23.2.2.2.2.2.2.2.2.2.1
theorem dX10_worst_43 : decode cX10_worst 43 = .ok (.ifCond .eq 67, 3) := da9_dX10_worst_23.2.2.2.2.2.2.2.2.2.2.1
theorem dX10_worst_46 : decode cX10_worst 46 = .ok (.aload_n 0, 1) := da9_dX10_worst_23.2.2.2.2.2.2.2.2.2.2.2.1
theorem dX10_worst_47 : decode cX10_worst 47 = .ok (.getfield 91, 3) := da9_dX10_worst_23.2.2.2.2.2.2.2.2.2.2.2.2.1
theorem dX10_worst_50 : decode cX10_worst 50 = .ok (.iload 5, 2) := da9_dX10_worst_23.2.2.2.2.2.2.2.2.2.2.2.2.2.1
theorem dX10_worst_52 : decode cX10_worst 52 = .ok (.iaload, 1) := da9_dX10_worst_23.2.2.2.2.2.2.2.2.2.2.2.2.2.2.1
theorem dX10_worst_53 : decode cX10_worst 53 = .ok (.ldc 188, 2) := da9_dX10_worst_23.2.2.2.2.2.2.2.2.2.2.2.2.2.2.2
theorem da9_dX10_worst_55 : (decode cX10_worst 55 = .ok (.if_icmp .ne 6, 3)) ∧ (decode cX10_worst 58 = .ok (.goto 52, 3)) ∧ (decode cX10_worst 61 = .ok (.aload_n 0, 1)) ∧ (decode cX10_worst 62 = .ok (.getfield 91, 3)) ∧ (decode cX10_worst 65 = .ok (.iload 5, 2)) ∧ (decode cX10_worst 67 = .ok (.iaload, 1)) ∧ (decode cX10_worst 68 = .ok (.iload_n 2, 1)) ∧ (decode cX10_worst 69 = .ok (.if_icmp .le 7, 3)) ∧ (decode cX10_worst 72 = .ok (.iconst 1, 1)) ∧ (decode cX10_worst 73 = .ok (.goto 21, 3)) ∧ (decode cX10_worst 76 = .ok (.aload_n 0, 1)) ∧ (decode cX10_worst 77 = .ok (.getfield 91, 3)) ∧ (decode cX10_worst 80 = .ok (.iload 5, 2)) ∧ (decode cX10_worst 82 = .ok (.iaload, 1)) ∧ (decode cX10_worst 83 = .ok (.iload_n 2, 1)) ∧ (decode cX10_worst 84 = .ok (.if_icmp .ne 9, 3)) := by decide +kernel
theorem dX10_worst_55 : decode cX10_worst 55 = .ok (.if_icmp .ne 6, 3) := da9_dX10_worst_55.1
theorem dX10_worst_58 : decode cX10_worst 58 = .ok (.goto 52, 3) := da9_dX10_worst_55.2.1
theorem dX10_worst_61 : decode cX10_worst 61 = .ok (.aload_n 0, 1) := da9_dX10_worst_55.2.2.1
theorem dX10_worst_62 : decode cX10_worst 62 = .ok (.getfield 91, 3) := da9_dX10_worst_55.2.2.2.1
theorem dX10_worst_65 : decode cX10_worst 65 = .ok (.iload 5, 2) := da9_dX10_worst_55.2.2.2.2.1
theorem dX10_worst_67 : decode cX10_worst 67 = .ok (.iaload, 1) := da9_dX10_worst_55.2.2.2.2.2.1
theorem dX10_worst_68 : decode cX10_worst 68 = .ok (.iload_n 2, 1) := da9_dX10_worst_55.2.2.2.2.2.2.1
theorem dX10_worst_69 : decode cX10_worst 69 = .ok (.if_icmp .le 7, 3) := da9_dX10_worst_55.2.2.2.2.2.2.2.1
theorem dX10_worst_72 : decode cX10_worst 72 = .ok (.iconst 1, 1) := da9_dX10_worst_55.2.2.2.2.2.2.2.2.1
theorem dX10_worst_73 : decode cX10_worst 73 = .ok (.goto 21, 3) := da9_dX10_worst_55.2.2.2.2.2.2.2.2.2.1
theorem dX10_worst_76 : decode cX10_worst 76 = .ok (.aload_n 0, 1) := da9_dX10_worst_55.2.2.2.2.2.2.2.2.2.2.1
theorem dX10_worst_77 : decode cX10_worst 77 = .ok (.getfield 91, 3) := da9_dX10_worst_55.2.2.2.2.2.2.2.2.2.2.2.1
theorem dX10_worst_80 : decode cX10_worst 80 = .ok (.iload 5, 2) := da9_dX10_worst_55.2.2.2.2.2.2.2.2.2.2.2.2.1
theorem dX10_worst_82 : decode cX10_worst 82 = .ok (.iaload, 1) := da9_dX10_worst_55.2.2.2.2.2.2.2.2.2.2.2.2.2.1
theorem dX10_worst_83 : decode cX10_worst 83 = .ok (.iload_n 2, 1) := da9_dX10_worst_55.2.2.2.2.2.2.2.2.2.2.2.2.2.2.1
theorem dX10_worst_84 : decode cX10_worst 84 = .ok (.if_icmp .ne 9, 3) := da9_dX10_worst_55.2.2.2.2.2.2.2.2.2.2.2.2.2.2.2
theorem da9_dX10_worst_87 : (decode cX10_worst 87 = .ok (.iload_n 3, 1)) ∧ (decode cX10_worst 88 = .ok (.iconst 1, 1)) ∧ (decode cX10_worst 89 = .ok (.iadd, 1)) ∧ (decode cX10_worst 90 = .ok (.goto 4, 3)) ∧ (decode cX10_worst 93 = .ok (.iload_n 3, 1)) ∧ (decode cX10_worst 94 = .ok (.istore_n 3, 1)) ∧ (decode cX10_worst 95 = .ok (.iload_n 2, 1)) ∧ (decode cX10_worst 96 = .ok (.aload_n 0, 1)) ∧ (decode cX10_worst 97 = .ok (.getfield 91, 3)) ∧ (decode cX10_worst 100 = .ok (.iload 5, 2)) ∧ (decode cX10_worst 102 = .ok (.iaload, 1)) ∧ (decode cX10_worst 103 = .ok (.invokestatic 439, 3)) ∧ (decode cX10_worst 106 = .ok (.istore_n 2, 1)) ∧ (decode cX10_worst 107 = .ok (.iinc 4 1, 3)) ∧ (decode cX10_worst 110 = .ok (.iinc 5 1, 3)) ∧ (decode cX10_worst 113 = .ok (.goto (-88), 3)) := by decide +kernel
theorem dX10_worst_87 : decode cX10_worst 87 = .ok (.iload_n 3, 1) := da9_dX10_worst_87.1
theorem dX10_worst_88 : decode cX10_worst 88 = .ok (.iconst 1, 1) := da9_dX10_worst_87.2.1
theorem dX10_worst_89 : decode cX10_worst 89 = .ok (.iadd, 1) := da9_dX10_worst_87.2.2.1
theorem dX10_worst_90 : decode cX10_worst 90 = .ok (.goto 4, 3) := da9_dX10_worst_87.2.2.2.1
theorem dX10_worst_93 : decode cX10_worst 93 = .ok (.iload_n 3, 1) := da9_dX10_worst_87.2.2.2.2.1
theorem dX10_worst_94 : decode cX10_worst 94 = .ok (.istore_n 3, 1) := da9_dX10_worst_87.2.2.2.2.2.1
theorem dX10_worst_95 : decode cX10_worst 95 = .ok (.iload_n 2, 1) := da9_dX10_worst_87.2.2.2.2.2.2.1
theorem dX10_worst_96 : decode cX10_worst 96 = .ok (.aload_n 0, 1) := da9_dX10_worst_87.2.2.2.2.2.2.2.1
theorem dX10_worst_97 : decode cX10_worst 97 = .ok (.getfield 91, 3) := da9_dX10_worst_87.2.2.2.2.2.2.2.2.1
theorem dX10_worst_100 : decode cX10_worst 100 = .ok (.iload 5, 2) := da9_dX10_worst_87.2.2.2.2.2.2.2.2.2.1
theorem dX10_worst_102 : decode cX10_worst 102 = .ok (.iaload, 1) := da9_dX10_worst_87.2.2.2.2.2.2.2.2.2.2.1
theorem dX10_worst_103 : decode cX10_worst 103 = .ok (.invokestatic 439, 3) := da9_dX10_worst_87.2.2.2.2.2.2.2.2.2.2.2.1
theorem dX10_worst_106 : decode cX10_worst 106 = .ok (.istore_n 2, 1) := da9_dX10_worst_87.2.2.2.2.2.2.2.2.2.2.2.2.1
theorem dX10_worst_107 : decode cX10_worst 107 = .ok (.iinc 4 1, 3) := da9_dX10_worst_87.2.2.2.2.2.2.2.2.2.2.2.2.2.1
theorem dX10_worst_110 : decode cX10_worst 110 = .ok (.iinc 5 1, 3) := da9_dX10_worst_87.2.2.2.2.2.2.2.2.2.2.2.2.2.2.1
theorem dX10_worst_113 : decode cX10_worst 113 = .ok (.goto (-88), 3) := da9_dX10_worst_87.2.2.2.2.2.2.2.2.2.2.2.2.2.2.2
theorem da9_dX10_worst_116 : (decode cX10_worst 116 = .ok (.iload_n 1, 1)) ∧ (decode cX10_worst 117 = .ok (.ifCond .ne 7, 3)) ∧ (decode cX10_worst 120 = .ok (.iload_n 2, 1)) ∧ (decode cX10_worst 121 = .ok (.goto 14, 3)) ∧ (decode cX10_worst 124 = .ok (.iload_n 1, 1)) ∧ (decode cX10_worst 125 = .ok (.iconst 1, 1)) ∧ (decode cX10_worst 126 = .ok (.if_icmp .ne 7, 3)) ∧ (decode cX10_worst 129 = .ok (.iload_n 3, 1)) ∧ (decode cX10_worst 130 = .ok (.goto 5, 3)) ∧ (decode cX10_worst 133 = .ok (.iload 4, 2)) ∧ (decode cX10_worst 135 = .ok (.ireturn, 1)) := by decide +kernel
theorem dX10_worst_116 : decode cX10_worst 116 = .ok (.iload_n 1, 1) := da9_dX10_worst_116.1
theorem dX10_worst_117 : decode cX10_worst 117 = .ok (.ifCond .ne 7, 3) := da9_dX10_worst_116.2.1
theorem dX10_worst_120 : decode cX10_worst 120 = .ok (.iload_n 2, 1) := da9_dX10_worst_116.2.2.1
theorem dX10_worst_121 : decode cX10_worst 121 = .ok (.goto 14, 3) := da9_dX10_worst_116.2.2.2.1
theorem dX10_worst_124 : decode cX10_worst 124 = .ok (.iload_n 1, 1) := da9_dX10_worst_116.2.2.2.2.1
theorem dX10_worst_125 : decode cX10_worst 125 = .ok (.iconst 1, 1) := da9_dX10_worst_116.2.2.2.2.2.1
theorem dX10_worst_126 : decode cX10_worst 126 = .ok (.if_icmp .ne 7, 3) := da9_dX10_worst_116.2.2.2.2.2.2.1
theorem dX10_worst_129 : decode cX10_worst 129 = .ok (.iload_n 3, 1) := da9_dX10_worst_116.2.2.2.2.2.2.2.1
theorem dX10_worst_130 : decode cX10_worst 130 = .ok (.goto 5, 3) := da9_dX10_worst_116.2.2.2.2.2.2.2.2.1
theorem dX10_worst_133 : decode cX10_worst 133 = .ok (.iload 4, 2) := da9_dX10_worst_116.2.2.2.2.2.2.2.2.2.1
theorem dX10_worst_135 : decode cX10_worst 135 = .ok (.ireturn, 1) := da9_dX10_worst_116.2.2.2.2.2.2.2.2.2.2
end
section
theorem u9_wsX10_laysDist_X10 : ∀ w ∈ u_ws RX10 TX10 56, w ∈ wsX10_laysDist := fun w h => List.mem_cons_of_mem _ (vW10_wsX100 w h)
theorem f9_wsX10_laysDist_206 : (Cond.fieldLink RX10 94 "TurnedFloorsModel" "rowMany" "[I") ∈ wsX10_laysDist := List.mem_cons_of_mem _ mvW10_336
theorem f9_wsX10_laysDist_207 : (Cond.constant RX10 429 1000000000) ∈ wsX10_laysDist := List.mem_cons_of_mem _ mvW10_338
theorem f9_wsX10_laysDist_208 : (Cond.fieldLink RX10 91 "TurnedFloorsModel" "dist" "[I") ∈ wsX10_laysDist := List.mem_cons_of_mem _ mvW10_330
theorem f9_wsX10_laysDist_209 : (Cond.constant RX10 188 1000000) ∈ wsX10_laysDist := List.mem_cons_of_mem _ mvW10_172
theorem f9_wsX10_laysDist_210 : (Cond.fieldLink RX10 97 "TurnedFloorsModel" "queue" "[I") ∈ wsX10_laysDist := List.mem_cons_of_mem _ mvW10_337
theorem f9_wsX10_laysDist_211 : (Cond.fieldLink RX10 386 "TurnedFloorsModel" "orderMany" "I") ∈ wsX10_laysDist := List.mem_cons_of_mem _ mvW10_335
theorem u9_wsX10_fewest_X10 : ∀ w ∈ u_ws RX10 TX10 56, w ∈ wsX10_fewest := fun w h => List.mem_cons_of_mem _ (vW10_wsX100 w h)
theorem f9_wsX10_fewest_213 : (Cond.fieldLink RX10 91 "TurnedFloorsModel" "dist" "[I") ∈ wsX10_fewest := List.mem_cons_of_mem _ mvW10_330
theorem f9_wsX10_fewest_214 : (Cond.constant RX10 188 1000000) ∈ wsX10_fewest := List.mem_cons_of_mem _ mvW10_172
theorem u9_wsX10_many_X10 : ∀ w ∈ u_ws RX10 TX10 56, w ∈ wsX10_many := fun w h => List.mem_cons_of_mem _ (vW10_wsX100 w h)
theorem f9_wsX10_many_216 : (Cond.fieldLink RX10 94 "TurnedFloorsModel" "rowMany" "[I") ∈ wsX10_many := List.mem_cons_of_mem _ mvW10_336
theorem u9_wsX10_compare_X10 : ∀ w ∈ u_ws RX10 TX10 56, w ∈ wsX10_compare := fun w h => List.mem_cons_of_mem _ (vW10_wsX100 w h)
theorem f9_wsX10_compare_218 : (Cond.fieldLink RX10 28 "TurnedFloorsModel" "kept" "[I") ∈ wsX10_compare := List.mem_cons_of_mem _ mvW10_20
theorem u9_wsX10_worst_X10 : ∀ w ∈ u_ws RX10 TX10 56, w ∈ wsX10_worst := fun w h => List.mem_cons_of_mem _ (vW10_wsX100 w h)
theorem f9_wsX10_worst_220 : (Cond.fieldLink RX10 91 "TurnedFloorsModel" "dist" "[I") ∈ wsX10_worst := List.mem_cons_of_mem _ mvW10_330
theorem f9_wsX10_worst_221 : (Cond.fieldLink RX10 386 "TurnedFloorsModel" "orderMany" "I") ∈ wsX10_worst := List.mem_cons_of_mem _ mvW10_335
theorem f9_wsX10_worst_222 : (Cond.constant RX10 188 1000000) ∈ wsX10_worst := List.mem_cons_of_mem _ mvW10_172
set_option maxHeartbeats 4000000 in
set_option maxRecDepth 100000 in
theorem WX10_laysDist_232 {p : Program} {l : Launch} {e : Env} {s : State} {m : MethodId} {args : Array Value} {below : List Frame} {meth : Method} {c : Code} {D : va_G} {ty : Nat → ClassId} {eo : Nat → Nat} {A : Nat → Prop} {ad : Nat → Nat} {o2 : dS} (C : dc_C p s m args meth c cX10_laysDist none 6 RX10 wsX10_laysDist D ty eo A) {k97 : dS → Int32 → Int32 → Option (dS)} {k112 : dS → Int32 → Int32 → Int32 → Int32 → Option (dS)} (hk97 : ∀ (q : dS) (x1 : Int32) (x2 : Int32) (H : Heap) (locs : List Loc) (ls : Array Slot), k97 q x1 x2 = some o2 → va_P D vwCl (w10 ty ad q) H → va_D A (w10 ty ad q) → va_S A s.heap H locs → lv_has ls 6 [(0, .ref (ad 0)), (1, .int x1), (2, .int x2)] → W p l e ({ frames := 88, cells := 0, slots := 0, locals := 2247 } : Room) s m args below meth c H locs 0 0 (MQ below (va_Qv (fun (u : va_W) => w10 ty ad o2 = u) (kz_B D ty A) A) args s 0 0 A) (F0 m 97 ls [])) (hk112 : ∀ (q : dS) (x1 : Int32) (x2 : Int32) (x3 : Int32) (x4 : Int32) (H : Heap) (locs : List Loc) (ls : Array Slot), k112 q x1 x2 x3 x4 = some o2 → va_P D vwCl (w10 ty ad q) H → va_D A (w10 ty ad q) → va_S A s.heap H locs → lv_has ls 6 [(0, .ref (ad 0)), (1, .int x1), (2, .int x2), (3, .int x3), (4, .int x4)] → W p l e ({ frames := 88, cells := 0, slots := 0, locals := 2247 } : Room) s m args below meth c H locs 0 0 (MQ below (va_Qv (fun (u : va_W) => w10 ty ad o2 = u) (kz_B D ty A) A) args s 0 0 A) (F0 m 112 ls [])) (q : dS) (x1 : Int32) (x2 : Int32) (x3 : Int32) (x4 : Int32) (H : Heap) (locs : List Loc) (ls : Array Slot) (h : zX10_laysDist_232 k97 k112 q x1 x2 x3 x4 = some o2) (hP : va_P D vwCl (w10 ty ad q) H) (hD : va_D A (w10 ty ad q)) (hS : va_S A s.heap H locs) (hl : lv_has ls 6 [(0, .ref (ad 0)), (1, .int x1), (2, .int x2), (3, .int x3), (4, .int x4)]) : W p l e ({ frames := 88, cells := 0, slots := 0, locals := 2247 } : Room) s m args below meth c H locs 0 0 (MQ below (va_Qv (fun (u : va_W) => w10 ty ad o2 = u) (kz_B D ty A) A) args s 0 0 A) (F0 m 232 ls []) := by
  have C0 := C
  obtain ⟨hx, hb, hr, hts, hown, hlocks, hml, hK, hN, hE, hA⟩ := C
  unfold zX10_laysDist_232 at h
  refine lv_iinc (v := x4 + 1) (lv' := [(4, .int (x4 + 1)), (0, .ref (ad 0)), (1, .int x1), (2, .int x2), (3, .int x3)]) hx hb dX10_laysDist_232 hl (k := 4) rfl rfl (by decide) rfl (fun ls hl => ?_)
  refine lv_goto (tgt := 112) hx hb dX10_laysDist_235 (by decide) ?_
  exact hk112 _ _ _ _ _ _ _ _ h hP hD hS (lv_sub hl [1, 2, 3, 4, 0] rfl)
set_option maxHeartbeats 4000000 in
set_option maxRecDepth 100000 in
theorem WX10_laysDist_227 {p : Program} {l : Launch} {e : Env} {s : State} {m : MethodId} {args : Array Value} {below : List Frame} {meth : Method} {c : Code} {D : va_G} {ty : Nat → ClassId} {eo : Nat → Nat} {A : Nat → Prop} {ad : Nat → Nat} {o2 : dS} (C : dc_C p s m args meth c cX10_laysDist none 6 RX10 wsX10_laysDist D ty eo A) {k97 : dS → Int32 → Int32 → Option (dS)} {k112 : dS → Int32 → Int32 → Int32 → Int32 → Option (dS)} (hk97 : ∀ (q : dS) (x1 : Int32) (x2 : Int32) (H : Heap) (locs : List Loc) (ls : Array Slot), k97 q x1 x2 = some o2 → va_P D vwCl (w10 ty ad q) H → va_D A (w10 ty ad q) → va_S A s.heap H locs → lv_has ls 6 [(0, .ref (ad 0)), (1, .int x1), (2, .int x2)] → W p l e ({ frames := 88, cells := 0, slots := 0, locals := 2247 } : Room) s m args below meth c H locs 0 0 (MQ below (va_Qv (fun (u : va_W) => w10 ty ad o2 = u) (kz_B D ty A) A) args s 0 0 A) (F0 m 97 ls [])) (hk112 : ∀ (q : dS) (x1 : Int32) (x2 : Int32) (x3 : Int32) (x4 : Int32) (H : Heap) (locs : List Loc) (ls : Array Slot), k112 q x1 x2 x3 x4 = some o2 → va_P D vwCl (w10 ty ad q) H → va_D A (w10 ty ad q) → va_S A s.heap H locs → lv_has ls 6 [(0, .ref (ad 0)), (1, .int x1), (2, .int x2), (3, .int x3), (4, .int x4)] → W p l e ({ frames := 88, cells := 0, slots := 0, locals := 2247 } : Room) s m args below meth c H locs 0 0 (MQ below (va_Qv (fun (u : va_W) => w10 ty ad o2 = u) (kz_B D ty A) A) args s 0 0 A) (F0 m 112 ls [])) (q : dS) (x1 : Int32) (x2 : Int32) (x3 : Int32) (x4 : Int32) (y0 : Int32) (y1 : Int32) (y2 : Int32) (y3 : Int32) (H : Heap) (locs : List Loc) (ls : Array Slot) (h : zX10_laysDist_227 k97 k112 q x1 x2 x3 x4 y0 y1 y2 y3 = some o2) (hP : va_P D vwCl (w10 ty ad q) H) (hD : va_D A (w10 ty ad q)) (hS : va_S A s.heap H locs) (hl : lv_has ls 6 [(0, .ref (ad 0)), (1, .int x1), (2, .int x2), (3, .int x3), (4, .int x4)]) : W p l e ({ frames := 88, cells := 0, slots := 0, locals := 2247 } : Room) s m args below meth c H locs 0 0 (MQ below (va_Qv (fun (u : va_W) => w10 ty ad o2 = u) (kz_B D ty A) A) args s 0 0 A) (F0 m 227 ls [.int y0, .int y1, .int y2, .int y3, .ref (ad 22)]) := by
  have C0 := C
  obtain ⟨hx, hb, hr, hts, hown, hlocks, hml, hK, hN, hE, hA⟩ := C
  unfold zX10_laysDist_227 at h
  refine lv_iadd hx hb dX10_laysDist_227 ?_
  obtain ⟨r1, h2, h⟩ := dV_some h
  refine dw_ks (va_runS (As := [.int y2, .int (y1 + y0)]) (rest := [.int y3, .ref (ad 22)]) ⟨hx, hb, hml, hown, hts⟩ (qX10_lesser l D ty eo _ y2 (y1 + y0) _ h2) (va_cwS 2 hts gX10_laysDist_X10_lesser rfl rfl rfl hd_X10_lesser ⟨Nat.le_of_ble_eq_true rfl, Nat.le_of_ble_eq_true rfl⟩) (pvS_0 hK hN hE hP hD hS hA) rfl rfl hl.1 rfl (lv_room (Nat.le_of_ble_eq_true rfl)) dX10_laysDist_228 ⟨Nat.le_of_ble_eq_true rfl, Nat.le_of_ble_eq_true rfl⟩) hP hD hS hA (fun _ _ h9 => h9.2.symm) (fun r9 u9 H locs hw hp hd hs => ?_)
  obtain ⟨rfl, -⟩ := hw
  clear hP hD hS
  have hP := hp; have hD := hd; have hS := hs; clear hp hd hs
  obtain ⟨g3, h⟩ := dG_some h
  refine va_iast hx hb hK hP hD hS 22 0 rfl rfl (dg_in g3) dX10_laysDist_231 (fun H locs hp hd hs => ?_)
  obtain ⟨q4, eq4, h⟩ := dL_some h
  refine kz_re (w2 := w10 ty ad q4) hp hd hs (by rw [← eq4]; exact w10_a22 ty ad q (Int32.toNatClampNeg y3) r1) ?_
  clear hp hd hs hP hD hS
  intro hP hD hS
  exact WX10_laysDist_232 C0 hk97 hk112 _ _ _ _ _ _ _ _ h hP hD hS (lv_sub hl [0, 1, 2, 3, 4] rfl)
set_option maxHeartbeats 4000000 in
set_option maxRecDepth 100000 in
theorem WX10_laysDist_183 {p : Program} {l : Launch} {e : Env} {s : State} {m : MethodId} {args : Array Value} {below : List Frame} {meth : Method} {c : Code} {D : va_G} {ty : Nat → ClassId} {eo : Nat → Nat} {A : Nat → Prop} {ad : Nat → Nat} {o2 : dS} (C : dc_C p s m args meth c cX10_laysDist none 6 RX10 wsX10_laysDist D ty eo A) {k97 : dS → Int32 → Int32 → Option (dS)} {k112 : dS → Int32 → Int32 → Int32 → Int32 → Option (dS)} (hk97 : ∀ (q : dS) (x1 : Int32) (x2 : Int32) (H : Heap) (locs : List Loc) (ls : Array Slot), k97 q x1 x2 = some o2 → va_P D vwCl (w10 ty ad q) H → va_D A (w10 ty ad q) → va_S A s.heap H locs → lv_has ls 6 [(0, .ref (ad 0)), (1, .int x1), (2, .int x2)] → W p l e ({ frames := 88, cells := 0, slots := 0, locals := 2247 } : Room) s m args below meth c H locs 0 0 (MQ below (va_Qv (fun (u : va_W) => w10 ty ad o2 = u) (kz_B D ty A) A) args s 0 0 A) (F0 m 97 ls [])) (hk112 : ∀ (q : dS) (x1 : Int32) (x2 : Int32) (x3 : Int32) (x4 : Int32) (H : Heap) (locs : List Loc) (ls : Array Slot), k112 q x1 x2 x3 x4 = some o2 → va_P D vwCl (w10 ty ad q) H → va_D A (w10 ty ad q) → va_S A s.heap H locs → lv_has ls 6 [(0, .ref (ad 0)), (1, .int x1), (2, .int x2), (3, .int x3), (4, .int x4)] → W p l e ({ frames := 88, cells := 0, slots := 0, locals := 2247 } : Room) s m args below meth c H locs 0 0 (MQ below (va_Qv (fun (u : va_W) => w10 ty ad o2 = u) (kz_B D ty A) A) args s 0 0 A) (F0 m 112 ls [])) (q : dS) (x1 : Int32) (x2 : Int32) (x3 : Int32) (x4 : Int32) (x5 : Int32) (H : Heap) (locs : List Loc) (ls : Array Slot) (h : zX10_laysDist_183 k97 k112 q x1 x2 x3 x4 x5 = some o2) (hP : va_P D vwCl (w10 ty ad q) H) (hD : va_D A (w10 ty ad q)) (hS : va_S A s.heap H locs) (hl : lv_has ls 6 [(0, .ref (ad 0)), (1, .int x1), (2, .int x2), (3, .int x3), (4, .int x4), (5, .int x5)]) : W p l e ({ frames := 88, cells := 0, slots := 0, locals := 2247 } : Room) s m args below meth c H locs 0 0 (MQ below (va_Qv (fun (u : va_W) => w10 ty ad o2 = u) (kz_B D ty A) A) args s 0 0 A) (F0 m 183 ls []) := by
  have C0 := C
  obtain ⟨hx, hb, hr, hts, hown, hlocks, hml, hK, hN, hE, hA⟩ := C
  unfold zX10_laysDist_183 at h
  refine lv_aload_n hx hb dX10_laysDist_183 rfl (lv_at hl 0 rfl) ?_
  refine va_get (D := D) (ci := 10) (v := .ref (ad 22)) (C := RX10) (T := TX10) (N := 56) hx hb hts u9_wsX10_laysDist_X10 hown hK hP 0 rfl rfl 41 (by decide) (hts (.fieldLink RX10 94 "TurnedFloorsModel" "rowMany" "[I") f9_wsX10_laysDist_206) (fun _ h9 => h9) rfl dX10_laysDist_184 ?_
  refine lv_iload hx hb dX10_laysDist_187 (lv_at hl 5 rfl) ?_
  refine lv_ldcw (v := 1000000000) hx hb hown (hts (.constant RX10 429 1000000000) f9_wsX10_laysDist_207) dX10_laysDist_189 ?_
  refine lv_aload_n hx hb dX10_laysDist_192 rfl (lv_at hl 0 rfl) ?_
  refine va_get (D := D) (ci := 10) (v := .ref (ad 22)) (C := RX10) (T := TX10) (N := 56) hx hb hts u9_wsX10_laysDist_X10 hown hK hP 0 rfl rfl 41 (by decide) (hts (.fieldLink RX10 94 "TurnedFloorsModel" "rowMany" "[I") f9_wsX10_laysDist_206) (fun _ h9 => h9) rfl dX10_laysDist_193 ?_
  refine lv_iload hx hb dX10_laysDist_196 (lv_at hl 5 rfl) ?_
  obtain ⟨g1, h⟩ := dG_some h
  refine va_iald hx hb hK hP 22 0 rfl rfl (dg_in g1) dX10_laysDist_198 ?_
  obtain ⟨v2, ev2, h⟩ := dL_some h
  refine kz_topi v2 ev2 ?_
  refine lv_aload_n hx hb dX10_laysDist_199 rfl (lv_at hl 0 rfl) ?_
  refine va_get (D := D) (ci := 10) (v := .ref (ad 21)) (C := RX10) (T := TX10) (N := 56) hx hb hts u9_wsX10_laysDist_X10 hown hK hP 0 rfl rfl 40 (by decide) (hts (.fieldLink RX10 91 "TurnedFloorsModel" "dist" "[I") f9_wsX10_laysDist_208) (fun _ h9 => h9) rfl dX10_laysDist_200 ?_
  refine lv_iload hx hb dX10_laysDist_203 (lv_at hl 5 rfl) ?_
  obtain ⟨g3, h⟩ := dG_some h
  refine va_iald hx hb hK hP 21 0 rfl rfl (dg_in g3) dX10_laysDist_205 ?_
  obtain ⟨v4, ev4, h⟩ := dL_some h
  refine kz_topi v4 ev4 ?_
  refine lv_aload_n hx hb dX10_laysDist_206 rfl (lv_at hl 0 rfl) ?_
  refine va_get (D := D) (ci := 10) (v := .ref (ad 21)) (C := RX10) (T := TX10) (N := 56) hx hb hts u9_wsX10_laysDist_X10 hown hK hP 0 rfl rfl 40 (by decide) (hts (.fieldLink RX10 91 "TurnedFloorsModel" "dist" "[I") f9_wsX10_laysDist_208) (fun _ h9 => h9) rfl dX10_laysDist_207 ?_
  refine lv_iload_n hx hb dX10_laysDist_210 rfl (lv_at hl 3 rfl) ?_
  obtain ⟨g5, h⟩ := dG_some h
  refine va_iald hx hb hK hP 21 0 rfl rfl (dg_in g5) dX10_laysDist_211 ?_
  obtain ⟨v6, ev6, h⟩ := dL_some h
  refine kz_topi v6 ev6 ?_
  refine lv_iconst (v := 1) hx hb dX10_laysDist_212 (by decide) ?_
  refine lv_iadd hx hb dX10_laysDist_213 ?_
  refine lv_icmp_ne (tgt := 226) hx hb dX10_laysDist_214 (by decide) (fun c9 => ?_) (fun c9 => ?_)
  · rw [if_neg c9] at h
    refine lv_iconst (v := 0) hx hb dX10_laysDist_226 (by decide) ?_
    exact WX10_laysDist_227 C0 hk97 hk112 _ _ _ _ _ _ _ _ _ _ _ _ h hP hD hS (lv_sub hl [0, 1, 2, 3, 4] rfl)
  · rw [if_pos c9] at h
    refine lv_aload_n hx hb dX10_laysDist_217 rfl (lv_at hl 0 rfl) ?_
    refine va_get (D := D) (ci := 10) (v := .ref (ad 22)) (C := RX10) (T := TX10) (N := 56) hx hb hts u9_wsX10_laysDist_X10 hown hK hP 0 rfl rfl 41 (by decide) (hts (.fieldLink RX10 94 "TurnedFloorsModel" "rowMany" "[I") f9_wsX10_laysDist_206) (fun _ h9 => h9) rfl dX10_laysDist_218 ?_
    refine lv_iload_n hx hb dX10_laysDist_221 rfl (lv_at hl 3 rfl) ?_
    obtain ⟨g7, h⟩ := dG_some h
    refine va_iald hx hb hK hP 22 0 rfl rfl (dg_in g7) dX10_laysDist_222 ?_
    obtain ⟨v8, ev8, h⟩ := dL_some h
    refine kz_topi v8 ev8 ?_
    refine lv_goto (tgt := 227) hx hb dX10_laysDist_223 (by decide) ?_
    exact WX10_laysDist_227 C0 hk97 hk112 _ _ _ _ _ _ _ _ _ _ _ _ h hP hD hS (lv_sub hl [0, 1, 2, 3, 4] rfl)
set_option maxHeartbeats 4000000 in
set_option maxRecDepth 100000 in
theorem WX10_laysDist_112b {p : Program} {l : Launch} {e : Env} {s : State} {m : MethodId} {args : Array Value} {below : List Frame} {meth : Method} {c : Code} {D : va_G} {ty : Nat → ClassId} {eo : Nat → Nat} {A : Nat → Prop} {ad : Nat → Nat} {o2 : dS} (C : dc_C p s m args meth c cX10_laysDist none 6 RX10 wsX10_laysDist D ty eo A) {k97 : dS → Int32 → Int32 → Option (dS)} {k112 : dS → Int32 → Int32 → Int32 → Int32 → Option (dS)} (hk97 : ∀ (q : dS) (x1 : Int32) (x2 : Int32) (H : Heap) (locs : List Loc) (ls : Array Slot), k97 q x1 x2 = some o2 → va_P D vwCl (w10 ty ad q) H → va_D A (w10 ty ad q) → va_S A s.heap H locs → lv_has ls 6 [(0, .ref (ad 0)), (1, .int x1), (2, .int x2)] → W p l e ({ frames := 88, cells := 0, slots := 0, locals := 2247 } : Room) s m args below meth c H locs 0 0 (MQ below (va_Qv (fun (u : va_W) => w10 ty ad o2 = u) (kz_B D ty A) A) args s 0 0 A) (F0 m 97 ls [])) (hk112 : ∀ (q : dS) (x1 : Int32) (x2 : Int32) (x3 : Int32) (x4 : Int32) (H : Heap) (locs : List Loc) (ls : Array Slot), k112 q x1 x2 x3 x4 = some o2 → va_P D vwCl (w10 ty ad q) H → va_D A (w10 ty ad q) → va_S A s.heap H locs → lv_has ls 6 [(0, .ref (ad 0)), (1, .int x1), (2, .int x2), (3, .int x3), (4, .int x4)] → W p l e ({ frames := 88, cells := 0, slots := 0, locals := 2247 } : Room) s m args below meth c H locs 0 0 (MQ below (va_Qv (fun (u : va_W) => w10 ty ad o2 = u) (kz_B D ty A) A) args s 0 0 A) (F0 m 112 ls [])) (q : dS) (x1 : Int32) (x2 : Int32) (x3 : Int32) (x4 : Int32) (H : Heap) (locs : List Loc) (ls : Array Slot) (h : zX10_laysDist_112b k97 k112 q x1 x2 x3 x4 = some o2) (hP : va_P D vwCl (w10 ty ad q) H) (hD : va_D A (w10 ty ad q)) (hS : va_S A s.heap H locs) (hl : lv_has ls 6 [(0, .ref (ad 0)), (1, .int x1), (2, .int x2), (3, .int x3), (4, .int x4)]) : W p l e ({ frames := 88, cells := 0, slots := 0, locals := 2247 } : Room) s m args below meth c H locs 0 0 (MQ below (va_Qv (fun (u : va_W) => w10 ty ad o2 = u) (kz_B D ty A) A) args s 0 0 A) (F0 m 112 ls []) := by
  have C0 := C
  obtain ⟨hx, hb, hr, hts, hown, hlocks, hml, hK, hN, hE, hA⟩ := C
  unfold zX10_laysDist_112b at h
  refine lv_iload hx hb dX10_laysDist_112 (lv_at hl 4 rfl) ?_
  refine lv_aload_n hx hb dX10_laysDist_114 rfl (lv_at hl 0 rfl) ?_
  obtain ⟨r1, q3, h2, h⟩ := dB_some h
  refine dw_ki (va_runV (As := []) (rest := [.int x4]) ⟨hx, hb, hml, hown, hts⟩ (qX10_size l D ty eo _ ad q  r1 q3 h2) (cwV 0 hts gX10_laysDist_X10_size rfl rfl rfl hd_X10_size_v ⟨Nat.le_of_ble_eq_true rfl, Nat.le_of_ble_eq_true rfl⟩) (pv10_10_0 hK hN hE hP hD hS hA) rfl rfl hl.1 rfl (lv_room (Nat.le_of_ble_eq_true rfl)) dX10_laysDist_115 ⟨Nat.le_of_ble_eq_true rfl, Nat.le_of_ble_eq_true rfl⟩) hD hS hA (fun r9 u9 H locs hw hp hd hs => ?_)
  clear hP hD hS
  obtain ⟨rfl, rfl⟩ := hw
  have hP := hp; have hD := hd; have hS := hs; clear hp hd hs
  refine lv_icmp_gt (tgt := 238) hx hb dX10_laysDist_118 (by decide) (fun c9 => ?_) (fun c9 => ?_)
  · rw [if_pos c9] at h
    refine lv_iinc (v := x2 + 1) (lv' := [(2, .int (x2 + 1)), (0, .ref (ad 0)), (1, .int x1), (3, .int x3), (4, .int x4)]) hx hb dX10_laysDist_238 hl (k := 2) rfl rfl (by decide) rfl (fun ls hl => ?_)
    refine lv_goto (tgt := 97) hx hb dX10_laysDist_241 (by decide) ?_
    exact hk97 _ _ _ _ _ _ h hP hD hS (lv_sub hl [1, 2, 0] rfl)
  · rw [if_neg c9] at h
    refine lv_aload_n hx hb dX10_laysDist_121 rfl (lv_at hl 0 rfl) ?_
    refine lv_iload_n hx hb dX10_laysDist_122 rfl (lv_at hl 3 rfl) ?_
    refine lv_iload hx hb dX10_laysDist_123 (lv_at hl 4 rfl) ?_
    obtain ⟨r4, q6, h5, h⟩ := dB_some h
    refine dw_ki (va_runV (As := [.int x3, .int x4]) (rest := []) ⟨hx, hb, hml, hown, hts⟩ (qX10_behind l D ty eo _ ad q3 x3 x4 r4 q6 h5) (cwV 2 hts gX10_laysDist_X10_behind rfl rfl rfl hd_X10_behind_v ⟨Nat.le_of_ble_eq_true rfl, Nat.le_of_ble_eq_true rfl⟩) (pv10_10_0 hK hN hE hP hD hS hA) rfl rfl hl.1 rfl (lv_room (Nat.le_of_ble_eq_true rfl)) dX10_laysDist_125 ⟨Nat.le_of_ble_eq_true rfl, Nat.le_of_ble_eq_true rfl⟩) hD hS hA (fun r9 u9 H locs hw hp hd hs => ?_)
    clear hP hD hS
    obtain ⟨rfl, rfl⟩ := hw
    have hP := hp; have hD := hd; have hS := hs; clear hp hd hs
    refine lv_istore (lv' := [(5, .int r4), (0, .ref (ad 0)), (1, .int x1), (2, .int x2), (3, .int x3), (4, .int x4)]) hx hb dX10_laysDist_128 hl (by decide) rfl (fun ls hl => ?_)
    refine lv_aload_n hx hb dX10_laysDist_130 rfl (lv_at hl 1 rfl) ?_
    refine lv_iload hx hb dX10_laysDist_131 (lv_at hl 0 rfl) ?_
    refine lv_iload hx hb dX10_laysDist_133 (lv_at hl 5 rfl) ?_
    obtain ⟨r7, q9, h8, h⟩ := dB_some h
    refine dw_ki (va_runV (As := [.int r4, .int x4]) (rest := []) ⟨hx, hb, hml, hown, hts⟩ (qX10_priceOf l D ty eo _ ad q6 r4 x4 r7 q9 h8) (cwV 2 hts gX10_laysDist_X10_priceOf rfl rfl rfl hd_X10_priceOf_v ⟨Nat.le_of_ble_eq_true rfl, Nat.le_of_ble_eq_true rfl⟩) (pv10_10_0 hK hN hE hP hD hS hA) rfl rfl hl.1 rfl (lv_room (Nat.le_of_ble_eq_true rfl)) dX10_laysDist_135 ⟨Nat.le_of_ble_eq_true rfl, Nat.le_of_ble_eq_true rfl⟩) hD hS hA (fun r9 u9 H locs hw hp hd hs => ?_)
    clear hP hD hS
    obtain ⟨rfl, rfl⟩ := hw
    have hP := hp; have hD := hd; have hS := hs; clear hp hd hs
    refine lv_iconst (v := (-1)) hx hb dX10_laysDist_138 (by decide) ?_
    refine lv_icmp_ne (tgt := 145) hx hb dX10_laysDist_139 (by decide) (fun c9 => ?_) (fun c9 => ?_)
    · rw [if_neg c9] at h
      refine lv_aload_n hx hb dX10_laysDist_145 rfl (lv_at hl 1 rfl) ?_
      refine va_get (D := D) (ci := 10) (v := .ref (ad 21)) (C := RX10) (T := TX10) (N := 56) hx hb hts u9_wsX10_laysDist_X10 hown hK hP 0 rfl rfl 40 (by decide) (hts (.fieldLink RX10 91 "TurnedFloorsModel" "dist" "[I") f9_wsX10_laysDist_208) (fun _ h9 => h9) rfl dX10_laysDist_146 ?_
      refine lv_iload hx hb dX10_laysDist_149 (lv_at hl 0 rfl) ?_
      obtain ⟨g10, h⟩ := dG_some h
      refine va_iald hx hb hK hP 21 0 rfl rfl (dg_in g10) dX10_laysDist_151 ?_
      obtain ⟨v11, ev11, h⟩ := dL_some h
      refine kz_topi v11 ev11 ?_
      refine lv_ldc (v := 1000000) hx hb hown (hts (.constant RX10 188 1000000) f9_wsX10_laysDist_209) dX10_laysDist_152 ?_
      refine lv_icmp_ne (tgt := 183) hx hb dX10_laysDist_154 (by decide) (fun c9 => ?_) (fun c9 => ?_)
      · rw [if_neg c9] at h
        exact WX10_laysDist_183 C0 hk97 hk112 _ _ _ _ _ _ _ _ _ h hP hD hS (lv_sub hl [1, 2, 3, 4, 5, 0] rfl)
      · rw [if_pos c9] at h
        refine lv_aload_n hx hb dX10_laysDist_157 rfl (lv_at hl 1 rfl) ?_
        refine va_get (D := D) (ci := 10) (v := .ref (ad 21)) (C := RX10) (T := TX10) (N := 56) hx hb hts u9_wsX10_laysDist_X10 hown hK hP 0 rfl rfl 40 (by decide) (hts (.fieldLink RX10 91 "TurnedFloorsModel" "dist" "[I") f9_wsX10_laysDist_208) (fun _ h9 => h9) rfl dX10_laysDist_158 ?_
        refine lv_iload hx hb dX10_laysDist_161 (lv_at hl 0 rfl) ?_
        refine lv_aload_n hx hb dX10_laysDist_163 rfl (lv_at hl 1 rfl) ?_
        refine va_get (D := D) (ci := 10) (v := .ref (ad 21)) (C := RX10) (T := TX10) (N := 56) hx hb hts u9_wsX10_laysDist_X10 hown hK hP 0 rfl rfl 40 (by decide) (hts (.fieldLink RX10 91 "TurnedFloorsModel" "dist" "[I") f9_wsX10_laysDist_208) (fun _ h9 => h9) rfl dX10_laysDist_164 ?_
        refine lv_iload_n hx hb dX10_laysDist_167 rfl (lv_at hl 4 rfl) ?_
        obtain ⟨g12, h⟩ := dG_some h
        refine va_iald hx hb hK hP 21 0 rfl rfl (dg_in g12) dX10_laysDist_168 ?_
        obtain ⟨v13, ev13, h⟩ := dL_some h
        refine kz_topi v13 ev13 ?_
        refine lv_iconst (v := 1) hx hb dX10_laysDist_169 (by decide) ?_
        refine lv_iadd hx hb dX10_laysDist_170 ?_
        obtain ⟨g14, h⟩ := dG_some h
        refine va_iast hx hb hK hP hD hS 21 0 rfl rfl (dg_in g14) dX10_laysDist_171 (fun H locs hp hd hs => ?_)
        obtain ⟨q15, eq15, h⟩ := dL_some h
        refine kz_re (w2 := w10 ty ad q15) hp hd hs (by rw [← eq15]; exact w10_a21 ty ad q9 (Int32.toNatClampNeg r4) (v13 + 1 : Int32)) ?_
        clear hp hd hs hP hD hS
        intro hP hD hS
        refine lv_aload_n hx hb dX10_laysDist_172 rfl (lv_at hl 1 rfl) ?_
        refine va_get (D := D) (ci := 10) (v := .ref (ad 23)) (C := RX10) (T := TX10) (N := 56) hx hb hts u9_wsX10_laysDist_X10 hown hK hP 0 rfl rfl 42 (by decide) (hts (.fieldLink RX10 97 "TurnedFloorsModel" "queue" "[I") f9_wsX10_laysDist_210) (fun _ h9 => h9) rfl dX10_laysDist_173 ?_
        refine lv_iload_n hx hb dX10_laysDist_176 rfl (lv_at hl 2 rfl) ?_
        refine lv_iload hx hb dX10_laysDist_177 (lv_at hl 0 rfl) ?_
        obtain ⟨g16, h⟩ := dG_some h
        refine va_iast hx hb hK hP hD hS 23 0 rfl rfl (dg_in g16) dX10_laysDist_179 (fun H locs hp hd hs => ?_)
        obtain ⟨q17, eq17, h⟩ := dL_some h
        refine kz_re (w2 := w10 ty ad q17) hp hd hs (by rw [← eq17]; exact w10_a23 ty ad q15 (Int32.toNatClampNeg x1) r4) ?_
        clear hp hd hs hP hD hS
        intro hP hD hS
        refine lv_iinc (v := x1 + 1) (lv' := [(1, .int (x1 + 1)), (5, .int r4), (0, .ref (ad 0)), (2, .int x2), (3, .int x3), (4, .int x4)]) hx hb dX10_laysDist_180 hl (k := 2) rfl rfl (by decide) rfl (fun ls hl => ?_)
        exact WX10_laysDist_183 C0 hk97 hk112 _ _ _ _ _ _ _ _ _ h hP hD hS (lv_sub hl [2, 0, 3, 4, 5, 1] rfl)
    · rw [if_pos c9] at h
      refine lv_goto (tgt := 232) hx hb dX10_laysDist_142 (by decide) ?_
      exact WX10_laysDist_232 C0 hk97 hk112 _ _ _ _ _ _ _ _ h hP hD hS (lv_sub hl [1, 2, 3, 4, 5] rfl)
set_option maxHeartbeats 4000000 in
set_option maxRecDepth 100000 in
theorem WX10_laysDist_112 {p : Program} {l : Launch} {e : Env} {s : State} {m : MethodId} {args : Array Value} {below : List Frame} {meth : Method} {c : Code} {D : va_G} {ty : Nat → ClassId} {eo : Nat → Nat} {A : Nat → Prop} {ad : Nat → Nat} {o2 : dS} (C : dc_C p s m args meth c cX10_laysDist none 6 RX10 wsX10_laysDist D ty eo A) {k97 : dS → Int32 → Int32 → Option (dS)} (hk97 : ∀ (q : dS) (x1 : Int32) (x2 : Int32) (H : Heap) (locs : List Loc) (ls : Array Slot), k97 q x1 x2 = some o2 → va_P D vwCl (w10 ty ad q) H → va_D A (w10 ty ad q) → va_S A s.heap H locs → lv_has ls 6 [(0, .ref (ad 0)), (1, .int x1), (2, .int x2)] → W p l e ({ frames := 88, cells := 0, slots := 0, locals := 2247 } : Room) s m args below meth c H locs 0 0 (MQ below (va_Qv (fun (u : va_W) => w10 ty ad o2 = u) (kz_B D ty A) A) args s 0 0 A) (F0 m 97 ls [])) (n : Nat) (q : dS) (x1 : Int32) (x2 : Int32) (x3 : Int32) (x4 : Int32) (H : Heap) (locs : List Loc) (ls : Array Slot) (h : zX10_laysDist_112 k97 n q x1 x2 x3 x4 = some o2) (hP : va_P D vwCl (w10 ty ad q) H) (hD : va_D A (w10 ty ad q)) (hS : va_S A s.heap H locs) (hl : lv_has ls 6 [(0, .ref (ad 0)), (1, .int x1), (2, .int x2), (3, .int x3), (4, .int x4)]) : W p l e ({ frames := 88, cells := 0, slots := 0, locals := 2247 } : Room) s m args below meth c H locs 0 0 (MQ below (va_Qv (fun (u : va_W) => w10 ty ad o2 = u) (kz_B D ty A) A) args s 0 0 A) (F0 m 112 ls []) := by
  exact dFix_W (F := fun k (a : dS × Int32 × Int32 × Int32 × Int32) => zX10_laysDist_112b k97 (fun q x1 x2 x3 x4 => k (q, x1, x2, x3, x4)) a.1 a.2.1 a.2.2.1 a.2.2.2.1 a.2.2.2.2) (o := o2) (P := fun (a : dS × Int32 × Int32 × Int32 × Int32) H locs ls => va_P D vwCl (w10 ty ad a.1) H ∧ va_D A (w10 ty ad a.1) ∧ va_S A s.heap H locs ∧ lv_has ls 6 [(0, .ref (ad 0)), (1, .int a.2.1), (2, .int a.2.2.1), (3, .int a.2.2.2.1), (4, .int a.2.2.2.2)]) (G := fun H locs ls => W p l e ({ frames := 88, cells := 0, slots := 0, locals := 2247 } : Room) s m args below meth c H locs 0 0 (MQ below (va_Qv (fun (u : va_W) => w10 ty ad o2 = u) (kz_B D ty A) A) args s 0 0 A) (F0 m 112 ls []))
    (fun k hk a H locs ls h hp => WX10_laysDist_112b C hk97 (fun q x1 x2 x3 x4 H locs ls h h1 h2 h3 h4 => hk (q, x1, x2, x3, x4) H locs ls h ⟨h1, h2, h3, h4⟩) a.1 a.2.1 a.2.2.1 a.2.2.2.1 a.2.2.2.2 H locs ls h hp.1 hp.2.1 hp.2.2.1 hp.2.2.2) n (q, x1, x2, x3, x4) H locs ls h ⟨hP, hD, hS, hl⟩
set_option maxHeartbeats 4000000 in
set_option maxRecDepth 100000 in
theorem WX10_laysDist_97b {p : Program} {l : Launch} {e : Env} {s : State} {m : MethodId} {args : Array Value} {below : List Frame} {meth : Method} {c : Code} {D : va_G} {ty : Nat → ClassId} {eo : Nat → Nat} {A : Nat → Prop} {ad : Nat → Nat} {o2 : dS} (C : dc_C p s m args meth c cX10_laysDist none 6 RX10 wsX10_laysDist D ty eo A) {k97 : dS → Int32 → Int32 → Option (dS)} (hk97 : ∀ (q : dS) (x1 : Int32) (x2 : Int32) (H : Heap) (locs : List Loc) (ls : Array Slot), k97 q x1 x2 = some o2 → va_P D vwCl (w10 ty ad q) H → va_D A (w10 ty ad q) → va_S A s.heap H locs → lv_has ls 6 [(0, .ref (ad 0)), (1, .int x1), (2, .int x2)] → W p l e ({ frames := 88, cells := 0, slots := 0, locals := 2247 } : Room) s m args below meth c H locs 0 0 (MQ below (va_Qv (fun (u : va_W) => w10 ty ad o2 = u) (kz_B D ty A) A) args s 0 0 A) (F0 m 97 ls [])) (q : dS) (x1 : Int32) (x2 : Int32) (H : Heap) (locs : List Loc) (ls : Array Slot) (h : zX10_laysDist_97b k97 q x1 x2 = some o2) (hP : va_P D vwCl (w10 ty ad q) H) (hD : va_D A (w10 ty ad q)) (hS : va_S A s.heap H locs) (hl : lv_has ls 6 [(0, .ref (ad 0)), (1, .int x1), (2, .int x2)]) : W p l e ({ frames := 88, cells := 0, slots := 0, locals := 2247 } : Room) s m args below meth c H locs 0 0 (MQ below (va_Qv (fun (u : va_W) => w10 ty ad o2 = u) (kz_B D ty A) A) args s 0 0 A) (F0 m 97 ls []) := by
  have C0 := C
  obtain ⟨hx, hb, hr, hts, hown, hlocks, hml, hK, hN, hE, hA⟩ := C
  unfold zX10_laysDist_97b at h
  refine lv_iload_n hx hb dX10_laysDist_97 rfl (lv_at hl 2 rfl) ?_
  refine lv_iload_n hx hb dX10_laysDist_98 rfl (lv_at hl 1 rfl) ?_
  refine lv_icmp_ge (tgt := 244) hx hb dX10_laysDist_99 (by decide) (fun c9 => ?_) (fun c9 => ?_)
  · rw [if_pos c9] at h
    cases h
    exact kz_vret hx hb hr hlocks hP hK hD hS dX10_laysDist_244 rfl
  · rw [if_neg c9] at h
    refine lv_aload_n hx hb dX10_laysDist_102 rfl (lv_at hl 0 rfl) ?_
    refine va_get (D := D) (ci := 10) (v := .ref (ad 23)) (C := RX10) (T := TX10) (N := 56) hx hb hts u9_wsX10_laysDist_X10 hown hK hP 0 rfl rfl 42 (by decide) (hts (.fieldLink RX10 97 "TurnedFloorsModel" "queue" "[I") f9_wsX10_laysDist_210) (fun _ h9 => h9) rfl dX10_laysDist_103 ?_
    refine lv_iload_n hx hb dX10_laysDist_106 rfl (lv_at hl 2 rfl) ?_
    obtain ⟨g1, h⟩ := dG_some h
    refine va_iald hx hb hK hP 23 0 rfl rfl (dg_in g1) dX10_laysDist_107 ?_
    obtain ⟨v2, ev2, h⟩ := dL_some h
    refine kz_topi v2 ev2 ?_
    refine lv_istore_n (lv' := [(3, .int v2), (0, .ref (ad 0)), (1, .int x1), (2, .int x2)]) hx hb dX10_laysDist_108 rfl hl (by decide) rfl (fun ls hl => ?_)
    refine lv_iconst (v := 1) hx hb dX10_laysDist_109 (by decide) ?_
    refine lv_istore (lv' := [(4, .int 1), (3, .int v2), (0, .ref (ad 0)), (1, .int x1), (2, .int x2)]) hx hb dX10_laysDist_110 hl (by decide) rfl (fun ls hl => ?_)
    exact WX10_laysDist_112 C0 hk97 _ _ _ _ _ _ _ _ _ h hP hD hS (lv_sub hl [2, 3, 4, 1, 0] rfl)
set_option maxHeartbeats 4000000 in
set_option maxRecDepth 100000 in
theorem WX10_laysDist_97 {p : Program} {l : Launch} {e : Env} {s : State} {m : MethodId} {args : Array Value} {below : List Frame} {meth : Method} {c : Code} {D : va_G} {ty : Nat → ClassId} {eo : Nat → Nat} {A : Nat → Prop} {ad : Nat → Nat} {o2 : dS} (C : dc_C p s m args meth c cX10_laysDist none 6 RX10 wsX10_laysDist D ty eo A)   (n : Nat) (q : dS) (x1 : Int32) (x2 : Int32) (H : Heap) (locs : List Loc) (ls : Array Slot) (h : zX10_laysDist_97  n q x1 x2 = some o2) (hP : va_P D vwCl (w10 ty ad q) H) (hD : va_D A (w10 ty ad q)) (hS : va_S A s.heap H locs) (hl : lv_has ls 6 [(0, .ref (ad 0)), (1, .int x1), (2, .int x2)]) : W p l e ({ frames := 88, cells := 0, slots := 0, locals := 2247 } : Room) s m args below meth c H locs 0 0 (MQ below (va_Qv (fun (u : va_W) => w10 ty ad o2 = u) (kz_B D ty A) A) args s 0 0 A) (F0 m 97 ls []) := by
  exact dFix_W (F := fun k (a : dS × Int32 × Int32) => zX10_laysDist_97b  (fun q x1 x2 => k (q, x1, x2)) a.1 a.2.1 a.2.2) (o := o2) (P := fun (a : dS × Int32 × Int32) H locs ls => va_P D vwCl (w10 ty ad a.1) H ∧ va_D A (w10 ty ad a.1) ∧ va_S A s.heap H locs ∧ lv_has ls 6 [(0, .ref (ad 0)), (1, .int a.2.1), (2, .int a.2.2)]) (G := fun H locs ls => W p l e ({ frames := 88, cells := 0, slots := 0, locals := 2247 } : Room) s m args below meth c H locs 0 0 (MQ below (va_Qv (fun (u : va_W) => w10 ty ad o2 = u) (kz_B D ty A) A) args s 0 0 A) (F0 m 97 ls []))
    (fun k hk a H locs ls h hp => WX10_laysDist_97b C  (fun q x1 x2 H locs ls h h1 h2 h3 h4 => hk (q, x1, x2) H locs ls h ⟨h1, h2, h3, h4⟩) a.1 a.2.1 a.2.2 H locs ls h hp.1 hp.2.1 hp.2.2.1 hp.2.2.2) n (q, x1, x2) H locs ls h ⟨hP, hD, hS, hl⟩
set_option maxHeartbeats 4000000 in
set_option maxRecDepth 100000 in
theorem WX10_laysDist_89 {p : Program} {l : Launch} {e : Env} {s : State} {m : MethodId} {args : Array Value} {below : List Frame} {meth : Method} {c : Code} {D : va_G} {ty : Nat → ClassId} {eo : Nat → Nat} {A : Nat → Prop} {ad : Nat → Nat} {o2 : dS} (C : dc_C p s m args meth c cX10_laysDist none 6 RX10 wsX10_laysDist D ty eo A) {k8 : dS → Int32 → Int32 → Option (dS)} (hk8 : ∀ (q : dS) (x1 : Int32) (x2 : Int32) (H : Heap) (locs : List Loc) (ls : Array Slot), k8 q x1 x2 = some o2 → va_P D vwCl (w10 ty ad q) H → va_D A (w10 ty ad q) → va_S A s.heap H locs → lv_has ls 6 [(0, .ref (ad 0)), (1, .int x1), (2, .int x2)] → W p l e ({ frames := 88, cells := 0, slots := 0, locals := 2247 } : Room) s m args below meth c H locs 0 0 (MQ below (va_Qv (fun (u : va_W) => w10 ty ad o2 = u) (kz_B D ty A) A) args s 0 0 A) (F0 m 8 ls [])) (q : dS) (x1 : Int32) (x2 : Int32) (H : Heap) (locs : List Loc) (ls : Array Slot) (h : zX10_laysDist_89 k8 q x1 x2 = some o2) (hP : va_P D vwCl (w10 ty ad q) H) (hD : va_D A (w10 ty ad q)) (hS : va_S A s.heap H locs) (hl : lv_has ls 6 [(0, .ref (ad 0)), (1, .int x1), (2, .int x2)]) : W p l e ({ frames := 88, cells := 0, slots := 0, locals := 2247 } : Room) s m args below meth c H locs 0 0 (MQ below (va_Qv (fun (u : va_W) => w10 ty ad o2 = u) (kz_B D ty A) A) args s 0 0 A) (F0 m 89 ls []) := by
  have C0 := C
  obtain ⟨hx, hb, hr, hts, hown, hlocks, hml, hK, hN, hE, hA⟩ := C
  unfold zX10_laysDist_89 at h
  refine lv_iinc (v := x2 + 1) (lv' := [(2, .int (x2 + 1)), (0, .ref (ad 0)), (1, .int x1)]) hx hb dX10_laysDist_89 hl (k := 2) rfl rfl (by decide) rfl (fun ls hl => ?_)
  refine lv_goto (tgt := 8) hx hb dX10_laysDist_92 (by decide) ?_
  exact hk8 _ _ _ _ _ _ h hP hD hS (lv_sub hl [1, 2, 0] rfl)
set_option maxHeartbeats 4000000 in
set_option maxRecDepth 100000 in
theorem WX10_laysDist_71 {p : Program} {l : Launch} {e : Env} {s : State} {m : MethodId} {args : Array Value} {below : List Frame} {meth : Method} {c : Code} {D : va_G} {ty : Nat → ClassId} {eo : Nat → Nat} {A : Nat → Prop} {ad : Nat → Nat} {o2 : dS} (C : dc_C p s m args meth c cX10_laysDist none 6 RX10 wsX10_laysDist D ty eo A) {k8 : dS → Int32 → Int32 → Option (dS)} (hk8 : ∀ (q : dS) (x1 : Int32) (x2 : Int32) (H : Heap) (locs : List Loc) (ls : Array Slot), k8 q x1 x2 = some o2 → va_P D vwCl (w10 ty ad q) H → va_D A (w10 ty ad q) → va_S A s.heap H locs → lv_has ls 6 [(0, .ref (ad 0)), (1, .int x1), (2, .int x2)] → W p l e ({ frames := 88, cells := 0, slots := 0, locals := 2247 } : Room) s m args below meth c H locs 0 0 (MQ below (va_Qv (fun (u : va_W) => w10 ty ad o2 = u) (kz_B D ty A) A) args s 0 0 A) (F0 m 8 ls [])) (q : dS) (x1 : Int32) (x2 : Int32) (x3 : Int32) (y0 : Int32) (y1 : Int32) (H : Heap) (locs : List Loc) (ls : Array Slot) (h : zX10_laysDist_71 k8 q x1 x2 x3 y0 y1 = some o2) (hP : va_P D vwCl (w10 ty ad q) H) (hD : va_D A (w10 ty ad q)) (hS : va_S A s.heap H locs) (hl : lv_has ls 6 [(0, .ref (ad 0)), (1, .int x1), (2, .int x2), (3, .int x3)]) : W p l e ({ frames := 88, cells := 0, slots := 0, locals := 2247 } : Room) s m args below meth c H locs 0 0 (MQ below (va_Qv (fun (u : va_W) => w10 ty ad o2 = u) (kz_B D ty A) A) args s 0 0 A) (F0 m 71 ls [.int y0, .int y1, .ref (ad 22)]) := by
  have C0 := C
  obtain ⟨hx, hb, hr, hts, hown, hlocks, hml, hK, hN, hE, hA⟩ := C
  unfold zX10_laysDist_71 at h
  obtain ⟨g1, h⟩ := dG_some h
  refine va_iast hx hb hK hP hD hS 22 0 rfl rfl (dg_in g1) dX10_laysDist_71 (fun H locs hp hd hs => ?_)
  obtain ⟨q2, eq2, h⟩ := dL_some h
  refine kz_re (w2 := w10 ty ad q2) hp hd hs (by rw [← eq2]; exact w10_a22 ty ad q (Int32.toNatClampNeg y1) y0) ?_
  clear hp hd hs hP hD hS
  intro hP hD hS
  refine lv_iload_n hx hb dX10_laysDist_72 rfl (lv_at hl 3 rfl) ?_
  refine lv_if_ne (tgt := 79) hx hb dX10_laysDist_73 (by decide) (fun c9 => ?_) (fun c9 => ?_)
  · rw [if_neg c9] at h
    refine lv_aload_n hx hb dX10_laysDist_79 rfl (lv_at hl 0 rfl) ?_
    refine va_get (D := D) (ci := 10) (v := .ref (ad 23)) (C := RX10) (T := TX10) (N := 56) hx hb hts u9_wsX10_laysDist_X10 hown hK hP 0 rfl rfl 42 (by decide) (hts (.fieldLink RX10 97 "TurnedFloorsModel" "queue" "[I") f9_wsX10_laysDist_210) (fun _ h9 => h9) rfl dX10_laysDist_80 ?_
    refine lv_iload_n hx hb dX10_laysDist_83 rfl (lv_at hl 1 rfl) ?_
    refine lv_iload_n hx hb dX10_laysDist_84 rfl (lv_at hl 2 rfl) ?_
    obtain ⟨g3, h⟩ := dG_some h
    refine va_iast hx hb hK hP hD hS 23 0 rfl rfl (dg_in g3) dX10_laysDist_85 (fun H locs hp hd hs => ?_)
    obtain ⟨q4, eq4, h⟩ := dL_some h
    refine kz_re (w2 := w10 ty ad q4) hp hd hs (by rw [← eq4]; exact w10_a23 ty ad q2 (Int32.toNatClampNeg x1) x2) ?_
    clear hp hd hs hP hD hS
    intro hP hD hS
    refine lv_iinc (v := x1 + 1) (lv' := [(1, .int (x1 + 1)), (0, .ref (ad 0)), (2, .int x2), (3, .int x3)]) hx hb dX10_laysDist_86 hl (k := 1) rfl rfl (by decide) rfl (fun ls hl => ?_)
    exact WX10_laysDist_89 C0 hk8 _ _ _ _ _ _ h hP hD hS (lv_sub hl [1, 0, 2] rfl)
  · rw [if_pos c9] at h
    refine lv_goto (tgt := 89) hx hb dX10_laysDist_76 (by decide) ?_
    exact WX10_laysDist_89 C0 hk8 _ _ _ _ _ _ h hP hD hS (lv_sub hl [0, 1, 2] rfl)
set_option maxHeartbeats 4000000 in
set_option maxRecDepth 100000 in
theorem WX10_laysDist_56 {p : Program} {l : Launch} {e : Env} {s : State} {m : MethodId} {args : Array Value} {below : List Frame} {meth : Method} {c : Code} {D : va_G} {ty : Nat → ClassId} {eo : Nat → Nat} {A : Nat → Prop} {ad : Nat → Nat} {o2 : dS} (C : dc_C p s m args meth c cX10_laysDist none 6 RX10 wsX10_laysDist D ty eo A) {k8 : dS → Int32 → Int32 → Option (dS)} (hk8 : ∀ (q : dS) (x1 : Int32) (x2 : Int32) (H : Heap) (locs : List Loc) (ls : Array Slot), k8 q x1 x2 = some o2 → va_P D vwCl (w10 ty ad q) H → va_D A (w10 ty ad q) → va_S A s.heap H locs → lv_has ls 6 [(0, .ref (ad 0)), (1, .int x1), (2, .int x2)] → W p l e ({ frames := 88, cells := 0, slots := 0, locals := 2247 } : Room) s m args below meth c H locs 0 0 (MQ below (va_Qv (fun (u : va_W) => w10 ty ad o2 = u) (kz_B D ty A) A) args s 0 0 A) (F0 m 8 ls [])) (q : dS) (x1 : Int32) (x2 : Int32) (x3 : Int32) (y0 : Int32) (y1 : Int32) (H : Heap) (locs : List Loc) (ls : Array Slot) (h : zX10_laysDist_56 k8 q x1 x2 x3 y0 y1 = some o2) (hP : va_P D vwCl (w10 ty ad q) H) (hD : va_D A (w10 ty ad q)) (hS : va_S A s.heap H locs) (hl : lv_has ls 6 [(0, .ref (ad 0)), (1, .int x1), (2, .int x2), (3, .int x3)]) : W p l e ({ frames := 88, cells := 0, slots := 0, locals := 2247 } : Room) s m args below meth c H locs 0 0 (MQ below (va_Qv (fun (u : va_W) => w10 ty ad o2 = u) (kz_B D ty A) A) args s 0 0 A) (F0 m 56 ls [.int y0, .int y1, .ref (ad 21)]) := by
  have C0 := C
  obtain ⟨hx, hb, hr, hts, hown, hlocks, hml, hK, hN, hE, hA⟩ := C
  unfold zX10_laysDist_56 at h
  obtain ⟨g1, h⟩ := dG_some h
  refine va_iast hx hb hK hP hD hS 21 0 rfl rfl (dg_in g1) dX10_laysDist_56 (fun H locs hp hd hs => ?_)
  obtain ⟨q2, eq2, h⟩ := dL_some h
  refine kz_re (w2 := w10 ty ad q2) hp hd hs (by rw [← eq2]; exact w10_a21 ty ad q (Int32.toNatClampNeg y1) y0) ?_
  clear hp hd hs hP hD hS
  intro hP hD hS
  refine lv_aload_n hx hb dX10_laysDist_57 rfl (lv_at hl 0 rfl) ?_
  refine va_get (D := D) (ci := 10) (v := .ref (ad 22)) (C := RX10) (T := TX10) (N := 56) hx hb hts u9_wsX10_laysDist_X10 hown hK hP 0 rfl rfl 41 (by decide) (hts (.fieldLink RX10 94 "TurnedFloorsModel" "rowMany" "[I") f9_wsX10_laysDist_206) (fun _ h9 => h9) rfl dX10_laysDist_58 ?_
  refine lv_iload_n hx hb dX10_laysDist_61 rfl (lv_at hl 2 rfl) ?_
  refine lv_iload_n hx hb dX10_laysDist_62 rfl (lv_at hl 3 rfl) ?_
  refine lv_if_eq (tgt := 70) hx hb dX10_laysDist_63 (by decide) (fun c9 => ?_) (fun c9 => ?_)
  · rw [if_pos c9] at h
    refine lv_iconst (v := 0) hx hb dX10_laysDist_70 (by decide) ?_
    exact WX10_laysDist_71 C0 hk8 _ _ _ _ _ _ _ _ _ h hP hD hS (lv_sub hl [0, 1, 2, 3] rfl)
  · rw [if_neg c9] at h
    refine lv_iconst (v := 1) hx hb dX10_laysDist_66 (by decide) ?_
    refine lv_goto (tgt := 71) hx hb dX10_laysDist_67 (by decide) ?_
    exact WX10_laysDist_71 C0 hk8 _ _ _ _ _ _ _ _ _ h hP hD hS (lv_sub hl [0, 1, 2, 3] rfl)
set_option maxHeartbeats 4000000 in
set_option maxRecDepth 100000 in
theorem WX10_laysDist_40 {p : Program} {l : Launch} {e : Env} {s : State} {m : MethodId} {args : Array Value} {below : List Frame} {meth : Method} {c : Code} {D : va_G} {ty : Nat → ClassId} {eo : Nat → Nat} {A : Nat → Prop} {ad : Nat → Nat} {o2 : dS} (C : dc_C p s m args meth c cX10_laysDist none 6 RX10 wsX10_laysDist D ty eo A) {k8 : dS → Int32 → Int32 → Option (dS)} (hk8 : ∀ (q : dS) (x1 : Int32) (x2 : Int32) (H : Heap) (locs : List Loc) (ls : Array Slot), k8 q x1 x2 = some o2 → va_P D vwCl (w10 ty ad q) H → va_D A (w10 ty ad q) → va_S A s.heap H locs → lv_has ls 6 [(0, .ref (ad 0)), (1, .int x1), (2, .int x2)] → W p l e ({ frames := 88, cells := 0, slots := 0, locals := 2247 } : Room) s m args below meth c H locs 0 0 (MQ below (va_Qv (fun (u : va_W) => w10 ty ad o2 = u) (kz_B D ty A) A) args s 0 0 A) (F0 m 8 ls [])) (q : dS) (x1 : Int32) (x2 : Int32) (y0 : Int32) (H : Heap) (locs : List Loc) (ls : Array Slot) (h : zX10_laysDist_40 k8 q x1 x2 y0 = some o2) (hP : va_P D vwCl (w10 ty ad q) H) (hD : va_D A (w10 ty ad q)) (hS : va_S A s.heap H locs) (hl : lv_has ls 6 [(0, .ref (ad 0)), (1, .int x1), (2, .int x2)]) : W p l e ({ frames := 88, cells := 0, slots := 0, locals := 2247 } : Room) s m args below meth c H locs 0 0 (MQ below (va_Qv (fun (u : va_W) => w10 ty ad o2 = u) (kz_B D ty A) A) args s 0 0 A) (F0 m 40 ls [.int y0]) := by
  have C0 := C
  obtain ⟨hx, hb, hr, hts, hown, hlocks, hml, hK, hN, hE, hA⟩ := C
  unfold zX10_laysDist_40 at h
  refine lv_istore_n (lv' := [(3, .int y0), (0, .ref (ad 0)), (1, .int x1), (2, .int x2)]) hx hb dX10_laysDist_40 rfl hl (by decide) rfl (fun ls hl => ?_)
  refine lv_aload_n hx hb dX10_laysDist_41 rfl (lv_at hl 1 rfl) ?_
  refine va_get (D := D) (ci := 10) (v := .ref (ad 21)) (C := RX10) (T := TX10) (N := 56) hx hb hts u9_wsX10_laysDist_X10 hown hK hP 0 rfl rfl 40 (by decide) (hts (.fieldLink RX10 91 "TurnedFloorsModel" "dist" "[I") f9_wsX10_laysDist_208) (fun _ h9 => h9) rfl dX10_laysDist_42 ?_
  refine lv_iload_n hx hb dX10_laysDist_45 rfl (lv_at hl 3 rfl) ?_
  refine lv_iload_n hx hb dX10_laysDist_46 rfl (lv_at hl 0 rfl) ?_
  refine lv_if_eq (tgt := 54) hx hb dX10_laysDist_47 (by decide) (fun c9 => ?_) (fun c9 => ?_)
  · rw [if_pos c9] at h
    refine lv_ldc (v := 1000000) hx hb hown (hts (.constant RX10 188 1000000) f9_wsX10_laysDist_209) dX10_laysDist_54 ?_
    exact WX10_laysDist_56 C0 hk8 _ _ _ _ _ _ _ _ _ h hP hD hS (lv_sub hl [1, 2, 3, 0] rfl)
  · rw [if_neg c9] at h
    refine lv_iconst (v := 0) hx hb dX10_laysDist_50 (by decide) ?_
    refine lv_goto (tgt := 56) hx hb dX10_laysDist_51 (by decide) ?_
    exact WX10_laysDist_56 C0 hk8 _ _ _ _ _ _ _ _ _ h hP hD hS (lv_sub hl [1, 2, 3, 0] rfl)
set_option maxHeartbeats 4000000 in
set_option maxRecDepth 100000 in
theorem WX10_laysDist_39 {p : Program} {l : Launch} {e : Env} {s : State} {m : MethodId} {args : Array Value} {below : List Frame} {meth : Method} {c : Code} {D : va_G} {ty : Nat → ClassId} {eo : Nat → Nat} {A : Nat → Prop} {ad : Nat → Nat} {o2 : dS} (C : dc_C p s m args meth c cX10_laysDist none 6 RX10 wsX10_laysDist D ty eo A) {k8 : dS → Int32 → Int32 → Option (dS)} (hk8 : ∀ (q : dS) (x1 : Int32) (x2 : Int32) (H : Heap) (locs : List Loc) (ls : Array Slot), k8 q x1 x2 = some o2 → va_P D vwCl (w10 ty ad q) H → va_D A (w10 ty ad q) → va_S A s.heap H locs → lv_has ls 6 [(0, .ref (ad 0)), (1, .int x1), (2, .int x2)] → W p l e ({ frames := 88, cells := 0, slots := 0, locals := 2247 } : Room) s m args below meth c H locs 0 0 (MQ below (va_Qv (fun (u : va_W) => w10 ty ad o2 = u) (kz_B D ty A) A) args s 0 0 A) (F0 m 8 ls [])) (q : dS) (x1 : Int32) (x2 : Int32) (H : Heap) (locs : List Loc) (ls : Array Slot) (h : zX10_laysDist_39 k8 q x1 x2 = some o2) (hP : va_P D vwCl (w10 ty ad q) H) (hD : va_D A (w10 ty ad q)) (hS : va_S A s.heap H locs) (hl : lv_has ls 6 [(0, .ref (ad 0)), (1, .int x1), (2, .int x2)]) : W p l e ({ frames := 88, cells := 0, slots := 0, locals := 2247 } : Room) s m args below meth c H locs 0 0 (MQ below (va_Qv (fun (u : va_W) => w10 ty ad o2 = u) (kz_B D ty A) A) args s 0 0 A) (F0 m 39 ls []) := by
  have C0 := C
  obtain ⟨hx, hb, hr, hts, hown, hlocks, hml, hK, hN, hE, hA⟩ := C
  unfold zX10_laysDist_39 at h
  refine lv_iconst (v := 0) hx hb dX10_laysDist_39 (by decide) ?_
  exact WX10_laysDist_40 C0 hk8 _ _ _ _ _ _ _ h hP hD hS (lv_sub hl [0, 1, 2] rfl)
set_option maxHeartbeats 4000000 in
set_option maxRecDepth 100000 in
theorem WX10_laysDist_8b {p : Program} {l : Launch} {e : Env} {s : State} {m : MethodId} {args : Array Value} {below : List Frame} {meth : Method} {c : Code} {D : va_G} {ty : Nat → ClassId} {eo : Nat → Nat} {A : Nat → Prop} {ad : Nat → Nat} {o2 : dS} (C : dc_C p s m args meth c cX10_laysDist none 6 RX10 wsX10_laysDist D ty eo A) {k8 : dS → Int32 → Int32 → Option (dS)} (hk8 : ∀ (q : dS) (x1 : Int32) (x2 : Int32) (H : Heap) (locs : List Loc) (ls : Array Slot), k8 q x1 x2 = some o2 → va_P D vwCl (w10 ty ad q) H → va_D A (w10 ty ad q) → va_S A s.heap H locs → lv_has ls 6 [(0, .ref (ad 0)), (1, .int x1), (2, .int x2)] → W p l e ({ frames := 88, cells := 0, slots := 0, locals := 2247 } : Room) s m args below meth c H locs 0 0 (MQ below (va_Qv (fun (u : va_W) => w10 ty ad o2 = u) (kz_B D ty A) A) args s 0 0 A) (F0 m 8 ls [])) (q : dS) (x1 : Int32) (x2 : Int32) (H : Heap) (locs : List Loc) (ls : Array Slot) (h : zX10_laysDist_8b k8 q x1 x2 = some o2) (hP : va_P D vwCl (w10 ty ad q) H) (hD : va_D A (w10 ty ad q)) (hS : va_S A s.heap H locs) (hl : lv_has ls 6 [(0, .ref (ad 0)), (1, .int x1), (2, .int x2)]) : W p l e ({ frames := 88, cells := 0, slots := 0, locals := 2247 } : Room) s m args below meth c H locs 0 0 (MQ below (va_Qv (fun (u : va_W) => w10 ty ad o2 = u) (kz_B D ty A) A) args s 0 0 A) (F0 m 8 ls []) := by
  have C0 := C
  obtain ⟨hx, hb, hr, hts, hown, hlocks, hml, hK, hN, hE, hA⟩ := C
  unfold zX10_laysDist_8b at h
  refine lv_iload_n hx hb dX10_laysDist_8 rfl (lv_at hl 2 rfl) ?_
  refine lv_bipush (v := 64) hx hb dX10_laysDist_9 (by decide) ?_
  refine lv_aload_n hx hb dX10_laysDist_11 rfl (lv_at hl 0 rfl) ?_
  refine va_get (D := D) (ci := 10) (v := .int (q.1 0 37)) (C := RX10) (T := TX10) (N := 56) hx hb hts u9_wsX10_laysDist_X10 hown hK hP 0 rfl rfl 37 (by decide) (hts (.fieldLink RX10 386 "TurnedFloorsModel" "orderMany" "I") f9_wsX10_laysDist_211) (fun _ h9 => h9) rfl dX10_laysDist_12 ?_
  refine lv_imul hx hb dX10_laysDist_15 ?_
  refine lv_icmp_ge (tgt := 95) hx hb dX10_laysDist_16 (by decide) (fun c9 => ?_) (fun c9 => ?_)
  · rw [if_pos c9] at h
    refine lv_iconst (v := 0) hx hb dX10_laysDist_95 (by decide) ?_
    refine lv_istore_n (lv' := [(2, .int 0), (0, .ref (ad 0)), (1, .int x1)]) hx hb dX10_laysDist_96 rfl hl (by decide) rfl (fun ls hl => ?_)
    exact WX10_laysDist_97 C0  _ _ _ _ _ _ _ h hP hD hS (lv_sub hl [1, 2, 0] rfl)
  · rw [if_neg c9] at h
    refine lv_aload_n hx hb dX10_laysDist_19 rfl (lv_at hl 0 rfl) ?_
    refine lv_iload_n hx hb dX10_laysDist_20 rfl (lv_at hl 2 rfl) ?_
    obtain ⟨r1, q3, h2, h⟩ := dB_some h
    refine dw_ki (va_runV (As := [.int x2]) (rest := []) ⟨hx, hb, hml, hown, hts⟩ (qX10_isThere l D ty eo _ ad q x2 r1 q3 h2) (cwV 1 hts gX10_laysDist_X10_isThere rfl rfl rfl hd_X10_isThere_v ⟨Nat.le_of_ble_eq_true rfl, Nat.le_of_ble_eq_true rfl⟩) (pv10_10_0 hK hN hE hP hD hS hA) rfl rfl hl.1 rfl (lv_room (Nat.le_of_ble_eq_true rfl)) dX10_laysDist_21 ⟨Nat.le_of_ble_eq_true rfl, Nat.le_of_ble_eq_true rfl⟩) hD hS hA (fun r9 u9 H locs hw hp hd hs => ?_)
    clear hP hD hS
    obtain ⟨rfl, rfl⟩ := hw
    have hP := hp; have hD := hd; have hS := hs; clear hp hd hs
    refine lv_if_eq (tgt := 39) hx hb dX10_laysDist_24 (by decide) (fun c9 => ?_) (fun c9 => ?_)
    · rw [if_pos c9] at h
      exact WX10_laysDist_39 C0 hk8 _ _ _ _ _ _ h hP hD hS (lv_sub hl [0, 1, 2] rfl)
    · rw [if_neg c9] at h
      refine lv_aload_n hx hb dX10_laysDist_27 rfl (lv_at hl 0 rfl) ?_
      refine lv_iload_n hx hb dX10_laysDist_28 rfl (lv_at hl 2 rfl) ?_
      obtain ⟨r4, q6, h5, h⟩ := dB_some h
      refine dw_ki (va_runV (As := [.int x2]) (rest := []) ⟨hx, hb, hml, hown, hts⟩ (qX10_isOrdered l D ty eo _ ad q3 x2 r4 q6 h5) (cwV 1 hts gX10_laysDist_X10_isOrdered rfl rfl rfl hd_X10_isOrdered_v ⟨Nat.le_of_ble_eq_true rfl, Nat.le_of_ble_eq_true rfl⟩) (pv10_10_0 hK hN hE hP hD hS hA) rfl rfl hl.1 rfl (lv_room (Nat.le_of_ble_eq_true rfl)) dX10_laysDist_29 ⟨Nat.le_of_ble_eq_true rfl, Nat.le_of_ble_eq_true rfl⟩) hD hS hA (fun r9 u9 H locs hw hp hd hs => ?_)
      clear hP hD hS
      obtain ⟨rfl, rfl⟩ := hw
      have hP := hp; have hD := hd; have hS := hs; clear hp hd hs
      refine lv_if_eq (tgt := 39) hx hb dX10_laysDist_32 (by decide) (fun c9 => ?_) (fun c9 => ?_)
      · rw [if_pos c9] at h
        exact WX10_laysDist_39 C0 hk8 _ _ _ _ _ _ h hP hD hS (lv_sub hl [0, 1, 2] rfl)
      · rw [if_neg c9] at h
        refine lv_iconst (v := 1) hx hb dX10_laysDist_35 (by decide) ?_
        refine lv_goto (tgt := 40) hx hb dX10_laysDist_36 (by decide) ?_
        exact WX10_laysDist_40 C0 hk8 _ _ _ _ _ _ _ h hP hD hS (lv_sub hl [0, 1, 2] rfl)
set_option maxHeartbeats 4000000 in
set_option maxRecDepth 100000 in
theorem WX10_laysDist_8 {p : Program} {l : Launch} {e : Env} {s : State} {m : MethodId} {args : Array Value} {below : List Frame} {meth : Method} {c : Code} {D : va_G} {ty : Nat → ClassId} {eo : Nat → Nat} {A : Nat → Prop} {ad : Nat → Nat} {o2 : dS} (C : dc_C p s m args meth c cX10_laysDist none 6 RX10 wsX10_laysDist D ty eo A)   (n : Nat) (q : dS) (x1 : Int32) (x2 : Int32) (H : Heap) (locs : List Loc) (ls : Array Slot) (h : zX10_laysDist_8  n q x1 x2 = some o2) (hP : va_P D vwCl (w10 ty ad q) H) (hD : va_D A (w10 ty ad q)) (hS : va_S A s.heap H locs) (hl : lv_has ls 6 [(0, .ref (ad 0)), (1, .int x1), (2, .int x2)]) : W p l e ({ frames := 88, cells := 0, slots := 0, locals := 2247 } : Room) s m args below meth c H locs 0 0 (MQ below (va_Qv (fun (u : va_W) => w10 ty ad o2 = u) (kz_B D ty A) A) args s 0 0 A) (F0 m 8 ls []) := by
  exact dFix_W (F := fun k (a : dS × Int32 × Int32) => zX10_laysDist_8b  (fun q x1 x2 => k (q, x1, x2)) a.1 a.2.1 a.2.2) (o := o2) (P := fun (a : dS × Int32 × Int32) H locs ls => va_P D vwCl (w10 ty ad a.1) H ∧ va_D A (w10 ty ad a.1) ∧ va_S A s.heap H locs ∧ lv_has ls 6 [(0, .ref (ad 0)), (1, .int a.2.1), (2, .int a.2.2)]) (G := fun H locs ls => W p l e ({ frames := 88, cells := 0, slots := 0, locals := 2247 } : Room) s m args below meth c H locs 0 0 (MQ below (va_Qv (fun (u : va_W) => w10 ty ad o2 = u) (kz_B D ty A) A) args s 0 0 A) (F0 m 8 ls []))
    (fun k hk a H locs ls h hp => WX10_laysDist_8b C  (fun q x1 x2 H locs ls h h1 h2 h3 h4 => hk (q, x1, x2) H locs ls h ⟨h1, h2, h3, h4⟩) a.1 a.2.1 a.2.2 H locs ls h hp.1 hp.2.1 hp.2.2.1 hp.2.2.2) n (q, x1, x2) H locs ls h ⟨hP, hD, hS, hl⟩
set_option maxHeartbeats 4000000 in
set_option maxRecDepth 100000 in
theorem qX10_laysDist (l : Launch) (D : va_G) (ty : Nat → ClassId) (eo : Nat → Nat) (sz : Nat) (ad : Nat → Nat) (q : dS)  (o2 : dS) (h : zX10_laysDist q = some o2) : Met l yX10_laysDist wsX10_laysDist ({ frames := 88, cells := 0, slots := 0, locals := 2247 } : Room) (va_Pc [.ref (ad 0)] (kz_pre D ty eo (w10 ty ad q) sz)) (va_Qv (fun (u : va_W) => w10 ty ad o2 = u) (kz_B D ty (va_A (w10 ty ad q) sz)) (va_A (w10 ty ad q) sz)) 0 0 (va_A (w10 ty ad q) sz) := by
  refine Met.ofW (cc := cX10_laysDist) (maxL := 6) (ret := none) (by decide) rfl ?_
  intro p e s m args below meth c s₁ B hml hv
  obtain ⟨rfl, hsz, hP, hK, hD0, hN, hE⟩ := hv
  have hx := B.exec
  have hb := B.bytes
  have hr := B.returns
  have hts := atoms_spec (ws := wsX10_laysDist) B.pre
  have hown : s.vm.findClass RX10 = some m.cls := findClass_of_methodNamed B.named
  have hlocks := B.notSynchronized
  subst hsz
  have hD := hD0.self (sz := s.heap.size)
  generalize hAe : va_A (w10 ty ad q) s.heap.size = A at hD hE ⊢
  have hA : ∀ q : Nat, s.heap.size ≤ q → A q := fun q h => by rw [← hAe]; exact Or.inr h
  clear hAe
  have hS : va_S A s.heap s.heap [] := va_S.rf
  have hl := lv_entry ([.ref (ad 0)]) (n := 6) (Nat.le_of_ble_eq_true rfl)
  rw [lg_entry_eq]
  generalize (lg_sl ([.ref (ad 0)]) ++ List.replicate (6 - (lg_sl ([.ref (ad 0)])).length) Slot.unset).toArray = ls at hl ⊢
  have hl : lv_has ls 6 [(0, .ref (ad 0))] := hl
  have C : dc_C p s m _ meth c cX10_laysDist none 6 RX10 wsX10_laysDist D ty eo A := ⟨hx, hb, hr, hts, hown, hlocks, hml, hK, hN, hE, hA⟩
  unfold zX10_laysDist at h
  refine lv_aload_n hx hb dX10_laysDist_0 rfl (lv_at hl 0 rfl) ?_
  obtain ⟨q3, h2, h⟩ := dV_some h
  refine dw_kv (va_runV (As := []) (rest := []) ⟨hx, hb, hml, hown, hts⟩ (qX10_laysPrices l D ty eo _ ad q  q3 h2) (cwV 0 hts gX10_laysDist_X10_laysPrices rfl rfl rfl hd_X10_laysPrices_v ⟨Nat.le_of_ble_eq_true rfl, Nat.le_of_ble_eq_true rfl⟩) (pv10_10_0 hK hN hE hP hD hS hA) rfl rfl hl.1 rfl (lv_room (Nat.le_of_ble_eq_true rfl)) dX10_laysDist_1 ⟨Nat.le_of_ble_eq_true rfl, Nat.le_of_ble_eq_true rfl⟩) hD hS hA (fun u9 H locs hw hp hd hs => ?_)
  clear hP hD hS
  obtain rfl := hw
  have hP := hp; have hD := hd; have hS := hs; clear hp hd hs
  refine lv_iconst (v := 0) hx hb dX10_laysDist_4 (by decide) ?_
  refine lv_istore_n (lv' := [(1, .int 0), (0, .ref (ad 0))]) hx hb dX10_laysDist_5 rfl hl (by decide) rfl (fun ls hl => ?_)
  refine lv_iconst (v := 0) hx hb dX10_laysDist_6 (by decide) ?_
  refine lv_istore_n (lv' := [(2, .int 0), (1, .int 0), (0, .ref (ad 0))]) hx hb dX10_laysDist_7 rfl hl (by decide) rfl (fun ls hl => ?_)
  exact WX10_laysDist_8 C  _ _ _ _ _ _ _ h hP hD hS (lv_sub hl [2, 1, 0] rfl)

set_option maxHeartbeats 4000000 in
set_option maxRecDepth 100000 in
theorem WX10_fewest_111 {p : Program} {l : Launch} {e : Env} {s : State} {m : MethodId} {args : Array Value} {below : List Frame} {meth : Method} {c : Code} {D : va_G} {ty : Nat → ClassId} {eo : Nat → Nat} {A : Nat → Prop} {ad : Nat → Nat} {o1 : Int32} {o2 : dS} (C : dc_C p s m args meth c cX10_fewest (some .int) 5 RX10 wsX10_fewest D ty eo A) {k71 : dS → Int32 → Int32 → Int32 → Int32 → Option (Int32 × dS)} {k79 : dS → Int32 → Int32 → Int32 → Int32 → Option (Int32 × dS)} (hk71 : ∀ (q : dS) (x1 : Int32) (x2 : Int32) (x3 : Int32) (x4 : Int32) (H : Heap) (locs : List Loc) (ls : Array Slot), k71 q x1 x2 x3 x4 = some (o1, o2) → va_P D vwCl (w10 ty ad q) H → va_D A (w10 ty ad q) → va_S A s.heap H locs → lv_has ls 5 [(0, .ref (ad 0)), (1, .int x1), (2, .int x2), (3, .int x3), (4, .int x4)] → W p l e ({ frames := 89, cells := 0, slots := 0, locals := 2272 } : Room) s m args below meth c H locs 0 0 (MQ below (va_Qi (fun (r : Int32) (u : va_W) => o1 = r ∧ w10 ty ad o2 = u) (kz_B D ty A) A) args s 0 0 A) (F0 m 71 ls [])) (hk79 : ∀ (q : dS) (x1 : Int32) (x2 : Int32) (x3 : Int32) (x4 : Int32) (H : Heap) (locs : List Loc) (ls : Array Slot), k79 q x1 x2 x3 x4 = some (o1, o2) → va_P D vwCl (w10 ty ad q) H → va_D A (w10 ty ad q) → va_S A s.heap H locs → lv_has ls 5 [(0, .ref (ad 0)), (1, .int x1), (2, .int x2), (3, .int x3), (4, .int x4)] → W p l e ({ frames := 89, cells := 0, slots := 0, locals := 2272 } : Room) s m args below meth c H locs 0 0 (MQ below (va_Qi (fun (r : Int32) (u : va_W) => o1 = r ∧ w10 ty ad o2 = u) (kz_B D ty A) A) args s 0 0 A) (F0 m 79 ls [])) (q : dS) (x1 : Int32) (x2 : Int32) (x3 : Int32) (x4 : Int32) (H : Heap) (locs : List Loc) (ls : Array Slot) (h : zX10_fewest_111 k71 k79 q x1 x2 x3 x4 = some (o1, o2)) (hP : va_P D vwCl (w10 ty ad q) H) (hD : va_D A (w10 ty ad q)) (hS : va_S A s.heap H locs) (hl : lv_has ls 5 [(0, .ref (ad 0)), (1, .int x1), (2, .int x2), (3, .int x3), (4, .int x4)]) : W p l e ({ frames := 89, cells := 0, slots := 0, locals := 2272 } : Room) s m args below meth c H locs 0 0 (MQ below (va_Qi (fun (r : Int32) (u : va_W) => o1 = r ∧ w10 ty ad o2 = u) (kz_B D ty A) A) args s 0 0 A) (F0 m 111 ls []) := by
  have C0 := C
  obtain ⟨hx, hb, hr, hts, hown, hlocks, hml, hK, hN, hE, hA⟩ := C
  unfold zX10_fewest_111 at h
  refine lv_iinc (v := x3 + 1) (lv' := [(3, .int (x3 + 1)), (0, .ref (ad 0)), (1, .int x1), (2, .int x2), (4, .int x4)]) hx hb dX10_fewest_111 hl (k := 3) rfl rfl (by decide) rfl (fun ls hl => ?_)
  refine lv_goto (tgt := 79) hx hb dX10_fewest_114 (by decide) ?_
  exact hk79 _ _ _ _ _ _ _ _ h hP hD hS (lv_sub hl [1, 2, 3, 0, 4] rfl)
set_option maxHeartbeats 4000000 in
set_option maxRecDepth 100000 in
theorem WX10_fewest_79b {p : Program} {l : Launch} {e : Env} {s : State} {m : MethodId} {args : Array Value} {below : List Frame} {meth : Method} {c : Code} {D : va_G} {ty : Nat → ClassId} {eo : Nat → Nat} {A : Nat → Prop} {ad : Nat → Nat} {o1 : Int32} {o2 : dS} (C : dc_C p s m args meth c cX10_fewest (some .int) 5 RX10 wsX10_fewest D ty eo A) {k71 : dS → Int32 → Int32 → Int32 → Int32 → Option (Int32 × dS)} {k79 : dS → Int32 → Int32 → Int32 → Int32 → Option (Int32 × dS)} (hk71 : ∀ (q : dS) (x1 : Int32) (x2 : Int32) (x3 : Int32) (x4 : Int32) (H : Heap) (locs : List Loc) (ls : Array Slot), k71 q x1 x2 x3 x4 = some (o1, o2) → va_P D vwCl (w10 ty ad q) H → va_D A (w10 ty ad q) → va_S A s.heap H locs → lv_has ls 5 [(0, .ref (ad 0)), (1, .int x1), (2, .int x2), (3, .int x3), (4, .int x4)] → W p l e ({ frames := 89, cells := 0, slots := 0, locals := 2272 } : Room) s m args below meth c H locs 0 0 (MQ below (va_Qi (fun (r : Int32) (u : va_W) => o1 = r ∧ w10 ty ad o2 = u) (kz_B D ty A) A) args s 0 0 A) (F0 m 71 ls [])) (hk79 : ∀ (q : dS) (x1 : Int32) (x2 : Int32) (x3 : Int32) (x4 : Int32) (H : Heap) (locs : List Loc) (ls : Array Slot), k79 q x1 x2 x3 x4 = some (o1, o2) → va_P D vwCl (w10 ty ad q) H → va_D A (w10 ty ad q) → va_S A s.heap H locs → lv_has ls 5 [(0, .ref (ad 0)), (1, .int x1), (2, .int x2), (3, .int x3), (4, .int x4)] → W p l e ({ frames := 89, cells := 0, slots := 0, locals := 2272 } : Room) s m args below meth c H locs 0 0 (MQ below (va_Qi (fun (r : Int32) (u : va_W) => o1 = r ∧ w10 ty ad o2 = u) (kz_B D ty A) A) args s 0 0 A) (F0 m 79 ls [])) (q : dS) (x1 : Int32) (x2 : Int32) (x3 : Int32) (x4 : Int32) (H : Heap) (locs : List Loc) (ls : Array Slot) (h : zX10_fewest_79b k71 k79 q x1 x2 x3 x4 = some (o1, o2)) (hP : va_P D vwCl (w10 ty ad q) H) (hD : va_D A (w10 ty ad q)) (hS : va_S A s.heap H locs) (hl : lv_has ls 5 [(0, .ref (ad 0)), (1, .int x1), (2, .int x2), (3, .int x3), (4, .int x4)]) : W p l e ({ frames := 89, cells := 0, slots := 0, locals := 2272 } : Room) s m args below meth c H locs 0 0 (MQ below (va_Qi (fun (r : Int32) (u : va_W) => o1 = r ∧ w10 ty ad o2 = u) (kz_B D ty A) A) args s 0 0 A) (F0 m 79 ls []) := by
  have C0 := C
  obtain ⟨hx, hb, hr, hts, hown, hlocks, hml, hK, hN, hE, hA⟩ := C
  unfold zX10_fewest_79b at h
  refine lv_aload_n hx hb dX10_fewest_79 rfl (lv_at hl 0 rfl) ?_
  refine lv_iload_n hx hb dX10_fewest_80 rfl (lv_at hl 2 rfl) ?_
  refine lv_iload_n hx hb dX10_fewest_81 rfl (lv_at hl 3 rfl) ?_
  obtain ⟨r1, q3, h2, h⟩ := dB_some h
  refine dw_ki (va_runV (As := [.int x2, .int x3]) (rest := []) ⟨hx, hb, hml, hown, hts⟩ (qX10_priceOf l D ty eo _ ad q x2 x3 r1 q3 h2) (cwV 2 hts gX10_fewest_X10_priceOf rfl rfl rfl hd_X10_priceOf_v ⟨Nat.le_of_ble_eq_true rfl, Nat.le_of_ble_eq_true rfl⟩) (pv10_10_0 hK hN hE hP hD hS hA) rfl rfl hl.1 rfl (lv_room (Nat.le_of_ble_eq_true rfl)) dX10_fewest_82 ⟨Nat.le_of_ble_eq_true rfl, Nat.le_of_ble_eq_true rfl⟩) hD hS hA (fun r9 u9 H locs hw hp hd hs => ?_)
  clear hP hD hS
  obtain ⟨rfl, rfl⟩ := hw
  have hP := hp; have hD := hd; have hS := hs; clear hp hd hs
  refine lv_iconst (v := (-1)) hx hb dX10_fewest_85 (by decide) ?_
  refine lv_icmp_eq (tgt := 111) hx hb dX10_fewest_86 (by decide) (fun c9 => ?_) (fun c9 => ?_)
  · rw [if_pos c9] at h
    exact WX10_fewest_111 C0 hk71 hk79 _ _ _ _ _ _ _ _ h hP hD hS (lv_sub hl [0, 1, 2, 3, 4] rfl)
  · rw [if_neg c9] at h
    refine lv_aload_n hx hb dX10_fewest_89 rfl (lv_at hl 0 rfl) ?_
    refine va_get (D := D) (ci := 10) (v := .ref (ad 21)) (C := RX10) (T := TX10) (N := 56) hx hb hts u9_wsX10_fewest_X10 hown hK hP 0 rfl rfl 40 (by decide) (hts (.fieldLink RX10 91 "TurnedFloorsModel" "dist" "[I") f9_wsX10_fewest_213) (fun _ h9 => h9) rfl dX10_fewest_90 ?_
    refine lv_aload_n hx hb dX10_fewest_93 rfl (lv_at hl 0 rfl) ?_
    refine lv_iload_n hx hb dX10_fewest_94 rfl (lv_at hl 2 rfl) ?_
    refine lv_iload_n hx hb dX10_fewest_95 rfl (lv_at hl 3 rfl) ?_
    obtain ⟨r4, q6, h5, h⟩ := dB_some h
    refine dw_ki (va_runV (As := [.int x2, .int x3]) (rest := [.ref (ad 21)]) ⟨hx, hb, hml, hown, hts⟩ (qX10_behind l D ty eo _ ad q3 x2 x3 r4 q6 h5) (cwV 2 hts gX10_fewest_X10_behind rfl rfl rfl hd_X10_behind_v ⟨Nat.le_of_ble_eq_true rfl, Nat.le_of_ble_eq_true rfl⟩) (pv10_10_0 hK hN hE hP hD hS hA) rfl rfl hl.1 rfl (lv_room (Nat.le_of_ble_eq_true rfl)) dX10_fewest_96 ⟨Nat.le_of_ble_eq_true rfl, Nat.le_of_ble_eq_true rfl⟩) hD hS hA (fun r9 u9 H locs hw hp hd hs => ?_)
    clear hP hD hS
    obtain ⟨rfl, rfl⟩ := hw
    have hP := hp; have hD := hd; have hS := hs; clear hp hd hs
    obtain ⟨g7, h⟩ := dG_some h
    refine va_iald hx hb hK hP 21 0 rfl rfl (dg_in g7) dX10_fewest_99 ?_
    obtain ⟨v8, ev8, h⟩ := dL_some h
    refine kz_topi v8 ev8 ?_
    refine lv_aload_n hx hb dX10_fewest_100 rfl (lv_at hl 0 rfl) ?_
    refine va_get (D := D) (ci := 10) (v := .ref (ad 21)) (C := RX10) (T := TX10) (N := 56) hx hb hts u9_wsX10_fewest_X10 hown hK hP 0 rfl rfl 40 (by decide) (hts (.fieldLink RX10 91 "TurnedFloorsModel" "dist" "[I") f9_wsX10_fewest_213) (fun _ h9 => h9) rfl dX10_fewest_101 ?_
    refine lv_iload_n hx hb dX10_fewest_104 rfl (lv_at hl 2 rfl) ?_
    obtain ⟨g9, h⟩ := dG_some h
    refine va_iald hx hb hK hP 21 0 rfl rfl (dg_in g9) dX10_fewest_105 ?_
    obtain ⟨v10, ev10, h⟩ := dL_some h
    refine kz_topi v10 ev10 ?_
    refine lv_iconst (v := 1) hx hb dX10_fewest_106 (by decide) ?_
    refine lv_isub hx hb dX10_fewest_107 ?_
    refine lv_icmp_eq (tgt := 117) hx hb dX10_fewest_108 (by decide) (fun c9 => ?_) (fun c9 => ?_)
    · rw [if_pos c9] at h
      refine lv_aload_n hx hb dX10_fewest_117 rfl (lv_at hl 0 rfl) ?_
      refine lv_iload_n hx hb dX10_fewest_118 rfl (lv_at hl 2 rfl) ?_
      refine lv_iload_n hx hb dX10_fewest_119 rfl (lv_at hl 3 rfl) ?_
      obtain ⟨r11, q13, h12, h⟩ := dB_some h
      refine dw_ki (va_runV (As := [.int x2, .int x3]) (rest := []) ⟨hx, hb, hml, hown, hts⟩ (qX10_behind l D ty eo _ ad q6 x2 x3 r11 q13 h12) (cwV 2 hts gX10_fewest_X10_behind rfl rfl rfl hd_X10_behind_v ⟨Nat.le_of_ble_eq_true rfl, Nat.le_of_ble_eq_true rfl⟩) (pv10_10_0 hK hN hE hP hD hS hA) rfl rfl hl.1 rfl (lv_room (Nat.le_of_ble_eq_true rfl)) dX10_fewest_120 ⟨Nat.le_of_ble_eq_true rfl, Nat.le_of_ble_eq_true rfl⟩) hD hS hA (fun r9 u9 H locs hw hp hd hs => ?_)
      clear hP hD hS
      obtain ⟨rfl, rfl⟩ := hw
      have hP := hp; have hD := hd; have hS := hs; clear hp hd hs
      refine lv_istore_n (lv' := [(2, .int r11), (0, .ref (ad 0)), (1, .int x1), (3, .int x3), (4, .int x4)]) hx hb dX10_fewest_123 rfl hl (by decide) rfl (fun ls hl => ?_)
      refine lv_iinc (v := x4 + 1) (lv' := [(4, .int (x4 + 1)), (2, .int r11), (0, .ref (ad 0)), (1, .int x1), (3, .int x3)]) hx hb dX10_fewest_124 hl (k := 4) rfl rfl (by decide) rfl (fun ls hl => ?_)
      refine lv_goto (tgt := 71) hx hb dX10_fewest_127 (by decide) ?_
      exact hk71 _ _ _ _ _ _ _ _ h hP hD hS (lv_sub hl [2, 3, 1, 4, 0] rfl)
    · rw [if_neg c9] at h
      exact WX10_fewest_111 C0 hk71 hk79 _ _ _ _ _ _ _ _ h hP hD hS (lv_sub hl [0, 1, 2, 3, 4] rfl)
set_option maxHeartbeats 4000000 in
set_option maxRecDepth 100000 in
theorem WX10_fewest_79 {p : Program} {l : Launch} {e : Env} {s : State} {m : MethodId} {args : Array Value} {below : List Frame} {meth : Method} {c : Code} {D : va_G} {ty : Nat → ClassId} {eo : Nat → Nat} {A : Nat → Prop} {ad : Nat → Nat} {o1 : Int32} {o2 : dS} (C : dc_C p s m args meth c cX10_fewest (some .int) 5 RX10 wsX10_fewest D ty eo A) {k71 : dS → Int32 → Int32 → Int32 → Int32 → Option (Int32 × dS)} (hk71 : ∀ (q : dS) (x1 : Int32) (x2 : Int32) (x3 : Int32) (x4 : Int32) (H : Heap) (locs : List Loc) (ls : Array Slot), k71 q x1 x2 x3 x4 = some (o1, o2) → va_P D vwCl (w10 ty ad q) H → va_D A (w10 ty ad q) → va_S A s.heap H locs → lv_has ls 5 [(0, .ref (ad 0)), (1, .int x1), (2, .int x2), (3, .int x3), (4, .int x4)] → W p l e ({ frames := 89, cells := 0, slots := 0, locals := 2272 } : Room) s m args below meth c H locs 0 0 (MQ below (va_Qi (fun (r : Int32) (u : va_W) => o1 = r ∧ w10 ty ad o2 = u) (kz_B D ty A) A) args s 0 0 A) (F0 m 71 ls [])) (n : Nat) (q : dS) (x1 : Int32) (x2 : Int32) (x3 : Int32) (x4 : Int32) (H : Heap) (locs : List Loc) (ls : Array Slot) (h : zX10_fewest_79 k71 n q x1 x2 x3 x4 = some (o1, o2)) (hP : va_P D vwCl (w10 ty ad q) H) (hD : va_D A (w10 ty ad q)) (hS : va_S A s.heap H locs) (hl : lv_has ls 5 [(0, .ref (ad 0)), (1, .int x1), (2, .int x2), (3, .int x3), (4, .int x4)]) : W p l e ({ frames := 89, cells := 0, slots := 0, locals := 2272 } : Room) s m args below meth c H locs 0 0 (MQ below (va_Qi (fun (r : Int32) (u : va_W) => o1 = r ∧ w10 ty ad o2 = u) (kz_B D ty A) A) args s 0 0 A) (F0 m 79 ls []) := by
  exact dFix_W (F := fun k (a : dS × Int32 × Int32 × Int32 × Int32) => zX10_fewest_79b k71 (fun q x1 x2 x3 x4 => k (q, x1, x2, x3, x4)) a.1 a.2.1 a.2.2.1 a.2.2.2.1 a.2.2.2.2) (o := (o1, o2)) (P := fun (a : dS × Int32 × Int32 × Int32 × Int32) H locs ls => va_P D vwCl (w10 ty ad a.1) H ∧ va_D A (w10 ty ad a.1) ∧ va_S A s.heap H locs ∧ lv_has ls 5 [(0, .ref (ad 0)), (1, .int a.2.1), (2, .int a.2.2.1), (3, .int a.2.2.2.1), (4, .int a.2.2.2.2)]) (G := fun H locs ls => W p l e ({ frames := 89, cells := 0, slots := 0, locals := 2272 } : Room) s m args below meth c H locs 0 0 (MQ below (va_Qi (fun (r : Int32) (u : va_W) => o1 = r ∧ w10 ty ad o2 = u) (kz_B D ty A) A) args s 0 0 A) (F0 m 79 ls []))
    (fun k hk a H locs ls h hp => WX10_fewest_79b C hk71 (fun q x1 x2 x3 x4 H locs ls h h1 h2 h3 h4 => hk (q, x1, x2, x3, x4) H locs ls h ⟨h1, h2, h3, h4⟩) a.1 a.2.1 a.2.2.1 a.2.2.2.1 a.2.2.2.2 H locs ls h hp.1 hp.2.1 hp.2.2.1 hp.2.2.2) n (q, x1, x2, x3, x4) H locs ls h ⟨hP, hD, hS, hl⟩
set_option maxHeartbeats 4000000 in
set_option maxRecDepth 100000 in
theorem WX10_fewest_71b {p : Program} {l : Launch} {e : Env} {s : State} {m : MethodId} {args : Array Value} {below : List Frame} {meth : Method} {c : Code} {D : va_G} {ty : Nat → ClassId} {eo : Nat → Nat} {A : Nat → Prop} {ad : Nat → Nat} {o1 : Int32} {o2 : dS} (C : dc_C p s m args meth c cX10_fewest (some .int) 5 RX10 wsX10_fewest D ty eo A) {k71 : dS → Int32 → Int32 → Int32 → Int32 → Option (Int32 × dS)} (hk71 : ∀ (q : dS) (x1 : Int32) (x2 : Int32) (x3 : Int32) (x4 : Int32) (H : Heap) (locs : List Loc) (ls : Array Slot), k71 q x1 x2 x3 x4 = some (o1, o2) → va_P D vwCl (w10 ty ad q) H → va_D A (w10 ty ad q) → va_S A s.heap H locs → lv_has ls 5 [(0, .ref (ad 0)), (1, .int x1), (2, .int x2), (3, .int x3), (4, .int x4)] → W p l e ({ frames := 89, cells := 0, slots := 0, locals := 2272 } : Room) s m args below meth c H locs 0 0 (MQ below (va_Qi (fun (r : Int32) (u : va_W) => o1 = r ∧ w10 ty ad o2 = u) (kz_B D ty A) A) args s 0 0 A) (F0 m 71 ls [])) (q : dS) (x1 : Int32) (x2 : Int32) (x3 : Int32) (x4 : Int32) (H : Heap) (locs : List Loc) (ls : Array Slot) (h : zX10_fewest_71b k71 q x1 x2 x3 x4 = some (o1, o2)) (hP : va_P D vwCl (w10 ty ad q) H) (hD : va_D A (w10 ty ad q)) (hS : va_S A s.heap H locs) (hl : lv_has ls 5 [(0, .ref (ad 0)), (1, .int x1), (2, .int x2), (3, .int x3), (4, .int x4)]) : W p l e ({ frames := 89, cells := 0, slots := 0, locals := 2272 } : Room) s m args below meth c H locs 0 0 (MQ below (va_Qi (fun (r : Int32) (u : va_W) => o1 = r ∧ w10 ty ad o2 = u) (kz_B D ty A) A) args s 0 0 A) (F0 m 71 ls []) := by
  have C0 := C
  obtain ⟨hx, hb, hr, hts, hown, hlocks, hml, hK, hN, hE, hA⟩ := C
  unfold zX10_fewest_71b at h
  refine lv_iload hx hb dX10_fewest_71 (lv_at hl 4 rfl) ?_
  refine lv_iload_n hx hb dX10_fewest_73 rfl (lv_at hl 1 rfl) ?_
  refine lv_icmp_gt (tgt := 130) hx hb dX10_fewest_74 (by decide) (fun c9 => ?_) (fun c9 => ?_)
  · rw [if_pos c9] at h
    refine lv_iload_n hx hb dX10_fewest_130 rfl (lv_at hl 3 rfl) ?_
    cases h
    exact kz_iret hx hb hr hlocks hP hK hD hS dX10_fewest_131 ⟨rfl, rfl⟩
  · rw [if_neg c9] at h
    refine lv_iconst (v := 1) hx hb dX10_fewest_77 (by decide) ?_
    refine lv_istore_n (lv' := [(3, .int 1), (0, .ref (ad 0)), (1, .int x1), (2, .int x2), (4, .int x4)]) hx hb dX10_fewest_78 rfl hl (by decide) rfl (fun ls hl => ?_)
    exact WX10_fewest_79 C0 hk71 _ _ _ _ _ _ _ _ _ h hP hD hS (lv_sub hl [1, 2, 3, 0, 4] rfl)
set_option maxHeartbeats 4000000 in
set_option maxRecDepth 100000 in
theorem WX10_fewest_71 {p : Program} {l : Launch} {e : Env} {s : State} {m : MethodId} {args : Array Value} {below : List Frame} {meth : Method} {c : Code} {D : va_G} {ty : Nat → ClassId} {eo : Nat → Nat} {A : Nat → Prop} {ad : Nat → Nat} {o1 : Int32} {o2 : dS} (C : dc_C p s m args meth c cX10_fewest (some .int) 5 RX10 wsX10_fewest D ty eo A)   (n : Nat) (q : dS) (x1 : Int32) (x2 : Int32) (x3 : Int32) (x4 : Int32) (H : Heap) (locs : List Loc) (ls : Array Slot) (h : zX10_fewest_71  n q x1 x2 x3 x4 = some (o1, o2)) (hP : va_P D vwCl (w10 ty ad q) H) (hD : va_D A (w10 ty ad q)) (hS : va_S A s.heap H locs) (hl : lv_has ls 5 [(0, .ref (ad 0)), (1, .int x1), (2, .int x2), (3, .int x3), (4, .int x4)]) : W p l e ({ frames := 89, cells := 0, slots := 0, locals := 2272 } : Room) s m args below meth c H locs 0 0 (MQ below (va_Qi (fun (r : Int32) (u : va_W) => o1 = r ∧ w10 ty ad o2 = u) (kz_B D ty A) A) args s 0 0 A) (F0 m 71 ls []) := by
  exact dFix_W (F := fun k (a : dS × Int32 × Int32 × Int32 × Int32) => zX10_fewest_71b  (fun q x1 x2 x3 x4 => k (q, x1, x2, x3, x4)) a.1 a.2.1 a.2.2.1 a.2.2.2.1 a.2.2.2.2) (o := (o1, o2)) (P := fun (a : dS × Int32 × Int32 × Int32 × Int32) H locs ls => va_P D vwCl (w10 ty ad a.1) H ∧ va_D A (w10 ty ad a.1) ∧ va_S A s.heap H locs ∧ lv_has ls 5 [(0, .ref (ad 0)), (1, .int a.2.1), (2, .int a.2.2.1), (3, .int a.2.2.2.1), (4, .int a.2.2.2.2)]) (G := fun H locs ls => W p l e ({ frames := 89, cells := 0, slots := 0, locals := 2272 } : Room) s m args below meth c H locs 0 0 (MQ below (va_Qi (fun (r : Int32) (u : va_W) => o1 = r ∧ w10 ty ad o2 = u) (kz_B D ty A) A) args s 0 0 A) (F0 m 71 ls []))
    (fun k hk a H locs ls h hp => WX10_fewest_71b C  (fun q x1 x2 x3 x4 H locs ls h h1 h2 h3 h4 => hk (q, x1, x2, x3, x4) H locs ls h ⟨h1, h2, h3, h4⟩) a.1 a.2.1 a.2.2.1 a.2.2.2.1 a.2.2.2.2 H locs ls h hp.1 hp.2.1 hp.2.2.1 hp.2.2.2) n (q, x1, x2, x3, x4) H locs ls h ⟨hP, hD, hS, hl⟩
set_option maxHeartbeats 4000000 in
set_option maxRecDepth 100000 in
theorem WX10_fewest_53 {p : Program} {l : Launch} {e : Env} {s : State} {m : MethodId} {args : Array Value} {below : List Frame} {meth : Method} {c : Code} {D : va_G} {ty : Nat → ClassId} {eo : Nat → Nat} {A : Nat → Prop} {ad : Nat → Nat} {o1 : Int32} {o2 : dS} (C : dc_C p s m args meth c cX10_fewest (some .int) 5 RX10 wsX10_fewest D ty eo A)   (q : dS) (y0 : Int32) (H : Heap) (locs : List Loc) (ls : Array Slot) (h : zX10_fewest_53  q y0 = some (o1, o2)) (hP : va_P D vwCl (w10 ty ad q) H) (hD : va_D A (w10 ty ad q)) (hS : va_S A s.heap H locs) (hl : lv_has ls 5 []) : W p l e ({ frames := 89, cells := 0, slots := 0, locals := 2272 } : Room) s m args below meth c H locs 0 0 (MQ below (va_Qi (fun (r : Int32) (u : va_W) => o1 = r ∧ w10 ty ad o2 = u) (kz_B D ty A) A) args s 0 0 A) (F0 m 53 ls [.int y0]) := by
  have C0 := C
  obtain ⟨hx, hb, hr, hts, hown, hlocks, hml, hK, hN, hE, hA⟩ := C
  unfold zX10_fewest_53 at h
  cases h
  exact kz_iret hx hb hr hlocks hP hK hD hS dX10_fewest_53 ⟨rfl, rfl⟩
set_option maxHeartbeats 4000000 in
set_option maxRecDepth 100000 in
theorem WX10_fewest_32 {p : Program} {l : Launch} {e : Env} {s : State} {m : MethodId} {args : Array Value} {below : List Frame} {meth : Method} {c : Code} {D : va_G} {ty : Nat → ClassId} {eo : Nat → Nat} {A : Nat → Prop} {ad : Nat → Nat} {o1 : Int32} {o2 : dS} (C : dc_C p s m args meth c cX10_fewest (some .int) 5 RX10 wsX10_fewest D ty eo A)   (q : dS) (x2 : Int32) (H : Heap) (locs : List Loc) (ls : Array Slot) (h : zX10_fewest_32  q x2 = some (o1, o2)) (hP : va_P D vwCl (w10 ty ad q) H) (hD : va_D A (w10 ty ad q)) (hS : va_S A s.heap H locs) (hl : lv_has ls 5 [(0, .ref (ad 0)), (2, .int x2)]) : W p l e ({ frames := 89, cells := 0, slots := 0, locals := 2272 } : Room) s m args below meth c H locs 0 0 (MQ below (va_Qi (fun (r : Int32) (u : va_W) => o1 = r ∧ w10 ty ad o2 = u) (kz_B D ty A) A) args s 0 0 A) (F0 m 32 ls []) := by
  have C0 := C
  obtain ⟨hx, hb, hr, hts, hown, hlocks, hml, hK, hN, hE, hA⟩ := C
  unfold zX10_fewest_32 at h
  refine lv_aload_n hx hb dX10_fewest_32 rfl (lv_at hl 0 rfl) ?_
  refine va_get (D := D) (ci := 10) (v := .ref (ad 21)) (C := RX10) (T := TX10) (N := 56) hx hb hts u9_wsX10_fewest_X10 hown hK hP 0 rfl rfl 40 (by decide) (hts (.fieldLink RX10 91 "TurnedFloorsModel" "dist" "[I") f9_wsX10_fewest_213) (fun _ h9 => h9) rfl dX10_fewest_33 ?_
  refine lv_iload_n hx hb dX10_fewest_36 rfl (lv_at hl 1 rfl) ?_
  obtain ⟨g1, h⟩ := dG_some h
  refine va_iald hx hb hK hP 21 0 rfl rfl (dg_in g1) dX10_fewest_37 ?_
  obtain ⟨v2, ev2, h⟩ := dL_some h
  refine kz_topi v2 ev2 ?_
  refine lv_ldc (v := 1000000) hx hb hown (hts (.constant RX10 188 1000000) f9_wsX10_fewest_214) dX10_fewest_38 ?_
  refine lv_icmp_ne (tgt := 47) hx hb dX10_fewest_40 (by decide) (fun c9 => ?_) (fun c9 => ?_)
  · rw [if_neg c9] at h
    refine lv_aload_n hx hb dX10_fewest_47 rfl (lv_at hl 0 rfl) ?_
    refine va_get (D := D) (ci := 10) (v := .ref (ad 21)) (C := RX10) (T := TX10) (N := 56) hx hb hts u9_wsX10_fewest_X10 hown hK hP 0 rfl rfl 40 (by decide) (hts (.fieldLink RX10 91 "TurnedFloorsModel" "dist" "[I") f9_wsX10_fewest_213) (fun _ h9 => h9) rfl dX10_fewest_48 ?_
    refine lv_iload_n hx hb dX10_fewest_51 rfl (lv_at hl 1 rfl) ?_
    obtain ⟨g3, h⟩ := dG_some h
    refine va_iald hx hb hK hP 21 0 rfl rfl (dg_in g3) dX10_fewest_52 ?_
    obtain ⟨v4, ev4, h⟩ := dL_some h
    refine kz_topi v4 ev4 ?_
    exact WX10_fewest_53 C0  _ _ _ _ _ h hP hD hS (lv_sub hl [] rfl)
  · rw [if_pos c9] at h
    refine lv_iconst (v := (-1)) hx hb dX10_fewest_43 (by decide) ?_
    refine lv_goto (tgt := 53) hx hb dX10_fewest_44 (by decide) ?_
    exact WX10_fewest_53 C0  _ _ _ _ _ h hP hD hS (lv_sub hl [] rfl)
set_option maxHeartbeats 4000000 in
set_option maxRecDepth 100000 in
theorem qX10_fewest (l : Launch) (D : va_G) (ty : Nat → ClassId) (eo : Nat → Nat) (sz : Nat) (ad : Nat → Nat) (q : dS) (p1 : Int32) (o1 : Int32) (o2 : dS) (h : zX10_fewest q p1 = some (o1, o2)) : Met l yX10_fewest wsX10_fewest ({ frames := 89, cells := 0, slots := 0, locals := 2272 } : Room) (va_Pc [.ref (ad 0), .int p1] (kz_pre D ty eo (w10 ty ad q) sz)) (va_Qi (fun (r : Int32) (u : va_W) => o1 = r ∧ w10 ty ad o2 = u) (kz_B D ty (va_A (w10 ty ad q) sz)) (va_A (w10 ty ad q) sz)) 0 0 (va_A (w10 ty ad q) sz) := by
  refine Met.ofW (cc := cX10_fewest) (maxL := 5) (ret := (some .int)) (by decide) rfl ?_
  intro p e s m args below meth c s₁ B hml hv
  obtain ⟨rfl, hsz, hP, hK, hD0, hN, hE⟩ := hv
  have hx := B.exec
  have hb := B.bytes
  have hr := B.returns
  have hts := atoms_spec (ws := wsX10_fewest) B.pre
  have hown : s.vm.findClass RX10 = some m.cls := findClass_of_methodNamed B.named
  have hlocks := B.notSynchronized
  subst hsz
  have hD := hD0.self (sz := s.heap.size)
  generalize hAe : va_A (w10 ty ad q) s.heap.size = A at hD hE ⊢
  have hA : ∀ q : Nat, s.heap.size ≤ q → A q := fun q h => by rw [← hAe]; exact Or.inr h
  clear hAe
  have hS : va_S A s.heap s.heap [] := va_S.rf
  have hl := lv_entry ([.ref (ad 0), .int p1]) (n := 5) (Nat.le_of_ble_eq_true rfl)
  rw [lg_entry_eq]
  generalize (lg_sl ([.ref (ad 0), .int p1]) ++ List.replicate (5 - (lg_sl ([.ref (ad 0), .int p1])).length) Slot.unset).toArray = ls at hl ⊢
  have hl : lv_has ls 5 [(0, .ref (ad 0)), (1, .int p1)] := hl
  have C : dc_C p s m _ meth c cX10_fewest (some .int) 5 RX10 wsX10_fewest D ty eo A := ⟨hx, hb, hr, hts, hown, hlocks, hml, hK, hN, hE, hA⟩
  unfold zX10_fewest at h
  refine lv_iload_n hx hb dX10_fewest_0 rfl (lv_at hl 1 rfl) ?_
  refine lv_iconst (v := (-1)) hx hb dX10_fewest_1 (by decide) ?_
  refine lv_icmp_ge (tgt := 7) hx hb dX10_fewest_2 (by decide) (fun c9 => ?_) (fun c9 => ?_)
  · rw [if_pos c9] at h
    refine lv_aload_n hx hb dX10_fewest_7 rfl (lv_at hl 0 rfl) ?_
    obtain ⟨q3, h2, h⟩ := dV_some h
    refine dw_kv (va_runV (As := []) (rest := []) ⟨hx, hb, hml, hown, hts⟩ (qX10_laysDist l D ty eo _ ad q  q3 h2) (cwV 0 hts gX10_fewest_X10_laysDist rfl rfl rfl hd_X10_laysDist_v ⟨Nat.le_of_ble_eq_true rfl, Nat.le_of_ble_eq_true rfl⟩) (pv10_10_0 hK hN hE hP hD hS hA) rfl rfl hl.1 rfl (lv_room (Nat.le_of_ble_eq_true rfl)) dX10_fewest_8 ⟨Nat.le_of_ble_eq_true rfl, Nat.le_of_ble_eq_true rfl⟩) hD hS hA (fun u9 H locs hw hp hd hs => ?_)
    clear hP hD hS
    obtain rfl := hw
    have hP := hp; have hD := hd; have hS := hs; clear hp hd hs
    refine lv_aload_n hx hb dX10_fewest_11 rfl (lv_at hl 0 rfl) ?_
    obtain ⟨r4, q6, h5, h⟩ := dB_some h
    refine dw_ki (va_runV (As := []) (rest := []) ⟨hx, hb, hml, hown, hts⟩ (qX10_towerNow l D ty eo _ ad q3  r4 q6 h5) (cwV 0 hts gX10_fewest_X10_towerNow rfl rfl rfl hd_X10_towerNow_v ⟨Nat.le_of_ble_eq_true rfl, Nat.le_of_ble_eq_true rfl⟩) (pv10_10_0 hK hN hE hP hD hS hA) rfl rfl hl.1 rfl (lv_room (Nat.le_of_ble_eq_true rfl)) dX10_fewest_12 ⟨Nat.le_of_ble_eq_true rfl, Nat.le_of_ble_eq_true rfl⟩) hD hS hA (fun r9 u9 H locs hw hp hd hs => ?_)
    clear hP hD hS
    obtain ⟨rfl, rfl⟩ := hw
    have hP := hp; have hD := hd; have hS := hs; clear hp hd hs
    refine lv_istore_n (lv' := [(2, .int r4), (0, .ref (ad 0)), (1, .int p1)]) hx hb dX10_fewest_15 rfl hl (by decide) rfl (fun ls hl => ?_)
    refine lv_aload_n hx hb dX10_fewest_16 rfl (lv_at hl 1 rfl) ?_
    refine va_get (D := D) (ci := 10) (v := .ref (ad 21)) (C := RX10) (T := TX10) (N := 56) hx hb hts u9_wsX10_fewest_X10 hown hK hP 0 rfl rfl 40 (by decide) (hts (.fieldLink RX10 91 "TurnedFloorsModel" "dist" "[I") f9_wsX10_fewest_213) (fun _ h9 => h9) rfl dX10_fewest_17 ?_
    refine lv_iload_n hx hb dX10_fewest_20 rfl (lv_at hl 0 rfl) ?_
    obtain ⟨g7, h⟩ := dG_some h
    refine va_iald hx hb hK hP 21 0 rfl rfl (dg_in g7) dX10_fewest_21 ?_
    obtain ⟨v8, ev8, h⟩ := dL_some h
    refine kz_topi v8 ev8 ?_
    refine lv_ldc (v := 1000000) hx hb hown (hts (.constant RX10 188 1000000) f9_wsX10_fewest_214) dX10_fewest_22 ?_
    refine lv_icmp_eq (tgt := 32) hx hb dX10_fewest_24 (by decide) (fun c9 => ?_) (fun c9 => ?_)
    · rw [if_pos c9] at h
      exact WX10_fewest_32 C  _ _ _ _ _ h hP hD hS (lv_sub hl [1, 0] rfl)
    · rw [if_neg c9] at h
      refine lv_iload_n hx hb dX10_fewest_27 rfl (lv_at hl 2 rfl) ?_
      refine lv_iconst (v := (-1)) hx hb dX10_fewest_28 (by decide) ?_
      refine lv_icmp_ne (tgt := 54) hx hb dX10_fewest_29 (by decide) (fun c9 => ?_) (fun c9 => ?_)
      · rw [if_neg c9] at h
        refine lv_iload_n hx hb dX10_fewest_54 rfl (lv_at hl 2 rfl) ?_
        refine lv_aload_n hx hb dX10_fewest_55 rfl (lv_at hl 1 rfl) ?_
        refine va_get (D := D) (ci := 10) (v := .ref (ad 21)) (C := RX10) (T := TX10) (N := 56) hx hb hts u9_wsX10_fewest_X10 hown hK hP 0 rfl rfl 40 (by decide) (hts (.fieldLink RX10 91 "TurnedFloorsModel" "dist" "[I") f9_wsX10_fewest_213) (fun _ h9 => h9) rfl dX10_fewest_56 ?_
        refine lv_iload_n hx hb dX10_fewest_59 rfl (lv_at hl 0 rfl) ?_
        obtain ⟨g9, h⟩ := dG_some h
        refine va_iald hx hb hK hP 21 0 rfl rfl (dg_in g9) dX10_fewest_60 ?_
        obtain ⟨v10, ev10, h⟩ := dL_some h
        refine kz_topi v10 ev10 ?_
        refine lv_icmp_lt (tgt := 66) hx hb dX10_fewest_61 (by decide) (fun c9 => ?_) (fun c9 => ?_)
        · rw [if_pos c9] at h
          refine lv_iconst (v := 0) hx hb dX10_fewest_66 (by decide) ?_
          refine lv_istore_n (lv' := [(3, .int 0), (2, .int r4), (0, .ref (ad 0)), (1, .int p1)]) hx hb dX10_fewest_67 rfl hl (by decide) rfl (fun ls hl => ?_)
          refine lv_iconst (v := 0) hx hb dX10_fewest_68 (by decide) ?_
          refine lv_istore (lv' := [(4, .int 0), (3, .int 0), (2, .int r4), (0, .ref (ad 0)), (1, .int p1)]) hx hb dX10_fewest_69 hl (by decide) rfl (fun ls hl => ?_)
          exact WX10_fewest_71 C  _ _ _ _ _ _ _ _ _ h hP hD hS (lv_sub hl [3, 4, 2, 1, 0] rfl)
        · rw [if_neg c9] at h
          refine lv_iconst (v := (-1)) hx hb dX10_fewest_64 (by decide) ?_
          cases h
          exact kz_iret hx hb hr hlocks hP hK hD hS dX10_fewest_65 ⟨rfl, rfl⟩
      · rw [if_pos c9] at h
        exact WX10_fewest_32 C  _ _ _ _ _ h hP hD hS (lv_sub hl [1, 0] rfl)
  · rw [if_neg c9] at h
    refine lv_iconst (v := (-1)) hx hb dX10_fewest_5 (by decide) ?_
    cases h
    exact kz_iret hx hb hr hlocks hP hK hD hS dX10_fewest_6 ⟨rfl, rfl⟩

set_option maxHeartbeats 4000000 in
set_option maxRecDepth 100000 in
theorem qX10_many (l : Launch) (D : va_G) (ty : Nat → ClassId) (eo : Nat → Nat) (sz : Nat) (ad : Nat → Nat) (q : dS)  (o1 : Int32) (o2 : dS) (h : zX10_many q = some (o1, o2)) : Met l yX10_many wsX10_many ({ frames := 89, cells := 0, slots := 0, locals := 2272 } : Room) (va_Pc [.ref (ad 0)] (kz_pre D ty eo (w10 ty ad q) sz)) (va_Qi (fun (r : Int32) (u : va_W) => o1 = r ∧ w10 ty ad o2 = u) (kz_B D ty (va_A (w10 ty ad q) sz)) (va_A (w10 ty ad q) sz)) 0 0 (va_A (w10 ty ad q) sz) := by
  refine Met.ofW (cc := cX10_many) (maxL := 1) (ret := (some .int)) (by decide) rfl ?_
  intro p e s m args below meth c s₁ B hml hv
  obtain ⟨rfl, hsz, hP, hK, hD0, hN, hE⟩ := hv
  have hx := B.exec
  have hb := B.bytes
  have hr := B.returns
  have hts := atoms_spec (ws := wsX10_many) B.pre
  have hown : s.vm.findClass RX10 = some m.cls := findClass_of_methodNamed B.named
  have hlocks := B.notSynchronized
  subst hsz
  have hD := hD0.self (sz := s.heap.size)
  generalize hAe : va_A (w10 ty ad q) s.heap.size = A at hD hE ⊢
  have hA : ∀ q : Nat, s.heap.size ≤ q → A q := fun q h => by rw [← hAe]; exact Or.inr h
  clear hAe
  have hS : va_S A s.heap s.heap [] := va_S.rf
  have hl := lv_entry ([.ref (ad 0)]) (n := 1) (Nat.le_of_ble_eq_true rfl)
  rw [lg_entry_eq]
  generalize (lg_sl ([.ref (ad 0)]) ++ List.replicate (1 - (lg_sl ([.ref (ad 0)])).length) Slot.unset).toArray = ls at hl ⊢
  have hl : lv_has ls 1 [(0, .ref (ad 0))] := hl
  have C : dc_C p s m _ meth c cX10_many (some .int) 1 RX10 wsX10_many D ty eo A := ⟨hx, hb, hr, hts, hown, hlocks, hml, hK, hN, hE, hA⟩
  unfold zX10_many at h
  refine lv_aload_n hx hb dX10_many_0 rfl (lv_at hl 0 rfl) ?_
  obtain ⟨q3, h2, h⟩ := dV_some h
  refine dw_kv (va_runV (As := []) (rest := []) ⟨hx, hb, hml, hown, hts⟩ (qX10_laysDist l D ty eo _ ad q  q3 h2) (cwV 0 hts gX10_many_X10_laysDist rfl rfl rfl hd_X10_laysDist_v ⟨Nat.le_of_ble_eq_true rfl, Nat.le_of_ble_eq_true rfl⟩) (pv10_10_0 hK hN hE hP hD hS hA) rfl rfl hl.1 rfl (lv_room (Nat.le_of_ble_eq_true rfl)) dX10_many_1 ⟨Nat.le_of_ble_eq_true rfl, Nat.le_of_ble_eq_true rfl⟩) hD hS hA (fun u9 H locs hw hp hd hs => ?_)
  clear hP hD hS
  obtain rfl := hw
  have hP := hp; have hD := hd; have hS := hs; clear hp hd hs
  refine lv_aload_n hx hb dX10_many_4 rfl (lv_at hl 0 rfl) ?_
  refine va_get (D := D) (ci := 10) (v := .ref (ad 22)) (C := RX10) (T := TX10) (N := 56) hx hb hts u9_wsX10_many_X10 hown hK hP 0 rfl rfl 41 (by decide) (hts (.fieldLink RX10 94 "TurnedFloorsModel" "rowMany" "[I") f9_wsX10_many_216) (fun _ h9 => h9) rfl dX10_many_5 ?_
  refine lv_aload_n hx hb dX10_many_8 rfl (lv_at hl 0 rfl) ?_
  obtain ⟨r4, q6, h5, h⟩ := dB_some h
  refine dw_ki (va_runV (As := []) (rest := [.ref (ad 22)]) ⟨hx, hb, hml, hown, hts⟩ (qX10_towerNow l D ty eo _ ad q3  r4 q6 h5) (cwV 0 hts gX10_many_X10_towerNow rfl rfl rfl hd_X10_towerNow_v ⟨Nat.le_of_ble_eq_true rfl, Nat.le_of_ble_eq_true rfl⟩) (pv10_10_0 hK hN hE hP hD hS hA) rfl rfl hl.1 rfl (lv_room (Nat.le_of_ble_eq_true rfl)) dX10_many_9 ⟨Nat.le_of_ble_eq_true rfl, Nat.le_of_ble_eq_true rfl⟩) hD hS hA (fun r9 u9 H locs hw hp hd hs => ?_)
  clear hP hD hS
  obtain ⟨rfl, rfl⟩ := hw
  have hP := hp; have hD := hd; have hS := hs; clear hp hd hs
  obtain ⟨g7, h⟩ := dG_some h
  refine va_iald hx hb hK hP 22 0 rfl rfl (dg_in g7) dX10_many_12 ?_
  obtain ⟨v8, ev8, h⟩ := dL_some h
  refine kz_topi v8 ev8 ?_
  cases h
  exact kz_iret hx hb hr hlocks hP hK hD hS dX10_many_13 ⟨rfl, rfl⟩

set_option maxHeartbeats 4000000 in
set_option maxRecDepth 100000 in
theorem qX10_compare (l : Launch) (D : va_G) (ty : Nat → ClassId) (eo : Nat → Nat) (sz : Nat) (ad : Nat → Nat) (q : dS) (p1 : Int32) (o1 : Int32) (o2 : dS) (h : zX10_compare q p1 = some (o1, o2)) : Met l yX10_compare wsX10_compare ({ frames := 90, cells := 0, slots := 0, locals := 2296 } : Room) (va_Pc [.ref (ad 0), .int p1] (kz_pre D ty eo (w10 ty ad q) sz)) (va_Qi (fun (r : Int32) (u : va_W) => o1 = r ∧ w10 ty ad o2 = u) (kz_B D ty (va_A (w10 ty ad q) sz)) (va_A (w10 ty ad q) sz)) 0 0 (va_A (w10 ty ad q) sz) := by
  refine Met.ofW (cc := cX10_compare) (maxL := 4) (ret := (some .int)) (by decide) rfl ?_
  intro p e s m args below meth c s₁ B hml hv
  obtain ⟨rfl, hsz, hP, hK, hD0, hN, hE⟩ := hv
  have hx := B.exec
  have hb := B.bytes
  have hr := B.returns
  have hts := atoms_spec (ws := wsX10_compare) B.pre
  have hown : s.vm.findClass RX10 = some m.cls := findClass_of_methodNamed B.named
  have hlocks := B.notSynchronized
  subst hsz
  have hD := hD0.self (sz := s.heap.size)
  generalize hAe : va_A (w10 ty ad q) s.heap.size = A at hD hE ⊢
  have hA : ∀ q : Nat, s.heap.size ≤ q → A q := fun q h => by rw [← hAe]; exact Or.inr h
  clear hAe
  have hS : va_S A s.heap s.heap [] := va_S.rf
  have hl := lv_entry ([.ref (ad 0), .int p1]) (n := 4) (Nat.le_of_ble_eq_true rfl)
  rw [lg_entry_eq]
  generalize (lg_sl ([.ref (ad 0), .int p1]) ++ List.replicate (4 - (lg_sl ([.ref (ad 0), .int p1])).length) Slot.unset).toArray = ls at hl ⊢
  have hl : lv_has ls 4 [(0, .ref (ad 0)), (1, .int p1)] := hl
  have C : dc_C p s m _ meth c cX10_compare (some .int) 4 RX10 wsX10_compare D ty eo A := ⟨hx, hb, hr, hts, hown, hlocks, hml, hK, hN, hE, hA⟩
  unfold zX10_compare at h
  refine lv_aload_n hx hb dX10_compare_0 rfl (lv_at hl 0 rfl) ?_
  refine lv_iload_n hx hb dX10_compare_1 rfl (lv_at hl 1 rfl) ?_
  obtain ⟨r1, q3, h2, h⟩ := dB_some h
  refine dw_ki (va_runV (As := [.int p1]) (rest := []) ⟨hx, hb, hml, hown, hts⟩ (qX10_isLaw l D ty eo _ ad q p1 r1 q3 h2) (cwV 1 hts gX10_compare_X10_isLaw rfl rfl rfl hd_X10_isLaw_v ⟨Nat.le_of_ble_eq_true rfl, Nat.le_of_ble_eq_true rfl⟩) (pv10_10_0 hK hN hE hP hD hS hA) rfl rfl hl.1 rfl (lv_room (Nat.le_of_ble_eq_true rfl)) dX10_compare_2 ⟨Nat.le_of_ble_eq_true rfl, Nat.le_of_ble_eq_true rfl⟩) hD hS hA (fun r9 u9 H locs hw hp hd hs => ?_)
  clear hP hD hS
  obtain ⟨rfl, rfl⟩ := hw
  have hP := hp; have hD := hd; have hS := hs; clear hp hd hs
  refine lv_if_ne (tgt := 10) hx hb dX10_compare_5 (by decide) (fun c9 => ?_) (fun c9 => ?_)
  · rw [if_neg c9] at h
    refine lv_aload_n hx hb dX10_compare_10 rfl (lv_at hl 0 rfl) ?_
    refine va_get (D := D) (ci := 10) (v := .ref (ad 2)) (C := RX10) (T := TX10) (N := 56) hx hb hts u9_wsX10_compare_X10 hown hK hP 0 rfl rfl 2 (by decide) (hts (.fieldLink RX10 28 "TurnedFloorsModel" "kept" "[I") f9_wsX10_compare_218) (fun _ h9 => h9) rfl dX10_compare_11 ?_
    refine lv_bipush (v := 32) hx hb dX10_compare_14 (by decide) ?_
    refine va_iald hx hb hK hP 2 0 rfl rfl (by simp only [vp_in]; decide) dX10_compare_16 ?_
    refine kz_topi (q3.1 2 32) (congrArg (q3.1 2) (by decide +kernel : Int32.toNatClampNeg 32 = 32)) ?_
    refine lv_istore_n (lv' := [(2, .int (q3.1 2 32)), (0, .ref (ad 0)), (1, .int p1)]) hx hb dX10_compare_17 rfl hl (by decide) rfl (fun ls hl => ?_)
    refine lv_aload_n hx hb dX10_compare_18 rfl (lv_at hl 1 rfl) ?_
    refine va_get (D := D) (ci := 10) (v := .ref (ad 2)) (C := RX10) (T := TX10) (N := 56) hx hb hts u9_wsX10_compare_X10 hown hK hP 0 rfl rfl 2 (by decide) (hts (.fieldLink RX10 28 "TurnedFloorsModel" "kept" "[I") f9_wsX10_compare_218) (fun _ h9 => h9) rfl dX10_compare_19 ?_
    refine lv_bipush (v := 32) hx hb dX10_compare_22 (by decide) ?_
    refine lv_iload_n hx hb dX10_compare_24 rfl (lv_at hl 2 rfl) ?_
    refine va_iast hx hb hK hP hD hS 2 0 rfl rfl (by simp only [vp_in]; decide) dX10_compare_25 (fun H locs hp hd hs => ?_)
    obtain ⟨q4, eq4, h⟩ := dL_some h
    refine kz_re (w2 := w10 ty ad q4) hp hd hs (by rw [(by decide +kernel : Int32.toNatClampNeg 32 = 32), ← eq4]; exact w10_a2 ty ad q3 32 p1) ?_
    clear hp hd hs hP hD hS
    intro hP hD hS
    refine lv_aload_n hx hb dX10_compare_26 rfl (lv_at hl 1 rfl) ?_
    refine lv_iconst (v := (-1)) hx hb dX10_compare_27 (by decide) ?_
    obtain ⟨r5, q7, h6, h⟩ := dB_some h
    refine dw_ki (va_runV (As := [.int (-1)]) (rest := []) ⟨hx, hb, hml, hown, hts⟩ (qX10_fewest l D ty eo _ ad q4 (-1) r5 q7 h6) (cwV 1 hts gX10_compare_X10_fewest rfl rfl rfl hd_X10_fewest_v ⟨Nat.le_of_ble_eq_true rfl, Nat.le_of_ble_eq_true rfl⟩) (pv10_10_0 hK hN hE hP hD hS hA) rfl rfl hl.1 rfl (lv_room (Nat.le_of_ble_eq_true rfl)) dX10_compare_28 ⟨Nat.le_of_ble_eq_true rfl, Nat.le_of_ble_eq_true rfl⟩) hD hS hA (fun r9 u9 H locs hw hp hd hs => ?_)
    clear hP hD hS
    obtain ⟨rfl, rfl⟩ := hw
    have hP := hp; have hD := hd; have hS := hs; clear hp hd hs
    refine lv_istore_n (lv' := [(3, .int r5), (2, .int (q3.1 2 32)), (0, .ref (ad 0)), (1, .int p1)]) hx hb dX10_compare_31 rfl hl (by decide) rfl (fun ls hl => ?_)
    refine lv_aload_n hx hb dX10_compare_32 rfl (lv_at hl 2 rfl) ?_
    refine va_get (D := D) (ci := 10) (v := .ref (ad 2)) (C := RX10) (T := TX10) (N := 56) hx hb hts u9_wsX10_compare_X10 hown hK hP 0 rfl rfl 2 (by decide) (hts (.fieldLink RX10 28 "TurnedFloorsModel" "kept" "[I") f9_wsX10_compare_218) (fun _ h9 => h9) rfl dX10_compare_33 ?_
    refine lv_bipush (v := 32) hx hb dX10_compare_36 (by decide) ?_
    refine lv_iload_n hx hb dX10_compare_38 rfl (lv_at hl 1 rfl) ?_
    refine va_iast hx hb hK hP hD hS 2 0 rfl rfl (by simp only [vp_in]; decide) dX10_compare_39 (fun H locs hp hd hs => ?_)
    obtain ⟨q8, eq8, h⟩ := dL_some h
    refine kz_re (w2 := w10 ty ad q8) hp hd hs (by rw [(by decide +kernel : Int32.toNatClampNeg 32 = 32), ← eq8]; exact w10_a2 ty ad q7 32 (q3.1 2 32)) ?_
    clear hp hd hs hP hD hS
    intro hP hD hS
    refine lv_iload_n hx hb dX10_compare_40 rfl (lv_at hl 0 rfl) ?_
    cases h
    exact kz_iret hx hb hr hlocks hP hK hD hS dX10_compare_41 ⟨rfl, rfl⟩
  · rw [if_pos c9] at h
    refine lv_iconst (v := (-1)) hx hb dX10_compare_8 (by decide) ?_
    cases h
    exact kz_iret hx hb hr hlocks hP hK hD hS dX10_compare_9 ⟨rfl, rfl⟩

set_option maxHeartbeats 4000000 in
set_option maxRecDepth 100000 in
theorem WX10_worst_135 {p : Program} {l : Launch} {e : Env} {s : State} {m : MethodId} {args : Array Value} {below : List Frame} {meth : Method} {c : Code} {D : va_G} {ty : Nat → ClassId} {eo : Nat → Nat} {A : Nat → Prop} {ad : Nat → Nat} {o1 : Int32} {o2 : dS} (C : dc_C p s m args meth c cX10_worst (some .int) 6 RX10 wsX10_worst D ty eo A)   (q : dS) (y0 : Int32) (H : Heap) (locs : List Loc) (ls : Array Slot) (h : zX10_worst_135  q y0 = some (o1, o2)) (hP : va_P D vwCl (w10 ty ad q) H) (hD : va_D A (w10 ty ad q)) (hS : va_S A s.heap H locs) (hl : lv_has ls 6 []) : W p l e ({ frames := 89, cells := 0, slots := 0, locals := 2272 } : Room) s m args below meth c H locs 0 0 (MQ below (va_Qi (fun (r : Int32) (u : va_W) => o1 = r ∧ w10 ty ad o2 = u) (kz_B D ty A) A) args s 0 0 A) (F0 m 135 ls [.int y0]) := by
  have C0 := C
  obtain ⟨hx, hb, hr, hts, hown, hlocks, hml, hK, hN, hE, hA⟩ := C
  unfold zX10_worst_135 at h
  cases h
  exact kz_iret hx hb hr hlocks hP hK hD hS dX10_worst_135 ⟨rfl, rfl⟩
set_option maxHeartbeats 4000000 in
set_option maxRecDepth 100000 in
theorem WX10_worst_110 {p : Program} {l : Launch} {e : Env} {s : State} {m : MethodId} {args : Array Value} {below : List Frame} {meth : Method} {c : Code} {D : va_G} {ty : Nat → ClassId} {eo : Nat → Nat} {A : Nat → Prop} {ad : Nat → Nat} {o1 : Int32} {o2 : dS} (C : dc_C p s m args meth c cX10_worst (some .int) 6 RX10 wsX10_worst D ty eo A) {k25 : dS → Int32 → Int32 → Int32 → Int32 → Int32 → Option (Int32 × dS)} (hk25 : ∀ (q : dS) (x1 : Int32) (x2 : Int32) (x3 : Int32) (x4 : Int32) (x5 : Int32) (H : Heap) (locs : List Loc) (ls : Array Slot), k25 q x1 x2 x3 x4 x5 = some (o1, o2) → va_P D vwCl (w10 ty ad q) H → va_D A (w10 ty ad q) → va_S A s.heap H locs → lv_has ls 6 [(0, .ref (ad 0)), (1, .int x1), (2, .int x2), (3, .int x3), (4, .int x4), (5, .int x5)] → W p l e ({ frames := 89, cells := 0, slots := 0, locals := 2272 } : Room) s m args below meth c H locs 0 0 (MQ below (va_Qi (fun (r : Int32) (u : va_W) => o1 = r ∧ w10 ty ad o2 = u) (kz_B D ty A) A) args s 0 0 A) (F0 m 25 ls [])) (q : dS) (x1 : Int32) (x2 : Int32) (x3 : Int32) (x4 : Int32) (x5 : Int32) (H : Heap) (locs : List Loc) (ls : Array Slot) (h : zX10_worst_110 k25 q x1 x2 x3 x4 x5 = some (o1, o2)) (hP : va_P D vwCl (w10 ty ad q) H) (hD : va_D A (w10 ty ad q)) (hS : va_S A s.heap H locs) (hl : lv_has ls 6 [(0, .ref (ad 0)), (1, .int x1), (2, .int x2), (3, .int x3), (4, .int x4), (5, .int x5)]) : W p l e ({ frames := 89, cells := 0, slots := 0, locals := 2272 } : Room) s m args below meth c H locs 0 0 (MQ below (va_Qi (fun (r : Int32) (u : va_W) => o1 = r ∧ w10 ty ad o2 = u) (kz_B D ty A) A) args s 0 0 A) (F0 m 110 ls []) := by
  have C0 := C
  obtain ⟨hx, hb, hr, hts, hown, hlocks, hml, hK, hN, hE, hA⟩ := C
  unfold zX10_worst_110 at h
  refine lv_iinc (v := x5 + 1) (lv' := [(5, .int (x5 + 1)), (0, .ref (ad 0)), (1, .int x1), (2, .int x2), (3, .int x3), (4, .int x4)]) hx hb dX10_worst_110 hl (k := 5) rfl rfl (by decide) rfl (fun ls hl => ?_)
  refine lv_goto (tgt := 25) hx hb dX10_worst_113 (by decide) ?_
  exact hk25 _ _ _ _ _ _ _ _ _ h hP hD hS (lv_sub hl [1, 2, 3, 4, 5, 0] rfl)
set_option maxHeartbeats 4000000 in
set_option maxRecDepth 100000 in
theorem WX10_worst_94 {p : Program} {l : Launch} {e : Env} {s : State} {m : MethodId} {args : Array Value} {below : List Frame} {meth : Method} {c : Code} {D : va_G} {ty : Nat → ClassId} {eo : Nat → Nat} {A : Nat → Prop} {ad : Nat → Nat} {o1 : Int32} {o2 : dS} (C : dc_C p s m args meth c cX10_worst (some .int) 6 RX10 wsX10_worst D ty eo A) {k25 : dS → Int32 → Int32 → Int32 → Int32 → Int32 → Option (Int32 × dS)} (hk25 : ∀ (q : dS) (x1 : Int32) (x2 : Int32) (x3 : Int32) (x4 : Int32) (x5 : Int32) (H : Heap) (locs : List Loc) (ls : Array Slot), k25 q x1 x2 x3 x4 x5 = some (o1, o2) → va_P D vwCl (w10 ty ad q) H → va_D A (w10 ty ad q) → va_S A s.heap H locs → lv_has ls 6 [(0, .ref (ad 0)), (1, .int x1), (2, .int x2), (3, .int x3), (4, .int x4), (5, .int x5)] → W p l e ({ frames := 89, cells := 0, slots := 0, locals := 2272 } : Room) s m args below meth c H locs 0 0 (MQ below (va_Qi (fun (r : Int32) (u : va_W) => o1 = r ∧ w10 ty ad o2 = u) (kz_B D ty A) A) args s 0 0 A) (F0 m 25 ls [])) (q : dS) (x1 : Int32) (x2 : Int32) (x4 : Int32) (x5 : Int32) (y0 : Int32) (H : Heap) (locs : List Loc) (ls : Array Slot) (h : zX10_worst_94 k25 q x1 x2 x4 x5 y0 = some (o1, o2)) (hP : va_P D vwCl (w10 ty ad q) H) (hD : va_D A (w10 ty ad q)) (hS : va_S A s.heap H locs) (hl : lv_has ls 6 [(0, .ref (ad 0)), (1, .int x1), (2, .int x2), (4, .int x4), (5, .int x5)]) : W p l e ({ frames := 89, cells := 0, slots := 0, locals := 2272 } : Room) s m args below meth c H locs 0 0 (MQ below (va_Qi (fun (r : Int32) (u : va_W) => o1 = r ∧ w10 ty ad o2 = u) (kz_B D ty A) A) args s 0 0 A) (F0 m 94 ls [.int y0]) := by
  have C0 := C
  obtain ⟨hx, hb, hr, hts, hown, hlocks, hml, hK, hN, hE, hA⟩ := C
  unfold zX10_worst_94 at h
  refine lv_istore_n (lv' := [(3, .int y0), (0, .ref (ad 0)), (1, .int x1), (2, .int x2), (4, .int x4), (5, .int x5)]) hx hb dX10_worst_94 rfl hl (by decide) rfl (fun ls hl => ?_)
  refine lv_iload_n hx hb dX10_worst_95 rfl (lv_at hl 3 rfl) ?_
  refine lv_aload_n hx hb dX10_worst_96 rfl (lv_at hl 1 rfl) ?_
  refine va_get (D := D) (ci := 10) (v := .ref (ad 21)) (C := RX10) (T := TX10) (N := 56) hx hb hts u9_wsX10_worst_X10 hown hK hP 0 rfl rfl 40 (by decide) (hts (.fieldLink RX10 91 "TurnedFloorsModel" "dist" "[I") f9_wsX10_worst_220) (fun _ h9 => h9) rfl dX10_worst_97 ?_
  refine lv_iload hx hb dX10_worst_100 (lv_at hl 5 rfl) ?_
  obtain ⟨g1, h⟩ := dG_some h
  refine va_iald hx hb hK hP 21 0 rfl rfl (dg_in g1) dX10_worst_102 ?_
  obtain ⟨v2, ev2, h⟩ := dL_some h
  refine kz_topi v2 ev2 ?_
  obtain ⟨r3, h4, h⟩ := dV_some h
  refine dw_ks (va_runS (As := [.int x2, .int v2]) (rest := []) ⟨hx, hb, hml, hown, hts⟩ (qX10_greater l D ty eo _ x2 v2 _ h4) (va_cwS 2 hts gX10_worst_X10_greater rfl rfl rfl hd_X10_greater ⟨Nat.le_of_ble_eq_true rfl, Nat.le_of_ble_eq_true rfl⟩) (pvS_0 hK hN hE hP hD hS hA) rfl rfl hl.1 rfl (lv_room (Nat.le_of_ble_eq_true rfl)) dX10_worst_103 ⟨Nat.le_of_ble_eq_true rfl, Nat.le_of_ble_eq_true rfl⟩) hP hD hS hA (fun _ _ h9 => h9.2.symm) (fun r9 u9 H locs hw hp hd hs => ?_)
  obtain ⟨rfl, -⟩ := hw
  clear hP hD hS
  have hP := hp; have hD := hd; have hS := hs; clear hp hd hs
  refine lv_istore_n (lv' := [(2, .int r3), (3, .int y0), (0, .ref (ad 0)), (1, .int x1), (4, .int x4), (5, .int x5)]) hx hb dX10_worst_106 rfl hl (by decide) rfl (fun ls hl => ?_)
  refine lv_iinc (v := x4 + 1) (lv' := [(4, .int (x4 + 1)), (2, .int r3), (3, .int y0), (0, .ref (ad 0)), (1, .int x1), (5, .int x5)]) hx hb dX10_worst_107 hl (k := 4) rfl rfl (by decide) rfl (fun ls hl => ?_)
  exact WX10_worst_110 C0 hk25 _ _ _ _ _ _ _ _ _ h hP hD hS (lv_sub hl [3, 4, 1, 2, 0, 5] rfl)
set_option maxHeartbeats 4000000 in
set_option maxRecDepth 100000 in
theorem WX10_worst_25b {p : Program} {l : Launch} {e : Env} {s : State} {m : MethodId} {args : Array Value} {below : List Frame} {meth : Method} {c : Code} {D : va_G} {ty : Nat → ClassId} {eo : Nat → Nat} {A : Nat → Prop} {ad : Nat → Nat} {o1 : Int32} {o2 : dS} (C : dc_C p s m args meth c cX10_worst (some .int) 6 RX10 wsX10_worst D ty eo A) {k25 : dS → Int32 → Int32 → Int32 → Int32 → Int32 → Option (Int32 × dS)} (hk25 : ∀ (q : dS) (x1 : Int32) (x2 : Int32) (x3 : Int32) (x4 : Int32) (x5 : Int32) (H : Heap) (locs : List Loc) (ls : Array Slot), k25 q x1 x2 x3 x4 x5 = some (o1, o2) → va_P D vwCl (w10 ty ad q) H → va_D A (w10 ty ad q) → va_S A s.heap H locs → lv_has ls 6 [(0, .ref (ad 0)), (1, .int x1), (2, .int x2), (3, .int x3), (4, .int x4), (5, .int x5)] → W p l e ({ frames := 89, cells := 0, slots := 0, locals := 2272 } : Room) s m args below meth c H locs 0 0 (MQ below (va_Qi (fun (r : Int32) (u : va_W) => o1 = r ∧ w10 ty ad o2 = u) (kz_B D ty A) A) args s 0 0 A) (F0 m 25 ls [])) (q : dS) (x1 : Int32) (x2 : Int32) (x3 : Int32) (x4 : Int32) (x5 : Int32) (H : Heap) (locs : List Loc) (ls : Array Slot) (h : zX10_worst_25b k25 q x1 x2 x3 x4 x5 = some (o1, o2)) (hP : va_P D vwCl (w10 ty ad q) H) (hD : va_D A (w10 ty ad q)) (hS : va_S A s.heap H locs) (hl : lv_has ls 6 [(0, .ref (ad 0)), (1, .int x1), (2, .int x2), (3, .int x3), (4, .int x4), (5, .int x5)]) : W p l e ({ frames := 89, cells := 0, slots := 0, locals := 2272 } : Room) s m args below meth c H locs 0 0 (MQ below (va_Qi (fun (r : Int32) (u : va_W) => o1 = r ∧ w10 ty ad o2 = u) (kz_B D ty A) A) args s 0 0 A) (F0 m 25 ls []) := by
  have C0 := C
  obtain ⟨hx, hb, hr, hts, hown, hlocks, hml, hK, hN, hE, hA⟩ := C
  unfold zX10_worst_25b at h
  refine lv_iload hx hb dX10_worst_25 (lv_at hl 5 rfl) ?_
  refine lv_bipush (v := 64) hx hb dX10_worst_27 (by decide) ?_
  refine lv_aload_n hx hb dX10_worst_29 rfl (lv_at hl 0 rfl) ?_
  refine va_get (D := D) (ci := 10) (v := .int (q.1 0 37)) (C := RX10) (T := TX10) (N := 56) hx hb hts u9_wsX10_worst_X10 hown hK hP 0 rfl rfl 37 (by decide) (hts (.fieldLink RX10 386 "TurnedFloorsModel" "orderMany" "I") f9_wsX10_worst_221) (fun _ h9 => h9) rfl dX10_worst_30 ?_
  refine lv_imul hx hb dX10_worst_33 ?_
  refine lv_icmp_ge (tgt := 116) hx hb dX10_worst_34 (by decide) (fun c9 => ?_) (fun c9 => ?_)
  · rw [if_pos c9] at h
    refine lv_iload_n hx hb dX10_worst_116 rfl (lv_at hl 1 rfl) ?_
    refine lv_if_ne (tgt := 124) hx hb dX10_worst_117 (by decide) (fun c9 => ?_) (fun c9 => ?_)
    · rw [if_neg c9] at h
      refine lv_iload_n hx hb dX10_worst_124 rfl (lv_at hl 1 rfl) ?_
      refine lv_iconst (v := 1) hx hb dX10_worst_125 (by decide) ?_
      refine lv_icmp_ne (tgt := 133) hx hb dX10_worst_126 (by decide) (fun c9 => ?_) (fun c9 => ?_)
      · rw [if_neg c9] at h
        refine lv_iload hx hb dX10_worst_133 (lv_at hl 4 rfl) ?_
        exact WX10_worst_135 C0  _ _ _ _ _ h hP hD hS (lv_sub hl [] rfl)
      · rw [if_pos c9] at h
        refine lv_iload_n hx hb dX10_worst_129 rfl (lv_at hl 3 rfl) ?_
        refine lv_goto (tgt := 135) hx hb dX10_worst_130 (by decide) ?_
        exact WX10_worst_135 C0  _ _ _ _ _ h hP hD hS (lv_sub hl [] rfl)
    · rw [if_pos c9] at h
      refine lv_iload_n hx hb dX10_worst_120 rfl (lv_at hl 2 rfl) ?_
      refine lv_goto (tgt := 135) hx hb dX10_worst_121 (by decide) ?_
      exact WX10_worst_135 C0  _ _ _ _ _ h hP hD hS (lv_sub hl [] rfl)
  · rw [if_neg c9] at h
    refine lv_aload_n hx hb dX10_worst_37 rfl (lv_at hl 0 rfl) ?_
    refine lv_iload hx hb dX10_worst_38 (lv_at hl 5 rfl) ?_
    obtain ⟨r1, q3, h2, h⟩ := dB_some h
    refine dw_ki (va_runV (As := [.int x5]) (rest := []) ⟨hx, hb, hml, hown, hts⟩ (qX10_isThere l D ty eo _ ad q x5 r1 q3 h2) (cwV 1 hts gX10_worst_X10_isThere rfl rfl rfl hd_X10_isThere_v ⟨Nat.le_of_ble_eq_true rfl, Nat.le_of_ble_eq_true rfl⟩) (pv10_10_0 hK hN hE hP hD hS hA) rfl rfl hl.1 rfl (lv_room (Nat.le_of_ble_eq_true rfl)) dX10_worst_40 ⟨Nat.le_of_ble_eq_true rfl, Nat.le_of_ble_eq_true rfl⟩) hD hS hA (fun r9 u9 H locs hw hp hd hs => ?_)
    clear hP hD hS
    obtain ⟨rfl, rfl⟩ := hw
    have hP := hp; have hD := hd; have hS := hs; clear hp hd hs
    refine lv_if_eq (tgt := 110) hx hb dX10_worst_43 (by decide) (fun c9 => ?_) (fun c9 => ?_)
    · rw [if_pos c9] at h
      exact WX10_worst_110 C0 hk25 _ _ _ _ _ _ _ _ _ h hP hD hS (lv_sub hl [0, 1, 2, 3, 4, 5] rfl)
    · rw [if_neg c9] at h
      refine lv_aload_n hx hb dX10_worst_46 rfl (lv_at hl 0 rfl) ?_
      refine va_get (D := D) (ci := 10) (v := .ref (ad 21)) (C := RX10) (T := TX10) (N := 56) hx hb hts u9_wsX10_worst_X10 hown hK hP 0 rfl rfl 40 (by decide) (hts (.fieldLink RX10 91 "TurnedFloorsModel" "dist" "[I") f9_wsX10_worst_220) (fun _ h9 => h9) rfl dX10_worst_47 ?_
      refine lv_iload hx hb dX10_worst_50 (lv_at hl 5 rfl) ?_
      obtain ⟨g4, h⟩ := dG_some h
      refine va_iald hx hb hK hP 21 0 rfl rfl (dg_in g4) dX10_worst_52 ?_
      obtain ⟨v5, ev5, h⟩ := dL_some h
      refine kz_topi v5 ev5 ?_
      refine lv_ldc (v := 1000000) hx hb hown (hts (.constant RX10 188 1000000) f9_wsX10_worst_222) dX10_worst_53 ?_
      refine lv_icmp_ne (tgt := 61) hx hb dX10_worst_55 (by decide) (fun c9 => ?_) (fun c9 => ?_)
      · rw [if_neg c9] at h
        refine lv_aload_n hx hb dX10_worst_61 rfl (lv_at hl 0 rfl) ?_
        refine va_get (D := D) (ci := 10) (v := .ref (ad 21)) (C := RX10) (T := TX10) (N := 56) hx hb hts u9_wsX10_worst_X10 hown hK hP 0 rfl rfl 40 (by decide) (hts (.fieldLink RX10 91 "TurnedFloorsModel" "dist" "[I") f9_wsX10_worst_220) (fun _ h9 => h9) rfl dX10_worst_62 ?_
        refine lv_iload hx hb dX10_worst_65 (lv_at hl 5 rfl) ?_
        obtain ⟨g6, h⟩ := dG_some h
        refine va_iald hx hb hK hP 21 0 rfl rfl (dg_in g6) dX10_worst_67 ?_
        obtain ⟨v7, ev7, h⟩ := dL_some h
        refine kz_topi v7 ev7 ?_
        refine lv_iload_n hx hb dX10_worst_68 rfl (lv_at hl 2 rfl) ?_
        refine lv_icmp_le (tgt := 76) hx hb dX10_worst_69 (by decide) (fun c9 => ?_) (fun c9 => ?_)
        · rw [if_pos c9] at h
          refine lv_aload_n hx hb dX10_worst_76 rfl (lv_at hl 0 rfl) ?_
          refine va_get (D := D) (ci := 10) (v := .ref (ad 21)) (C := RX10) (T := TX10) (N := 56) hx hb hts u9_wsX10_worst_X10 hown hK hP 0 rfl rfl 40 (by decide) (hts (.fieldLink RX10 91 "TurnedFloorsModel" "dist" "[I") f9_wsX10_worst_220) (fun _ h9 => h9) rfl dX10_worst_77 ?_
          refine lv_iload hx hb dX10_worst_80 (lv_at hl 5 rfl) ?_
          obtain ⟨g8, h⟩ := dG_some h
          refine va_iald hx hb hK hP 21 0 rfl rfl (dg_in g8) dX10_worst_82 ?_
          obtain ⟨v9, ev9, h⟩ := dL_some h
          refine kz_topi v9 ev9 ?_
          refine lv_iload_n hx hb dX10_worst_83 rfl (lv_at hl 2 rfl) ?_
          refine lv_icmp_ne (tgt := 93) hx hb dX10_worst_84 (by decide) (fun c9 => ?_) (fun c9 => ?_)
          · rw [if_neg c9] at h
            refine lv_iload_n hx hb dX10_worst_93 rfl (lv_at hl 3 rfl) ?_
            exact WX10_worst_94 C0 hk25 _ _ _ _ _ _ _ _ _ h hP hD hS (lv_sub hl [0, 1, 2, 4, 5] rfl)
          · rw [if_pos c9] at h
            refine lv_iload_n hx hb dX10_worst_87 rfl (lv_at hl 3 rfl) ?_
            refine lv_iconst (v := 1) hx hb dX10_worst_88 (by decide) ?_
            refine lv_iadd hx hb dX10_worst_89 ?_
            refine lv_goto (tgt := 94) hx hb dX10_worst_90 (by decide) ?_
            exact WX10_worst_94 C0 hk25 _ _ _ _ _ _ _ _ _ h hP hD hS (lv_sub hl [0, 1, 2, 4, 5] rfl)
        · rw [if_neg c9] at h
          refine lv_iconst (v := 1) hx hb dX10_worst_72 (by decide) ?_
          refine lv_goto (tgt := 94) hx hb dX10_worst_73 (by decide) ?_
          exact WX10_worst_94 C0 hk25 _ _ _ _ _ _ _ _ _ h hP hD hS (lv_sub hl [0, 1, 2, 4, 5] rfl)
      · rw [if_pos c9] at h
        refine lv_goto (tgt := 110) hx hb dX10_worst_58 (by decide) ?_
        exact WX10_worst_110 C0 hk25 _ _ _ _ _ _ _ _ _ h hP hD hS (lv_sub hl [0, 1, 2, 3, 4, 5] rfl)
set_option maxHeartbeats 4000000 in
set_option maxRecDepth 100000 in
theorem WX10_worst_25 {p : Program} {l : Launch} {e : Env} {s : State} {m : MethodId} {args : Array Value} {below : List Frame} {meth : Method} {c : Code} {D : va_G} {ty : Nat → ClassId} {eo : Nat → Nat} {A : Nat → Prop} {ad : Nat → Nat} {o1 : Int32} {o2 : dS} (C : dc_C p s m args meth c cX10_worst (some .int) 6 RX10 wsX10_worst D ty eo A)   (n : Nat) (q : dS) (x1 : Int32) (x2 : Int32) (x3 : Int32) (x4 : Int32) (x5 : Int32) (H : Heap) (locs : List Loc) (ls : Array Slot) (h : zX10_worst_25  n q x1 x2 x3 x4 x5 = some (o1, o2)) (hP : va_P D vwCl (w10 ty ad q) H) (hD : va_D A (w10 ty ad q)) (hS : va_S A s.heap H locs) (hl : lv_has ls 6 [(0, .ref (ad 0)), (1, .int x1), (2, .int x2), (3, .int x3), (4, .int x4), (5, .int x5)]) : W p l e ({ frames := 89, cells := 0, slots := 0, locals := 2272 } : Room) s m args below meth c H locs 0 0 (MQ below (va_Qi (fun (r : Int32) (u : va_W) => o1 = r ∧ w10 ty ad o2 = u) (kz_B D ty A) A) args s 0 0 A) (F0 m 25 ls []) := by
  exact dFix_W (F := fun k (a : dS × Int32 × Int32 × Int32 × Int32 × Int32) => zX10_worst_25b  (fun q x1 x2 x3 x4 x5 => k (q, x1, x2, x3, x4, x5)) a.1 a.2.1 a.2.2.1 a.2.2.2.1 a.2.2.2.2.1 a.2.2.2.2.2) (o := (o1, o2)) (P := fun (a : dS × Int32 × Int32 × Int32 × Int32 × Int32) H locs ls => va_P D vwCl (w10 ty ad a.1) H ∧ va_D A (w10 ty ad a.1) ∧ va_S A s.heap H locs ∧ lv_has ls 6 [(0, .ref (ad 0)), (1, .int a.2.1), (2, .int a.2.2.1), (3, .int a.2.2.2.1), (4, .int a.2.2.2.2.1), (5, .int a.2.2.2.2.2)]) (G := fun H locs ls => W p l e ({ frames := 89, cells := 0, slots := 0, locals := 2272 } : Room) s m args below meth c H locs 0 0 (MQ below (va_Qi (fun (r : Int32) (u : va_W) => o1 = r ∧ w10 ty ad o2 = u) (kz_B D ty A) A) args s 0 0 A) (F0 m 25 ls []))
    (fun k hk a H locs ls h hp => WX10_worst_25b C  (fun q x1 x2 x3 x4 x5 H locs ls h h1 h2 h3 h4 => hk (q, x1, x2, x3, x4, x5) H locs ls h ⟨h1, h2, h3, h4⟩) a.1 a.2.1 a.2.2.1 a.2.2.2.1 a.2.2.2.2.1 a.2.2.2.2.2 H locs ls h hp.1 hp.2.1 hp.2.2.1 hp.2.2.2) n (q, x1, x2, x3, x4, x5) H locs ls h ⟨hP, hD, hS, hl⟩
set_option maxHeartbeats 4000000 in
set_option maxRecDepth 100000 in
theorem qX10_worst (l : Launch) (D : va_G) (ty : Nat → ClassId) (eo : Nat → Nat) (sz : Nat) (ad : Nat → Nat) (q : dS) (p1 : Int32) (o1 : Int32) (o2 : dS) (h : zX10_worst q p1 = some (o1, o2)) : Met l yX10_worst wsX10_worst ({ frames := 89, cells := 0, slots := 0, locals := 2272 } : Room) (va_Pc [.ref (ad 0), .int p1] (kz_pre D ty eo (w10 ty ad q) sz)) (va_Qi (fun (r : Int32) (u : va_W) => o1 = r ∧ w10 ty ad o2 = u) (kz_B D ty (va_A (w10 ty ad q) sz)) (va_A (w10 ty ad q) sz)) 0 0 (va_A (w10 ty ad q) sz) := by
  refine Met.ofW (cc := cX10_worst) (maxL := 6) (ret := (some .int)) (by decide) rfl ?_
  intro p e s m args below meth c s₁ B hml hv
  obtain ⟨rfl, hsz, hP, hK, hD0, hN, hE⟩ := hv
  have hx := B.exec
  have hb := B.bytes
  have hr := B.returns
  have hts := atoms_spec (ws := wsX10_worst) B.pre
  have hown : s.vm.findClass RX10 = some m.cls := findClass_of_methodNamed B.named
  have hlocks := B.notSynchronized
  subst hsz
  have hD := hD0.self (sz := s.heap.size)
  generalize hAe : va_A (w10 ty ad q) s.heap.size = A at hD hE ⊢
  have hA : ∀ q : Nat, s.heap.size ≤ q → A q := fun q h => by rw [← hAe]; exact Or.inr h
  clear hAe
  have hS : va_S A s.heap s.heap [] := va_S.rf
  have hl := lv_entry ([.ref (ad 0), .int p1]) (n := 6) (Nat.le_of_ble_eq_true rfl)
  rw [lg_entry_eq]
  generalize (lg_sl ([.ref (ad 0), .int p1]) ++ List.replicate (6 - (lg_sl ([.ref (ad 0), .int p1])).length) Slot.unset).toArray = ls at hl ⊢
  have hl : lv_has ls 6 [(0, .ref (ad 0)), (1, .int p1)] := hl
  have C : dc_C p s m _ meth c cX10_worst (some .int) 6 RX10 wsX10_worst D ty eo A := ⟨hx, hb, hr, hts, hown, hlocks, hml, hK, hN, hE, hA⟩
  unfold zX10_worst at h
  refine lv_iload_n hx hb dX10_worst_0 rfl (lv_at hl 1 rfl) ?_
  refine lv_iconst (v := 0) hx hb dX10_worst_1 (by decide) ?_
  refine lv_iconst (v := 2) hx hb dX10_worst_2 (by decide) ?_
  obtain ⟨r1, h2, h⟩ := dV_some h
  refine dw_ks (va_runS (As := [.int p1, .int 0, .int 2]) (rest := []) ⟨hx, hb, hml, hown, hts⟩ (qX10_lies l D ty eo _ p1 0 2 _ h2) (va_cwS 3 hts gX10_worst_X10_lies rfl rfl rfl hd_X10_lies ⟨Nat.le_of_ble_eq_true rfl, Nat.le_of_ble_eq_true rfl⟩) (pvS_0 hK hN hE hP hD hS hA) rfl rfl hl.1 rfl (lv_room (Nat.le_of_ble_eq_true rfl)) dX10_worst_3 ⟨Nat.le_of_ble_eq_true rfl, Nat.le_of_ble_eq_true rfl⟩) hP hD hS hA (fun _ _ h9 => h9.2.symm) (fun r9 u9 H locs hw hp hd hs => ?_)
  obtain ⟨rfl, -⟩ := hw
  clear hP hD hS
  have hP := hp; have hD := hd; have hS := hs; clear hp hd hs
  refine lv_if_ne (tgt := 11) hx hb dX10_worst_6 (by decide) (fun c9 => ?_) (fun c9 => ?_)
  · rw [if_neg c9] at h
    refine lv_aload_n hx hb dX10_worst_11 rfl (lv_at hl 0 rfl) ?_
    obtain ⟨q5, h4, h⟩ := dV_some h
    refine dw_kv (va_runV (As := []) (rest := []) ⟨hx, hb, hml, hown, hts⟩ (qX10_laysDist l D ty eo _ ad q  q5 h4) (cwV 0 hts gX10_worst_X10_laysDist rfl rfl rfl hd_X10_laysDist_v ⟨Nat.le_of_ble_eq_true rfl, Nat.le_of_ble_eq_true rfl⟩) (pv10_10_0 hK hN hE hP hD hS hA) rfl rfl hl.1 rfl (lv_room (Nat.le_of_ble_eq_true rfl)) dX10_worst_12 ⟨Nat.le_of_ble_eq_true rfl, Nat.le_of_ble_eq_true rfl⟩) hD hS hA (fun u9 H locs hw hp hd hs => ?_)
    clear hP hD hS
    obtain rfl := hw
    have hP := hp; have hD := hd; have hS := hs; clear hp hd hs
    refine lv_iconst (v := 0) hx hb dX10_worst_15 (by decide) ?_
    refine lv_istore_n (lv' := [(2, .int 0), (0, .ref (ad 0)), (1, .int p1)]) hx hb dX10_worst_16 rfl hl (by decide) rfl (fun ls hl => ?_)
    refine lv_iconst (v := 0) hx hb dX10_worst_17 (by decide) ?_
    refine lv_istore_n (lv' := [(3, .int 0), (2, .int 0), (0, .ref (ad 0)), (1, .int p1)]) hx hb dX10_worst_18 rfl hl (by decide) rfl (fun ls hl => ?_)
    refine lv_iconst (v := 0) hx hb dX10_worst_19 (by decide) ?_
    refine lv_istore (lv' := [(4, .int 0), (3, .int 0), (2, .int 0), (0, .ref (ad 0)), (1, .int p1)]) hx hb dX10_worst_20 hl (by decide) rfl (fun ls hl => ?_)
    refine lv_iconst (v := 0) hx hb dX10_worst_22 (by decide) ?_
    refine lv_istore (lv' := [(5, .int 0), (4, .int 0), (3, .int 0), (2, .int 0), (0, .ref (ad 0)), (1, .int p1)]) hx hb dX10_worst_23 hl (by decide) rfl (fun ls hl => ?_)
    exact WX10_worst_25 C  _ _ _ _ _ _ _ _ _ _ h hP hD hS (lv_sub hl [4, 5, 3, 2, 1, 0] rfl)
  · rw [if_pos c9] at h
    refine lv_iconst (v := (-1)) hx hb dX10_worst_9 (by decide) ?_
    cases h
    exact kz_iret hx hb hr hlocks hP hK hD hS dX10_worst_10 ⟨rfl, rfl⟩
end
section
set_option maxRecDepth 20000 in
theorem ggX10_cheapest_X10_laysPrices : GoodIn wsX10_cheapest wsX10_laysPrices := wd_c vW10_ok mvW10_342
set_option maxRecDepth 20000 in
theorem gX10_cheapest_X10_laysPrices : GoodIn wsX10_cheapest (wsV RX10 414 RX10 yX10_laysPrices wsX10_laysPrices) := goodIn_app (wd_l vW10_ok _ pvW10_216) ggX10_cheapest_X10_laysPrices
set_option maxRecDepth 20000 in
theorem ggX10_cheapest_X10_isThere : GoodIn wsX10_cheapest wsX10_isThere := wd_c vW10_ok mvW10_381
set_option maxRecDepth 20000 in
theorem gX10_cheapest_X10_isThere : GoodIn wsX10_cheapest (wsV RX10 417 RX10 yX10_isThere wsX10_isThere) := goodIn_app (wd_l vW10_ok _ pvW10_217) ggX10_cheapest_X10_isThere
set_option maxRecDepth 20000 in
theorem ggX10_cheapest_X10_isOrdered : GoodIn wsX10_cheapest wsX10_isOrdered := wd_c vW10_ok mvW10_385
set_option maxRecDepth 20000 in
theorem gX10_cheapest_X10_isOrdered : GoodIn wsX10_cheapest (wsV RX10 420 RX10 yX10_isOrdered wsX10_isOrdered) := goodIn_app (wd_l vW10_ok _ pvW10_218) ggX10_cheapest_X10_isOrdered
set_option maxRecDepth 20000 in
theorem ggX10_cheapest_X10_size : GoodIn wsX10_cheapest wsX10_size := wd_c vW10_ok mvW10_24
set_option maxRecDepth 20000 in
theorem gX10_cheapest_X10_size : GoodIn wsX10_cheapest (wsV RX10 125 RX10 yX10_size wsX10_size) := goodIn_app (wd_l vW10_ok _ pvW10_144) ggX10_cheapest_X10_size
set_option maxRecDepth 20000 in
theorem ggX10_cheapest_X10_behind : GoodIn wsX10_cheapest wsX10_behind := wd_c vW10_ok mvW10_389
set_option maxRecDepth 20000 in
theorem gX10_cheapest_X10_behind : GoodIn wsX10_cheapest (wsV RX10 423 RX10 yX10_behind wsX10_behind) := goodIn_app (wd_l vW10_ok _ pvW10_219) ggX10_cheapest_X10_behind
set_option maxRecDepth 20000 in
theorem ggX10_cheapest_X10_priceOf : GoodIn wsX10_cheapest wsX10_priceOf := wd_c vW10_ok mvW10_393
set_option maxRecDepth 20000 in
theorem gX10_cheapest_X10_priceOf : GoodIn wsX10_cheapest (wsV RX10 426 RX10 yX10_priceOf wsX10_priceOf) := goodIn_app (wd_l vW10_ok _ pvW10_220) ggX10_cheapest_X10_priceOf
set_option maxRecDepth 20000 in
theorem ggX10_cheapest_X10_towerNow : GoodIn wsX10_cheapest wsX10_towerNow := wd_c vW10_ok mvW10_397
set_option maxRecDepth 20000 in
theorem gX10_cheapest_X10_towerNow : GoodIn wsX10_cheapest (wsV RX10 433 RX10 yX10_towerNow wsX10_towerNow) := goodIn_app (wd_l vW10_ok _ pvW10_222) ggX10_cheapest_X10_towerNow
theorem da9_dX10_cheapest_0 : (decode cX10_cheapest 0 = .ok (.aload_n 0, 1)) ∧ (decode cX10_cheapest 1 = .ok (.invokevirtual 414, 3)) ∧ (decode cX10_cheapest 4 = .ok (.iconst 0, 1)) ∧ (decode cX10_cheapest 5 = .ok (.istore_n 1, 1)) ∧ (decode cX10_cheapest 6 = .ok (.iconst 0, 1)) ∧ (decode cX10_cheapest 7 = .ok (.istore_n 2, 1)) ∧ (decode cX10_cheapest 8 = .ok (.iload_n 2, 1)) ∧ (decode cX10_cheapest 9 = .ok (.bipush 64, 2)) ∧ (decode cX10_cheapest 11 = .ok (.aload_n 0, 1)) ∧ (decode cX10_cheapest 12 = .ok (.getfield 386, 3)) ∧ (decode cX10_cheapest 15 = .ok (.imul, 1)) ∧ (decode cX10_cheapest 16 = .ok (.if_icmp .ge 71, 3)) ∧ (decode cX10_cheapest 19 = .ok (.aload_n 0, 1)) ∧ (decode cX10_cheapest 20 = .ok (.iload_n 2, 1)) ∧ (decode cX10_cheapest 21 = .ok (.invokevirtual 417, 3)) ∧ (decode cX10_cheapest 24 = .ok (.ifCond .eq 15, 3)) := by decide +kernel
theorem dX10_cheapest_0 : decode cX10_cheapest 0 = .ok (.aload_n 0, 1) := da9_dX10_cheapest_0.1
theorem dX10_cheapest_1 : decode cX10_cheapest 1 = .ok (.invokevirtual 414, 3) := da9_dX10_cheapest_0.2.1
theorem dX10_cheapest_4 : decode cX10_cheapest 4 = .ok (.iconst 0, 1) := da9_dX10_cheapest_0.2.2.1
theorem dX10_cheapest_5 : decode cX10_cheapest 5 = .ok (.istore_n 1, 1) := da9_dX10_cheapest_0.2.2.2.1
theorem dX10_cheapest_6 : decode cX10_cheapest 6 = .ok (.iconst 0, 1) := da9_dX10_cheapest_0.2.2.2.2.1
theorem dX10_cheapest_7 : decode cX10_cheapest 7 = .ok (.istore_n 2, 1) := da9_dX10_cheapest_0.2.2.2.2.2.1
theorem dX10_cheapest_8 : decode cX10_cheapest 8 = .ok (.iload_n 2, 1) := da9_dX10_cheapest_0.2.2.2.2.2.2.1
theorem dX10_cheapest_9 : decode cX10_cheapest 9 = .ok (.bipush 64, 2) := da9_dX10_cheapest_0.2.2.2.2.2.2.2.1
theorem dX10_cheapest_11 : decode cX10_cheapest 11 = .ok (.aload_n 0, 1) := da9_dX10_cheapest_0.2.2.2.2.2.2.2.2.1
theorem dX10_cheapest_12 : decode cX10_cheapest 12 = .ok (.getfield 386, 3) := da9_dX10_cheapest_0.2.2.2.2.2.2.2.2.2.1
theorem dX10_cheapest_15 : decode cX10_cheapest 15 = .ok (.imul, 1) := da9_dX10_cheapest_0.2.2.2.2.2.2.2.2.2.2.1
theorem dX10_cheapest_16 : decode cX10_cheapest 16 = .ok (.if_icmp .ge 71, 3) := da9_dX10_cheapest_0.2.2.2.2.2.2.2.2.2.2.2.1
theorem dX10_cheapest_19 : decode cX10_cheapest 19 = .ok (.aload_n 0, 1) := da9_dX10_cheapest_0.2.2.2.2.2.2.2.2.2.2.2.2.1
theorem dX10_cheapest_20 : decode cX10_cheapest 20 = .ok (.iload_n 2, 1) := da9_dX10_cheapest_0.2.2.2.2.2.2.2.2.2.2.2.2.2.1
theorem dX10_cheapest_21 : decode cX10_cheapest 21 = .ok (.invokevirtual 417, 3) := da9_dX10_cheapest_0.2.2.2.2.2.2.2.2.2.2.2.2.2.2.1
theorem dX10_cheapest_24 : decode cX10_cheapest 24 = .ok (.ifCond .eq 15, 3) := da9_dX10_cheapest_0.2.2.2.2.2.2.2.2.2.2.2.2.2.2.2
theorem da9_dX10_cheapest_27 : (decode cX10_cheapest 27 = .ok (.aload_n 0, 1)) ∧ (decode cX10_cheapest 28 = .ok (.iload_n 2, 1)) ∧ (decode cX10_cheapest 29 = .ok (.invokevirtual 420, 3)) ∧ (decode cX10_cheapest 32 = .ok (.ifCond .eq 7, 3)) ∧ (decode cX10_cheapest 35 = .ok (.iconst 1, 1)) ∧ (decode cX10_cheapest 36 = .ok (.goto 4, 3)) ∧ (decode cX10_cheapest 39 = .ok (.iconst 0, 1)) ∧ (decode cX10_cheapest 40 = .ok (.istore_n 3, 1)) ∧ (decode cX10_cheapest 41 = .ok (.aload_n 0, 1)) ∧ (decode cX10_cheapest 42 = .ok (.getfield 91, 3)) ∧ (decode cX10_cheapest 45 = .ok (.iload_n 2, 1)) ∧ (decode cX10_cheapest 46 = .ok (.iload_n 3, 1)) ∧ (decode cX10_cheapest 47 = .ok (.ifCond .eq 7, 3)) ∧ (decode cX10_cheapest 50 = .ok (.iconst 0, 1)) ∧ (decode cX10_cheapest 51 = .ok (.goto 5, 3)) ∧ (decode cX10_cheapest 54 = .ok (.ldc 188, 2)) := by decide +kernel
theorem dX10_cheapest_27 : decode cX10_cheapest 27 = .ok (.aload_n 0, 1) := da9_dX10_cheapest_27.1
theorem dX10_cheapest_28 : decode cX10_cheapest 28 = .ok (.iload_n 2, 1) := da9_dX10_cheapest_27.2.1
theorem dX10_cheapest_29 : decode cX10_cheapest 29 = .ok (.invokevirtual 420, 3) := da9_dX10_cheapest_27.2.2.1
theorem dX10_cheapest_32 : decode cX10_cheapest 32 = .ok (.ifCond .eq 7, 3) := da9_dX10_cheapest_27.2.2.2.1
theorem dX10_cheapest_35 : decode cX10_cheapest 35 = .ok (.iconst 1, 1) := da9_dX10_cheapest_27.2.2.2.2.1
theorem dX10_cheapest_36 : decode cX10_cheapest 36 = .ok (.goto 4, 3) := da9_dX10_cheapest_27.2.2.2.2.2.1
theorem dX10_cheapest_39 : decode cX10_cheapest 39 = .ok (.iconst 0, 1) := da9_dX10_cheapest_27.2.2.2.2.2.2.1
theorem dX10_cheapest_40 : decode cX10_cheapest 40 = .ok (.istore_n 3, 1) := da9_dX10_cheapest_27.2.2.2.2.2.2.2.1
theorem dX10_cheapest_41 : decode cX10_cheapest 41 = .ok (.aload_n 0, 1) := da9_dX10_cheapest_27.2.2.2.2.2.2.2.2.1
theorem dX10_cheapest_42 : decode cX10_cheapest 42 = .ok (.getfield 91, 3) := da9_dX10_cheapest_27.2.2.2.2.2.2.2.2.2.1
theorem dX10_cheapest_45 : decode cX10_cheapest 45 = .ok (.iload_n 2, 1) := da9_dX10_cheapest_27.2.2.2.2.2.2.2.2.2.2.1
theorem dX10_cheapest_46 : decode cX10_cheapest 46 = .ok (.iload_n 3, 1) := da9_dX10_cheapest_27.2.2.2.2.2.2.2.2.2.2.2.1
theorem dX10_cheapest_47 : decode cX10_cheapest 47 = .ok (.ifCond .eq 7, 3) := da9_dX10_cheapest_27.2.2.2.2.2.2.2.2.2.2.2.2.1
theorem dX10_cheapest_50 : decode cX10_cheapest 50 = .ok (.iconst 0, 1) := da9_dX10_cheapest_27.2.2.2.2.2.2.2.2.2.2.2.2.2.1
theorem dX10_cheapest_51 : decode cX10_cheapest 51 = .ok (.goto 5, 3) := da9_dX10_cheapest_27.2.2.2.2.2.2.2.2.2.2.2.2.2.2.1
theorem dX10_cheapest_54 : decode cX10_cheapest 54 = .ok (.ldc 188, 2) := da9_dX10_cheapest_27.2.2.2.2.2.2.2.2.2.2.2.2.2.2.2
theorem da9_dX10_cheapest_56 : (decode cX10_cheapest 56 = .ok (.iastore, 1)) ∧ (decode cX10_cheapest 57 = .ok (.aload_n 0, 1)) ∧ (decode cX10_cheapest 58 = .ok (.getfield 100, 3)) ∧ (decode cX10_cheapest 61 = .ok (.iload_n 2, 1)) ∧ (decode cX10_cheapest 62 = .ok (.iload_n 3, 1)) ∧ (decode cX10_cheapest 63 = .ok (.bastore, 1)) ∧ (decode cX10_cheapest 64 = .ok (.iload_n 3, 1)) ∧ (decode cX10_cheapest 65 = .ok (.ifCond .ne 6, 3)) ∧ (decode cX10_cheapest 68 = .ok (.goto 13, 3)) ∧ (decode cX10_cheapest 71 = .ok (.aload_n 0, 1)) ∧ (decode cX10_cheapest 72 = .ok (.getfield 97, 3)) ∧ (decode cX10_cheapest 75 = .ok (.iload_n 1, 1)) ∧ (decode cX10_cheapest 76 = .ok (.iload_n 2, 1)) ∧ (decode cX10_cheapest 77 = .ok (.iastore, 1)) ∧ (decode cX10_cheapest 78 = .ok (.iinc 1 1, 3)) ∧ (decode cX10_cheapest 81 = .ok (.iinc 2 1, 3)) := by decide +kernel
theorem dX10_cheapest_56 : decode cX10_cheapest 56 = .ok (.iastore, 1) := da9_dX10_cheapest_56.1
theorem dX10_cheapest_57 : decode cX10_cheapest 57 = .ok (.aload_n 0, 1) := da9_dX10_cheapest_56.2.1
theorem dX10_cheapest_58 : decode cX10_cheapest 58 = .ok (.getfield 100, 3) := da9_dX10_cheapest_56.2.2.1
theorem dX10_cheapest_61 : decode cX10_cheapest 61 = .ok (.iload_n 2, 1) := da9_dX10_cheapest_56.2.2.2.1
theorem dX10_cheapest_62 : decode cX10_cheapest 62 = .ok (.iload_n 3, 1) := da9_dX10_cheapest_56.2.2.2.2.1
theorem dX10_cheapest_63 : decode cX10_cheapest 63 = .ok (.bastore, 1) := da9_dX10_cheapest_56.2.2.2.2.2.1
theorem dX10_cheapest_64 : decode cX10_cheapest 64 = .ok (.iload_n 3, 1) := da9_dX10_cheapest_56.2.2.2.2.2.2.1
theorem dX10_cheapest_65 : decode cX10_cheapest 65 = .ok (.ifCond .ne 6, 3) := da9_dX10_cheapest_56.2.2.2.2.2.2.2.1
theorem dX10_cheapest_68 : decode cX10_cheapest 68 = .ok (.goto 13, 3) := da9_dX10_cheapest_56.2.2.2.2.2.2.2.2.1
theorem dX10_cheapest_71 : decode cX10_cheapest 71 = .ok (.aload_n 0, 1) := da9_dX10_cheapest_56.2.2.2.2.2.2.2.2.2.1
theorem dX10_cheapest_72 : decode cX10_cheapest 72 = .ok (.getfield 97, 3) := da9_dX10_cheapest_56.2.2.2.2.2.2.2.2.2.2.1
theorem dX10_cheapest_75 : decode cX10_cheapest 75 = .ok (.iload_n 1, 1) := da9_dX10_cheapest_56.2.2.2.2.2.2.2.2.2.2.2.1
theorem dX10_cheapest_76 : decode cX10_cheapest 76 = .ok (.iload_n 2, 1) := da9_dX10_cheapest_56.2.2.2.2.2.2.2.2.2.2.2.2.1
theorem dX10_cheapest_77 : decode cX10_cheapest 77 = .ok (.iastore, 1) := da9_dX10_cheapest_56.2.2.2.2.2.2.2.2.2.2.2.2.2.1
theorem dX10_cheapest_78 : decode cX10_cheapest 78 = .ok (.iinc 1 1, 3) := da9_dX10_cheapest_56.2.2.2.2.2.2.2.2.2.2.2.2.2.2.1
theorem dX10_cheapest_81 : decode cX10_cheapest 81 = .ok (.iinc 2 1, 3) := da9_dX10_cheapest_56.2.2.2.2.2.2.2.2.2.2.2.2.2.2.2
theorem da9_dX10_cheapest_84 : (decode cX10_cheapest 84 = .ok (.goto (-76), 3)) ∧ (decode cX10_cheapest 87 = .ok (.iconst 0, 1)) ∧ (decode cX10_cheapest 88 = .ok (.istore_n 2, 1)) ∧ (decode cX10_cheapest 89 = .ok (.iload_n 1, 1)) ∧ (decode cX10_cheapest 90 = .ok (.ifCond .le 148, 3)) ∧ (decode cX10_cheapest 93 = .ok (.aload_n 0, 1)) ∧ (decode cX10_cheapest 94 = .ok (.getfield 97, 3)) ∧ (decode cX10_cheapest 97 = .ok (.iload_n 2, 1)) ∧ (decode cX10_cheapest 98 = .ok (.iaload, 1)) ∧ (decode cX10_cheapest 99 = .ok (.istore_n 3, 1)) ∧ (decode cX10_cheapest 100 = .ok (.iload_n 2, 1)) ∧ (decode cX10_cheapest 101 = .ok (.iconst 1, 1)) ∧ (decode cX10_cheapest 102 = .ok (.iadd, 1)) ∧ (decode cX10_cheapest 103 = .ok (.ldc 90, 2)) ∧ (decode cX10_cheapest 105 = .ok (.irem, 1)) ∧ (decode cX10_cheapest 106 = .ok (.istore_n 2, 1)) := by decide +kernel
theorem dX10_cheapest_84 : decode cX10_cheapest 84 = .ok (.goto (-76), 3) := da9_dX10_cheapest_84.1
theorem dX10_cheapest_87 : decode cX10_cheapest 87 = .ok (.iconst 0, 1) := da9_dX10_cheapest_84.2.1
theorem dX10_cheapest_88 : decode cX10_cheapest 88 = .ok (.istore_n 2, 1) := da9_dX10_cheapest_84.2.2.1
theorem dX10_cheapest_89 : decode cX10_cheapest 89 = .ok (.iload_n 1, 1) := da9_dX10_cheapest_84.2.2.2.1
theorem dX10_cheapest_90 : decode cX10_cheapest 90 = .ok (.ifCond .le 148, 3) := da9_dX10_cheapest_84.2.2.2.2.1
theorem dX10_cheapest_93 : decode cX10_cheapest 93 = .ok (.aload_n 0, 1) := da9_dX10_cheapest_84.2.2.2.2.2.1
theorem dX10_cheapest_94 : decode cX10_cheapest 94 = .ok (.getfield 97, 3) := da9_dX10_cheapest_84.2.2.2.2.2.2.1
theorem dX10_cheapest_97 : decode cX10_cheapest 97 = .ok (.iload_n 2, 1) := da9_dX10_cheapest_84.2.2.2.2.2.2.2.1
theorem dX10_cheapest_98 : decode cX10_cheapest 98 = .ok (.iaload, 1) := da9_dX10_cheapest_84.2.2.2.2.2.2.2.2.1
theorem dX10_cheapest_99 : decode cX10_cheapest 99 = .ok (.istore_n 3, 1) := da9_dX10_cheapest_84.2.2.2.2.2.2.2.2.2.1
theorem dX10_cheapest_100 : decode cX10_cheapest 100 = .ok (.iload_n 2, 1) := da9_dX10_cheapest_84.2.2.2.2.2.2.2.2.2.2.1
theorem dX10_cheapest_101 : decode cX10_cheapest 101 = .ok (.iconst 1, 1) := da9_dX10_cheapest_84.2.2.2.2.2.2.2.2.2.2.2.1
theorem dX10_cheapest_102 : decode cX10_cheapest 102 = .ok (.iadd, 1) := da9_dX10_cheapest_84.2.2.2.2.2.2.2.2.2.2.2.2.1
theorem dX10_cheapest_103 : decode cX10_cheapest 103 = .ok (.ldc 90, 2) := da9_dX10_cheapest_84.2.2.2.2.2.2.2.2.2.2.2.2.2.1
theorem dX10_cheapest_105 : decode cX10_cheapest 105 = .ok (.irem, 1) := da9_dX10_cheapest_84.2.2.2.2.2.2.2.2.2.2.2.2.2.2.1
theorem dX10_cheapest_106 : decode cX10_cheapest 106 = .ok (.istore_n 2, 1) := da9_dX10_cheapest_84.2.2.2.2.2.2.2.2.2.2.2.2.2.2.2
theorem da9_dX10_cheapest_107 : (decode cX10_cheapest 107 = .ok (.iinc 1 (-1), 3)) ∧ (decode cX10_cheapest 110 = .ok (.aload_n 0, 1)) ∧ (decode cX10_cheapest 111 = .ok (.getfield 100, 3)) ∧ (decode cX10_cheapest 114 = .ok (.iload_n 3, 1)) ∧ (decode cX10_cheapest 115 = .ok (.iconst 0, 1)) ∧ (decode cX10_cheapest 116 = .ok (.bastore, 1)) ∧ (decode cX10_cheapest 117 = .ok (.iconst 1, 1)) ∧ (decode cX10_cheapest 118 = .ok (.istore 4, 2)) ∧ (decode cX10_cheapest 120 = .ok (.iload 4, 2)) ∧ (decode cX10_cheapest 122 = .ok (.aload_n 0, 1)) ∧ (decode cX10_cheapest 123 = .ok (.invokevirtual 125, 3)) ∧ (decode cX10_cheapest 126 = .ok (.if_icmp .gt 109, 3)) ∧ (decode cX10_cheapest 129 = .ok (.aload_n 0, 1)) ∧ (decode cX10_cheapest 130 = .ok (.iload_n 3, 1)) ∧ (decode cX10_cheapest 131 = .ok (.iload 4, 2)) ∧ (decode cX10_cheapest 133 = .ok (.invokevirtual 423, 3)) := by decide +kernel
theorem dX10_cheapest_107 : decode cX10_cheapest 107 = .ok (.iinc 1 (-1), 3) := da9_dX10_cheapest_107.1
theorem dX10_cheapest_110 : decode cX10_cheapest 110 = .ok (.aload_n 0, 1) := da9_dX10_cheapest_107.2.1
theorem dX10_cheapest_111 : decode cX10_cheapest 111 = .ok (.getfield 100, 3) := da9_dX10_cheapest_107.2.2.1
theorem dX10_cheapest_114 : decode cX10_cheapest 114 = .ok (.iload_n 3, 1) := da9_dX10_cheapest_107.2.2.2.1
theorem dX10_cheapest_115 : decode cX10_cheapest 115 = .ok (.iconst 0, 1) := da9_dX10_cheapest_107.2.2.2.2.1
theorem dX10_cheapest_116 : decode cX10_cheapest 116 = .ok (.bastore, 1) := da9_dX10_cheapest_107.2.2.2.2.2.1
theorem dX10_cheapest_117 : decode cX10_cheapest 117 = .ok (.iconst 1, 1) := da9_dX10_cheapest_107.2.2.2.2.2.2.1
theorem dX10_cheapest_118 : decode cX10_cheapest 118 = .ok (.istore 4, 2) := da9_dX10_cheapest_107.2.2.2.2.2.2.2.1
theorem dX10_cheapest_120 : decode cX10_cheapest 120 = .ok (.iload 4, 2) := da9_dX10_cheapest_107.2.2.2.2.2.2.2.2.1
theorem dX10_cheapest_122 : decode cX10_cheapest 122 = .ok (.aload_n 0, 1) := da9_dX10_cheapest_107.2.2.2.2.2.2.2.2.2.1
theorem dX10_cheapest_123 : decode cX10_cheapest 123 = .ok (.invokevirtual 125, 3) := da9_dX10_cheapest_107.2.2.2.2.2.2.2.2.2.2.1
theorem dX10_cheapest_126 : decode cX10_cheapest 126 = .ok (.if_icmp .gt 109, 3) := da9_dX10_cheapest_107.2.2.2.2.2.2.2.2.2.2.2.1
theorem dX10_cheapest_129 : decode cX10_cheapest 129 = .ok (.aload_n 0, 1) := da9_dX10_cheapest_107.2.2.2.2.2.2.2.2.2.2.2.2.1
theorem dX10_cheapest_130 : decode cX10_cheapest 130 = .ok (.iload_n 3, 1) := da9_dX10_cheapest_107.2.2.2.2.2.2.2.2.2.2.2.2.2.1
theorem dX10_cheapest_131 : decode cX10_cheapest 131 = .ok (.iload 4, 2) := da9_dX10_cheapest_107.2.2.2.2.2.2.2.2.2.2.2.2.2.2.1
theorem dX10_cheapest_133 : decode cX10_cheapest 133 = .ok (.invokevirtual 423, 3) := da9_dX10_cheapest_107.2.2.2.2.2.2.2.2.2.2.2.2.2.2.2
theorem da9_dX10_cheapest_136 : (decode cX10_cheapest 136 = .ok (.istore 5, 2)) ∧ (decode cX10_cheapest 138 = .ok (.aload_n 0, 1)) ∧ (decode cX10_cheapest 139 = .ok (.iload 5, 2)) ∧ (decode cX10_cheapest 141 = .ok (.iload 4, 2)) ∧ (decode cX10_cheapest 143 = .ok (.invokevirtual 426, 3)) ∧ (decode cX10_cheapest 146 = .ok (.istore 6, 2)) ∧ (decode cX10_cheapest 148 = .ok (.iload 6, 2)) ∧ (decode cX10_cheapest 150 = .ok (.iconst (-1), 1)) ∧ (decode cX10_cheapest 151 = .ok (.if_icmp .eq 78, 3)) ∧ (decode cX10_cheapest 154 = .ok (.aload_n 0, 1)) ∧ (decode cX10_cheapest 155 = .ok (.getfield 91, 3)) ∧ (decode cX10_cheapest 158 = .ok (.iload_n 3, 1)) ∧ (decode cX10_cheapest 159 = .ok (.iaload, 1)) ∧ (decode cX10_cheapest 160 = .ok (.iload 6, 2)) ∧ (decode cX10_cheapest 162 = .ok (.iadd, 1)) ∧ (decode cX10_cheapest 163 = .ok (.aload_n 0, 1)) := by decide +kernel
theorem dX10_cheapest_136 : decode cX10_cheapest 136 = .ok (.istore 5, 2) := da9_dX10_cheapest_136.1
theorem dX10_cheapest_138 : decode cX10_cheapest 138 = .ok (.aload_n 0, 1) := da9_dX10_cheapest_136.2.1
theorem dX10_cheapest_139 : decode cX10_cheapest 139 = .ok (.iload 5, 2) := da9_dX10_cheapest_136.2.2.1
theorem dX10_cheapest_141 : decode cX10_cheapest 141 = .ok (.iload 4, 2) := da9_dX10_cheapest_136.2.2.2.1
theorem dX10_cheapest_143 : decode cX10_cheapest 143 = .ok (.invokevirtual 426, 3) := da9_dX10_cheapest_136.2.2.2.2.1
theorem dX10_cheapest_146 : decode cX10_cheapest 146 = .ok (.istore 6, 2) := da9_dX10_cheapest_136.2.2.2.2.2.1
theorem dX10_cheapest_148 : decode cX10_cheapest 148 = .ok (.iload 6, 2) := da9_dX10_cheapest_136.2.2.2.2.2.2.1
theorem dX10_cheapest_150 : decode cX10_cheapest 150 = .ok (.iconst (-1), 1) := da9_dX10_cheapest_136.2.2.2.2.2.2.2.1
theorem dX10_cheapest_151 : decode cX10_cheapest 151 = .ok (.if_icmp .eq 78, 3) := da9_dX10_cheapest_136.2.2.2.2.2.2.2.2.1
theorem dX10_cheapest_154 : decode cX10_cheapest 154 = .ok (.aload_n 0, 1) := da9_dX10_cheapest_136.2.2.2.2.2.2.2.2.2.1
theorem dX10_cheapest_155 : decode cX10_cheapest 155 = .ok (.getfield 91, 3) := da9_dX10_cheapest_136.2.2.2.2.2.2.2.2.2.2.1
theorem dX10_cheapest_158 : decode cX10_cheapest 158 = .ok (.iload_n 3, 1) := da9_dX10_cheapest_136.2.2.2.2.2.2.2.2.2.2.2.1
theorem dX10_cheapest_159 : decode cX10_cheapest 159 = .ok (.iaload, 1) := da9_dX10_cheapest_136.2.2.2.2.2.2.2.2.2.2.2.2.1
theorem dX10_cheapest_160 : decode cX10_cheapest 160 = .ok (.iload 6, 2) := da9_dX10_cheapest_136.2.2.2.2.2.2.2.2.2.2.2.2.2.1
theorem dX10_cheapest_162 : decode cX10_cheapest 162 = .ok (.iadd, 1) := da9_dX10_cheapest_136.2.2.2.2.2.2.2.2.2.2.2.2.2.2.1
theorem dX10_cheapest_163 : decode cX10_cheapest 163 = .ok (.aload_n 0, 1) := da9_dX10_cheapest_136.2.2.2.2.2.2.2.2.2.2.2.2.2.2.2
theorem da9_dX10_cheapest_164 : (decode cX10_cheapest 164 = .ok (.getfield 91, 3)) ∧ (decode cX10_cheapest 167 = .ok (.iload 5, 2)) ∧ (decode cX10_cheapest 169 = .ok (.iaload, 1)) ∧ (decode cX10_cheapest 170 = .ok (.if_icmp .lt 6, 3)) ∧ (decode cX10_cheapest 173 = .ok (.goto 56, 3)) ∧ (decode cX10_cheapest 176 = .ok (.aload_n 0, 1)) ∧ (decode cX10_cheapest 177 = .ok (.getfield 91, 3)) ∧ (decode cX10_cheapest 180 = .ok (.iload 5, 2)) ∧ (decode cX10_cheapest 182 = .ok (.aload_n 0, 1)) ∧ (decode cX10_cheapest 183 = .ok (.getfield 91, 3)) ∧ (decode cX10_cheapest 186 = .ok (.iload_n 3, 1)) ∧ (decode cX10_cheapest 187 = .ok (.iaload, 1)) ∧ (decode cX10_cheapest 188 = .ok (.iload 6, 2)) ∧ (decode cX10_cheapest 190 = .ok (.iadd, 1)) ∧ (decode cX10_cheapest 191 = .ok (.iastore, 1)) ∧ (decode cX10_cheapest 192 = .ok (.aload_n 0, 1)) := by decide +kernel
theorem dX10_cheapest_164 : decode cX10_cheapest 164 = .ok (.getfield 91, 3) := da9_dX10_cheapest_164.1
theorem dX10_cheapest_167 : decode cX10_cheapest 167 = .ok (.iload 5, 2) := da9_dX10_cheapest_164.2.1
theorem dX10_cheapest_169 : decode cX10_cheapest 169 = .ok (.iaload, 1) := da9_dX10_cheapest_164.2.2.1
theorem dX10_cheapest_170 : decode cX10_cheapest 170 = .ok (.if_icmp .lt 6, 3) := da9_dX10_cheapest_164.2.2.2.1
theorem dX10_cheapest_173 : decode cX10_cheapest 173 = .ok (.goto 56, 3) := da9_dX10_cheapest_164.2.2.2.2.1
theorem dX10_cheapest_176 : decode cX10_cheapest 176 = .ok (.aload_n 0, 1) := da9_dX10_cheapest_164.2.2.2.2.2.1
theorem dX10_cheapest_177 : decode cX10_cheapest 177 = .ok (.getfield 91, 3) := da9_dX10_cheapest_164.2.2.2.2.2.2.1
theorem dX10_cheapest_180 : decode cX10_cheapest 180 = .ok (.iload 5, 2) := da9_dX10_cheapest_164.2.2.2.2.2.2.2.1
theorem dX10_cheapest_182 : decode cX10_cheapest 182 = .ok (.aload_n 0, 1) := da9_dX10_cheapest_164.2.2.2.2.2.2.2.2.1
theorem dX10_cheapest_183 : decode cX10_cheapest 183 = .ok (.getfield 91, 3) := da9_dX10_cheapest_164.2.2.2.2.2.2.2.2.2.1
theorem dX10_cheapest_186 : decode cX10_cheapest 186 = .ok (.iload_n 3, 1) := da9_dX10_cheapest_164.2.2.2.2.2.2.2.2.2.2.1
theorem dX10_cheapest_187 : decode cX10_cheapest 187 = .ok (.iaload, 1) := da9_dX10_cheapest_164.2.2.2.2.2.2.2.2.2.2.2.1
theorem dX10_cheapest_188 : decode cX10_cheapest 188 = .ok (.iload 6, 2) := da9_dX10_cheapest_164.2.2.2.2.2.2.2.2.2.2.2.2.1
theorem dX10_cheapest_190 : decode cX10_cheapest 190 = .ok (.iadd, 1) := da9_dX10_cheapest_164.2.2.2.2.2.2.2.2.2.2.2.2.2.1
theorem dX10_cheapest_191 : decode cX10_cheapest 191 = .ok (.iastore, 1) := da9_dX10_cheapest_164.2.2.2.2.2.2.2.2.2.2.2.2.2.2.1
theorem dX10_cheapest_192 : decode cX10_cheapest 192 = .ok (.aload_n 0, 1) := da9_dX10_cheapest_164.2.2.2.2.2.2.2.2.2.2.2.2.2.2.2
theorem da9_dX10_cheapest_193 : (decode cX10_cheapest 193 = .ok (.getfield 100, 3)) ∧ (decode cX10_cheapest 196 = .ok (.iload 5, 2)) ∧ (decode cX10_cheapest 198 = .ok (.baload, 1)) ∧ (decode cX10_cheapest 199 = .ok (.ifCond .eq 6, 3)) ∧ (decode cX10_cheapest 202 = .ok (.goto 27, 3)) ∧ (decode cX10_cheapest 205 = .ok (.aload_n 0, 1)) ∧ (decode cX10_cheapest 206 = .ok (.getfield 100, 3)) ∧ (decode cX10_cheapest 209 = .ok (.iload 5, 2)) ∧ (decode cX10_cheapest 211 = .ok (.iconst 1, 1)) ∧ (decode cX10_cheapest 212 = .ok (.bastore, 1)) ∧ (decode cX10_cheapest 213 = .ok (.aload_n 0, 1)) ∧ (decode cX10_cheapest 214 = .ok (.getfield 97, 3)) ∧ (decode cX10_cheapest 217 = .ok (.iload_n 2, 1)) ∧ (decode cX10_cheapest 218 = .ok (.iload_n 1, 1)) ∧ (decode cX10_cheapest 219 = .ok (.iadd, 1)) ∧ (decode cX10_cheapest 220 = .ok (.ldc 90, 2)) := by decide +kernel
theorem dX10_cheapest_193 : decode cX10_cheapest 193 = .ok (.getfield 100, 3) := da9_dX10_cheapest_193.1
theorem dX10_cheapest_196 : decode cX10_cheapest 196 = .ok (.iload 5, 2) := da9_dX10_cheapest_193.2.1
theorem dX10_cheapest_198 : decode cX10_cheapest 198 = .ok (.baload, 1) := da9_dX10_cheapest_193.2.2.1
theorem dX10_cheapest_199 : decode cX10_cheapest 199 = .ok (.ifCond .eq 6, 3) := da9_dX10_cheapest_193.2.2.2.1
theorem dX10_cheapest_202 : decode cX10_cheapest 202 = .ok (.goto 27, 3) := da9_dX10_cheapest_193.2.2.2.2.1
theorem dX10_cheapest_205 : decode cX10_cheapest 205 = .ok (.aload_n 0, 1) := da9_dX10_cheapest_193.2.2.2.2.2.1
theorem dX10_cheapest_206 : decode cX10_cheapest 206 = .ok (.getfield 100, 3) := da9_dX10_cheapest_193.2.2.2.2.2.2.1
theorem dX10_cheapest_209 : decode cX10_cheapest 209 = .ok (.iload 5, 2) := da9_dX10_cheapest_193.2.2.2.2.2.2.2.1
theorem dX10_cheapest_211 : decode cX10_cheapest 211 = .ok (.iconst 1, 1) := da9_dX10_cheapest_193.2.2.2.2.2.2.2.2.1
theorem dX10_cheapest_212 : decode cX10_cheapest 212 = .ok (.bastore, 1) := da9_dX10_cheapest_193.2.2.2.2.2.2.2.2.2.1
theorem dX10_cheapest_213 : decode cX10_cheapest 213 = .ok (.aload_n 0, 1) := da9_dX10_cheapest_193.2.2.2.2.2.2.2.2.2.2.1
theorem dX10_cheapest_214 : decode cX10_cheapest 214 = .ok (.getfield 97, 3) := da9_dX10_cheapest_193.2.2.2.2.2.2.2.2.2.2.2.1
theorem dX10_cheapest_217 : decode cX10_cheapest 217 = .ok (.iload_n 2, 1) := da9_dX10_cheapest_193.2.2.2.2.2.2.2.2.2.2.2.2.1
theorem dX10_cheapest_218 : decode cX10_cheapest 218 = .ok (.iload_n 1, 1) := da9_dX10_cheapest_193.2.2.2.2.2.2.2.2.2.2.2.2.2.1
theorem dX10_cheapest_219 : decode cX10_cheapest 219 = .ok (.iadd, 1) := da9_dX10_cheapest_193.2.2.2.2.2.2.2.2.2.2.2.2.2.2.1
theorem dX10_cheapest_220 : decode cX10_cheapest 220 = .ok (.ldc 90, 2) := da9_dX10_cheapest_193.2.2.2.2.2.2.2.2.2.2.2.2.2.2.2
theorem da9_dX10_cheapest_222 : (decode cX10_cheapest 222 = .ok (.irem, 1)) ∧ (decode cX10_cheapest 223 = .ok (.iload 5, 2)) ∧ (decode cX10_cheapest 225 = .ok (.iastore, 1)) ∧ (decode cX10_cheapest 226 = .ok (.iinc 1 1, 3)) ∧ (decode cX10_cheapest 229 = .ok (.iinc 4 1, 3)) ∧ (decode cX10_cheapest 232 = .ok (.goto (-112), 3)) ∧ (decode cX10_cheapest 235 = .ok (.goto (-146), 3)) ∧ (decode cX10_cheapest 238 = .ok (.aload_n 0, 1)) ∧ (decode cX10_cheapest 239 = .ok (.getfield 91, 3)) ∧ (decode cX10_cheapest 242 = .ok (.aload_n 0, 1)) ∧ (decode cX10_cheapest 243 = .ok (.invokevirtual 433, 3)) ∧ (decode cX10_cheapest 246 = .ok (.iaload, 1)) ∧ (decode cX10_cheapest 247 = .ok (.istore_n 3, 1)) ∧ (decode cX10_cheapest 248 = .ok (.iload_n 3, 1)) ∧ (decode cX10_cheapest 249 = .ok (.ldc 188, 2)) ∧ (decode cX10_cheapest 251 = .ok (.if_icmp .ne 7, 3)) := by decide +kernel
theorem dX10_cheapest_222 : decode cX10_cheapest 222 = .ok (.irem, 1) := da9_dX10_cheapest_222.1
theorem dX10_cheapest_223 : decode cX10_cheapest 223 = .ok (.iload 5, 2) := da9_dX10_cheapest_222.2.1
theorem dX10_cheapest_225 : decode cX10_cheapest 225 = .ok (.iastore, 1) := da9_dX10_cheapest_222.2.2.1
theorem dX10_cheapest_226 : decode cX10_cheapest 226 = .ok (.iinc 1 1, 3) := da9_dX10_cheapest_222.2.2.2.1
theorem dX10_cheapest_229 : decode cX10_cheapest 229 = .ok (.iinc 4 1, 3) := da9_dX10_cheapest_222.2.2.2.2.1
theorem dX10_cheapest_232 : decode cX10_cheapest 232 = .ok (.goto (-112), 3) := da9_dX10_cheapest_222.2.2.2.2.2.1
theorem dX10_cheapest_235 : decode cX10_cheapest 235 = .ok (.goto (-146), 3) := da9_dX10_cheapest_222.2.2.2.2.2.2.1
theorem dX10_cheapest_238 : decode cX10_cheapest 238 = .ok (.aload_n 0, 1) := da9_dX10_cheapest_222.2.2.2.2.2.2.2.1
theorem dX10_cheapest_239 : decode cX10_cheapest 239 = .ok (.getfield 91, 3) := da9_dX10_cheapest_222.2.2.2.2.2.2.2.2.1
theorem dX10_cheapest_242 : decode cX10_cheapest 242 = .ok (.aload_n 0, 1) := da9_dX10_cheapest_222.2.2.2.2.2.2.2.2.2.1
theorem dX10_cheapest_243 : decode cX10_cheapest 243 = .ok (.invokevirtual 433, 3) := da9_dX10_cheapest_222.2.2.2.2.2.2.2.2.2.2.1
theorem dX10_cheapest_246 : decode cX10_cheapest 246 = .ok (.iaload, 1) := da9_dX10_cheapest_222.2.2.2.2.2.2.2.2.2.2.2.1
theorem dX10_cheapest_247 : decode cX10_cheapest 247 = .ok (.istore_n 3, 1) := da9_dX10_cheapest_222.2.2.2.2.2.2.2.2.2.2.2.2.1
theorem dX10_cheapest_248 : decode cX10_cheapest 248 = .ok (.iload_n 3, 1) := da9_dX10_cheapest_222.2.2.2.2.2.2.2.2.2.2.2.2.2.1
theorem dX10_cheapest_249 : decode cX10_cheapest 249 = .ok (.ldc 188, 2) := da9_dX10_cheapest_222.2.2.2.2.2.2.2.2.2.2.2.2.2.2.1
theorem dX10_cheapest_251 : decode cX10_cheapest 251 = .ok (.if_icmp .ne 7, 3) := da9_dX10_cheapest_222.2.2.2.2.2.2.2.2.2.2.2.2.2.2.2
theorem da9_dX10_cheapest_254 : (decode cX10_cheapest 254 = .ok (.iconst (-1), 1)) ∧ (decode cX10_cheapest 255 = .ok (.goto 4, 3)) ∧ (decode cX10_cheapest 258 = .ok (.iload_n 3, 1)) ∧ (decode cX10_cheapest 259 = .ok (.ireturn, 1)) := by decide +kernel
theorem dX10_cheapest_254 : decode cX10_cheapest 254 = .ok (.iconst (-1), 1) := da9_dX10_cheapest_254.1
theorem dX10_cheapest_255 : decode cX10_cheapest 255 = .ok (.goto 4, 3) := da9_dX10_cheapest_254.2.1
theorem dX10_cheapest_258 : decode cX10_cheapest 258 = .ok (.iload_n 3, 1) := da9_dX10_cheapest_254.2.2.1
theorem dX10_cheapest_259 : decode cX10_cheapest 259 = .ok (.ireturn, 1) := da9_dX10_cheapest_254.2.2.2
set_option maxRecDepth 20000 in
theorem ggX10_laysReach_X10_laysPrices : GoodIn wsX10_laysReach wsX10_laysPrices := wd_c vW10_ok mvW10_342
set_option maxRecDepth 20000 in
theorem gX10_laysReach_X10_laysPrices : GoodIn wsX10_laysReach (wsV RX10 414 RX10 yX10_laysPrices wsX10_laysPrices) := goodIn_app (wd_l vW10_ok _ pvW10_216) ggX10_laysReach_X10_laysPrices
set_option maxRecDepth 20000 in
theorem ggX10_laysReach_X10_towerNow : GoodIn wsX10_laysReach wsX10_towerNow := wd_c vW10_ok mvW10_397
set_option maxRecDepth 20000 in
theorem gX10_laysReach_X10_towerNow : GoodIn wsX10_laysReach (wsV RX10 433 RX10 yX10_towerNow wsX10_towerNow) := goodIn_app (wd_l vW10_ok _ pvW10_222) ggX10_laysReach_X10_towerNow
set_option maxRecDepth 20000 in
theorem ggX10_laysReach_X10_size : GoodIn wsX10_laysReach wsX10_size := wd_c vW10_ok mvW10_24
set_option maxRecDepth 20000 in
theorem gX10_laysReach_X10_size : GoodIn wsX10_laysReach (wsV RX10 125 RX10 yX10_size wsX10_size) := goodIn_app (wd_l vW10_ok _ pvW10_144) ggX10_laysReach_X10_size
set_option maxRecDepth 20000 in
theorem ggX10_laysReach_X10_behind : GoodIn wsX10_laysReach wsX10_behind := wd_c vW10_ok mvW10_389
set_option maxRecDepth 20000 in
theorem gX10_laysReach_X10_behind : GoodIn wsX10_laysReach (wsV RX10 423 RX10 yX10_behind wsX10_behind) := goodIn_app (wd_l vW10_ok _ pvW10_219) ggX10_laysReach_X10_behind
set_option maxRecDepth 20000 in
theorem ggX10_laysReach_X10_priceOf : GoodIn wsX10_laysReach wsX10_priceOf := wd_c vW10_ok mvW10_393
set_option maxRecDepth 20000 in
theorem gX10_laysReach_X10_priceOf : GoodIn wsX10_laysReach (wsV RX10 426 RX10 yX10_priceOf wsX10_priceOf) := goodIn_app (wd_l vW10_ok _ pvW10_220) ggX10_laysReach_X10_priceOf
theorem da9_dX10_laysReach_0 : (decode cX10_laysReach 0 = .ok (.aload_n 0, 1)) ∧ (decode cX10_laysReach 1 = .ok (.invokevirtual 414, 3)) ∧ (decode cX10_laysReach 4 = .ok (.iconst 0, 1)) ∧ (decode cX10_laysReach 5 = .ok (.istore_n 1, 1)) ∧ (decode cX10_laysReach 6 = .ok (.iload_n 1, 1)) ∧ (decode cX10_laysReach 7 = .ok (.bipush 64, 2)) ∧ (decode cX10_laysReach 9 = .ok (.aload_n 0, 1)) ∧ (decode cX10_laysReach 10 = .ok (.getfield 386, 3)) ∧ (decode cX10_laysReach 13 = .ok (.imul, 1)) ∧ (decode cX10_laysReach 14 = .ok (.if_icmp .ge 17, 3)) ∧ (decode cX10_laysReach 17 = .ok (.aload_n 0, 1)) ∧ (decode cX10_laysReach 18 = .ok (.getfield 91, 3)) ∧ (decode cX10_laysReach 21 = .ok (.iload_n 1, 1)) ∧ (decode cX10_laysReach 22 = .ok (.ldc 188, 2)) ∧ (decode cX10_laysReach 24 = .ok (.iastore, 1)) ∧ (decode cX10_laysReach 25 = .ok (.iinc 1 1, 3)) := by decide +kernel
theorem dX10_laysReach_0 : decode cX10_laysReach 0 = .ok (.aload_n 0, 1) := da9_dX10_laysReach_0.1
theorem dX10_laysReach_1 : decode cX10_laysReach 1 = .ok (.invokevirtual 414, 3) := da9_dX10_laysReach_0.2.1
theorem dX10_laysReach_4 : decode cX10_laysReach 4 = .ok (.iconst 0, 1) := da9_dX10_laysReach_0.2.2.1
theorem dX10_laysReach_5 : decode cX10_laysReach 5 = .ok (.istore_n 1, 1) := da9_dX10_laysReach_0.2.2.2.1
theorem dX10_laysReach_6 : decode cX10_laysReach 6 = .ok (.iload_n 1, 1) := da9_dX10_laysReach_0.2.2.2.2.1
theorem dX10_laysReach_7 : decode cX10_laysReach 7 = .ok (.bipush 64, 2) := da9_dX10_laysReach_0.2.2.2.2.2.1
theorem dX10_laysReach_9 : decode cX10_laysReach 9 = .ok (.aload_n 0, 1) := da9_dX10_laysReach_0.2.2.2.2.2.2.1
theorem dX10_laysReach_10 : decode cX10_laysReach 10 = .ok (.getfield 386, 3) := da9_dX10_laysReach_0.2.2.2.2.2.2.2.1
theorem dX10_laysReach_13 : decode cX10_laysReach 13 = .ok (.imul, 1) := da9_dX10_laysReach_0.2.2.2.2.2.2.2.2.1
theorem dX10_laysReach_14 : decode cX10_laysReach 14 = .ok (.if_icmp .ge 17, 3) := da9_dX10_laysReach_0.2.2.2.2.2.2.2.2.2.1
theorem dX10_laysReach_17 : decode cX10_laysReach 17 = .ok (.aload_n 0, 1) := da9_dX10_laysReach_0.2.2.2.2.2.2.2.2.2.2.1
theorem dX10_laysReach_18 : decode cX10_laysReach 18 = .ok (.getfield 91, 3) := da9_dX10_laysReach_0.2.2.2.2.2.2.2.2.2.2.2.1
theorem dX10_laysReach_21 : decode cX10_laysReach 21 = .ok (.iload_n 1, 1) := da9_dX10_laysReach_0.2.2.2.2.2.2.2.2.2.2.2.2.1
theorem dX10_laysReach_22 : decode cX10_laysReach 22 = .ok (.ldc 188, 2) := da9_dX10_laysReach_0.2.2.2.2.2.2.2.2.2.2.2.2.2.1
theorem dX10_laysReach_24 : decode cX10_laysReach 24 = .ok (.iastore, 1) := da9_dX10_laysReach_0.2.2.2.2.2.2.2.2.2.2.2.2.2.2.1
theorem dX10_laysReach_25 : decode cX10_laysReach 25 = .ok (.iinc 1 1, 3) := da9_dX10_laysReach_0.2.2.2.2.2.2.2.2.2.2.2.2.2.2.2
theorem da9_dX10_laysReach_28 : (decode cX10_laysReach 28 = .ok (.goto (-22), 3)) ∧ (decode cX10_laysReach 31 = .ok (.iconst 1, 1)) ∧ (decode cX10_laysReach 32 = .ok (.istore_n 1, 1)) ∧ (decode cX10_laysReach 33 = .ok (.aload_n 0, 1)) ∧ (decode cX10_laysReach 34 = .ok (.getfield 97, 3)) ∧ (decode cX10_laysReach 37 = .ok (.iconst 0, 1)) ∧ (decode cX10_laysReach 38 = .ok (.aload_n 0, 1)) ∧ (decode cX10_laysReach 39 = .ok (.invokevirtual 433, 3)) ∧ (decode cX10_laysReach 42 = .ok (.iastore, 1)) ∧ (decode cX10_laysReach 43 = .ok (.aload_n 0, 1)) ∧ (decode cX10_laysReach 44 = .ok (.getfield 91, 3)) ∧ (decode cX10_laysReach 47 = .ok (.aload_n 0, 1)) ∧ (decode cX10_laysReach 48 = .ok (.getfield 97, 3)) ∧ (decode cX10_laysReach 51 = .ok (.iconst 0, 1)) ∧ (decode cX10_laysReach 52 = .ok (.iaload, 1)) ∧ (decode cX10_laysReach 53 = .ok (.iconst 0, 1)) := by decide +kernel
theorem dX10_laysReach_28 : decode cX10_laysReach 28 = .ok (.goto (-22), 3) := da9_dX10_laysReach_28.1
theorem dX10_laysReach_31 : decode cX10_laysReach 31 = .ok (.iconst 1, 1) := da9_dX10_laysReach_28.2.1
theorem dX10_laysReach_32 : decode cX10_laysReach 32 = .ok (.istore_n 1, 1) := da9_dX10_laysReach_28.2.2.1
theorem dX10_laysReach_33 : decode cX10_laysReach 33 = .ok (.aload_n 0, 1) := da9_dX10_laysReach_28.2.2.2.1
theorem dX10_laysReach_34 : decode cX10_laysReach 34 = .ok (.getfield 97, 3) := da9_dX10_laysReach_28.2.2.2.2.1
theorem dX10_laysReach_37 : decode cX10_laysReach 37 = .ok (.iconst 0, 1) := da9_dX10_laysReach_28.2.2.2.2.2.1
theorem dX10_laysReach_38 : decode cX10_laysReach 38 = .ok (.aload_n 0, 1) := da9_dX10_laysReach_28.2.2.2.2.2.2.1
theorem dX10_laysReach_39 : decode cX10_laysReach 39 = .ok (.invokevirtual 433, 3) := da9_dX10_laysReach_28.2.2.2.2.2.2.2.1
theorem dX10_laysReach_42 : decode cX10_laysReach 42 = .ok (.iastore, 1) := da9_dX10_laysReach_28.2.2.2.2.2.2.2.2.1
theorem dX10_laysReach_43 : decode cX10_laysReach 43 = .ok (.aload_n 0, 1) := da9_dX10_laysReach_28.2.2.2.2.2.2.2.2.2.1
theorem dX10_laysReach_44 : decode cX10_laysReach 44 = .ok (.getfield 91, 3) := da9_dX10_laysReach_28.2.2.2.2.2.2.2.2.2.2.1
theorem dX10_laysReach_47 : decode cX10_laysReach 47 = .ok (.aload_n 0, 1) := da9_dX10_laysReach_28.2.2.2.2.2.2.2.2.2.2.2.1
theorem dX10_laysReach_48 : decode cX10_laysReach 48 = .ok (.getfield 97, 3) := da9_dX10_laysReach_28.2.2.2.2.2.2.2.2.2.2.2.2.1
theorem dX10_laysReach_51 : decode cX10_laysReach 51 = .ok (.iconst 0, 1) := da9_dX10_laysReach_28.2.2.2.2.2.2.2.2.2.2.2.2.2.1
theorem dX10_laysReach_52 : decode cX10_laysReach 52 = .ok (.iaload, 1) := da9_dX10_laysReach_28.2.2.2.2.2.2.2.2.2.2.2.2.2.2.1
theorem dX10_laysReach_53 : decode cX10_laysReach 53 = .ok (.iconst 0, 1) := da9_dX10_laysReach_28.2.2.2.2.2.2.2.2.2.2.2.2.2.2.2
theorem da9_dX10_laysReach_54 : (decode cX10_laysReach 54 = .ok (.iastore, 1)) ∧ (decode cX10_laysReach 55 = .ok (.iconst 0, 1)) ∧ (decode cX10_laysReach 56 = .ok (.istore_n 2, 1)) ∧ (decode cX10_laysReach 57 = .ok (.iload_n 2, 1)) ∧ (decode cX10_laysReach 58 = .ok (.iload_n 1, 1)) ∧ (decode cX10_laysReach 59 = .ok (.if_icmp .ge 99, 3)) ∧ (decode cX10_laysReach 62 = .ok (.iconst 1, 1)) ∧ (decode cX10_laysReach 63 = .ok (.istore_n 3, 1)) ∧ (decode cX10_laysReach 64 = .ok (.iload_n 3, 1)) ∧ (decode cX10_laysReach 65 = .ok (.aload_n 0, 1)) ∧ (decode cX10_laysReach 66 = .ok (.invokevirtual 125, 3)) ∧ (decode cX10_laysReach 69 = .ok (.if_icmp .gt 83, 3)) ∧ (decode cX10_laysReach 72 = .ok (.aload_n 0, 1)) ∧ (decode cX10_laysReach 73 = .ok (.aload_n 0, 1)) ∧ (decode cX10_laysReach 74 = .ok (.getfield 97, 3)) ∧ (decode cX10_laysReach 77 = .ok (.iload_n 2, 1)) := by decide +kernel
theorem dX10_laysReach_54 : decode cX10_laysReach 54 = .ok (.iastore, 1) := da9_dX10_laysReach_54.1
theorem dX10_laysReach_55 : decode cX10_laysReach 55 = .ok (.iconst 0, 1) := da9_dX10_laysReach_54.2.1
theorem dX10_laysReach_56 : decode cX10_laysReach 56 = .ok (.istore_n 2, 1) := da9_dX10_laysReach_54.2.2.1
theorem dX10_laysReach_57 : decode cX10_laysReach 57 = .ok (.iload_n 2, 1) := da9_dX10_laysReach_54.2.2.2.1
theorem dX10_laysReach_58 : decode cX10_laysReach 58 = .ok (.iload_n 1, 1) := da9_dX10_laysReach_54.2.2.2.2.1
theorem dX10_laysReach_59 : decode cX10_laysReach 59 = .ok (.if_icmp .ge 99, 3) := da9_dX10_laysReach_54.2.2.2.2.2.1
theorem dX10_laysReach_62 : decode cX10_laysReach 62 = .ok (.iconst 1, 1) := da9_dX10_laysReach_54.2.2.2.2.2.2.1
theorem dX10_laysReach_63 : decode cX10_laysReach 63 = .ok (.istore_n 3, 1) := da9_dX10_laysReach_54.2.2.2.2.2.2.2.1
theorem dX10_laysReach_64 : decode cX10_laysReach 64 = .ok (.iload_n 3, 1) := da9_dX10_laysReach_54.2.2.2.2.2.2.2.2.1
theorem dX10_laysReach_65 : decode cX10_laysReach 65 = .ok (.aload_n 0, 1) := da9_dX10_laysReach_54.2.2.2.2.2.2.2.2.2.1
theorem dX10_laysReach_66 : decode cX10_laysReach 66 = .ok (.invokevirtual 125, 3) := da9_dX10_laysReach_54.2.2.2.2.2.2.2.2.2.2.1
theorem dX10_laysReach_69 : decode cX10_laysReach 69 = .ok (.if_icmp .gt 83, 3) := da9_dX10_laysReach_54.2.2.2.2.2.2.2.2.2.2.2.1
theorem dX10_laysReach_72 : decode cX10_laysReach 72 = .ok (.aload_n 0, 1) := da9_dX10_laysReach_54.2.2.2.2.2.2.2.2.2.2.2.2.1
theorem dX10_laysReach_73 : decode cX10_laysReach 73 = .ok (.aload_n 0, 1) := da9_dX10_laysReach_54.2.2.2.2.2.2.2.2.2.2.2.2.2.1
theorem dX10_laysReach_74 : decode cX10_laysReach 74 = .ok (.getfield 97, 3) := da9_dX10_laysReach_54.2.2.2.2.2.2.2.2.2.2.2.2.2.2.1
theorem dX10_laysReach_77 : decode cX10_laysReach 77 = .ok (.iload_n 2, 1) := da9_dX10_laysReach_54.2.2.2.2.2.2.2.2.2.2.2.2.2.2.2
theorem da9_dX10_laysReach_78 : (decode cX10_laysReach 78 = .ok (.iaload, 1)) ∧ (decode cX10_laysReach 79 = .ok (.iload_n 3, 1)) ∧ (decode cX10_laysReach 80 = .ok (.invokevirtual 423, 3)) ∧ (decode cX10_laysReach 83 = .ok (.istore 4, 2)) ∧ (decode cX10_laysReach 85 = .ok (.aload_n 0, 1)) ∧ (decode cX10_laysReach 86 = .ok (.aload_n 0, 1)) ∧ (decode cX10_laysReach 87 = .ok (.getfield 97, 3)) ∧ (decode cX10_laysReach 90 = .ok (.iload_n 2, 1)) ∧ (decode cX10_laysReach 91 = .ok (.iaload, 1)) ∧ (decode cX10_laysReach 92 = .ok (.iload_n 3, 1)) ∧ (decode cX10_laysReach 93 = .ok (.invokevirtual 426, 3)) ∧ (decode cX10_laysReach 96 = .ok (.iconst (-1), 1)) ∧ (decode cX10_laysReach 97 = .ok (.if_icmp .eq 49, 3)) ∧ (decode cX10_laysReach 100 = .ok (.aload_n 0, 1)) ∧ (decode cX10_laysReach 101 = .ok (.getfield 91, 3)) ∧ (decode cX10_laysReach 104 = .ok (.iload 4, 2)) := by decide +kernel
theorem dX10_laysReach_78 : decode cX10_laysReach 78 = .ok (.iaload, 1) := da9_dX10_laysReach_78.1
theorem dX10_laysReach_79 : decode cX10_laysReach 79 = .ok (.iload_n 3, 1) := da9_dX10_laysReach_78.2.1
theorem dX10_laysReach_80 : decode cX10_laysReach 80 = .ok (.invokevirtual 423, 3) := da9_dX10_laysReach_78.2.2.1
theorem dX10_laysReach_83 : decode cX10_laysReach 83 = .ok (.istore 4, 2) := da9_dX10_laysReach_78.2.2.2.1
theorem dX10_laysReach_85 : decode cX10_laysReach 85 = .ok (.aload_n 0, 1) := da9_dX10_laysReach_78.2.2.2.2.1
theorem dX10_laysReach_86 : decode cX10_laysReach 86 = .ok (.aload_n 0, 1) := da9_dX10_laysReach_78.2.2.2.2.2.1
theorem dX10_laysReach_87 : decode cX10_laysReach 87 = .ok (.getfield 97, 3) := da9_dX10_laysReach_78.2.2.2.2.2.2.1
theorem dX10_laysReach_90 : decode cX10_laysReach 90 = .ok (.iload_n 2, 1) := da9_dX10_laysReach_78.2.2.2.2.2.2.2.1
theorem dX10_laysReach_91 : decode cX10_laysReach 91 = .ok (.iaload, 1) := da9_dX10_laysReach_78.2.2.2.2.2.2.2.2.1
theorem dX10_laysReach_92 : decode cX10_laysReach 92 = .ok (.iload_n 3, 1) := da9_dX10_laysReach_78.2.2.2.2.2.2.2.2.2.1
theorem dX10_laysReach_93 : decode cX10_laysReach 93 = .ok (.invokevirtual 426, 3) := da9_dX10_laysReach_78.2.2.2.2.2.2.2.2.2.2.1
theorem dX10_laysReach_96 : decode cX10_laysReach 96 = .ok (.iconst (-1), 1) := da9_dX10_laysReach_78.2.2.2.2.2.2.2.2.2.2.2.1
theorem dX10_laysReach_97 : decode cX10_laysReach 97 = .ok (.if_icmp .eq 49, 3) := da9_dX10_laysReach_78.2.2.2.2.2.2.2.2.2.2.2.2.1
theorem dX10_laysReach_100 : decode cX10_laysReach 100 = .ok (.aload_n 0, 1) := da9_dX10_laysReach_78.2.2.2.2.2.2.2.2.2.2.2.2.2.1
theorem dX10_laysReach_101 : decode cX10_laysReach 101 = .ok (.getfield 91, 3) := da9_dX10_laysReach_78.2.2.2.2.2.2.2.2.2.2.2.2.2.2.1
theorem dX10_laysReach_104 : decode cX10_laysReach 104 = .ok (.iload 4, 2) := da9_dX10_laysReach_78.2.2.2.2.2.2.2.2.2.2.2.2.2.2.2
theorem da9_dX10_laysReach_106 : (decode cX10_laysReach 106 = .ok (.iaload, 1)) ∧ (decode cX10_laysReach 107 = .ok (.ldc 188, 2)) ∧ (decode cX10_laysReach 109 = .ok (.if_icmp .ge 6, 3)) ∧ (decode cX10_laysReach 112 = .ok (.goto 34, 3)) ∧ (decode cX10_laysReach 115 = .ok (.aload_n 0, 1)) ∧ (decode cX10_laysReach 116 = .ok (.getfield 91, 3)) ∧ (decode cX10_laysReach 119 = .ok (.iload 4, 2)) ∧ (decode cX10_laysReach 121 = .ok (.aload_n 0, 1)) ∧ (decode cX10_laysReach 122 = .ok (.getfield 91, 3)) ∧ (decode cX10_laysReach 125 = .ok (.aload_n 0, 1)) ∧ (decode cX10_laysReach 126 = .ok (.getfield 97, 3)) ∧ (decode cX10_laysReach 129 = .ok (.iload_n 2, 1)) ∧ (decode cX10_laysReach 130 = .ok (.iaload, 1)) ∧ (decode cX10_laysReach 131 = .ok (.iaload, 1)) ∧ (decode cX10_laysReach 132 = .ok (.iconst 1, 1)) ∧ (decode cX10_laysReach 133 = .ok (.iadd, 1)) := by decide +kernel
theorem dX10_laysReach_106 : decode cX10_laysReach 106 = .ok (.iaload, 1) := da9_dX10_laysReach_106.1
theorem dX10_laysReach_107 : decode cX10_laysReach 107 = .ok (.ldc 188, 2) := da9_dX10_laysReach_106.2.1
theorem dX10_laysReach_109 : decode cX10_laysReach 109 = .ok (.if_icmp .ge 6, 3) := da9_dX10_laysReach_106.2.2.1
theorem dX10_laysReach_112 : decode cX10_laysReach 112 = .ok (.goto 34, 3) := da9_dX10_laysReach_106.2.2.2.1
theorem dX10_laysReach_115 : decode cX10_laysReach 115 = .ok (.aload_n 0, 1) := da9_dX10_laysReach_106.2.2.2.2.1
theorem dX10_laysReach_116 : decode cX10_laysReach 116 = .ok (.getfield 91, 3) := da9_dX10_laysReach_106.2.2.2.2.2.1
theorem dX10_laysReach_119 : decode cX10_laysReach 119 = .ok (.iload 4, 2) := da9_dX10_laysReach_106.2.2.2.2.2.2.1
theorem dX10_laysReach_121 : decode cX10_laysReach 121 = .ok (.aload_n 0, 1) := da9_dX10_laysReach_106.2.2.2.2.2.2.2.1
theorem dX10_laysReach_122 : decode cX10_laysReach 122 = .ok (.getfield 91, 3) := da9_dX10_laysReach_106.2.2.2.2.2.2.2.2.1
theorem dX10_laysReach_125 : decode cX10_laysReach 125 = .ok (.aload_n 0, 1) := da9_dX10_laysReach_106.2.2.2.2.2.2.2.2.2.1
theorem dX10_laysReach_126 : decode cX10_laysReach 126 = .ok (.getfield 97, 3) := da9_dX10_laysReach_106.2.2.2.2.2.2.2.2.2.2.1
theorem dX10_laysReach_129 : decode cX10_laysReach 129 = .ok (.iload_n 2, 1) := da9_dX10_laysReach_106.2.2.2.2.2.2.2.2.2.2.2.1
theorem dX10_laysReach_130 : decode cX10_laysReach 130 = .ok (.iaload, 1) := da9_dX10_laysReach_106.2.2.2.2.2.2.2.2.2.2.2.2.1
theorem dX10_laysReach_131 : decode cX10_laysReach 131 = .ok (.iaload, 1) := da9_dX10_laysReach_106.2.2.2.2.2.2.2.2.2.2.2.2.2.1
theorem dX10_laysReach_132 : decode cX10_laysReach 132 = .ok (.iconst 1, 1) := da9_dX10_laysReach_106.2.2.2.2.2.2.2.2.2.2.2.2.2.2.1
theorem dX10_laysReach_133 : decode cX10_laysReach 133 = .ok (.iadd, 1) := da9_dX10_laysReach_106.2.2.2.2.2.2.2.2.2.2.2.2.2.2.2
theorem da9_dX10_laysReach_134 : (decode cX10_laysReach 134 = .ok (.iastore, 1)) ∧ (decode cX10_laysReach 135 = .ok (.aload_n 0, 1)) ∧ (decode cX10_laysReach 136 = .ok (.getfield 97, 3)) ∧ (decode cX10_laysReach 139 = .ok (.iload_n 1, 1)) ∧ (decode cX10_laysReach 140 = .ok (.iload 4, 2)) ∧ (decode cX10_laysReach 142 = .ok (.iastore, 1)) ∧ (decode cX10_laysReach 143 = .ok (.iinc 1 1, 3)) ∧ (decode cX10_laysReach 146 = .ok (.iinc 3 1, 3)) ∧ (decode cX10_laysReach 149 = .ok (.goto (-85), 3)) ∧ (decode cX10_laysReach 152 = .ok (.iinc 2 1, 3)) ∧ (decode cX10_laysReach 155 = .ok (.goto (-98), 3)) ∧ (decode cX10_laysReach 158 = .ok (.iload_n 1, 1)) ∧ (decode cX10_laysReach 159 = .ok (.ireturn, 1)) := by decide +kernel
theorem dX10_laysReach_134 : decode cX10_laysReach 134 = .ok (.iastore, 1) := da9_dX10_laysReach_134.1
theorem dX10_laysReach_135 : decode cX10_laysReach 135 = .ok (.aload_n 0, 1) := da9_dX10_laysReach_134.2.1
theorem dX10_laysReach_136 : decode cX10_laysReach 136 = .ok (.getfield 97, 3) := da9_dX10_laysReach_134.2.2.1
theorem dX10_laysReach_139 : decode cX10_laysReach 139 = .ok (.iload_n 1, 1) := da9_dX10_laysReach_134.2.2.2.1
theorem dX10_laysReach_140 : decode cX10_laysReach 140 = .ok (.iload 4, 2) := da9_dX10_laysReach_134.2.2.2.2.1
theorem dX10_laysReach_142 : decode cX10_laysReach 142 = .ok (.iastore, 1) := da9_dX10_laysReach_134.2.2.2.2.2.1
theorem dX10_laysReach_143 : decode cX10_laysReach 143 = .ok (.iinc 1 1, 3) := da9_dX10_laysReach_134.2.2.2.2.2.2.1
theorem dX10_laysReach_146 : decode cX10_laysReach 146 = .ok (.iinc 3 1, 3) := da9_dX10_laysReach_134.2.2.2.2.2.2.2.1
theorem dX10_laysReach_149 : decode cX10_laysReach 149 = .ok (.goto (-85), 3) := da9_dX10_laysReach_134.2.2.2.2.2.2.2.2.1
theorem dX10_laysReach_152 : decode cX10_laysReach 152 = .ok (.iinc 2 1, 3) := da9_dX10_laysReach_134.2.2.2.2.2.2.2.2.2.1
theorem dX10_laysReach_155 : decode cX10_laysReach 155 = .ok (.goto (-98), 3) := da9_dX10_laysReach_134.2.2.2.2.2.2.2.2.2.2.1
theorem dX10_laysReach_158 : decode cX10_laysReach 158 = .ok (.iload_n 1, 1) := da9_dX10_laysReach_134.2.2.2.2.2.2.2.2.2.2.2.1
theorem dX10_laysReach_159 : decode cX10_laysReach 159 = .ok (.ireturn, 1) := da9_dX10_laysReach_134.2.2.2.2.2.2.2.2.2.2.2.2
set_option maxRecDepth 20000 in
theorem ggX10_reach_X10_laysReach : GoodIn wsX10_reach wsX10_laysReach := wd_c vW10_ok mvW10_406
set_option maxRecDepth 20000 in
theorem gX10_reach_X10_laysReach : GoodIn wsX10_reach (wsV RX10 442 RX10 yX10_laysReach wsX10_laysReach) := goodIn_app (wd_l vW10_ok _ pvW10_225) ggX10_reach_X10_laysReach
theorem da9_dX10_reach_0 : (decode cX10_reach 0 = .ok (.aload_n 0, 1)) ∧ (decode cX10_reach 1 = .ok (.invokevirtual 442, 3)) ∧ (decode cX10_reach 4 = .ok (.ireturn, 1)) := by decide +kernel
theorem dX10_reach_0 : decode cX10_reach 0 = .ok (.aload_n 0, 1) := da9_dX10_reach_0.1
theorem dX10_reach_1 : decode cX10_reach 1 = .ok (.invokevirtual 442, 3) := da9_dX10_reach_0.2.1
theorem dX10_reach_4 : decode cX10_reach 4 = .ok (.ireturn, 1) := da9_dX10_reach_0.2.2
set_option maxRecDepth 20000 in
theorem ggX10_isOrder_X10_size : GoodIn wsX10_isOrder wsX10_size := wd_c vW10_ok mvW10_24
set_option maxRecDepth 20000 in
theorem gX10_isOrder_X10_size : GoodIn wsX10_isOrder (wsV RX10 125 RX10 yX10_size wsX10_size) := goodIn_app (wd_l vW10_ok _ pvW10_144) ggX10_isOrder_X10_size
set_option maxRecDepth 20000 in
theorem ggX10_isOrder_X10_placeOf : GoodIn wsX10_isOrder wsX10_placeOf := wd_c vW10_ok mvW10_19
set_option maxRecDepth 20000 in
theorem gX10_isOrder_X10_placeOf : GoodIn wsX10_isOrder (wsV RX10 136 RX10 yX10_placeOf wsX10_placeOf) := goodIn_app (wd_l vW10_ok _ pvW10_147) ggX10_isOrder_X10_placeOf
set_option maxRecDepth 20000 in
theorem ggX10_isOrder_X10_isIn : GoodIn wsX10_isOrder wsX10_isIn := wd_c vW10_ok mvW10_362
set_option maxRecDepth 20000 in
theorem gX10_isOrder_X10_isIn : GoodIn wsX10_isOrder (va_wsS RX10 383 yX10_isIn wsX10_isIn) := goodIn_app (wd_l vW10_ok _ pvW10_208) ggX10_isOrder_X10_isIn
set_option maxRecDepth 20000 in
theorem ggX10_isOrder_X10_lessThan : GoodIn wsX10_isOrder wsX10_lessThan := wd_c vW10_ok mvW10_106
set_option maxRecDepth 20000 in
theorem gX10_isOrder_X10_lessThan : GoodIn wsX10_isOrder (wsV RX10 401 RX10 yX10_lessThan wsX10_lessThan) := goodIn_app (wd_l vW10_ok _ pvW10_212) ggX10_isOrder_X10_lessThan
theorem da9_dX10_isOrder_0 : (decode cX10_isOrder 0 = .ok (.iload_n 1, 1)) ∧ (decode cX10_isOrder 1 = .ok (.istore_n 2, 1)) ∧ (decode cX10_isOrder 2 = .ok (.iconst 0, 1)) ∧ (decode cX10_isOrder 3 = .ok (.istore_n 3, 1)) ∧ (decode cX10_isOrder 4 = .ok (.iload_n 1, 1)) ∧ (decode cX10_isOrder 5 = .ok (.ifCond .lt 7, 3)) ∧ (decode cX10_isOrder 8 = .ok (.iconst 1, 1)) ∧ (decode cX10_isOrder 9 = .ok (.goto 4, 3)) ∧ (decode cX10_isOrder 12 = .ok (.iconst 0, 1)) ∧ (decode cX10_isOrder 13 = .ok (.istore 4, 2)) ∧ (decode cX10_isOrder 15 = .ok (.aload_n 0, 1)) ∧ (decode cX10_isOrder 16 = .ok (.invokevirtual 125, 3)) ∧ (decode cX10_isOrder 19 = .ok (.iconst 1, 1)) ∧ (decode cX10_isOrder 20 = .ok (.isub, 1)) ∧ (decode cX10_isOrder 21 = .ok (.istore 5, 2)) ∧ (decode cX10_isOrder 23 = .ok (.iload 5, 2)) := by decide +kernel
theorem dX10_isOrder_0 : decode cX10_isOrder 0 = .ok (.iload_n 1, 1) := da9_dX10_isOrder_0.1
theorem dX10_isOrder_1 : decode cX10_isOrder 1 = .ok (.istore_n 2, 1) := da9_dX10_isOrder_0.2.1
theorem dX10_isOrder_2 : decode cX10_isOrder 2 = .ok (.iconst 0, 1) := da9_dX10_isOrder_0.2.2.1
theorem dX10_isOrder_3 : decode cX10_isOrder 3 = .ok (.istore_n 3, 1) := da9_dX10_isOrder_0.2.2.2.1
theorem dX10_isOrder_4 : decode cX10_isOrder 4 = .ok (.iload_n 1, 1) := da9_dX10_isOrder_0.2.2.2.2.1
theorem dX10_isOrder_5 : decode cX10_isOrder 5 = .ok (.ifCond .lt 7, 3) := da9_dX10_isOrder_0.2.2.2.2.2.1
theorem dX10_isOrder_8 : decode cX10_isOrder 8 = .ok (.iconst 1, 1) := da9_dX10_isOrder_0.2.2.2.2.2.2.1
theorem dX10_isOrder_9 : decode cX10_isOrder 9 = .ok (.goto 4, 3) := da9_dX10_isOrder_0.2.2.2.2.2.2.2.1
theorem dX10_isOrder_12 : decode cX10_isOrder 12 = .ok (.iconst 0, 1) := da9_dX10_isOrder_0.2.2.2.2.2.2.2.2.1
theorem dX10_isOrder_13 : decode cX10_isOrder 13 = .ok (.istore 4, 2) := da9_dX10_isOrder_0.2.2.2.2.2.2.2.2.2.1
theorem dX10_isOrder_15 : decode cX10_isOrder 15 = .ok (.aload_n 0, 1) := da9_dX10_isOrder_0.2.2.2.2.2.2.2.2.2.2.1
theorem dX10_isOrder_16 : decode cX10_isOrder 16 = .ok (.invokevirtual 125, 3) := da9_dX10_isOrder_0.2.2.2.2.2.2.2.2.2.2.2.1
theorem dX10_isOrder_19 : decode cX10_isOrder 19 = .ok (.iconst 1, 1) := da9_dX10_isOrder_0.2.2.2.2.2.2.2.2.2.2.2.2.1
theorem dX10_isOrder_20 : decode cX10_isOrder 20 = .ok (.isub, 1) := da9_dX10_isOrder_0.2.2.2.2.2.2.2.2.2.2.2.2.2.1
theorem dX10_isOrder_21 : decode cX10_isOrder 21 = .ok (.istore 5, 2) := da9_dX10_isOrder_0.2.2.2.2.2.2.2.2.2.2.2.2.2.2.1
theorem dX10_isOrder_23 : decode cX10_isOrder 23 = .ok (.iload 5, 2) := da9_dX10_isOrder_0.2.2.2.2.2.2.2.2.2.2.2.2.2.2.2
theorem da9_dX10_isOrder_25 : (decode cX10_isOrder 25 = .ok (.ifCond .lt 82, 3)) ∧ (decode cX10_isOrder 28 = .ok (.iload 4, 2)) ∧ (decode cX10_isOrder 30 = .ok (.ifCond .eq 30, 3)) ∧ (decode cX10_isOrder 33 = .ok (.aload_n 0, 1)) ∧ (decode cX10_isOrder 34 = .ok (.iload_n 2, 1)) ∧ (decode cX10_isOrder 35 = .ok (.bipush 10, 2)) ∧ (decode cX10_isOrder 37 = .ok (.irem, 1)) ∧ (decode cX10_isOrder 38 = .ok (.invokevirtual 136, 3)) ∧ (decode cX10_isOrder 41 = .ok (.iconst (-1), 1)) ∧ (decode cX10_isOrder 42 = .ok (.if_icmp .eq 18, 3)) ∧ (decode cX10_isOrder 45 = .ok (.iload_n 3, 1)) ∧ (decode cX10_isOrder 46 = .ok (.iload_n 2, 1)) ∧ (decode cX10_isOrder 47 = .ok (.bipush 10, 2)) ∧ (decode cX10_isOrder 49 = .ok (.irem, 1)) ∧ (decode cX10_isOrder 50 = .ok (.invokestatic 383, 3)) ∧ (decode cX10_isOrder 53 = .ok (.ifCond .ne 7, 3)) := by decide +kernel
theorem dX10_isOrder_25 : decode cX10_isOrder 25 = .ok (.ifCond .lt 82, 3) := da9_dX10_isOrder_25.1
theorem dX10_isOrder_28 : decode cX10_isOrder 28 = .ok (.iload 4, 2) := da9_dX10_isOrder_25.2.1
theorem dX10_isOrder_30 : decode cX10_isOrder 30 = .ok (.ifCond .eq 30, 3) := da9_dX10_isOrder_25.2.2.1
theorem dX10_isOrder_33 : decode cX10_isOrder 33 = .ok (.aload_n 0, 1) := da9_dX10_isOrder_25.2.2.2.1
theorem dX10_isOrder_34 : decode cX10_isOrder 34 = .ok (.iload_n 2, 1) := da9_dX10_isOrder_25.2.2.2.2.1
theorem dX10_isOrder_35 : decode cX10_isOrder 35 = .ok (.bipush 10, 2) := da9_dX10_isOrder_25.2.2.2.2.2.1
theorem dX10_isOrder_37 : decode cX10_isOrder 37 = .ok (.irem, 1) := da9_dX10_isOrder_25.2.2.2.2.2.2.1
theorem dX10_isOrder_38 : decode cX10_isOrder 38 = .ok (.invokevirtual 136, 3) := da9_dX10_isOrder_25.2.2.2.2.2.2.2.1
theorem dX10_isOrder_41 : decode cX10_isOrder 41 = .ok (.iconst (-1), 1) := da9_dX10_isOrder_25.2.2.2.2.2.2.2.2.1
theorem dX10_isOrder_42 : decode cX10_isOrder 42 = .ok (.if_icmp .eq 18, 3) := da9_dX10_isOrder_25.2.2.2.2.2.2.2.2.2.1
theorem dX10_isOrder_45 : decode cX10_isOrder 45 = .ok (.iload_n 3, 1) := da9_dX10_isOrder_25.2.2.2.2.2.2.2.2.2.2.1
theorem dX10_isOrder_46 : decode cX10_isOrder 46 = .ok (.iload_n 2, 1) := da9_dX10_isOrder_25.2.2.2.2.2.2.2.2.2.2.2.1
theorem dX10_isOrder_47 : decode cX10_isOrder 47 = .ok (.bipush 10, 2) := da9_dX10_isOrder_25.2.2.2.2.2.2.2.2.2.2.2.2.1
theorem dX10_isOrder_49 : decode cX10_isOrder 49 = .ok (.irem, 1) := da9_dX10_isOrder_25.2.2.2.2.2.2.2.2.2.2.2.2.2.1
theorem dX10_isOrder_50 : decode cX10_isOrder 50 = .ok (.invokestatic 383, 3) := da9_dX10_isOrder_25.2.2.2.2.2.2.2.2.2.2.2.2.2.2.1
theorem dX10_isOrder_53 : decode cX10_isOrder 53 = .ok (.ifCond .ne 7, 3) := da9_dX10_isOrder_25.2.2.2.2.2.2.2.2.2.2.2.2.2.2.2
theorem da9_dX10_isOrder_56 : (decode cX10_isOrder 56 = .ok (.iconst 1, 1)) ∧ (decode cX10_isOrder 57 = .ok (.goto 4, 3)) ∧ (decode cX10_isOrder 60 = .ok (.iconst 0, 1)) ∧ (decode cX10_isOrder 61 = .ok (.istore 4, 2)) ∧ (decode cX10_isOrder 63 = .ok (.iload_n 3, 1)) ∧ (decode cX10_isOrder 64 = .ok (.iconst 1, 1)) ∧ (decode cX10_isOrder 65 = .ok (.iload_n 2, 1)) ∧ (decode cX10_isOrder 66 = .ok (.bipush 10, 2)) ∧ (decode cX10_isOrder 68 = .ok (.irem, 1)) ∧ (decode cX10_isOrder 69 = .ok (.ishl, 1)) ∧ (decode cX10_isOrder 70 = .ok (.ior, 1)) ∧ (decode cX10_isOrder 71 = .ok (.istore_n 3, 1)) ∧ (decode cX10_isOrder 72 = .ok (.aload_n 0, 1)) ∧ (decode cX10_isOrder 73 = .ok (.getfield 84, 3)) ∧ (decode cX10_isOrder 76 = .ok (.iload 5, 2)) ∧ (decode cX10_isOrder 78 = .ok (.iload 4, 2)) := by decide +kernel
theorem dX10_isOrder_56 : decode cX10_isOrder 56 = .ok (.iconst 1, 1) := da9_dX10_isOrder_56.1
theorem dX10_isOrder_57 : decode cX10_isOrder 57 = .ok (.goto 4, 3) := da9_dX10_isOrder_56.2.1
theorem dX10_isOrder_60 : decode cX10_isOrder 60 = .ok (.iconst 0, 1) := da9_dX10_isOrder_56.2.2.1
theorem dX10_isOrder_61 : decode cX10_isOrder 61 = .ok (.istore 4, 2) := da9_dX10_isOrder_56.2.2.2.1
theorem dX10_isOrder_63 : decode cX10_isOrder 63 = .ok (.iload_n 3, 1) := da9_dX10_isOrder_56.2.2.2.2.1
theorem dX10_isOrder_64 : decode cX10_isOrder 64 = .ok (.iconst 1, 1) := da9_dX10_isOrder_56.2.2.2.2.2.1
theorem dX10_isOrder_65 : decode cX10_isOrder 65 = .ok (.iload_n 2, 1) := da9_dX10_isOrder_56.2.2.2.2.2.2.1
theorem dX10_isOrder_66 : decode cX10_isOrder 66 = .ok (.bipush 10, 2) := da9_dX10_isOrder_56.2.2.2.2.2.2.2.1
theorem dX10_isOrder_68 : decode cX10_isOrder 68 = .ok (.irem, 1) := da9_dX10_isOrder_56.2.2.2.2.2.2.2.2.1
theorem dX10_isOrder_69 : decode cX10_isOrder 69 = .ok (.ishl, 1) := da9_dX10_isOrder_56.2.2.2.2.2.2.2.2.2.1
theorem dX10_isOrder_70 : decode cX10_isOrder 70 = .ok (.ior, 1) := da9_dX10_isOrder_56.2.2.2.2.2.2.2.2.2.2.1
theorem dX10_isOrder_71 : decode cX10_isOrder 71 = .ok (.istore_n 3, 1) := da9_dX10_isOrder_56.2.2.2.2.2.2.2.2.2.2.2.1
theorem dX10_isOrder_72 : decode cX10_isOrder 72 = .ok (.aload_n 0, 1) := da9_dX10_isOrder_56.2.2.2.2.2.2.2.2.2.2.2.2.1
theorem dX10_isOrder_73 : decode cX10_isOrder 73 = .ok (.getfield 84, 3) := da9_dX10_isOrder_56.2.2.2.2.2.2.2.2.2.2.2.2.2.1
theorem dX10_isOrder_76 : decode cX10_isOrder 76 = .ok (.iload 5, 2) := da9_dX10_isOrder_56.2.2.2.2.2.2.2.2.2.2.2.2.2.2.1
theorem dX10_isOrder_78 : decode cX10_isOrder 78 = .ok (.iload 4, 2) := da9_dX10_isOrder_56.2.2.2.2.2.2.2.2.2.2.2.2.2.2.2
theorem da9_dX10_isOrder_80 : (decode cX10_isOrder 80 = .ok (.ifCond .eq 14, 3)) ∧ (decode cX10_isOrder 83 = .ok (.aload_n 0, 1)) ∧ (decode cX10_isOrder 84 = .ok (.iload_n 2, 1)) ∧ (decode cX10_isOrder 85 = .ok (.bipush 10, 2)) ∧ (decode cX10_isOrder 87 = .ok (.irem, 1)) ∧ (decode cX10_isOrder 88 = .ok (.invokevirtual 401, 3)) ∧ (decode cX10_isOrder 91 = .ok (.goto 4, 3)) ∧ (decode cX10_isOrder 94 = .ok (.iconst 0, 1)) ∧ (decode cX10_isOrder 95 = .ok (.iastore, 1)) ∧ (decode cX10_isOrder 96 = .ok (.iload_n 2, 1)) ∧ (decode cX10_isOrder 97 = .ok (.bipush 10, 2)) ∧ (decode cX10_isOrder 99 = .ok (.idiv, 1)) ∧ (decode cX10_isOrder 100 = .ok (.istore_n 2, 1)) ∧ (decode cX10_isOrder 101 = .ok (.iinc 5 (-1), 3)) ∧ (decode cX10_isOrder 104 = .ok (.goto (-81), 3)) ∧ (decode cX10_isOrder 107 = .ok (.iload 4, 2)) := by decide +kernel
theorem dX10_isOrder_80 : decode cX10_isOrder 80 = .ok (.ifCond .eq 14, 3) := da9_dX10_isOrder_80.1
theorem dX10_isOrder_83 : decode cX10_isOrder 83 = .ok (.aload_n 0, 1) := da9_dX10_isOrder_80.2.1
theorem dX10_isOrder_84 : decode cX10_isOrder 84 = .ok (.iload_n 2, 1) := da9_dX10_isOrder_80.2.2.1
theorem dX10_isOrder_85 : decode cX10_isOrder 85 = .ok (.bipush 10, 2) := da9_dX10_isOrder_80.2.2.2.1
theorem dX10_isOrder_87 : decode cX10_isOrder 87 = .ok (.irem, 1) := da9_dX10_isOrder_80.2.2.2.2.1
theorem dX10_isOrder_88 : decode cX10_isOrder 88 = .ok (.invokevirtual 401, 3) := da9_dX10_isOrder_80.2.2.2.2.2.1
theorem dX10_isOrder_91 : decode cX10_isOrder 91 = .ok (.goto 4, 3) := da9_dX10_isOrder_80.2.2.2.2.2.2.1
theorem dX10_isOrder_94 : decode cX10_isOrder 94 = .ok (.iconst 0, 1) := da9_dX10_isOrder_80.2.2.2.2.2.2.2.1
theorem dX10_isOrder_95 : decode cX10_isOrder 95 = .ok (.iastore, 1) := da9_dX10_isOrder_80.2.2.2.2.2.2.2.2.1
theorem dX10_isOrder_96 : decode cX10_isOrder 96 = .ok (.iload_n 2, 1) := da9_dX10_isOrder_80.2.2.2.2.2.2.2.2.2.1
theorem dX10_isOrder_97 : decode cX10_isOrder 97 = .ok (.bipush 10, 2) := da9_dX10_isOrder_80.2.2.2.2.2.2.2.2.2.2.1
theorem dX10_isOrder_99 : decode cX10_isOrder 99 = .ok (.idiv, 1) := da9_dX10_isOrder_80.2.2.2.2.2.2.2.2.2.2.2.1
theorem dX10_isOrder_100 : decode cX10_isOrder 100 = .ok (.istore_n 2, 1) := da9_dX10_isOrder_80.2.2.2.2.2.2.2.2.2.2.2.2.1
theorem dX10_isOrder_101 : decode cX10_isOrder 101 = .ok (.iinc 5 (-1), 3) := da9_dX10_isOrder_80.2.2.2.2.2.2.2.2.2.2.2.2.2.1
theorem dX10_isOrder_104 : decode cX10_isOrder 104 = .ok (.goto (-81), 3) := da9_dX10_isOrder_80.2.2.2.2.2.2.2.2.2.2.2.2.2.2.1
theorem dX10_isOrder_107 : decode cX10_isOrder 107 = .ok (.iload 4, 2) := da9_dX10_isOrder_80.2.2.2.2.2.2.2.2.2.2.2.2.2.2.2
theorem da9_dX10_isOrder_109 : (decode cX10_isOrder 109 = .ok (.ifCond .eq 11, 3)) ∧ (decode cX10_isOrder 112 = .ok (.iload_n 2, 1)) ∧ (decode cX10_isOrder 113 = .ok (.ifCond .ne 7, 3)) ∧ (decode cX10_isOrder 116 = .ok (.iconst 1, 1)) ∧ (decode cX10_isOrder 117 = .ok (.goto 4, 3)) ∧ (decode cX10_isOrder 120 = .ok (.iconst 0, 1)) ∧ (decode cX10_isOrder 121 = .ok (.ireturn, 1)) := by decide +kernel
theorem dX10_isOrder_109 : decode cX10_isOrder 109 = .ok (.ifCond .eq 11, 3) := da9_dX10_isOrder_109.1
theorem dX10_isOrder_112 : decode cX10_isOrder 112 = .ok (.iload_n 2, 1) := da9_dX10_isOrder_109.2.1
theorem dX10_isOrder_113 : decode cX10_isOrder 113 = .ok (.ifCond .ne 7, 3) := da9_dX10_isOrder_109.2.2.1
theorem dX10_isOrder_116 : decode cX10_isOrder 116 = .ok (.iconst 1, 1) := da9_dX10_isOrder_109.2.2.2.1
theorem dX10_isOrder_117 : decode cX10_isOrder 117 = .ok (.goto 4, 3) := da9_dX10_isOrder_109.2.2.2.2.1
theorem dX10_isOrder_120 : decode cX10_isOrder 120 = .ok (.iconst 0, 1) := da9_dX10_isOrder_109.2.2.2.2.2.1
theorem dX10_isOrder_121 : decode cX10_isOrder 121 = .ok (.ireturn, 1) := da9_dX10_isOrder_109.2.2.2.2.2.2
set_option maxRecDepth 20000 in
theorem ggX10_comes_X10_isOrder : GoodIn wsX10_comes wsX10_isOrder := wd_c vW10_ok mvW10_410
set_option maxRecDepth 20000 in
theorem gX10_comes_X10_isOrder : GoodIn wsX10_comes (wsV RX10 445 RX10 yX10_isOrder wsX10_isOrder) := goodIn_app (wd_l vW10_ok _ pvW10_226) ggX10_comes_X10_isOrder
set_option maxRecDepth 20000 in
theorem ggX10_comes_X10_numberOf : GoodIn wsX10_comes wsX10_numberOf := wd_c vW10_ok mvW10_366
set_option maxRecDepth 20000 in
theorem gX10_comes_X10_numberOf : GoodIn wsX10_comes (wsV RX10 395 RX10 yX10_numberOf wsX10_numberOf) := goodIn_app (wd_l vW10_ok _ pvW10_210) ggX10_comes_X10_numberOf
set_option maxRecDepth 20000 in
theorem ggX10_comes_X10_laysReach : GoodIn wsX10_comes wsX10_laysReach := wd_c vW10_ok mvW10_406
set_option maxRecDepth 20000 in
theorem gX10_comes_X10_laysReach : GoodIn wsX10_comes (wsV RX10 442 RX10 yX10_laysReach wsX10_laysReach) := goodIn_app (wd_l vW10_ok _ pvW10_225) ggX10_comes_X10_laysReach
set_option maxRecDepth 20000 in
theorem ggX10_comes_X10_lesser : GoodIn wsX10_comes wsX10_lesser := wd_c vW10_ok mvW10_317
set_option maxRecDepth 20000 in
theorem gX10_comes_X10_lesser : GoodIn wsX10_comes (va_wsS RX10 350 yX10_lesser wsX10_lesser) := goodIn_app (wd_l vW10_ok _ pvW10_197) ggX10_comes_X10_lesser
theorem da9_dX10_comes_0 : (decode cX10_comes 0 = .ok (.aload_n 0, 1)) ∧ (decode cX10_comes 1 = .ok (.iload_n 1, 1)) ∧ (decode cX10_comes 2 = .ok (.invokevirtual 445, 3)) ∧ (decode cX10_comes 5 = .ok (.ifCond .ne 5, 3)) ∧ (decode cX10_comes 8 = .ok (.iconst (-1), 1)) ∧ (decode cX10_comes 9 = .ok (.ireturn, 1)) ∧ (decode cX10_comes 10 = .ok (.aload_n 0, 1)) ∧ (decode cX10_comes 11 = .ok (.invokevirtual 395, 3)) ∧ (decode cX10_comes 14 = .ok (.istore_n 2, 1)) ∧ (decode cX10_comes 15 = .ok (.aload_n 0, 1)) ∧ (decode cX10_comes 16 = .ok (.invokevirtual 442, 3)) ∧ (decode cX10_comes 19 = .ok (.pop, 1)) ∧ (decode cX10_comes 20 = .ok (.ldc 188, 2)) ∧ (decode cX10_comes 22 = .ok (.istore_n 3, 1)) ∧ (decode cX10_comes 23 = .ok (.iconst 0, 1)) ∧ (decode cX10_comes 24 = .ok (.istore 4, 2)) := by decide +kernel
theorem dX10_comes_0 : decode cX10_comes 0 = .ok (.aload_n 0, 1) := da9_dX10_comes_0.1
theorem dX10_comes_1 : decode cX10_comes 1 = .ok (.iload_n 1, 1) := da9_dX10_comes_0.2.1
theorem dX10_comes_2 : decode cX10_comes 2 = .ok (.invokevirtual 445, 3) := da9_dX10_comes_0.2.2.1
theorem dX10_comes_5 : decode cX10_comes 5 = .ok (.ifCond .ne 5, 3) := da9_dX10_comes_0.2.2.2.1
theorem dX10_comes_8 : decode cX10_comes 8 = .ok (.iconst (-1), 1) := da9_dX10_comes_0.2.2.2.2.1
theorem dX10_comes_9 : decode cX10_comes 9 = .ok (.ireturn, 1) := da9_dX10_comes_0.2.2.2.2.2.1
theorem dX10_comes_10 : decode cX10_comes 10 = .ok (.aload_n 0, 1) := da9_dX10_comes_0.2.2.2.2.2.2.1
theorem dX10_comes_11 : decode cX10_comes 11 = .ok (.invokevirtual 395, 3) := da9_dX10_comes_0.2.2.2.2.2.2.2.1
theorem dX10_comes_14 : decode cX10_comes 14 = .ok (.istore_n 2, 1) := da9_dX10_comes_0.2.2.2.2.2.2.2.2.1
theorem dX10_comes_15 : decode cX10_comes 15 = .ok (.aload_n 0, 1) := da9_dX10_comes_0.2.2.2.2.2.2.2.2.2.1
theorem dX10_comes_16 : decode cX10_comes 16 = .ok (.invokevirtual 442, 3) := da9_dX10_comes_0.2.2.2.2.2.2.2.2.2.2.1
theorem dX10_comes_19 : decode cX10_comes 19 = .ok (.pop, 1) := da9_dX10_comes_0.2.2.2.2.2.2.2.2.2.2.2.1
theorem dX10_comes_20 : decode cX10_comes 20 = .ok (.ldc 188, 2) := da9_dX10_comes_0.2.2.2.2.2.2.2.2.2.2.2.2.1
theorem dX10_comes_22 : decode cX10_comes 22 = .ok (.istore_n 3, 1) := da9_dX10_comes_0.2.2.2.2.2.2.2.2.2.2.2.2.2.1
theorem dX10_comes_23 : decode cX10_comes 23 = .ok (.iconst 0, 1) := da9_dX10_comes_0.2.2.2.2.2.2.2.2.2.2.2.2.2.2.1
theorem dX10_comes_24 : decode cX10_comes 24 = .ok (.istore 4, 2) := da9_dX10_comes_0.2.2.2.2.2.2.2.2.2.2.2.2.2.2.2
theorem da9_dX10_comes_26 : (decode cX10_comes 26 = .ok (.iload 4, 2)) ∧ (decode cX10_comes 28 = .ok (.aload_n 0, 1)) ∧ (decode cX10_comes 29 = .ok (.getfield 389, 3)) ∧ (decode cX10_comes 32 = .ok (.if_icmp .ge 26, 3)) ∧ (decode cX10_comes 35 = .ok (.iload_n 3, 1)) ∧ (decode cX10_comes 36 = .ok (.aload_n 0, 1)) ∧ (decode cX10_comes 37 = .ok (.getfield 91, 3)) ∧ (decode cX10_comes 40 = .ok (.bipush 64, 2)) ∧ (decode cX10_comes 42 = .ok (.iload_n 2, 1)) ∧ (decode cX10_comes 43 = .ok (.imul, 1)) ∧ (decode cX10_comes 44 = .ok (.iload 4, 2)) ∧ (decode cX10_comes 46 = .ok (.iadd, 1)) ∧ (decode cX10_comes 47 = .ok (.iaload, 1)) ∧ (decode cX10_comes 48 = .ok (.invokestatic 350, 3)) ∧ (decode cX10_comes 51 = .ok (.istore_n 3, 1)) ∧ (decode cX10_comes 52 = .ok (.iinc 4 1, 3)) := by decide +kernel
theorem dX10_comes_26 : decode cX10_comes 26 = .ok (.iload 4, 2) := da9_dX10_comes_26.1
theorem dX10_comes_28 : decode cX10_comes 28 = .ok (.aload_n 0, 1) := da9_dX10_comes_26.2.1
theorem dX10_comes_29 : decode cX10_comes 29 = .ok (.getfield 389, 3) := da9_dX10_comes_26.2.2.1
theorem dX10_comes_32 : decode cX10_comes 32 = .ok (.if_icmp .ge 26, 3) := da9_dX10_comes_26.2.2.2.1
theorem dX10_comes_35 : decode cX10_comes 35 = .ok (.iload_n 3, 1) := da9_dX10_comes_26.2.2.2.2.1
theorem dX10_comes_36 : decode cX10_comes 36 = .ok (.aload_n 0, 1) := da9_dX10_comes_26.2.2.2.2.2.1
theorem dX10_comes_37 : decode cX10_comes 37 = .ok (.getfield 91, 3) := da9_dX10_comes_26.2.2.2.2.2.2.1
theorem dX10_comes_40 : decode cX10_comes 40 = .ok (.bipush 64, 2) := da9_dX10_comes_26.2.2.2.2.2.2.2.1
theorem dX10_comes_42 : decode cX10_comes 42 = .ok (.iload_n 2, 1) := da9_dX10_comes_26.2.2.2.2.2.2.2.2.1
theorem dX10_comes_43 : decode cX10_comes 43 = .ok (.imul, 1) := da9_dX10_comes_26.2.2.2.2.2.2.2.2.2.1
theorem dX10_comes_44 : decode cX10_comes 44 = .ok (.iload 4, 2) := da9_dX10_comes_26.2.2.2.2.2.2.2.2.2.2.1
theorem dX10_comes_46 : decode cX10_comes 46 = .ok (.iadd, 1) := da9_dX10_comes_26.2.2.2.2.2.2.2.2.2.2.2.1
theorem dX10_comes_47 : decode cX10_comes 47 = .ok (.iaload, 1) := da9_dX10_comes_26.2.2.2.2.2.2.2.2.2.2.2.2.1
theorem dX10_comes_48 : decode cX10_comes 48 = .ok (.invokestatic 350, 3) := da9_dX10_comes_26.2.2.2.2.2.2.2.2.2.2.2.2.2.1
theorem dX10_comes_51 : decode cX10_comes 51 = .ok (.istore_n 3, 1) := da9_dX10_comes_26.2.2.2.2.2.2.2.2.2.2.2.2.2.2.1
theorem dX10_comes_52 : decode cX10_comes 52 = .ok (.iinc 4 1, 3) := da9_dX10_comes_26.2.2.2.2.2.2.2.2.2.2.2.2.2.2.2
theorem da9_dX10_comes_55 : (decode cX10_comes 55 = .ok (.goto (-29), 3)) ∧ (decode cX10_comes 58 = .ok (.iload_n 3, 1)) ∧ (decode cX10_comes 59 = .ok (.ldc 188, 2)) ∧ (decode cX10_comes 61 = .ok (.if_icmp .ne 7, 3)) ∧ (decode cX10_comes 64 = .ok (.iconst (-1), 1)) ∧ (decode cX10_comes 65 = .ok (.goto 4, 3)) ∧ (decode cX10_comes 68 = .ok (.iload_n 3, 1)) ∧ (decode cX10_comes 69 = .ok (.ireturn, 1)) := by decide +kernel
theorem dX10_comes_55 : decode cX10_comes 55 = .ok (.goto (-29), 3) := da9_dX10_comes_55.1
theorem dX10_comes_58 : decode cX10_comes 58 = .ok (.iload_n 3, 1) := da9_dX10_comes_55.2.1
theorem dX10_comes_59 : decode cX10_comes 59 = .ok (.ldc 188, 2) := da9_dX10_comes_55.2.2.1
theorem dX10_comes_61 : decode cX10_comes 61 = .ok (.if_icmp .ne 7, 3) := da9_dX10_comes_55.2.2.2.1
theorem dX10_comes_64 : decode cX10_comes 64 = .ok (.iconst (-1), 1) := da9_dX10_comes_55.2.2.2.2.1
theorem dX10_comes_65 : decode cX10_comes 65 = .ok (.goto 4, 3) := da9_dX10_comes_55.2.2.2.2.2.1
theorem dX10_comes_68 : decode cX10_comes 68 = .ok (.iload_n 3, 1) := da9_dX10_comes_55.2.2.2.2.2.2.1
theorem dX10_comes_69 : decode cX10_comes 69 = .ok (.ireturn, 1) := da9_dX10_comes_55.2.2.2.2.2.2.2
end
