section
theorem u9_wsX10_setsFloor_X10 : ∀ w ∈ u_ws RX10 TX10 56, w ∈ wsX10_setsFloor := fun w h => List.mem_cons_of_mem _ (vW10_wsX100 w h)
theorem f9_wsX10_setsFloor_31 : (Cond.fieldLink RX10 63 "TurnedFloorsModel" "asked" "[I") ∈ wsX10_setsFloor := List.mem_cons_of_mem _ mvW10_50
theorem f9_wsX10_setsFloor_32 : (Cond.fieldLink RX10 28 "TurnedFloorsModel" "kept" "[I") ∈ wsX10_setsFloor := List.mem_cons_of_mem _ mvW10_20
theorem u9_wsX10_codeAt_X10 : ∀ w ∈ u_ws RX10 TX10 56, w ∈ wsX10_codeAt := fun w h => List.mem_cons_of_mem _ (vW10_wsX100 w h)
theorem f9_wsX10_codeAt_34 : (Cond.fieldLink RX10 275 "TurnedFloorsModel" "goEnd" "I") ∈ wsX10_codeAt := List.mem_cons_of_mem _ mvW10_65
theorem f9_wsX10_codeAt_35 : (Cond.fieldLink RX10 28 "TurnedFloorsModel" "kept" "[I") ∈ wsX10_codeAt := List.mem_cons_of_mem _ mvW10_20
theorem u9_wsX10_passes0_X10 : ∀ w ∈ u_ws RX10 TX10 56, w ∈ wsX10_passes0 := fun w h => List.mem_cons_of_mem _ (vW10_wsX100 w h)
theorem f9_wsX10_passes0_37 : (Cond.fieldLink RX10 278 "TurnedFloorsModel" "go" "I") ∈ wsX10_passes0 := List.mem_cons_of_mem _ mvW10_64
theorem u9_wsX10_lessThan_X10 : ∀ w ∈ u_ws RX10 TX10 56, w ∈ wsX10_lessThan := fun w h => List.mem_cons_of_mem _ (vW10_wsX100 w h)
theorem f9_wsX10_lessThan_39 : (Cond.fieldLink RX10 28 "TurnedFloorsModel" "kept" "[I") ∈ wsX10_lessThan := List.mem_cons_of_mem _ mvW10_20
theorem u9_wsX10_gaps_X10 : ∀ w ∈ u_ws RX10 TX10 56, w ∈ wsX10_gaps := fun w h => List.mem_cons_of_mem _ (vW10_wsX100 w h)
theorem f9_wsX10_gaps_41 : (Cond.fieldLink RX10 28 "TurnedFloorsModel" "kept" "[I") ∈ wsX10_gaps := List.mem_cons_of_mem _ mvW10_20
theorem u9_wsX10_orderValue_X10 : ∀ w ∈ u_ws RX10 TX10 56, w ∈ wsX10_orderValue := fun w h => List.mem_cons_of_mem _ (vW10_wsX100 w h)
theorem f9_wsX10_orderValue_43 : (Cond.fieldLink RX10 28 "TurnedFloorsModel" "kept" "[I") ∈ wsX10_orderValue := List.mem_cons_of_mem _ mvW10_20
theorem f9_wsX10_orderValue_44 : (Cond.fieldLink RX10 314 "TurnedFloorsModel" "orderDone" "I") ∈ wsX10_orderValue := List.mem_cons_of_mem _ mvW10_97
theorem f9_wsX10_orderValue_45 : (Cond.fieldLink RX10 317 "TurnedFloorsModel" "orderLatest" "I") ∈ wsX10_orderValue := List.mem_cons_of_mem _ mvW10_98
theorem u9_wsX10_partOf_X10 : ∀ w ∈ u_ws RX10 TX10 56, w ∈ wsX10_partOf := fun w h => List.mem_cons_of_mem _ (vW10_wsX100 w h)
theorem f9_wsX10_partOf_47 : (Cond.fieldLink RX10 288 "TurnedFloorsModel" "broken" "Z") ∈ wsX10_partOf := List.mem_cons_of_mem _ mvW10_66
theorem f9_wsX10_partOf_48 : (Cond.fieldLink RX10 308 "TurnedFloorsModel" "inOrders" "Z") ∈ wsX10_partOf := List.mem_cons_of_mem _ mvW10_63
theorem f9_wsX10_partOf_49 : (Cond.fieldLink RX10 63 "TurnedFloorsModel" "asked" "[I") ∈ wsX10_partOf := List.mem_cons_of_mem _ mvW10_50
theorem f9_wsX10_partOf_50 : (Cond.fieldLink RX10 28 "TurnedFloorsModel" "kept" "[I") ∈ wsX10_partOf := List.mem_cons_of_mem _ mvW10_20
theorem f9_wsX10_partOf_51 : (Cond.fieldLink RX10 278 "TurnedFloorsModel" "go" "I") ∈ wsX10_partOf := List.mem_cons_of_mem _ mvW10_64
theorem u9_wsX10_bounded_X10 : ∀ w ∈ u_ws RX10 TX10 56, w ∈ wsX10_bounded := fun w h => List.mem_cons_of_mem _ (vW10_wsX100 w h)
theorem f9_wsX10_bounded_53 : (Cond.fieldLink RX10 288 "TurnedFloorsModel" "broken" "Z") ∈ wsX10_bounded := List.mem_cons_of_mem _ mvW10_66
theorem f9_wsX10_bounded_54 : (Cond.constantLong RX10 284 1000000000) ∈ wsX10_bounded := List.mem_cons_of_mem _ mvW10_86
theorem f9_wsX10_bounded_55 : (Cond.constantLong RX10 286 (-1000000000)) ∈ wsX10_bounded := List.mem_cons_of_mem _ mvW10_87
set_option maxHeartbeats 4000000 in
set_option maxRecDepth 100000 in
theorem qX10_setsFloor (l : Launch) (D : va_G) (ty : Nat → ClassId) (eo : Nat → Nat) (sz : Nat) (ad : Nat → Nat) (q : dS) (p1 : Int32) (o2 : dS) (h : zX10_setsFloor q p1 = some o2) : Met l yX10_setsFloor wsX10_setsFloor ({ frames := 2, cells := 0, slots := 0, locals := 43 } : Room) (va_Pc [.ref (ad 0), .int p1] (kz_pre D ty eo (w10 ty ad q) sz)) (va_Qv (fun (u : va_W) => w10 ty ad o2 = u) (kz_B D ty (va_A (w10 ty ad q) sz)) (va_A (w10 ty ad q) sz)) 0 0 (va_A (w10 ty ad q) sz) := by
  refine Met.ofW (cc := cX10_setsFloor) (maxL := 2) (ret := none) (by decide) rfl ?_
  intro p e s m args below meth c s₁ B hml hv
  obtain ⟨rfl, hsz, hP, hK, hD0, hN, hE⟩ := hv
  have hx := B.exec
  have hb := B.bytes
  have hr := B.returns
  have hts := atoms_spec (ws := wsX10_setsFloor) B.pre
  have hown : s.vm.findClass RX10 = some m.cls := findClass_of_methodNamed B.named
  have hlocks := B.notSynchronized
  subst hsz
  have hD := hD0.self (sz := s.heap.size)
  generalize hAe : va_A (w10 ty ad q) s.heap.size = A at hD hE ⊢
  have hA : ∀ q : Nat, s.heap.size ≤ q → A q := fun q h => by rw [← hAe]; exact Or.inr h
  clear hAe
  have hS : va_S A s.heap s.heap [] := va_S.rf
  have hl := lv_entry ([.ref (ad 0), .int p1]) (n := 2) (Nat.le_of_ble_eq_true rfl)
  rw [lg_entry_eq]
  generalize (lg_sl ([.ref (ad 0), .int p1]) ++ List.replicate (2 - (lg_sl ([.ref (ad 0), .int p1])).length) Slot.unset).toArray = ls at hl ⊢
  have hl : lv_has ls 2 [(0, .ref (ad 0)), (1, .int p1)] := hl
  have C : dc_C p s m _ meth c cX10_setsFloor none 2 RX10 wsX10_setsFloor D ty eo A := ⟨hx, hb, hr, hts, hown, hlocks, hml, hK, hN, hE, hA⟩
  unfold zX10_setsFloor at h
  refine lv_aload_n hx hb dX10_setsFloor_0 rfl (lv_at hl 0 rfl) ?_
  refine va_get (D := D) (ci := 10) (v := .ref (ad 12)) (C := RX10) (T := TX10) (N := 56) hx hb hts u9_wsX10_setsFloor_X10 hown hK hP 0 rfl rfl 26 (by decide) (hts (.fieldLink RX10 63 "TurnedFloorsModel" "asked" "[I") f9_wsX10_setsFloor_31) (fun _ h9 => h9) rfl dX10_setsFloor_1 ?_
  refine lv_iconst (v := 0) hx hb dX10_setsFloor_4 (by decide) ?_
  refine lv_iconst (v := (-1)) hx hb dX10_setsFloor_5 (by decide) ?_
  refine va_iast hx hb hK hP hD hS 12 0 rfl rfl (by simp only [vp_in]; decide) dX10_setsFloor_6 (fun H locs hp hd hs => ?_)
  obtain ⟨q1, eq1, h⟩ := dL_some h
  refine kz_re (w2 := w10 ty ad q1) hp hd hs (by rw [(by decide +kernel : Int32.toNatClampNeg 0 = 0), ← eq1]; exact w10_a12 ty ad q 0 (-1)) ?_
  clear hp hd hs hP hD hS
  intro hP hD hS
  refine lv_aload_n hx hb dX10_setsFloor_7 rfl (lv_at hl 0 rfl) ?_
  refine va_get (D := D) (ci := 10) (v := .ref (ad 12)) (C := RX10) (T := TX10) (N := 56) hx hb hts u9_wsX10_setsFloor_X10 hown hK hP 0 rfl rfl 26 (by decide) (hts (.fieldLink RX10 63 "TurnedFloorsModel" "asked" "[I") f9_wsX10_setsFloor_31) (fun _ h9 => h9) rfl dX10_setsFloor_8 ?_
  refine lv_iconst (v := 1) hx hb dX10_setsFloor_11 (by decide) ?_
  refine lv_iconst (v := (-1)) hx hb dX10_setsFloor_12 (by decide) ?_
  refine va_iast hx hb hK hP hD hS 12 0 rfl rfl (by simp only [vp_in]; decide) dX10_setsFloor_13 (fun H locs hp hd hs => ?_)
  obtain ⟨q2, eq2, h⟩ := dL_some h
  refine kz_re (w2 := w10 ty ad q2) hp hd hs (by rw [(by decide +kernel : Int32.toNatClampNeg 1 = 1), ← eq2]; exact w10_a12 ty ad q1 1 (-1)) ?_
  clear hp hd hs hP hD hS
  intro hP hD hS
  refine lv_aload_n hx hb dX10_setsFloor_14 rfl (lv_at hl 0 rfl) ?_
  refine va_get (D := D) (ci := 10) (v := .ref (ad 12)) (C := RX10) (T := TX10) (N := 56) hx hb hts u9_wsX10_setsFloor_X10 hown hK hP 0 rfl rfl 26 (by decide) (hts (.fieldLink RX10 63 "TurnedFloorsModel" "asked" "[I") f9_wsX10_setsFloor_31) (fun _ h9 => h9) rfl dX10_setsFloor_15 ?_
  refine lv_iconst (v := 2) hx hb dX10_setsFloor_18 (by decide) ?_
  refine lv_iconst (v := (-1)) hx hb dX10_setsFloor_19 (by decide) ?_
  refine va_iast hx hb hK hP hD hS 12 0 rfl rfl (by simp only [vp_in]; decide) dX10_setsFloor_20 (fun H locs hp hd hs => ?_)
  obtain ⟨q3, eq3, h⟩ := dL_some h
  refine kz_re (w2 := w10 ty ad q3) hp hd hs (by rw [(by decide +kernel : Int32.toNatClampNeg 2 = 2), ← eq3]; exact w10_a12 ty ad q2 2 (-1)) ?_
  clear hp hd hs hP hD hS
  intro hP hD hS
  refine lv_aload_n hx hb dX10_setsFloor_21 rfl (lv_at hl 0 rfl) ?_
  refine lv_aload_n hx hb dX10_setsFloor_22 rfl (lv_at hl 0 rfl) ?_
  refine va_get (D := D) (ci := 10) (v := .ref (ad 2)) (C := RX10) (T := TX10) (N := 56) hx hb hts u9_wsX10_setsFloor_X10 hown hK hP 0 rfl rfl 2 (by decide) (hts (.fieldLink RX10 28 "TurnedFloorsModel" "kept" "[I") f9_wsX10_setsFloor_32) (fun _ h9 => h9) rfl dX10_setsFloor_23 ?_
  refine lv_iconst (v := 0) hx hb dX10_setsFloor_26 (by decide) ?_
  refine lv_iload_n hx hb dX10_setsFloor_27 rfl (lv_at hl 1 rfl) ?_
  refine lv_iadd hx hb dX10_setsFloor_28 ?_
  obtain ⟨g4, h⟩ := dG_some h
  refine va_iald hx hb hK hP 2 0 rfl rfl (dg_in g4) dX10_setsFloor_29 ?_
  obtain ⟨v5, ev5, h⟩ := dL_some h
  refine kz_topi v5 ev5 ?_
  refine lv_iload_n hx hb dX10_setsFloor_30 rfl (lv_at hl 1 rfl) ?_
  refine lv_aload_n hx hb dX10_setsFloor_31 rfl (lv_at hl 0 rfl) ?_
  refine va_get (D := D) (ci := 10) (v := .ref (ad 2)) (C := RX10) (T := TX10) (N := 56) hx hb hts u9_wsX10_setsFloor_X10 hown hK hP 0 rfl rfl 2 (by decide) (hts (.fieldLink RX10 28 "TurnedFloorsModel" "kept" "[I") f9_wsX10_setsFloor_32) (fun _ h9 => h9) rfl dX10_setsFloor_32 ?_
  refine lv_bipush (v := 6) hx hb dX10_setsFloor_35 (by decide) ?_
  refine lv_iload_n hx hb dX10_setsFloor_37 rfl (lv_at hl 1 rfl) ?_
  refine lv_iadd hx hb dX10_setsFloor_38 ?_
  obtain ⟨g6, h⟩ := dG_some h
  refine va_iald hx hb hK hP 2 0 rfl rfl (dg_in g6) dX10_setsFloor_39 ?_
  obtain ⟨v7, ev7, h⟩ := dL_some h
  refine kz_topi v7 ev7 ?_
  obtain ⟨q10, h9, h⟩ := dV_some h
  refine dw_kv (va_runV (As := [.int v5, .int p1, .int v7]) (rest := []) ⟨hx, hb, hml, hown, hts⟩ (qX10_setsAsked l D ty eo _ ad q3 v5 p1 v7 q10 h9) (cwV 3 hts gX10_setsFloor_X10_setsAsked rfl rfl rfl hd_X10_setsAsked_v ⟨Nat.le_of_ble_eq_true rfl, Nat.le_of_ble_eq_true rfl⟩) (pv10_10_0 hK hN hE hP hD hS hA) rfl rfl hl.1 rfl (lv_room (Nat.le_of_ble_eq_true rfl)) dX10_setsFloor_40 ⟨Nat.le_of_ble_eq_true rfl, Nat.le_of_ble_eq_true rfl⟩) hD hS hA (fun u9 H locs hw hp hd hs => ?_)
  clear hP hD hS
  obtain rfl := hw
  have hP := hp; have hD := hd; have hS := hs; clear hp hd hs
  cases h
  exact kz_vret hx hb hr hlocks hP hK hD hS dX10_setsFloor_43 rfl

set_option maxHeartbeats 4000000 in
set_option maxRecDepth 100000 in
theorem WX10_codeAt_21 {p : Program} {l : Launch} {e : Env} {s : State} {m : MethodId} {args : Array Value} {below : List Frame} {meth : Method} {c : Code} {D : va_G} {ty : Nat → ClassId} {eo : Nat → Nat} {A : Nat → Prop} {ad : Nat → Nat} {o1 : Int32} {o2 : dS} (C : dc_C p s m args meth c cX10_codeAt (some .int) 2 RX10 wsX10_codeAt D ty eo A)   (q : dS) (y0 : Int32) (H : Heap) (locs : List Loc) (ls : Array Slot) (h : zX10_codeAt_21  q y0 = some (o1, o2)) (hP : va_P D vwCl (w10 ty ad q) H) (hD : va_D A (w10 ty ad q)) (hS : va_S A s.heap H locs) (hl : lv_has ls 2 []) : W p l e ({ frames := 0, cells := 0, slots := 0, locals := 0 } : Room) s m args below meth c H locs 0 0 (MQ below (va_Qi (fun (r : Int32) (u : va_W) => o1 = r ∧ w10 ty ad o2 = u) (kz_B D ty A) A) args s 0 0 A) (F0 m 21 ls [.int y0]) := by
  have C0 := C
  obtain ⟨hx, hb, hr, hts, hown, hlocks, hml, hK, hN, hE, hA⟩ := C
  unfold zX10_codeAt_21 at h
  cases h
  exact kz_iret hx hb hr hlocks hP hK hD hS dX10_codeAt_21 ⟨rfl, rfl⟩
set_option maxHeartbeats 4000000 in
set_option maxRecDepth 100000 in
theorem qX10_codeAt (l : Launch) (D : va_G) (ty : Nat → ClassId) (eo : Nat → Nat) (sz : Nat) (ad : Nat → Nat) (q : dS) (p1 : Int32) (o1 : Int32) (o2 : dS) (h : zX10_codeAt q p1 = some (o1, o2)) : Met l yX10_codeAt wsX10_codeAt ({ frames := 0, cells := 0, slots := 0, locals := 0 } : Room) (va_Pc [.ref (ad 0), .int p1] (kz_pre D ty eo (w10 ty ad q) sz)) (va_Qi (fun (r : Int32) (u : va_W) => o1 = r ∧ w10 ty ad o2 = u) (kz_B D ty (va_A (w10 ty ad q) sz)) (va_A (w10 ty ad q) sz)) 0 0 (va_A (w10 ty ad q) sz) := by
  refine Met.ofW (cc := cX10_codeAt) (maxL := 2) (ret := (some .int)) (by decide) rfl ?_
  intro p e s m args below meth c s₁ B hml hv
  obtain ⟨rfl, hsz, hP, hK, hD0, hN, hE⟩ := hv
  have hx := B.exec
  have hb := B.bytes
  have hr := B.returns
  have hts := atoms_spec (ws := wsX10_codeAt) B.pre
  have hown : s.vm.findClass RX10 = some m.cls := findClass_of_methodNamed B.named
  have hlocks := B.notSynchronized
  subst hsz
  have hD := hD0.self (sz := s.heap.size)
  generalize hAe : va_A (w10 ty ad q) s.heap.size = A at hD hE ⊢
  have hA : ∀ q : Nat, s.heap.size ≤ q → A q := fun q h => by rw [← hAe]; exact Or.inr h
  clear hAe
  have hS : va_S A s.heap s.heap [] := va_S.rf
  have hl := lv_entry ([.ref (ad 0), .int p1]) (n := 2) (Nat.le_of_ble_eq_true rfl)
  rw [lg_entry_eq]
  generalize (lg_sl ([.ref (ad 0), .int p1]) ++ List.replicate (2 - (lg_sl ([.ref (ad 0), .int p1])).length) Slot.unset).toArray = ls at hl ⊢
  have hl : lv_has ls 2 [(0, .ref (ad 0)), (1, .int p1)] := hl
  have C : dc_C p s m _ meth c cX10_codeAt (some .int) 2 RX10 wsX10_codeAt D ty eo A := ⟨hx, hb, hr, hts, hown, hlocks, hml, hK, hN, hE, hA⟩
  unfold zX10_codeAt at h
  refine lv_iload_n hx hb dX10_codeAt_0 rfl (lv_at hl 1 rfl) ?_
  refine lv_aload_n hx hb dX10_codeAt_1 rfl (lv_at hl 0 rfl) ?_
  refine va_get (D := D) (ci := 10) (v := .int (q.1 0 23)) (C := RX10) (T := TX10) (N := 56) hx hb hts u9_wsX10_codeAt_X10 hown hK hP 0 rfl rfl 23 (by decide) (hts (.fieldLink RX10 275 "TurnedFloorsModel" "goEnd" "I") f9_wsX10_codeAt_34) (fun _ h9 => h9) rfl dX10_codeAt_2 ?_
  refine lv_icmp_ge (tgt := 20) hx hb dX10_codeAt_5 (by decide) (fun c9 => ?_) (fun c9 => ?_)
  · rw [if_pos c9] at h
    refine lv_iconst (v := 0) hx hb dX10_codeAt_20 (by decide) ?_
    exact WX10_codeAt_21 C  _ _ _ _ _ h hP hD hS (lv_sub hl [] rfl)
  · rw [if_neg c9] at h
    refine lv_aload_n hx hb dX10_codeAt_8 rfl (lv_at hl 0 rfl) ?_
    refine va_get (D := D) (ci := 10) (v := .ref (ad 2)) (C := RX10) (T := TX10) (N := 56) hx hb hts u9_wsX10_codeAt_X10 hown hK hP 0 rfl rfl 2 (by decide) (hts (.fieldLink RX10 28 "TurnedFloorsModel" "kept" "[I") f9_wsX10_codeAt_35) (fun _ h9 => h9) rfl dX10_codeAt_9 ?_
    refine lv_bipush (v := 40) hx hb dX10_codeAt_12 (by decide) ?_
    refine lv_iload_n hx hb dX10_codeAt_14 rfl (lv_at hl 1 rfl) ?_
    refine lv_iadd hx hb dX10_codeAt_15 ?_
    obtain ⟨g1, h⟩ := dG_some h
    refine va_iald hx hb hK hP 2 0 rfl rfl (dg_in g1) dX10_codeAt_16 ?_
    obtain ⟨v2, ev2, h⟩ := dL_some h
    refine kz_topi v2 ev2 ?_
    refine lv_goto (tgt := 21) hx hb dX10_codeAt_17 (by decide) ?_
    exact WX10_codeAt_21 C  _ _ _ _ _ h hP hD hS (lv_sub hl [] rfl)

set_option maxHeartbeats 4000000 in
set_option maxRecDepth 100000 in
theorem qX10_sign (l : Launch) (D : va_G) (ty : Nat → ClassId) (eo : Nat → Nat) (sz : Nat) (p1 : Int32) (o1 : Int32) (h : zX10_sign p1 = some o1) : Met l yX10_sign wsX10_sign ({ frames := 0, cells := 0, slots := 0, locals := 0 } : Room) (va_Pc [.int p1] (kz_pre D ty eo (([] : va_W)) sz)) (va_Qi (fun (r : Int32) (u : va_W) => o1 = r ∧ ([] : va_W) = u) (kz_B D ty (va_A (([] : va_W)) sz)) (va_A (([] : va_W)) sz)) 0 0 (va_A (([] : va_W)) sz) := by
  refine Met.ofW (cc := cX10_sign) (maxL := 1) (ret := (some .int)) (by decide) rfl ?_
  intro p e s m args below meth c s₁ B hml hv
  obtain ⟨rfl, hsz, hP, hK, hD0, hN, hE⟩ := hv
  have hx := B.exec
  have hb := B.bytes
  have hr := B.returns
  have hts := atoms_spec (ws := wsX10_sign) B.pre
  have hown : s.vm.findClass RX10 = some m.cls := findClass_of_methodNamed B.named
  have hlocks := B.notSynchronized
  subst hsz
  have hD := hD0.self (sz := s.heap.size)
  generalize hAe : va_A (([] : va_W)) s.heap.size = A at hD hE ⊢
  have hA : ∀ q : Nat, s.heap.size ≤ q → A q := fun q h => by rw [← hAe]; exact Or.inr h
  clear hAe
  have hS : va_S A s.heap s.heap [] := va_S.rf
  have hl := lv_entry ([.int p1]) (n := 1) (Nat.le_of_ble_eq_true rfl)
  rw [lg_entry_eq]
  generalize (lg_sl ([.int p1]) ++ List.replicate (1 - (lg_sl ([.int p1])).length) Slot.unset).toArray = ls at hl ⊢
  have hl : lv_has ls 1 [(0, .int p1)] := hl
  have C : dc_C p s m _ meth c cX10_sign (some .int) 1 RX10 wsX10_sign D ty eo A := ⟨hx, hb, hr, hts, hown, hlocks, hml, hK, hN, hE, hA⟩
  unfold zX10_sign at h
  refine lv_bipush (v := 100) hx hb dX10_sign_0 (by decide) ?_
  refine lv_iload_n hx hb dX10_sign_2 rfl (lv_at hl 0 rfl) ?_
  refine lv_iadd hx hb dX10_sign_3 ?_
  cases h
  exact kz_iret hx hb hr hlocks hP hK hD hS dX10_sign_4 ⟨rfl, rfl⟩

set_option maxHeartbeats 4000000 in
set_option maxRecDepth 100000 in
theorem WX10_passes0_32 {p : Program} {l : Launch} {e : Env} {s : State} {m : MethodId} {args : Array Value} {below : List Frame} {meth : Method} {c : Code} {D : va_G} {ty : Nat → ClassId} {eo : Nat → Nat} {A : Nat → Prop} {ad : Nat → Nat} {o1 : Int32} {o2 : dS} (C : dc_C p s m args meth c cX10_passes0 (some .boolean) 3 RX10 wsX10_passes0 D ty eo A)   (q : dS) (x2 : Int32) (H : Heap) (locs : List Loc) (ls : Array Slot) (h : zX10_passes0_32  q x2 = some (o1, o2)) (hP : va_P D vwCl (w10 ty ad q) H) (hD : va_D A (w10 ty ad q)) (hS : va_S A s.heap H locs) (hl : lv_has ls 3 [(2, .int x2)]) : W p l e ({ frames := 1, cells := 0, slots := 0, locals := 21 } : Room) s m args below meth c H locs 0 0 (MQ below (va_Qi (fun (r : Int32) (u : va_W) => o1 = r ∧ w10 ty ad o2 = u) (kz_B D ty A) A) args s 0 0 A) (F0 m 32 ls []) := by
  have C0 := C
  obtain ⟨hx, hb, hr, hts, hown, hlocks, hml, hK, hN, hE, hA⟩ := C
  unfold zX10_passes0_32 at h
  refine lv_iload_n hx hb dX10_passes0_32 rfl (lv_at hl 0 rfl) ?_
  obtain ⟨g1, h⟩ := dG_some h
  cases h
  exact kz_zret hx hb hr hlocks (dbl_nar g1) hP hK hD hS dX10_passes0_33 ⟨rfl, rfl⟩
set_option maxHeartbeats 4000000 in
set_option maxRecDepth 100000 in
theorem WX10_passes0_17 {p : Program} {l : Launch} {e : Env} {s : State} {m : MethodId} {args : Array Value} {below : List Frame} {meth : Method} {c : Code} {D : va_G} {ty : Nat → ClassId} {eo : Nat → Nat} {A : Nat → Prop} {ad : Nat → Nat} {o1 : Int32} {o2 : dS} (C : dc_C p s m args meth c cX10_passes0 (some .boolean) 3 RX10 wsX10_passes0 D ty eo A)   (q : dS) (y0 : Int32) (H : Heap) (locs : List Loc) (ls : Array Slot) (h : zX10_passes0_17  q y0 = some (o1, o2)) (hP : va_P D vwCl (w10 ty ad q) H) (hD : va_D A (w10 ty ad q)) (hS : va_S A s.heap H locs) (hl : lv_has ls 3 [(0, .ref (ad 0))]) : W p l e ({ frames := 1, cells := 0, slots := 0, locals := 21 } : Room) s m args below meth c H locs 0 0 (MQ below (va_Qi (fun (r : Int32) (u : va_W) => o1 = r ∧ w10 ty ad o2 = u) (kz_B D ty A) A) args s 0 0 A) (F0 m 17 ls [.int y0]) := by
  have C0 := C
  obtain ⟨hx, hb, hr, hts, hown, hlocks, hml, hK, hN, hE, hA⟩ := C
  unfold zX10_passes0_17 at h
  refine lv_istore_n (lv' := [(2, .int y0), (0, .ref (ad 0))]) hx hb dX10_passes0_17 rfl hl (by decide) rfl (fun ls hl => ?_)
  refine lv_iload_n hx hb dX10_passes0_18 rfl (lv_at hl 0 rfl) ?_
  refine lv_if_eq (tgt := 32) hx hb dX10_passes0_19 (by decide) (fun c9 => ?_) (fun c9 => ?_)
  · rw [if_pos c9] at h
    exact WX10_passes0_32 C0  _ _ _ _ _ h hP hD hS (lv_sub hl [0] rfl)
  · rw [if_neg c9] at h
    refine lv_aload_n hx hb dX10_passes0_22 rfl (lv_at hl 1 rfl) ?_
    refine lv_dup hx hb dX10_passes0_23 rfl ?_
    refine va_get (D := D) (ci := 10) (v := .int (q.1 0 22)) (C := RX10) (T := TX10) (N := 56) hx hb hts u9_wsX10_passes0_X10 hown hK hP 0 rfl rfl 22 (by decide) (hts (.fieldLink RX10 278 "TurnedFloorsModel" "go" "I") f9_wsX10_passes0_37) (fun _ h9 => h9) rfl dX10_passes0_24 ?_
    refine lv_iconst (v := 1) hx hb dX10_passes0_27 (by decide) ?_
    refine lv_iadd hx hb dX10_passes0_28 ?_
    refine va_put (D := D) (ci := 10) (v := .int ((q.1 0 22) + 1 : Int32)) (ty := .int) (C := RX10) (T := TX10) (N := 56) hx hb hts u9_wsX10_passes0_X10 tyX10 tyX10_ok nmX10 hown hK hP hD hS 0 rfl rfl 22 (by decide) (hts (.fieldLink RX10 278 "TurnedFloorsModel" "go" "I") f9_wsX10_passes0_37) (fun _ h9 => h9) rfl (by decide +kernel) rfl rfl (Nat.le_of_ble_eq_true rfl) dX10_passes0_29 (fun H locs hp hd hs => ?_)
    obtain ⟨q1, eq1, h⟩ := dL_some h
    refine kz_re (w2 := w10 ty ad q1) hp hd hs (by rw [← eq1]; exact w10_f22 ty ad q ((q.1 0 22) + 1 : Int32)) ?_
    clear hp hd hs hP hD hS
    intro hP hD hS
    exact WX10_passes0_32 C0  _ _ _ _ _ h hP hD hS (lv_sub hl [0] rfl)
set_option maxHeartbeats 4000000 in
set_option maxRecDepth 100000 in
theorem qX10_passes0 (l : Launch) (D : va_G) (ty : Nat → ClassId) (eo : Nat → Nat) (sz : Nat) (ad : Nat → Nat) (q : dS) (p1 : Int32) (o1 : Int32) (o2 : dS) (h : zX10_passes0 q p1 = some (o1, o2)) : Met l yX10_passes0 wsX10_passes0 ({ frames := 1, cells := 0, slots := 0, locals := 21 } : Room) (va_Pc [.ref (ad 0), .int p1] (kz_pre D ty eo (w10 ty ad q) sz)) (va_Qi (fun (r : Int32) (u : va_W) => o1 = r ∧ w10 ty ad o2 = u) (kz_B D ty (va_A (w10 ty ad q) sz)) (va_A (w10 ty ad q) sz)) 0 0 (va_A (w10 ty ad q) sz) := by
  refine Met.ofW (cc := cX10_passes0) (maxL := 3) (ret := (some .boolean)) (by decide) rfl ?_
  intro p e s m args below meth c s₁ B hml hv
  obtain ⟨rfl, hsz, hP, hK, hD0, hN, hE⟩ := hv
  have hx := B.exec
  have hb := B.bytes
  have hr := B.returns
  have hts := atoms_spec (ws := wsX10_passes0) B.pre
  have hown : s.vm.findClass RX10 = some m.cls := findClass_of_methodNamed B.named
  have hlocks := B.notSynchronized
  subst hsz
  have hD := hD0.self (sz := s.heap.size)
  generalize hAe : va_A (w10 ty ad q) s.heap.size = A at hD hE ⊢
  have hA : ∀ q : Nat, s.heap.size ≤ q → A q := fun q h => by rw [← hAe]; exact Or.inr h
  clear hAe
  have hS : va_S A s.heap s.heap [] := va_S.rf
  have hl := lv_entry ([.ref (ad 0), .int p1]) (n := 3) (Nat.le_of_ble_eq_true rfl)
  rw [lg_entry_eq]
  generalize (lg_sl ([.ref (ad 0), .int p1]) ++ List.replicate (3 - (lg_sl ([.ref (ad 0), .int p1])).length) Slot.unset).toArray = ls at hl ⊢
  have hl : lv_has ls 3 [(0, .ref (ad 0)), (1, .int p1)] := hl
  have C : dc_C p s m _ meth c cX10_passes0 (some .boolean) 3 RX10 wsX10_passes0 D ty eo A := ⟨hx, hb, hr, hts, hown, hlocks, hml, hK, hN, hE, hA⟩
  unfold zX10_passes0 at h
  refine lv_aload_n hx hb dX10_passes0_0 rfl (lv_at hl 0 rfl) ?_
  refine lv_aload_n hx hb dX10_passes0_1 rfl (lv_at hl 0 rfl) ?_
  refine va_get (D := D) (ci := 10) (v := .int (q.1 0 22)) (C := RX10) (T := TX10) (N := 56) hx hb hts u9_wsX10_passes0_X10 hown hK hP 0 rfl rfl 22 (by decide) (hts (.fieldLink RX10 278 "TurnedFloorsModel" "go" "I") f9_wsX10_passes0_37) (fun _ h9 => h9) rfl dX10_passes0_2 ?_
  obtain ⟨r1, q3, h2, h⟩ := dB_some h
  refine dw_ki (va_runV (As := [.int (q.1 0 22)]) (rest := []) ⟨hx, hb, hml, hown, hts⟩ (qX10_codeAt l D ty eo _ ad q (q.1 0 22) r1 q3 h2) (cwV 1 hts gX10_passes0_X10_codeAt rfl rfl rfl hd_X10_codeAt_v ⟨Nat.le_of_ble_eq_true rfl, Nat.le_of_ble_eq_true rfl⟩) (pv10_10_0 hK hN hE hP hD hS hA) rfl rfl hl.1 rfl (lv_room (Nat.le_of_ble_eq_true rfl)) dX10_passes0_5 ⟨Nat.le_of_ble_eq_true rfl, Nat.le_of_ble_eq_true rfl⟩) hD hS hA (fun r9 u9 H locs hw hp hd hs => ?_)
  clear hP hD hS
  obtain ⟨rfl, rfl⟩ := hw
  have hP := hp; have hD := hd; have hS := hs; clear hp hd hs
  refine lv_iload_n hx hb dX10_passes0_8 rfl (lv_at hl 1 rfl) ?_
  refine lv_icmp_ne (tgt := 16) hx hb dX10_passes0_9 (by decide) (fun c9 => ?_) (fun c9 => ?_)
  · rw [if_neg c9] at h
    refine lv_iconst (v := 0) hx hb dX10_passes0_16 (by decide) ?_
    exact WX10_passes0_17 C  _ _ _ _ _ h hP hD hS (lv_sub hl [0] rfl)
  · rw [if_pos c9] at h
    refine lv_iconst (v := 1) hx hb dX10_passes0_12 (by decide) ?_
    refine lv_goto (tgt := 17) hx hb dX10_passes0_13 (by decide) ?_
    exact WX10_passes0_17 C  _ _ _ _ _ h hP hD hS (lv_sub hl [0] rfl)

set_option maxHeartbeats 4000000 in
set_option maxRecDepth 100000 in
theorem WX10_lessThan_30 {p : Program} {l : Launch} {e : Env} {s : State} {m : MethodId} {args : Array Value} {below : List Frame} {meth : Method} {c : Code} {D : va_G} {ty : Nat → ClassId} {eo : Nat → Nat} {A : Nat → Prop} {ad : Nat → Nat} {o1 : Int32} {o2 : dS} (C : dc_C p s m args meth c cX10_lessThan (some .int) 4 RX10 wsX10_lessThan D ty eo A) {k4 : dS → Int32 → Int32 → Int32 → Option (Int32 × dS)} (hk4 : ∀ (q : dS) (x1 : Int32) (x2 : Int32) (x3 : Int32) (H : Heap) (locs : List Loc) (ls : Array Slot), k4 q x1 x2 x3 = some (o1, o2) → va_P D vwCl (w10 ty ad q) H → va_D A (w10 ty ad q) → va_S A s.heap H locs → lv_has ls 4 [(0, .ref (ad 0)), (1, .int x1), (2, .int x2), (3, .int x3)] → W p l e ({ frames := 1, cells := 0, slots := 0, locals := 20 } : Room) s m args below meth c H locs 0 0 (MQ below (va_Qi (fun (r : Int32) (u : va_W) => o1 = r ∧ w10 ty ad o2 = u) (kz_B D ty A) A) args s 0 0 A) (F0 m 4 ls [])) (q : dS) (x1 : Int32) (x3 : Int32) (y0 : Int32) (y1 : Int32) (H : Heap) (locs : List Loc) (ls : Array Slot) (h : zX10_lessThan_30 k4 q x1 x3 y0 y1 = some (o1, o2)) (hP : va_P D vwCl (w10 ty ad q) H) (hD : va_D A (w10 ty ad q)) (hS : va_S A s.heap H locs) (hl : lv_has ls 4 [(0, .ref (ad 0)), (1, .int x1), (3, .int x3)]) : W p l e ({ frames := 1, cells := 0, slots := 0, locals := 20 } : Room) s m args below meth c H locs 0 0 (MQ below (va_Qi (fun (r : Int32) (u : va_W) => o1 = r ∧ w10 ty ad o2 = u) (kz_B D ty A) A) args s 0 0 A) (F0 m 30 ls [.int y0, .int y1]) := by
  have C0 := C
  obtain ⟨hx, hb, hr, hts, hown, hlocks, hml, hK, hN, hE, hA⟩ := C
  unfold zX10_lessThan_30 at h
  refine lv_iadd hx hb dX10_lessThan_30 ?_
  refine lv_istore_n (lv' := [(2, .int (y1 + y0)), (0, .ref (ad 0)), (1, .int x1), (3, .int x3)]) hx hb dX10_lessThan_31 rfl hl (by decide) rfl (fun ls hl => ?_)
  refine lv_iinc (v := x3 + 1) (lv' := [(3, .int (x3 + 1)), (2, .int (y1 + y0)), (0, .ref (ad 0)), (1, .int x1)]) hx hb dX10_lessThan_32 hl (k := 3) rfl rfl (by decide) rfl (fun ls hl => ?_)
  refine lv_goto (tgt := 4) hx hb dX10_lessThan_35 (by decide) ?_
  exact hk4 _ _ _ _ _ _ _ h hP hD hS (lv_sub hl [2, 3, 1, 0] rfl)
set_option maxHeartbeats 4000000 in
set_option maxRecDepth 100000 in
theorem WX10_lessThan_4b {p : Program} {l : Launch} {e : Env} {s : State} {m : MethodId} {args : Array Value} {below : List Frame} {meth : Method} {c : Code} {D : va_G} {ty : Nat → ClassId} {eo : Nat → Nat} {A : Nat → Prop} {ad : Nat → Nat} {o1 : Int32} {o2 : dS} (C : dc_C p s m args meth c cX10_lessThan (some .int) 4 RX10 wsX10_lessThan D ty eo A) {k4 : dS → Int32 → Int32 → Int32 → Option (Int32 × dS)} (hk4 : ∀ (q : dS) (x1 : Int32) (x2 : Int32) (x3 : Int32) (H : Heap) (locs : List Loc) (ls : Array Slot), k4 q x1 x2 x3 = some (o1, o2) → va_P D vwCl (w10 ty ad q) H → va_D A (w10 ty ad q) → va_S A s.heap H locs → lv_has ls 4 [(0, .ref (ad 0)), (1, .int x1), (2, .int x2), (3, .int x3)] → W p l e ({ frames := 1, cells := 0, slots := 0, locals := 20 } : Room) s m args below meth c H locs 0 0 (MQ below (va_Qi (fun (r : Int32) (u : va_W) => o1 = r ∧ w10 ty ad o2 = u) (kz_B D ty A) A) args s 0 0 A) (F0 m 4 ls [])) (q : dS) (x1 : Int32) (x2 : Int32) (x3 : Int32) (H : Heap) (locs : List Loc) (ls : Array Slot) (h : zX10_lessThan_4b k4 q x1 x2 x3 = some (o1, o2)) (hP : va_P D vwCl (w10 ty ad q) H) (hD : va_D A (w10 ty ad q)) (hS : va_S A s.heap H locs) (hl : lv_has ls 4 [(0, .ref (ad 0)), (1, .int x1), (2, .int x2), (3, .int x3)]) : W p l e ({ frames := 1, cells := 0, slots := 0, locals := 20 } : Room) s m args below meth c H locs 0 0 (MQ below (va_Qi (fun (r : Int32) (u : va_W) => o1 = r ∧ w10 ty ad o2 = u) (kz_B D ty A) A) args s 0 0 A) (F0 m 4 ls []) := by
  have C0 := C
  obtain ⟨hx, hb, hr, hts, hown, hlocks, hml, hK, hN, hE, hA⟩ := C
  unfold zX10_lessThan_4b at h
  refine lv_iload_n hx hb dX10_lessThan_4 rfl (lv_at hl 3 rfl) ?_
  refine lv_aload_n hx hb dX10_lessThan_5 rfl (lv_at hl 0 rfl) ?_
  obtain ⟨r1, q3, h2, h⟩ := dB_some h
  refine dw_ki (va_runV (As := []) (rest := [.int x3]) ⟨hx, hb, hml, hown, hts⟩ (qX10_size l D ty eo _ ad q  r1 q3 h2) (cwV 0 hts gX10_lessThan_X10_size rfl rfl rfl hd_X10_size_v ⟨Nat.le_of_ble_eq_true rfl, Nat.le_of_ble_eq_true rfl⟩) (pv10_10_0 hK hN hE hP hD hS hA) rfl rfl hl.1 rfl (lv_room (Nat.le_of_ble_eq_true rfl)) dX10_lessThan_6 ⟨Nat.le_of_ble_eq_true rfl, Nat.le_of_ble_eq_true rfl⟩) hD hS hA (fun r9 u9 H locs hw hp hd hs => ?_)
  clear hP hD hS
  obtain ⟨rfl, rfl⟩ := hw
  have hP := hp; have hD := hd; have hS := hs; clear hp hd hs
  refine lv_icmp_ge (tgt := 38) hx hb dX10_lessThan_9 (by decide) (fun c9 => ?_) (fun c9 => ?_)
  · rw [if_pos c9] at h
    refine lv_iload_n hx hb dX10_lessThan_38 rfl (lv_at hl 2 rfl) ?_
    cases h
    exact kz_iret hx hb hr hlocks hP hK hD hS dX10_lessThan_39 ⟨rfl, rfl⟩
  · rw [if_neg c9] at h
    refine lv_iload_n hx hb dX10_lessThan_12 rfl (lv_at hl 2 rfl) ?_
    refine lv_aload_n hx hb dX10_lessThan_13 rfl (lv_at hl 0 rfl) ?_
    refine va_get (D := D) (ci := 10) (v := .ref (ad 2)) (C := RX10) (T := TX10) (N := 56) hx hb hts u9_wsX10_lessThan_X10 hown hK hP 0 rfl rfl 2 (by decide) (hts (.fieldLink RX10 28 "TurnedFloorsModel" "kept" "[I") f9_wsX10_lessThan_39) (fun _ h9 => h9) rfl dX10_lessThan_14 ?_
    refine lv_iconst (v := 0) hx hb dX10_lessThan_17 (by decide) ?_
    refine lv_iload_n hx hb dX10_lessThan_18 rfl (lv_at hl 3 rfl) ?_
    refine lv_iadd hx hb dX10_lessThan_19 ?_
    obtain ⟨g4, h⟩ := dG_some h
    refine va_iald hx hb hK hP 2 0 rfl rfl (dg_in g4) dX10_lessThan_20 ?_
    obtain ⟨v5, ev5, h⟩ := dL_some h
    refine kz_topi v5 ev5 ?_
    refine lv_iload_n hx hb dX10_lessThan_21 rfl (lv_at hl 1 rfl) ?_
    refine lv_icmp_ge (tgt := 29) hx hb dX10_lessThan_22 (by decide) (fun c9 => ?_) (fun c9 => ?_)
    · rw [if_pos c9] at h
      refine lv_iconst (v := 0) hx hb dX10_lessThan_29 (by decide) ?_
      exact WX10_lessThan_30 C0 hk4 _ _ _ _ _ _ _ _ h hP hD hS (lv_sub hl [0, 1, 3] rfl)
    · rw [if_neg c9] at h
      refine lv_iconst (v := 1) hx hb dX10_lessThan_25 (by decide) ?_
      refine lv_goto (tgt := 30) hx hb dX10_lessThan_26 (by decide) ?_
      exact WX10_lessThan_30 C0 hk4 _ _ _ _ _ _ _ _ h hP hD hS (lv_sub hl [0, 1, 3] rfl)
set_option maxHeartbeats 4000000 in
set_option maxRecDepth 100000 in
theorem WX10_lessThan_4 {p : Program} {l : Launch} {e : Env} {s : State} {m : MethodId} {args : Array Value} {below : List Frame} {meth : Method} {c : Code} {D : va_G} {ty : Nat → ClassId} {eo : Nat → Nat} {A : Nat → Prop} {ad : Nat → Nat} {o1 : Int32} {o2 : dS} (C : dc_C p s m args meth c cX10_lessThan (some .int) 4 RX10 wsX10_lessThan D ty eo A)   (n : Nat) (q : dS) (x1 : Int32) (x2 : Int32) (x3 : Int32) (H : Heap) (locs : List Loc) (ls : Array Slot) (h : zX10_lessThan_4  n q x1 x2 x3 = some (o1, o2)) (hP : va_P D vwCl (w10 ty ad q) H) (hD : va_D A (w10 ty ad q)) (hS : va_S A s.heap H locs) (hl : lv_has ls 4 [(0, .ref (ad 0)), (1, .int x1), (2, .int x2), (3, .int x3)]) : W p l e ({ frames := 1, cells := 0, slots := 0, locals := 20 } : Room) s m args below meth c H locs 0 0 (MQ below (va_Qi (fun (r : Int32) (u : va_W) => o1 = r ∧ w10 ty ad o2 = u) (kz_B D ty A) A) args s 0 0 A) (F0 m 4 ls []) := by
  exact dFix_W (F := fun k (a : dS × Int32 × Int32 × Int32) => zX10_lessThan_4b  (fun q x1 x2 x3 => k (q, x1, x2, x3)) a.1 a.2.1 a.2.2.1 a.2.2.2) (o := (o1, o2)) (P := fun (a : dS × Int32 × Int32 × Int32) H locs ls => va_P D vwCl (w10 ty ad a.1) H ∧ va_D A (w10 ty ad a.1) ∧ va_S A s.heap H locs ∧ lv_has ls 4 [(0, .ref (ad 0)), (1, .int a.2.1), (2, .int a.2.2.1), (3, .int a.2.2.2)]) (G := fun H locs ls => W p l e ({ frames := 1, cells := 0, slots := 0, locals := 20 } : Room) s m args below meth c H locs 0 0 (MQ below (va_Qi (fun (r : Int32) (u : va_W) => o1 = r ∧ w10 ty ad o2 = u) (kz_B D ty A) A) args s 0 0 A) (F0 m 4 ls []))
    (fun k hk a H locs ls h hp => WX10_lessThan_4b C  (fun q x1 x2 x3 H locs ls h h1 h2 h3 h4 => hk (q, x1, x2, x3) H locs ls h ⟨h1, h2, h3, h4⟩) a.1 a.2.1 a.2.2.1 a.2.2.2 H locs ls h hp.1 hp.2.1 hp.2.2.1 hp.2.2.2) n (q, x1, x2, x3) H locs ls h ⟨hP, hD, hS, hl⟩
set_option maxHeartbeats 4000000 in
set_option maxRecDepth 100000 in
theorem qX10_lessThan (l : Launch) (D : va_G) (ty : Nat → ClassId) (eo : Nat → Nat) (sz : Nat) (ad : Nat → Nat) (q : dS) (p1 : Int32) (o1 : Int32) (o2 : dS) (h : zX10_lessThan q p1 = some (o1, o2)) : Met l yX10_lessThan wsX10_lessThan ({ frames := 1, cells := 0, slots := 0, locals := 20 } : Room) (va_Pc [.ref (ad 0), .int p1] (kz_pre D ty eo (w10 ty ad q) sz)) (va_Qi (fun (r : Int32) (u : va_W) => o1 = r ∧ w10 ty ad o2 = u) (kz_B D ty (va_A (w10 ty ad q) sz)) (va_A (w10 ty ad q) sz)) 0 0 (va_A (w10 ty ad q) sz) := by
  refine Met.ofW (cc := cX10_lessThan) (maxL := 4) (ret := (some .int)) (by decide) rfl ?_
  intro p e s m args below meth c s₁ B hml hv
  obtain ⟨rfl, hsz, hP, hK, hD0, hN, hE⟩ := hv
  have hx := B.exec
  have hb := B.bytes
  have hr := B.returns
  have hts := atoms_spec (ws := wsX10_lessThan) B.pre
  have hown : s.vm.findClass RX10 = some m.cls := findClass_of_methodNamed B.named
  have hlocks := B.notSynchronized
  subst hsz
  have hD := hD0.self (sz := s.heap.size)
  generalize hAe : va_A (w10 ty ad q) s.heap.size = A at hD hE ⊢
  have hA : ∀ q : Nat, s.heap.size ≤ q → A q := fun q h => by rw [← hAe]; exact Or.inr h
  clear hAe
  have hS : va_S A s.heap s.heap [] := va_S.rf
  have hl := lv_entry ([.ref (ad 0), .int p1]) (n := 4) (Nat.le_of_ble_eq_true rfl)
  rw [lg_entry_eq]
  generalize (lg_sl ([.ref (ad 0), .int p1]) ++ List.replicate (4 - (lg_sl ([.ref (ad 0), .int p1])).length) Slot.unset).toArray = ls at hl ⊢
  have hl : lv_has ls 4 [(0, .ref (ad 0)), (1, .int p1)] := hl
  have C : dc_C p s m _ meth c cX10_lessThan (some .int) 4 RX10 wsX10_lessThan D ty eo A := ⟨hx, hb, hr, hts, hown, hlocks, hml, hK, hN, hE, hA⟩
  unfold zX10_lessThan at h
  refine lv_iconst (v := 0) hx hb dX10_lessThan_0 (by decide) ?_
  refine lv_istore_n (lv' := [(2, .int 0), (0, .ref (ad 0)), (1, .int p1)]) hx hb dX10_lessThan_1 rfl hl (by decide) rfl (fun ls hl => ?_)
  refine lv_iconst (v := 0) hx hb dX10_lessThan_2 (by decide) ?_
  refine lv_istore_n (lv' := [(3, .int 0), (2, .int 0), (0, .ref (ad 0)), (1, .int p1)]) hx hb dX10_lessThan_3 rfl hl (by decide) rfl (fun ls hl => ?_)
  exact WX10_lessThan_4 C  _ _ _ _ _ _ _ _ h hP hD hS (lv_sub hl [2, 3, 1, 0] rfl)

set_option maxHeartbeats 4000000 in
set_option maxRecDepth 100000 in
theorem WX10_gaps_95 {p : Program} {l : Launch} {e : Env} {s : State} {m : MethodId} {args : Array Value} {below : List Frame} {meth : Method} {c : Code} {D : va_G} {ty : Nat → ClassId} {eo : Nat → Nat} {A : Nat → Prop} {ad : Nat → Nat} {o1 : Int32} {o2 : dS} (C : dc_C p s m args meth c cX10_gaps (some .int) 4 RX10 wsX10_gaps D ty eo A) {k41 : dS → Int32 → Int32 → Option (Int32 × dS)} (hk41 : ∀ (q : dS) (x1 : Int32) (x2 : Int32) (H : Heap) (locs : List Loc) (ls : Array Slot), k41 q x1 x2 = some (o1, o2) → va_P D vwCl (w10 ty ad q) H → va_D A (w10 ty ad q) → va_S A s.heap H locs → lv_has ls 4 [(0, .ref (ad 0)), (1, .int x1), (2, .int x2)] → W p l e ({ frames := 2, cells := 0, slots := 0, locals := 43 } : Room) s m args below meth c H locs 0 0 (MQ below (va_Qi (fun (r : Int32) (u : va_W) => o1 = r ∧ w10 ty ad o2 = u) (kz_B D ty A) A) args s 0 0 A) (F0 m 41 ls [])) (q : dS) (x2 : Int32) (y0 : Int32) (y1 : Int32) (H : Heap) (locs : List Loc) (ls : Array Slot) (h : zX10_gaps_95 k41 q x2 y0 y1 = some (o1, o2)) (hP : va_P D vwCl (w10 ty ad q) H) (hD : va_D A (w10 ty ad q)) (hS : va_S A s.heap H locs) (hl : lv_has ls 4 [(0, .ref (ad 0)), (2, .int x2)]) : W p l e ({ frames := 2, cells := 0, slots := 0, locals := 43 } : Room) s m args below meth c H locs 0 0 (MQ below (va_Qi (fun (r : Int32) (u : va_W) => o1 = r ∧ w10 ty ad o2 = u) (kz_B D ty A) A) args s 0 0 A) (F0 m 95 ls [.int y0, .int y1]) := by
  have C0 := C
  obtain ⟨hx, hb, hr, hts, hown, hlocks, hml, hK, hN, hE, hA⟩ := C
  unfold zX10_gaps_95 at h
  refine lv_iadd hx hb dX10_gaps_95 ?_
  refine lv_istore_n (lv' := [(1, .int (y1 + y0)), (0, .ref (ad 0)), (2, .int x2)]) hx hb dX10_gaps_96 rfl hl (by decide) rfl (fun ls hl => ?_)
  refine lv_iinc (v := x2 + 1) (lv' := [(2, .int (x2 + 1)), (1, .int (y1 + y0)), (0, .ref (ad 0))]) hx hb dX10_gaps_97 hl (k := 2) rfl rfl (by decide) rfl (fun ls hl => ?_)
  refine lv_goto (tgt := 41) hx hb dX10_gaps_100 (by decide) ?_
  exact hk41 _ _ _ _ _ _ h hP hD hS (lv_sub hl [2, 1, 0] rfl)
set_option maxHeartbeats 4000000 in
set_option maxRecDepth 100000 in
theorem WX10_gaps_90 {p : Program} {l : Launch} {e : Env} {s : State} {m : MethodId} {args : Array Value} {below : List Frame} {meth : Method} {c : Code} {D : va_G} {ty : Nat → ClassId} {eo : Nat → Nat} {A : Nat → Prop} {ad : Nat → Nat} {o1 : Int32} {o2 : dS} (C : dc_C p s m args meth c cX10_gaps (some .int) 4 RX10 wsX10_gaps D ty eo A) {k41 : dS → Int32 → Int32 → Option (Int32 × dS)} (hk41 : ∀ (q : dS) (x1 : Int32) (x2 : Int32) (H : Heap) (locs : List Loc) (ls : Array Slot), k41 q x1 x2 = some (o1, o2) → va_P D vwCl (w10 ty ad q) H → va_D A (w10 ty ad q) → va_S A s.heap H locs → lv_has ls 4 [(0, .ref (ad 0)), (1, .int x1), (2, .int x2)] → W p l e ({ frames := 2, cells := 0, slots := 0, locals := 43 } : Room) s m args below meth c H locs 0 0 (MQ below (va_Qi (fun (r : Int32) (u : va_W) => o1 = r ∧ w10 ty ad o2 = u) (kz_B D ty A) A) args s 0 0 A) (F0 m 41 ls [])) (q : dS) (x2 : Int32) (y0 : Int32) (H : Heap) (locs : List Loc) (ls : Array Slot) (h : zX10_gaps_90 k41 q x2 y0 = some (o1, o2)) (hP : va_P D vwCl (w10 ty ad q) H) (hD : va_D A (w10 ty ad q)) (hS : va_S A s.heap H locs) (hl : lv_has ls 4 [(0, .ref (ad 0)), (2, .int x2)]) : W p l e ({ frames := 2, cells := 0, slots := 0, locals := 43 } : Room) s m args below meth c H locs 0 0 (MQ below (va_Qi (fun (r : Int32) (u : va_W) => o1 = r ∧ w10 ty ad o2 = u) (kz_B D ty A) A) args s 0 0 A) (F0 m 90 ls [.int y0]) := by
  have C0 := C
  obtain ⟨hx, hb, hr, hts, hown, hlocks, hml, hK, hN, hE, hA⟩ := C
  unfold zX10_gaps_90 at h
  refine lv_iconst (v := 0) hx hb dX10_gaps_90 (by decide) ?_
  refine lv_goto (tgt := 95) hx hb dX10_gaps_91 (by decide) ?_
  exact WX10_gaps_95 C0 hk41 _ _ _ _ _ _ _ h hP hD hS (lv_sub hl [0, 1] rfl)
set_option maxHeartbeats 4000000 in
set_option maxRecDepth 100000 in
theorem WX10_gaps_41b {p : Program} {l : Launch} {e : Env} {s : State} {m : MethodId} {args : Array Value} {below : List Frame} {meth : Method} {c : Code} {D : va_G} {ty : Nat → ClassId} {eo : Nat → Nat} {A : Nat → Prop} {ad : Nat → Nat} {o1 : Int32} {o2 : dS} (C : dc_C p s m args meth c cX10_gaps (some .int) 4 RX10 wsX10_gaps D ty eo A) {k41 : dS → Int32 → Int32 → Option (Int32 × dS)} (hk41 : ∀ (q : dS) (x1 : Int32) (x2 : Int32) (H : Heap) (locs : List Loc) (ls : Array Slot), k41 q x1 x2 = some (o1, o2) → va_P D vwCl (w10 ty ad q) H → va_D A (w10 ty ad q) → va_S A s.heap H locs → lv_has ls 4 [(0, .ref (ad 0)), (1, .int x1), (2, .int x2)] → W p l e ({ frames := 2, cells := 0, slots := 0, locals := 43 } : Room) s m args below meth c H locs 0 0 (MQ below (va_Qi (fun (r : Int32) (u : va_W) => o1 = r ∧ w10 ty ad o2 = u) (kz_B D ty A) A) args s 0 0 A) (F0 m 41 ls [])) (q : dS) (x1 : Int32) (x2 : Int32) (H : Heap) (locs : List Loc) (ls : Array Slot) (h : zX10_gaps_41b k41 q x1 x2 = some (o1, o2)) (hP : va_P D vwCl (w10 ty ad q) H) (hD : va_D A (w10 ty ad q)) (hS : va_S A s.heap H locs) (hl : lv_has ls 4 [(0, .ref (ad 0)), (1, .int x1), (2, .int x2)]) : W p l e ({ frames := 2, cells := 0, slots := 0, locals := 43 } : Room) s m args below meth c H locs 0 0 (MQ below (va_Qi (fun (r : Int32) (u : va_W) => o1 = r ∧ w10 ty ad o2 = u) (kz_B D ty A) A) args s 0 0 A) (F0 m 41 ls []) := by
  have C0 := C
  obtain ⟨hx, hb, hr, hts, hown, hlocks, hml, hK, hN, hE, hA⟩ := C
  unfold zX10_gaps_41b at h
  refine lv_iload_n hx hb dX10_gaps_41 rfl (lv_at hl 2 rfl) ?_
  refine lv_iconst (v := 1) hx hb dX10_gaps_42 (by decide) ?_
  refine lv_iadd hx hb dX10_gaps_43 ?_
  refine lv_aload_n hx hb dX10_gaps_44 rfl (lv_at hl 0 rfl) ?_
  obtain ⟨r1, q3, h2, h⟩ := dB_some h
  refine dw_ki (va_runV (As := []) (rest := [.int (x2 + 1 : Int32)]) ⟨hx, hb, hml, hown, hts⟩ (qX10_size l D ty eo _ ad q  r1 q3 h2) (cwV 0 hts gX10_gaps_X10_size rfl rfl rfl hd_X10_size_v ⟨Nat.le_of_ble_eq_true rfl, Nat.le_of_ble_eq_true rfl⟩) (pv10_10_0 hK hN hE hP hD hS hA) rfl rfl hl.1 rfl (lv_room (Nat.le_of_ble_eq_true rfl)) dX10_gaps_45 ⟨Nat.le_of_ble_eq_true rfl, Nat.le_of_ble_eq_true rfl⟩) hD hS hA (fun r9 u9 H locs hw hp hd hs => ?_)
  clear hP hD hS
  obtain ⟨rfl, rfl⟩ := hw
  have hP := hp; have hD := hd; have hS := hs; clear hp hd hs
  refine lv_icmp_ge (tgt := 103) hx hb dX10_gaps_48 (by decide) (fun c9 => ?_) (fun c9 => ?_)
  · rw [if_pos c9] at h
    refine lv_iload_n hx hb dX10_gaps_103 rfl (lv_at hl 1 rfl) ?_
    cases h
    exact kz_iret hx hb hr hlocks hP hK hD hS dX10_gaps_104 ⟨rfl, rfl⟩
  · rw [if_neg c9] at h
    refine lv_aload_n hx hb dX10_gaps_51 rfl (lv_at hl 0 rfl) ?_
    refine lv_aload_n hx hb dX10_gaps_52 rfl (lv_at hl 0 rfl) ?_
    refine va_get (D := D) (ci := 10) (v := .ref (ad 2)) (C := RX10) (T := TX10) (N := 56) hx hb hts u9_wsX10_gaps_X10 hown hK hP 0 rfl rfl 2 (by decide) (hts (.fieldLink RX10 28 "TurnedFloorsModel" "kept" "[I") f9_wsX10_gaps_41) (fun _ h9 => h9) rfl dX10_gaps_53 ?_
    refine lv_iconst (v := 0) hx hb dX10_gaps_56 (by decide) ?_
    refine lv_iload_n hx hb dX10_gaps_57 rfl (lv_at hl 2 rfl) ?_
    refine lv_iadd hx hb dX10_gaps_58 ?_
    obtain ⟨g4, h⟩ := dG_some h
    refine va_iald hx hb hK hP 2 0 rfl rfl (dg_in g4) dX10_gaps_59 ?_
    obtain ⟨v5, ev5, h⟩ := dL_some h
    refine kz_topi v5 ev5 ?_
    obtain ⟨r6, q8, h7, h⟩ := dB_some h
    refine dw_ki (va_runV (As := [.int v5]) (rest := []) ⟨hx, hb, hml, hown, hts⟩ (qX10_lessThan l D ty eo _ ad q3 v5 r6 q8 h7) (cwV 1 hts gX10_gaps_X10_lessThan rfl rfl rfl hd_X10_lessThan_v ⟨Nat.le_of_ble_eq_true rfl, Nat.le_of_ble_eq_true rfl⟩) (pv10_10_0 hK hN hE hP hD hS hA) rfl rfl hl.1 rfl (lv_room (Nat.le_of_ble_eq_true rfl)) dX10_gaps_60 ⟨Nat.le_of_ble_eq_true rfl, Nat.le_of_ble_eq_true rfl⟩) hD hS hA (fun r9 u9 H locs hw hp hd hs => ?_)
    clear hP hD hS
    obtain ⟨rfl, rfl⟩ := hw
    have hP := hp; have hD := hd; have hS := hs; clear hp hd hs
    refine lv_aload_n hx hb dX10_gaps_63 rfl (lv_at hl 0 rfl) ?_
    refine lv_aload_n hx hb dX10_gaps_64 rfl (lv_at hl 0 rfl) ?_
    refine va_get (D := D) (ci := 10) (v := .ref (ad 2)) (C := RX10) (T := TX10) (N := 56) hx hb hts u9_wsX10_gaps_X10 hown hK hP 0 rfl rfl 2 (by decide) (hts (.fieldLink RX10 28 "TurnedFloorsModel" "kept" "[I") f9_wsX10_gaps_41) (fun _ h9 => h9) rfl dX10_gaps_65 ?_
    refine lv_iconst (v := 0) hx hb dX10_gaps_68 (by decide) ?_
    refine lv_iload_n hx hb dX10_gaps_69 rfl (lv_at hl 2 rfl) ?_
    refine lv_iadd hx hb dX10_gaps_70 ?_
    refine lv_iconst (v := 1) hx hb dX10_gaps_71 (by decide) ?_
    refine lv_iadd hx hb dX10_gaps_72 ?_
    obtain ⟨g9, h⟩ := dG_some h
    refine va_iald hx hb hK hP 2 0 rfl rfl (dg_in g9) dX10_gaps_73 ?_
    obtain ⟨v10, ev10, h⟩ := dL_some h
    refine kz_topi v10 ev10 ?_
    obtain ⟨r11, q13, h12, h⟩ := dB_some h
    refine dw_ki (va_runV (As := [.int v10]) (rest := [.int r6]) ⟨hx, hb, hml, hown, hts⟩ (qX10_lessThan l D ty eo _ ad q8 v10 r11 q13 h12) (cwV 1 hts gX10_gaps_X10_lessThan rfl rfl rfl hd_X10_lessThan_v ⟨Nat.le_of_ble_eq_true rfl, Nat.le_of_ble_eq_true rfl⟩) (pv10_10_0 hK hN hE hP hD hS hA) rfl rfl hl.1 rfl (lv_room (Nat.le_of_ble_eq_true rfl)) dX10_gaps_74 ⟨Nat.le_of_ble_eq_true rfl, Nat.le_of_ble_eq_true rfl⟩) hD hS hA (fun r9 u9 H locs hw hp hd hs => ?_)
    clear hP hD hS
    obtain ⟨rfl, rfl⟩ := hw
    have hP := hp; have hD := hd; have hS := hs; clear hp hd hs
    refine lv_isub hx hb dX10_gaps_77 ?_
    refine lv_istore_n (lv' := [(3, .int (r6 - r11)), (0, .ref (ad 0)), (1, .int x1), (2, .int x2)]) hx hb dX10_gaps_78 rfl hl (by decide) rfl (fun ls hl => ?_)
    refine lv_iload_n hx hb dX10_gaps_79 rfl (lv_at hl 2 rfl) ?_
    refine lv_iload_n hx hb dX10_gaps_80 rfl (lv_at hl 0 rfl) ?_
    refine lv_iconst (v := 1) hx hb dX10_gaps_81 (by decide) ?_
    refine lv_icmp_eq (tgt := 90) hx hb dX10_gaps_82 (by decide) (fun c9 => ?_) (fun c9 => ?_)
    · rw [if_pos c9] at h
      exact WX10_gaps_90 C0 hk41 _ _ _ _ _ _ h hP hD hS (lv_sub hl [1, 3] rfl)
    · rw [if_neg c9] at h
      refine lv_iload_n hx hb dX10_gaps_85 rfl (lv_at hl 0 rfl) ?_
      refine lv_iconst (v := (-1)) hx hb dX10_gaps_86 (by decide) ?_
      refine lv_icmp_ne (tgt := 94) hx hb dX10_gaps_87 (by decide) (fun c9 => ?_) (fun c9 => ?_)
      · rw [if_neg c9] at h
        refine lv_iconst (v := 1) hx hb dX10_gaps_94 (by decide) ?_
        exact WX10_gaps_95 C0 hk41 _ _ _ _ _ _ _ h hP hD hS (lv_sub hl [1, 3] rfl)
      · rw [if_pos c9] at h
        exact WX10_gaps_90 C0 hk41 _ _ _ _ _ _ h hP hD hS (lv_sub hl [1, 3] rfl)
set_option maxHeartbeats 4000000 in
set_option maxRecDepth 100000 in
theorem WX10_gaps_41 {p : Program} {l : Launch} {e : Env} {s : State} {m : MethodId} {args : Array Value} {below : List Frame} {meth : Method} {c : Code} {D : va_G} {ty : Nat → ClassId} {eo : Nat → Nat} {A : Nat → Prop} {ad : Nat → Nat} {o1 : Int32} {o2 : dS} (C : dc_C p s m args meth c cX10_gaps (some .int) 4 RX10 wsX10_gaps D ty eo A)   (n : Nat) (q : dS) (x1 : Int32) (x2 : Int32) (H : Heap) (locs : List Loc) (ls : Array Slot) (h : zX10_gaps_41  n q x1 x2 = some (o1, o2)) (hP : va_P D vwCl (w10 ty ad q) H) (hD : va_D A (w10 ty ad q)) (hS : va_S A s.heap H locs) (hl : lv_has ls 4 [(0, .ref (ad 0)), (1, .int x1), (2, .int x2)]) : W p l e ({ frames := 2, cells := 0, slots := 0, locals := 43 } : Room) s m args below meth c H locs 0 0 (MQ below (va_Qi (fun (r : Int32) (u : va_W) => o1 = r ∧ w10 ty ad o2 = u) (kz_B D ty A) A) args s 0 0 A) (F0 m 41 ls []) := by
  exact dFix_W (F := fun k (a : dS × Int32 × Int32) => zX10_gaps_41b  (fun q x1 x2 => k (q, x1, x2)) a.1 a.2.1 a.2.2) (o := (o1, o2)) (P := fun (a : dS × Int32 × Int32) H locs ls => va_P D vwCl (w10 ty ad a.1) H ∧ va_D A (w10 ty ad a.1) ∧ va_S A s.heap H locs ∧ lv_has ls 4 [(0, .ref (ad 0)), (1, .int a.2.1), (2, .int a.2.2)]) (G := fun H locs ls => W p l e ({ frames := 2, cells := 0, slots := 0, locals := 43 } : Room) s m args below meth c H locs 0 0 (MQ below (va_Qi (fun (r : Int32) (u : va_W) => o1 = r ∧ w10 ty ad o2 = u) (kz_B D ty A) A) args s 0 0 A) (F0 m 41 ls []))
    (fun k hk a H locs ls h hp => WX10_gaps_41b C  (fun q x1 x2 H locs ls h h1 h2 h3 h4 => hk (q, x1, x2) H locs ls h ⟨h1, h2, h3, h4⟩) a.1 a.2.1 a.2.2 H locs ls h hp.1 hp.2.1 hp.2.2.1 hp.2.2.2) n (q, x1, x2) H locs ls h ⟨hP, hD, hS, hl⟩
set_option maxHeartbeats 4000000 in
set_option maxRecDepth 100000 in
theorem WX10_gaps_38 {p : Program} {l : Launch} {e : Env} {s : State} {m : MethodId} {args : Array Value} {below : List Frame} {meth : Method} {c : Code} {D : va_G} {ty : Nat → ClassId} {eo : Nat → Nat} {A : Nat → Prop} {ad : Nat → Nat} {o1 : Int32} {o2 : dS} (C : dc_C p s m args meth c cX10_gaps (some .int) 4 RX10 wsX10_gaps D ty eo A)   (q : dS) (y0 : Int32) (H : Heap) (locs : List Loc) (ls : Array Slot) (h : zX10_gaps_38  q y0 = some (o1, o2)) (hP : va_P D vwCl (w10 ty ad q) H) (hD : va_D A (w10 ty ad q)) (hS : va_S A s.heap H locs) (hl : lv_has ls 4 [(0, .ref (ad 0))]) : W p l e ({ frames := 2, cells := 0, slots := 0, locals := 43 } : Room) s m args below meth c H locs 0 0 (MQ below (va_Qi (fun (r : Int32) (u : va_W) => o1 = r ∧ w10 ty ad o2 = u) (kz_B D ty A) A) args s 0 0 A) (F0 m 38 ls [.int y0]) := by
  have C0 := C
  obtain ⟨hx, hb, hr, hts, hown, hlocks, hml, hK, hN, hE, hA⟩ := C
  unfold zX10_gaps_38 at h
  refine lv_istore_n (lv' := [(1, .int y0), (0, .ref (ad 0))]) hx hb dX10_gaps_38 rfl hl (by decide) rfl (fun ls hl => ?_)
  refine lv_iconst (v := 0) hx hb dX10_gaps_39 (by decide) ?_
  refine lv_istore_n (lv' := [(2, .int 0), (1, .int y0), (0, .ref (ad 0))]) hx hb dX10_gaps_40 rfl hl (by decide) rfl (fun ls hl => ?_)
  exact WX10_gaps_41 C0  _ _ _ _ _ _ _ h hP hD hS (lv_sub hl [2, 1, 0] rfl)
set_option maxHeartbeats 4000000 in
set_option maxRecDepth 100000 in
theorem WX10_gaps_37 {p : Program} {l : Launch} {e : Env} {s : State} {m : MethodId} {args : Array Value} {below : List Frame} {meth : Method} {c : Code} {D : va_G} {ty : Nat → ClassId} {eo : Nat → Nat} {A : Nat → Prop} {ad : Nat → Nat} {o1 : Int32} {o2 : dS} (C : dc_C p s m args meth c cX10_gaps (some .int) 4 RX10 wsX10_gaps D ty eo A)   (q : dS)  (H : Heap) (locs : List Loc) (ls : Array Slot) (h : zX10_gaps_37  q = some (o1, o2)) (hP : va_P D vwCl (w10 ty ad q) H) (hD : va_D A (w10 ty ad q)) (hS : va_S A s.heap H locs) (hl : lv_has ls 4 [(0, .ref (ad 0))]) : W p l e ({ frames := 2, cells := 0, slots := 0, locals := 43 } : Room) s m args below meth c H locs 0 0 (MQ below (va_Qi (fun (r : Int32) (u : va_W) => o1 = r ∧ w10 ty ad o2 = u) (kz_B D ty A) A) args s 0 0 A) (F0 m 37 ls []) := by
  have C0 := C
  obtain ⟨hx, hb, hr, hts, hown, hlocks, hml, hK, hN, hE, hA⟩ := C
  unfold zX10_gaps_37 at h
  refine lv_iconst (v := 0) hx hb dX10_gaps_37 (by decide) ?_
  exact WX10_gaps_38 C0  _ _ _ _ _ h hP hD hS (lv_sub hl [0] rfl)
set_option maxHeartbeats 4000000 in
set_option maxRecDepth 100000 in
theorem qX10_gaps (l : Launch) (D : va_G) (ty : Nat → ClassId) (eo : Nat → Nat) (sz : Nat) (ad : Nat → Nat) (q : dS)  (o1 : Int32) (o2 : dS) (h : zX10_gaps q = some (o1, o2)) : Met l yX10_gaps wsX10_gaps ({ frames := 2, cells := 0, slots := 0, locals := 43 } : Room) (va_Pc [.ref (ad 0)] (kz_pre D ty eo (w10 ty ad q) sz)) (va_Qi (fun (r : Int32) (u : va_W) => o1 = r ∧ w10 ty ad o2 = u) (kz_B D ty (va_A (w10 ty ad q) sz)) (va_A (w10 ty ad q) sz)) 0 0 (va_A (w10 ty ad q) sz) := by
  refine Met.ofW (cc := cX10_gaps) (maxL := 4) (ret := (some .int)) (by decide) rfl ?_
  intro p e s m args below meth c s₁ B hml hv
  obtain ⟨rfl, hsz, hP, hK, hD0, hN, hE⟩ := hv
  have hx := B.exec
  have hb := B.bytes
  have hr := B.returns
  have hts := atoms_spec (ws := wsX10_gaps) B.pre
  have hown : s.vm.findClass RX10 = some m.cls := findClass_of_methodNamed B.named
  have hlocks := B.notSynchronized
  subst hsz
  have hD := hD0.self (sz := s.heap.size)
  generalize hAe : va_A (w10 ty ad q) s.heap.size = A at hD hE ⊢
  have hA : ∀ q : Nat, s.heap.size ≤ q → A q := fun q h => by rw [← hAe]; exact Or.inr h
  clear hAe
  have hS : va_S A s.heap s.heap [] := va_S.rf
  have hl := lv_entry ([.ref (ad 0)]) (n := 4) (Nat.le_of_ble_eq_true rfl)
  rw [lg_entry_eq]
  generalize (lg_sl ([.ref (ad 0)]) ++ List.replicate (4 - (lg_sl ([.ref (ad 0)])).length) Slot.unset).toArray = ls at hl ⊢
  have hl : lv_has ls 4 [(0, .ref (ad 0))] := hl
  have C : dc_C p s m _ meth c cX10_gaps (some .int) 4 RX10 wsX10_gaps D ty eo A := ⟨hx, hb, hr, hts, hown, hlocks, hml, hK, hN, hE, hA⟩
  unfold zX10_gaps at h
  refine lv_aload_n hx hb dX10_gaps_0 rfl (lv_at hl 0 rfl) ?_
  obtain ⟨r1, q3, h2, h⟩ := dB_some h
  refine dw_ki (va_runV (As := []) (rest := []) ⟨hx, hb, hml, hown, hts⟩ (qX10_size l D ty eo _ ad q  r1 q3 h2) (cwV 0 hts gX10_gaps_X10_size rfl rfl rfl hd_X10_size_v ⟨Nat.le_of_ble_eq_true rfl, Nat.le_of_ble_eq_true rfl⟩) (pv10_10_0 hK hN hE hP hD hS hA) rfl rfl hl.1 rfl (lv_room (Nat.le_of_ble_eq_true rfl)) dX10_gaps_1 ⟨Nat.le_of_ble_eq_true rfl, Nat.le_of_ble_eq_true rfl⟩) hD hS hA (fun r9 u9 H locs hw hp hd hs => ?_)
  clear hP hD hS
  obtain ⟨rfl, rfl⟩ := hw
  have hP := hp; have hD := hd; have hS := hs; clear hp hd hs
  refine lv_if_le (tgt := 37) hx hb dX10_gaps_4 (by decide) (fun c9 => ?_) (fun c9 => ?_)
  · rw [if_pos c9] at h
    exact WX10_gaps_37 C  _ _ _ _ h hP hD hS (lv_sub hl [0] rfl)
  · rw [if_neg c9] at h
    refine lv_aload_n hx hb dX10_gaps_7 rfl (lv_at hl 0 rfl) ?_
    refine lv_aload_n hx hb dX10_gaps_8 rfl (lv_at hl 0 rfl) ?_
    refine va_get (D := D) (ci := 10) (v := .ref (ad 2)) (C := RX10) (T := TX10) (N := 56) hx hb hts u9_wsX10_gaps_X10 hown hK hP 0 rfl rfl 2 (by decide) (hts (.fieldLink RX10 28 "TurnedFloorsModel" "kept" "[I") f9_wsX10_gaps_41) (fun _ h9 => h9) rfl dX10_gaps_9 ?_
    refine lv_iconst (v := 0) hx hb dX10_gaps_12 (by decide) ?_
    refine lv_aload_n hx hb dX10_gaps_13 rfl (lv_at hl 0 rfl) ?_
    obtain ⟨r4, q6, h5, h⟩ := dB_some h
    refine dw_ki (va_runV (As := []) (rest := [.int 0, .ref (ad 2), .ref (ad 0)]) ⟨hx, hb, hml, hown, hts⟩ (qX10_size l D ty eo _ ad q3  r4 q6 h5) (cwV 0 hts gX10_gaps_X10_size rfl rfl rfl hd_X10_size_v ⟨Nat.le_of_ble_eq_true rfl, Nat.le_of_ble_eq_true rfl⟩) (pv10_10_0 hK hN hE hP hD hS hA) rfl rfl hl.1 rfl (lv_room (Nat.le_of_ble_eq_true rfl)) dX10_gaps_14 ⟨Nat.le_of_ble_eq_true rfl, Nat.le_of_ble_eq_true rfl⟩) hD hS hA (fun r9 u9 H locs hw hp hd hs => ?_)
    clear hP hD hS
    obtain ⟨rfl, rfl⟩ := hw
    have hP := hp; have hD := hd; have hS := hs; clear hp hd hs
    refine lv_iadd hx hb dX10_gaps_17 ?_
    refine lv_iconst (v := 1) hx hb dX10_gaps_18 (by decide) ?_
    refine lv_isub hx hb dX10_gaps_19 ?_
    obtain ⟨g7, h⟩ := dG_some h
    refine va_iald hx hb hK hP 2 0 rfl rfl (dg_in g7) dX10_gaps_20 ?_
    obtain ⟨v8, ev8, h⟩ := dL_some h
    refine kz_topi v8 ev8 ?_
    obtain ⟨r9, q11, h10, h⟩ := dB_some h
    refine dw_ki (va_runV (As := [.int v8]) (rest := []) ⟨hx, hb, hml, hown, hts⟩ (qX10_lessThan l D ty eo _ ad q6 v8 r9 q11 h10) (cwV 1 hts gX10_gaps_X10_lessThan rfl rfl rfl hd_X10_lessThan_v ⟨Nat.le_of_ble_eq_true rfl, Nat.le_of_ble_eq_true rfl⟩) (pv10_10_0 hK hN hE hP hD hS hA) rfl rfl hl.1 rfl (lv_room (Nat.le_of_ble_eq_true rfl)) dX10_gaps_21 ⟨Nat.le_of_ble_eq_true rfl, Nat.le_of_ble_eq_true rfl⟩) hD hS hA (fun r9 u9 H locs hw hp hd hs => ?_)
    clear hP hD hS
    obtain ⟨rfl, rfl⟩ := hw
    have hP := hp; have hD := hd; have hS := hs; clear hp hd hs
    refine lv_aload_n hx hb dX10_gaps_24 rfl (lv_at hl 0 rfl) ?_
    obtain ⟨r12, q14, h13, h⟩ := dB_some h
    refine dw_ki (va_runV (As := []) (rest := [.int r9]) ⟨hx, hb, hml, hown, hts⟩ (qX10_size l D ty eo _ ad q11  r12 q14 h13) (cwV 0 hts gX10_gaps_X10_size rfl rfl rfl hd_X10_size_v ⟨Nat.le_of_ble_eq_true rfl, Nat.le_of_ble_eq_true rfl⟩) (pv10_10_0 hK hN hE hP hD hS hA) rfl rfl hl.1 rfl (lv_room (Nat.le_of_ble_eq_true rfl)) dX10_gaps_25 ⟨Nat.le_of_ble_eq_true rfl, Nat.le_of_ble_eq_true rfl⟩) hD hS hA (fun r9 u9 H locs hw hp hd hs => ?_)
    clear hP hD hS
    obtain ⟨rfl, rfl⟩ := hw
    have hP := hp; have hD := hd; have hS := hs; clear hp hd hs
    refine lv_iconst (v := 1) hx hb dX10_gaps_28 (by decide) ?_
    refine lv_isub hx hb dX10_gaps_29 ?_
    refine lv_icmp_ge (tgt := 37) hx hb dX10_gaps_30 (by decide) (fun c9 => ?_) (fun c9 => ?_)
    · rw [if_pos c9] at h
      exact WX10_gaps_37 C  _ _ _ _ h hP hD hS (lv_sub hl [0] rfl)
    · rw [if_neg c9] at h
      refine lv_iconst (v := 1) hx hb dX10_gaps_33 (by decide) ?_
      refine lv_goto (tgt := 38) hx hb dX10_gaps_34 (by decide) ?_
      exact WX10_gaps_38 C  _ _ _ _ _ h hP hD hS (lv_sub hl [0] rfl)

set_option maxHeartbeats 4000000 in
set_option maxRecDepth 100000 in
theorem WX10_orderValue_86 {p : Program} {l : Launch} {e : Env} {s : State} {m : MethodId} {args : Array Value} {below : List Frame} {meth : Method} {c : Code} {D : va_G} {ty : Nat → ClassId} {eo : Nat → Nat} {A : Nat → Prop} {ad : Nat → Nat} {o1 : Int32} {o2 : dS} (C : dc_C p s m args meth c cX10_orderValue (some .int) 3 RX10 wsX10_orderValue D ty eo A)   (q : dS) (y0 : Int32) (H : Heap) (locs : List Loc) (ls : Array Slot) (h : zX10_orderValue_86  q y0 = some (o1, o2)) (hP : va_P D vwCl (w10 ty ad q) H) (hD : va_D A (w10 ty ad q)) (hS : va_S A s.heap H locs) (hl : lv_has ls 3 []) : W p l e ({ frames := 3, cells := 0, slots := 0, locals := 66 } : Room) s m args below meth c H locs 0 0 (MQ below (va_Qi (fun (r : Int32) (u : va_W) => o1 = r ∧ w10 ty ad o2 = u) (kz_B D ty A) A) args s 0 0 A) (F0 m 86 ls [.int y0]) := by
  have C0 := C
  obtain ⟨hx, hb, hr, hts, hown, hlocks, hml, hK, hN, hE, hA⟩ := C
  unfold zX10_orderValue_86 at h
  cases h
  exact kz_iret hx hb hr hlocks hP hK hD hS dX10_orderValue_86 ⟨rfl, rfl⟩
set_option maxHeartbeats 4000000 in
set_option maxRecDepth 100000 in
theorem WX10_orderValue_65 {p : Program} {l : Launch} {e : Env} {s : State} {m : MethodId} {args : Array Value} {below : List Frame} {meth : Method} {c : Code} {D : va_G} {ty : Nat → ClassId} {eo : Nat → Nat} {A : Nat → Prop} {ad : Nat → Nat} {o1 : Int32} {o2 : dS} (C : dc_C p s m args meth c cX10_orderValue (some .int) 3 RX10 wsX10_orderValue D ty eo A)   (q : dS) (y0 : Int32) (H : Heap) (locs : List Loc) (ls : Array Slot) (h : zX10_orderValue_65  q y0 = some (o1, o2)) (hP : va_P D vwCl (w10 ty ad q) H) (hD : va_D A (w10 ty ad q)) (hS : va_S A s.heap H locs) (hl : lv_has ls 3 []) : W p l e ({ frames := 3, cells := 0, slots := 0, locals := 66 } : Room) s m args below meth c H locs 0 0 (MQ below (va_Qi (fun (r : Int32) (u : va_W) => o1 = r ∧ w10 ty ad o2 = u) (kz_B D ty A) A) args s 0 0 A) (F0 m 65 ls [.int y0]) := by
  have C0 := C
  obtain ⟨hx, hb, hr, hts, hown, hlocks, hml, hK, hN, hE, hA⟩ := C
  unfold zX10_orderValue_65 at h
  cases h
  exact kz_iret hx hb hr hlocks hP hK hD hS dX10_orderValue_65 ⟨rfl, rfl⟩
set_option maxHeartbeats 4000000 in
set_option maxRecDepth 100000 in
theorem qX10_orderValue (l : Launch) (D : va_G) (ty : Nat → ClassId) (eo : Nat → Nat) (sz : Nat) (ad : Nat → Nat) (q : dS) (p1 : Int32) (p2 : Int32) (o1 : Int32) (o2 : dS) (h : zX10_orderValue q p1 p2 = some (o1, o2)) : Met l yX10_orderValue wsX10_orderValue ({ frames := 3, cells := 0, slots := 0, locals := 66 } : Room) (va_Pc [.ref (ad 0), .int p1, .int p2] (kz_pre D ty eo (w10 ty ad q) sz)) (va_Qi (fun (r : Int32) (u : va_W) => o1 = r ∧ w10 ty ad o2 = u) (kz_B D ty (va_A (w10 ty ad q) sz)) (va_A (w10 ty ad q) sz)) 0 0 (va_A (w10 ty ad q) sz) := by
  refine Met.ofW (cc := cX10_orderValue) (maxL := 3) (ret := (some .int)) (by decide) rfl ?_
  intro p e s m args below meth c s₁ B hml hv
  obtain ⟨rfl, hsz, hP, hK, hD0, hN, hE⟩ := hv
  have hx := B.exec
  have hb := B.bytes
  have hr := B.returns
  have hts := atoms_spec (ws := wsX10_orderValue) B.pre
  have hown : s.vm.findClass RX10 = some m.cls := findClass_of_methodNamed B.named
  have hlocks := B.notSynchronized
  subst hsz
  have hD := hD0.self (sz := s.heap.size)
  generalize hAe : va_A (w10 ty ad q) s.heap.size = A at hD hE ⊢
  have hA : ∀ q : Nat, s.heap.size ≤ q → A q := fun q h => by rw [← hAe]; exact Or.inr h
  clear hAe
  have hS : va_S A s.heap s.heap [] := va_S.rf
  have hl := lv_entry ([.ref (ad 0), .int p1, .int p2]) (n := 3) (Nat.le_of_ble_eq_true rfl)
  rw [lg_entry_eq]
  generalize (lg_sl ([.ref (ad 0), .int p1, .int p2]) ++ List.replicate (3 - (lg_sl ([.ref (ad 0), .int p1, .int p2])).length) Slot.unset).toArray = ls at hl ⊢
  have hl : lv_has ls 3 [(0, .ref (ad 0)), (1, .int p1), (2, .int p2)] := hl
  have C : dc_C p s m _ meth c cX10_orderValue (some .int) 3 RX10 wsX10_orderValue D ty eo A := ⟨hx, hb, hr, hts, hown, hlocks, hml, hK, hN, hE, hA⟩
  unfold zX10_orderValue at h
  refine lv_iload_n hx hb dX10_orderValue_0 rfl (lv_at hl 1 rfl) ?_
  by_cases c1 : p1 = 15
  · rw [if_pos c1] at h
    refine lv_tableIn (off := 43) (tgt := 44) hx hb dX10_orderValue_1 (by rw [c1]; decide) (by rw [c1]; decide) (by rw [c1]; decide) (by decide) ?_
    refine lv_aload_n hx hb dX10_orderValue_44 rfl (lv_at hl 0 rfl) ?_
    refine lv_iload_n hx hb dX10_orderValue_45 rfl (lv_at hl 2 rfl) ?_
    obtain ⟨r2, q4, h3, h⟩ := dB_some h
    refine dw_ki (va_runV (As := [.int p2]) (rest := []) ⟨hx, hb, hml, hown, hts⟩ (qX10_isPlace l D ty eo _ ad q p2 r2 q4 h3) (cwV 1 hts gX10_orderValue_X10_isPlace rfl rfl rfl hd_X10_isPlace_v ⟨Nat.le_of_ble_eq_true rfl, Nat.le_of_ble_eq_true rfl⟩) (pv10_10_0 hK hN hE hP hD hS hA) rfl rfl hl.1 rfl (lv_room (Nat.le_of_ble_eq_true rfl)) dX10_orderValue_46 ⟨Nat.le_of_ble_eq_true rfl, Nat.le_of_ble_eq_true rfl⟩) hD hS hA (fun r9 u9 H locs hw hp hd hs => ?_)
    clear hP hD hS
    obtain ⟨rfl, rfl⟩ := hw
    have hP := hp; have hD := hd; have hS := hs; clear hp hd hs
    refine lv_if_eq (tgt := 64) hx hb dX10_orderValue_49 (by decide) (fun c9 => ?_) (fun c9 => ?_)
    · rw [if_pos c9] at h
      refine lv_iconst (v := (-1)) hx hb dX10_orderValue_64 (by decide) ?_
      exact WX10_orderValue_65 C  _ _ _ _ _ h hP hD hS (lv_sub hl [] rfl)
    · rw [if_neg c9] at h
      refine lv_aload_n hx hb dX10_orderValue_52 rfl (lv_at hl 0 rfl) ?_
      refine va_get (D := D) (ci := 10) (v := .ref (ad 2)) (C := RX10) (T := TX10) (N := 56) hx hb hts u9_wsX10_orderValue_X10 hown hK hP 0 rfl rfl 2 (by decide) (hts (.fieldLink RX10 28 "TurnedFloorsModel" "kept" "[I") f9_wsX10_orderValue_43) (fun _ h9 => h9) rfl dX10_orderValue_53 ?_
      refine lv_bipush (v := 6) hx hb dX10_orderValue_56 (by decide) ?_
      refine lv_iload_n hx hb dX10_orderValue_58 rfl (lv_at hl 2 rfl) ?_
      refine lv_iadd hx hb dX10_orderValue_59 ?_
      obtain ⟨g5, h⟩ := dG_some h
      refine va_iald hx hb hK hP 2 0 rfl rfl (dg_in g5) dX10_orderValue_60 ?_
      obtain ⟨v6, ev6, h⟩ := dL_some h
      refine kz_topi v6 ev6 ?_
      refine lv_goto (tgt := 65) hx hb dX10_orderValue_61 (by decide) ?_
      exact WX10_orderValue_65 C  _ _ _ _ _ h hP hD hS (lv_sub hl [] rfl)
  rw [if_neg c1] at h
  by_cases c7 : p1 = 16
  · rw [if_pos c7] at h
    refine lv_tableIn (off := 86) (tgt := 87) hx hb dX10_orderValue_1 (by rw [c7]; decide) (by rw [c7]; decide) (by rw [c7]; decide) (by decide) ?_
    refine lv_aload_n hx hb dX10_orderValue_87 rfl (lv_at hl 0 rfl) ?_
    refine va_get (D := D) (ci := 10) (v := .ref (ad 2)) (C := RX10) (T := TX10) (N := 56) hx hb hts u9_wsX10_orderValue_X10 hown hK hP 0 rfl rfl 2 (by decide) (hts (.fieldLink RX10 28 "TurnedFloorsModel" "kept" "[I") f9_wsX10_orderValue_43) (fun _ h9 => h9) rfl dX10_orderValue_88 ?_
    refine lv_bipush (v := 13) hx hb dX10_orderValue_91 (by decide) ?_
    refine va_iald hx hb hK hP 2 0 rfl rfl (by simp only [vp_in]; decide) dX10_orderValue_93 ?_
    refine kz_topi (q.1 2 13) (congrArg (q.1 2) (by decide +kernel : Int32.toNatClampNeg 13 = 13)) ?_
    cases h
    exact kz_iret hx hb hr hlocks hP hK hD hS dX10_orderValue_94 ⟨rfl, rfl⟩
  rw [if_neg c7] at h
  by_cases c8 : p1 = 17
  · rw [if_pos c8] at h
    refine lv_tableIn (off := 94) (tgt := 95) hx hb dX10_orderValue_1 (by rw [c8]; decide) (by rw [c8]; decide) (by rw [c8]; decide) (by decide) ?_
    refine lv_aload_n hx hb dX10_orderValue_95 rfl (lv_at hl 0 rfl) ?_
    refine va_get (D := D) (ci := 10) (v := .int (q.1 0 27)) (C := RX10) (T := TX10) (N := 56) hx hb hts u9_wsX10_orderValue_X10 hown hK hP 0 rfl rfl 27 (by decide) (hts (.fieldLink RX10 314 "TurnedFloorsModel" "orderDone" "I") f9_wsX10_orderValue_44) (fun _ h9 => h9) rfl dX10_orderValue_96 ?_
    cases h
    exact kz_iret hx hb hr hlocks hP hK hD hS dX10_orderValue_99 ⟨rfl, rfl⟩
  rw [if_neg c8] at h
  by_cases c9 : p1 = 18
  · rw [if_pos c9] at h
    refine lv_tableIn (off := 99) (tgt := 100) hx hb dX10_orderValue_1 (by rw [c9]; decide) (by rw [c9]; decide) (by rw [c9]; decide) (by decide) ?_
    refine lv_aload_n hx hb dX10_orderValue_100 rfl (lv_at hl 0 rfl) ?_
    refine va_get (D := D) (ci := 10) (v := .int (q.1 0 28)) (C := RX10) (T := TX10) (N := 56) hx hb hts u9_wsX10_orderValue_X10 hown hK hP 0 rfl rfl 28 (by decide) (hts (.fieldLink RX10 317 "TurnedFloorsModel" "orderLatest" "I") f9_wsX10_orderValue_45) (fun _ h9 => h9) rfl dX10_orderValue_101 ?_
    cases h
    exact kz_iret hx hb hr hlocks hP hK hD hS dX10_orderValue_104 ⟨rfl, rfl⟩
  rw [if_neg c9] at h
  by_cases c10 : p1 = 19
  · rw [if_pos c10] at h
    refine lv_tableIn (off := 104) (tgt := 105) hx hb dX10_orderValue_1 (by rw [c10]; decide) (by rw [c10]; decide) (by rw [c10]; decide) (by decide) ?_
    refine lv_aload_n hx hb dX10_orderValue_105 rfl (lv_at hl 0 rfl) ?_
    refine va_get (D := D) (ci := 10) (v := .ref (ad 2)) (C := RX10) (T := TX10) (N := 56) hx hb hts u9_wsX10_orderValue_X10 hown hK hP 0 rfl rfl 2 (by decide) (hts (.fieldLink RX10 28 "TurnedFloorsModel" "kept" "[I") f9_wsX10_orderValue_43) (fun _ h9 => h9) rfl dX10_orderValue_106 ?_
    refine lv_bipush (v := 12) hx hb dX10_orderValue_109 (by decide) ?_
    refine va_iald hx hb hK hP 2 0 rfl rfl (by simp only [vp_in]; decide) dX10_orderValue_111 ?_
    refine kz_topi (q.1 2 12) (congrArg (q.1 2) (by decide +kernel : Int32.toNatClampNeg 12 = 12)) ?_
    cases h
    exact kz_iret hx hb hr hlocks hP hK hD hS dX10_orderValue_112 ⟨rfl, rfl⟩
  rw [if_neg c10] at h
  by_cases c11 : p1 = 20
  · rw [if_pos c11] at h
    refine lv_tableIn (off := 112) (tgt := 113) hx hb dX10_orderValue_1 (by rw [c11]; decide) (by rw [c11]; decide) (by rw [c11]; decide) (by decide) ?_
    refine lv_aload_n hx hb dX10_orderValue_113 rfl (lv_at hl 0 rfl) ?_
    obtain ⟨r12, q14, h13, h⟩ := dB_some h
    refine dw_ki (va_runV (As := []) (rest := []) ⟨hx, hb, hml, hown, hts⟩ (qX10_gaps l D ty eo _ ad q  r12 q14 h13) (cwV 0 hts gX10_orderValue_X10_gaps rfl rfl rfl hd_X10_gaps_v ⟨Nat.le_of_ble_eq_true rfl, Nat.le_of_ble_eq_true rfl⟩) (pv10_10_0 hK hN hE hP hD hS hA) rfl rfl hl.1 rfl (lv_room (Nat.le_of_ble_eq_true rfl)) dX10_orderValue_114 ⟨Nat.le_of_ble_eq_true rfl, Nat.le_of_ble_eq_true rfl⟩) hD hS hA (fun r9 u9 H locs hw hp hd hs => ?_)
    clear hP hD hS
    obtain ⟨rfl, rfl⟩ := hw
    have hP := hp; have hD := hd; have hS := hs; clear hp hd hs
    cases h
    exact kz_iret hx hb hr hlocks hP hK hD hS dX10_orderValue_117 ⟨rfl, rfl⟩
  rw [if_neg c11] at h
  by_cases c15 : p1 = 21
  · rw [if_pos c15] at h
    refine lv_tableIn (off := 65) (tgt := 66) hx hb dX10_orderValue_1 (by rw [c15]; decide) (by rw [c15]; decide) (by rw [c15]; decide) (by decide) ?_
    refine lv_aload_n hx hb dX10_orderValue_66 rfl (lv_at hl 0 rfl) ?_
    refine lv_iload_n hx hb dX10_orderValue_67 rfl (lv_at hl 2 rfl) ?_
    obtain ⟨r16, q18, h17, h⟩ := dB_some h
    refine dw_ki (va_runV (As := [.int p2]) (rest := []) ⟨hx, hb, hml, hown, hts⟩ (qX10_isPlace l D ty eo _ ad q p2 r16 q18 h17) (cwV 1 hts gX10_orderValue_X10_isPlace rfl rfl rfl hd_X10_isPlace_v ⟨Nat.le_of_ble_eq_true rfl, Nat.le_of_ble_eq_true rfl⟩) (pv10_10_0 hK hN hE hP hD hS hA) rfl rfl hl.1 rfl (lv_room (Nat.le_of_ble_eq_true rfl)) dX10_orderValue_68 ⟨Nat.le_of_ble_eq_true rfl, Nat.le_of_ble_eq_true rfl⟩) hD hS hA (fun r9 u9 H locs hw hp hd hs => ?_)
    clear hP hD hS
    obtain ⟨rfl, rfl⟩ := hw
    have hP := hp; have hD := hd; have hS := hs; clear hp hd hs
    refine lv_if_eq (tgt := 85) hx hb dX10_orderValue_71 (by decide) (fun c9 => ?_) (fun c9 => ?_)
    · rw [if_pos c9] at h
      refine lv_iconst (v := (-1)) hx hb dX10_orderValue_85 (by decide) ?_
      exact WX10_orderValue_86 C  _ _ _ _ _ h hP hD hS (lv_sub hl [] rfl)
    · rw [if_neg c9] at h
      refine lv_aload_n hx hb dX10_orderValue_74 rfl (lv_at hl 0 rfl) ?_
      refine va_get (D := D) (ci := 10) (v := .ref (ad 2)) (C := RX10) (T := TX10) (N := 56) hx hb hts u9_wsX10_orderValue_X10 hown hK hP 0 rfl rfl 2 (by decide) (hts (.fieldLink RX10 28 "TurnedFloorsModel" "kept" "[I") f9_wsX10_orderValue_43) (fun _ h9 => h9) rfl dX10_orderValue_75 ?_
      refine lv_iconst (v := 0) hx hb dX10_orderValue_78 (by decide) ?_
      refine lv_iload_n hx hb dX10_orderValue_79 rfl (lv_at hl 2 rfl) ?_
      refine lv_iadd hx hb dX10_orderValue_80 ?_
      obtain ⟨g19, h⟩ := dG_some h
      refine va_iald hx hb hK hP 2 0 rfl rfl (dg_in g19) dX10_orderValue_81 ?_
      obtain ⟨v20, ev20, h⟩ := dL_some h
      refine kz_topi v20 ev20 ?_
      refine lv_goto (tgt := 86) hx hb dX10_orderValue_82 (by decide) ?_
      exact WX10_orderValue_86 C  _ _ _ _ _ h hP hD hS (lv_sub hl [] rfl)
  rw [if_neg c15] at h
  refine lv_tableOut (tgt := 113) hx hb dX10_orderValue_1 (by simp only [← Int32.toInt_inj, Int32.reduceToInt] at c1 c7 c8 c9 c10 c11 c15; omega) (by decide) ?_
  refine lv_aload_n hx hb dX10_orderValue_113 rfl (lv_at hl 0 rfl) ?_
  obtain ⟨r21, q23, h22, h⟩ := dB_some h
  refine dw_ki (va_runV (As := []) (rest := []) ⟨hx, hb, hml, hown, hts⟩ (qX10_gaps l D ty eo _ ad q  r21 q23 h22) (cwV 0 hts gX10_orderValue_X10_gaps rfl rfl rfl hd_X10_gaps_v ⟨Nat.le_of_ble_eq_true rfl, Nat.le_of_ble_eq_true rfl⟩) (pv10_10_0 hK hN hE hP hD hS hA) rfl rfl hl.1 rfl (lv_room (Nat.le_of_ble_eq_true rfl)) dX10_orderValue_114 ⟨Nat.le_of_ble_eq_true rfl, Nat.le_of_ble_eq_true rfl⟩) hD hS hA (fun r9 u9 H locs hw hp hd hs => ?_)
  clear hP hD hS
  obtain ⟨rfl, rfl⟩ := hw
  have hP := hp; have hD := hd; have hS := hs; clear hp hd hs
  cases h
  exact kz_iret hx hb hr hlocks hP hK hD hS dX10_orderValue_117 ⟨rfl, rfl⟩

set_option maxHeartbeats 4000000 in
set_option maxRecDepth 100000 in
theorem WX10_partOf_157 {p : Program} {l : Launch} {e : Env} {s : State} {m : MethodId} {args : Array Value} {below : List Frame} {meth : Method} {c : Code} {D : va_G} {ty : Nat → ClassId} {eo : Nat → Nat} {A : Nat → Prop} {ad : Nat → Nat} {o1 : Int64} {o2 : dS} {kU : dS → Int32 → Option (Int64 × dS)} {nU : Nat} (hkU : ∀ (sz : Nat) (q : dS) (p1 : Int32) (o1 : Int64) (o2 : dS), kU q p1 = some (o1, o2) → Met l yX10_sumOf wsX10_sumOf ({ frames := 12 + 3 * nU, cells := 0, slots := 0, locals := 400 + 75 * nU } : Room) (va_Pc [.ref (ad 0), .int p1] (kz_pre D ty eo (w10 ty ad q) sz)) (va_Ql (fun (r : Int64) (u : va_W) => o1 = r ∧ w10 ty ad o2 = u) (kz_B D ty (va_A (w10 ty ad q) sz)) (va_A (w10 ty ad q) sz)) 0 0 (va_A (w10 ty ad q) sz)) (C : dc_C p s m args meth c cX10_partOf (some .long) 4 RX10 wsX10_partOf D ty eo A)   (q : dS) (y0 : Int64) (H : Heap) (locs : List Loc) (ls : Array Slot) (h : zX10_partOf_157 kU  q y0 = some (o1, o2)) (hP : va_P D vwCl (w10 ty ad q) H) (hD : va_D A (w10 ty ad q)) (hS : va_S A s.heap H locs) (hl : lv_has ls 4 []) : W p l e ({ frames := 12 + 3 * nU + 1, cells := 0, slots := 0, locals := 400 + 75 * nU + 26 } : Room) s m args below meth c H locs 0 0 (MQ below (va_Ql (fun (r : Int64) (u : va_W) => o1 = r ∧ w10 ty ad o2 = u) (kz_B D ty A) A) args s 0 0 A) (F0 m 157 ls [.long y0]) := by
  have C0 := C
  obtain ⟨hx, hb, hr, hts, hown, hlocks, hml, hK, hN, hE, hA⟩ := C
  unfold zX10_partOf_157 at h
  cases h
  exact kz_lret hx hb hr hlocks hP hK hD hS dX10_partOf_157 ⟨rfl, rfl⟩
set_option maxHeartbeats 4000000 in
set_option maxRecDepth 100000 in
theorem WX10_partOf_105 {p : Program} {l : Launch} {e : Env} {s : State} {m : MethodId} {args : Array Value} {below : List Frame} {meth : Method} {c : Code} {D : va_G} {ty : Nat → ClassId} {eo : Nat → Nat} {A : Nat → Prop} {ad : Nat → Nat} {o1 : Int64} {o2 : dS} {kU : dS → Int32 → Option (Int64 × dS)} {nU : Nat} (hkU : ∀ (sz : Nat) (q : dS) (p1 : Int32) (o1 : Int64) (o2 : dS), kU q p1 = some (o1, o2) → Met l yX10_sumOf wsX10_sumOf ({ frames := 12 + 3 * nU, cells := 0, slots := 0, locals := 400 + 75 * nU } : Room) (va_Pc [.ref (ad 0), .int p1] (kz_pre D ty eo (w10 ty ad q) sz)) (va_Ql (fun (r : Int64) (u : va_W) => o1 = r ∧ w10 ty ad o2 = u) (kz_B D ty (va_A (w10 ty ad q) sz)) (va_A (w10 ty ad q) sz)) 0 0 (va_A (w10 ty ad q) sz)) (C : dc_C p s m args meth c cX10_partOf (some .long) 4 RX10 wsX10_partOf D ty eo A)   (q : dS)  (H : Heap) (locs : List Loc) (ls : Array Slot) (h : zX10_partOf_105 kU  q = some (o1, o2)) (hP : va_P D vwCl (w10 ty ad q) H) (hD : va_D A (w10 ty ad q)) (hS : va_S A s.heap H locs) (hl : lv_has ls 4 []) : W p l e ({ frames := 12 + 3 * nU + 1, cells := 0, slots := 0, locals := 400 + 75 * nU + 26 } : Room) s m args below meth c H locs 0 0 (MQ below (va_Ql (fun (r : Int64) (u : va_W) => o1 = r ∧ w10 ty ad o2 = u) (kz_B D ty A) A) args s 0 0 A) (F0 m 105 ls []) := by
  have C0 := C
  obtain ⟨hx, hb, hr, hts, hown, hlocks, hml, hK, hN, hE, hA⟩ := C
  unfold zX10_partOf_105 at h
  refine lv_lconst (v := 0) hx hb dX10_partOf_105 (by decide) ?_
  cases h
  exact kz_lret hx hb hr hlocks hP hK hD hS dX10_partOf_106 ⟨rfl, rfl⟩
set_option maxHeartbeats 4000000 in
set_option maxRecDepth 100000 in
theorem WX10_partOf_94 {p : Program} {l : Launch} {e : Env} {s : State} {m : MethodId} {args : Array Value} {below : List Frame} {meth : Method} {c : Code} {D : va_G} {ty : Nat → ClassId} {eo : Nat → Nat} {A : Nat → Prop} {ad : Nat → Nat} {o1 : Int64} {o2 : dS} {kU : dS → Int32 → Option (Int64 × dS)} {nU : Nat} (hkU : ∀ (sz : Nat) (q : dS) (p1 : Int32) (o1 : Int64) (o2 : dS), kU q p1 = some (o1, o2) → Met l yX10_sumOf wsX10_sumOf ({ frames := 12 + 3 * nU, cells := 0, slots := 0, locals := 400 + 75 * nU } : Room) (va_Pc [.ref (ad 0), .int p1] (kz_pre D ty eo (w10 ty ad q) sz)) (va_Ql (fun (r : Int64) (u : va_W) => o1 = r ∧ w10 ty ad o2 = u) (kz_B D ty (va_A (w10 ty ad q) sz)) (va_A (w10 ty ad q) sz)) 0 0 (va_A (w10 ty ad q) sz)) (C : dc_C p s m args meth c cX10_partOf (some .long) 4 RX10 wsX10_partOf D ty eo A)   (q : dS) (x1 : Int32) (x2 : Int32) (x3 : Int32) (H : Heap) (locs : List Loc) (ls : Array Slot) (h : zX10_partOf_94 kU  q x1 x2 x3 = some (o1, o2)) (hP : va_P D vwCl (w10 ty ad q) H) (hD : va_D A (w10 ty ad q)) (hS : va_S A s.heap H locs) (hl : lv_has ls 4 [(0, .ref (ad 0)), (1, .int x1), (2, .int x2), (3, .int x3)]) : W p l e ({ frames := 12 + 3 * nU + 1, cells := 0, slots := 0, locals := 400 + 75 * nU + 26 } : Room) s m args below meth c H locs 0 0 (MQ below (va_Ql (fun (r : Int64) (u : va_W) => o1 = r ∧ w10 ty ad o2 = u) (kz_B D ty A) A) args s 0 0 A) (F0 m 94 ls []) := by
  have C0 := C
  obtain ⟨hx, hb, hr, hts, hown, hlocks, hml, hK, hN, hE, hA⟩ := C
  unfold zX10_partOf_94 at h
  refine lv_iload_n hx hb dX10_partOf_94 rfl (lv_at hl 1 rfl) ?_
  refine lv_if_eq (tgt := 105) hx hb dX10_partOf_95 (by decide) (fun c9 => ?_) (fun c9 => ?_)
  · rw [if_pos c9] at h
    exact WX10_partOf_105 hkU C0  _ _ _ _ h hP hD hS (lv_sub hl [] rfl)
  · rw [if_neg c9] at h
    refine lv_aload_n hx hb dX10_partOf_98 rfl (lv_at hl 0 rfl) ?_
    refine va_get (D := D) (ci := 10) (v := .int (q.1 0 24)) (C := RX10) (T := TX10) (N := 56) hx hb hts u9_wsX10_partOf_X10 hown hK hP 0 rfl rfl 24 (by decide) (hts (.fieldLink RX10 288 "TurnedFloorsModel" "broken" "Z") f9_wsX10_partOf_47) (fun _ h9 => h9) rfl dX10_partOf_99 ?_
    refine lv_if_eq (tgt := 107) hx hb dX10_partOf_102 (by decide) (fun c9 => ?_) (fun c9 => ?_)
    · rw [if_pos c9] at h
      refine lv_iload_n hx hb dX10_partOf_107 rfl (lv_at hl 2 rfl) ?_
      refine lv_bipush (v := 50) hx hb dX10_partOf_108 (by decide) ?_
      refine lv_icmp_ne (tgt := 130) hx hb dX10_partOf_110 (by decide) (fun c9 => ?_) (fun c9 => ?_)
      · rw [if_neg c9] at h
        refine lv_aload_n hx hb dX10_partOf_130 rfl (lv_at hl 0 rfl) ?_
        refine va_get (D := D) (ci := 10) (v := .int (q.1 0 25)) (C := RX10) (T := TX10) (N := 56) hx hb hts u9_wsX10_partOf_X10 hown hK hP 0 rfl rfl 25 (by decide) (hts (.fieldLink RX10 308 "TurnedFloorsModel" "inOrders" "Z") f9_wsX10_partOf_48) (fun _ h9 => h9) rfl dX10_partOf_131 ?_
        refine lv_if_eq (tgt := 147) hx hb dX10_partOf_134 (by decide) (fun c9 => ?_) (fun c9 => ?_)
        · rw [if_pos c9] at h
          refine lv_aload_n hx hb dX10_partOf_147 rfl (lv_at hl 0 rfl) ?_
          refine va_get (D := D) (ci := 10) (v := .ref (ad 12)) (C := RX10) (T := TX10) (N := 56) hx hb hts u9_wsX10_partOf_X10 hown hK hP 0 rfl rfl 26 (by decide) (hts (.fieldLink RX10 63 "TurnedFloorsModel" "asked" "[I") f9_wsX10_partOf_49) (fun _ h9 => h9) rfl dX10_partOf_148 ?_
          refine lv_iload_n hx hb dX10_partOf_151 rfl (lv_at hl 2 rfl) ?_
          refine lv_bipush (v := 8) hx hb dX10_partOf_152 (by decide) ?_
          refine lv_isub hx hb dX10_partOf_154 ?_
          obtain ⟨g1, h⟩ := dG_some h
          refine va_iald hx hb hK hP 12 0 rfl rfl (dg_in g1) dX10_partOf_155 ?_
          obtain ⟨v2, ev2, h⟩ := dL_some h
          refine kz_topi v2 ev2 ?_
          refine lv_i2l (v := Int32.toInt64 v2) hx hb dX10_partOf_156 rfl ?_
          exact WX10_partOf_157 hkU C0  _ _ _ _ _ h hP hD hS (lv_sub hl [] rfl)
        · rw [if_neg c9] at h
          refine lv_aload_n hx hb dX10_partOf_137 rfl (lv_at hl 0 rfl) ?_
          refine lv_iload_n hx hb dX10_partOf_138 rfl (lv_at hl 2 rfl) ?_
          refine lv_iload_n hx hb dX10_partOf_139 rfl (lv_at hl 3 rfl) ?_
          obtain ⟨r3, q5, h4, h⟩ := dB_some h
          refine dw_ki (va_runV (As := [.int x2, .int x3]) (rest := []) ⟨hx, hb, hml, hown, hts⟩ (qX10_orderValue l D ty eo _ ad q x2 x3 r3 q5 h4) (cwV 2 hts gX10_partOf_X10_orderValue rfl rfl rfl hd_X10_orderValue_v ⟨by dsimp only [headSpec]; omega, by dsimp only [headSpec]; omega⟩) (pv10_10_0 hK hN hE hP hD hS hA) rfl rfl hl.1 rfl (lv_room (Nat.le_of_ble_eq_true rfl)) dX10_partOf_140 ⟨Nat.le_of_ble_eq_true rfl, Nat.le_of_ble_eq_true rfl⟩) hD hS hA (fun r9 u9 H locs hw hp hd hs => ?_)
          clear hP hD hS
          obtain ⟨rfl, rfl⟩ := hw
          have hP := hp; have hD := hd; have hS := hs; clear hp hd hs
          refine lv_i2l (v := Int32.toInt64 r3) hx hb dX10_partOf_143 rfl ?_
          refine lv_goto (tgt := 157) hx hb dX10_partOf_144 (by decide) ?_
          exact WX10_partOf_157 hkU C0  _ _ _ _ _ h hP hD hS (lv_sub hl [] rfl)
      · rw [if_pos c9] at h
        refine lv_aload_n hx hb dX10_partOf_113 rfl (lv_at hl 0 rfl) ?_
        refine va_get (D := D) (ci := 10) (v := .ref (ad 2)) (C := RX10) (T := TX10) (N := 56) hx hb hts u9_wsX10_partOf_X10 hown hK hP 0 rfl rfl 2 (by decide) (hts (.fieldLink RX10 28 "TurnedFloorsModel" "kept" "[I") f9_wsX10_partOf_50) (fun _ h9 => h9) rfl dX10_partOf_114 ?_
        refine lv_sipush (v := 2840) hx hb dX10_partOf_117 (by decide) ?_
        refine lv_aload_n hx hb dX10_partOf_120 rfl (lv_at hl 0 rfl) ?_
        refine va_get (D := D) (ci := 10) (v := .int (q.1 0 22)) (C := RX10) (T := TX10) (N := 56) hx hb hts u9_wsX10_partOf_X10 hown hK hP 0 rfl rfl 22 (by decide) (hts (.fieldLink RX10 278 "TurnedFloorsModel" "go" "I") f9_wsX10_partOf_51) (fun _ h9 => h9) rfl dX10_partOf_121 ?_
        refine lv_iadd hx hb dX10_partOf_124 ?_
        refine lv_iconst (v := 1) hx hb dX10_partOf_125 (by decide) ?_
        refine lv_isub hx hb dX10_partOf_126 ?_
        obtain ⟨g6, h⟩ := dG_some h
        refine va_iald hx hb hK hP 2 0 rfl rfl (dg_in g6) dX10_partOf_127 ?_
        obtain ⟨v7, ev7, h⟩ := dL_some h
        refine kz_topi v7 ev7 ?_
        refine lv_i2l (v := Int32.toInt64 v7) hx hb dX10_partOf_128 rfl ?_
        cases h
        exact kz_lret hx hb hr hlocks hP hK hD hS dX10_partOf_129 ⟨rfl, rfl⟩
    · rw [if_neg c9] at h
      exact WX10_partOf_105 hkU C0  _ _ _ _ h hP hD hS (lv_sub hl [] rfl)
set_option maxHeartbeats 4000000 in
set_option maxRecDepth 100000 in
theorem WX10_partOf_70 {p : Program} {l : Launch} {e : Env} {s : State} {m : MethodId} {args : Array Value} {below : List Frame} {meth : Method} {c : Code} {D : va_G} {ty : Nat → ClassId} {eo : Nat → Nat} {A : Nat → Prop} {ad : Nat → Nat} {o1 : Int64} {o2 : dS} {kU : dS → Int32 → Option (Int64 × dS)} {nU : Nat} (hkU : ∀ (sz : Nat) (q : dS) (p1 : Int32) (o1 : Int64) (o2 : dS), kU q p1 = some (o1, o2) → Met l yX10_sumOf wsX10_sumOf ({ frames := 12 + 3 * nU, cells := 0, slots := 0, locals := 400 + 75 * nU } : Room) (va_Pc [.ref (ad 0), .int p1] (kz_pre D ty eo (w10 ty ad q) sz)) (va_Ql (fun (r : Int64) (u : va_W) => o1 = r ∧ w10 ty ad o2 = u) (kz_B D ty (va_A (w10 ty ad q) sz)) (va_A (w10 ty ad q) sz)) 0 0 (va_A (w10 ty ad q) sz)) (C : dc_C p s m args meth c cX10_partOf (some .long) 4 RX10 wsX10_partOf D ty eo A)   (q : dS) (x1 : Int32) (x2 : Int32) (H : Heap) (locs : List Loc) (ls : Array Slot) (h : zX10_partOf_70 kU  q x1 x2 = some (o1, o2)) (hP : va_P D vwCl (w10 ty ad q) H) (hD : va_D A (w10 ty ad q)) (hS : va_S A s.heap H locs) (hl : lv_has ls 4 [(0, .ref (ad 0)), (1, .int x1), (2, .int x2)]) : W p l e ({ frames := 12 + 3 * nU + 1, cells := 0, slots := 0, locals := 400 + 75 * nU + 26 } : Room) s m args below meth c H locs 0 0 (MQ below (va_Ql (fun (r : Int64) (u : va_W) => o1 = r ∧ w10 ty ad o2 = u) (kz_B D ty A) A) args s 0 0 A) (F0 m 70 ls []) := by
  have C0 := C
  obtain ⟨hx, hb, hr, hts, hown, hlocks, hml, hK, hN, hE, hA⟩ := C
  unfold zX10_partOf_70 at h
  refine lv_aload_n hx hb dX10_partOf_70 rfl (lv_at hl 0 rfl) ?_
  refine va_get (D := D) (ci := 10) (v := .ref (ad 2)) (C := RX10) (T := TX10) (N := 56) hx hb hts u9_wsX10_partOf_X10 hown hK hP 0 rfl rfl 2 (by decide) (hts (.fieldLink RX10 28 "TurnedFloorsModel" "kept" "[I") f9_wsX10_partOf_50) (fun _ h9 => h9) rfl dX10_partOf_71 ?_
  refine lv_sipush (v := 2840) hx hb dX10_partOf_74 (by decide) ?_
  refine lv_aload_n hx hb dX10_partOf_77 rfl (lv_at hl 0 rfl) ?_
  refine va_get (D := D) (ci := 10) (v := .int (q.1 0 22)) (C := RX10) (T := TX10) (N := 56) hx hb hts u9_wsX10_partOf_X10 hown hK hP 0 rfl rfl 22 (by decide) (hts (.fieldLink RX10 278 "TurnedFloorsModel" "go" "I") f9_wsX10_partOf_51) (fun _ h9 => h9) rfl dX10_partOf_78 ?_
  refine lv_iadd hx hb dX10_partOf_81 ?_
  obtain ⟨g1, h⟩ := dG_some h
  refine va_iald hx hb hK hP 2 0 rfl rfl (dg_in g1) dX10_partOf_82 ?_
  obtain ⟨v2, ev2, h⟩ := dL_some h
  refine kz_topi v2 ev2 ?_
  refine lv_istore_n (lv' := [(3, .int v2), (0, .ref (ad 0)), (1, .int x1), (2, .int x2)]) hx hb dX10_partOf_83 rfl hl (by decide) rfl (fun ls hl => ?_)
  refine lv_aload_n hx hb dX10_partOf_84 rfl (lv_at hl 1 rfl) ?_
  refine lv_dup hx hb dX10_partOf_85 rfl ?_
  refine va_get (D := D) (ci := 10) (v := .int (q.1 0 22)) (C := RX10) (T := TX10) (N := 56) hx hb hts u9_wsX10_partOf_X10 hown hK hP 0 rfl rfl 22 (by decide) (hts (.fieldLink RX10 278 "TurnedFloorsModel" "go" "I") f9_wsX10_partOf_51) (fun _ h9 => h9) rfl dX10_partOf_86 ?_
  refine lv_iconst (v := 1) hx hb dX10_partOf_89 (by decide) ?_
  refine lv_iadd hx hb dX10_partOf_90 ?_
  refine va_put (D := D) (ci := 10) (v := .int ((q.1 0 22) + 1 : Int32)) (ty := .int) (C := RX10) (T := TX10) (N := 56) hx hb hts u9_wsX10_partOf_X10 tyX10 tyX10_ok nmX10 hown hK hP hD hS 0 rfl rfl 22 (by decide) (hts (.fieldLink RX10 278 "TurnedFloorsModel" "go" "I") f9_wsX10_partOf_51) (fun _ h9 => h9) rfl (by decide +kernel) rfl rfl (Nat.le_of_ble_eq_true rfl) dX10_partOf_91 (fun H locs hp hd hs => ?_)
  obtain ⟨q3, eq3, h⟩ := dL_some h
  refine kz_re (w2 := w10 ty ad q3) hp hd hs (by rw [← eq3]; exact w10_f22 ty ad q ((q.1 0 22) + 1 : Int32)) ?_
  clear hp hd hs hP hD hS
  intro hP hD hS
  exact WX10_partOf_94 hkU C0  _ _ _ _ _ _ _ h hP hD hS (lv_sub hl [1, 2, 3, 0] rfl)
set_option maxHeartbeats 4000000 in
set_option maxRecDepth 100000 in
theorem qX10_partOf (l : Launch) (D : va_G) (ty : Nat → ClassId) (eo : Nat → Nat) (sz : Nat) (ad : Nat → Nat) (kU : dS → Int32 → Option (Int64 × dS)) (nU : Nat) (hkU : ∀ (sz : Nat) (q : dS) (p1 : Int32) (o1 : Int64) (o2 : dS), kU q p1 = some (o1, o2) → Met l yX10_sumOf wsX10_sumOf ({ frames := 12 + 3 * nU, cells := 0, slots := 0, locals := 400 + 75 * nU } : Room) (va_Pc [.ref (ad 0), .int p1] (kz_pre D ty eo (w10 ty ad q) sz)) (va_Ql (fun (r : Int64) (u : va_W) => o1 = r ∧ w10 ty ad o2 = u) (kz_B D ty (va_A (w10 ty ad q) sz)) (va_A (w10 ty ad q) sz)) 0 0 (va_A (w10 ty ad q) sz)) (q : dS) (p1 : Int32) (o1 : Int64) (o2 : dS) (h : zX10_partOf kU q p1 = some (o1, o2)) : Met l yX10_partOf wsX10_partOf ({ frames := 12 + 3 * nU + 1, cells := 0, slots := 0, locals := 400 + 75 * nU + 26 } : Room) (va_Pc [.ref (ad 0), .int p1] (kz_pre D ty eo (w10 ty ad q) sz)) (va_Ql (fun (r : Int64) (u : va_W) => o1 = r ∧ w10 ty ad o2 = u) (kz_B D ty (va_A (w10 ty ad q) sz)) (va_A (w10 ty ad q) sz)) 0 0 (va_A (w10 ty ad q) sz) := by
  refine Met.ofW (cc := cX10_partOf) (maxL := 4) (ret := (some .long)) (by decide) rfl ?_
  intro p e s m args below meth c s₁ B hml hv
  obtain ⟨rfl, hsz, hP, hK, hD0, hN, hE⟩ := hv
  have hx := B.exec
  have hb := B.bytes
  have hr := B.returns
  have hts := atoms_spec (ws := wsX10_partOf) B.pre
  have hown : s.vm.findClass RX10 = some m.cls := findClass_of_methodNamed B.named
  have hlocks := B.notSynchronized
  subst hsz
  have hD := hD0.self (sz := s.heap.size)
  generalize hAe : va_A (w10 ty ad q) s.heap.size = A at hD hE ⊢
  have hA : ∀ q : Nat, s.heap.size ≤ q → A q := fun q h => by rw [← hAe]; exact Or.inr h
  clear hAe
  have hS : va_S A s.heap s.heap [] := va_S.rf
  have hl := lv_entry ([.ref (ad 0), .int p1]) (n := 4) (Nat.le_of_ble_eq_true rfl)
  rw [lg_entry_eq]
  generalize (lg_sl ([.ref (ad 0), .int p1]) ++ List.replicate (4 - (lg_sl ([.ref (ad 0), .int p1])).length) Slot.unset).toArray = ls at hl ⊢
  have hl : lv_has ls 4 [(0, .ref (ad 0)), (1, .int p1)] := hl
  have C : dc_C p s m _ meth c cX10_partOf (some .long) 4 RX10 wsX10_partOf D ty eo A := ⟨hx, hb, hr, hts, hown, hlocks, hml, hK, hN, hE, hA⟩
  unfold zX10_partOf at h
  refine lv_aload_n hx hb dX10_partOf_0 rfl (lv_at hl 0 rfl) ?_
  refine lv_bipush (v := 91) hx hb dX10_partOf_1 (by decide) ?_
  obtain ⟨r1, h2, h⟩ := dV_some h
  refine dw_ks (va_runS (As := [.int 91]) (rest := [.ref (ad 0)]) ⟨hx, hb, hml, hown, hts⟩ (qX10_sign l D ty eo _ 91 _ h2) (va_cwS 1 hts gX10_partOf_X10_sign rfl rfl rfl hd_X10_sign ⟨by dsimp only [headSpec]; omega, by dsimp only [headSpec]; omega⟩) (pvS_0 hK hN hE hP hD hS hA) rfl rfl hl.1 rfl (lv_room (Nat.le_of_ble_eq_true rfl)) dX10_partOf_3 ⟨Nat.le_of_ble_eq_true rfl, Nat.le_of_ble_eq_true rfl⟩) hP hD hS hA (fun _ _ h9 => h9.2.symm) (fun r9 u9 H locs hw hp hd hs => ?_)
  obtain ⟨rfl, -⟩ := hw
  clear hP hD hS
  have hP := hp; have hD := hd; have hS := hs; clear hp hd hs
  obtain ⟨r3, q5, h4, h⟩ := dB_some h
  refine dw_ki (va_runV (As := [.int r1]) (rest := []) ⟨hx, hb, hml, hown, hts⟩ (qX10_passes0 l D ty eo _ ad q r1 r3 q5 h4) (cwV 1 hts gX10_partOf_X10_passes0 rfl rfl rfl hd_X10_passes0_v ⟨by dsimp only [headSpec]; omega, by dsimp only [headSpec]; omega⟩) (pv10_10_0 hK hN hE hP hD hS hA) rfl rfl hl.1 rfl (lv_room (Nat.le_of_ble_eq_true rfl)) dX10_partOf_6 ⟨Nat.le_of_ble_eq_true rfl, Nat.le_of_ble_eq_true rfl⟩) hD hS hA (fun r9 u9 H locs hw hp hd hs => ?_)
  clear hP hD hS
  obtain ⟨rfl, rfl⟩ := hw
  have hP := hp; have hD := hd; have hS := hs; clear hp hd hs
  refine lv_if_eq (tgt := 30) hx hb dX10_partOf_9 (by decide) (fun c9 => ?_) (fun c9 => ?_)
  · rw [if_pos c9] at h
    refine lv_aload_n hx hb dX10_partOf_30 rfl (lv_at hl 0 rfl) ?_
    refine lv_aload_n hx hb dX10_partOf_31 rfl (lv_at hl 0 rfl) ?_
    refine va_get (D := D) (ci := 10) (v := .int (q5.1 0 22)) (C := RX10) (T := TX10) (N := 56) hx hb hts (by decide +kernel) hown hK hP 0 rfl rfl 22 (by decide) (hts (.fieldLink RX10 278 "TurnedFloorsModel" "go" "I") (by decide +kernel)) (fun _ h9 => h9) rfl dX10_partOf_32 ?_
    obtain ⟨r6, q8, h7, h⟩ := dB_some h
    refine dw_ki (va_runV (As := [.int (q5.1 0 22)]) (rest := []) ⟨hx, hb, hml, hown, hts⟩ (qX10_codeAt l D ty eo _ ad q5 (q5.1 0 22) r6 q8 h7) (cwV 1 hts gX10_partOf_X10_codeAt rfl rfl rfl hd_X10_codeAt_v ⟨by dsimp only [headSpec]; omega, by dsimp only [headSpec]; omega⟩) (pv10_10_0 hK hN hE hP hD hS hA) rfl rfl hl.1 rfl (lv_room (Nat.le_of_ble_eq_true rfl)) dX10_partOf_35 ⟨Nat.le_of_ble_eq_true rfl, Nat.le_of_ble_eq_true rfl⟩) hD hS hA (fun r9 u9 H locs hw hp hd hs => ?_)
    clear hP hD hS
    obtain ⟨rfl, rfl⟩ := hw
    have hP := hp; have hD := hd; have hS := hs; clear hp hd hs
    refine lv_istore_n (lv' := [(2, .int r6), (0, .ref (ad 0)), (1, .int p1)]) hx hb dX10_partOf_38 rfl hl (by decide) rfl (fun ls hl => ?_)
    refine lv_iconst (v := 0) hx hb dX10_partOf_39 (by decide) ?_
    refine lv_istore_n (lv' := [(3, .int 0), (2, .int r6), (0, .ref (ad 0)), (1, .int p1)]) hx hb dX10_partOf_40 rfl hl (by decide) rfl (fun ls hl => ?_)
    refine lv_aload_n hx hb dX10_partOf_41 rfl (lv_at hl 2 rfl) ?_
    refine lv_dup hx hb dX10_partOf_42 rfl ?_
    refine va_get (D := D) (ci := 10) (v := .int (q8.1 0 22)) (C := RX10) (T := TX10) (N := 56) hx hb hts (by decide +kernel) hown hK hP 0 rfl rfl 22 (by decide) (hts (.fieldLink RX10 278 "TurnedFloorsModel" "go" "I") (by decide +kernel)) (fun _ h9 => h9) rfl dX10_partOf_43 ?_
    refine lv_iconst (v := 1) hx hb dX10_partOf_46 (by decide) ?_
    refine lv_iadd hx hb dX10_partOf_47 ?_
    refine va_put (D := D) (ci := 10) (v := .int ((q8.1 0 22) + 1 : Int32)) (ty := .int) (C := RX10) (T := TX10) (N := 56) hx hb hts (by decide +kernel) tyX10 tyX10_ok nmX10 hown hK hP hD hS 0 rfl rfl 22 (by decide) (hts (.fieldLink RX10 278 "TurnedFloorsModel" "go" "I") (by decide +kernel)) (fun _ h9 => h9) rfl (by decide +kernel) rfl rfl (Nat.le_of_ble_eq_true rfl) dX10_partOf_48 (fun H locs hp hd hs => ?_)
    obtain ⟨q9, eq9, h⟩ := dL_some h
    refine kz_re (w2 := w10 ty ad q9) hp hd hs (by rw [← eq9]; exact w10_f22 ty ad q8 ((q8.1 0 22) + 1 : Int32)) ?_
    clear hp hd hs hP hD hS
    intro hP hD hS
    refine lv_aload_n hx hb dX10_partOf_51 rfl (lv_at hl 2 rfl) ?_
    refine va_get (D := D) (ci := 10) (v := .int (q9.1 0 25)) (C := RX10) (T := TX10) (N := 56) hx hb hts (by decide +kernel) hown hK hP 0 rfl rfl 25 (by decide) (hts (.fieldLink RX10 308 "TurnedFloorsModel" "inOrders" "Z") (by decide +kernel)) (fun _ h9 => h9) rfl dX10_partOf_52 ?_
    refine lv_if_eq (tgt := 94) hx hb dX10_partOf_55 (by decide) (fun c9 => ?_) (fun c9 => ?_)
    · rw [if_pos c9] at h
      exact WX10_partOf_94 hkU C  _ _ _ _ _ _ _ h hP hD hS (lv_sub hl [2, 3, 1, 0] rfl)
    · rw [if_neg c9] at h
      refine lv_iload_n hx hb dX10_partOf_58 rfl (lv_at hl 1 rfl) ?_
      refine lv_bipush (v := 21) hx hb dX10_partOf_59 (by decide) ?_
      refine lv_icmp_eq (tgt := 70) hx hb dX10_partOf_61 (by decide) (fun c9 => ?_) (fun c9 => ?_)
      · rw [if_pos c9] at h
        exact WX10_partOf_70 hkU C  _ _ _ _ _ _ h hP hD hS (lv_sub hl [2, 3, 1] rfl)
      · rw [if_neg c9] at h
        refine lv_iload_n hx hb dX10_partOf_64 rfl (lv_at hl 1 rfl) ?_
        refine lv_bipush (v := 15) hx hb dX10_partOf_65 (by decide) ?_
        refine lv_icmp_ne (tgt := 94) hx hb dX10_partOf_67 (by decide) (fun c9 => ?_) (fun c9 => ?_)
        · rw [if_neg c9] at h
          exact WX10_partOf_94 hkU C  _ _ _ _ _ _ _ h hP hD hS (lv_sub hl [2, 3, 1, 0] rfl)
        · rw [if_pos c9] at h
          exact WX10_partOf_70 hkU C  _ _ _ _ _ _ h hP hD hS (lv_sub hl [2, 3, 1] rfl)
  · rw [if_neg c9] at h
    refine lv_aload_n hx hb dX10_partOf_12 rfl (lv_at hl 0 rfl) ?_
    refine lv_iload_n hx hb dX10_partOf_13 rfl (lv_at hl 1 rfl) ?_
    obtain ⟨r10, q12, h11, h⟩ := dB_some h
    refine dw_kl (va_runV (As := [.int p1]) (rest := []) ⟨hx, hb, hml, hown, hts⟩ (hkU _ q5 p1 r10 q12 h11) (cwV 1 hts gX10_partOf_X10_sumOf rfl rfl rfl hd_X10_sumOf_v ⟨by dsimp only [headSpec]; omega, by dsimp only [headSpec]; omega⟩) (pv10_10_0 hK hN hE hP hD hS hA) rfl rfl hl.1 rfl (lv_room (Nat.le_of_ble_eq_true rfl)) dX10_partOf_14 ⟨Nat.le_of_ble_eq_true rfl, Nat.le_of_ble_eq_true rfl⟩) hD hS hA (fun r9 u9 H locs hw hp hd hs => ?_)
    clear hP hD hS
    obtain ⟨rfl, rfl⟩ := hw
    have hP := hp; have hD := hd; have hS := hs; clear hp hd hs
    refine lv_lstore_n (lv' := [(2, .long r10), (0, .ref (ad 0)), (1, .int p1)]) hx hb dX10_partOf_17 rfl hl (by decide) rfl (fun ls hl => ?_)
    refine lv_aload_n hx hb dX10_partOf_18 rfl (lv_at hl 1 rfl) ?_
    refine lv_dup hx hb dX10_partOf_19 rfl ?_
    refine va_get (D := D) (ci := 10) (v := .int (q12.1 0 22)) (C := RX10) (T := TX10) (N := 56) hx hb hts (by decide +kernel) hown hK hP 0 rfl rfl 22 (by decide) (hts (.fieldLink RX10 278 "TurnedFloorsModel" "go" "I") (by decide +kernel)) (fun _ h9 => h9) rfl dX10_partOf_20 ?_
    refine lv_iconst (v := 1) hx hb dX10_partOf_23 (by decide) ?_
    refine lv_iadd hx hb dX10_partOf_24 ?_
    refine va_put (D := D) (ci := 10) (v := .int ((q12.1 0 22) + 1 : Int32)) (ty := .int) (C := RX10) (T := TX10) (N := 56) hx hb hts (by decide +kernel) tyX10 tyX10_ok nmX10 hown hK hP hD hS 0 rfl rfl 22 (by decide) (hts (.fieldLink RX10 278 "TurnedFloorsModel" "go" "I") (by decide +kernel)) (fun _ h9 => h9) rfl (by decide +kernel) rfl rfl (Nat.le_of_ble_eq_true rfl) dX10_partOf_25 (fun H locs hp hd hs => ?_)
    obtain ⟨q13, eq13, h⟩ := dL_some h
    refine kz_re (w2 := w10 ty ad q13) hp hd hs (by rw [← eq13]; exact w10_f22 ty ad q12 ((q12.1 0 22) + 1 : Int32)) ?_
    clear hp hd hs hP hD hS
    intro hP hD hS
    refine lv_lload_n hx hb dX10_partOf_28 rfl (lv_at hl 0 rfl) ?_
    cases h
    exact kz_lret hx hb hr hlocks hP hK hD hS dX10_partOf_29 ⟨rfl, rfl⟩

set_option maxHeartbeats 4000000 in
set_option maxRecDepth 100000 in
theorem WX10_bounded_37 {p : Program} {l : Launch} {e : Env} {s : State} {m : MethodId} {args : Array Value} {below : List Frame} {meth : Method} {c : Code} {D : va_G} {ty : Nat → ClassId} {eo : Nat → Nat} {A : Nat → Prop} {ad : Nat → Nat} {o1 : Int64} {o2 : dS} (C : dc_C p s m args meth c cX10_bounded (some .long) 4 RX10 wsX10_bounded D ty eo A)   (q : dS) (y0 : Int64) (H : Heap) (locs : List Loc) (ls : Array Slot) (h : zX10_bounded_37  q y0 = some (o1, o2)) (hP : va_P D vwCl (w10 ty ad q) H) (hD : va_D A (w10 ty ad q)) (hS : va_S A s.heap H locs) (hl : lv_has ls 4 []) : W p l e ({ frames := 0, cells := 0, slots := 0, locals := 0 } : Room) s m args below meth c H locs 0 0 (MQ below (va_Ql (fun (r : Int64) (u : va_W) => o1 = r ∧ w10 ty ad o2 = u) (kz_B D ty A) A) args s 0 0 A) (F0 m 37 ls [.long y0]) := by
  have C0 := C
  obtain ⟨hx, hb, hr, hts, hown, hlocks, hml, hK, hN, hE, hA⟩ := C
  unfold zX10_bounded_37 at h
  cases h
  exact kz_lret hx hb hr hlocks hP hK hD hS dX10_bounded_37 ⟨rfl, rfl⟩
set_option maxHeartbeats 4000000 in
set_option maxRecDepth 100000 in
theorem WX10_bounded_25 {p : Program} {l : Launch} {e : Env} {s : State} {m : MethodId} {args : Array Value} {below : List Frame} {meth : Method} {c : Code} {D : va_G} {ty : Nat → ClassId} {eo : Nat → Nat} {A : Nat → Prop} {ad : Nat → Nat} {o1 : Int64} {o2 : dS} (C : dc_C p s m args meth c cX10_bounded (some .long) 4 RX10 wsX10_bounded D ty eo A)   (q : dS) (x1 : Int64) (H : Heap) (locs : List Loc) (ls : Array Slot) (h : zX10_bounded_25  q x1 = some (o1, o2)) (hP : va_P D vwCl (w10 ty ad q) H) (hD : va_D A (w10 ty ad q)) (hS : va_S A s.heap H locs) (hl : lv_has ls 4 [(0, .ref (ad 0)), (1, .long x1)]) : W p l e ({ frames := 0, cells := 0, slots := 0, locals := 0 } : Room) s m args below meth c H locs 0 0 (MQ below (va_Ql (fun (r : Int64) (u : va_W) => o1 = r ∧ w10 ty ad o2 = u) (kz_B D ty A) A) args s 0 0 A) (F0 m 25 ls []) := by
  have C0 := C
  obtain ⟨hx, hb, hr, hts, hown, hlocks, hml, hK, hN, hE, hA⟩ := C
  unfold zX10_bounded_25 at h
  refine lv_aload_n hx hb dX10_bounded_25 rfl (lv_at hl 0 rfl) ?_
  refine va_get (D := D) (ci := 10) (v := .int (q.1 0 24)) (C := RX10) (T := TX10) (N := 56) hx hb hts u9_wsX10_bounded_X10 hown hK hP 0 rfl rfl 24 (by decide) (hts (.fieldLink RX10 288 "TurnedFloorsModel" "broken" "Z") f9_wsX10_bounded_53) (fun _ h9 => h9) rfl dX10_bounded_26 ?_
  refine lv_if_eq (tgt := 36) hx hb dX10_bounded_29 (by decide) (fun c9 => ?_) (fun c9 => ?_)
  · rw [if_pos c9] at h
    refine lv_lload_n hx hb dX10_bounded_36 rfl (lv_at hl 1 rfl) ?_
    exact WX10_bounded_37 C0  _ _ _ _ _ h hP hD hS (lv_sub hl [] rfl)
  · rw [if_neg c9] at h
    refine lv_lconst (v := 0) hx hb dX10_bounded_32 (by decide) ?_
    refine lv_goto (tgt := 37) hx hb dX10_bounded_33 (by decide) ?_
    exact WX10_bounded_37 C0  _ _ _ _ _ h hP hD hS (lv_sub hl [] rfl)
set_option maxHeartbeats 4000000 in
set_option maxRecDepth 100000 in
theorem WX10_bounded_20 {p : Program} {l : Launch} {e : Env} {s : State} {m : MethodId} {args : Array Value} {below : List Frame} {meth : Method} {c : Code} {D : va_G} {ty : Nat → ClassId} {eo : Nat → Nat} {A : Nat → Prop} {ad : Nat → Nat} {o1 : Int64} {o2 : dS} (C : dc_C p s m args meth c cX10_bounded (some .long) 4 RX10 wsX10_bounded D ty eo A)   (q : dS) (x1 : Int64) (H : Heap) (locs : List Loc) (ls : Array Slot) (h : zX10_bounded_20  q x1 = some (o1, o2)) (hP : va_P D vwCl (w10 ty ad q) H) (hD : va_D A (w10 ty ad q)) (hS : va_S A s.heap H locs) (hl : lv_has ls 4 [(0, .ref (ad 0)), (1, .long x1)]) : W p l e ({ frames := 0, cells := 0, slots := 0, locals := 0 } : Room) s m args below meth c H locs 0 0 (MQ below (va_Ql (fun (r : Int64) (u : va_W) => o1 = r ∧ w10 ty ad o2 = u) (kz_B D ty A) A) args s 0 0 A) (F0 m 20 ls []) := by
  have C0 := C
  obtain ⟨hx, hb, hr, hts, hown, hlocks, hml, hK, hN, hE, hA⟩ := C
  unfold zX10_bounded_20 at h
  refine lv_aload_n hx hb dX10_bounded_20 rfl (lv_at hl 0 rfl) ?_
  refine lv_iconst (v := 1) hx hb dX10_bounded_21 (by decide) ?_
  refine va_put (D := D) (ci := 10) (v := .int 1) (ty := .boolean) (C := RX10) (T := TX10) (N := 56) hx hb hts u9_wsX10_bounded_X10 tyX10 tyX10_ok nmX10 hown hK hP hD hS 0 rfl rfl 24 (by decide) (hts (.fieldLink RX10 288 "TurnedFloorsModel" "broken" "Z") f9_wsX10_bounded_53) (fun _ h9 => h9) rfl (by decide +kernel) rfl rfl (Nat.le_of_ble_eq_true rfl) dX10_bounded_22 (fun H locs hp hd hs => ?_)
  obtain ⟨q1, eq1, h⟩ := dL_some h
  refine kz_re (w2 := w10 ty ad q1) hp hd hs (by rw [← eq1]; exact w10_f24 ty ad q 1) ?_
  clear hp hd hs hP hD hS
  intro hP hD hS
  exact WX10_bounded_25 C0  _ _ _ _ _ h hP hD hS (lv_sub hl [0, 1] rfl)
set_option maxHeartbeats 4000000 in
set_option maxRecDepth 100000 in
theorem qX10_bounded (l : Launch) (D : va_G) (ty : Nat → ClassId) (eo : Nat → Nat) (sz : Nat) (ad : Nat → Nat) (q : dS) (p1 : Int64) (p2 : Int32) (o1 : Int64) (o2 : dS) (h : zX10_bounded q p1 p2 = some (o1, o2)) : Met l yX10_bounded wsX10_bounded ({ frames := 0, cells := 0, slots := 0, locals := 0 } : Room) (va_Pc [.ref (ad 0), .long p1, .int p2] (kz_pre D ty eo (w10 ty ad q) sz)) (va_Ql (fun (r : Int64) (u : va_W) => o1 = r ∧ w10 ty ad o2 = u) (kz_B D ty (va_A (w10 ty ad q) sz)) (va_A (w10 ty ad q) sz)) 0 0 (va_A (w10 ty ad q) sz) := by
  refine Met.ofW (cc := cX10_bounded) (maxL := 4) (ret := (some .long)) (by decide) rfl ?_
  intro p e s m args below meth c s₁ B hml hv
  obtain ⟨rfl, hsz, hP, hK, hD0, hN, hE⟩ := hv
  have hx := B.exec
  have hb := B.bytes
  have hr := B.returns
  have hts := atoms_spec (ws := wsX10_bounded) B.pre
  have hown : s.vm.findClass RX10 = some m.cls := findClass_of_methodNamed B.named
  have hlocks := B.notSynchronized
  subst hsz
  have hD := hD0.self (sz := s.heap.size)
  generalize hAe : va_A (w10 ty ad q) s.heap.size = A at hD hE ⊢
  have hA : ∀ q : Nat, s.heap.size ≤ q → A q := fun q h => by rw [← hAe]; exact Or.inr h
  clear hAe
  have hS : va_S A s.heap s.heap [] := va_S.rf
  have hl := lv_entry ([.ref (ad 0), .long p1, .int p2]) (n := 4) (Nat.le_of_ble_eq_true rfl)
  rw [lg_entry_eq]
  generalize (lg_sl ([.ref (ad 0), .long p1, .int p2]) ++ List.replicate (4 - (lg_sl ([.ref (ad 0), .long p1, .int p2])).length) Slot.unset).toArray = ls at hl ⊢
  have hl : lv_has ls 4 [(0, .ref (ad 0)), (1, .long p1), (3, .int p2)] := hl
  have C : dc_C p s m _ meth c cX10_bounded (some .long) 4 RX10 wsX10_bounded D ty eo A := ⟨hx, hb, hr, hts, hown, hlocks, hml, hK, hN, hE, hA⟩
  unfold zX10_bounded at h
  refine lv_iload_n hx hb dX10_bounded_0 rfl (lv_at hl 2 rfl) ?_
  refine lv_if_eq (tgt := 25) hx hb dX10_bounded_1 (by decide) (fun c9 => ?_) (fun c9 => ?_)
  · rw [if_pos c9] at h
    exact WX10_bounded_25 C  _ _ _ _ _ h hP hD hS (lv_sub hl [0, 1] rfl)
  · rw [if_neg c9] at h
    refine lv_lload_n hx hb dX10_bounded_4 rfl (lv_at hl 1 rfl) ?_
    refine lv_ldc2 (v := 1000000000) hx hb hown (hts (.constantLong RX10 284 1000000000) f9_wsX10_bounded_54) dX10_bounded_5 ?_
    refine W.lcmp hx hb dX10_bounded_8 ?_
    refine lv_if_gt (tgt := 20) hx hb dX10_bounded_9 (by decide) (fun c9 => ?_) (fun c9 => ?_)
    · rw [if_pos c9] at h
      exact WX10_bounded_20 C  _ _ _ _ _ h hP hD hS (lv_sub hl [0, 1] rfl)
    · rw [if_neg c9] at h
      refine lv_lload_n hx hb dX10_bounded_12 rfl (lv_at hl 1 rfl) ?_
      refine lv_ldc2 (v := (-1000000000)) hx hb hown (hts (.constantLong RX10 286 (-1000000000)) f9_wsX10_bounded_55) dX10_bounded_13 ?_
      refine W.lcmp hx hb dX10_bounded_16 ?_
      refine lv_if_ge (tgt := 25) hx hb dX10_bounded_17 (by decide) (fun c9 => ?_) (fun c9 => ?_)
      · rw [if_pos c9] at h
        exact WX10_bounded_25 C  _ _ _ _ _ h hP hD hS (lv_sub hl [0, 1] rfl)
      · rw [if_neg c9] at h
        exact WX10_bounded_20 C  _ _ _ _ _ h hP hD hS (lv_sub hl [0, 1] rfl)
end
section
set_option maxRecDepth 20000 in
theorem ggX10_sumOf_X10_termOf : GoodIn wsX10_sumOf wsX10_termOf := wd_c vW10_ok mvW10_107
set_option maxRecDepth 20000 in
theorem gX10_sumOf_X10_termOf : GoodIn wsX10_sumOf (wsV RX10 291 RX10 yX10_termOf wsX10_termOf) := goodIn_app (wd_l vW10_ok _ pvW10_182) ggX10_sumOf_X10_termOf
set_option maxRecDepth 20000 in
theorem ggX10_sumOf_X10_codeAt : GoodIn wsX10_sumOf wsX10_codeAt := wd_c vW10_ok mvW10_71
set_option maxRecDepth 20000 in
theorem gX10_sumOf_X10_codeAt : GoodIn wsX10_sumOf (wsV RX10 281 RX10 yX10_codeAt wsX10_codeAt) := goodIn_app (wd_l vW10_ok _ pvW10_181) ggX10_sumOf_X10_codeAt
set_option maxRecDepth 20000 in
theorem ggX10_sumOf_X10_sign : GoodIn wsX10_sumOf wsX10_sign := wd_c vW10_ok mvW10_81
set_option maxRecDepth 20000 in
theorem gX10_sumOf_X10_sign : GoodIn wsX10_sumOf (va_wsS RX10 237 yX10_sign wsX10_sign) := goodIn_app (wd_l vW10_ok _ pvW10_171) ggX10_sumOf_X10_sign
set_option maxRecDepth 20000 in
theorem ggX10_sumOf_X10_bounded : GoodIn wsX10_sumOf wsX10_bounded := wd_c vW10_ok mvW10_85
set_option maxRecDepth 20000 in
theorem gX10_sumOf_X10_bounded : GoodIn wsX10_sumOf (wsV RX10 295 RX10 yX10_bounded wsX10_bounded) := goodIn_app (wd_l vW10_ok _ pvW10_183) ggX10_sumOf_X10_bounded
theorem da9_dX10_sumOf_0 : (decode cX10_sumOf 0 = .ok (.aload_n 0, 1)) ∧ (decode cX10_sumOf 1 = .ok (.iload_n 1, 1)) ∧ (decode cX10_sumOf 2 = .ok (.invokevirtual 291, 3)) ∧ (decode cX10_sumOf 5 = .ok (.lstore_n 2, 1)) ∧ (decode cX10_sumOf 6 = .ok (.aload_n 0, 1)) ∧ (decode cX10_sumOf 7 = .ok (.aload_n 0, 1)) ∧ (decode cX10_sumOf 8 = .ok (.getfield 278, 3)) ∧ (decode cX10_sumOf 11 = .ok (.invokevirtual 281, 3)) ∧ (decode cX10_sumOf 14 = .ok (.bipush 43, 2)) ∧ (decode cX10_sumOf 16 = .ok (.invokestatic 237, 3)) ∧ (decode cX10_sumOf 19 = .ok (.if_icmp .eq 19, 3)) ∧ (decode cX10_sumOf 22 = .ok (.aload_n 0, 1)) ∧ (decode cX10_sumOf 23 = .ok (.aload_n 0, 1)) ∧ (decode cX10_sumOf 24 = .ok (.getfield 278, 3)) ∧ (decode cX10_sumOf 27 = .ok (.invokevirtual 281, 3)) ∧ (decode cX10_sumOf 30 = .ok (.bipush 45, 2)) := by decide +kernel
theorem dX10_sumOf_0 : decode cX10_sumOf 0 = .ok (.aload_n 0, 1) := da9_dX10_sumOf_0.1
theorem dX10_sumOf_1 : decode cX10_sumOf 1 = .ok (.iload_n 1, 1) := da9_dX10_sumOf_0.2.1
theorem dX10_sumOf_2 : decode cX10_sumOf 2 = .ok (.invokevirtual 291, 3) := da9_dX10_sumOf_0.2.2.1
theorem dX10_sumOf_5 : decode cX10_sumOf 5 = .ok (.lstore_n 2, 1) := da9_dX10_sumOf_0.2.2.2.1
theorem dX10_sumOf_6 : decode cX10_sumOf 6 = .ok (.aload_n 0, 1) := da9_dX10_sumOf_0.2.2.2.2.1
theorem dX10_sumOf_7 : decode cX10_sumOf 7 = .ok (.aload_n 0, 1) := da9_dX10_sumOf_0.2.2.2.2.2.1
theorem dX10_sumOf_8 : decode cX10_sumOf 8 = .ok (.getfield 278, 3) := da9_dX10_sumOf_0.2.2.2.2.2.2.1
theorem dX10_sumOf_11 : decode cX10_sumOf 11 = .ok (.invokevirtual 281, 3) := da9_dX10_sumOf_0.2.2.2.2.2.2.2.1
theorem dX10_sumOf_14 : decode cX10_sumOf 14 = .ok (.bipush 43, 2) := da9_dX10_sumOf_0.2.2.2.2.2.2.2.2.1
theorem dX10_sumOf_16 : decode cX10_sumOf 16 = .ok (.invokestatic 237, 3) := da9_dX10_sumOf_0.2.2.2.2.2.2.2.2.2.1
theorem dX10_sumOf_19 : decode cX10_sumOf 19 = .ok (.if_icmp .eq 19, 3) := da9_dX10_sumOf_0.2.2.2.2.2.2.2.2.2.2.1
theorem dX10_sumOf_22 : decode cX10_sumOf 22 = .ok (.aload_n 0, 1) := da9_dX10_sumOf_0.2.2.2.2.2.2.2.2.2.2.2.1
theorem dX10_sumOf_23 : decode cX10_sumOf 23 = .ok (.aload_n 0, 1) := da9_dX10_sumOf_0.2.2.2.2.2.2.2.2.2.2.2.2.1
theorem dX10_sumOf_24 : decode cX10_sumOf 24 = .ok (.getfield 278, 3) := da9_dX10_sumOf_0.2.2.2.2.2.2.2.2.2.2.2.2.2.1
theorem dX10_sumOf_27 : decode cX10_sumOf 27 = .ok (.invokevirtual 281, 3) := da9_dX10_sumOf_0.2.2.2.2.2.2.2.2.2.2.2.2.2.2.1
theorem dX10_sumOf_30 : decode cX10_sumOf 30 = .ok (.bipush 45, 2) := da9_dX10_sumOf_0.2.2.2.2.2.2.2.2.2.2.2.2.2.2.2
theorem da9_dX10_sumOf_32 : (decode cX10_sumOf 32 = .ok (.invokestatic 237, 3)) ∧ (decode cX10_sumOf 35 = .ok (.if_icmp .ne 68, 3)) ∧ (decode cX10_sumOf 38 = .ok (.aload_n 0, 1)) ∧ (decode cX10_sumOf 39 = .ok (.aload_n 0, 1)) ∧ (decode cX10_sumOf 40 = .ok (.getfield 278, 3)) ∧ (decode cX10_sumOf 43 = .ok (.invokevirtual 281, 3)) ∧ (decode cX10_sumOf 46 = .ok (.bipush 43, 2)) ∧ (decode cX10_sumOf 48 = .ok (.invokestatic 237, 3)) ∧ (decode cX10_sumOf 51 = .ok (.if_icmp .ne 7, 3)) ∧ (decode cX10_sumOf 54 = .ok (.iconst 1, 1)) ∧ (decode cX10_sumOf 55 = .ok (.goto 4, 3)) ∧ (decode cX10_sumOf 58 = .ok (.iconst 0, 1)) ∧ (decode cX10_sumOf 59 = .ok (.istore 4, 2)) ∧ (decode cX10_sumOf 61 = .ok (.aload_n 0, 1)) ∧ (decode cX10_sumOf 62 = .ok (.dup, 1)) ∧ (decode cX10_sumOf 63 = .ok (.getfield 278, 3)) := by decide +kernel
theorem dX10_sumOf_32 : decode cX10_sumOf 32 = .ok (.invokestatic 237, 3) := da9_dX10_sumOf_32.1
theorem dX10_sumOf_35 : decode cX10_sumOf 35 = .ok (.if_icmp .ne 68, 3) := da9_dX10_sumOf_32.2.1
theorem dX10_sumOf_38 : decode cX10_sumOf 38 = .ok (.aload_n 0, 1) := da9_dX10_sumOf_32.2.2.1
theorem dX10_sumOf_39 : decode cX10_sumOf 39 = .ok (.aload_n 0, 1) := da9_dX10_sumOf_32.2.2.2.1
theorem dX10_sumOf_40 : decode cX10_sumOf 40 = .ok (.getfield 278, 3) := da9_dX10_sumOf_32.2.2.2.2.1
theorem dX10_sumOf_43 : decode cX10_sumOf 43 = .ok (.invokevirtual 281, 3) := da9_dX10_sumOf_32.2.2.2.2.2.1
theorem dX10_sumOf_46 : decode cX10_sumOf 46 = .ok (.bipush 43, 2) := da9_dX10_sumOf_32.2.2.2.2.2.2.1
theorem dX10_sumOf_48 : decode cX10_sumOf 48 = .ok (.invokestatic 237, 3) := da9_dX10_sumOf_32.2.2.2.2.2.2.2.1
theorem dX10_sumOf_51 : decode cX10_sumOf 51 = .ok (.if_icmp .ne 7, 3) := da9_dX10_sumOf_32.2.2.2.2.2.2.2.2.1
theorem dX10_sumOf_54 : decode cX10_sumOf 54 = .ok (.iconst 1, 1) := da9_dX10_sumOf_32.2.2.2.2.2.2.2.2.2.1
theorem dX10_sumOf_55 : decode cX10_sumOf 55 = .ok (.goto 4, 3) := da9_dX10_sumOf_32.2.2.2.2.2.2.2.2.2.2.1
theorem dX10_sumOf_58 : decode cX10_sumOf 58 = .ok (.iconst 0, 1) := da9_dX10_sumOf_32.2.2.2.2.2.2.2.2.2.2.2.1
theorem dX10_sumOf_59 : decode cX10_sumOf 59 = .ok (.istore 4, 2) := da9_dX10_sumOf_32.2.2.2.2.2.2.2.2.2.2.2.2.1
theorem dX10_sumOf_61 : decode cX10_sumOf 61 = .ok (.aload_n 0, 1) := da9_dX10_sumOf_32.2.2.2.2.2.2.2.2.2.2.2.2.2.1
theorem dX10_sumOf_62 : decode cX10_sumOf 62 = .ok (.dup, 1) := da9_dX10_sumOf_32.2.2.2.2.2.2.2.2.2.2.2.2.2.2.1
theorem dX10_sumOf_63 : decode cX10_sumOf 63 = .ok (.getfield 278, 3) := da9_dX10_sumOf_32.2.2.2.2.2.2.2.2.2.2.2.2.2.2.2
theorem da9_dX10_sumOf_66 : (decode cX10_sumOf 66 = .ok (.iconst 1, 1)) ∧ (decode cX10_sumOf 67 = .ok (.iadd, 1)) ∧ (decode cX10_sumOf 68 = .ok (.putfield 278, 3)) ∧ (decode cX10_sumOf 71 = .ok (.aload_n 0, 1)) ∧ (decode cX10_sumOf 72 = .ok (.iload_n 1, 1)) ∧ (decode cX10_sumOf 73 = .ok (.invokevirtual 291, 3)) ∧ (decode cX10_sumOf 76 = .ok (.lstore 5, 2)) ∧ (decode cX10_sumOf 78 = .ok (.aload_n 0, 1)) ∧ (decode cX10_sumOf 79 = .ok (.iload 4, 2)) ∧ (decode cX10_sumOf 81 = .ok (.ifCond .eq 10, 3)) ∧ (decode cX10_sumOf 84 = .ok (.lload_n 2, 1)) ∧ (decode cX10_sumOf 85 = .ok (.lload 5, 2)) ∧ (decode cX10_sumOf 87 = .ok (.ladd, 1)) ∧ (decode cX10_sumOf 88 = .ok (.goto 7, 3)) ∧ (decode cX10_sumOf 91 = .ok (.lload_n 2, 1)) ∧ (decode cX10_sumOf 92 = .ok (.lload 5, 2)) := by decide +kernel
theorem dX10_sumOf_66 : decode cX10_sumOf 66 = .ok (.iconst 1, 1) := da9_dX10_sumOf_66.1
theorem dX10_sumOf_67 : decode cX10_sumOf 67 = .ok (.iadd, 1) := da9_dX10_sumOf_66.2.1
theorem dX10_sumOf_68 : decode cX10_sumOf 68 = .ok (.putfield 278, 3) := da9_dX10_sumOf_66.2.2.1
theorem dX10_sumOf_71 : decode cX10_sumOf 71 = .ok (.aload_n 0, 1) := da9_dX10_sumOf_66.2.2.2.1
theorem dX10_sumOf_72 : decode cX10_sumOf 72 = .ok (.iload_n 1, 1) := da9_dX10_sumOf_66.2.2.2.2.1
theorem dX10_sumOf_73 : decode cX10_sumOf 73 = .ok (.invokevirtual 291, 3) := da9_dX10_sumOf_66.2.2.2.2.2.1
theorem dX10_sumOf_76 : decode cX10_sumOf 76 = .ok (.lstore 5, 2) := da9_dX10_sumOf_66.2.2.2.2.2.2.1
theorem dX10_sumOf_78 : decode cX10_sumOf 78 = .ok (.aload_n 0, 1) := da9_dX10_sumOf_66.2.2.2.2.2.2.2.1
theorem dX10_sumOf_79 : decode cX10_sumOf 79 = .ok (.iload 4, 2) := da9_dX10_sumOf_66.2.2.2.2.2.2.2.2.1
theorem dX10_sumOf_81 : decode cX10_sumOf 81 = .ok (.ifCond .eq 10, 3) := da9_dX10_sumOf_66.2.2.2.2.2.2.2.2.2.1
theorem dX10_sumOf_84 : decode cX10_sumOf 84 = .ok (.lload_n 2, 1) := da9_dX10_sumOf_66.2.2.2.2.2.2.2.2.2.2.1
theorem dX10_sumOf_85 : decode cX10_sumOf 85 = .ok (.lload 5, 2) := da9_dX10_sumOf_66.2.2.2.2.2.2.2.2.2.2.2.1
theorem dX10_sumOf_87 : decode cX10_sumOf 87 = .ok (.ladd, 1) := da9_dX10_sumOf_66.2.2.2.2.2.2.2.2.2.2.2.2.1
theorem dX10_sumOf_88 : decode cX10_sumOf 88 = .ok (.goto 7, 3) := da9_dX10_sumOf_66.2.2.2.2.2.2.2.2.2.2.2.2.2.1
theorem dX10_sumOf_91 : decode cX10_sumOf 91 = .ok (.lload_n 2, 1) := da9_dX10_sumOf_66.2.2.2.2.2.2.2.2.2.2.2.2.2.2.1
theorem dX10_sumOf_92 : decode cX10_sumOf 92 = .ok (.lload 5, 2) := da9_dX10_sumOf_66.2.2.2.2.2.2.2.2.2.2.2.2.2.2.2
theorem da9_dX10_sumOf_94 : (decode cX10_sumOf 94 = .ok (.lsub, 1)) ∧ (decode cX10_sumOf 95 = .ok (.iload_n 1, 1)) ∧ (decode cX10_sumOf 96 = .ok (.invokevirtual 295, 3)) ∧ (decode cX10_sumOf 99 = .ok (.lstore_n 2, 1)) ∧ (decode cX10_sumOf 100 = .ok (.goto (-94), 3)) ∧ (decode cX10_sumOf 103 = .ok (.lload_n 2, 1)) ∧ (decode cX10_sumOf 104 = .ok (.lreturn, 1)) := by decide +kernel
theorem dX10_sumOf_94 : decode cX10_sumOf 94 = .ok (.lsub, 1) := da9_dX10_sumOf_94.1
theorem dX10_sumOf_95 : decode cX10_sumOf 95 = .ok (.iload_n 1, 1) := da9_dX10_sumOf_94.2.1
theorem dX10_sumOf_96 : decode cX10_sumOf 96 = .ok (.invokevirtual 295, 3) := da9_dX10_sumOf_94.2.2.1
theorem dX10_sumOf_99 : decode cX10_sumOf 99 = .ok (.lstore_n 2, 1) := da9_dX10_sumOf_94.2.2.2.1
theorem dX10_sumOf_100 : decode cX10_sumOf 100 = .ok (.goto (-94), 3) := da9_dX10_sumOf_94.2.2.2.2.1
theorem dX10_sumOf_103 : decode cX10_sumOf 103 = .ok (.lload_n 2, 1) := da9_dX10_sumOf_94.2.2.2.2.2.1
theorem dX10_sumOf_104 : decode cX10_sumOf 104 = .ok (.lreturn, 1) := da9_dX10_sumOf_94.2.2.2.2.2.2
set_option maxRecDepth 20000 in
theorem ggX10_termOf_X10_partOf : GoodIn wsX10_termOf wsX10_partOf := wd_c vW10_ok mvW10_88
set_option maxRecDepth 20000 in
theorem gX10_termOf_X10_partOf : GoodIn wsX10_termOf (wsV RX10 299 RX10 yX10_partOf wsX10_partOf) := goodIn_app (wd_l vW10_ok _ pvW10_184) ggX10_termOf_X10_partOf
set_option maxRecDepth 20000 in
theorem ggX10_termOf_X10_codeAt : GoodIn wsX10_termOf wsX10_codeAt := wd_c vW10_ok mvW10_71
set_option maxRecDepth 20000 in
theorem gX10_termOf_X10_codeAt : GoodIn wsX10_termOf (wsV RX10 281 RX10 yX10_codeAt wsX10_codeAt) := goodIn_app (wd_l vW10_ok _ pvW10_181) ggX10_termOf_X10_codeAt
set_option maxRecDepth 20000 in
theorem ggX10_termOf_X10_sign : GoodIn wsX10_termOf wsX10_sign := wd_c vW10_ok mvW10_81
set_option maxRecDepth 20000 in
theorem gX10_termOf_X10_sign : GoodIn wsX10_termOf (va_wsS RX10 237 yX10_sign wsX10_sign) := goodIn_app (wd_l vW10_ok _ pvW10_171) ggX10_termOf_X10_sign
set_option maxRecDepth 20000 in
theorem ggX10_termOf_X10_bounded : GoodIn wsX10_termOf wsX10_bounded := wd_c vW10_ok mvW10_85
set_option maxRecDepth 20000 in
theorem gX10_termOf_X10_bounded : GoodIn wsX10_termOf (wsV RX10 295 RX10 yX10_bounded wsX10_bounded) := goodIn_app (wd_l vW10_ok _ pvW10_183) ggX10_termOf_X10_bounded
theorem da9_dX10_termOf_0 : (decode cX10_termOf 0 = .ok (.aload_n 0, 1)) ∧ (decode cX10_termOf 1 = .ok (.iload_n 1, 1)) ∧ (decode cX10_termOf 2 = .ok (.invokevirtual 299, 3)) ∧ (decode cX10_termOf 5 = .ok (.lstore_n 2, 1)) ∧ (decode cX10_termOf 6 = .ok (.aload_n 0, 1)) ∧ (decode cX10_termOf 7 = .ok (.aload_n 0, 1)) ∧ (decode cX10_termOf 8 = .ok (.getfield 278, 3)) ∧ (decode cX10_termOf 11 = .ok (.invokevirtual 281, 3)) ∧ (decode cX10_termOf 14 = .ok (.bipush 42, 2)) ∧ (decode cX10_termOf 16 = .ok (.invokestatic 237, 3)) ∧ (decode cX10_termOf 19 = .ok (.if_icmp .eq 35, 3)) ∧ (decode cX10_termOf 22 = .ok (.aload_n 0, 1)) ∧ (decode cX10_termOf 23 = .ok (.aload_n 0, 1)) ∧ (decode cX10_termOf 24 = .ok (.getfield 278, 3)) ∧ (decode cX10_termOf 27 = .ok (.invokevirtual 281, 3)) ∧ (decode cX10_termOf 30 = .ok (.bipush 47, 2)) := by decide +kernel
theorem dX10_termOf_0 : decode cX10_termOf 0 = .ok (.aload_n 0, 1) := da9_dX10_termOf_0.1
theorem dX10_termOf_1 : decode cX10_termOf 1 = .ok (.iload_n 1, 1) := da9_dX10_termOf_0.2.1
theorem dX10_termOf_2 : decode cX10_termOf 2 = .ok (.invokevirtual 299, 3) := da9_dX10_termOf_0.2.2.1
theorem dX10_termOf_5 : decode cX10_termOf 5 = .ok (.lstore_n 2, 1) := da9_dX10_termOf_0.2.2.2.1
theorem dX10_termOf_6 : decode cX10_termOf 6 = .ok (.aload_n 0, 1) := da9_dX10_termOf_0.2.2.2.2.1
theorem dX10_termOf_7 : decode cX10_termOf 7 = .ok (.aload_n 0, 1) := da9_dX10_termOf_0.2.2.2.2.2.1
theorem dX10_termOf_8 : decode cX10_termOf 8 = .ok (.getfield 278, 3) := da9_dX10_termOf_0.2.2.2.2.2.2.1
theorem dX10_termOf_11 : decode cX10_termOf 11 = .ok (.invokevirtual 281, 3) := da9_dX10_termOf_0.2.2.2.2.2.2.2.1
theorem dX10_termOf_14 : decode cX10_termOf 14 = .ok (.bipush 42, 2) := da9_dX10_termOf_0.2.2.2.2.2.2.2.2.1
theorem dX10_termOf_16 : decode cX10_termOf 16 = .ok (.invokestatic 237, 3) := da9_dX10_termOf_0.2.2.2.2.2.2.2.2.2.1
theorem dX10_termOf_19 : decode cX10_termOf 19 = .ok (.if_icmp .eq 35, 3) := da9_dX10_termOf_0.2.2.2.2.2.2.2.2.2.2.1
theorem dX10_termOf_22 : decode cX10_termOf 22 = .ok (.aload_n 0, 1) := da9_dX10_termOf_0.2.2.2.2.2.2.2.2.2.2.2.1
theorem dX10_termOf_23 : decode cX10_termOf 23 = .ok (.aload_n 0, 1) := da9_dX10_termOf_0.2.2.2.2.2.2.2.2.2.2.2.2.1
theorem dX10_termOf_24 : decode cX10_termOf 24 = .ok (.getfield 278, 3) := da9_dX10_termOf_0.2.2.2.2.2.2.2.2.2.2.2.2.2.1
theorem dX10_termOf_27 : decode cX10_termOf 27 = .ok (.invokevirtual 281, 3) := da9_dX10_termOf_0.2.2.2.2.2.2.2.2.2.2.2.2.2.2.1
theorem dX10_termOf_30 : decode cX10_termOf 30 = .ok (.bipush 47, 2) := da9_dX10_termOf_0.2.2.2.2.2.2.2.2.2.2.2.2.2.2.2
theorem da9_dX10_termOf_32 : (decode cX10_termOf 32 = .ok (.invokestatic 237, 3)) ∧ (decode cX10_termOf 35 = .ok (.if_icmp .eq 19, 3)) ∧ (decode cX10_termOf 38 = .ok (.aload_n 0, 1)) ∧ (decode cX10_termOf 39 = .ok (.aload_n 0, 1)) ∧ (decode cX10_termOf 40 = .ok (.getfield 278, 3)) ∧ (decode cX10_termOf 43 = .ok (.invokevirtual 281, 3)) ∧ (decode cX10_termOf 46 = .ok (.bipush 37, 2)) ∧ (decode cX10_termOf 48 = .ok (.invokestatic 237, 3)) ∧ (decode cX10_termOf 51 = .ok (.if_icmp .ne 117, 3)) ∧ (decode cX10_termOf 54 = .ok (.aload_n 0, 1)) ∧ (decode cX10_termOf 55 = .ok (.aload_n 0, 1)) ∧ (decode cX10_termOf 56 = .ok (.getfield 278, 3)) ∧ (decode cX10_termOf 59 = .ok (.invokevirtual 281, 3)) ∧ (decode cX10_termOf 62 = .ok (.istore 4, 2)) ∧ (decode cX10_termOf 64 = .ok (.aload_n 0, 1)) ∧ (decode cX10_termOf 65 = .ok (.dup, 1)) := by decide +kernel
theorem dX10_termOf_32 : decode cX10_termOf 32 = .ok (.invokestatic 237, 3) := da9_dX10_termOf_32.1
theorem dX10_termOf_35 : decode cX10_termOf 35 = .ok (.if_icmp .eq 19, 3) := da9_dX10_termOf_32.2.1
theorem dX10_termOf_38 : decode cX10_termOf 38 = .ok (.aload_n 0, 1) := da9_dX10_termOf_32.2.2.1
theorem dX10_termOf_39 : decode cX10_termOf 39 = .ok (.aload_n 0, 1) := da9_dX10_termOf_32.2.2.2.1
theorem dX10_termOf_40 : decode cX10_termOf 40 = .ok (.getfield 278, 3) := da9_dX10_termOf_32.2.2.2.2.1
theorem dX10_termOf_43 : decode cX10_termOf 43 = .ok (.invokevirtual 281, 3) := da9_dX10_termOf_32.2.2.2.2.2.1
theorem dX10_termOf_46 : decode cX10_termOf 46 = .ok (.bipush 37, 2) := da9_dX10_termOf_32.2.2.2.2.2.2.1
theorem dX10_termOf_48 : decode cX10_termOf 48 = .ok (.invokestatic 237, 3) := da9_dX10_termOf_32.2.2.2.2.2.2.2.1
theorem dX10_termOf_51 : decode cX10_termOf 51 = .ok (.if_icmp .ne 117, 3) := da9_dX10_termOf_32.2.2.2.2.2.2.2.2.1
theorem dX10_termOf_54 : decode cX10_termOf 54 = .ok (.aload_n 0, 1) := da9_dX10_termOf_32.2.2.2.2.2.2.2.2.2.1
theorem dX10_termOf_55 : decode cX10_termOf 55 = .ok (.aload_n 0, 1) := da9_dX10_termOf_32.2.2.2.2.2.2.2.2.2.2.1
theorem dX10_termOf_56 : decode cX10_termOf 56 = .ok (.getfield 278, 3) := da9_dX10_termOf_32.2.2.2.2.2.2.2.2.2.2.2.1
theorem dX10_termOf_59 : decode cX10_termOf 59 = .ok (.invokevirtual 281, 3) := da9_dX10_termOf_32.2.2.2.2.2.2.2.2.2.2.2.2.1
theorem dX10_termOf_62 : decode cX10_termOf 62 = .ok (.istore 4, 2) := da9_dX10_termOf_32.2.2.2.2.2.2.2.2.2.2.2.2.2.1
theorem dX10_termOf_64 : decode cX10_termOf 64 = .ok (.aload_n 0, 1) := da9_dX10_termOf_32.2.2.2.2.2.2.2.2.2.2.2.2.2.2.1
theorem dX10_termOf_65 : decode cX10_termOf 65 = .ok (.dup, 1) := da9_dX10_termOf_32.2.2.2.2.2.2.2.2.2.2.2.2.2.2.2
theorem da9_dX10_termOf_66 : (decode cX10_termOf 66 = .ok (.getfield 278, 3)) ∧ (decode cX10_termOf 69 = .ok (.iconst 1, 1)) ∧ (decode cX10_termOf 70 = .ok (.iadd, 1)) ∧ (decode cX10_termOf 71 = .ok (.putfield 278, 3)) ∧ (decode cX10_termOf 74 = .ok (.aload_n 0, 1)) ∧ (decode cX10_termOf 75 = .ok (.iload_n 1, 1)) ∧ (decode cX10_termOf 76 = .ok (.invokevirtual 299, 3)) ∧ (decode cX10_termOf 79 = .ok (.lstore 5, 2)) ∧ (decode cX10_termOf 81 = .ok (.iload 4, 2)) ∧ (decode cX10_termOf 83 = .ok (.bipush 42, 2)) ∧ (decode cX10_termOf 85 = .ok (.invokestatic 237, 3)) ∧ (decode cX10_termOf 88 = .ok (.if_icmp .eq 33, 3)) ∧ (decode cX10_termOf 91 = .ok (.lload 5, 2)) ∧ (decode cX10_termOf 93 = .ok (.lconst 0, 1)) ∧ (decode cX10_termOf 94 = .ok (.lcmp, 1)) ∧ (decode cX10_termOf 95 = .ok (.ifCond .ne 26, 3)) := by decide +kernel
theorem dX10_termOf_66 : decode cX10_termOf 66 = .ok (.getfield 278, 3) := da9_dX10_termOf_66.1
theorem dX10_termOf_69 : decode cX10_termOf 69 = .ok (.iconst 1, 1) := da9_dX10_termOf_66.2.1
theorem dX10_termOf_70 : decode cX10_termOf 70 = .ok (.iadd, 1) := da9_dX10_termOf_66.2.2.1
theorem dX10_termOf_71 : decode cX10_termOf 71 = .ok (.putfield 278, 3) := da9_dX10_termOf_66.2.2.2.1
theorem dX10_termOf_74 : decode cX10_termOf 74 = .ok (.aload_n 0, 1) := da9_dX10_termOf_66.2.2.2.2.1
theorem dX10_termOf_75 : decode cX10_termOf 75 = .ok (.iload_n 1, 1) := da9_dX10_termOf_66.2.2.2.2.2.1
theorem dX10_termOf_76 : decode cX10_termOf 76 = .ok (.invokevirtual 299, 3) := da9_dX10_termOf_66.2.2.2.2.2.2.1
theorem dX10_termOf_79 : decode cX10_termOf 79 = .ok (.lstore 5, 2) := da9_dX10_termOf_66.2.2.2.2.2.2.2.1
theorem dX10_termOf_81 : decode cX10_termOf 81 = .ok (.iload 4, 2) := da9_dX10_termOf_66.2.2.2.2.2.2.2.2.1
theorem dX10_termOf_83 : decode cX10_termOf 83 = .ok (.bipush 42, 2) := da9_dX10_termOf_66.2.2.2.2.2.2.2.2.2.1
theorem dX10_termOf_85 : decode cX10_termOf 85 = .ok (.invokestatic 237, 3) := da9_dX10_termOf_66.2.2.2.2.2.2.2.2.2.2.1
theorem dX10_termOf_88 : decode cX10_termOf 88 = .ok (.if_icmp .eq 33, 3) := da9_dX10_termOf_66.2.2.2.2.2.2.2.2.2.2.2.1
theorem dX10_termOf_91 : decode cX10_termOf 91 = .ok (.lload 5, 2) := da9_dX10_termOf_66.2.2.2.2.2.2.2.2.2.2.2.2.1
theorem dX10_termOf_93 : decode cX10_termOf 93 = .ok (.lconst 0, 1) := da9_dX10_termOf_66.2.2.2.2.2.2.2.2.2.2.2.2.2.1
theorem dX10_termOf_94 : decode cX10_termOf 94 = .ok (.lcmp, 1) := da9_dX10_termOf_66.2.2.2.2.2.2.2.2.2.2.2.2.2.2.1
theorem dX10_termOf_95 : decode cX10_termOf 95 = .ok (.ifCond .ne 26, 3) := da9_dX10_termOf_66.2.2.2.2.2.2.2.2.2.2.2.2.2.2.2
theorem da9_dX10_termOf_98 : (decode cX10_termOf 98 = .ok (.aload_n 0, 1)) ∧ (decode cX10_termOf 99 = .ok (.aload_n 0, 1)) ∧ (decode cX10_termOf 100 = .ok (.getfield 288, 3)) ∧ (decode cX10_termOf 103 = .ok (.ifCond .ne 7, 3)) ∧ (decode cX10_termOf 106 = .ok (.iload_n 1, 1)) ∧ (decode cX10_termOf 107 = .ok (.ifCond .eq 7, 3)) ∧ (decode cX10_termOf 110 = .ok (.iconst 1, 1)) ∧ (decode cX10_termOf 111 = .ok (.goto 4, 3)) ∧ (decode cX10_termOf 114 = .ok (.iconst 0, 1)) ∧ (decode cX10_termOf 115 = .ok (.putfield 288, 3)) ∧ (decode cX10_termOf 118 = .ok (.lconst 1, 1)) ∧ (decode cX10_termOf 119 = .ok (.lstore 5, 2)) ∧ (decode cX10_termOf 121 = .ok (.aload_n 0, 1)) ∧ (decode cX10_termOf 122 = .ok (.iload 4, 2)) ∧ (decode cX10_termOf 124 = .ok (.bipush 42, 2)) ∧ (decode cX10_termOf 126 = .ok (.invokestatic 237, 3)) := by decide +kernel
theorem dX10_termOf_98 : decode cX10_termOf 98 = .ok (.aload_n 0, 1) := da9_dX10_termOf_98.1
theorem dX10_termOf_99 : decode cX10_termOf 99 = .ok (.aload_n 0, 1) := da9_dX10_termOf_98.2.1
theorem dX10_termOf_100 : decode cX10_termOf 100 = .ok (.getfield 288, 3) := da9_dX10_termOf_98.2.2.1
theorem dX10_termOf_103 : decode cX10_termOf 103 = .ok (.ifCond .ne 7, 3) := da9_dX10_termOf_98.2.2.2.1
theorem dX10_termOf_106 : decode cX10_termOf 106 = .ok (.iload_n 1, 1) := da9_dX10_termOf_98.2.2.2.2.1
theorem dX10_termOf_107 : decode cX10_termOf 107 = .ok (.ifCond .eq 7, 3) := da9_dX10_termOf_98.2.2.2.2.2.1
theorem dX10_termOf_110 : decode cX10_termOf 110 = .ok (.iconst 1, 1) := da9_dX10_termOf_98.2.2.2.2.2.2.1
theorem dX10_termOf_111 : decode cX10_termOf 111 = .ok (.goto 4, 3) := da9_dX10_termOf_98.2.2.2.2.2.2.2.1
theorem dX10_termOf_114 : decode cX10_termOf 114 = .ok (.iconst 0, 1) := da9_dX10_termOf_98.2.2.2.2.2.2.2.2.1
theorem dX10_termOf_115 : decode cX10_termOf 115 = .ok (.putfield 288, 3) := da9_dX10_termOf_98.2.2.2.2.2.2.2.2.2.1
theorem dX10_termOf_118 : decode cX10_termOf 118 = .ok (.lconst 1, 1) := da9_dX10_termOf_98.2.2.2.2.2.2.2.2.2.2.1
theorem dX10_termOf_119 : decode cX10_termOf 119 = .ok (.lstore 5, 2) := da9_dX10_termOf_98.2.2.2.2.2.2.2.2.2.2.2.1
theorem dX10_termOf_121 : decode cX10_termOf 121 = .ok (.aload_n 0, 1) := da9_dX10_termOf_98.2.2.2.2.2.2.2.2.2.2.2.2.1
theorem dX10_termOf_122 : decode cX10_termOf 122 = .ok (.iload 4, 2) := da9_dX10_termOf_98.2.2.2.2.2.2.2.2.2.2.2.2.2.1
theorem dX10_termOf_124 : decode cX10_termOf 124 = .ok (.bipush 42, 2) := da9_dX10_termOf_98.2.2.2.2.2.2.2.2.2.2.2.2.2.2.1
theorem dX10_termOf_126 : decode cX10_termOf 126 = .ok (.invokestatic 237, 3) := da9_dX10_termOf_98.2.2.2.2.2.2.2.2.2.2.2.2.2.2.2
theorem da9_dX10_termOf_129 : (decode cX10_termOf 129 = .ok (.if_icmp .ne 10, 3)) ∧ (decode cX10_termOf 132 = .ok (.lload_n 2, 1)) ∧ (decode cX10_termOf 133 = .ok (.lload 5, 2)) ∧ (decode cX10_termOf 135 = .ok (.lmul, 1)) ∧ (decode cX10_termOf 136 = .ok (.goto 24, 3)) ∧ (decode cX10_termOf 139 = .ok (.iload 4, 2)) ∧ (decode cX10_termOf 141 = .ok (.bipush 47, 2)) ∧ (decode cX10_termOf 143 = .ok (.invokestatic 237, 3)) ∧ (decode cX10_termOf 146 = .ok (.if_icmp .ne 10, 3)) ∧ (decode cX10_termOf 149 = .ok (.lload_n 2, 1)) ∧ (decode cX10_termOf 150 = .ok (.lload 5, 2)) ∧ (decode cX10_termOf 152 = .ok (.ldiv, 1)) ∧ (decode cX10_termOf 153 = .ok (.goto 7, 3)) ∧ (decode cX10_termOf 156 = .ok (.lload_n 2, 1)) ∧ (decode cX10_termOf 157 = .ok (.lload 5, 2)) ∧ (decode cX10_termOf 159 = .ok (.lrem, 1)) := by decide +kernel
theorem dX10_termOf_129 : decode cX10_termOf 129 = .ok (.if_icmp .ne 10, 3) := da9_dX10_termOf_129.1
theorem dX10_termOf_132 : decode cX10_termOf 132 = .ok (.lload_n 2, 1) := da9_dX10_termOf_129.2.1
theorem dX10_termOf_133 : decode cX10_termOf 133 = .ok (.lload 5, 2) := da9_dX10_termOf_129.2.2.1
theorem dX10_termOf_135 : decode cX10_termOf 135 = .ok (.lmul, 1) := da9_dX10_termOf_129.2.2.2.1
theorem dX10_termOf_136 : decode cX10_termOf 136 = .ok (.goto 24, 3) := da9_dX10_termOf_129.2.2.2.2.1
theorem dX10_termOf_139 : decode cX10_termOf 139 = .ok (.iload 4, 2) := da9_dX10_termOf_129.2.2.2.2.2.1
theorem dX10_termOf_141 : decode cX10_termOf 141 = .ok (.bipush 47, 2) := da9_dX10_termOf_129.2.2.2.2.2.2.1
theorem dX10_termOf_143 : decode cX10_termOf 143 = .ok (.invokestatic 237, 3) := da9_dX10_termOf_129.2.2.2.2.2.2.2.1
theorem dX10_termOf_146 : decode cX10_termOf 146 = .ok (.if_icmp .ne 10, 3) := da9_dX10_termOf_129.2.2.2.2.2.2.2.2.1
theorem dX10_termOf_149 : decode cX10_termOf 149 = .ok (.lload_n 2, 1) := da9_dX10_termOf_129.2.2.2.2.2.2.2.2.2.1
theorem dX10_termOf_150 : decode cX10_termOf 150 = .ok (.lload 5, 2) := da9_dX10_termOf_129.2.2.2.2.2.2.2.2.2.2.1
theorem dX10_termOf_152 : decode cX10_termOf 152 = .ok (.ldiv, 1) := da9_dX10_termOf_129.2.2.2.2.2.2.2.2.2.2.2.1
theorem dX10_termOf_153 : decode cX10_termOf 153 = .ok (.goto 7, 3) := da9_dX10_termOf_129.2.2.2.2.2.2.2.2.2.2.2.2.1
theorem dX10_termOf_156 : decode cX10_termOf 156 = .ok (.lload_n 2, 1) := da9_dX10_termOf_129.2.2.2.2.2.2.2.2.2.2.2.2.2.1
theorem dX10_termOf_157 : decode cX10_termOf 157 = .ok (.lload 5, 2) := da9_dX10_termOf_129.2.2.2.2.2.2.2.2.2.2.2.2.2.2.1
theorem dX10_termOf_159 : decode cX10_termOf 159 = .ok (.lrem, 1) := da9_dX10_termOf_129.2.2.2.2.2.2.2.2.2.2.2.2.2.2.2
theorem da9_dX10_termOf_160 : (decode cX10_termOf 160 = .ok (.iload_n 1, 1)) ∧ (decode cX10_termOf 161 = .ok (.invokevirtual 295, 3)) ∧ (decode cX10_termOf 164 = .ok (.lstore_n 2, 1)) ∧ (decode cX10_termOf 165 = .ok (.goto (-159), 3)) ∧ (decode cX10_termOf 168 = .ok (.lload_n 2, 1)) ∧ (decode cX10_termOf 169 = .ok (.lreturn, 1)) := by decide +kernel
theorem dX10_termOf_160 : decode cX10_termOf 160 = .ok (.iload_n 1, 1) := da9_dX10_termOf_160.1
theorem dX10_termOf_161 : decode cX10_termOf 161 = .ok (.invokevirtual 295, 3) := da9_dX10_termOf_160.2.1
theorem dX10_termOf_164 : decode cX10_termOf 164 = .ok (.lstore_n 2, 1) := da9_dX10_termOf_160.2.2.1
theorem dX10_termOf_165 : decode cX10_termOf 165 = .ok (.goto (-159), 3) := da9_dX10_termOf_160.2.2.2.1
theorem dX10_termOf_168 : decode cX10_termOf 168 = .ok (.lload_n 2, 1) := da9_dX10_termOf_160.2.2.2.2.1
theorem dX10_termOf_169 : decode cX10_termOf 169 = .ok (.lreturn, 1) := da9_dX10_termOf_160.2.2.2.2.2
set_option maxRecDepth 20000 in
theorem ggX10_bothOf_X10_plainOf : GoodIn wsX10_bothOf wsX10_plainOf := wd_c vW10_ok mvW10_122
set_option maxRecDepth 20000 in
theorem gX10_bothOf_X10_plainOf : GoodIn wsX10_bothOf (wsV RX10 326 RX10 yX10_plainOf wsX10_plainOf) := goodIn_app (wd_l vW10_ok _ pvW10_190) ggX10_bothOf_X10_plainOf
set_option maxRecDepth 20000 in
theorem ggX10_bothOf_X10_passes0 : GoodIn wsX10_bothOf wsX10_passes0 := wd_c vW10_ok mvW10_92
set_option maxRecDepth 20000 in
theorem gX10_bothOf_X10_passes0 : GoodIn wsX10_bothOf (wsV RX10 302 RX10 yX10_passes0 wsX10_passes0) := goodIn_app (wd_l vW10_ok _ pvW10_185) ggX10_bothOf_X10_passes0
theorem da9_dX10_bothOf_0 : (decode cX10_bothOf 0 = .ok (.aload_n 0, 1)) ∧ (decode cX10_bothOf 1 = .ok (.iload_n 1, 1)) ∧ (decode cX10_bothOf 2 = .ok (.invokevirtual 326, 3)) ∧ (decode cX10_bothOf 5 = .ok (.istore_n 2, 1)) ∧ (decode cX10_bothOf 6 = .ok (.aload_n 0, 1)) ∧ (decode cX10_bothOf 7 = .ok (.bipush 6, 2)) ∧ (decode cX10_bothOf 9 = .ok (.invokevirtual 302, 3)) ∧ (decode cX10_bothOf 12 = .ok (.ifCond .eq 38, 3)) ∧ (decode cX10_bothOf 15 = .ok (.aload_n 0, 1)) ∧ (decode cX10_bothOf 16 = .ok (.iload_n 1, 1)) ∧ (decode cX10_bothOf 17 = .ok (.ifCond .eq 11, 3)) ∧ (decode cX10_bothOf 20 = .ok (.iload_n 2, 1)) ∧ (decode cX10_bothOf 21 = .ok (.ifCond .eq 7, 3)) ∧ (decode cX10_bothOf 24 = .ok (.iconst 1, 1)) ∧ (decode cX10_bothOf 25 = .ok (.goto 4, 3)) ∧ (decode cX10_bothOf 28 = .ok (.iconst 0, 1)) := by decide +kernel
theorem dX10_bothOf_0 : decode cX10_bothOf 0 = .ok (.aload_n 0, 1) := da9_dX10_bothOf_0.1
theorem dX10_bothOf_1 : decode cX10_bothOf 1 = .ok (.iload_n 1, 1) := da9_dX10_bothOf_0.2.1
theorem dX10_bothOf_2 : decode cX10_bothOf 2 = .ok (.invokevirtual 326, 3) := da9_dX10_bothOf_0.2.2.1
theorem dX10_bothOf_5 : decode cX10_bothOf 5 = .ok (.istore_n 2, 1) := da9_dX10_bothOf_0.2.2.2.1
theorem dX10_bothOf_6 : decode cX10_bothOf 6 = .ok (.aload_n 0, 1) := da9_dX10_bothOf_0.2.2.2.2.1
theorem dX10_bothOf_7 : decode cX10_bothOf 7 = .ok (.bipush 6, 2) := da9_dX10_bothOf_0.2.2.2.2.2.1
theorem dX10_bothOf_9 : decode cX10_bothOf 9 = .ok (.invokevirtual 302, 3) := da9_dX10_bothOf_0.2.2.2.2.2.2.1
theorem dX10_bothOf_12 : decode cX10_bothOf 12 = .ok (.ifCond .eq 38, 3) := da9_dX10_bothOf_0.2.2.2.2.2.2.2.1
theorem dX10_bothOf_15 : decode cX10_bothOf 15 = .ok (.aload_n 0, 1) := da9_dX10_bothOf_0.2.2.2.2.2.2.2.2.1
theorem dX10_bothOf_16 : decode cX10_bothOf 16 = .ok (.iload_n 1, 1) := da9_dX10_bothOf_0.2.2.2.2.2.2.2.2.2.1
theorem dX10_bothOf_17 : decode cX10_bothOf 17 = .ok (.ifCond .eq 11, 3) := da9_dX10_bothOf_0.2.2.2.2.2.2.2.2.2.2.1
theorem dX10_bothOf_20 : decode cX10_bothOf 20 = .ok (.iload_n 2, 1) := da9_dX10_bothOf_0.2.2.2.2.2.2.2.2.2.2.2.1
theorem dX10_bothOf_21 : decode cX10_bothOf 21 = .ok (.ifCond .eq 7, 3) := da9_dX10_bothOf_0.2.2.2.2.2.2.2.2.2.2.2.2.1
theorem dX10_bothOf_24 : decode cX10_bothOf 24 = .ok (.iconst 1, 1) := da9_dX10_bothOf_0.2.2.2.2.2.2.2.2.2.2.2.2.2.1
theorem dX10_bothOf_25 : decode cX10_bothOf 25 = .ok (.goto 4, 3) := da9_dX10_bothOf_0.2.2.2.2.2.2.2.2.2.2.2.2.2.2.1
theorem dX10_bothOf_28 : decode cX10_bothOf 28 = .ok (.iconst 0, 1) := da9_dX10_bothOf_0.2.2.2.2.2.2.2.2.2.2.2.2.2.2.2
theorem da9_dX10_bothOf_29 : (decode cX10_bothOf 29 = .ok (.invokevirtual 326, 3)) ∧ (decode cX10_bothOf 32 = .ok (.istore_n 3, 1)) ∧ (decode cX10_bothOf 33 = .ok (.iload_n 2, 1)) ∧ (decode cX10_bothOf 34 = .ok (.ifCond .eq 11, 3)) ∧ (decode cX10_bothOf 37 = .ok (.iload_n 3, 1)) ∧ (decode cX10_bothOf 38 = .ok (.ifCond .eq 7, 3)) ∧ (decode cX10_bothOf 41 = .ok (.iconst 1, 1)) ∧ (decode cX10_bothOf 42 = .ok (.goto 4, 3)) ∧ (decode cX10_bothOf 45 = .ok (.iconst 0, 1)) ∧ (decode cX10_bothOf 46 = .ok (.istore_n 2, 1)) ∧ (decode cX10_bothOf 47 = .ok (.goto (-41), 3)) ∧ (decode cX10_bothOf 50 = .ok (.iload_n 2, 1)) ∧ (decode cX10_bothOf 51 = .ok (.ireturn, 1)) := by decide +kernel
theorem dX10_bothOf_29 : decode cX10_bothOf 29 = .ok (.invokevirtual 326, 3) := da9_dX10_bothOf_29.1
theorem dX10_bothOf_32 : decode cX10_bothOf 32 = .ok (.istore_n 3, 1) := da9_dX10_bothOf_29.2.1
theorem dX10_bothOf_33 : decode cX10_bothOf 33 = .ok (.iload_n 2, 1) := da9_dX10_bothOf_29.2.2.1
theorem dX10_bothOf_34 : decode cX10_bothOf 34 = .ok (.ifCond .eq 11, 3) := da9_dX10_bothOf_29.2.2.2.1
theorem dX10_bothOf_37 : decode cX10_bothOf 37 = .ok (.iload_n 3, 1) := da9_dX10_bothOf_29.2.2.2.2.1
theorem dX10_bothOf_38 : decode cX10_bothOf 38 = .ok (.ifCond .eq 7, 3) := da9_dX10_bothOf_29.2.2.2.2.2.1
theorem dX10_bothOf_41 : decode cX10_bothOf 41 = .ok (.iconst 1, 1) := da9_dX10_bothOf_29.2.2.2.2.2.2.1
theorem dX10_bothOf_42 : decode cX10_bothOf 42 = .ok (.goto 4, 3) := da9_dX10_bothOf_29.2.2.2.2.2.2.2.1
theorem dX10_bothOf_45 : decode cX10_bothOf 45 = .ok (.iconst 0, 1) := da9_dX10_bothOf_29.2.2.2.2.2.2.2.2.1
theorem dX10_bothOf_46 : decode cX10_bothOf 46 = .ok (.istore_n 2, 1) := da9_dX10_bothOf_29.2.2.2.2.2.2.2.2.2.1
theorem dX10_bothOf_47 : decode cX10_bothOf 47 = .ok (.goto (-41), 3) := da9_dX10_bothOf_29.2.2.2.2.2.2.2.2.2.2.1
theorem dX10_bothOf_50 : decode cX10_bothOf 50 = .ok (.iload_n 2, 1) := da9_dX10_bothOf_29.2.2.2.2.2.2.2.2.2.2.2.1
theorem dX10_bothOf_51 : decode cX10_bothOf 51 = .ok (.ireturn, 1) := da9_dX10_bothOf_29.2.2.2.2.2.2.2.2.2.2.2.2
set_option maxRecDepth 20000 in
theorem ggX10_plainOf_X10_passes0 : GoodIn wsX10_plainOf wsX10_passes0 := wd_c vW10_ok mvW10_92
set_option maxRecDepth 20000 in
theorem gX10_plainOf_X10_passes0 : GoodIn wsX10_plainOf (wsV RX10 302 RX10 yX10_passes0 wsX10_passes0) := goodIn_app (wd_l vW10_ok _ pvW10_185) ggX10_plainOf_X10_passes0
set_option maxRecDepth 20000 in
theorem ggX10_plainOf_X10_positiveOf : GoodIn wsX10_plainOf wsX10_positiveOf := wd_c vW10_ok mvW10_126
set_option maxRecDepth 20000 in
theorem gX10_plainOf_X10_positiveOf : GoodIn wsX10_plainOf (wsV RX10 329 RX10 yX10_positiveOf wsX10_positiveOf) := goodIn_app (wd_l vW10_ok _ pvW10_191) ggX10_plainOf_X10_positiveOf
theorem da9_dX10_plainOf_0 : (decode cX10_plainOf 0 = .ok (.iconst 0, 1)) ∧ (decode cX10_plainOf 1 = .ok (.istore_n 2, 1)) ∧ (decode cX10_plainOf 2 = .ok (.aload_n 0, 1)) ∧ (decode cX10_plainOf 3 = .ok (.bipush 7, 2)) ∧ (decode cX10_plainOf 5 = .ok (.invokevirtual 302, 3)) ∧ (decode cX10_plainOf 8 = .ok (.ifCond .eq 16, 3)) ∧ (decode cX10_plainOf 11 = .ok (.iload_n 2, 1)) ∧ (decode cX10_plainOf 12 = .ok (.ifCond .ne 7, 3)) ∧ (decode cX10_plainOf 15 = .ok (.iconst 1, 1)) ∧ (decode cX10_plainOf 16 = .ok (.goto 4, 3)) ∧ (decode cX10_plainOf 19 = .ok (.iconst 0, 1)) ∧ (decode cX10_plainOf 20 = .ok (.istore_n 2, 1)) ∧ (decode cX10_plainOf 21 = .ok (.goto (-19), 3)) ∧ (decode cX10_plainOf 24 = .ok (.aload_n 0, 1)) ∧ (decode cX10_plainOf 25 = .ok (.iload_n 1, 1)) ∧ (decode cX10_plainOf 26 = .ok (.invokevirtual 329, 3)) := by decide +kernel
theorem dX10_plainOf_0 : decode cX10_plainOf 0 = .ok (.iconst 0, 1) := da9_dX10_plainOf_0.1
theorem dX10_plainOf_1 : decode cX10_plainOf 1 = .ok (.istore_n 2, 1) := da9_dX10_plainOf_0.2.1
theorem dX10_plainOf_2 : decode cX10_plainOf 2 = .ok (.aload_n 0, 1) := da9_dX10_plainOf_0.2.2.1
theorem dX10_plainOf_3 : decode cX10_plainOf 3 = .ok (.bipush 7, 2) := da9_dX10_plainOf_0.2.2.2.1
theorem dX10_plainOf_5 : decode cX10_plainOf 5 = .ok (.invokevirtual 302, 3) := da9_dX10_plainOf_0.2.2.2.2.1
theorem dX10_plainOf_8 : decode cX10_plainOf 8 = .ok (.ifCond .eq 16, 3) := da9_dX10_plainOf_0.2.2.2.2.2.1
theorem dX10_plainOf_11 : decode cX10_plainOf 11 = .ok (.iload_n 2, 1) := da9_dX10_plainOf_0.2.2.2.2.2.2.1
theorem dX10_plainOf_12 : decode cX10_plainOf 12 = .ok (.ifCond .ne 7, 3) := da9_dX10_plainOf_0.2.2.2.2.2.2.2.1
theorem dX10_plainOf_15 : decode cX10_plainOf 15 = .ok (.iconst 1, 1) := da9_dX10_plainOf_0.2.2.2.2.2.2.2.2.1
theorem dX10_plainOf_16 : decode cX10_plainOf 16 = .ok (.goto 4, 3) := da9_dX10_plainOf_0.2.2.2.2.2.2.2.2.2.1
theorem dX10_plainOf_19 : decode cX10_plainOf 19 = .ok (.iconst 0, 1) := da9_dX10_plainOf_0.2.2.2.2.2.2.2.2.2.2.1
theorem dX10_plainOf_20 : decode cX10_plainOf 20 = .ok (.istore_n 2, 1) := da9_dX10_plainOf_0.2.2.2.2.2.2.2.2.2.2.2.1
theorem dX10_plainOf_21 : decode cX10_plainOf 21 = .ok (.goto (-19), 3) := da9_dX10_plainOf_0.2.2.2.2.2.2.2.2.2.2.2.2.1
theorem dX10_plainOf_24 : decode cX10_plainOf 24 = .ok (.aload_n 0, 1) := da9_dX10_plainOf_0.2.2.2.2.2.2.2.2.2.2.2.2.2.1
theorem dX10_plainOf_25 : decode cX10_plainOf 25 = .ok (.iload_n 1, 1) := da9_dX10_plainOf_0.2.2.2.2.2.2.2.2.2.2.2.2.2.2.1
theorem dX10_plainOf_26 : decode cX10_plainOf 26 = .ok (.invokevirtual 329, 3) := da9_dX10_plainOf_0.2.2.2.2.2.2.2.2.2.2.2.2.2.2.2
theorem da9_dX10_plainOf_29 : (decode cX10_plainOf 29 = .ok (.iload_n 2, 1)) ∧ (decode cX10_plainOf 30 = .ok (.if_icmp .eq 7, 3)) ∧ (decode cX10_plainOf 33 = .ok (.iconst 1, 1)) ∧ (decode cX10_plainOf 34 = .ok (.goto 4, 3)) ∧ (decode cX10_plainOf 37 = .ok (.iconst 0, 1)) ∧ (decode cX10_plainOf 38 = .ok (.ireturn, 1)) := by decide +kernel
theorem dX10_plainOf_29 : decode cX10_plainOf 29 = .ok (.iload_n 2, 1) := da9_dX10_plainOf_29.1
theorem dX10_plainOf_30 : decode cX10_plainOf 30 = .ok (.if_icmp .eq 7, 3) := da9_dX10_plainOf_29.2.1
theorem dX10_plainOf_33 : decode cX10_plainOf 33 = .ok (.iconst 1, 1) := da9_dX10_plainOf_29.2.2.1
theorem dX10_plainOf_34 : decode cX10_plainOf 34 = .ok (.goto 4, 3) := da9_dX10_plainOf_29.2.2.2.1
theorem dX10_plainOf_37 : decode cX10_plainOf 37 = .ok (.iconst 0, 1) := da9_dX10_plainOf_29.2.2.2.2.1
theorem dX10_plainOf_38 : decode cX10_plainOf 38 = .ok (.ireturn, 1) := da9_dX10_plainOf_29.2.2.2.2.2
set_option maxRecDepth 20000 in
theorem ggX10_positiveOf_X10_sign : GoodIn wsX10_positiveOf wsX10_sign := wd_c vW10_ok mvW10_81
set_option maxRecDepth 20000 in
theorem gX10_positiveOf_X10_sign : GoodIn wsX10_positiveOf (va_wsS RX10 237 yX10_sign wsX10_sign) := goodIn_app (wd_l vW10_ok _ pvW10_171) ggX10_positiveOf_X10_sign
set_option maxRecDepth 20000 in
theorem ggX10_positiveOf_X10_passes0 : GoodIn wsX10_positiveOf wsX10_passes0 := wd_c vW10_ok mvW10_92
set_option maxRecDepth 20000 in
theorem gX10_positiveOf_X10_passes0 : GoodIn wsX10_positiveOf (wsV RX10 302 RX10 yX10_passes0 wsX10_passes0) := goodIn_app (wd_l vW10_ok _ pvW10_185) ggX10_positiveOf_X10_passes0
set_option maxRecDepth 20000 in
theorem ggX10_positiveOf_X10_testOf : GoodIn wsX10_positiveOf wsX10_testOf := wd_c vW10_ok mvW10_114
set_option maxRecDepth 20000 in
theorem gX10_positiveOf_X10_testOf : GoodIn wsX10_positiveOf (wsV RX10 332 RX10 yX10_testOf wsX10_testOf) := goodIn_app (wd_l vW10_ok _ pvW10_192) ggX10_positiveOf_X10_testOf
set_option maxRecDepth 20000 in
theorem ggX10_positiveOf_X10_sumOf : GoodIn wsX10_positiveOf wsX10_sumOf := wd_c vW10_ok mvW10_75
set_option maxRecDepth 20000 in
theorem gX10_positiveOf_X10_sumOf : GoodIn wsX10_positiveOf (wsV RX10 305 RX10 yX10_sumOf wsX10_sumOf) := goodIn_app (wd_l vW10_ok _ pvW10_186) ggX10_positiveOf_X10_sumOf
set_option maxRecDepth 20000 in
theorem ggX10_positiveOf_X10_codeAt : GoodIn wsX10_positiveOf wsX10_codeAt := wd_c vW10_ok mvW10_71
set_option maxRecDepth 20000 in
theorem gX10_positiveOf_X10_codeAt : GoodIn wsX10_positiveOf (wsV RX10 281 RX10 yX10_codeAt wsX10_codeAt) := goodIn_app (wd_l vW10_ok _ pvW10_181) ggX10_positiveOf_X10_codeAt
theorem da9_dX10_positiveOf_0 : (decode cX10_positiveOf 0 = .ok (.aload_n 0, 1)) ∧ (decode cX10_positiveOf 1 = .ok (.bipush 40, 2)) ∧ (decode cX10_positiveOf 3 = .ok (.invokestatic 237, 3)) ∧ (decode cX10_positiveOf 6 = .ok (.invokevirtual 302, 3)) ∧ (decode cX10_positiveOf 9 = .ok (.ifCond .eq 21, 3)) ∧ (decode cX10_positiveOf 12 = .ok (.aload_n 0, 1)) ∧ (decode cX10_positiveOf 13 = .ok (.iload_n 1, 1)) ∧ (decode cX10_positiveOf 14 = .ok (.invokevirtual 332, 3)) ∧ (decode cX10_positiveOf 17 = .ok (.istore_n 2, 1)) ∧ (decode cX10_positiveOf 18 = .ok (.aload_n 0, 1)) ∧ (decode cX10_positiveOf 19 = .ok (.dup, 1)) ∧ (decode cX10_positiveOf 20 = .ok (.getfield 278, 3)) ∧ (decode cX10_positiveOf 23 = .ok (.iconst 1, 1)) ∧ (decode cX10_positiveOf 24 = .ok (.iadd, 1)) ∧ (decode cX10_positiveOf 25 = .ok (.putfield 278, 3)) ∧ (decode cX10_positiveOf 28 = .ok (.iload_n 2, 1)) := by decide +kernel
theorem dX10_positiveOf_0 : decode cX10_positiveOf 0 = .ok (.aload_n 0, 1) := da9_dX10_positiveOf_0.1
theorem dX10_positiveOf_1 : decode cX10_positiveOf 1 = .ok (.bipush 40, 2) := da9_dX10_positiveOf_0.2.1
theorem dX10_positiveOf_3 : decode cX10_positiveOf 3 = .ok (.invokestatic 237, 3) := da9_dX10_positiveOf_0.2.2.1
theorem dX10_positiveOf_6 : decode cX10_positiveOf 6 = .ok (.invokevirtual 302, 3) := da9_dX10_positiveOf_0.2.2.2.1
theorem dX10_positiveOf_9 : decode cX10_positiveOf 9 = .ok (.ifCond .eq 21, 3) := da9_dX10_positiveOf_0.2.2.2.2.1
theorem dX10_positiveOf_12 : decode cX10_positiveOf 12 = .ok (.aload_n 0, 1) := da9_dX10_positiveOf_0.2.2.2.2.2.1
theorem dX10_positiveOf_13 : decode cX10_positiveOf 13 = .ok (.iload_n 1, 1) := da9_dX10_positiveOf_0.2.2.2.2.2.2.1
theorem dX10_positiveOf_14 : decode cX10_positiveOf 14 = .ok (.invokevirtual 332, 3) := da9_dX10_positiveOf_0.2.2.2.2.2.2.2.1
theorem dX10_positiveOf_17 : decode cX10_positiveOf 17 = .ok (.istore_n 2, 1) := da9_dX10_positiveOf_0.2.2.2.2.2.2.2.2.1
theorem dX10_positiveOf_18 : decode cX10_positiveOf 18 = .ok (.aload_n 0, 1) := da9_dX10_positiveOf_0.2.2.2.2.2.2.2.2.2.1
theorem dX10_positiveOf_19 : decode cX10_positiveOf 19 = .ok (.dup, 1) := da9_dX10_positiveOf_0.2.2.2.2.2.2.2.2.2.2.1
theorem dX10_positiveOf_20 : decode cX10_positiveOf 20 = .ok (.getfield 278, 3) := da9_dX10_positiveOf_0.2.2.2.2.2.2.2.2.2.2.2.1
theorem dX10_positiveOf_23 : decode cX10_positiveOf 23 = .ok (.iconst 1, 1) := da9_dX10_positiveOf_0.2.2.2.2.2.2.2.2.2.2.2.2.1
theorem dX10_positiveOf_24 : decode cX10_positiveOf 24 = .ok (.iadd, 1) := da9_dX10_positiveOf_0.2.2.2.2.2.2.2.2.2.2.2.2.2.1
theorem dX10_positiveOf_25 : decode cX10_positiveOf 25 = .ok (.putfield 278, 3) := da9_dX10_positiveOf_0.2.2.2.2.2.2.2.2.2.2.2.2.2.2.1
theorem dX10_positiveOf_28 : decode cX10_positiveOf 28 = .ok (.iload_n 2, 1) := da9_dX10_positiveOf_0.2.2.2.2.2.2.2.2.2.2.2.2.2.2.2
theorem da9_dX10_positiveOf_29 : (decode cX10_positiveOf 29 = .ok (.ireturn, 1)) ∧ (decode cX10_positiveOf 30 = .ok (.aload_n 0, 1)) ∧ (decode cX10_positiveOf 31 = .ok (.iload_n 1, 1)) ∧ (decode cX10_positiveOf 32 = .ok (.invokevirtual 305, 3)) ∧ (decode cX10_positiveOf 35 = .ok (.lstore_n 2, 1)) ∧ (decode cX10_positiveOf 36 = .ok (.aload_n 0, 1)) ∧ (decode cX10_positiveOf 37 = .ok (.aload_n 0, 1)) ∧ (decode cX10_positiveOf 38 = .ok (.getfield 278, 3)) ∧ (decode cX10_positiveOf 41 = .ok (.invokevirtual 281, 3)) ∧ (decode cX10_positiveOf 44 = .ok (.istore 4, 2)) ∧ (decode cX10_positiveOf 46 = .ok (.aload_n 0, 1)) ∧ (decode cX10_positiveOf 47 = .ok (.dup, 1)) ∧ (decode cX10_positiveOf 48 = .ok (.getfield 278, 3)) ∧ (decode cX10_positiveOf 51 = .ok (.iconst 1, 1)) ∧ (decode cX10_positiveOf 52 = .ok (.iadd, 1)) ∧ (decode cX10_positiveOf 53 = .ok (.putfield 278, 3)) := by decide +kernel
theorem dX10_positiveOf_29 : decode cX10_positiveOf 29 = .ok (.ireturn, 1) := da9_dX10_positiveOf_29.1
theorem dX10_positiveOf_30 : decode cX10_positiveOf 30 = .ok (.aload_n 0, 1) := da9_dX10_positiveOf_29.2.1
theorem dX10_positiveOf_31 : decode cX10_positiveOf 31 = .ok (.iload_n 1, 1) := da9_dX10_positiveOf_29.2.2.1
theorem dX10_positiveOf_32 : decode cX10_positiveOf 32 = .ok (.invokevirtual 305, 3) := da9_dX10_positiveOf_29.2.2.2.1
theorem dX10_positiveOf_35 : decode cX10_positiveOf 35 = .ok (.lstore_n 2, 1) := da9_dX10_positiveOf_29.2.2.2.2.1
theorem dX10_positiveOf_36 : decode cX10_positiveOf 36 = .ok (.aload_n 0, 1) := da9_dX10_positiveOf_29.2.2.2.2.2.1
theorem dX10_positiveOf_37 : decode cX10_positiveOf 37 = .ok (.aload_n 0, 1) := da9_dX10_positiveOf_29.2.2.2.2.2.2.1
theorem dX10_positiveOf_38 : decode cX10_positiveOf 38 = .ok (.getfield 278, 3) := da9_dX10_positiveOf_29.2.2.2.2.2.2.2.1
theorem dX10_positiveOf_41 : decode cX10_positiveOf 41 = .ok (.invokevirtual 281, 3) := da9_dX10_positiveOf_29.2.2.2.2.2.2.2.2.1
theorem dX10_positiveOf_44 : decode cX10_positiveOf 44 = .ok (.istore 4, 2) := da9_dX10_positiveOf_29.2.2.2.2.2.2.2.2.2.1
theorem dX10_positiveOf_46 : decode cX10_positiveOf 46 = .ok (.aload_n 0, 1) := da9_dX10_positiveOf_29.2.2.2.2.2.2.2.2.2.2.1
theorem dX10_positiveOf_47 : decode cX10_positiveOf 47 = .ok (.dup, 1) := da9_dX10_positiveOf_29.2.2.2.2.2.2.2.2.2.2.2.1
theorem dX10_positiveOf_48 : decode cX10_positiveOf 48 = .ok (.getfield 278, 3) := da9_dX10_positiveOf_29.2.2.2.2.2.2.2.2.2.2.2.2.1
theorem dX10_positiveOf_51 : decode cX10_positiveOf 51 = .ok (.iconst 1, 1) := da9_dX10_positiveOf_29.2.2.2.2.2.2.2.2.2.2.2.2.2.1
theorem dX10_positiveOf_52 : decode cX10_positiveOf 52 = .ok (.iadd, 1) := da9_dX10_positiveOf_29.2.2.2.2.2.2.2.2.2.2.2.2.2.2.1
theorem dX10_positiveOf_53 : decode cX10_positiveOf 53 = .ok (.putfield 278, 3) := da9_dX10_positiveOf_29.2.2.2.2.2.2.2.2.2.2.2.2.2.2.2
theorem da9_dX10_positiveOf_56 : (decode cX10_positiveOf 56 = .ok (.aload_n 0, 1)) ∧ (decode cX10_positiveOf 57 = .ok (.iload_n 1, 1)) ∧ (decode cX10_positiveOf 58 = .ok (.invokevirtual 305, 3)) ∧ (decode cX10_positiveOf 61 = .ok (.lstore 5, 2)) ∧ (decode cX10_positiveOf 63 = .ok (.iload_n 1, 1)) ∧ (decode cX10_positiveOf 64 = .ok (.ifCond .eq 61, 3)) ∧ (decode cX10_positiveOf 67 = .ok (.aload_n 0, 1)) ∧ (decode cX10_positiveOf 68 = .ok (.getfield 288, 3)) ∧ (decode cX10_positiveOf 71 = .ok (.ifCond .ne 54, 3)) ∧ (decode cX10_positiveOf 74 = .ok (.iload 4, 2)) ∧ (decode cX10_positiveOf 76 = .ok (.bipush 60, 2)) ∧ (decode cX10_positiveOf 78 = .ok (.invokestatic 237, 3)) ∧ (decode cX10_positiveOf 81 = .ok (.if_icmp .ne 13, 3)) ∧ (decode cX10_positiveOf 84 = .ok (.lload_n 2, 1)) ∧ (decode cX10_positiveOf 85 = .ok (.lload 5, 2)) ∧ (decode cX10_positiveOf 87 = .ok (.lcmp, 1)) := by decide +kernel
theorem dX10_positiveOf_56 : decode cX10_positiveOf 56 = .ok (.aload_n 0, 1) := da9_dX10_positiveOf_56.1
theorem dX10_positiveOf_57 : decode cX10_positiveOf 57 = .ok (.iload_n 1, 1) := da9_dX10_positiveOf_56.2.1
theorem dX10_positiveOf_58 : decode cX10_positiveOf 58 = .ok (.invokevirtual 305, 3) := da9_dX10_positiveOf_56.2.2.1
theorem dX10_positiveOf_61 : decode cX10_positiveOf 61 = .ok (.lstore 5, 2) := da9_dX10_positiveOf_56.2.2.2.1
theorem dX10_positiveOf_63 : decode cX10_positiveOf 63 = .ok (.iload_n 1, 1) := da9_dX10_positiveOf_56.2.2.2.2.1
theorem dX10_positiveOf_64 : decode cX10_positiveOf 64 = .ok (.ifCond .eq 61, 3) := da9_dX10_positiveOf_56.2.2.2.2.2.1
theorem dX10_positiveOf_67 : decode cX10_positiveOf 67 = .ok (.aload_n 0, 1) := da9_dX10_positiveOf_56.2.2.2.2.2.2.1
theorem dX10_positiveOf_68 : decode cX10_positiveOf 68 = .ok (.getfield 288, 3) := da9_dX10_positiveOf_56.2.2.2.2.2.2.2.1
theorem dX10_positiveOf_71 : decode cX10_positiveOf 71 = .ok (.ifCond .ne 54, 3) := da9_dX10_positiveOf_56.2.2.2.2.2.2.2.2.1
theorem dX10_positiveOf_74 : decode cX10_positiveOf 74 = .ok (.iload 4, 2) := da9_dX10_positiveOf_56.2.2.2.2.2.2.2.2.2.1
theorem dX10_positiveOf_76 : decode cX10_positiveOf 76 = .ok (.bipush 60, 2) := da9_dX10_positiveOf_56.2.2.2.2.2.2.2.2.2.2.1
theorem dX10_positiveOf_78 : decode cX10_positiveOf 78 = .ok (.invokestatic 237, 3) := da9_dX10_positiveOf_56.2.2.2.2.2.2.2.2.2.2.2.1
theorem dX10_positiveOf_81 : decode cX10_positiveOf 81 = .ok (.if_icmp .ne 13, 3) := da9_dX10_positiveOf_56.2.2.2.2.2.2.2.2.2.2.2.2.1
theorem dX10_positiveOf_84 : decode cX10_positiveOf 84 = .ok (.lload_n 2, 1) := da9_dX10_positiveOf_56.2.2.2.2.2.2.2.2.2.2.2.2.2.1
theorem dX10_positiveOf_85 : decode cX10_positiveOf 85 = .ok (.lload 5, 2) := da9_dX10_positiveOf_56.2.2.2.2.2.2.2.2.2.2.2.2.2.2.1
theorem dX10_positiveOf_87 : decode cX10_positiveOf 87 = .ok (.lcmp, 1) := da9_dX10_positiveOf_56.2.2.2.2.2.2.2.2.2.2.2.2.2.2.2
theorem da9_dX10_positiveOf_88 : (decode cX10_positiveOf 88 = .ok (.ifCond .ge 37, 3)) ∧ (decode cX10_positiveOf 91 = .ok (.goto 30, 3)) ∧ (decode cX10_positiveOf 94 = .ok (.iload 4, 2)) ∧ (decode cX10_positiveOf 96 = .ok (.bipush 62, 2)) ∧ (decode cX10_positiveOf 98 = .ok (.invokestatic 237, 3)) ∧ (decode cX10_positiveOf 101 = .ok (.if_icmp .ne 13, 3)) ∧ (decode cX10_positiveOf 104 = .ok (.lload_n 2, 1)) ∧ (decode cX10_positiveOf 105 = .ok (.lload 5, 2)) ∧ (decode cX10_positiveOf 107 = .ok (.lcmp, 1)) ∧ (decode cX10_positiveOf 108 = .ok (.ifCond .le 17, 3)) ∧ (decode cX10_positiveOf 111 = .ok (.goto 10, 3)) ∧ (decode cX10_positiveOf 114 = .ok (.lload_n 2, 1)) ∧ (decode cX10_positiveOf 115 = .ok (.lload 5, 2)) ∧ (decode cX10_positiveOf 117 = .ok (.lcmp, 1)) ∧ (decode cX10_positiveOf 118 = .ok (.ifCond .ne 7, 3)) ∧ (decode cX10_positiveOf 121 = .ok (.iconst 1, 1)) := by decide +kernel
theorem dX10_positiveOf_88 : decode cX10_positiveOf 88 = .ok (.ifCond .ge 37, 3) := da9_dX10_positiveOf_88.1
theorem dX10_positiveOf_91 : decode cX10_positiveOf 91 = .ok (.goto 30, 3) := da9_dX10_positiveOf_88.2.1
theorem dX10_positiveOf_94 : decode cX10_positiveOf 94 = .ok (.iload 4, 2) := da9_dX10_positiveOf_88.2.2.1
theorem dX10_positiveOf_96 : decode cX10_positiveOf 96 = .ok (.bipush 62, 2) := da9_dX10_positiveOf_88.2.2.2.1
theorem dX10_positiveOf_98 : decode cX10_positiveOf 98 = .ok (.invokestatic 237, 3) := da9_dX10_positiveOf_88.2.2.2.2.1
theorem dX10_positiveOf_101 : decode cX10_positiveOf 101 = .ok (.if_icmp .ne 13, 3) := da9_dX10_positiveOf_88.2.2.2.2.2.1
theorem dX10_positiveOf_104 : decode cX10_positiveOf 104 = .ok (.lload_n 2, 1) := da9_dX10_positiveOf_88.2.2.2.2.2.2.1
theorem dX10_positiveOf_105 : decode cX10_positiveOf 105 = .ok (.lload 5, 2) := da9_dX10_positiveOf_88.2.2.2.2.2.2.2.1
theorem dX10_positiveOf_107 : decode cX10_positiveOf 107 = .ok (.lcmp, 1) := da9_dX10_positiveOf_88.2.2.2.2.2.2.2.2.1
theorem dX10_positiveOf_108 : decode cX10_positiveOf 108 = .ok (.ifCond .le 17, 3) := da9_dX10_positiveOf_88.2.2.2.2.2.2.2.2.2.1
theorem dX10_positiveOf_111 : decode cX10_positiveOf 111 = .ok (.goto 10, 3) := da9_dX10_positiveOf_88.2.2.2.2.2.2.2.2.2.2.1
theorem dX10_positiveOf_114 : decode cX10_positiveOf 114 = .ok (.lload_n 2, 1) := da9_dX10_positiveOf_88.2.2.2.2.2.2.2.2.2.2.2.1
theorem dX10_positiveOf_115 : decode cX10_positiveOf 115 = .ok (.lload 5, 2) := da9_dX10_positiveOf_88.2.2.2.2.2.2.2.2.2.2.2.2.1
theorem dX10_positiveOf_117 : decode cX10_positiveOf 117 = .ok (.lcmp, 1) := da9_dX10_positiveOf_88.2.2.2.2.2.2.2.2.2.2.2.2.2.1
theorem dX10_positiveOf_118 : decode cX10_positiveOf 118 = .ok (.ifCond .ne 7, 3) := da9_dX10_positiveOf_88.2.2.2.2.2.2.2.2.2.2.2.2.2.2.1
theorem dX10_positiveOf_121 : decode cX10_positiveOf 121 = .ok (.iconst 1, 1) := da9_dX10_positiveOf_88.2.2.2.2.2.2.2.2.2.2.2.2.2.2.2
theorem da9_dX10_positiveOf_122 : (decode cX10_positiveOf 122 = .ok (.goto 4, 3)) ∧ (decode cX10_positiveOf 125 = .ok (.iconst 0, 1)) ∧ (decode cX10_positiveOf 126 = .ok (.ireturn, 1)) := by decide +kernel
theorem dX10_positiveOf_122 : decode cX10_positiveOf 122 = .ok (.goto 4, 3) := da9_dX10_positiveOf_122.1
theorem dX10_positiveOf_125 : decode cX10_positiveOf 125 = .ok (.iconst 0, 1) := da9_dX10_positiveOf_122.2.1
theorem dX10_positiveOf_126 : decode cX10_positiveOf 126 = .ok (.ireturn, 1) := da9_dX10_positiveOf_122.2.2
end
section
theorem u9_wsX10_termOf_X10 : ∀ w ∈ u_ws RX10 TX10 56, w ∈ wsX10_termOf := fun w h => List.mem_cons_of_mem _ (vW10_wsX100 w h)
theorem f9_wsX10_termOf_57 : (Cond.fieldLink RX10 288 "TurnedFloorsModel" "broken" "Z") ∈ wsX10_termOf := List.mem_cons_of_mem _ mvW10_66
theorem f9_wsX10_termOf_58 : (Cond.fieldLink RX10 278 "TurnedFloorsModel" "go" "I") ∈ wsX10_termOf := List.mem_cons_of_mem _ mvW10_64
theorem u9_wsX10_sumOf_X10 : ∀ w ∈ u_ws RX10 TX10 56, w ∈ wsX10_sumOf := fun w h => List.mem_cons_of_mem _ (vW10_wsX100 w h)
theorem f9_wsX10_sumOf_60 : (Cond.fieldLink RX10 278 "TurnedFloorsModel" "go" "I") ∈ wsX10_sumOf := List.mem_cons_of_mem _ mvW10_64
set_option maxHeartbeats 4000000 in
set_option maxRecDepth 100000 in
theorem WX10_termOf_160 {p : Program} {l : Launch} {e : Env} {s : State} {m : MethodId} {args : Array Value} {below : List Frame} {meth : Method} {c : Code} {D : va_G} {ty : Nat → ClassId} {eo : Nat → Nat} {A : Nat → Prop} {ad : Nat → Nat} {o1 : Int64} {o2 : dS} {kU : dS → Int32 → Option (Int64 × dS)} {nU : Nat} (hkU : ∀ (sz : Nat) (q : dS) (p1 : Int32) (o1 : Int64) (o2 : dS), kU q p1 = some (o1, o2) → Met l yX10_sumOf wsX10_sumOf ({ frames := 12 + 3 * nU, cells := 0, slots := 0, locals := 400 + 75 * nU } : Room) (va_Pc [.ref (ad 0), .int p1] (kz_pre D ty eo (w10 ty ad q) sz)) (va_Ql (fun (r : Int64) (u : va_W) => o1 = r ∧ w10 ty ad o2 = u) (kz_B D ty (va_A (w10 ty ad q) sz)) (va_A (w10 ty ad q) sz)) 0 0 (va_A (w10 ty ad q) sz)) (C : dc_C p s m args meth c cX10_termOf (some .long) 7 RX10 wsX10_termOf D ty eo A) {k6 : dS → Int32 → Int64 → Option (Int64 × dS)} (hk6 : ∀ (q : dS) (x1 : Int32) (x2 : Int64) (H : Heap) (locs : List Loc) (ls : Array Slot), k6 q x1 x2 = some (o1, o2) → va_P D vwCl (w10 ty ad q) H → va_D A (w10 ty ad q) → va_S A s.heap H locs → lv_has ls 7 [(0, .ref (ad 0)), (1, .int x1), (2, .long x2)] → W p l e ({ frames := 12 + 3 * nU + 2, cells := 0, slots := 0, locals := 400 + 75 * nU + 49 } : Room) s m args below meth c H locs 0 0 (MQ below (va_Ql (fun (r : Int64) (u : va_W) => o1 = r ∧ w10 ty ad o2 = u) (kz_B D ty A) A) args s 0 0 A) (F0 m 6 ls [])) (q : dS) (x1 : Int32) (y0 : Int64) (H : Heap) (locs : List Loc) (ls : Array Slot) (h : zX10_termOf_160 kU k6 q x1 y0 = some (o1, o2)) (hP : va_P D vwCl (w10 ty ad q) H) (hD : va_D A (w10 ty ad q)) (hS : va_S A s.heap H locs) (hl : lv_has ls 7 [(0, .ref (ad 0)), (1, .int x1)]) : W p l e ({ frames := 12 + 3 * nU + 2, cells := 0, slots := 0, locals := 400 + 75 * nU + 49 } : Room) s m args below meth c H locs 0 0 (MQ below (va_Ql (fun (r : Int64) (u : va_W) => o1 = r ∧ w10 ty ad o2 = u) (kz_B D ty A) A) args s 0 0 A) (F0 m 160 ls [.long y0, .ref (ad 0)]) := by
  have C0 := C
  obtain ⟨hx, hb, hr, hts, hown, hlocks, hml, hK, hN, hE, hA⟩ := C
  unfold zX10_termOf_160 at h
  refine lv_iload_n hx hb dX10_termOf_160 rfl (lv_at hl 1 rfl) ?_
  obtain ⟨r1, q3, h2, h⟩ := dB_some h
  refine dw_kl (va_runV (As := [.long y0, .int x1]) (rest := []) ⟨hx, hb, hml, hown, hts⟩ (qX10_bounded l D ty eo _ ad q y0 x1 r1 q3 h2) (cwV 2 hts gX10_termOf_X10_bounded rfl rfl rfl hd_X10_bounded_v ⟨by dsimp only [headSpec]; omega, by dsimp only [headSpec]; omega⟩) (pv10_10_0 hK hN hE hP hD hS hA) rfl rfl hl.1 rfl (lv_room (Nat.le_of_ble_eq_true rfl)) dX10_termOf_161 ⟨Nat.le_of_ble_eq_true rfl, Nat.le_of_ble_eq_true rfl⟩) hD hS hA (fun r9 u9 H locs hw hp hd hs => ?_)
  clear hP hD hS
  obtain ⟨rfl, rfl⟩ := hw
  have hP := hp; have hD := hd; have hS := hs; clear hp hd hs
  refine lv_lstore_n (lv' := [(2, .long r1), (0, .ref (ad 0)), (1, .int x1)]) hx hb dX10_termOf_164 rfl hl (by decide) rfl (fun ls hl => ?_)
  refine lv_goto (tgt := 6) hx hb dX10_termOf_165 (by decide) ?_
  exact hk6 _ _ _ _ _ _ h hP hD hS (lv_sub hl [1, 2, 0] rfl)
set_option maxHeartbeats 4000000 in
set_option maxRecDepth 100000 in
theorem WX10_termOf_121 {p : Program} {l : Launch} {e : Env} {s : State} {m : MethodId} {args : Array Value} {below : List Frame} {meth : Method} {c : Code} {D : va_G} {ty : Nat → ClassId} {eo : Nat → Nat} {A : Nat → Prop} {ad : Nat → Nat} {o1 : Int64} {o2 : dS} {kU : dS → Int32 → Option (Int64 × dS)} {nU : Nat} (hkU : ∀ (sz : Nat) (q : dS) (p1 : Int32) (o1 : Int64) (o2 : dS), kU q p1 = some (o1, o2) → Met l yX10_sumOf wsX10_sumOf ({ frames := 12 + 3 * nU, cells := 0, slots := 0, locals := 400 + 75 * nU } : Room) (va_Pc [.ref (ad 0), .int p1] (kz_pre D ty eo (w10 ty ad q) sz)) (va_Ql (fun (r : Int64) (u : va_W) => o1 = r ∧ w10 ty ad o2 = u) (kz_B D ty (va_A (w10 ty ad q) sz)) (va_A (w10 ty ad q) sz)) 0 0 (va_A (w10 ty ad q) sz)) (C : dc_C p s m args meth c cX10_termOf (some .long) 7 RX10 wsX10_termOf D ty eo A) {k6 : dS → Int32 → Int64 → Option (Int64 × dS)} (hk6 : ∀ (q : dS) (x1 : Int32) (x2 : Int64) (H : Heap) (locs : List Loc) (ls : Array Slot), k6 q x1 x2 = some (o1, o2) → va_P D vwCl (w10 ty ad q) H → va_D A (w10 ty ad q) → va_S A s.heap H locs → lv_has ls 7 [(0, .ref (ad 0)), (1, .int x1), (2, .long x2)] → W p l e ({ frames := 12 + 3 * nU + 2, cells := 0, slots := 0, locals := 400 + 75 * nU + 49 } : Room) s m args below meth c H locs 0 0 (MQ below (va_Ql (fun (r : Int64) (u : va_W) => o1 = r ∧ w10 ty ad o2 = u) (kz_B D ty A) A) args s 0 0 A) (F0 m 6 ls [])) (q : dS) (x1 : Int32) (x2 : Int64) (x4 : Int32) (x5 : Int64) (H : Heap) (locs : List Loc) (ls : Array Slot) (h : zX10_termOf_121 kU k6 q x1 x2 x4 x5 = some (o1, o2)) (hP : va_P D vwCl (w10 ty ad q) H) (hD : va_D A (w10 ty ad q)) (hS : va_S A s.heap H locs) (hl : lv_has ls 7 [(0, .ref (ad 0)), (1, .int x1), (2, .long x2), (4, .int x4), (5, .long x5)]) : W p l e ({ frames := 12 + 3 * nU + 2, cells := 0, slots := 0, locals := 400 + 75 * nU + 49 } : Room) s m args below meth c H locs 0 0 (MQ below (va_Ql (fun (r : Int64) (u : va_W) => o1 = r ∧ w10 ty ad o2 = u) (kz_B D ty A) A) args s 0 0 A) (F0 m 121 ls []) := by
  have C0 := C
  obtain ⟨hx, hb, hr, hts, hown, hlocks, hml, hK, hN, hE, hA⟩ := C
  unfold zX10_termOf_121 at h
  refine lv_aload_n hx hb dX10_termOf_121 rfl (lv_at hl 0 rfl) ?_
  refine lv_iload hx hb dX10_termOf_122 (lv_at hl 3 rfl) ?_
  refine lv_bipush (v := 42) hx hb dX10_termOf_124 (by decide) ?_
  obtain ⟨r1, h2, h⟩ := dV_some h
  refine dw_ks (va_runS (As := [.int 42]) (rest := [.int x4, .ref (ad 0)]) ⟨hx, hb, hml, hown, hts⟩ (qX10_sign l D ty eo _ 42 _ h2) (va_cwS 1 hts gX10_termOf_X10_sign rfl rfl rfl hd_X10_sign ⟨by dsimp only [headSpec]; omega, by dsimp only [headSpec]; omega⟩) (pvS_0 hK hN hE hP hD hS hA) rfl rfl hl.1 rfl (lv_room (Nat.le_of_ble_eq_true rfl)) dX10_termOf_126 ⟨Nat.le_of_ble_eq_true rfl, Nat.le_of_ble_eq_true rfl⟩) hP hD hS hA (fun _ _ h9 => h9.2.symm) (fun r9 u9 H locs hw hp hd hs => ?_)
  obtain ⟨rfl, -⟩ := hw
  clear hP hD hS
  have hP := hp; have hD := hd; have hS := hs; clear hp hd hs
  refine lv_icmp_ne (tgt := 139) hx hb dX10_termOf_129 (by decide) (fun c9 => ?_) (fun c9 => ?_)
  · rw [if_neg c9] at h
    refine lv_iload hx hb dX10_termOf_139 (lv_at hl 3 rfl) ?_
    refine lv_bipush (v := 47) hx hb dX10_termOf_141 (by decide) ?_
    obtain ⟨r3, h4, h⟩ := dV_some h
    refine dw_ks (va_runS (As := [.int 47]) (rest := [.int x4, .ref (ad 0)]) ⟨hx, hb, hml, hown, hts⟩ (qX10_sign l D ty eo _ 47 _ h4) (va_cwS 1 hts gX10_termOf_X10_sign rfl rfl rfl hd_X10_sign ⟨by dsimp only [headSpec]; omega, by dsimp only [headSpec]; omega⟩) (pvS_0 hK hN hE hP hD hS hA) rfl rfl hl.1 rfl (lv_room (Nat.le_of_ble_eq_true rfl)) dX10_termOf_143 ⟨Nat.le_of_ble_eq_true rfl, Nat.le_of_ble_eq_true rfl⟩) hP hD hS hA (fun _ _ h9 => h9.2.symm) (fun r9 u9 H locs hw hp hd hs => ?_)
    obtain ⟨rfl, -⟩ := hw
    clear hP hD hS
    have hP := hp; have hD := hd; have hS := hs; clear hp hd hs
    refine lv_icmp_ne (tgt := 156) hx hb dX10_termOf_146 (by decide) (fun c9 => ?_) (fun c9 => ?_)
    · rw [if_neg c9] at h
      refine lv_lload_n hx hb dX10_termOf_156 rfl (lv_at hl 2 rfl) ?_
      refine lv_lload hx hb dX10_termOf_157 (lv_at hl 4 rfl) ?_
      obtain ⟨g5, h⟩ := dG_some h
      refine lv_lrem hx hb dX10_termOf_159 (dnl_ne g5) ?_
      exact WX10_termOf_160 hkU C0 hk6 _ _ _ _ _ _ h hP hD hS (lv_sub hl [0, 1] rfl)
    · rw [if_pos c9] at h
      refine lv_lload_n hx hb dX10_termOf_149 rfl (lv_at hl 2 rfl) ?_
      refine lv_lload hx hb dX10_termOf_150 (lv_at hl 4 rfl) ?_
      obtain ⟨g6, h⟩ := dG_some h
      refine lv_ldiv hx hb dX10_termOf_152 (dnl_ne g6) ?_
      refine lv_goto (tgt := 160) hx hb dX10_termOf_153 (by decide) ?_
      exact WX10_termOf_160 hkU C0 hk6 _ _ _ _ _ _ h hP hD hS (lv_sub hl [0, 1] rfl)
  · rw [if_pos c9] at h
    refine lv_lload_n hx hb dX10_termOf_132 rfl (lv_at hl 2 rfl) ?_
    refine lv_lload hx hb dX10_termOf_133 (lv_at hl 4 rfl) ?_
    refine lv_lmul hx hb dX10_termOf_135 ?_
    refine lv_goto (tgt := 160) hx hb dX10_termOf_136 (by decide) ?_
    exact WX10_termOf_160 hkU C0 hk6 _ _ _ _ _ _ h hP hD hS (lv_sub hl [0, 1] rfl)
set_option maxHeartbeats 4000000 in
set_option maxRecDepth 100000 in
theorem WX10_termOf_115 {p : Program} {l : Launch} {e : Env} {s : State} {m : MethodId} {args : Array Value} {below : List Frame} {meth : Method} {c : Code} {D : va_G} {ty : Nat → ClassId} {eo : Nat → Nat} {A : Nat → Prop} {ad : Nat → Nat} {o1 : Int64} {o2 : dS} {kU : dS → Int32 → Option (Int64 × dS)} {nU : Nat} (hkU : ∀ (sz : Nat) (q : dS) (p1 : Int32) (o1 : Int64) (o2 : dS), kU q p1 = some (o1, o2) → Met l yX10_sumOf wsX10_sumOf ({ frames := 12 + 3 * nU, cells := 0, slots := 0, locals := 400 + 75 * nU } : Room) (va_Pc [.ref (ad 0), .int p1] (kz_pre D ty eo (w10 ty ad q) sz)) (va_Ql (fun (r : Int64) (u : va_W) => o1 = r ∧ w10 ty ad o2 = u) (kz_B D ty (va_A (w10 ty ad q) sz)) (va_A (w10 ty ad q) sz)) 0 0 (va_A (w10 ty ad q) sz)) (C : dc_C p s m args meth c cX10_termOf (some .long) 7 RX10 wsX10_termOf D ty eo A) {k6 : dS → Int32 → Int64 → Option (Int64 × dS)} (hk6 : ∀ (q : dS) (x1 : Int32) (x2 : Int64) (H : Heap) (locs : List Loc) (ls : Array Slot), k6 q x1 x2 = some (o1, o2) → va_P D vwCl (w10 ty ad q) H → va_D A (w10 ty ad q) → va_S A s.heap H locs → lv_has ls 7 [(0, .ref (ad 0)), (1, .int x1), (2, .long x2)] → W p l e ({ frames := 12 + 3 * nU + 2, cells := 0, slots := 0, locals := 400 + 75 * nU + 49 } : Room) s m args below meth c H locs 0 0 (MQ below (va_Ql (fun (r : Int64) (u : va_W) => o1 = r ∧ w10 ty ad o2 = u) (kz_B D ty A) A) args s 0 0 A) (F0 m 6 ls [])) (q : dS) (x1 : Int32) (x2 : Int64) (x4 : Int32) (y0 : Int32) (H : Heap) (locs : List Loc) (ls : Array Slot) (h : zX10_termOf_115 kU k6 q x1 x2 x4 y0 = some (o1, o2)) (hP : va_P D vwCl (w10 ty ad q) H) (hD : va_D A (w10 ty ad q)) (hS : va_S A s.heap H locs) (hl : lv_has ls 7 [(0, .ref (ad 0)), (1, .int x1), (2, .long x2), (4, .int x4)]) : W p l e ({ frames := 12 + 3 * nU + 2, cells := 0, slots := 0, locals := 400 + 75 * nU + 49 } : Room) s m args below meth c H locs 0 0 (MQ below (va_Ql (fun (r : Int64) (u : va_W) => o1 = r ∧ w10 ty ad o2 = u) (kz_B D ty A) A) args s 0 0 A) (F0 m 115 ls [.int y0, .ref (ad 0)]) := by
  have C0 := C
  obtain ⟨hx, hb, hr, hts, hown, hlocks, hml, hK, hN, hE, hA⟩ := C
  unfold zX10_termOf_115 at h
  obtain ⟨g1, h⟩ := dG_some h
  refine va_put (D := D) (ci := 10) (v := .int y0) (ty := .boolean) (C := RX10) (T := TX10) (N := 56) hx hb hts u9_wsX10_termOf_X10 tyX10 tyX10_ok nmX10 hown hK hP hD hS 0 rfl rfl 24 (by decide) (hts (.fieldLink RX10 288 "TurnedFloorsModel" "broken" "Z") f9_wsX10_termOf_57) (fun _ h9 => h9) rfl (by decide +kernel) (dbl_nar g1) (dbl_fit g1) (Nat.le_of_ble_eq_true rfl) dX10_termOf_115 (fun H locs hp hd hs => ?_)
  obtain ⟨q2, eq2, h⟩ := dL_some h
  refine kz_re (w2 := w10 ty ad q2) hp hd hs (by rw [← eq2]; exact w10_f24 ty ad q y0) ?_
  clear hp hd hs hP hD hS
  intro hP hD hS
  refine lv_lconst (v := 1) hx hb dX10_termOf_118 (by decide) ?_
  refine lv_lstore (lv' := [(5, .long 1), (0, .ref (ad 0)), (1, .int x1), (2, .long x2), (4, .int x4)]) hx hb dX10_termOf_119 hl (by decide) rfl (fun ls hl => ?_)
  exact WX10_termOf_121 hkU C0 hk6 _ _ _ _ _ _ _ _ h hP hD hS (lv_sub hl [1, 2, 3, 4, 0] rfl)
set_option maxHeartbeats 4000000 in
set_option maxRecDepth 100000 in
theorem WX10_termOf_110 {p : Program} {l : Launch} {e : Env} {s : State} {m : MethodId} {args : Array Value} {below : List Frame} {meth : Method} {c : Code} {D : va_G} {ty : Nat → ClassId} {eo : Nat → Nat} {A : Nat → Prop} {ad : Nat → Nat} {o1 : Int64} {o2 : dS} {kU : dS → Int32 → Option (Int64 × dS)} {nU : Nat} (hkU : ∀ (sz : Nat) (q : dS) (p1 : Int32) (o1 : Int64) (o2 : dS), kU q p1 = some (o1, o2) → Met l yX10_sumOf wsX10_sumOf ({ frames := 12 + 3 * nU, cells := 0, slots := 0, locals := 400 + 75 * nU } : Room) (va_Pc [.ref (ad 0), .int p1] (kz_pre D ty eo (w10 ty ad q) sz)) (va_Ql (fun (r : Int64) (u : va_W) => o1 = r ∧ w10 ty ad o2 = u) (kz_B D ty (va_A (w10 ty ad q) sz)) (va_A (w10 ty ad q) sz)) 0 0 (va_A (w10 ty ad q) sz)) (C : dc_C p s m args meth c cX10_termOf (some .long) 7 RX10 wsX10_termOf D ty eo A) {k6 : dS → Int32 → Int64 → Option (Int64 × dS)} (hk6 : ∀ (q : dS) (x1 : Int32) (x2 : Int64) (H : Heap) (locs : List Loc) (ls : Array Slot), k6 q x1 x2 = some (o1, o2) → va_P D vwCl (w10 ty ad q) H → va_D A (w10 ty ad q) → va_S A s.heap H locs → lv_has ls 7 [(0, .ref (ad 0)), (1, .int x1), (2, .long x2)] → W p l e ({ frames := 12 + 3 * nU + 2, cells := 0, slots := 0, locals := 400 + 75 * nU + 49 } : Room) s m args below meth c H locs 0 0 (MQ below (va_Ql (fun (r : Int64) (u : va_W) => o1 = r ∧ w10 ty ad o2 = u) (kz_B D ty A) A) args s 0 0 A) (F0 m 6 ls [])) (q : dS) (x1 : Int32) (x2 : Int64) (x4 : Int32) (H : Heap) (locs : List Loc) (ls : Array Slot) (h : zX10_termOf_110 kU k6 q x1 x2 x4 = some (o1, o2)) (hP : va_P D vwCl (w10 ty ad q) H) (hD : va_D A (w10 ty ad q)) (hS : va_S A s.heap H locs) (hl : lv_has ls 7 [(0, .ref (ad 0)), (1, .int x1), (2, .long x2), (4, .int x4)]) : W p l e ({ frames := 12 + 3 * nU + 2, cells := 0, slots := 0, locals := 400 + 75 * nU + 49 } : Room) s m args below meth c H locs 0 0 (MQ below (va_Ql (fun (r : Int64) (u : va_W) => o1 = r ∧ w10 ty ad o2 = u) (kz_B D ty A) A) args s 0 0 A) (F0 m 110 ls [.ref (ad 0)]) := by
  have C0 := C
  obtain ⟨hx, hb, hr, hts, hown, hlocks, hml, hK, hN, hE, hA⟩ := C
  unfold zX10_termOf_110 at h
  refine lv_iconst (v := 1) hx hb dX10_termOf_110 (by decide) ?_
  refine lv_goto (tgt := 115) hx hb dX10_termOf_111 (by decide) ?_
  exact WX10_termOf_115 hkU C0 hk6 _ _ _ _ _ _ _ _ h hP hD hS (lv_sub hl [0, 1, 2, 3] rfl)
set_option maxHeartbeats 4000000 in
set_option maxRecDepth 100000 in
theorem WX10_termOf_54 {p : Program} {l : Launch} {e : Env} {s : State} {m : MethodId} {args : Array Value} {below : List Frame} {meth : Method} {c : Code} {D : va_G} {ty : Nat → ClassId} {eo : Nat → Nat} {A : Nat → Prop} {ad : Nat → Nat} {o1 : Int64} {o2 : dS} {kU : dS → Int32 → Option (Int64 × dS)} {nU : Nat} (hkU : ∀ (sz : Nat) (q : dS) (p1 : Int32) (o1 : Int64) (o2 : dS), kU q p1 = some (o1, o2) → Met l yX10_sumOf wsX10_sumOf ({ frames := 12 + 3 * nU, cells := 0, slots := 0, locals := 400 + 75 * nU } : Room) (va_Pc [.ref (ad 0), .int p1] (kz_pre D ty eo (w10 ty ad q) sz)) (va_Ql (fun (r : Int64) (u : va_W) => o1 = r ∧ w10 ty ad o2 = u) (kz_B D ty (va_A (w10 ty ad q) sz)) (va_A (w10 ty ad q) sz)) 0 0 (va_A (w10 ty ad q) sz)) (C : dc_C p s m args meth c cX10_termOf (some .long) 7 RX10 wsX10_termOf D ty eo A) {k6 : dS → Int32 → Int64 → Option (Int64 × dS)} (hk6 : ∀ (q : dS) (x1 : Int32) (x2 : Int64) (H : Heap) (locs : List Loc) (ls : Array Slot), k6 q x1 x2 = some (o1, o2) → va_P D vwCl (w10 ty ad q) H → va_D A (w10 ty ad q) → va_S A s.heap H locs → lv_has ls 7 [(0, .ref (ad 0)), (1, .int x1), (2, .long x2)] → W p l e ({ frames := 12 + 3 * nU + 2, cells := 0, slots := 0, locals := 400 + 75 * nU + 49 } : Room) s m args below meth c H locs 0 0 (MQ below (va_Ql (fun (r : Int64) (u : va_W) => o1 = r ∧ w10 ty ad o2 = u) (kz_B D ty A) A) args s 0 0 A) (F0 m 6 ls [])) (q : dS) (x1 : Int32) (x2 : Int64) (H : Heap) (locs : List Loc) (ls : Array Slot) (h : zX10_termOf_54 kU k6 q x1 x2 = some (o1, o2)) (hP : va_P D vwCl (w10 ty ad q) H) (hD : va_D A (w10 ty ad q)) (hS : va_S A s.heap H locs) (hl : lv_has ls 7 [(0, .ref (ad 0)), (1, .int x1), (2, .long x2)]) : W p l e ({ frames := 12 + 3 * nU + 2, cells := 0, slots := 0, locals := 400 + 75 * nU + 49 } : Room) s m args below meth c H locs 0 0 (MQ below (va_Ql (fun (r : Int64) (u : va_W) => o1 = r ∧ w10 ty ad o2 = u) (kz_B D ty A) A) args s 0 0 A) (F0 m 54 ls []) := by
  have C0 := C
  obtain ⟨hx, hb, hr, hts, hown, hlocks, hml, hK, hN, hE, hA⟩ := C
  unfold zX10_termOf_54 at h
  refine lv_aload_n hx hb dX10_termOf_54 rfl (lv_at hl 0 rfl) ?_
  refine lv_aload_n hx hb dX10_termOf_55 rfl (lv_at hl 0 rfl) ?_
  refine va_get (D := D) (ci := 10) (v := .int (q.1 0 22)) (C := RX10) (T := TX10) (N := 56) hx hb hts u9_wsX10_termOf_X10 hown hK hP 0 rfl rfl 22 (by decide) (hts (.fieldLink RX10 278 "TurnedFloorsModel" "go" "I") f9_wsX10_termOf_58) (fun _ h9 => h9) rfl dX10_termOf_56 ?_
  obtain ⟨r1, q3, h2, h⟩ := dB_some h
  refine dw_ki (va_runV (As := [.int (q.1 0 22)]) (rest := []) ⟨hx, hb, hml, hown, hts⟩ (qX10_codeAt l D ty eo _ ad q (q.1 0 22) r1 q3 h2) (cwV 1 hts gX10_termOf_X10_codeAt rfl rfl rfl hd_X10_codeAt_v ⟨by dsimp only [headSpec]; omega, by dsimp only [headSpec]; omega⟩) (pv10_10_0 hK hN hE hP hD hS hA) rfl rfl hl.1 rfl (lv_room (Nat.le_of_ble_eq_true rfl)) dX10_termOf_59 ⟨Nat.le_of_ble_eq_true rfl, Nat.le_of_ble_eq_true rfl⟩) hD hS hA (fun r9 u9 H locs hw hp hd hs => ?_)
  clear hP hD hS
  obtain ⟨rfl, rfl⟩ := hw
  have hP := hp; have hD := hd; have hS := hs; clear hp hd hs
  refine lv_istore (lv' := [(4, .int r1), (0, .ref (ad 0)), (1, .int x1), (2, .long x2)]) hx hb dX10_termOf_62 hl (by decide) rfl (fun ls hl => ?_)
  refine lv_aload_n hx hb dX10_termOf_64 rfl (lv_at hl 1 rfl) ?_
  refine lv_dup hx hb dX10_termOf_65 rfl ?_
  refine va_get (D := D) (ci := 10) (v := .int (q3.1 0 22)) (C := RX10) (T := TX10) (N := 56) hx hb hts u9_wsX10_termOf_X10 hown hK hP 0 rfl rfl 22 (by decide) (hts (.fieldLink RX10 278 "TurnedFloorsModel" "go" "I") f9_wsX10_termOf_58) (fun _ h9 => h9) rfl dX10_termOf_66 ?_
  refine lv_iconst (v := 1) hx hb dX10_termOf_69 (by decide) ?_
  refine lv_iadd hx hb dX10_termOf_70 ?_
  refine va_put (D := D) (ci := 10) (v := .int ((q3.1 0 22) + 1 : Int32)) (ty := .int) (C := RX10) (T := TX10) (N := 56) hx hb hts u9_wsX10_termOf_X10 tyX10 tyX10_ok nmX10 hown hK hP hD hS 0 rfl rfl 22 (by decide) (hts (.fieldLink RX10 278 "TurnedFloorsModel" "go" "I") f9_wsX10_termOf_58) (fun _ h9 => h9) rfl (by decide +kernel) rfl rfl (Nat.le_of_ble_eq_true rfl) dX10_termOf_71 (fun H locs hp hd hs => ?_)
  obtain ⟨q4, eq4, h⟩ := dL_some h
  refine kz_re (w2 := w10 ty ad q4) hp hd hs (by rw [← eq4]; exact w10_f22 ty ad q3 ((q3.1 0 22) + 1 : Int32)) ?_
  clear hp hd hs hP hD hS
  intro hP hD hS
  refine lv_aload_n hx hb dX10_termOf_74 rfl (lv_at hl 1 rfl) ?_
  refine lv_iload_n hx hb dX10_termOf_75 rfl (lv_at hl 2 rfl) ?_
  obtain ⟨r5, q7, h6, h⟩ := dB_some h
  refine dw_kl (va_runV (As := [.int x1]) (rest := []) ⟨hx, hb, hml, hown, hts⟩ (qX10_partOf l D ty eo _ ad kU nU hkU q4 x1 r5 q7 h6) (cwV 1 hts gX10_termOf_X10_partOf rfl rfl rfl hd_X10_partOf_v ⟨by dsimp only [headSpec]; omega, by dsimp only [headSpec]; omega⟩) (pv10_10_0 hK hN hE hP hD hS hA) rfl rfl hl.1 rfl (lv_room (Nat.le_of_ble_eq_true rfl)) dX10_termOf_76 ⟨Nat.le_of_ble_eq_true rfl, Nat.le_of_ble_eq_true rfl⟩) hD hS hA (fun r9 u9 H locs hw hp hd hs => ?_)
  clear hP hD hS
  obtain ⟨rfl, rfl⟩ := hw
  have hP := hp; have hD := hd; have hS := hs; clear hp hd hs
  refine lv_lstore (lv' := [(5, .long r5), (4, .int r1), (0, .ref (ad 0)), (1, .int x1), (2, .long x2)]) hx hb dX10_termOf_79 hl (by decide) rfl (fun ls hl => ?_)
  refine lv_iload hx hb dX10_termOf_81 (lv_at hl 1 rfl) ?_
  refine lv_bipush (v := 42) hx hb dX10_termOf_83 (by decide) ?_
  obtain ⟨r8, h9, h⟩ := dV_some h
  refine dw_ks (va_runS (As := [.int 42]) (rest := [.int r1]) ⟨hx, hb, hml, hown, hts⟩ (qX10_sign l D ty eo _ 42 _ h9) (va_cwS 1 hts gX10_termOf_X10_sign rfl rfl rfl hd_X10_sign ⟨by dsimp only [headSpec]; omega, by dsimp only [headSpec]; omega⟩) (pvS_0 hK hN hE hP hD hS hA) rfl rfl hl.1 rfl (lv_room (Nat.le_of_ble_eq_true rfl)) dX10_termOf_85 ⟨Nat.le_of_ble_eq_true rfl, Nat.le_of_ble_eq_true rfl⟩) hP hD hS hA (fun _ _ h9 => h9.2.symm) (fun r9 u9 H locs hw hp hd hs => ?_)
  obtain ⟨rfl, -⟩ := hw
  clear hP hD hS
  have hP := hp; have hD := hd; have hS := hs; clear hp hd hs
  refine lv_icmp_eq (tgt := 121) hx hb dX10_termOf_88 (by decide) (fun c9 => ?_) (fun c9 => ?_)
  · rw [if_pos c9] at h
    exact WX10_termOf_121 hkU C0 hk6 _ _ _ _ _ _ _ _ h hP hD hS (lv_sub hl [2, 3, 4, 1, 0] rfl)
  · rw [if_neg c9] at h
    refine lv_lload hx hb dX10_termOf_91 (lv_at hl 0 rfl) ?_
    refine lv_lconst (v := 0) hx hb dX10_termOf_93 (by decide) ?_
    refine W.lcmp hx hb dX10_termOf_94 ?_
    refine lv_if_ne (tgt := 121) hx hb dX10_termOf_95 (by decide) (fun c9 => ?_) (fun c9 => ?_)
    · rw [if_neg c9] at h
      exact WX10_termOf_121 hkU C0 hk6 _ _ _ _ _ _ _ _ h hP hD hS (lv_sub hl [2, 3, 4, 1, 0] rfl)
    · rw [if_pos c9] at h
      refine lv_aload_n hx hb dX10_termOf_98 rfl (lv_at hl 2 rfl) ?_
      refine lv_aload_n hx hb dX10_termOf_99 rfl (lv_at hl 2 rfl) ?_
      refine va_get (D := D) (ci := 10) (v := .int (q7.1 0 24)) (C := RX10) (T := TX10) (N := 56) hx hb hts u9_wsX10_termOf_X10 hown hK hP 0 rfl rfl 24 (by decide) (hts (.fieldLink RX10 288 "TurnedFloorsModel" "broken" "Z") f9_wsX10_termOf_57) (fun _ h9 => h9) rfl dX10_termOf_100 ?_
      refine lv_if_ne (tgt := 110) hx hb dX10_termOf_103 (by decide) (fun c9 => ?_) (fun c9 => ?_)
      · rw [if_neg c9] at h
        exact WX10_termOf_110 hkU C0 hk6 _ _ _ _ _ _ _ h hP hD hS (lv_sub hl [2, 3, 4, 1] rfl)
      · rw [if_pos c9] at h
        refine lv_iload_n hx hb dX10_termOf_106 rfl (lv_at hl 3 rfl) ?_
        refine lv_if_eq (tgt := 114) hx hb dX10_termOf_107 (by decide) (fun c9 => ?_) (fun c9 => ?_)
        · rw [if_pos c9] at h
          refine lv_iconst (v := 0) hx hb dX10_termOf_114 (by decide) ?_
          exact WX10_termOf_115 hkU C0 hk6 _ _ _ _ _ _ _ _ h hP hD hS (lv_sub hl [2, 3, 4, 1] rfl)
        · rw [if_neg c9] at h
          exact WX10_termOf_110 hkU C0 hk6 _ _ _ _ _ _ _ h hP hD hS (lv_sub hl [2, 3, 4, 1] rfl)
set_option maxHeartbeats 4000000 in
set_option maxRecDepth 100000 in
theorem WX10_termOf_6b {p : Program} {l : Launch} {e : Env} {s : State} {m : MethodId} {args : Array Value} {below : List Frame} {meth : Method} {c : Code} {D : va_G} {ty : Nat → ClassId} {eo : Nat → Nat} {A : Nat → Prop} {ad : Nat → Nat} {o1 : Int64} {o2 : dS} {kU : dS → Int32 → Option (Int64 × dS)} {nU : Nat} (hkU : ∀ (sz : Nat) (q : dS) (p1 : Int32) (o1 : Int64) (o2 : dS), kU q p1 = some (o1, o2) → Met l yX10_sumOf wsX10_sumOf ({ frames := 12 + 3 * nU, cells := 0, slots := 0, locals := 400 + 75 * nU } : Room) (va_Pc [.ref (ad 0), .int p1] (kz_pre D ty eo (w10 ty ad q) sz)) (va_Ql (fun (r : Int64) (u : va_W) => o1 = r ∧ w10 ty ad o2 = u) (kz_B D ty (va_A (w10 ty ad q) sz)) (va_A (w10 ty ad q) sz)) 0 0 (va_A (w10 ty ad q) sz)) (C : dc_C p s m args meth c cX10_termOf (some .long) 7 RX10 wsX10_termOf D ty eo A) {k6 : dS → Int32 → Int64 → Option (Int64 × dS)} (hk6 : ∀ (q : dS) (x1 : Int32) (x2 : Int64) (H : Heap) (locs : List Loc) (ls : Array Slot), k6 q x1 x2 = some (o1, o2) → va_P D vwCl (w10 ty ad q) H → va_D A (w10 ty ad q) → va_S A s.heap H locs → lv_has ls 7 [(0, .ref (ad 0)), (1, .int x1), (2, .long x2)] → W p l e ({ frames := 12 + 3 * nU + 2, cells := 0, slots := 0, locals := 400 + 75 * nU + 49 } : Room) s m args below meth c H locs 0 0 (MQ below (va_Ql (fun (r : Int64) (u : va_W) => o1 = r ∧ w10 ty ad o2 = u) (kz_B D ty A) A) args s 0 0 A) (F0 m 6 ls [])) (q : dS) (x1 : Int32) (x2 : Int64) (H : Heap) (locs : List Loc) (ls : Array Slot) (h : zX10_termOf_6b kU k6 q x1 x2 = some (o1, o2)) (hP : va_P D vwCl (w10 ty ad q) H) (hD : va_D A (w10 ty ad q)) (hS : va_S A s.heap H locs) (hl : lv_has ls 7 [(0, .ref (ad 0)), (1, .int x1), (2, .long x2)]) : W p l e ({ frames := 12 + 3 * nU + 2, cells := 0, slots := 0, locals := 400 + 75 * nU + 49 } : Room) s m args below meth c H locs 0 0 (MQ below (va_Ql (fun (r : Int64) (u : va_W) => o1 = r ∧ w10 ty ad o2 = u) (kz_B D ty A) A) args s 0 0 A) (F0 m 6 ls []) := by
  have C0 := C
  obtain ⟨hx, hb, hr, hts, hown, hlocks, hml, hK, hN, hE, hA⟩ := C
  unfold zX10_termOf_6b at h
  refine lv_aload_n hx hb dX10_termOf_6 rfl (lv_at hl 0 rfl) ?_
  refine lv_aload_n hx hb dX10_termOf_7 rfl (lv_at hl 0 rfl) ?_
  refine va_get (D := D) (ci := 10) (v := .int (q.1 0 22)) (C := RX10) (T := TX10) (N := 56) hx hb hts u9_wsX10_termOf_X10 hown hK hP 0 rfl rfl 22 (by decide) (hts (.fieldLink RX10 278 "TurnedFloorsModel" "go" "I") f9_wsX10_termOf_58) (fun _ h9 => h9) rfl dX10_termOf_8 ?_
  obtain ⟨r1, q3, h2, h⟩ := dB_some h
  refine dw_ki (va_runV (As := [.int (q.1 0 22)]) (rest := []) ⟨hx, hb, hml, hown, hts⟩ (qX10_codeAt l D ty eo _ ad q (q.1 0 22) r1 q3 h2) (cwV 1 hts gX10_termOf_X10_codeAt rfl rfl rfl hd_X10_codeAt_v ⟨by dsimp only [headSpec]; omega, by dsimp only [headSpec]; omega⟩) (pv10_10_0 hK hN hE hP hD hS hA) rfl rfl hl.1 rfl (lv_room (Nat.le_of_ble_eq_true rfl)) dX10_termOf_11 ⟨Nat.le_of_ble_eq_true rfl, Nat.le_of_ble_eq_true rfl⟩) hD hS hA (fun r9 u9 H locs hw hp hd hs => ?_)
  clear hP hD hS
  obtain ⟨rfl, rfl⟩ := hw
  have hP := hp; have hD := hd; have hS := hs; clear hp hd hs
  refine lv_bipush (v := 42) hx hb dX10_termOf_14 (by decide) ?_
  obtain ⟨r4, h5, h⟩ := dV_some h
  refine dw_ks (va_runS (As := [.int 42]) (rest := [.int r1]) ⟨hx, hb, hml, hown, hts⟩ (qX10_sign l D ty eo _ 42 _ h5) (va_cwS 1 hts gX10_termOf_X10_sign rfl rfl rfl hd_X10_sign ⟨by dsimp only [headSpec]; omega, by dsimp only [headSpec]; omega⟩) (pvS_0 hK hN hE hP hD hS hA) rfl rfl hl.1 rfl (lv_room (Nat.le_of_ble_eq_true rfl)) dX10_termOf_16 ⟨Nat.le_of_ble_eq_true rfl, Nat.le_of_ble_eq_true rfl⟩) hP hD hS hA (fun _ _ h9 => h9.2.symm) (fun r9 u9 H locs hw hp hd hs => ?_)
  obtain ⟨rfl, -⟩ := hw
  clear hP hD hS
  have hP := hp; have hD := hd; have hS := hs; clear hp hd hs
  refine lv_icmp_eq (tgt := 54) hx hb dX10_termOf_19 (by decide) (fun c9 => ?_) (fun c9 => ?_)
  · rw [if_pos c9] at h
    exact WX10_termOf_54 hkU C0 hk6 _ _ _ _ _ _ h hP hD hS (lv_sub hl [0, 1, 2] rfl)
  · rw [if_neg c9] at h
    refine lv_aload_n hx hb dX10_termOf_22 rfl (lv_at hl 0 rfl) ?_
    refine lv_aload_n hx hb dX10_termOf_23 rfl (lv_at hl 0 rfl) ?_
    refine va_get (D := D) (ci := 10) (v := .int (q3.1 0 22)) (C := RX10) (T := TX10) (N := 56) hx hb hts u9_wsX10_termOf_X10 hown hK hP 0 rfl rfl 22 (by decide) (hts (.fieldLink RX10 278 "TurnedFloorsModel" "go" "I") f9_wsX10_termOf_58) (fun _ h9 => h9) rfl dX10_termOf_24 ?_
    obtain ⟨r6, q8, h7, h⟩ := dB_some h
    refine dw_ki (va_runV (As := [.int (q3.1 0 22)]) (rest := []) ⟨hx, hb, hml, hown, hts⟩ (qX10_codeAt l D ty eo _ ad q3 (q3.1 0 22) r6 q8 h7) (cwV 1 hts gX10_termOf_X10_codeAt rfl rfl rfl hd_X10_codeAt_v ⟨by dsimp only [headSpec]; omega, by dsimp only [headSpec]; omega⟩) (pv10_10_0 hK hN hE hP hD hS hA) rfl rfl hl.1 rfl (lv_room (Nat.le_of_ble_eq_true rfl)) dX10_termOf_27 ⟨Nat.le_of_ble_eq_true rfl, Nat.le_of_ble_eq_true rfl⟩) hD hS hA (fun r9 u9 H locs hw hp hd hs => ?_)
    clear hP hD hS
    obtain ⟨rfl, rfl⟩ := hw
    have hP := hp; have hD := hd; have hS := hs; clear hp hd hs
    refine lv_bipush (v := 47) hx hb dX10_termOf_30 (by decide) ?_
    obtain ⟨r9, h10, h⟩ := dV_some h
    refine dw_ks (va_runS (As := [.int 47]) (rest := [.int r6]) ⟨hx, hb, hml, hown, hts⟩ (qX10_sign l D ty eo _ 47 _ h10) (va_cwS 1 hts gX10_termOf_X10_sign rfl rfl rfl hd_X10_sign ⟨by dsimp only [headSpec]; omega, by dsimp only [headSpec]; omega⟩) (pvS_0 hK hN hE hP hD hS hA) rfl rfl hl.1 rfl (lv_room (Nat.le_of_ble_eq_true rfl)) dX10_termOf_32 ⟨Nat.le_of_ble_eq_true rfl, Nat.le_of_ble_eq_true rfl⟩) hP hD hS hA (fun _ _ h9 => h9.2.symm) (fun r9 u9 H locs hw hp hd hs => ?_)
    obtain ⟨rfl, -⟩ := hw
    clear hP hD hS
    have hP := hp; have hD := hd; have hS := hs; clear hp hd hs
    refine lv_icmp_eq (tgt := 54) hx hb dX10_termOf_35 (by decide) (fun c9 => ?_) (fun c9 => ?_)
    · rw [if_pos c9] at h
      exact WX10_termOf_54 hkU C0 hk6 _ _ _ _ _ _ h hP hD hS (lv_sub hl [0, 1, 2] rfl)
    · rw [if_neg c9] at h
      refine lv_aload_n hx hb dX10_termOf_38 rfl (lv_at hl 0 rfl) ?_
      refine lv_aload_n hx hb dX10_termOf_39 rfl (lv_at hl 0 rfl) ?_
      refine va_get (D := D) (ci := 10) (v := .int (q8.1 0 22)) (C := RX10) (T := TX10) (N := 56) hx hb hts u9_wsX10_termOf_X10 hown hK hP 0 rfl rfl 22 (by decide) (hts (.fieldLink RX10 278 "TurnedFloorsModel" "go" "I") f9_wsX10_termOf_58) (fun _ h9 => h9) rfl dX10_termOf_40 ?_
      obtain ⟨r11, q13, h12, h⟩ := dB_some h
      refine dw_ki (va_runV (As := [.int (q8.1 0 22)]) (rest := []) ⟨hx, hb, hml, hown, hts⟩ (qX10_codeAt l D ty eo _ ad q8 (q8.1 0 22) r11 q13 h12) (cwV 1 hts gX10_termOf_X10_codeAt rfl rfl rfl hd_X10_codeAt_v ⟨by dsimp only [headSpec]; omega, by dsimp only [headSpec]; omega⟩) (pv10_10_0 hK hN hE hP hD hS hA) rfl rfl hl.1 rfl (lv_room (Nat.le_of_ble_eq_true rfl)) dX10_termOf_43 ⟨Nat.le_of_ble_eq_true rfl, Nat.le_of_ble_eq_true rfl⟩) hD hS hA (fun r9 u9 H locs hw hp hd hs => ?_)
      clear hP hD hS
      obtain ⟨rfl, rfl⟩ := hw
      have hP := hp; have hD := hd; have hS := hs; clear hp hd hs
      refine lv_bipush (v := 37) hx hb dX10_termOf_46 (by decide) ?_
      obtain ⟨r14, h15, h⟩ := dV_some h
      refine dw_ks (va_runS (As := [.int 37]) (rest := [.int r11]) ⟨hx, hb, hml, hown, hts⟩ (qX10_sign l D ty eo _ 37 _ h15) (va_cwS 1 hts gX10_termOf_X10_sign rfl rfl rfl hd_X10_sign ⟨by dsimp only [headSpec]; omega, by dsimp only [headSpec]; omega⟩) (pvS_0 hK hN hE hP hD hS hA) rfl rfl hl.1 rfl (lv_room (Nat.le_of_ble_eq_true rfl)) dX10_termOf_48 ⟨Nat.le_of_ble_eq_true rfl, Nat.le_of_ble_eq_true rfl⟩) hP hD hS hA (fun _ _ h9 => h9.2.symm) (fun r9 u9 H locs hw hp hd hs => ?_)
      obtain ⟨rfl, -⟩ := hw
      clear hP hD hS
      have hP := hp; have hD := hd; have hS := hs; clear hp hd hs
      refine lv_icmp_ne (tgt := 168) hx hb dX10_termOf_51 (by decide) (fun c9 => ?_) (fun c9 => ?_)
      · rw [if_neg c9] at h
        refine lv_lload_n hx hb dX10_termOf_168 rfl (lv_at hl 2 rfl) ?_
        cases h
        exact kz_lret hx hb hr hlocks hP hK hD hS dX10_termOf_169 ⟨rfl, rfl⟩
      · rw [if_pos c9] at h
        exact WX10_termOf_54 hkU C0 hk6 _ _ _ _ _ _ h hP hD hS (lv_sub hl [0, 1, 2] rfl)
set_option maxHeartbeats 4000000 in
set_option maxRecDepth 100000 in
theorem WX10_termOf_6 {p : Program} {l : Launch} {e : Env} {s : State} {m : MethodId} {args : Array Value} {below : List Frame} {meth : Method} {c : Code} {D : va_G} {ty : Nat → ClassId} {eo : Nat → Nat} {A : Nat → Prop} {ad : Nat → Nat} {o1 : Int64} {o2 : dS} {kU : dS → Int32 → Option (Int64 × dS)} {nU : Nat} (hkU : ∀ (sz : Nat) (q : dS) (p1 : Int32) (o1 : Int64) (o2 : dS), kU q p1 = some (o1, o2) → Met l yX10_sumOf wsX10_sumOf ({ frames := 12 + 3 * nU, cells := 0, slots := 0, locals := 400 + 75 * nU } : Room) (va_Pc [.ref (ad 0), .int p1] (kz_pre D ty eo (w10 ty ad q) sz)) (va_Ql (fun (r : Int64) (u : va_W) => o1 = r ∧ w10 ty ad o2 = u) (kz_B D ty (va_A (w10 ty ad q) sz)) (va_A (w10 ty ad q) sz)) 0 0 (va_A (w10 ty ad q) sz)) (C : dc_C p s m args meth c cX10_termOf (some .long) 7 RX10 wsX10_termOf D ty eo A)   (n : Nat) (q : dS) (x1 : Int32) (x2 : Int64) (H : Heap) (locs : List Loc) (ls : Array Slot) (h : zX10_termOf_6 kU  n q x1 x2 = some (o1, o2)) (hP : va_P D vwCl (w10 ty ad q) H) (hD : va_D A (w10 ty ad q)) (hS : va_S A s.heap H locs) (hl : lv_has ls 7 [(0, .ref (ad 0)), (1, .int x1), (2, .long x2)]) : W p l e ({ frames := 12 + 3 * nU + 2, cells := 0, slots := 0, locals := 400 + 75 * nU + 49 } : Room) s m args below meth c H locs 0 0 (MQ below (va_Ql (fun (r : Int64) (u : va_W) => o1 = r ∧ w10 ty ad o2 = u) (kz_B D ty A) A) args s 0 0 A) (F0 m 6 ls []) := by
  exact dFix_W (F := fun k (a : dS × Int32 × Int64) => zX10_termOf_6b kU  (fun q x1 x2 => k (q, x1, x2)) a.1 a.2.1 a.2.2) (o := (o1, o2)) (P := fun (a : dS × Int32 × Int64) H locs ls => va_P D vwCl (w10 ty ad a.1) H ∧ va_D A (w10 ty ad a.1) ∧ va_S A s.heap H locs ∧ lv_has ls 7 [(0, .ref (ad 0)), (1, .int a.2.1), (2, .long a.2.2)]) (G := fun H locs ls => W p l e ({ frames := 12 + 3 * nU + 2, cells := 0, slots := 0, locals := 400 + 75 * nU + 49 } : Room) s m args below meth c H locs 0 0 (MQ below (va_Ql (fun (r : Int64) (u : va_W) => o1 = r ∧ w10 ty ad o2 = u) (kz_B D ty A) A) args s 0 0 A) (F0 m 6 ls []))
    (fun k hk a H locs ls h hp => WX10_termOf_6b hkU C  (fun q x1 x2 H locs ls h h1 h2 h3 h4 => hk (q, x1, x2) H locs ls h ⟨h1, h2, h3, h4⟩) a.1 a.2.1 a.2.2 H locs ls h hp.1 hp.2.1 hp.2.2.1 hp.2.2.2) n (q, x1, x2) H locs ls h ⟨hP, hD, hS, hl⟩
set_option maxHeartbeats 4000000 in
set_option maxRecDepth 100000 in
theorem qX10_termOf (l : Launch) (D : va_G) (ty : Nat → ClassId) (eo : Nat → Nat) (sz : Nat) (ad : Nat → Nat) (kU : dS → Int32 → Option (Int64 × dS)) (nU : Nat) (hkU : ∀ (sz : Nat) (q : dS) (p1 : Int32) (o1 : Int64) (o2 : dS), kU q p1 = some (o1, o2) → Met l yX10_sumOf wsX10_sumOf ({ frames := 12 + 3 * nU, cells := 0, slots := 0, locals := 400 + 75 * nU } : Room) (va_Pc [.ref (ad 0), .int p1] (kz_pre D ty eo (w10 ty ad q) sz)) (va_Ql (fun (r : Int64) (u : va_W) => o1 = r ∧ w10 ty ad o2 = u) (kz_B D ty (va_A (w10 ty ad q) sz)) (va_A (w10 ty ad q) sz)) 0 0 (va_A (w10 ty ad q) sz)) (q : dS) (p1 : Int32) (o1 : Int64) (o2 : dS) (h : zX10_termOf kU q p1 = some (o1, o2)) : Met l yX10_termOf wsX10_termOf ({ frames := 12 + 3 * nU + 2, cells := 0, slots := 0, locals := 400 + 75 * nU + 49 } : Room) (va_Pc [.ref (ad 0), .int p1] (kz_pre D ty eo (w10 ty ad q) sz)) (va_Ql (fun (r : Int64) (u : va_W) => o1 = r ∧ w10 ty ad o2 = u) (kz_B D ty (va_A (w10 ty ad q) sz)) (va_A (w10 ty ad q) sz)) 0 0 (va_A (w10 ty ad q) sz) := by
  refine Met.ofW (cc := cX10_termOf) (maxL := 7) (ret := (some .long)) (by decide) rfl ?_
  intro p e s m args below meth c s₁ B hml hv
  obtain ⟨rfl, hsz, hP, hK, hD0, hN, hE⟩ := hv
  have hx := B.exec
  have hb := B.bytes
  have hr := B.returns
  have hts := atoms_spec (ws := wsX10_termOf) B.pre
  have hown : s.vm.findClass RX10 = some m.cls := findClass_of_methodNamed B.named
  have hlocks := B.notSynchronized
  subst hsz
  have hD := hD0.self (sz := s.heap.size)
  generalize hAe : va_A (w10 ty ad q) s.heap.size = A at hD hE ⊢
  have hA : ∀ q : Nat, s.heap.size ≤ q → A q := fun q h => by rw [← hAe]; exact Or.inr h
  clear hAe
  have hS : va_S A s.heap s.heap [] := va_S.rf
  have hl := lv_entry ([.ref (ad 0), .int p1]) (n := 7) (Nat.le_of_ble_eq_true rfl)
  rw [lg_entry_eq]
  generalize (lg_sl ([.ref (ad 0), .int p1]) ++ List.replicate (7 - (lg_sl ([.ref (ad 0), .int p1])).length) Slot.unset).toArray = ls at hl ⊢
  have hl : lv_has ls 7 [(0, .ref (ad 0)), (1, .int p1)] := hl
  have C : dc_C p s m _ meth c cX10_termOf (some .long) 7 RX10 wsX10_termOf D ty eo A := ⟨hx, hb, hr, hts, hown, hlocks, hml, hK, hN, hE, hA⟩
  unfold zX10_termOf at h
  refine lv_aload_n hx hb dX10_termOf_0 rfl (lv_at hl 0 rfl) ?_
  refine lv_iload_n hx hb dX10_termOf_1 rfl (lv_at hl 1 rfl) ?_
  obtain ⟨r1, q3, h2, h⟩ := dB_some h
  refine dw_kl (va_runV (As := [.int p1]) (rest := []) ⟨hx, hb, hml, hown, hts⟩ (qX10_partOf l D ty eo _ ad kU nU hkU q p1 r1 q3 h2) (cwV 1 hts gX10_termOf_X10_partOf rfl rfl rfl hd_X10_partOf_v ⟨by dsimp only [headSpec]; omega, by dsimp only [headSpec]; omega⟩) (pv10_10_0 hK hN hE hP hD hS hA) rfl rfl hl.1 rfl (lv_room (Nat.le_of_ble_eq_true rfl)) dX10_termOf_2 ⟨Nat.le_of_ble_eq_true rfl, Nat.le_of_ble_eq_true rfl⟩) hD hS hA (fun r9 u9 H locs hw hp hd hs => ?_)
  clear hP hD hS
  obtain ⟨rfl, rfl⟩ := hw
  have hP := hp; have hD := hd; have hS := hs; clear hp hd hs
  refine lv_lstore_n (lv' := [(2, .long r1), (0, .ref (ad 0)), (1, .int p1)]) hx hb dX10_termOf_5 rfl hl (by decide) rfl (fun ls hl => ?_)
  exact WX10_termOf_6 hkU C  _ _ _ _ _ _ _ h hP hD hS (lv_sub hl [1, 2, 0] rfl)

set_option maxHeartbeats 4000000 in
set_option maxRecDepth 100000 in
theorem WX10_sumOf_95 {p : Program} {l : Launch} {e : Env} {s : State} {m : MethodId} {args : Array Value} {below : List Frame} {meth : Method} {c : Code} {D : va_G} {ty : Nat → ClassId} {eo : Nat → Nat} {A : Nat → Prop} {ad : Nat → Nat} {o1 : Int64} {o2 : dS} {kU : dS → Int32 → Option (Int64 × dS)} {nU : Nat} (hkU : ∀ (sz : Nat) (q : dS) (p1 : Int32) (o1 : Int64) (o2 : dS), kU q p1 = some (o1, o2) → Met l yX10_sumOf wsX10_sumOf ({ frames := 12 + 3 * nU, cells := 0, slots := 0, locals := 400 + 75 * nU } : Room) (va_Pc [.ref (ad 0), .int p1] (kz_pre D ty eo (w10 ty ad q) sz)) (va_Ql (fun (r : Int64) (u : va_W) => o1 = r ∧ w10 ty ad o2 = u) (kz_B D ty (va_A (w10 ty ad q) sz)) (va_A (w10 ty ad q) sz)) 0 0 (va_A (w10 ty ad q) sz)) (C : dc_C p s m args meth c cX10_sumOf (some .long) 7 RX10 wsX10_sumOf D ty eo A) {k6 : dS → Int32 → Int64 → Option (Int64 × dS)} (hk6 : ∀ (q : dS) (x1 : Int32) (x2 : Int64) (H : Heap) (locs : List Loc) (ls : Array Slot), k6 q x1 x2 = some (o1, o2) → va_P D vwCl (w10 ty ad q) H → va_D A (w10 ty ad q) → va_S A s.heap H locs → lv_has ls 7 [(0, .ref (ad 0)), (1, .int x1), (2, .long x2)] → W p l e ({ frames := 12 + 3 * nU + 3, cells := 0, slots := 0, locals := 400 + 75 * nU + 75 } : Room) s m args below meth c H locs 0 0 (MQ below (va_Ql (fun (r : Int64) (u : va_W) => o1 = r ∧ w10 ty ad o2 = u) (kz_B D ty A) A) args s 0 0 A) (F0 m 6 ls [])) (q : dS) (x1 : Int32) (y0 : Int64) (H : Heap) (locs : List Loc) (ls : Array Slot) (h : zX10_sumOf_95 kU k6 q x1 y0 = some (o1, o2)) (hP : va_P D vwCl (w10 ty ad q) H) (hD : va_D A (w10 ty ad q)) (hS : va_S A s.heap H locs) (hl : lv_has ls 7 [(0, .ref (ad 0)), (1, .int x1)]) : W p l e ({ frames := 12 + 3 * nU + 3, cells := 0, slots := 0, locals := 400 + 75 * nU + 75 } : Room) s m args below meth c H locs 0 0 (MQ below (va_Ql (fun (r : Int64) (u : va_W) => o1 = r ∧ w10 ty ad o2 = u) (kz_B D ty A) A) args s 0 0 A) (F0 m 95 ls [.long y0, .ref (ad 0)]) := by
  have C0 := C
  obtain ⟨hx, hb, hr, hts, hown, hlocks, hml, hK, hN, hE, hA⟩ := C
  unfold zX10_sumOf_95 at h
  refine lv_iload_n hx hb dX10_sumOf_95 rfl (lv_at hl 1 rfl) ?_
  obtain ⟨r1, q3, h2, h⟩ := dB_some h
  refine dw_kl (va_runV (As := [.long y0, .int x1]) (rest := []) ⟨hx, hb, hml, hown, hts⟩ (qX10_bounded l D ty eo _ ad q y0 x1 r1 q3 h2) (cwV 2 hts gX10_sumOf_X10_bounded rfl rfl rfl hd_X10_bounded_v ⟨by dsimp only [headSpec]; omega, by dsimp only [headSpec]; omega⟩) (pv10_10_0 hK hN hE hP hD hS hA) rfl rfl hl.1 rfl (lv_room (Nat.le_of_ble_eq_true rfl)) dX10_sumOf_96 ⟨Nat.le_of_ble_eq_true rfl, Nat.le_of_ble_eq_true rfl⟩) hD hS hA (fun r9 u9 H locs hw hp hd hs => ?_)
  clear hP hD hS
  obtain ⟨rfl, rfl⟩ := hw
  have hP := hp; have hD := hd; have hS := hs; clear hp hd hs
  refine lv_lstore_n (lv' := [(2, .long r1), (0, .ref (ad 0)), (1, .int x1)]) hx hb dX10_sumOf_99 rfl hl (by decide) rfl (fun ls hl => ?_)
  refine lv_goto (tgt := 6) hx hb dX10_sumOf_100 (by decide) ?_
  exact hk6 _ _ _ _ _ _ h hP hD hS (lv_sub hl [1, 2, 0] rfl)
set_option maxHeartbeats 4000000 in
set_option maxRecDepth 100000 in
theorem WX10_sumOf_59 {p : Program} {l : Launch} {e : Env} {s : State} {m : MethodId} {args : Array Value} {below : List Frame} {meth : Method} {c : Code} {D : va_G} {ty : Nat → ClassId} {eo : Nat → Nat} {A : Nat → Prop} {ad : Nat → Nat} {o1 : Int64} {o2 : dS} {kU : dS → Int32 → Option (Int64 × dS)} {nU : Nat} (hkU : ∀ (sz : Nat) (q : dS) (p1 : Int32) (o1 : Int64) (o2 : dS), kU q p1 = some (o1, o2) → Met l yX10_sumOf wsX10_sumOf ({ frames := 12 + 3 * nU, cells := 0, slots := 0, locals := 400 + 75 * nU } : Room) (va_Pc [.ref (ad 0), .int p1] (kz_pre D ty eo (w10 ty ad q) sz)) (va_Ql (fun (r : Int64) (u : va_W) => o1 = r ∧ w10 ty ad o2 = u) (kz_B D ty (va_A (w10 ty ad q) sz)) (va_A (w10 ty ad q) sz)) 0 0 (va_A (w10 ty ad q) sz)) (C : dc_C p s m args meth c cX10_sumOf (some .long) 7 RX10 wsX10_sumOf D ty eo A) {k6 : dS → Int32 → Int64 → Option (Int64 × dS)} (hk6 : ∀ (q : dS) (x1 : Int32) (x2 : Int64) (H : Heap) (locs : List Loc) (ls : Array Slot), k6 q x1 x2 = some (o1, o2) → va_P D vwCl (w10 ty ad q) H → va_D A (w10 ty ad q) → va_S A s.heap H locs → lv_has ls 7 [(0, .ref (ad 0)), (1, .int x1), (2, .long x2)] → W p l e ({ frames := 12 + 3 * nU + 3, cells := 0, slots := 0, locals := 400 + 75 * nU + 75 } : Room) s m args below meth c H locs 0 0 (MQ below (va_Ql (fun (r : Int64) (u : va_W) => o1 = r ∧ w10 ty ad o2 = u) (kz_B D ty A) A) args s 0 0 A) (F0 m 6 ls [])) (q : dS) (x1 : Int32) (x2 : Int64) (y0 : Int32) (H : Heap) (locs : List Loc) (ls : Array Slot) (h : zX10_sumOf_59 kU k6 q x1 x2 y0 = some (o1, o2)) (hP : va_P D vwCl (w10 ty ad q) H) (hD : va_D A (w10 ty ad q)) (hS : va_S A s.heap H locs) (hl : lv_has ls 7 [(0, .ref (ad 0)), (1, .int x1), (2, .long x2)]) : W p l e ({ frames := 12 + 3 * nU + 3, cells := 0, slots := 0, locals := 400 + 75 * nU + 75 } : Room) s m args below meth c H locs 0 0 (MQ below (va_Ql (fun (r : Int64) (u : va_W) => o1 = r ∧ w10 ty ad o2 = u) (kz_B D ty A) A) args s 0 0 A) (F0 m 59 ls [.int y0]) := by
  have C0 := C
  obtain ⟨hx, hb, hr, hts, hown, hlocks, hml, hK, hN, hE, hA⟩ := C
  unfold zX10_sumOf_59 at h
  refine lv_istore (lv' := [(4, .int y0), (0, .ref (ad 0)), (1, .int x1), (2, .long x2)]) hx hb dX10_sumOf_59 hl (by decide) rfl (fun ls hl => ?_)
  refine lv_aload_n hx hb dX10_sumOf_61 rfl (lv_at hl 1 rfl) ?_
  refine lv_dup hx hb dX10_sumOf_62 rfl ?_
  refine va_get (D := D) (ci := 10) (v := .int (q.1 0 22)) (C := RX10) (T := TX10) (N := 56) hx hb hts u9_wsX10_sumOf_X10 hown hK hP 0 rfl rfl 22 (by decide) (hts (.fieldLink RX10 278 "TurnedFloorsModel" "go" "I") f9_wsX10_sumOf_60) (fun _ h9 => h9) rfl dX10_sumOf_63 ?_
  refine lv_iconst (v := 1) hx hb dX10_sumOf_66 (by decide) ?_
  refine lv_iadd hx hb dX10_sumOf_67 ?_
  refine va_put (D := D) (ci := 10) (v := .int ((q.1 0 22) + 1 : Int32)) (ty := .int) (C := RX10) (T := TX10) (N := 56) hx hb hts u9_wsX10_sumOf_X10 tyX10 tyX10_ok nmX10 hown hK hP hD hS 0 rfl rfl 22 (by decide) (hts (.fieldLink RX10 278 "TurnedFloorsModel" "go" "I") f9_wsX10_sumOf_60) (fun _ h9 => h9) rfl (by decide +kernel) rfl rfl (Nat.le_of_ble_eq_true rfl) dX10_sumOf_68 (fun H locs hp hd hs => ?_)
  obtain ⟨q1, eq1, h⟩ := dL_some h
  refine kz_re (w2 := w10 ty ad q1) hp hd hs (by rw [← eq1]; exact w10_f22 ty ad q ((q.1 0 22) + 1 : Int32)) ?_
  clear hp hd hs hP hD hS
  intro hP hD hS
  refine lv_aload_n hx hb dX10_sumOf_71 rfl (lv_at hl 1 rfl) ?_
  refine lv_iload_n hx hb dX10_sumOf_72 rfl (lv_at hl 2 rfl) ?_
  obtain ⟨r2, q4, h3, h⟩ := dB_some h
  refine dw_kl (va_runV (As := [.int x1]) (rest := []) ⟨hx, hb, hml, hown, hts⟩ (qX10_termOf l D ty eo _ ad kU nU hkU q1 x1 r2 q4 h3) (cwV 1 hts gX10_sumOf_X10_termOf rfl rfl rfl hd_X10_termOf_v ⟨by dsimp only [headSpec]; omega, by dsimp only [headSpec]; omega⟩) (pv10_10_0 hK hN hE hP hD hS hA) rfl rfl hl.1 rfl (lv_room (Nat.le_of_ble_eq_true rfl)) dX10_sumOf_73 ⟨Nat.le_of_ble_eq_true rfl, Nat.le_of_ble_eq_true rfl⟩) hD hS hA (fun r9 u9 H locs hw hp hd hs => ?_)
  clear hP hD hS
  obtain ⟨rfl, rfl⟩ := hw
  have hP := hp; have hD := hd; have hS := hs; clear hp hd hs
  refine lv_lstore (lv' := [(5, .long r2), (4, .int y0), (0, .ref (ad 0)), (1, .int x1), (2, .long x2)]) hx hb dX10_sumOf_76 hl (by decide) rfl (fun ls hl => ?_)
  refine lv_aload_n hx hb dX10_sumOf_78 rfl (lv_at hl 2 rfl) ?_
  refine lv_iload hx hb dX10_sumOf_79 (lv_at hl 1 rfl) ?_
  refine lv_if_eq (tgt := 91) hx hb dX10_sumOf_81 (by decide) (fun c9 => ?_) (fun c9 => ?_)
  · rw [if_pos c9] at h
    refine lv_lload_n hx hb dX10_sumOf_91 rfl (lv_at hl 4 rfl) ?_
    refine lv_lload hx hb dX10_sumOf_92 (lv_at hl 0 rfl) ?_
    refine lv_lsub hx hb dX10_sumOf_94 ?_
    exact WX10_sumOf_95 hkU C0 hk6 _ _ _ _ _ _ h hP hD hS (lv_sub hl [2, 3] rfl)
  · rw [if_neg c9] at h
    refine lv_lload_n hx hb dX10_sumOf_84 rfl (lv_at hl 4 rfl) ?_
    refine lv_lload hx hb dX10_sumOf_85 (lv_at hl 0 rfl) ?_
    refine lv_ladd hx hb dX10_sumOf_87 ?_
    refine lv_goto (tgt := 95) hx hb dX10_sumOf_88 (by decide) ?_
    exact WX10_sumOf_95 hkU C0 hk6 _ _ _ _ _ _ h hP hD hS (lv_sub hl [2, 3] rfl)
set_option maxHeartbeats 4000000 in
set_option maxRecDepth 100000 in
theorem WX10_sumOf_38 {p : Program} {l : Launch} {e : Env} {s : State} {m : MethodId} {args : Array Value} {below : List Frame} {meth : Method} {c : Code} {D : va_G} {ty : Nat → ClassId} {eo : Nat → Nat} {A : Nat → Prop} {ad : Nat → Nat} {o1 : Int64} {o2 : dS} {kU : dS → Int32 → Option (Int64 × dS)} {nU : Nat} (hkU : ∀ (sz : Nat) (q : dS) (p1 : Int32) (o1 : Int64) (o2 : dS), kU q p1 = some (o1, o2) → Met l yX10_sumOf wsX10_sumOf ({ frames := 12 + 3 * nU, cells := 0, slots := 0, locals := 400 + 75 * nU } : Room) (va_Pc [.ref (ad 0), .int p1] (kz_pre D ty eo (w10 ty ad q) sz)) (va_Ql (fun (r : Int64) (u : va_W) => o1 = r ∧ w10 ty ad o2 = u) (kz_B D ty (va_A (w10 ty ad q) sz)) (va_A (w10 ty ad q) sz)) 0 0 (va_A (w10 ty ad q) sz)) (C : dc_C p s m args meth c cX10_sumOf (some .long) 7 RX10 wsX10_sumOf D ty eo A) {k6 : dS → Int32 → Int64 → Option (Int64 × dS)} (hk6 : ∀ (q : dS) (x1 : Int32) (x2 : Int64) (H : Heap) (locs : List Loc) (ls : Array Slot), k6 q x1 x2 = some (o1, o2) → va_P D vwCl (w10 ty ad q) H → va_D A (w10 ty ad q) → va_S A s.heap H locs → lv_has ls 7 [(0, .ref (ad 0)), (1, .int x1), (2, .long x2)] → W p l e ({ frames := 12 + 3 * nU + 3, cells := 0, slots := 0, locals := 400 + 75 * nU + 75 } : Room) s m args below meth c H locs 0 0 (MQ below (va_Ql (fun (r : Int64) (u : va_W) => o1 = r ∧ w10 ty ad o2 = u) (kz_B D ty A) A) args s 0 0 A) (F0 m 6 ls [])) (q : dS) (x1 : Int32) (x2 : Int64) (H : Heap) (locs : List Loc) (ls : Array Slot) (h : zX10_sumOf_38 kU k6 q x1 x2 = some (o1, o2)) (hP : va_P D vwCl (w10 ty ad q) H) (hD : va_D A (w10 ty ad q)) (hS : va_S A s.heap H locs) (hl : lv_has ls 7 [(0, .ref (ad 0)), (1, .int x1), (2, .long x2)]) : W p l e ({ frames := 12 + 3 * nU + 3, cells := 0, slots := 0, locals := 400 + 75 * nU + 75 } : Room) s m args below meth c H locs 0 0 (MQ below (va_Ql (fun (r : Int64) (u : va_W) => o1 = r ∧ w10 ty ad o2 = u) (kz_B D ty A) A) args s 0 0 A) (F0 m 38 ls []) := by
  have C0 := C
  obtain ⟨hx, hb, hr, hts, hown, hlocks, hml, hK, hN, hE, hA⟩ := C
  unfold zX10_sumOf_38 at h
  refine lv_aload_n hx hb dX10_sumOf_38 rfl (lv_at hl 0 rfl) ?_
  refine lv_aload_n hx hb dX10_sumOf_39 rfl (lv_at hl 0 rfl) ?_
  refine va_get (D := D) (ci := 10) (v := .int (q.1 0 22)) (C := RX10) (T := TX10) (N := 56) hx hb hts u9_wsX10_sumOf_X10 hown hK hP 0 rfl rfl 22 (by decide) (hts (.fieldLink RX10 278 "TurnedFloorsModel" "go" "I") f9_wsX10_sumOf_60) (fun _ h9 => h9) rfl dX10_sumOf_40 ?_
  obtain ⟨r1, q3, h2, h⟩ := dB_some h
  refine dw_ki (va_runV (As := [.int (q.1 0 22)]) (rest := []) ⟨hx, hb, hml, hown, hts⟩ (qX10_codeAt l D ty eo _ ad q (q.1 0 22) r1 q3 h2) (cwV 1 hts gX10_sumOf_X10_codeAt rfl rfl rfl hd_X10_codeAt_v ⟨by dsimp only [headSpec]; omega, by dsimp only [headSpec]; omega⟩) (pv10_10_0 hK hN hE hP hD hS hA) rfl rfl hl.1 rfl (lv_room (Nat.le_of_ble_eq_true rfl)) dX10_sumOf_43 ⟨Nat.le_of_ble_eq_true rfl, Nat.le_of_ble_eq_true rfl⟩) hD hS hA (fun r9 u9 H locs hw hp hd hs => ?_)
  clear hP hD hS
  obtain ⟨rfl, rfl⟩ := hw
  have hP := hp; have hD := hd; have hS := hs; clear hp hd hs
  refine lv_bipush (v := 43) hx hb dX10_sumOf_46 (by decide) ?_
  obtain ⟨r4, h5, h⟩ := dV_some h
  refine dw_ks (va_runS (As := [.int 43]) (rest := [.int r1]) ⟨hx, hb, hml, hown, hts⟩ (qX10_sign l D ty eo _ 43 _ h5) (va_cwS 1 hts gX10_sumOf_X10_sign rfl rfl rfl hd_X10_sign ⟨by dsimp only [headSpec]; omega, by dsimp only [headSpec]; omega⟩) (pvS_0 hK hN hE hP hD hS hA) rfl rfl hl.1 rfl (lv_room (Nat.le_of_ble_eq_true rfl)) dX10_sumOf_48 ⟨Nat.le_of_ble_eq_true rfl, Nat.le_of_ble_eq_true rfl⟩) hP hD hS hA (fun _ _ h9 => h9.2.symm) (fun r9 u9 H locs hw hp hd hs => ?_)
  obtain ⟨rfl, -⟩ := hw
  clear hP hD hS
  have hP := hp; have hD := hd; have hS := hs; clear hp hd hs
  refine lv_icmp_ne (tgt := 58) hx hb dX10_sumOf_51 (by decide) (fun c9 => ?_) (fun c9 => ?_)
  · rw [if_neg c9] at h
    refine lv_iconst (v := 0) hx hb dX10_sumOf_58 (by decide) ?_
    exact WX10_sumOf_59 hkU C0 hk6 _ _ _ _ _ _ _ h hP hD hS (lv_sub hl [0, 1, 2] rfl)
  · rw [if_pos c9] at h
    refine lv_iconst (v := 1) hx hb dX10_sumOf_54 (by decide) ?_
    refine lv_goto (tgt := 59) hx hb dX10_sumOf_55 (by decide) ?_
    exact WX10_sumOf_59 hkU C0 hk6 _ _ _ _ _ _ _ h hP hD hS (lv_sub hl [0, 1, 2] rfl)
set_option maxHeartbeats 4000000 in
set_option maxRecDepth 100000 in
theorem WX10_sumOf_6b {p : Program} {l : Launch} {e : Env} {s : State} {m : MethodId} {args : Array Value} {below : List Frame} {meth : Method} {c : Code} {D : va_G} {ty : Nat → ClassId} {eo : Nat → Nat} {A : Nat → Prop} {ad : Nat → Nat} {o1 : Int64} {o2 : dS} {kU : dS → Int32 → Option (Int64 × dS)} {nU : Nat} (hkU : ∀ (sz : Nat) (q : dS) (p1 : Int32) (o1 : Int64) (o2 : dS), kU q p1 = some (o1, o2) → Met l yX10_sumOf wsX10_sumOf ({ frames := 12 + 3 * nU, cells := 0, slots := 0, locals := 400 + 75 * nU } : Room) (va_Pc [.ref (ad 0), .int p1] (kz_pre D ty eo (w10 ty ad q) sz)) (va_Ql (fun (r : Int64) (u : va_W) => o1 = r ∧ w10 ty ad o2 = u) (kz_B D ty (va_A (w10 ty ad q) sz)) (va_A (w10 ty ad q) sz)) 0 0 (va_A (w10 ty ad q) sz)) (C : dc_C p s m args meth c cX10_sumOf (some .long) 7 RX10 wsX10_sumOf D ty eo A) {k6 : dS → Int32 → Int64 → Option (Int64 × dS)} (hk6 : ∀ (q : dS) (x1 : Int32) (x2 : Int64) (H : Heap) (locs : List Loc) (ls : Array Slot), k6 q x1 x2 = some (o1, o2) → va_P D vwCl (w10 ty ad q) H → va_D A (w10 ty ad q) → va_S A s.heap H locs → lv_has ls 7 [(0, .ref (ad 0)), (1, .int x1), (2, .long x2)] → W p l e ({ frames := 12 + 3 * nU + 3, cells := 0, slots := 0, locals := 400 + 75 * nU + 75 } : Room) s m args below meth c H locs 0 0 (MQ below (va_Ql (fun (r : Int64) (u : va_W) => o1 = r ∧ w10 ty ad o2 = u) (kz_B D ty A) A) args s 0 0 A) (F0 m 6 ls [])) (q : dS) (x1 : Int32) (x2 : Int64) (H : Heap) (locs : List Loc) (ls : Array Slot) (h : zX10_sumOf_6b kU k6 q x1 x2 = some (o1, o2)) (hP : va_P D vwCl (w10 ty ad q) H) (hD : va_D A (w10 ty ad q)) (hS : va_S A s.heap H locs) (hl : lv_has ls 7 [(0, .ref (ad 0)), (1, .int x1), (2, .long x2)]) : W p l e ({ frames := 12 + 3 * nU + 3, cells := 0, slots := 0, locals := 400 + 75 * nU + 75 } : Room) s m args below meth c H locs 0 0 (MQ below (va_Ql (fun (r : Int64) (u : va_W) => o1 = r ∧ w10 ty ad o2 = u) (kz_B D ty A) A) args s 0 0 A) (F0 m 6 ls []) := by
  have C0 := C
  obtain ⟨hx, hb, hr, hts, hown, hlocks, hml, hK, hN, hE, hA⟩ := C
  unfold zX10_sumOf_6b at h
  refine lv_aload_n hx hb dX10_sumOf_6 rfl (lv_at hl 0 rfl) ?_
  refine lv_aload_n hx hb dX10_sumOf_7 rfl (lv_at hl 0 rfl) ?_
  refine va_get (D := D) (ci := 10) (v := .int (q.1 0 22)) (C := RX10) (T := TX10) (N := 56) hx hb hts u9_wsX10_sumOf_X10 hown hK hP 0 rfl rfl 22 (by decide) (hts (.fieldLink RX10 278 "TurnedFloorsModel" "go" "I") f9_wsX10_sumOf_60) (fun _ h9 => h9) rfl dX10_sumOf_8 ?_
  obtain ⟨r1, q3, h2, h⟩ := dB_some h
  refine dw_ki (va_runV (As := [.int (q.1 0 22)]) (rest := []) ⟨hx, hb, hml, hown, hts⟩ (qX10_codeAt l D ty eo _ ad q (q.1 0 22) r1 q3 h2) (cwV 1 hts gX10_sumOf_X10_codeAt rfl rfl rfl hd_X10_codeAt_v ⟨by dsimp only [headSpec]; omega, by dsimp only [headSpec]; omega⟩) (pv10_10_0 hK hN hE hP hD hS hA) rfl rfl hl.1 rfl (lv_room (Nat.le_of_ble_eq_true rfl)) dX10_sumOf_11 ⟨Nat.le_of_ble_eq_true rfl, Nat.le_of_ble_eq_true rfl⟩) hD hS hA (fun r9 u9 H locs hw hp hd hs => ?_)
  clear hP hD hS
  obtain ⟨rfl, rfl⟩ := hw
  have hP := hp; have hD := hd; have hS := hs; clear hp hd hs
  refine lv_bipush (v := 43) hx hb dX10_sumOf_14 (by decide) ?_
  obtain ⟨r4, h5, h⟩ := dV_some h
  refine dw_ks (va_runS (As := [.int 43]) (rest := [.int r1]) ⟨hx, hb, hml, hown, hts⟩ (qX10_sign l D ty eo _ 43 _ h5) (va_cwS 1 hts gX10_sumOf_X10_sign rfl rfl rfl hd_X10_sign ⟨by dsimp only [headSpec]; omega, by dsimp only [headSpec]; omega⟩) (pvS_0 hK hN hE hP hD hS hA) rfl rfl hl.1 rfl (lv_room (Nat.le_of_ble_eq_true rfl)) dX10_sumOf_16 ⟨Nat.le_of_ble_eq_true rfl, Nat.le_of_ble_eq_true rfl⟩) hP hD hS hA (fun _ _ h9 => h9.2.symm) (fun r9 u9 H locs hw hp hd hs => ?_)
  obtain ⟨rfl, -⟩ := hw
  clear hP hD hS
  have hP := hp; have hD := hd; have hS := hs; clear hp hd hs
  refine lv_icmp_eq (tgt := 38) hx hb dX10_sumOf_19 (by decide) (fun c9 => ?_) (fun c9 => ?_)
  · rw [if_pos c9] at h
    exact WX10_sumOf_38 hkU C0 hk6 _ _ _ _ _ _ h hP hD hS (lv_sub hl [0, 1, 2] rfl)
  · rw [if_neg c9] at h
    refine lv_aload_n hx hb dX10_sumOf_22 rfl (lv_at hl 0 rfl) ?_
    refine lv_aload_n hx hb dX10_sumOf_23 rfl (lv_at hl 0 rfl) ?_
    refine va_get (D := D) (ci := 10) (v := .int (q3.1 0 22)) (C := RX10) (T := TX10) (N := 56) hx hb hts u9_wsX10_sumOf_X10 hown hK hP 0 rfl rfl 22 (by decide) (hts (.fieldLink RX10 278 "TurnedFloorsModel" "go" "I") f9_wsX10_sumOf_60) (fun _ h9 => h9) rfl dX10_sumOf_24 ?_
    obtain ⟨r6, q8, h7, h⟩ := dB_some h
    refine dw_ki (va_runV (As := [.int (q3.1 0 22)]) (rest := []) ⟨hx, hb, hml, hown, hts⟩ (qX10_codeAt l D ty eo _ ad q3 (q3.1 0 22) r6 q8 h7) (cwV 1 hts gX10_sumOf_X10_codeAt rfl rfl rfl hd_X10_codeAt_v ⟨by dsimp only [headSpec]; omega, by dsimp only [headSpec]; omega⟩) (pv10_10_0 hK hN hE hP hD hS hA) rfl rfl hl.1 rfl (lv_room (Nat.le_of_ble_eq_true rfl)) dX10_sumOf_27 ⟨Nat.le_of_ble_eq_true rfl, Nat.le_of_ble_eq_true rfl⟩) hD hS hA (fun r9 u9 H locs hw hp hd hs => ?_)
    clear hP hD hS
    obtain ⟨rfl, rfl⟩ := hw
    have hP := hp; have hD := hd; have hS := hs; clear hp hd hs
    refine lv_bipush (v := 45) hx hb dX10_sumOf_30 (by decide) ?_
    obtain ⟨r9, h10, h⟩ := dV_some h
    refine dw_ks (va_runS (As := [.int 45]) (rest := [.int r6]) ⟨hx, hb, hml, hown, hts⟩ (qX10_sign l D ty eo _ 45 _ h10) (va_cwS 1 hts gX10_sumOf_X10_sign rfl rfl rfl hd_X10_sign ⟨by dsimp only [headSpec]; omega, by dsimp only [headSpec]; omega⟩) (pvS_0 hK hN hE hP hD hS hA) rfl rfl hl.1 rfl (lv_room (Nat.le_of_ble_eq_true rfl)) dX10_sumOf_32 ⟨Nat.le_of_ble_eq_true rfl, Nat.le_of_ble_eq_true rfl⟩) hP hD hS hA (fun _ _ h9 => h9.2.symm) (fun r9 u9 H locs hw hp hd hs => ?_)
    obtain ⟨rfl, -⟩ := hw
    clear hP hD hS
    have hP := hp; have hD := hd; have hS := hs; clear hp hd hs
    refine lv_icmp_ne (tgt := 103) hx hb dX10_sumOf_35 (by decide) (fun c9 => ?_) (fun c9 => ?_)
    · rw [if_neg c9] at h
      refine lv_lload_n hx hb dX10_sumOf_103 rfl (lv_at hl 2 rfl) ?_
      cases h
      exact kz_lret hx hb hr hlocks hP hK hD hS dX10_sumOf_104 ⟨rfl, rfl⟩
    · rw [if_pos c9] at h
      exact WX10_sumOf_38 hkU C0 hk6 _ _ _ _ _ _ h hP hD hS (lv_sub hl [0, 1, 2] rfl)
set_option maxHeartbeats 4000000 in
set_option maxRecDepth 100000 in
theorem WX10_sumOf_6 {p : Program} {l : Launch} {e : Env} {s : State} {m : MethodId} {args : Array Value} {below : List Frame} {meth : Method} {c : Code} {D : va_G} {ty : Nat → ClassId} {eo : Nat → Nat} {A : Nat → Prop} {ad : Nat → Nat} {o1 : Int64} {o2 : dS} {kU : dS → Int32 → Option (Int64 × dS)} {nU : Nat} (hkU : ∀ (sz : Nat) (q : dS) (p1 : Int32) (o1 : Int64) (o2 : dS), kU q p1 = some (o1, o2) → Met l yX10_sumOf wsX10_sumOf ({ frames := 12 + 3 * nU, cells := 0, slots := 0, locals := 400 + 75 * nU } : Room) (va_Pc [.ref (ad 0), .int p1] (kz_pre D ty eo (w10 ty ad q) sz)) (va_Ql (fun (r : Int64) (u : va_W) => o1 = r ∧ w10 ty ad o2 = u) (kz_B D ty (va_A (w10 ty ad q) sz)) (va_A (w10 ty ad q) sz)) 0 0 (va_A (w10 ty ad q) sz)) (C : dc_C p s m args meth c cX10_sumOf (some .long) 7 RX10 wsX10_sumOf D ty eo A)   (n : Nat) (q : dS) (x1 : Int32) (x2 : Int64) (H : Heap) (locs : List Loc) (ls : Array Slot) (h : zX10_sumOf_6 kU  n q x1 x2 = some (o1, o2)) (hP : va_P D vwCl (w10 ty ad q) H) (hD : va_D A (w10 ty ad q)) (hS : va_S A s.heap H locs) (hl : lv_has ls 7 [(0, .ref (ad 0)), (1, .int x1), (2, .long x2)]) : W p l e ({ frames := 12 + 3 * nU + 3, cells := 0, slots := 0, locals := 400 + 75 * nU + 75 } : Room) s m args below meth c H locs 0 0 (MQ below (va_Ql (fun (r : Int64) (u : va_W) => o1 = r ∧ w10 ty ad o2 = u) (kz_B D ty A) A) args s 0 0 A) (F0 m 6 ls []) := by
  exact dFix_W (F := fun k (a : dS × Int32 × Int64) => zX10_sumOf_6b kU  (fun q x1 x2 => k (q, x1, x2)) a.1 a.2.1 a.2.2) (o := (o1, o2)) (P := fun (a : dS × Int32 × Int64) H locs ls => va_P D vwCl (w10 ty ad a.1) H ∧ va_D A (w10 ty ad a.1) ∧ va_S A s.heap H locs ∧ lv_has ls 7 [(0, .ref (ad 0)), (1, .int a.2.1), (2, .long a.2.2)]) (G := fun H locs ls => W p l e ({ frames := 12 + 3 * nU + 3, cells := 0, slots := 0, locals := 400 + 75 * nU + 75 } : Room) s m args below meth c H locs 0 0 (MQ below (va_Ql (fun (r : Int64) (u : va_W) => o1 = r ∧ w10 ty ad o2 = u) (kz_B D ty A) A) args s 0 0 A) (F0 m 6 ls []))
    (fun k hk a H locs ls h hp => WX10_sumOf_6b hkU C  (fun q x1 x2 H locs ls h h1 h2 h3 h4 => hk (q, x1, x2) H locs ls h ⟨h1, h2, h3, h4⟩) a.1 a.2.1 a.2.2 H locs ls h hp.1 hp.2.1 hp.2.2.1 hp.2.2.2) n (q, x1, x2) H locs ls h ⟨hP, hD, hS, hl⟩
set_option maxHeartbeats 4000000 in
set_option maxRecDepth 100000 in
theorem qX10_sumOf_o (l : Launch) (D : va_G) (ty : Nat → ClassId) (eo : Nat → Nat) (sz : Nat) (ad : Nat → Nat) (kU : dS → Int32 → Option (Int64 × dS)) (nU : Nat) (hkU : ∀ (sz : Nat) (q : dS) (p1 : Int32) (o1 : Int64) (o2 : dS), kU q p1 = some (o1, o2) → Met l yX10_sumOf wsX10_sumOf ({ frames := 12 + 3 * nU, cells := 0, slots := 0, locals := 400 + 75 * nU } : Room) (va_Pc [.ref (ad 0), .int p1] (kz_pre D ty eo (w10 ty ad q) sz)) (va_Ql (fun (r : Int64) (u : va_W) => o1 = r ∧ w10 ty ad o2 = u) (kz_B D ty (va_A (w10 ty ad q) sz)) (va_A (w10 ty ad q) sz)) 0 0 (va_A (w10 ty ad q) sz)) (q : dS) (p1 : Int32) (o1 : Int64) (o2 : dS) (h : zX10_sumOf_o kU q p1 = some (o1, o2)) : Met l yX10_sumOf wsX10_sumOf ({ frames := 12 + 3 * nU + 3, cells := 0, slots := 0, locals := 400 + 75 * nU + 75 } : Room) (va_Pc [.ref (ad 0), .int p1] (kz_pre D ty eo (w10 ty ad q) sz)) (va_Ql (fun (r : Int64) (u : va_W) => o1 = r ∧ w10 ty ad o2 = u) (kz_B D ty (va_A (w10 ty ad q) sz)) (va_A (w10 ty ad q) sz)) 0 0 (va_A (w10 ty ad q) sz) := by
  refine Met.ofW (cc := cX10_sumOf) (maxL := 7) (ret := (some .long)) (by decide) rfl ?_
  intro p e s m args below meth c s₁ B hml hv
  obtain ⟨rfl, hsz, hP, hK, hD0, hN, hE⟩ := hv
  have hx := B.exec
  have hb := B.bytes
  have hr := B.returns
  have hts := atoms_spec (ws := wsX10_sumOf) B.pre
  have hown : s.vm.findClass RX10 = some m.cls := findClass_of_methodNamed B.named
  have hlocks := B.notSynchronized
  subst hsz
  have hD := hD0.self (sz := s.heap.size)
  generalize hAe : va_A (w10 ty ad q) s.heap.size = A at hD hE ⊢
  have hA : ∀ q : Nat, s.heap.size ≤ q → A q := fun q h => by rw [← hAe]; exact Or.inr h
  clear hAe
  have hS : va_S A s.heap s.heap [] := va_S.rf
  have hl := lv_entry ([.ref (ad 0), .int p1]) (n := 7) (Nat.le_of_ble_eq_true rfl)
  rw [lg_entry_eq]
  generalize (lg_sl ([.ref (ad 0), .int p1]) ++ List.replicate (7 - (lg_sl ([.ref (ad 0), .int p1])).length) Slot.unset).toArray = ls at hl ⊢
  have hl : lv_has ls 7 [(0, .ref (ad 0)), (1, .int p1)] := hl
  have C : dc_C p s m _ meth c cX10_sumOf (some .long) 7 RX10 wsX10_sumOf D ty eo A := ⟨hx, hb, hr, hts, hown, hlocks, hml, hK, hN, hE, hA⟩
  unfold zX10_sumOf_o at h
  refine lv_aload_n hx hb dX10_sumOf_0 rfl (lv_at hl 0 rfl) ?_
  refine lv_iload_n hx hb dX10_sumOf_1 rfl (lv_at hl 1 rfl) ?_
  obtain ⟨r1, q3, h2, h⟩ := dB_some h
  refine dw_kl (va_runV (As := [.int p1]) (rest := []) ⟨hx, hb, hml, hown, hts⟩ (qX10_termOf l D ty eo _ ad kU nU hkU q p1 r1 q3 h2) (cwV 1 hts gX10_sumOf_X10_termOf rfl rfl rfl hd_X10_termOf_v ⟨by dsimp only [headSpec]; omega, by dsimp only [headSpec]; omega⟩) (pv10_10_0 hK hN hE hP hD hS hA) rfl rfl hl.1 rfl (lv_room (Nat.le_of_ble_eq_true rfl)) dX10_sumOf_2 ⟨Nat.le_of_ble_eq_true rfl, Nat.le_of_ble_eq_true rfl⟩) hD hS hA (fun r9 u9 H locs hw hp hd hs => ?_)
  clear hP hD hS
  obtain ⟨rfl, rfl⟩ := hw
  have hP := hp; have hD := hd; have hS := hs; clear hp hd hs
  refine lv_lstore_n (lv' := [(2, .long r1), (0, .ref (ad 0)), (1, .int p1)]) hx hb dX10_sumOf_5 rfl hl (by decide) rfl (fun ls hl => ?_)
  exact WX10_sumOf_6 hkU C  _ _ _ _ _ _ _ h hP hD hS (lv_sub hl [1, 2, 0] rfl)
set_option maxHeartbeats 4000000 in
set_option maxRecDepth 100000 in
theorem qX10_sumOf (l : Launch) (D : va_G) (ty : Nat → ClassId) (eo : Nat → Nat) (sz : Nat) (ad : Nat → Nat) (n : Nat) : ∀ (q : dS) (p1 : Int32) (o1 : Int64) (o2 : dS), zX10_sumOf n q p1 = some (o1, o2) → Met l yX10_sumOf wsX10_sumOf ({ frames := 12 + 3 * n, cells := 0, slots := 0, locals := 400 + 75 * n } : Room) (va_Pc [.ref (ad 0), .int p1] (kz_pre D ty eo (w10 ty ad q) sz)) (va_Ql (fun (r : Int64) (u : va_W) => o1 = r ∧ w10 ty ad o2 = u) (kz_B D ty (va_A (w10 ty ad q) sz)) (va_A (w10 ty ad q) sz)) 0 0 (va_A (w10 ty ad q) sz) := by
  induction n generalizing sz with
  | zero => intro q p1 o1 o2 h; cases h
  | succ n ih =>
    intro q p1 o1 o2 h
    have h2 := qX10_sumOf_o l D ty eo sz ad (zX10_sumOf n) n (fun sz q p1 o1 o2 h => ih sz q p1 o1 o2 h) q p1 o1 o2 h
    have e : ({ frames := 12 + 3 * n + 3, cells := 0, slots := 0, locals := 400 + 75 * n + 75 } : Room) = ({ frames := 12 + 3 * (n + 1), cells := 0, slots := 0, locals := 400 + 75 * (n + 1) } : Room) := by congr 1 <;> omega
    rw [← e]
    exact h2

set_option maxHeartbeats 4000000 in
set_option maxRecDepth 100000 in
theorem WX10_positiveOf_126 {p : Program} {l : Launch} {e : Env} {s : State} {m : MethodId} {args : Array Value} {below : List Frame} {meth : Method} {c : Code} {D : va_G} {ty : Nat → ClassId} {eo : Nat → Nat} {A : Nat → Prop} {ad : Nat → Nat} {o1 : Int32} {o2 : dS} {kV : dS → Int32 → Option (Int32 × dS)} {nV : Nat} (hkV : ∀ (sz : Nat) (q : dS) (p1 : Int32) (o1 : Int32) (o2 : dS), kV q p1 = some (o1, o2) → Met l yX10_testOf wsX10_testOf ({ frames := 44 + 4 * nV, cells := 0, slots := 0, locals := 1210 + 94 * nV } : Room) (va_Pc [.ref (ad 0), .int p1] (kz_pre D ty eo (w10 ty ad q) sz)) (va_Qi (fun (r : Int32) (u : va_W) => o1 = r ∧ w10 ty ad o2 = u) (kz_B D ty (va_A (w10 ty ad q) sz)) (va_A (w10 ty ad q) sz)) 0 0 (va_A (w10 ty ad q) sz)) (C : dc_C p s m args meth c cX10_positiveOf (some .boolean) 7 RX10 wsX10_positiveOf D ty eo A)   (q : dS) (y0 : Int32) (H : Heap) (locs : List Loc) (ls : Array Slot) (h : zX10_positiveOf_126 kV  q y0 = some (o1, o2)) (hP : va_P D vwCl (w10 ty ad q) H) (hD : va_D A (w10 ty ad q)) (hS : va_S A s.heap H locs) (hl : lv_has ls 7 []) : W p l e ({ frames := 44 + 4 * nV + 1, cells := 0, slots := 0, locals := 1210 + 94 * nV + 23 } : Room) s m args below meth c H locs 0 0 (MQ below (va_Qi (fun (r : Int32) (u : va_W) => o1 = r ∧ w10 ty ad o2 = u) (kz_B D ty A) A) args s 0 0 A) (F0 m 126 ls [.int y0]) := by
  have C0 := C
  obtain ⟨hx, hb, hr, hts, hown, hlocks, hml, hK, hN, hE, hA⟩ := C
  unfold zX10_positiveOf_126 at h
  obtain ⟨g1, h⟩ := dG_some h
  cases h
  exact kz_zret hx hb hr hlocks (dbl_nar g1) hP hK hD hS dX10_positiveOf_126 ⟨rfl, rfl⟩
set_option maxHeartbeats 4000000 in
set_option maxRecDepth 100000 in
theorem WX10_positiveOf_125 {p : Program} {l : Launch} {e : Env} {s : State} {m : MethodId} {args : Array Value} {below : List Frame} {meth : Method} {c : Code} {D : va_G} {ty : Nat → ClassId} {eo : Nat → Nat} {A : Nat → Prop} {ad : Nat → Nat} {o1 : Int32} {o2 : dS} {kV : dS → Int32 → Option (Int32 × dS)} {nV : Nat} (hkV : ∀ (sz : Nat) (q : dS) (p1 : Int32) (o1 : Int32) (o2 : dS), kV q p1 = some (o1, o2) → Met l yX10_testOf wsX10_testOf ({ frames := 44 + 4 * nV, cells := 0, slots := 0, locals := 1210 + 94 * nV } : Room) (va_Pc [.ref (ad 0), .int p1] (kz_pre D ty eo (w10 ty ad q) sz)) (va_Qi (fun (r : Int32) (u : va_W) => o1 = r ∧ w10 ty ad o2 = u) (kz_B D ty (va_A (w10 ty ad q) sz)) (va_A (w10 ty ad q) sz)) 0 0 (va_A (w10 ty ad q) sz)) (C : dc_C p s m args meth c cX10_positiveOf (some .boolean) 7 RX10 wsX10_positiveOf D ty eo A)   (q : dS)  (H : Heap) (locs : List Loc) (ls : Array Slot) (h : zX10_positiveOf_125 kV  q = some (o1, o2)) (hP : va_P D vwCl (w10 ty ad q) H) (hD : va_D A (w10 ty ad q)) (hS : va_S A s.heap H locs) (hl : lv_has ls 7 []) : W p l e ({ frames := 44 + 4 * nV + 1, cells := 0, slots := 0, locals := 1210 + 94 * nV + 23 } : Room) s m args below meth c H locs 0 0 (MQ below (va_Qi (fun (r : Int32) (u : va_W) => o1 = r ∧ w10 ty ad o2 = u) (kz_B D ty A) A) args s 0 0 A) (F0 m 125 ls []) := by
  have C0 := C
  obtain ⟨hx, hb, hr, hts, hown, hlocks, hml, hK, hN, hE, hA⟩ := C
  unfold zX10_positiveOf_125 at h
  refine lv_iconst (v := 0) hx hb dX10_positiveOf_125 (by decide) ?_
  exact WX10_positiveOf_126 hkV C0  _ _ _ _ _ h hP hD hS (lv_sub hl [] rfl)
set_option maxHeartbeats 4000000 in
set_option maxRecDepth 100000 in
theorem WX10_positiveOf_121 {p : Program} {l : Launch} {e : Env} {s : State} {m : MethodId} {args : Array Value} {below : List Frame} {meth : Method} {c : Code} {D : va_G} {ty : Nat → ClassId} {eo : Nat → Nat} {A : Nat → Prop} {ad : Nat → Nat} {o1 : Int32} {o2 : dS} {kV : dS → Int32 → Option (Int32 × dS)} {nV : Nat} (hkV : ∀ (sz : Nat) (q : dS) (p1 : Int32) (o1 : Int32) (o2 : dS), kV q p1 = some (o1, o2) → Met l yX10_testOf wsX10_testOf ({ frames := 44 + 4 * nV, cells := 0, slots := 0, locals := 1210 + 94 * nV } : Room) (va_Pc [.ref (ad 0), .int p1] (kz_pre D ty eo (w10 ty ad q) sz)) (va_Qi (fun (r : Int32) (u : va_W) => o1 = r ∧ w10 ty ad o2 = u) (kz_B D ty (va_A (w10 ty ad q) sz)) (va_A (w10 ty ad q) sz)) 0 0 (va_A (w10 ty ad q) sz)) (C : dc_C p s m args meth c cX10_positiveOf (some .boolean) 7 RX10 wsX10_positiveOf D ty eo A)   (q : dS)  (H : Heap) (locs : List Loc) (ls : Array Slot) (h : zX10_positiveOf_121 kV  q = some (o1, o2)) (hP : va_P D vwCl (w10 ty ad q) H) (hD : va_D A (w10 ty ad q)) (hS : va_S A s.heap H locs) (hl : lv_has ls 7 []) : W p l e ({ frames := 44 + 4 * nV + 1, cells := 0, slots := 0, locals := 1210 + 94 * nV + 23 } : Room) s m args below meth c H locs 0 0 (MQ below (va_Qi (fun (r : Int32) (u : va_W) => o1 = r ∧ w10 ty ad o2 = u) (kz_B D ty A) A) args s 0 0 A) (F0 m 121 ls []) := by
  have C0 := C
  obtain ⟨hx, hb, hr, hts, hown, hlocks, hml, hK, hN, hE, hA⟩ := C
  unfold zX10_positiveOf_121 at h
  refine lv_iconst (v := 1) hx hb dX10_positiveOf_121 (by decide) ?_
  refine lv_goto (tgt := 126) hx hb dX10_positiveOf_122 (by decide) ?_
  exact WX10_positiveOf_126 hkV C0  _ _ _ _ _ h hP hD hS (lv_sub hl [] rfl)
set_option maxHeartbeats 4000000 in
set_option maxRecDepth 100000 in
theorem qX10_positiveOf (l : Launch) (D : va_G) (ty : Nat → ClassId) (eo : Nat → Nat) (sz : Nat) (ad : Nat → Nat) (kV : dS → Int32 → Option (Int32 × dS)) (nV : Nat) (hkV : ∀ (sz : Nat) (q : dS) (p1 : Int32) (o1 : Int32) (o2 : dS), kV q p1 = some (o1, o2) → Met l yX10_testOf wsX10_testOf ({ frames := 44 + 4 * nV, cells := 0, slots := 0, locals := 1210 + 94 * nV } : Room) (va_Pc [.ref (ad 0), .int p1] (kz_pre D ty eo (w10 ty ad q) sz)) (va_Qi (fun (r : Int32) (u : va_W) => o1 = r ∧ w10 ty ad o2 = u) (kz_B D ty (va_A (w10 ty ad q) sz)) (va_A (w10 ty ad q) sz)) 0 0 (va_A (w10 ty ad q) sz)) (q : dS) (p1 : Int32) (o1 : Int32) (o2 : dS) (h : zX10_positiveOf kV q p1 = some (o1, o2)) : Met l yX10_positiveOf wsX10_positiveOf ({ frames := 44 + 4 * nV + 1, cells := 0, slots := 0, locals := 1210 + 94 * nV + 23 } : Room) (va_Pc [.ref (ad 0), .int p1] (kz_pre D ty eo (w10 ty ad q) sz)) (va_Qi (fun (r : Int32) (u : va_W) => o1 = r ∧ w10 ty ad o2 = u) (kz_B D ty (va_A (w10 ty ad q) sz)) (va_A (w10 ty ad q) sz)) 0 0 (va_A (w10 ty ad q) sz) := by
  refine Met.ofW (cc := cX10_positiveOf) (maxL := 7) (ret := (some .boolean)) (by decide) rfl ?_
  intro p e s m args below meth c s₁ B hml hv
  obtain ⟨rfl, hsz, hP, hK, hD0, hN, hE⟩ := hv
  have hx := B.exec
  have hb := B.bytes
  have hr := B.returns
  have hts := atoms_spec (ws := wsX10_positiveOf) B.pre
  have hown : s.vm.findClass RX10 = some m.cls := findClass_of_methodNamed B.named
  have hlocks := B.notSynchronized
  subst hsz
  have hD := hD0.self (sz := s.heap.size)
  generalize hAe : va_A (w10 ty ad q) s.heap.size = A at hD hE ⊢
  have hA : ∀ q : Nat, s.heap.size ≤ q → A q := fun q h => by rw [← hAe]; exact Or.inr h
  clear hAe
  have hS : va_S A s.heap s.heap [] := va_S.rf
  have hl := lv_entry ([.ref (ad 0), .int p1]) (n := 7) (Nat.le_of_ble_eq_true rfl)
  rw [lg_entry_eq]
  generalize (lg_sl ([.ref (ad 0), .int p1]) ++ List.replicate (7 - (lg_sl ([.ref (ad 0), .int p1])).length) Slot.unset).toArray = ls at hl ⊢
  have hl : lv_has ls 7 [(0, .ref (ad 0)), (1, .int p1)] := hl
  have C : dc_C p s m _ meth c cX10_positiveOf (some .boolean) 7 RX10 wsX10_positiveOf D ty eo A := ⟨hx, hb, hr, hts, hown, hlocks, hml, hK, hN, hE, hA⟩
  unfold zX10_positiveOf at h
  refine lv_aload_n hx hb dX10_positiveOf_0 rfl (lv_at hl 0 rfl) ?_
  refine lv_bipush (v := 40) hx hb dX10_positiveOf_1 (by decide) ?_
  obtain ⟨r1, h2, h⟩ := dV_some h
  refine dw_ks (va_runS (As := [.int 40]) (rest := [.ref (ad 0)]) ⟨hx, hb, hml, hown, hts⟩ (qX10_sign l D ty eo _ 40 _ h2) (va_cwS 1 hts gX10_positiveOf_X10_sign rfl rfl rfl hd_X10_sign ⟨by dsimp only [headSpec]; omega, by dsimp only [headSpec]; omega⟩) (pvS_0 hK hN hE hP hD hS hA) rfl rfl hl.1 rfl (lv_room (Nat.le_of_ble_eq_true rfl)) dX10_positiveOf_3 ⟨Nat.le_of_ble_eq_true rfl, Nat.le_of_ble_eq_true rfl⟩) hP hD hS hA (fun _ _ h9 => h9.2.symm) (fun r9 u9 H locs hw hp hd hs => ?_)
  obtain ⟨rfl, -⟩ := hw
  clear hP hD hS
  have hP := hp; have hD := hd; have hS := hs; clear hp hd hs
  obtain ⟨r3, q5, h4, h⟩ := dB_some h
  refine dw_ki (va_runV (As := [.int r1]) (rest := []) ⟨hx, hb, hml, hown, hts⟩ (qX10_passes0 l D ty eo _ ad q r1 r3 q5 h4) (cwV 1 hts gX10_positiveOf_X10_passes0 rfl rfl rfl hd_X10_passes0_v ⟨by dsimp only [headSpec]; omega, by dsimp only [headSpec]; omega⟩) (pv10_10_0 hK hN hE hP hD hS hA) rfl rfl hl.1 rfl (lv_room (Nat.le_of_ble_eq_true rfl)) dX10_positiveOf_6 ⟨Nat.le_of_ble_eq_true rfl, Nat.le_of_ble_eq_true rfl⟩) hD hS hA (fun r9 u9 H locs hw hp hd hs => ?_)
  clear hP hD hS
  obtain ⟨rfl, rfl⟩ := hw
  have hP := hp; have hD := hd; have hS := hs; clear hp hd hs
  refine lv_if_eq (tgt := 30) hx hb dX10_positiveOf_9 (by decide) (fun c9 => ?_) (fun c9 => ?_)
  · rw [if_pos c9] at h
    refine lv_aload_n hx hb dX10_positiveOf_30 rfl (lv_at hl 0 rfl) ?_
    refine lv_iload_n hx hb dX10_positiveOf_31 rfl (lv_at hl 1 rfl) ?_
    obtain ⟨r6, q8, h7, h⟩ := dB_some h
    refine dw_kl (va_runV (As := [.int p1]) (rest := []) ⟨hx, hb, hml, hown, hts⟩ (qX10_sumOf l D ty eo _ ad 10 q5 p1 r6 q8 h7) (cwV 1 hts gX10_positiveOf_X10_sumOf rfl rfl rfl hd_X10_sumOf_v ⟨by dsimp only [headSpec]; omega, by dsimp only [headSpec]; omega⟩) (pv10_10_0 hK hN hE hP hD hS hA) rfl rfl hl.1 rfl (lv_room (Nat.le_of_ble_eq_true rfl)) dX10_positiveOf_32 ⟨Nat.le_of_ble_eq_true rfl, Nat.le_of_ble_eq_true rfl⟩) hD hS hA (fun r9 u9 H locs hw hp hd hs => ?_)
    clear hP hD hS
    obtain ⟨rfl, rfl⟩ := hw
    have hP := hp; have hD := hd; have hS := hs; clear hp hd hs
    refine lv_lstore_n (lv' := [(2, .long r6), (0, .ref (ad 0)), (1, .int p1)]) hx hb dX10_positiveOf_35 rfl hl (by decide) rfl (fun ls hl => ?_)
    refine lv_aload_n hx hb dX10_positiveOf_36 rfl (lv_at hl 1 rfl) ?_
    refine lv_aload_n hx hb dX10_positiveOf_37 rfl (lv_at hl 1 rfl) ?_
    refine va_get (D := D) (ci := 10) (v := .int (q8.1 0 22)) (C := RX10) (T := TX10) (N := 56) hx hb hts (by decide +kernel) hown hK hP 0 rfl rfl 22 (by decide) (hts (.fieldLink RX10 278 "TurnedFloorsModel" "go" "I") (by decide +kernel)) (fun _ h9 => h9) rfl dX10_positiveOf_38 ?_
    obtain ⟨r9, q11, h10, h⟩ := dB_some h
    refine dw_ki (va_runV (As := [.int (q8.1 0 22)]) (rest := []) ⟨hx, hb, hml, hown, hts⟩ (qX10_codeAt l D ty eo _ ad q8 (q8.1 0 22) r9 q11 h10) (cwV 1 hts gX10_positiveOf_X10_codeAt rfl rfl rfl hd_X10_codeAt_v ⟨by dsimp only [headSpec]; omega, by dsimp only [headSpec]; omega⟩) (pv10_10_0 hK hN hE hP hD hS hA) rfl rfl hl.1 rfl (lv_room (Nat.le_of_ble_eq_true rfl)) dX10_positiveOf_41 ⟨Nat.le_of_ble_eq_true rfl, Nat.le_of_ble_eq_true rfl⟩) hD hS hA (fun r9 u9 H locs hw hp hd hs => ?_)
    clear hP hD hS
    obtain ⟨rfl, rfl⟩ := hw
    have hP := hp; have hD := hd; have hS := hs; clear hp hd hs
    refine lv_istore (lv' := [(4, .int r9), (2, .long r6), (0, .ref (ad 0)), (1, .int p1)]) hx hb dX10_positiveOf_44 hl (by decide) rfl (fun ls hl => ?_)
    refine lv_aload_n hx hb dX10_positiveOf_46 rfl (lv_at hl 2 rfl) ?_
    refine lv_dup hx hb dX10_positiveOf_47 rfl ?_
    refine va_get (D := D) (ci := 10) (v := .int (q11.1 0 22)) (C := RX10) (T := TX10) (N := 56) hx hb hts (by decide +kernel) hown hK hP 0 rfl rfl 22 (by decide) (hts (.fieldLink RX10 278 "TurnedFloorsModel" "go" "I") (by decide +kernel)) (fun _ h9 => h9) rfl dX10_positiveOf_48 ?_
    refine lv_iconst (v := 1) hx hb dX10_positiveOf_51 (by decide) ?_
    refine lv_iadd hx hb dX10_positiveOf_52 ?_
    refine va_put (D := D) (ci := 10) (v := .int ((q11.1 0 22) + 1 : Int32)) (ty := .int) (C := RX10) (T := TX10) (N := 56) hx hb hts (by decide +kernel) tyX10 tyX10_ok nmX10 hown hK hP hD hS 0 rfl rfl 22 (by decide) (hts (.fieldLink RX10 278 "TurnedFloorsModel" "go" "I") (by decide +kernel)) (fun _ h9 => h9) rfl (by decide +kernel) rfl rfl (Nat.le_of_ble_eq_true rfl) dX10_positiveOf_53 (fun H locs hp hd hs => ?_)
    obtain ⟨q12, eq12, h⟩ := dL_some h
    refine kz_re (w2 := w10 ty ad q12) hp hd hs (by rw [← eq12]; exact w10_f22 ty ad q11 ((q11.1 0 22) + 1 : Int32)) ?_
    clear hp hd hs hP hD hS
    intro hP hD hS
    refine lv_aload_n hx hb dX10_positiveOf_56 rfl (lv_at hl 2 rfl) ?_
    refine lv_iload_n hx hb dX10_positiveOf_57 rfl (lv_at hl 3 rfl) ?_
    obtain ⟨r13, q15, h14, h⟩ := dB_some h
    refine dw_kl (va_runV (As := [.int p1]) (rest := []) ⟨hx, hb, hml, hown, hts⟩ (qX10_sumOf l D ty eo _ ad 10 q12 p1 r13 q15 h14) (cwV 1 hts gX10_positiveOf_X10_sumOf rfl rfl rfl hd_X10_sumOf_v ⟨by dsimp only [headSpec]; omega, by dsimp only [headSpec]; omega⟩) (pv10_10_0 hK hN hE hP hD hS hA) rfl rfl hl.1 rfl (lv_room (Nat.le_of_ble_eq_true rfl)) dX10_positiveOf_58 ⟨Nat.le_of_ble_eq_true rfl, Nat.le_of_ble_eq_true rfl⟩) hD hS hA (fun r9 u9 H locs hw hp hd hs => ?_)
    clear hP hD hS
    obtain ⟨rfl, rfl⟩ := hw
    have hP := hp; have hD := hd; have hS := hs; clear hp hd hs
    refine lv_lstore (lv' := [(5, .long r13), (4, .int r9), (2, .long r6), (0, .ref (ad 0)), (1, .int p1)]) hx hb dX10_positiveOf_61 hl (by decide) rfl (fun ls hl => ?_)
    refine lv_iload_n hx hb dX10_positiveOf_63 rfl (lv_at hl 4 rfl) ?_
    refine lv_if_eq (tgt := 125) hx hb dX10_positiveOf_64 (by decide) (fun c9 => ?_) (fun c9 => ?_)
    · rw [if_pos c9] at h
      exact WX10_positiveOf_125 hkV C  _ _ _ _ h hP hD hS (lv_sub hl [] rfl)
    · rw [if_neg c9] at h
      refine lv_aload_n hx hb dX10_positiveOf_67 rfl (lv_at hl 3 rfl) ?_
      refine va_get (D := D) (ci := 10) (v := .int (q15.1 0 24)) (C := RX10) (T := TX10) (N := 56) hx hb hts (by decide +kernel) hown hK hP 0 rfl rfl 24 (by decide) (hts (.fieldLink RX10 288 "TurnedFloorsModel" "broken" "Z") (by decide +kernel)) (fun _ h9 => h9) rfl dX10_positiveOf_68 ?_
      refine lv_if_ne (tgt := 125) hx hb dX10_positiveOf_71 (by decide) (fun c9 => ?_) (fun c9 => ?_)
      · rw [if_neg c9] at h
        exact WX10_positiveOf_125 hkV C  _ _ _ _ h hP hD hS (lv_sub hl [] rfl)
      · rw [if_pos c9] at h
        refine lv_iload hx hb dX10_positiveOf_74 (lv_at hl 1 rfl) ?_
        refine lv_bipush (v := 60) hx hb dX10_positiveOf_76 (by decide) ?_
        obtain ⟨r16, h17, h⟩ := dV_some h
        refine dw_ks (va_runS (As := [.int 60]) (rest := [.int r9]) ⟨hx, hb, hml, hown, hts⟩ (qX10_sign l D ty eo _ 60 _ h17) (va_cwS 1 hts gX10_positiveOf_X10_sign rfl rfl rfl hd_X10_sign ⟨by dsimp only [headSpec]; omega, by dsimp only [headSpec]; omega⟩) (pvS_0 hK hN hE hP hD hS hA) rfl rfl hl.1 rfl (lv_room (Nat.le_of_ble_eq_true rfl)) dX10_positiveOf_78 ⟨Nat.le_of_ble_eq_true rfl, Nat.le_of_ble_eq_true rfl⟩) hP hD hS hA (fun _ _ h9 => h9.2.symm) (fun r9 u9 H locs hw hp hd hs => ?_)
        obtain ⟨rfl, -⟩ := hw
        clear hP hD hS
        have hP := hp; have hD := hd; have hS := hs; clear hp hd hs
        refine lv_icmp_ne (tgt := 94) hx hb dX10_positiveOf_81 (by decide) (fun c9 => ?_) (fun c9 => ?_)
        · rw [if_neg c9] at h
          refine lv_iload hx hb dX10_positiveOf_94 (lv_at hl 1 rfl) ?_
          refine lv_bipush (v := 62) hx hb dX10_positiveOf_96 (by decide) ?_
          obtain ⟨r18, h19, h⟩ := dV_some h
          refine dw_ks (va_runS (As := [.int 62]) (rest := [.int r9]) ⟨hx, hb, hml, hown, hts⟩ (qX10_sign l D ty eo _ 62 _ h19) (va_cwS 1 hts gX10_positiveOf_X10_sign rfl rfl rfl hd_X10_sign ⟨by dsimp only [headSpec]; omega, by dsimp only [headSpec]; omega⟩) (pvS_0 hK hN hE hP hD hS hA) rfl rfl hl.1 rfl (lv_room (Nat.le_of_ble_eq_true rfl)) dX10_positiveOf_98 ⟨Nat.le_of_ble_eq_true rfl, Nat.le_of_ble_eq_true rfl⟩) hP hD hS hA (fun _ _ h9 => h9.2.symm) (fun r9 u9 H locs hw hp hd hs => ?_)
          obtain ⟨rfl, -⟩ := hw
          clear hP hD hS
          have hP := hp; have hD := hd; have hS := hs; clear hp hd hs
          refine lv_icmp_ne (tgt := 114) hx hb dX10_positiveOf_101 (by decide) (fun c9 => ?_) (fun c9 => ?_)
          · rw [if_neg c9] at h
            refine lv_lload_n hx hb dX10_positiveOf_114 rfl (lv_at hl 2 rfl) ?_
            refine lv_lload hx hb dX10_positiveOf_115 (lv_at hl 0 rfl) ?_
            refine W.lcmp hx hb dX10_positiveOf_117 ?_
            refine lv_if_ne (tgt := 125) hx hb dX10_positiveOf_118 (by decide) (fun c9 => ?_) (fun c9 => ?_)
            · rw [if_neg c9] at h
              exact WX10_positiveOf_125 hkV C  _ _ _ _ h hP hD hS (lv_sub hl [] rfl)
            · rw [if_pos c9] at h
              exact WX10_positiveOf_121 hkV C  _ _ _ _ h hP hD hS (lv_sub hl [] rfl)
          · rw [if_pos c9] at h
            refine lv_lload_n hx hb dX10_positiveOf_104 rfl (lv_at hl 2 rfl) ?_
            refine lv_lload hx hb dX10_positiveOf_105 (lv_at hl 0 rfl) ?_
            refine W.lcmp hx hb dX10_positiveOf_107 ?_
            refine lv_if_le (tgt := 125) hx hb dX10_positiveOf_108 (by decide) (fun c9 => ?_) (fun c9 => ?_)
            · rw [if_pos c9] at h
              exact WX10_positiveOf_125 hkV C  _ _ _ _ h hP hD hS (lv_sub hl [] rfl)
            · rw [if_neg c9] at h
              refine lv_goto (tgt := 121) hx hb dX10_positiveOf_111 (by decide) ?_
              exact WX10_positiveOf_121 hkV C  _ _ _ _ h hP hD hS (lv_sub hl [] rfl)
        · rw [if_pos c9] at h
          refine lv_lload_n hx hb dX10_positiveOf_84 rfl (lv_at hl 2 rfl) ?_
          refine lv_lload hx hb dX10_positiveOf_85 (lv_at hl 0 rfl) ?_
          refine W.lcmp hx hb dX10_positiveOf_87 ?_
          refine lv_if_ge (tgt := 125) hx hb dX10_positiveOf_88 (by decide) (fun c9 => ?_) (fun c9 => ?_)
          · rw [if_pos c9] at h
            exact WX10_positiveOf_125 hkV C  _ _ _ _ h hP hD hS (lv_sub hl [] rfl)
          · rw [if_neg c9] at h
            refine lv_goto (tgt := 121) hx hb dX10_positiveOf_91 (by decide) ?_
            exact WX10_positiveOf_121 hkV C  _ _ _ _ h hP hD hS (lv_sub hl [] rfl)
  · rw [if_neg c9] at h
    refine lv_aload_n hx hb dX10_positiveOf_12 rfl (lv_at hl 0 rfl) ?_
    refine lv_iload_n hx hb dX10_positiveOf_13 rfl (lv_at hl 1 rfl) ?_
    obtain ⟨r20, q22, h21, h⟩ := dB_some h
    refine dw_ki (va_runV (As := [.int p1]) (rest := []) ⟨hx, hb, hml, hown, hts⟩ (hkV _ q5 p1 r20 q22 h21) (cwV 1 hts gX10_positiveOf_X10_testOf rfl rfl rfl hd_X10_testOf_v ⟨by dsimp only [headSpec]; omega, by dsimp only [headSpec]; omega⟩) (pv10_10_0 hK hN hE hP hD hS hA) rfl rfl hl.1 rfl (lv_room (Nat.le_of_ble_eq_true rfl)) dX10_positiveOf_14 ⟨Nat.le_of_ble_eq_true rfl, Nat.le_of_ble_eq_true rfl⟩) hD hS hA (fun r9 u9 H locs hw hp hd hs => ?_)
    clear hP hD hS
    obtain ⟨rfl, rfl⟩ := hw
    have hP := hp; have hD := hd; have hS := hs; clear hp hd hs
    refine lv_istore_n (lv' := [(2, .int r20), (0, .ref (ad 0)), (1, .int p1)]) hx hb dX10_positiveOf_17 rfl hl (by decide) rfl (fun ls hl => ?_)
    refine lv_aload_n hx hb dX10_positiveOf_18 rfl (lv_at hl 1 rfl) ?_
    refine lv_dup hx hb dX10_positiveOf_19 rfl ?_
    refine va_get (D := D) (ci := 10) (v := .int (q22.1 0 22)) (C := RX10) (T := TX10) (N := 56) hx hb hts (by decide +kernel) hown hK hP 0 rfl rfl 22 (by decide) (hts (.fieldLink RX10 278 "TurnedFloorsModel" "go" "I") (by decide +kernel)) (fun _ h9 => h9) rfl dX10_positiveOf_20 ?_
    refine lv_iconst (v := 1) hx hb dX10_positiveOf_23 (by decide) ?_
    refine lv_iadd hx hb dX10_positiveOf_24 ?_
    refine va_put (D := D) (ci := 10) (v := .int ((q22.1 0 22) + 1 : Int32)) (ty := .int) (C := RX10) (T := TX10) (N := 56) hx hb hts (by decide +kernel) tyX10 tyX10_ok nmX10 hown hK hP hD hS 0 rfl rfl 22 (by decide) (hts (.fieldLink RX10 278 "TurnedFloorsModel" "go" "I") (by decide +kernel)) (fun _ h9 => h9) rfl (by decide +kernel) rfl rfl (Nat.le_of_ble_eq_true rfl) dX10_positiveOf_25 (fun H locs hp hd hs => ?_)
    obtain ⟨q23, eq23, h⟩ := dL_some h
    refine kz_re (w2 := w10 ty ad q23) hp hd hs (by rw [← eq23]; exact w10_f22 ty ad q22 ((q22.1 0 22) + 1 : Int32)) ?_
    clear hp hd hs hP hD hS
    intro hP hD hS
    refine lv_iload_n hx hb dX10_positiveOf_28 rfl (lv_at hl 0 rfl) ?_
    obtain ⟨g24, h⟩ := dG_some h
    cases h
    exact kz_zret hx hb hr hlocks (dbl_nar g24) hP hK hD hS dX10_positiveOf_29 ⟨rfl, rfl⟩

set_option maxHeartbeats 4000000 in
set_option maxRecDepth 100000 in
theorem WX10_plainOf_38 {p : Program} {l : Launch} {e : Env} {s : State} {m : MethodId} {args : Array Value} {below : List Frame} {meth : Method} {c : Code} {D : va_G} {ty : Nat → ClassId} {eo : Nat → Nat} {A : Nat → Prop} {ad : Nat → Nat} {o1 : Int32} {o2 : dS} {kV : dS → Int32 → Option (Int32 × dS)} {nV : Nat} (hkV : ∀ (sz : Nat) (q : dS) (p1 : Int32) (o1 : Int32) (o2 : dS), kV q p1 = some (o1, o2) → Met l yX10_testOf wsX10_testOf ({ frames := 44 + 4 * nV, cells := 0, slots := 0, locals := 1210 + 94 * nV } : Room) (va_Pc [.ref (ad 0), .int p1] (kz_pre D ty eo (w10 ty ad q) sz)) (va_Qi (fun (r : Int32) (u : va_W) => o1 = r ∧ w10 ty ad o2 = u) (kz_B D ty (va_A (w10 ty ad q) sz)) (va_A (w10 ty ad q) sz)) 0 0 (va_A (w10 ty ad q) sz)) (C : dc_C p s m args meth c cX10_plainOf (some .boolean) 3 RX10 wsX10_plainOf D ty eo A)   (q : dS) (y0 : Int32) (H : Heap) (locs : List Loc) (ls : Array Slot) (h : zX10_plainOf_38 kV  q y0 = some (o1, o2)) (hP : va_P D vwCl (w10 ty ad q) H) (hD : va_D A (w10 ty ad q)) (hS : va_S A s.heap H locs) (hl : lv_has ls 3 []) : W p l e ({ frames := 44 + 4 * nV + 2, cells := 0, slots := 0, locals := 1210 + 94 * nV + 49 } : Room) s m args below meth c H locs 0 0 (MQ below (va_Qi (fun (r : Int32) (u : va_W) => o1 = r ∧ w10 ty ad o2 = u) (kz_B D ty A) A) args s 0 0 A) (F0 m 38 ls [.int y0]) := by
  have C0 := C
  obtain ⟨hx, hb, hr, hts, hown, hlocks, hml, hK, hN, hE, hA⟩ := C
  unfold zX10_plainOf_38 at h
  obtain ⟨g1, h⟩ := dG_some h
  cases h
  exact kz_zret hx hb hr hlocks (dbl_nar g1) hP hK hD hS dX10_plainOf_38 ⟨rfl, rfl⟩
set_option maxHeartbeats 4000000 in
set_option maxRecDepth 100000 in
theorem WX10_plainOf_20 {p : Program} {l : Launch} {e : Env} {s : State} {m : MethodId} {args : Array Value} {below : List Frame} {meth : Method} {c : Code} {D : va_G} {ty : Nat → ClassId} {eo : Nat → Nat} {A : Nat → Prop} {ad : Nat → Nat} {o1 : Int32} {o2 : dS} {kV : dS → Int32 → Option (Int32 × dS)} {nV : Nat} (hkV : ∀ (sz : Nat) (q : dS) (p1 : Int32) (o1 : Int32) (o2 : dS), kV q p1 = some (o1, o2) → Met l yX10_testOf wsX10_testOf ({ frames := 44 + 4 * nV, cells := 0, slots := 0, locals := 1210 + 94 * nV } : Room) (va_Pc [.ref (ad 0), .int p1] (kz_pre D ty eo (w10 ty ad q) sz)) (va_Qi (fun (r : Int32) (u : va_W) => o1 = r ∧ w10 ty ad o2 = u) (kz_B D ty (va_A (w10 ty ad q) sz)) (va_A (w10 ty ad q) sz)) 0 0 (va_A (w10 ty ad q) sz)) (C : dc_C p s m args meth c cX10_plainOf (some .boolean) 3 RX10 wsX10_plainOf D ty eo A) {k2 : dS → Int32 → Int32 → Option (Int32 × dS)} (hk2 : ∀ (q : dS) (x1 : Int32) (x2 : Int32) (H : Heap) (locs : List Loc) (ls : Array Slot), k2 q x1 x2 = some (o1, o2) → va_P D vwCl (w10 ty ad q) H → va_D A (w10 ty ad q) → va_S A s.heap H locs → lv_has ls 3 [(0, .ref (ad 0)), (1, .int x1), (2, .int x2)] → W p l e ({ frames := 44 + 4 * nV + 2, cells := 0, slots := 0, locals := 1210 + 94 * nV + 49 } : Room) s m args below meth c H locs 0 0 (MQ below (va_Qi (fun (r : Int32) (u : va_W) => o1 = r ∧ w10 ty ad o2 = u) (kz_B D ty A) A) args s 0 0 A) (F0 m 2 ls [])) (q : dS) (x1 : Int32) (y0 : Int32) (H : Heap) (locs : List Loc) (ls : Array Slot) (h : zX10_plainOf_20 kV k2 q x1 y0 = some (o1, o2)) (hP : va_P D vwCl (w10 ty ad q) H) (hD : va_D A (w10 ty ad q)) (hS : va_S A s.heap H locs) (hl : lv_has ls 3 [(0, .ref (ad 0)), (1, .int x1)]) : W p l e ({ frames := 44 + 4 * nV + 2, cells := 0, slots := 0, locals := 1210 + 94 * nV + 49 } : Room) s m args below meth c H locs 0 0 (MQ below (va_Qi (fun (r : Int32) (u : va_W) => o1 = r ∧ w10 ty ad o2 = u) (kz_B D ty A) A) args s 0 0 A) (F0 m 20 ls [.int y0]) := by
  have C0 := C
  obtain ⟨hx, hb, hr, hts, hown, hlocks, hml, hK, hN, hE, hA⟩ := C
  unfold zX10_plainOf_20 at h
  refine lv_istore_n (lv' := [(2, .int y0), (0, .ref (ad 0)), (1, .int x1)]) hx hb dX10_plainOf_20 rfl hl (by decide) rfl (fun ls hl => ?_)
  refine lv_goto (tgt := 2) hx hb dX10_plainOf_21 (by decide) ?_
  exact hk2 _ _ _ _ _ _ h hP hD hS (lv_sub hl [1, 2, 0] rfl)
set_option maxHeartbeats 4000000 in
set_option maxRecDepth 100000 in
theorem WX10_plainOf_2b {p : Program} {l : Launch} {e : Env} {s : State} {m : MethodId} {args : Array Value} {below : List Frame} {meth : Method} {c : Code} {D : va_G} {ty : Nat → ClassId} {eo : Nat → Nat} {A : Nat → Prop} {ad : Nat → Nat} {o1 : Int32} {o2 : dS} {kV : dS → Int32 → Option (Int32 × dS)} {nV : Nat} (hkV : ∀ (sz : Nat) (q : dS) (p1 : Int32) (o1 : Int32) (o2 : dS), kV q p1 = some (o1, o2) → Met l yX10_testOf wsX10_testOf ({ frames := 44 + 4 * nV, cells := 0, slots := 0, locals := 1210 + 94 * nV } : Room) (va_Pc [.ref (ad 0), .int p1] (kz_pre D ty eo (w10 ty ad q) sz)) (va_Qi (fun (r : Int32) (u : va_W) => o1 = r ∧ w10 ty ad o2 = u) (kz_B D ty (va_A (w10 ty ad q) sz)) (va_A (w10 ty ad q) sz)) 0 0 (va_A (w10 ty ad q) sz)) (C : dc_C p s m args meth c cX10_plainOf (some .boolean) 3 RX10 wsX10_plainOf D ty eo A) {k2 : dS → Int32 → Int32 → Option (Int32 × dS)} (hk2 : ∀ (q : dS) (x1 : Int32) (x2 : Int32) (H : Heap) (locs : List Loc) (ls : Array Slot), k2 q x1 x2 = some (o1, o2) → va_P D vwCl (w10 ty ad q) H → va_D A (w10 ty ad q) → va_S A s.heap H locs → lv_has ls 3 [(0, .ref (ad 0)), (1, .int x1), (2, .int x2)] → W p l e ({ frames := 44 + 4 * nV + 2, cells := 0, slots := 0, locals := 1210 + 94 * nV + 49 } : Room) s m args below meth c H locs 0 0 (MQ below (va_Qi (fun (r : Int32) (u : va_W) => o1 = r ∧ w10 ty ad o2 = u) (kz_B D ty A) A) args s 0 0 A) (F0 m 2 ls [])) (q : dS) (x1 : Int32) (x2 : Int32) (H : Heap) (locs : List Loc) (ls : Array Slot) (h : zX10_plainOf_2b kV k2 q x1 x2 = some (o1, o2)) (hP : va_P D vwCl (w10 ty ad q) H) (hD : va_D A (w10 ty ad q)) (hS : va_S A s.heap H locs) (hl : lv_has ls 3 [(0, .ref (ad 0)), (1, .int x1), (2, .int x2)]) : W p l e ({ frames := 44 + 4 * nV + 2, cells := 0, slots := 0, locals := 1210 + 94 * nV + 49 } : Room) s m args below meth c H locs 0 0 (MQ below (va_Qi (fun (r : Int32) (u : va_W) => o1 = r ∧ w10 ty ad o2 = u) (kz_B D ty A) A) args s 0 0 A) (F0 m 2 ls []) := by
  have C0 := C
  obtain ⟨hx, hb, hr, hts, hown, hlocks, hml, hK, hN, hE, hA⟩ := C
  unfold zX10_plainOf_2b at h
  refine lv_aload_n hx hb dX10_plainOf_2 rfl (lv_at hl 0 rfl) ?_
  refine lv_bipush (v := 7) hx hb dX10_plainOf_3 (by decide) ?_
  obtain ⟨r1, q3, h2, h⟩ := dB_some h
  refine dw_ki (va_runV (As := [.int 7]) (rest := []) ⟨hx, hb, hml, hown, hts⟩ (qX10_passes0 l D ty eo _ ad q 7 r1 q3 h2) (cwV 1 hts gX10_plainOf_X10_passes0 rfl rfl rfl hd_X10_passes0_v ⟨by dsimp only [headSpec]; omega, by dsimp only [headSpec]; omega⟩) (pv10_10_0 hK hN hE hP hD hS hA) rfl rfl hl.1 rfl (lv_room (Nat.le_of_ble_eq_true rfl)) dX10_plainOf_5 ⟨Nat.le_of_ble_eq_true rfl, Nat.le_of_ble_eq_true rfl⟩) hD hS hA (fun r9 u9 H locs hw hp hd hs => ?_)
  clear hP hD hS
  obtain ⟨rfl, rfl⟩ := hw
  have hP := hp; have hD := hd; have hS := hs; clear hp hd hs
  refine lv_if_eq (tgt := 24) hx hb dX10_plainOf_8 (by decide) (fun c9 => ?_) (fun c9 => ?_)
  · rw [if_pos c9] at h
    refine lv_aload_n hx hb dX10_plainOf_24 rfl (lv_at hl 0 rfl) ?_
    refine lv_iload_n hx hb dX10_plainOf_25 rfl (lv_at hl 1 rfl) ?_
    obtain ⟨r4, q6, h5, h⟩ := dB_some h
    refine dw_ki (va_runV (As := [.int x1]) (rest := []) ⟨hx, hb, hml, hown, hts⟩ (qX10_positiveOf l D ty eo _ ad kV nV hkV q3 x1 r4 q6 h5) (cwV 1 hts gX10_plainOf_X10_positiveOf rfl rfl rfl hd_X10_positiveOf_v ⟨by dsimp only [headSpec]; omega, by dsimp only [headSpec]; omega⟩) (pv10_10_0 hK hN hE hP hD hS hA) rfl rfl hl.1 rfl (lv_room (Nat.le_of_ble_eq_true rfl)) dX10_plainOf_26 ⟨Nat.le_of_ble_eq_true rfl, Nat.le_of_ble_eq_true rfl⟩) hD hS hA (fun r9 u9 H locs hw hp hd hs => ?_)
    clear hP hD hS
    obtain ⟨rfl, rfl⟩ := hw
    have hP := hp; have hD := hd; have hS := hs; clear hp hd hs
    refine lv_iload_n hx hb dX10_plainOf_29 rfl (lv_at hl 2 rfl) ?_
    refine lv_icmp_eq (tgt := 37) hx hb dX10_plainOf_30 (by decide) (fun c9 => ?_) (fun c9 => ?_)
    · rw [if_pos c9] at h
      refine lv_iconst (v := 0) hx hb dX10_plainOf_37 (by decide) ?_
      exact WX10_plainOf_38 hkV C0  _ _ _ _ _ h hP hD hS (lv_sub hl [] rfl)
    · rw [if_neg c9] at h
      refine lv_iconst (v := 1) hx hb dX10_plainOf_33 (by decide) ?_
      refine lv_goto (tgt := 38) hx hb dX10_plainOf_34 (by decide) ?_
      exact WX10_plainOf_38 hkV C0  _ _ _ _ _ h hP hD hS (lv_sub hl [] rfl)
  · rw [if_neg c9] at h
    refine lv_iload_n hx hb dX10_plainOf_11 rfl (lv_at hl 2 rfl) ?_
    refine lv_if_ne (tgt := 19) hx hb dX10_plainOf_12 (by decide) (fun c9 => ?_) (fun c9 => ?_)
    · rw [if_neg c9] at h
      refine lv_iconst (v := 0) hx hb dX10_plainOf_19 (by decide) ?_
      exact WX10_plainOf_20 hkV C0 hk2 _ _ _ _ _ _ h hP hD hS (lv_sub hl [0, 1] rfl)
    · rw [if_pos c9] at h
      refine lv_iconst (v := 1) hx hb dX10_plainOf_15 (by decide) ?_
      refine lv_goto (tgt := 20) hx hb dX10_plainOf_16 (by decide) ?_
      exact WX10_plainOf_20 hkV C0 hk2 _ _ _ _ _ _ h hP hD hS (lv_sub hl [0, 1] rfl)
set_option maxHeartbeats 4000000 in
set_option maxRecDepth 100000 in
theorem WX10_plainOf_2 {p : Program} {l : Launch} {e : Env} {s : State} {m : MethodId} {args : Array Value} {below : List Frame} {meth : Method} {c : Code} {D : va_G} {ty : Nat → ClassId} {eo : Nat → Nat} {A : Nat → Prop} {ad : Nat → Nat} {o1 : Int32} {o2 : dS} {kV : dS → Int32 → Option (Int32 × dS)} {nV : Nat} (hkV : ∀ (sz : Nat) (q : dS) (p1 : Int32) (o1 : Int32) (o2 : dS), kV q p1 = some (o1, o2) → Met l yX10_testOf wsX10_testOf ({ frames := 44 + 4 * nV, cells := 0, slots := 0, locals := 1210 + 94 * nV } : Room) (va_Pc [.ref (ad 0), .int p1] (kz_pre D ty eo (w10 ty ad q) sz)) (va_Qi (fun (r : Int32) (u : va_W) => o1 = r ∧ w10 ty ad o2 = u) (kz_B D ty (va_A (w10 ty ad q) sz)) (va_A (w10 ty ad q) sz)) 0 0 (va_A (w10 ty ad q) sz)) (C : dc_C p s m args meth c cX10_plainOf (some .boolean) 3 RX10 wsX10_plainOf D ty eo A)   (n : Nat) (q : dS) (x1 : Int32) (x2 : Int32) (H : Heap) (locs : List Loc) (ls : Array Slot) (h : zX10_plainOf_2 kV  n q x1 x2 = some (o1, o2)) (hP : va_P D vwCl (w10 ty ad q) H) (hD : va_D A (w10 ty ad q)) (hS : va_S A s.heap H locs) (hl : lv_has ls 3 [(0, .ref (ad 0)), (1, .int x1), (2, .int x2)]) : W p l e ({ frames := 44 + 4 * nV + 2, cells := 0, slots := 0, locals := 1210 + 94 * nV + 49 } : Room) s m args below meth c H locs 0 0 (MQ below (va_Qi (fun (r : Int32) (u : va_W) => o1 = r ∧ w10 ty ad o2 = u) (kz_B D ty A) A) args s 0 0 A) (F0 m 2 ls []) := by
  exact dFix_W (F := fun k (a : dS × Int32 × Int32) => zX10_plainOf_2b kV  (fun q x1 x2 => k (q, x1, x2)) a.1 a.2.1 a.2.2) (o := (o1, o2)) (P := fun (a : dS × Int32 × Int32) H locs ls => va_P D vwCl (w10 ty ad a.1) H ∧ va_D A (w10 ty ad a.1) ∧ va_S A s.heap H locs ∧ lv_has ls 3 [(0, .ref (ad 0)), (1, .int a.2.1), (2, .int a.2.2)]) (G := fun H locs ls => W p l e ({ frames := 44 + 4 * nV + 2, cells := 0, slots := 0, locals := 1210 + 94 * nV + 49 } : Room) s m args below meth c H locs 0 0 (MQ below (va_Qi (fun (r : Int32) (u : va_W) => o1 = r ∧ w10 ty ad o2 = u) (kz_B D ty A) A) args s 0 0 A) (F0 m 2 ls []))
    (fun k hk a H locs ls h hp => WX10_plainOf_2b hkV C  (fun q x1 x2 H locs ls h h1 h2 h3 h4 => hk (q, x1, x2) H locs ls h ⟨h1, h2, h3, h4⟩) a.1 a.2.1 a.2.2 H locs ls h hp.1 hp.2.1 hp.2.2.1 hp.2.2.2) n (q, x1, x2) H locs ls h ⟨hP, hD, hS, hl⟩
set_option maxHeartbeats 4000000 in
set_option maxRecDepth 100000 in
theorem qX10_plainOf (l : Launch) (D : va_G) (ty : Nat → ClassId) (eo : Nat → Nat) (sz : Nat) (ad : Nat → Nat) (kV : dS → Int32 → Option (Int32 × dS)) (nV : Nat) (hkV : ∀ (sz : Nat) (q : dS) (p1 : Int32) (o1 : Int32) (o2 : dS), kV q p1 = some (o1, o2) → Met l yX10_testOf wsX10_testOf ({ frames := 44 + 4 * nV, cells := 0, slots := 0, locals := 1210 + 94 * nV } : Room) (va_Pc [.ref (ad 0), .int p1] (kz_pre D ty eo (w10 ty ad q) sz)) (va_Qi (fun (r : Int32) (u : va_W) => o1 = r ∧ w10 ty ad o2 = u) (kz_B D ty (va_A (w10 ty ad q) sz)) (va_A (w10 ty ad q) sz)) 0 0 (va_A (w10 ty ad q) sz)) (q : dS) (p1 : Int32) (o1 : Int32) (o2 : dS) (h : zX10_plainOf kV q p1 = some (o1, o2)) : Met l yX10_plainOf wsX10_plainOf ({ frames := 44 + 4 * nV + 2, cells := 0, slots := 0, locals := 1210 + 94 * nV + 49 } : Room) (va_Pc [.ref (ad 0), .int p1] (kz_pre D ty eo (w10 ty ad q) sz)) (va_Qi (fun (r : Int32) (u : va_W) => o1 = r ∧ w10 ty ad o2 = u) (kz_B D ty (va_A (w10 ty ad q) sz)) (va_A (w10 ty ad q) sz)) 0 0 (va_A (w10 ty ad q) sz) := by
  refine Met.ofW (cc := cX10_plainOf) (maxL := 3) (ret := (some .boolean)) (by decide) rfl ?_
  intro p e s m args below meth c s₁ B hml hv
  obtain ⟨rfl, hsz, hP, hK, hD0, hN, hE⟩ := hv
  have hx := B.exec
  have hb := B.bytes
  have hr := B.returns
  have hts := atoms_spec (ws := wsX10_plainOf) B.pre
  have hown : s.vm.findClass RX10 = some m.cls := findClass_of_methodNamed B.named
  have hlocks := B.notSynchronized
  subst hsz
  have hD := hD0.self (sz := s.heap.size)
  generalize hAe : va_A (w10 ty ad q) s.heap.size = A at hD hE ⊢
  have hA : ∀ q : Nat, s.heap.size ≤ q → A q := fun q h => by rw [← hAe]; exact Or.inr h
  clear hAe
  have hS : va_S A s.heap s.heap [] := va_S.rf
  have hl := lv_entry ([.ref (ad 0), .int p1]) (n := 3) (Nat.le_of_ble_eq_true rfl)
  rw [lg_entry_eq]
  generalize (lg_sl ([.ref (ad 0), .int p1]) ++ List.replicate (3 - (lg_sl ([.ref (ad 0), .int p1])).length) Slot.unset).toArray = ls at hl ⊢
  have hl : lv_has ls 3 [(0, .ref (ad 0)), (1, .int p1)] := hl
  have C : dc_C p s m _ meth c cX10_plainOf (some .boolean) 3 RX10 wsX10_plainOf D ty eo A := ⟨hx, hb, hr, hts, hown, hlocks, hml, hK, hN, hE, hA⟩
  unfold zX10_plainOf at h
  refine lv_iconst (v := 0) hx hb dX10_plainOf_0 (by decide) ?_
  refine lv_istore_n (lv' := [(2, .int 0), (0, .ref (ad 0)), (1, .int p1)]) hx hb dX10_plainOf_1 rfl hl (by decide) rfl (fun ls hl => ?_)
  exact WX10_plainOf_2 hkV C  _ _ _ _ _ _ _ h hP hD hS (lv_sub hl [1, 2, 0] rfl)

set_option maxHeartbeats 4000000 in
set_option maxRecDepth 100000 in
theorem WX10_bothOf_46 {p : Program} {l : Launch} {e : Env} {s : State} {m : MethodId} {args : Array Value} {below : List Frame} {meth : Method} {c : Code} {D : va_G} {ty : Nat → ClassId} {eo : Nat → Nat} {A : Nat → Prop} {ad : Nat → Nat} {o1 : Int32} {o2 : dS} {kV : dS → Int32 → Option (Int32 × dS)} {nV : Nat} (hkV : ∀ (sz : Nat) (q : dS) (p1 : Int32) (o1 : Int32) (o2 : dS), kV q p1 = some (o1, o2) → Met l yX10_testOf wsX10_testOf ({ frames := 44 + 4 * nV, cells := 0, slots := 0, locals := 1210 + 94 * nV } : Room) (va_Pc [.ref (ad 0), .int p1] (kz_pre D ty eo (w10 ty ad q) sz)) (va_Qi (fun (r : Int32) (u : va_W) => o1 = r ∧ w10 ty ad o2 = u) (kz_B D ty (va_A (w10 ty ad q) sz)) (va_A (w10 ty ad q) sz)) 0 0 (va_A (w10 ty ad q) sz)) (C : dc_C p s m args meth c cX10_bothOf (some .boolean) 4 RX10 wsX10_bothOf D ty eo A) {k6 : dS → Int32 → Int32 → Option (Int32 × dS)} (hk6 : ∀ (q : dS) (x1 : Int32) (x2 : Int32) (H : Heap) (locs : List Loc) (ls : Array Slot), k6 q x1 x2 = some (o1, o2) → va_P D vwCl (w10 ty ad q) H → va_D A (w10 ty ad q) → va_S A s.heap H locs → lv_has ls 4 [(0, .ref (ad 0)), (1, .int x1), (2, .int x2)] → W p l e ({ frames := 44 + 4 * nV + 3, cells := 0, slots := 0, locals := 1210 + 94 * nV + 71 } : Room) s m args below meth c H locs 0 0 (MQ below (va_Qi (fun (r : Int32) (u : va_W) => o1 = r ∧ w10 ty ad o2 = u) (kz_B D ty A) A) args s 0 0 A) (F0 m 6 ls [])) (q : dS) (x1 : Int32) (y0 : Int32) (H : Heap) (locs : List Loc) (ls : Array Slot) (h : zX10_bothOf_46 kV k6 q x1 y0 = some (o1, o2)) (hP : va_P D vwCl (w10 ty ad q) H) (hD : va_D A (w10 ty ad q)) (hS : va_S A s.heap H locs) (hl : lv_has ls 4 [(0, .ref (ad 0)), (1, .int x1)]) : W p l e ({ frames := 44 + 4 * nV + 3, cells := 0, slots := 0, locals := 1210 + 94 * nV + 71 } : Room) s m args below meth c H locs 0 0 (MQ below (va_Qi (fun (r : Int32) (u : va_W) => o1 = r ∧ w10 ty ad o2 = u) (kz_B D ty A) A) args s 0 0 A) (F0 m 46 ls [.int y0]) := by
  have C0 := C
  obtain ⟨hx, hb, hr, hts, hown, hlocks, hml, hK, hN, hE, hA⟩ := C
  unfold zX10_bothOf_46 at h
  refine lv_istore_n (lv' := [(2, .int y0), (0, .ref (ad 0)), (1, .int x1)]) hx hb dX10_bothOf_46 rfl hl (by decide) rfl (fun ls hl => ?_)
  refine lv_goto (tgt := 6) hx hb dX10_bothOf_47 (by decide) ?_
  exact hk6 _ _ _ _ _ _ h hP hD hS (lv_sub hl [1, 2, 0] rfl)
set_option maxHeartbeats 4000000 in
set_option maxRecDepth 100000 in
theorem WX10_bothOf_45 {p : Program} {l : Launch} {e : Env} {s : State} {m : MethodId} {args : Array Value} {below : List Frame} {meth : Method} {c : Code} {D : va_G} {ty : Nat → ClassId} {eo : Nat → Nat} {A : Nat → Prop} {ad : Nat → Nat} {o1 : Int32} {o2 : dS} {kV : dS → Int32 → Option (Int32 × dS)} {nV : Nat} (hkV : ∀ (sz : Nat) (q : dS) (p1 : Int32) (o1 : Int32) (o2 : dS), kV q p1 = some (o1, o2) → Met l yX10_testOf wsX10_testOf ({ frames := 44 + 4 * nV, cells := 0, slots := 0, locals := 1210 + 94 * nV } : Room) (va_Pc [.ref (ad 0), .int p1] (kz_pre D ty eo (w10 ty ad q) sz)) (va_Qi (fun (r : Int32) (u : va_W) => o1 = r ∧ w10 ty ad o2 = u) (kz_B D ty (va_A (w10 ty ad q) sz)) (va_A (w10 ty ad q) sz)) 0 0 (va_A (w10 ty ad q) sz)) (C : dc_C p s m args meth c cX10_bothOf (some .boolean) 4 RX10 wsX10_bothOf D ty eo A) {k6 : dS → Int32 → Int32 → Option (Int32 × dS)} (hk6 : ∀ (q : dS) (x1 : Int32) (x2 : Int32) (H : Heap) (locs : List Loc) (ls : Array Slot), k6 q x1 x2 = some (o1, o2) → va_P D vwCl (w10 ty ad q) H → va_D A (w10 ty ad q) → va_S A s.heap H locs → lv_has ls 4 [(0, .ref (ad 0)), (1, .int x1), (2, .int x2)] → W p l e ({ frames := 44 + 4 * nV + 3, cells := 0, slots := 0, locals := 1210 + 94 * nV + 71 } : Room) s m args below meth c H locs 0 0 (MQ below (va_Qi (fun (r : Int32) (u : va_W) => o1 = r ∧ w10 ty ad o2 = u) (kz_B D ty A) A) args s 0 0 A) (F0 m 6 ls [])) (q : dS) (x1 : Int32) (H : Heap) (locs : List Loc) (ls : Array Slot) (h : zX10_bothOf_45 kV k6 q x1 = some (o1, o2)) (hP : va_P D vwCl (w10 ty ad q) H) (hD : va_D A (w10 ty ad q)) (hS : va_S A s.heap H locs) (hl : lv_has ls 4 [(0, .ref (ad 0)), (1, .int x1)]) : W p l e ({ frames := 44 + 4 * nV + 3, cells := 0, slots := 0, locals := 1210 + 94 * nV + 71 } : Room) s m args below meth c H locs 0 0 (MQ below (va_Qi (fun (r : Int32) (u : va_W) => o1 = r ∧ w10 ty ad o2 = u) (kz_B D ty A) A) args s 0 0 A) (F0 m 45 ls []) := by
  have C0 := C
  obtain ⟨hx, hb, hr, hts, hown, hlocks, hml, hK, hN, hE, hA⟩ := C
  unfold zX10_bothOf_45 at h
  refine lv_iconst (v := 0) hx hb dX10_bothOf_45 (by decide) ?_
  exact WX10_bothOf_46 hkV C0 hk6 _ _ _ _ _ _ h hP hD hS (lv_sub hl [0, 1] rfl)
set_option maxHeartbeats 4000000 in
set_option maxRecDepth 100000 in
theorem WX10_bothOf_29 {p : Program} {l : Launch} {e : Env} {s : State} {m : MethodId} {args : Array Value} {below : List Frame} {meth : Method} {c : Code} {D : va_G} {ty : Nat → ClassId} {eo : Nat → Nat} {A : Nat → Prop} {ad : Nat → Nat} {o1 : Int32} {o2 : dS} {kV : dS → Int32 → Option (Int32 × dS)} {nV : Nat} (hkV : ∀ (sz : Nat) (q : dS) (p1 : Int32) (o1 : Int32) (o2 : dS), kV q p1 = some (o1, o2) → Met l yX10_testOf wsX10_testOf ({ frames := 44 + 4 * nV, cells := 0, slots := 0, locals := 1210 + 94 * nV } : Room) (va_Pc [.ref (ad 0), .int p1] (kz_pre D ty eo (w10 ty ad q) sz)) (va_Qi (fun (r : Int32) (u : va_W) => o1 = r ∧ w10 ty ad o2 = u) (kz_B D ty (va_A (w10 ty ad q) sz)) (va_A (w10 ty ad q) sz)) 0 0 (va_A (w10 ty ad q) sz)) (C : dc_C p s m args meth c cX10_bothOf (some .boolean) 4 RX10 wsX10_bothOf D ty eo A) {k6 : dS → Int32 → Int32 → Option (Int32 × dS)} (hk6 : ∀ (q : dS) (x1 : Int32) (x2 : Int32) (H : Heap) (locs : List Loc) (ls : Array Slot), k6 q x1 x2 = some (o1, o2) → va_P D vwCl (w10 ty ad q) H → va_D A (w10 ty ad q) → va_S A s.heap H locs → lv_has ls 4 [(0, .ref (ad 0)), (1, .int x1), (2, .int x2)] → W p l e ({ frames := 44 + 4 * nV + 3, cells := 0, slots := 0, locals := 1210 + 94 * nV + 71 } : Room) s m args below meth c H locs 0 0 (MQ below (va_Qi (fun (r : Int32) (u : va_W) => o1 = r ∧ w10 ty ad o2 = u) (kz_B D ty A) A) args s 0 0 A) (F0 m 6 ls [])) (q : dS) (x1 : Int32) (x2 : Int32) (y0 : Int32) (H : Heap) (locs : List Loc) (ls : Array Slot) (h : zX10_bothOf_29 kV k6 q x1 x2 y0 = some (o1, o2)) (hP : va_P D vwCl (w10 ty ad q) H) (hD : va_D A (w10 ty ad q)) (hS : va_S A s.heap H locs) (hl : lv_has ls 4 [(0, .ref (ad 0)), (1, .int x1), (2, .int x2)]) : W p l e ({ frames := 44 + 4 * nV + 3, cells := 0, slots := 0, locals := 1210 + 94 * nV + 71 } : Room) s m args below meth c H locs 0 0 (MQ below (va_Qi (fun (r : Int32) (u : va_W) => o1 = r ∧ w10 ty ad o2 = u) (kz_B D ty A) A) args s 0 0 A) (F0 m 29 ls [.int y0, .ref (ad 0)]) := by
  have C0 := C
  obtain ⟨hx, hb, hr, hts, hown, hlocks, hml, hK, hN, hE, hA⟩ := C
  unfold zX10_bothOf_29 at h
  obtain ⟨r1, q3, h2, h⟩ := dB_some h
  refine dw_ki (va_runV (As := [.int y0]) (rest := []) ⟨hx, hb, hml, hown, hts⟩ (qX10_plainOf l D ty eo _ ad kV nV hkV q y0 r1 q3 h2) (cwV 1 hts gX10_bothOf_X10_plainOf rfl rfl rfl hd_X10_plainOf_v ⟨by dsimp only [headSpec]; omega, by dsimp only [headSpec]; omega⟩) (pv10_10_0 hK hN hE hP hD hS hA) rfl rfl hl.1 rfl (lv_room (Nat.le_of_ble_eq_true rfl)) dX10_bothOf_29 ⟨Nat.le_of_ble_eq_true rfl, Nat.le_of_ble_eq_true rfl⟩) hD hS hA (fun r9 u9 H locs hw hp hd hs => ?_)
  clear hP hD hS
  obtain ⟨rfl, rfl⟩ := hw
  have hP := hp; have hD := hd; have hS := hs; clear hp hd hs
  refine lv_istore_n (lv' := [(3, .int r1), (0, .ref (ad 0)), (1, .int x1), (2, .int x2)]) hx hb dX10_bothOf_32 rfl hl (by decide) rfl (fun ls hl => ?_)
  refine lv_iload_n hx hb dX10_bothOf_33 rfl (lv_at hl 3 rfl) ?_
  refine lv_if_eq (tgt := 45) hx hb dX10_bothOf_34 (by decide) (fun c9 => ?_) (fun c9 => ?_)
  · rw [if_pos c9] at h
    exact WX10_bothOf_45 hkV C0 hk6 _ _ _ _ _ h hP hD hS (lv_sub hl [1, 2] rfl)
  · rw [if_neg c9] at h
    refine lv_iload_n hx hb dX10_bothOf_37 rfl (lv_at hl 0 rfl) ?_
    refine lv_if_eq (tgt := 45) hx hb dX10_bothOf_38 (by decide) (fun c9 => ?_) (fun c9 => ?_)
    · rw [if_pos c9] at h
      exact WX10_bothOf_45 hkV C0 hk6 _ _ _ _ _ h hP hD hS (lv_sub hl [1, 2] rfl)
    · rw [if_neg c9] at h
      refine lv_iconst (v := 1) hx hb dX10_bothOf_41 (by decide) ?_
      refine lv_goto (tgt := 46) hx hb dX10_bothOf_42 (by decide) ?_
      exact WX10_bothOf_46 hkV C0 hk6 _ _ _ _ _ _ h hP hD hS (lv_sub hl [1, 2] rfl)
set_option maxHeartbeats 4000000 in
set_option maxRecDepth 100000 in
theorem WX10_bothOf_28 {p : Program} {l : Launch} {e : Env} {s : State} {m : MethodId} {args : Array Value} {below : List Frame} {meth : Method} {c : Code} {D : va_G} {ty : Nat → ClassId} {eo : Nat → Nat} {A : Nat → Prop} {ad : Nat → Nat} {o1 : Int32} {o2 : dS} {kV : dS → Int32 → Option (Int32 × dS)} {nV : Nat} (hkV : ∀ (sz : Nat) (q : dS) (p1 : Int32) (o1 : Int32) (o2 : dS), kV q p1 = some (o1, o2) → Met l yX10_testOf wsX10_testOf ({ frames := 44 + 4 * nV, cells := 0, slots := 0, locals := 1210 + 94 * nV } : Room) (va_Pc [.ref (ad 0), .int p1] (kz_pre D ty eo (w10 ty ad q) sz)) (va_Qi (fun (r : Int32) (u : va_W) => o1 = r ∧ w10 ty ad o2 = u) (kz_B D ty (va_A (w10 ty ad q) sz)) (va_A (w10 ty ad q) sz)) 0 0 (va_A (w10 ty ad q) sz)) (C : dc_C p s m args meth c cX10_bothOf (some .boolean) 4 RX10 wsX10_bothOf D ty eo A) {k6 : dS → Int32 → Int32 → Option (Int32 × dS)} (hk6 : ∀ (q : dS) (x1 : Int32) (x2 : Int32) (H : Heap) (locs : List Loc) (ls : Array Slot), k6 q x1 x2 = some (o1, o2) → va_P D vwCl (w10 ty ad q) H → va_D A (w10 ty ad q) → va_S A s.heap H locs → lv_has ls 4 [(0, .ref (ad 0)), (1, .int x1), (2, .int x2)] → W p l e ({ frames := 44 + 4 * nV + 3, cells := 0, slots := 0, locals := 1210 + 94 * nV + 71 } : Room) s m args below meth c H locs 0 0 (MQ below (va_Qi (fun (r : Int32) (u : va_W) => o1 = r ∧ w10 ty ad o2 = u) (kz_B D ty A) A) args s 0 0 A) (F0 m 6 ls [])) (q : dS) (x1 : Int32) (x2 : Int32) (H : Heap) (locs : List Loc) (ls : Array Slot) (h : zX10_bothOf_28 kV k6 q x1 x2 = some (o1, o2)) (hP : va_P D vwCl (w10 ty ad q) H) (hD : va_D A (w10 ty ad q)) (hS : va_S A s.heap H locs) (hl : lv_has ls 4 [(0, .ref (ad 0)), (1, .int x1), (2, .int x2)]) : W p l e ({ frames := 44 + 4 * nV + 3, cells := 0, slots := 0, locals := 1210 + 94 * nV + 71 } : Room) s m args below meth c H locs 0 0 (MQ below (va_Qi (fun (r : Int32) (u : va_W) => o1 = r ∧ w10 ty ad o2 = u) (kz_B D ty A) A) args s 0 0 A) (F0 m 28 ls [.ref (ad 0)]) := by
  have C0 := C
  obtain ⟨hx, hb, hr, hts, hown, hlocks, hml, hK, hN, hE, hA⟩ := C
  unfold zX10_bothOf_28 at h
  refine lv_iconst (v := 0) hx hb dX10_bothOf_28 (by decide) ?_
  exact WX10_bothOf_29 hkV C0 hk6 _ _ _ _ _ _ _ h hP hD hS (lv_sub hl [0, 1, 2] rfl)
set_option maxHeartbeats 4000000 in
set_option maxRecDepth 100000 in
theorem WX10_bothOf_6b {p : Program} {l : Launch} {e : Env} {s : State} {m : MethodId} {args : Array Value} {below : List Frame} {meth : Method} {c : Code} {D : va_G} {ty : Nat → ClassId} {eo : Nat → Nat} {A : Nat → Prop} {ad : Nat → Nat} {o1 : Int32} {o2 : dS} {kV : dS → Int32 → Option (Int32 × dS)} {nV : Nat} (hkV : ∀ (sz : Nat) (q : dS) (p1 : Int32) (o1 : Int32) (o2 : dS), kV q p1 = some (o1, o2) → Met l yX10_testOf wsX10_testOf ({ frames := 44 + 4 * nV, cells := 0, slots := 0, locals := 1210 + 94 * nV } : Room) (va_Pc [.ref (ad 0), .int p1] (kz_pre D ty eo (w10 ty ad q) sz)) (va_Qi (fun (r : Int32) (u : va_W) => o1 = r ∧ w10 ty ad o2 = u) (kz_B D ty (va_A (w10 ty ad q) sz)) (va_A (w10 ty ad q) sz)) 0 0 (va_A (w10 ty ad q) sz)) (C : dc_C p s m args meth c cX10_bothOf (some .boolean) 4 RX10 wsX10_bothOf D ty eo A) {k6 : dS → Int32 → Int32 → Option (Int32 × dS)} (hk6 : ∀ (q : dS) (x1 : Int32) (x2 : Int32) (H : Heap) (locs : List Loc) (ls : Array Slot), k6 q x1 x2 = some (o1, o2) → va_P D vwCl (w10 ty ad q) H → va_D A (w10 ty ad q) → va_S A s.heap H locs → lv_has ls 4 [(0, .ref (ad 0)), (1, .int x1), (2, .int x2)] → W p l e ({ frames := 44 + 4 * nV + 3, cells := 0, slots := 0, locals := 1210 + 94 * nV + 71 } : Room) s m args below meth c H locs 0 0 (MQ below (va_Qi (fun (r : Int32) (u : va_W) => o1 = r ∧ w10 ty ad o2 = u) (kz_B D ty A) A) args s 0 0 A) (F0 m 6 ls [])) (q : dS) (x1 : Int32) (x2 : Int32) (H : Heap) (locs : List Loc) (ls : Array Slot) (h : zX10_bothOf_6b kV k6 q x1 x2 = some (o1, o2)) (hP : va_P D vwCl (w10 ty ad q) H) (hD : va_D A (w10 ty ad q)) (hS : va_S A s.heap H locs) (hl : lv_has ls 4 [(0, .ref (ad 0)), (1, .int x1), (2, .int x2)]) : W p l e ({ frames := 44 + 4 * nV + 3, cells := 0, slots := 0, locals := 1210 + 94 * nV + 71 } : Room) s m args below meth c H locs 0 0 (MQ below (va_Qi (fun (r : Int32) (u : va_W) => o1 = r ∧ w10 ty ad o2 = u) (kz_B D ty A) A) args s 0 0 A) (F0 m 6 ls []) := by
  have C0 := C
  obtain ⟨hx, hb, hr, hts, hown, hlocks, hml, hK, hN, hE, hA⟩ := C
  unfold zX10_bothOf_6b at h
  refine lv_aload_n hx hb dX10_bothOf_6 rfl (lv_at hl 0 rfl) ?_
  refine lv_bipush (v := 6) hx hb dX10_bothOf_7 (by decide) ?_
  obtain ⟨r1, q3, h2, h⟩ := dB_some h
  refine dw_ki (va_runV (As := [.int 6]) (rest := []) ⟨hx, hb, hml, hown, hts⟩ (qX10_passes0 l D ty eo _ ad q 6 r1 q3 h2) (cwV 1 hts gX10_bothOf_X10_passes0 rfl rfl rfl hd_X10_passes0_v ⟨by dsimp only [headSpec]; omega, by dsimp only [headSpec]; omega⟩) (pv10_10_0 hK hN hE hP hD hS hA) rfl rfl hl.1 rfl (lv_room (Nat.le_of_ble_eq_true rfl)) dX10_bothOf_9 ⟨Nat.le_of_ble_eq_true rfl, Nat.le_of_ble_eq_true rfl⟩) hD hS hA (fun r9 u9 H locs hw hp hd hs => ?_)
  clear hP hD hS
  obtain ⟨rfl, rfl⟩ := hw
  have hP := hp; have hD := hd; have hS := hs; clear hp hd hs
  refine lv_if_eq (tgt := 50) hx hb dX10_bothOf_12 (by decide) (fun c9 => ?_) (fun c9 => ?_)
  · rw [if_pos c9] at h
    refine lv_iload_n hx hb dX10_bothOf_50 rfl (lv_at hl 2 rfl) ?_
    obtain ⟨g4, h⟩ := dG_some h
    cases h
    exact kz_zret hx hb hr hlocks (dbl_nar g4) hP hK hD hS dX10_bothOf_51 ⟨rfl, rfl⟩
  · rw [if_neg c9] at h
    refine lv_aload_n hx hb dX10_bothOf_15 rfl (lv_at hl 0 rfl) ?_
    refine lv_iload_n hx hb dX10_bothOf_16 rfl (lv_at hl 1 rfl) ?_
    refine lv_if_eq (tgt := 28) hx hb dX10_bothOf_17 (by decide) (fun c9 => ?_) (fun c9 => ?_)
    · rw [if_pos c9] at h
      exact WX10_bothOf_28 hkV C0 hk6 _ _ _ _ _ _ h hP hD hS (lv_sub hl [0, 1, 2] rfl)
    · rw [if_neg c9] at h
      refine lv_iload_n hx hb dX10_bothOf_20 rfl (lv_at hl 2 rfl) ?_
      refine lv_if_eq (tgt := 28) hx hb dX10_bothOf_21 (by decide) (fun c9 => ?_) (fun c9 => ?_)
      · rw [if_pos c9] at h
        exact WX10_bothOf_28 hkV C0 hk6 _ _ _ _ _ _ h hP hD hS (lv_sub hl [0, 1, 2] rfl)
      · rw [if_neg c9] at h
        refine lv_iconst (v := 1) hx hb dX10_bothOf_24 (by decide) ?_
        refine lv_goto (tgt := 29) hx hb dX10_bothOf_25 (by decide) ?_
        exact WX10_bothOf_29 hkV C0 hk6 _ _ _ _ _ _ _ h hP hD hS (lv_sub hl [0, 1, 2] rfl)
set_option maxHeartbeats 4000000 in
set_option maxRecDepth 100000 in
theorem WX10_bothOf_6 {p : Program} {l : Launch} {e : Env} {s : State} {m : MethodId} {args : Array Value} {below : List Frame} {meth : Method} {c : Code} {D : va_G} {ty : Nat → ClassId} {eo : Nat → Nat} {A : Nat → Prop} {ad : Nat → Nat} {o1 : Int32} {o2 : dS} {kV : dS → Int32 → Option (Int32 × dS)} {nV : Nat} (hkV : ∀ (sz : Nat) (q : dS) (p1 : Int32) (o1 : Int32) (o2 : dS), kV q p1 = some (o1, o2) → Met l yX10_testOf wsX10_testOf ({ frames := 44 + 4 * nV, cells := 0, slots := 0, locals := 1210 + 94 * nV } : Room) (va_Pc [.ref (ad 0), .int p1] (kz_pre D ty eo (w10 ty ad q) sz)) (va_Qi (fun (r : Int32) (u : va_W) => o1 = r ∧ w10 ty ad o2 = u) (kz_B D ty (va_A (w10 ty ad q) sz)) (va_A (w10 ty ad q) sz)) 0 0 (va_A (w10 ty ad q) sz)) (C : dc_C p s m args meth c cX10_bothOf (some .boolean) 4 RX10 wsX10_bothOf D ty eo A)   (n : Nat) (q : dS) (x1 : Int32) (x2 : Int32) (H : Heap) (locs : List Loc) (ls : Array Slot) (h : zX10_bothOf_6 kV  n q x1 x2 = some (o1, o2)) (hP : va_P D vwCl (w10 ty ad q) H) (hD : va_D A (w10 ty ad q)) (hS : va_S A s.heap H locs) (hl : lv_has ls 4 [(0, .ref (ad 0)), (1, .int x1), (2, .int x2)]) : W p l e ({ frames := 44 + 4 * nV + 3, cells := 0, slots := 0, locals := 1210 + 94 * nV + 71 } : Room) s m args below meth c H locs 0 0 (MQ below (va_Qi (fun (r : Int32) (u : va_W) => o1 = r ∧ w10 ty ad o2 = u) (kz_B D ty A) A) args s 0 0 A) (F0 m 6 ls []) := by
  exact dFix_W (F := fun k (a : dS × Int32 × Int32) => zX10_bothOf_6b kV  (fun q x1 x2 => k (q, x1, x2)) a.1 a.2.1 a.2.2) (o := (o1, o2)) (P := fun (a : dS × Int32 × Int32) H locs ls => va_P D vwCl (w10 ty ad a.1) H ∧ va_D A (w10 ty ad a.1) ∧ va_S A s.heap H locs ∧ lv_has ls 4 [(0, .ref (ad 0)), (1, .int a.2.1), (2, .int a.2.2)]) (G := fun H locs ls => W p l e ({ frames := 44 + 4 * nV + 3, cells := 0, slots := 0, locals := 1210 + 94 * nV + 71 } : Room) s m args below meth c H locs 0 0 (MQ below (va_Qi (fun (r : Int32) (u : va_W) => o1 = r ∧ w10 ty ad o2 = u) (kz_B D ty A) A) args s 0 0 A) (F0 m 6 ls []))
    (fun k hk a H locs ls h hp => WX10_bothOf_6b hkV C  (fun q x1 x2 H locs ls h h1 h2 h3 h4 => hk (q, x1, x2) H locs ls h ⟨h1, h2, h3, h4⟩) a.1 a.2.1 a.2.2 H locs ls h hp.1 hp.2.1 hp.2.2.1 hp.2.2.2) n (q, x1, x2) H locs ls h ⟨hP, hD, hS, hl⟩
set_option maxHeartbeats 4000000 in
set_option maxRecDepth 100000 in
theorem qX10_bothOf (l : Launch) (D : va_G) (ty : Nat → ClassId) (eo : Nat → Nat) (sz : Nat) (ad : Nat → Nat) (kV : dS → Int32 → Option (Int32 × dS)) (nV : Nat) (hkV : ∀ (sz : Nat) (q : dS) (p1 : Int32) (o1 : Int32) (o2 : dS), kV q p1 = some (o1, o2) → Met l yX10_testOf wsX10_testOf ({ frames := 44 + 4 * nV, cells := 0, slots := 0, locals := 1210 + 94 * nV } : Room) (va_Pc [.ref (ad 0), .int p1] (kz_pre D ty eo (w10 ty ad q) sz)) (va_Qi (fun (r : Int32) (u : va_W) => o1 = r ∧ w10 ty ad o2 = u) (kz_B D ty (va_A (w10 ty ad q) sz)) (va_A (w10 ty ad q) sz)) 0 0 (va_A (w10 ty ad q) sz)) (q : dS) (p1 : Int32) (o1 : Int32) (o2 : dS) (h : zX10_bothOf kV q p1 = some (o1, o2)) : Met l yX10_bothOf wsX10_bothOf ({ frames := 44 + 4 * nV + 3, cells := 0, slots := 0, locals := 1210 + 94 * nV + 71 } : Room) (va_Pc [.ref (ad 0), .int p1] (kz_pre D ty eo (w10 ty ad q) sz)) (va_Qi (fun (r : Int32) (u : va_W) => o1 = r ∧ w10 ty ad o2 = u) (kz_B D ty (va_A (w10 ty ad q) sz)) (va_A (w10 ty ad q) sz)) 0 0 (va_A (w10 ty ad q) sz) := by
  refine Met.ofW (cc := cX10_bothOf) (maxL := 4) (ret := (some .boolean)) (by decide) rfl ?_
  intro p e s m args below meth c s₁ B hml hv
  obtain ⟨rfl, hsz, hP, hK, hD0, hN, hE⟩ := hv
  have hx := B.exec
  have hb := B.bytes
  have hr := B.returns
  have hts := atoms_spec (ws := wsX10_bothOf) B.pre
  have hown : s.vm.findClass RX10 = some m.cls := findClass_of_methodNamed B.named
  have hlocks := B.notSynchronized
  subst hsz
  have hD := hD0.self (sz := s.heap.size)
  generalize hAe : va_A (w10 ty ad q) s.heap.size = A at hD hE ⊢
  have hA : ∀ q : Nat, s.heap.size ≤ q → A q := fun q h => by rw [← hAe]; exact Or.inr h
  clear hAe
  have hS : va_S A s.heap s.heap [] := va_S.rf
  have hl := lv_entry ([.ref (ad 0), .int p1]) (n := 4) (Nat.le_of_ble_eq_true rfl)
  rw [lg_entry_eq]
  generalize (lg_sl ([.ref (ad 0), .int p1]) ++ List.replicate (4 - (lg_sl ([.ref (ad 0), .int p1])).length) Slot.unset).toArray = ls at hl ⊢
  have hl : lv_has ls 4 [(0, .ref (ad 0)), (1, .int p1)] := hl
  have C : dc_C p s m _ meth c cX10_bothOf (some .boolean) 4 RX10 wsX10_bothOf D ty eo A := ⟨hx, hb, hr, hts, hown, hlocks, hml, hK, hN, hE, hA⟩
  unfold zX10_bothOf at h
  refine lv_aload_n hx hb dX10_bothOf_0 rfl (lv_at hl 0 rfl) ?_
  refine lv_iload_n hx hb dX10_bothOf_1 rfl (lv_at hl 1 rfl) ?_
  obtain ⟨r1, q3, h2, h⟩ := dB_some h
  refine dw_ki (va_runV (As := [.int p1]) (rest := []) ⟨hx, hb, hml, hown, hts⟩ (qX10_plainOf l D ty eo _ ad kV nV hkV q p1 r1 q3 h2) (cwV 1 hts gX10_bothOf_X10_plainOf rfl rfl rfl hd_X10_plainOf_v ⟨by dsimp only [headSpec]; omega, by dsimp only [headSpec]; omega⟩) (pv10_10_0 hK hN hE hP hD hS hA) rfl rfl hl.1 rfl (lv_room (Nat.le_of_ble_eq_true rfl)) dX10_bothOf_2 ⟨Nat.le_of_ble_eq_true rfl, Nat.le_of_ble_eq_true rfl⟩) hD hS hA (fun r9 u9 H locs hw hp hd hs => ?_)
  clear hP hD hS
  obtain ⟨rfl, rfl⟩ := hw
  have hP := hp; have hD := hd; have hS := hs; clear hp hd hs
  refine lv_istore_n (lv' := [(2, .int r1), (0, .ref (ad 0)), (1, .int p1)]) hx hb dX10_bothOf_5 rfl hl (by decide) rfl (fun ls hl => ?_)
  exact WX10_bothOf_6 hkV C  _ _ _ _ _ _ _ h hP hD hS (lv_sub hl [1, 2, 0] rfl)
end
section
set_option maxRecDepth 20000 in
theorem ggX10_at_X10_isPlace : GoodIn wsX10_at wsX10_isPlace := wd_c vW10_ok mvW10_41
set_option maxRecDepth 20000 in
theorem gX10_at_X10_isPlace : GoodIn wsX10_at (wsV RX10 143 RX10 yX10_isPlace wsX10_isPlace) := goodIn_app (wd_l vW10_ok _ pvW10_149) ggX10_at_X10_isPlace
set_option maxRecDepth 20000 in
theorem ggX10_at_X10_tipsAt : GoodIn wsX10_at wsX10_tipsAt := wd_c vW10_ok mvW10_45
set_option maxRecDepth 20000 in
theorem gX10_at_X10_tipsAt : GoodIn wsX10_at (wsV RX10 146 RX10 yX10_tipsAt wsX10_tipsAt) := goodIn_app (wd_l vW10_ok _ pvW10_150) ggX10_at_X10_tipsAt
theorem da9_dX10_at_0 : (decode cX10_at 0 = .ok (.aload_n 0, 1)) ∧ (decode cX10_at 1 = .ok (.iload_n 1, 1)) ∧ (decode cX10_at 2 = .ok (.invokevirtual 143, 3)) ∧ (decode cX10_at 5 = .ok (.ifCond .ne 5, 3)) ∧ (decode cX10_at 8 = .ok (.iconst (-1), 1)) ∧ (decode cX10_at 9 = .ok (.ireturn, 1)) ∧ (decode cX10_at 10 = .ok (.iload_n 2, 1)) ∧ (decode cX10_at 11 = .ok (.tableswitch 58 0 2 #[25, 34, 44], 25)) ∧ (decode cX10_at 36 = .ok (.aload_n 0, 1)) ∧ (decode cX10_at 37 = .ok (.getfield 28, 3)) ∧ (decode cX10_at 40 = .ok (.iconst 0, 1)) ∧ (decode cX10_at 41 = .ok (.iload_n 1, 1)) ∧ (decode cX10_at 42 = .ok (.iadd, 1)) ∧ (decode cX10_at 43 = .ok (.iaload, 1)) ∧ (decode cX10_at 44 = .ok (.ireturn, 1)) ∧ (decode cX10_at 45 = .ok (.aload_n 0, 1)) := by decide +kernel
theorem dX10_at_0 : decode cX10_at 0 = .ok (.aload_n 0, 1) := da9_dX10_at_0.1
theorem dX10_at_1 : decode cX10_at 1 = .ok (.iload_n 1, 1) := da9_dX10_at_0.2.1
theorem dX10_at_2 : decode cX10_at 2 = .ok (.invokevirtual 143, 3) := da9_dX10_at_0.2.2.1
theorem dX10_at_5 : decode cX10_at 5 = .ok (.ifCond .ne 5, 3) := da9_dX10_at_0.2.2.2.1
theorem dX10_at_8 : decode cX10_at 8 = .ok (.iconst (-1), 1) := da9_dX10_at_0.2.2.2.2.1
theorem dX10_at_9 : decode cX10_at 9 = .ok (.ireturn, 1) := da9_dX10_at_0.2.2.2.2.2.1
theorem dX10_at_10 : decode cX10_at 10 = .ok (.iload_n 2, 1) := da9_dX10_at_0.2.2.2.2.2.2.1
theorem dX10_at_11 : decode cX10_at 11 = .ok (.tableswitch 58 0 2 #[25, 34, 44], 25) := da9_dX10_at_0.2.2.2.2.2.2.2.1
theorem dX10_at_36 : decode cX10_at 36 = .ok (.aload_n 0, 1) := da9_dX10_at_0.2.2.2.2.2.2.2.2.1
theorem dX10_at_37 : decode cX10_at 37 = .ok (.getfield 28, 3) := da9_dX10_at_0.2.2.2.2.2.2.2.2.2.1
theorem dX10_at_40 : decode cX10_at 40 = .ok (.iconst 0, 1) := da9_dX10_at_0.2.2.2.2.2.2.2.2.2.2.1
theorem dX10_at_41 : decode cX10_at 41 = .ok (.iload_n 1, 1) := da9_dX10_at_0.2.2.2.2.2.2.2.2.2.2.2.1
theorem dX10_at_42 : decode cX10_at 42 = .ok (.iadd, 1) := da9_dX10_at_0.2.2.2.2.2.2.2.2.2.2.2.2.1
theorem dX10_at_43 : decode cX10_at 43 = .ok (.iaload, 1) := da9_dX10_at_0.2.2.2.2.2.2.2.2.2.2.2.2.2.1
theorem dX10_at_44 : decode cX10_at 44 = .ok (.ireturn, 1) := da9_dX10_at_0.2.2.2.2.2.2.2.2.2.2.2.2.2.2.1
theorem dX10_at_45 : decode cX10_at 45 = .ok (.aload_n 0, 1) := da9_dX10_at_0.2.2.2.2.2.2.2.2.2.2.2.2.2.2.2
theorem da9_dX10_at_46 : (decode cX10_at 46 = .ok (.getfield 28, 3)) ∧ (decode cX10_at 49 = .ok (.bipush 6, 2)) ∧ (decode cX10_at 51 = .ok (.iload_n 1, 1)) ∧ (decode cX10_at 52 = .ok (.iadd, 1)) ∧ (decode cX10_at 53 = .ok (.iaload, 1)) ∧ (decode cX10_at 54 = .ok (.ireturn, 1)) ∧ (decode cX10_at 55 = .ok (.aload_n 0, 1)) ∧ (decode cX10_at 56 = .ok (.iload_n 1, 1)) ∧ (decode cX10_at 57 = .ok (.invokevirtual 146, 3)) ∧ (decode cX10_at 60 = .ok (.ifCond .eq 7, 3)) ∧ (decode cX10_at 63 = .ok (.iconst 1, 1)) ∧ (decode cX10_at 64 = .ok (.goto 4, 3)) ∧ (decode cX10_at 67 = .ok (.iconst 0, 1)) ∧ (decode cX10_at 68 = .ok (.ireturn, 1)) ∧ (decode cX10_at 69 = .ok (.iconst (-1), 1)) ∧ (decode cX10_at 70 = .ok (.ireturn, 1)) := by decide +kernel
theorem dX10_at_46 : decode cX10_at 46 = .ok (.getfield 28, 3) := da9_dX10_at_46.1
theorem dX10_at_49 : decode cX10_at 49 = .ok (.bipush 6, 2) := da9_dX10_at_46.2.1
theorem dX10_at_51 : decode cX10_at 51 = .ok (.iload_n 1, 1) := da9_dX10_at_46.2.2.1
theorem dX10_at_52 : decode cX10_at 52 = .ok (.iadd, 1) := da9_dX10_at_46.2.2.2.1
theorem dX10_at_53 : decode cX10_at 53 = .ok (.iaload, 1) := da9_dX10_at_46.2.2.2.2.1
theorem dX10_at_54 : decode cX10_at 54 = .ok (.ireturn, 1) := da9_dX10_at_46.2.2.2.2.2.1
theorem dX10_at_55 : decode cX10_at 55 = .ok (.aload_n 0, 1) := da9_dX10_at_46.2.2.2.2.2.2.1
theorem dX10_at_56 : decode cX10_at 56 = .ok (.iload_n 1, 1) := da9_dX10_at_46.2.2.2.2.2.2.2.1
theorem dX10_at_57 : decode cX10_at 57 = .ok (.invokevirtual 146, 3) := da9_dX10_at_46.2.2.2.2.2.2.2.2.1
theorem dX10_at_60 : decode cX10_at 60 = .ok (.ifCond .eq 7, 3) := da9_dX10_at_46.2.2.2.2.2.2.2.2.2.1
theorem dX10_at_63 : decode cX10_at 63 = .ok (.iconst 1, 1) := da9_dX10_at_46.2.2.2.2.2.2.2.2.2.2.1
theorem dX10_at_64 : decode cX10_at 64 = .ok (.goto 4, 3) := da9_dX10_at_46.2.2.2.2.2.2.2.2.2.2.2.1
theorem dX10_at_67 : decode cX10_at 67 = .ok (.iconst 0, 1) := da9_dX10_at_46.2.2.2.2.2.2.2.2.2.2.2.2.1
theorem dX10_at_68 : decode cX10_at 68 = .ok (.ireturn, 1) := da9_dX10_at_46.2.2.2.2.2.2.2.2.2.2.2.2.2.1
theorem dX10_at_69 : decode cX10_at 69 = .ok (.iconst (-1), 1) := da9_dX10_at_46.2.2.2.2.2.2.2.2.2.2.2.2.2.2.1
theorem dX10_at_70 : decode cX10_at 70 = .ok (.ireturn, 1) := da9_dX10_at_46.2.2.2.2.2.2.2.2.2.2.2.2.2.2.2
set_option maxRecDepth 20000 in
theorem ggX10_rankBelow_X10_size : GoodIn wsX10_rankBelow wsX10_size := wd_c vW10_ok mvW10_24
set_option maxRecDepth 20000 in
theorem gX10_rankBelow_X10_size : GoodIn wsX10_rankBelow (wsV RX10 125 RX10 yX10_size wsX10_size) := goodIn_app (wd_l vW10_ok _ pvW10_144) ggX10_rankBelow_X10_size
theorem da9_dX10_rankBelow_0 : (decode cX10_rankBelow 0 = .ok (.iload_n 1, 1)) ∧ (decode cX10_rankBelow 1 = .ok (.aload_n 0, 1)) ∧ (decode cX10_rankBelow 2 = .ok (.invokevirtual 125, 3)) ∧ (decode cX10_rankBelow 5 = .ok (.if_icmp .ge 14, 3)) ∧ (decode cX10_rankBelow 8 = .ok (.aload_n 0, 1)) ∧ (decode cX10_rankBelow 9 = .ok (.getfield 28, 3)) ∧ (decode cX10_rankBelow 12 = .ok (.iconst 0, 1)) ∧ (decode cX10_rankBelow 13 = .ok (.iload_n 1, 1)) ∧ (decode cX10_rankBelow 14 = .ok (.iadd, 1)) ∧ (decode cX10_rankBelow 15 = .ok (.iaload, 1)) ∧ (decode cX10_rankBelow 16 = .ok (.goto 4, 3)) ∧ (decode cX10_rankBelow 19 = .ok (.iconst (-1), 1)) ∧ (decode cX10_rankBelow 20 = .ok (.ireturn, 1)) := by decide +kernel
theorem dX10_rankBelow_0 : decode cX10_rankBelow 0 = .ok (.iload_n 1, 1) := da9_dX10_rankBelow_0.1
theorem dX10_rankBelow_1 : decode cX10_rankBelow 1 = .ok (.aload_n 0, 1) := da9_dX10_rankBelow_0.2.1
theorem dX10_rankBelow_2 : decode cX10_rankBelow 2 = .ok (.invokevirtual 125, 3) := da9_dX10_rankBelow_0.2.2.1
theorem dX10_rankBelow_5 : decode cX10_rankBelow 5 = .ok (.if_icmp .ge 14, 3) := da9_dX10_rankBelow_0.2.2.2.1
theorem dX10_rankBelow_8 : decode cX10_rankBelow 8 = .ok (.aload_n 0, 1) := da9_dX10_rankBelow_0.2.2.2.2.1
theorem dX10_rankBelow_9 : decode cX10_rankBelow 9 = .ok (.getfield 28, 3) := da9_dX10_rankBelow_0.2.2.2.2.2.1
theorem dX10_rankBelow_12 : decode cX10_rankBelow 12 = .ok (.iconst 0, 1) := da9_dX10_rankBelow_0.2.2.2.2.2.2.1
theorem dX10_rankBelow_13 : decode cX10_rankBelow 13 = .ok (.iload_n 1, 1) := da9_dX10_rankBelow_0.2.2.2.2.2.2.2.1
theorem dX10_rankBelow_14 : decode cX10_rankBelow 14 = .ok (.iadd, 1) := da9_dX10_rankBelow_0.2.2.2.2.2.2.2.2.1
theorem dX10_rankBelow_15 : decode cX10_rankBelow 15 = .ok (.iaload, 1) := da9_dX10_rankBelow_0.2.2.2.2.2.2.2.2.2.1
theorem dX10_rankBelow_16 : decode cX10_rankBelow 16 = .ok (.goto 4, 3) := da9_dX10_rankBelow_0.2.2.2.2.2.2.2.2.2.2.1
theorem dX10_rankBelow_19 : decode cX10_rankBelow 19 = .ok (.iconst (-1), 1) := da9_dX10_rankBelow_0.2.2.2.2.2.2.2.2.2.2.2.1
theorem dX10_rankBelow_20 : decode cX10_rankBelow 20 = .ok (.ireturn, 1) := da9_dX10_rankBelow_0.2.2.2.2.2.2.2.2.2.2.2.2
set_option maxRecDepth 20000 in
theorem ggX10_asks_X10_size : GoodIn wsX10_asks wsX10_size := wd_c vW10_ok mvW10_24
set_option maxRecDepth 20000 in
theorem gX10_asks_X10_size : GoodIn wsX10_asks (wsV RX10 125 RX10 yX10_size wsX10_size) := goodIn_app (wd_l vW10_ok _ pvW10_144) ggX10_asks_X10_size
set_option maxRecDepth 20000 in
theorem ggX10_asks_X10_lies : GoodIn wsX10_asks wsX10_lies := wd_c vW10_ok mvW10_6
set_option maxRecDepth 20000 in
theorem gX10_asks_X10_lies : GoodIn wsX10_asks (va_wsS RX10 18 yX10_lies wsX10_lies) := goodIn_app (wd_l vW10_ok _ pvW10_141) ggX10_asks_X10_lies
set_option maxRecDepth 20000 in
theorem ggX10_asks_X10_rankBelow : GoodIn wsX10_asks wsX10_rankBelow := wd_c vW10_ok mvW10_130
set_option maxRecDepth 20000 in
theorem gX10_asks_X10_rankBelow : GoodIn wsX10_asks (wsV RX10 149 RX10 yX10_rankBelow wsX10_rankBelow) := goodIn_app (wd_l vW10_ok _ pvW10_151) ggX10_asks_X10_rankBelow
set_option maxRecDepth 20000 in
theorem ggX10_asks_X10_setsTurn : GoodIn wsX10_asks wsX10_setsTurn := wd_c vW10_ok mvW10_134
set_option maxRecDepth 20000 in
theorem gX10_asks_X10_setsTurn : GoodIn wsX10_asks (wsV RX10 152 RX10 yX10_setsTurn wsX10_setsTurn) := goodIn_app (wd_l vW10_ok _ pvW10_152) ggX10_asks_X10_setsTurn
set_option maxRecDepth 20000 in
theorem ggX10_asks_X10_paysNow : GoodIn wsX10_asks wsX10_paysNow := wd_c vW10_ok mvW10_138
set_option maxRecDepth 20000 in
theorem gX10_asks_X10_paysNow : GoodIn wsX10_asks (wsV RX10 156 RX10 yX10_paysNow wsX10_paysNow) := goodIn_app (wd_l vW10_ok _ pvW10_153) ggX10_asks_X10_paysNow
set_option maxRecDepth 20000 in
theorem ggX10_asks_X10_isNow : GoodIn wsX10_asks wsX10_isNow := wd_c vW10_ok mvW10_58
set_option maxRecDepth 20000 in
theorem gX10_asks_X10_isNow : GoodIn wsX10_asks (wsV RX10 159 RX10 yX10_isNow wsX10_isNow) := goodIn_app (wd_l vW10_ok _ pvW10_154) ggX10_asks_X10_isNow
theorem da9_dX10_asks_0 : (decode cX10_asks 0 = .ok (.iload_n 1, 1)) ∧ (decode cX10_asks 1 = .ok (.iconst 1, 1)) ∧ (decode cX10_asks 2 = .ok (.aload_n 0, 1)) ∧ (decode cX10_asks 3 = .ok (.invokevirtual 125, 3)) ∧ (decode cX10_asks 6 = .ok (.invokestatic 18, 3)) ∧ (decode cX10_asks 9 = .ok (.ifCond .ne 5, 3)) ∧ (decode cX10_asks 12 = .ok (.iconst (-1), 1)) ∧ (decode cX10_asks 13 = .ok (.ireturn, 1)) ∧ (decode cX10_asks 14 = .ok (.aload_n 0, 1)) ∧ (decode cX10_asks 15 = .ok (.iload_n 1, 1)) ∧ (decode cX10_asks 16 = .ok (.aload_n 0, 1)) ∧ (decode cX10_asks 17 = .ok (.getfield 28, 3)) ∧ (decode cX10_asks 20 = .ok (.iconst 0, 1)) ∧ (decode cX10_asks 21 = .ok (.iaload, 1)) ∧ (decode cX10_asks 22 = .ok (.aload_n 0, 1)) ∧ (decode cX10_asks 23 = .ok (.iload_n 1, 1)) := by decide +kernel
theorem dX10_asks_0 : decode cX10_asks 0 = .ok (.iload_n 1, 1) := da9_dX10_asks_0.1
theorem dX10_asks_1 : decode cX10_asks 1 = .ok (.iconst 1, 1) := da9_dX10_asks_0.2.1
theorem dX10_asks_2 : decode cX10_asks 2 = .ok (.aload_n 0, 1) := da9_dX10_asks_0.2.2.1
theorem dX10_asks_3 : decode cX10_asks 3 = .ok (.invokevirtual 125, 3) := da9_dX10_asks_0.2.2.2.1
theorem dX10_asks_6 : decode cX10_asks 6 = .ok (.invokestatic 18, 3) := da9_dX10_asks_0.2.2.2.2.1
theorem dX10_asks_9 : decode cX10_asks 9 = .ok (.ifCond .ne 5, 3) := da9_dX10_asks_0.2.2.2.2.2.1
theorem dX10_asks_12 : decode cX10_asks 12 = .ok (.iconst (-1), 1) := da9_dX10_asks_0.2.2.2.2.2.2.1
theorem dX10_asks_13 : decode cX10_asks 13 = .ok (.ireturn, 1) := da9_dX10_asks_0.2.2.2.2.2.2.2.1
theorem dX10_asks_14 : decode cX10_asks 14 = .ok (.aload_n 0, 1) := da9_dX10_asks_0.2.2.2.2.2.2.2.2.1
theorem dX10_asks_15 : decode cX10_asks 15 = .ok (.iload_n 1, 1) := da9_dX10_asks_0.2.2.2.2.2.2.2.2.2.1
theorem dX10_asks_16 : decode cX10_asks 16 = .ok (.aload_n 0, 1) := da9_dX10_asks_0.2.2.2.2.2.2.2.2.2.2.1
theorem dX10_asks_17 : decode cX10_asks 17 = .ok (.getfield 28, 3) := da9_dX10_asks_0.2.2.2.2.2.2.2.2.2.2.2.1
theorem dX10_asks_20 : decode cX10_asks 20 = .ok (.iconst 0, 1) := da9_dX10_asks_0.2.2.2.2.2.2.2.2.2.2.2.2.1
theorem dX10_asks_21 : decode cX10_asks 21 = .ok (.iaload, 1) := da9_dX10_asks_0.2.2.2.2.2.2.2.2.2.2.2.2.2.1
theorem dX10_asks_22 : decode cX10_asks 22 = .ok (.aload_n 0, 1) := da9_dX10_asks_0.2.2.2.2.2.2.2.2.2.2.2.2.2.2.1
theorem dX10_asks_23 : decode cX10_asks 23 = .ok (.iload_n 1, 1) := da9_dX10_asks_0.2.2.2.2.2.2.2.2.2.2.2.2.2.2.2
theorem da9_dX10_asks_24 : (decode cX10_asks 24 = .ok (.invokevirtual 149, 3)) ∧ (decode cX10_asks 27 = .ok (.aload_n 0, 1)) ∧ (decode cX10_asks 28 = .ok (.getfield 28, 3)) ∧ (decode cX10_asks 31 = .ok (.bipush 6, 2)) ∧ (decode cX10_asks 33 = .ok (.iaload, 1)) ∧ (decode cX10_asks 34 = .ok (.invokevirtual 152, 3)) ∧ (decode cX10_asks 37 = .ok (.iload_n 2, 1)) ∧ (decode cX10_asks 38 = .ok (.lookupswitch 45 #[(0, 26), (1, 31)], 26)) ∧ (decode cX10_asks 64 = .ok (.aload_n 0, 1)) ∧ (decode cX10_asks 65 = .ok (.invokevirtual 156, 3)) ∧ (decode cX10_asks 68 = .ok (.ireturn, 1)) ∧ (decode cX10_asks 69 = .ok (.aload_n 0, 1)) ∧ (decode cX10_asks 70 = .ok (.iconst 2, 1)) ∧ (decode cX10_asks 71 = .ok (.invokevirtual 159, 3)) ∧ (decode cX10_asks 74 = .ok (.ifCond .eq 7, 3)) ∧ (decode cX10_asks 77 = .ok (.iconst 1, 1)) := by decide +kernel
theorem dX10_asks_24 : decode cX10_asks 24 = .ok (.invokevirtual 149, 3) := da9_dX10_asks_24.1
theorem dX10_asks_27 : decode cX10_asks 27 = .ok (.aload_n 0, 1) := da9_dX10_asks_24.2.1
theorem dX10_asks_28 : decode cX10_asks 28 = .ok (.getfield 28, 3) := da9_dX10_asks_24.2.2.1
theorem dX10_asks_31 : decode cX10_asks 31 = .ok (.bipush 6, 2) := da9_dX10_asks_24.2.2.2.1
theorem dX10_asks_33 : decode cX10_asks 33 = .ok (.iaload, 1) := da9_dX10_asks_24.2.2.2.2.1
theorem dX10_asks_34 : decode cX10_asks 34 = .ok (.invokevirtual 152, 3) := da9_dX10_asks_24.2.2.2.2.2.1
theorem dX10_asks_37 : decode cX10_asks 37 = .ok (.iload_n 2, 1) := da9_dX10_asks_24.2.2.2.2.2.2.1
theorem dX10_asks_38 : decode cX10_asks 38 = .ok (.lookupswitch 45 #[(0, 26), (1, 31)], 26) := da9_dX10_asks_24.2.2.2.2.2.2.2.1
theorem dX10_asks_64 : decode cX10_asks 64 = .ok (.aload_n 0, 1) := da9_dX10_asks_24.2.2.2.2.2.2.2.2.1
theorem dX10_asks_65 : decode cX10_asks 65 = .ok (.invokevirtual 156, 3) := da9_dX10_asks_24.2.2.2.2.2.2.2.2.2.1
theorem dX10_asks_68 : decode cX10_asks 68 = .ok (.ireturn, 1) := da9_dX10_asks_24.2.2.2.2.2.2.2.2.2.2.1
theorem dX10_asks_69 : decode cX10_asks 69 = .ok (.aload_n 0, 1) := da9_dX10_asks_24.2.2.2.2.2.2.2.2.2.2.2.1
theorem dX10_asks_70 : decode cX10_asks 70 = .ok (.iconst 2, 1) := da9_dX10_asks_24.2.2.2.2.2.2.2.2.2.2.2.2.1
theorem dX10_asks_71 : decode cX10_asks 71 = .ok (.invokevirtual 159, 3) := da9_dX10_asks_24.2.2.2.2.2.2.2.2.2.2.2.2.2.1
theorem dX10_asks_74 : decode cX10_asks 74 = .ok (.ifCond .eq 7, 3) := da9_dX10_asks_24.2.2.2.2.2.2.2.2.2.2.2.2.2.2.1
theorem dX10_asks_77 : decode cX10_asks 77 = .ok (.iconst 1, 1) := da9_dX10_asks_24.2.2.2.2.2.2.2.2.2.2.2.2.2.2.2
theorem da9_dX10_asks_78 : (decode cX10_asks 78 = .ok (.goto 4, 3)) ∧ (decode cX10_asks 81 = .ok (.iconst 0, 1)) ∧ (decode cX10_asks 82 = .ok (.ireturn, 1)) ∧ (decode cX10_asks 83 = .ok (.iconst (-1), 1)) ∧ (decode cX10_asks 84 = .ok (.ireturn, 1)) := by decide +kernel
theorem dX10_asks_78 : decode cX10_asks 78 = .ok (.goto 4, 3) := da9_dX10_asks_78.1
theorem dX10_asks_81 : decode cX10_asks 81 = .ok (.iconst 0, 1) := da9_dX10_asks_78.2.1
theorem dX10_asks_82 : decode cX10_asks 82 = .ok (.ireturn, 1) := da9_dX10_asks_78.2.2.1
theorem dX10_asks_83 : decode cX10_asks 83 = .ok (.iconst (-1), 1) := da9_dX10_asks_78.2.2.2.1
theorem dX10_asks_84 : decode cX10_asks 84 = .ok (.ireturn, 1) := da9_dX10_asks_78.2.2.2.2
set_option maxRecDepth 20000 in
theorem ggX10_isTerm_X10_lies : GoodIn wsX10_isTerm wsX10_lies := wd_c vW10_ok mvW10_6
set_option maxRecDepth 20000 in
theorem gX10_isTerm_X10_lies : GoodIn wsX10_isTerm (va_wsS RX10 18 yX10_lies wsX10_lies) := goodIn_app (wd_l vW10_ok _ pvW10_141) ggX10_isTerm_X10_lies
set_option maxRecDepth 20000 in
theorem ggX10_isTerm_X10_isBit : GoodIn wsX10_isTerm wsX10_isBit := wd_c vW10_ok mvW10_9
set_option maxRecDepth 20000 in
theorem gX10_isTerm_X10_isBit : GoodIn wsX10_isTerm (va_wsS RX10 133 yX10_isBit wsX10_isBit) := goodIn_app (wd_l vW10_ok _ pvW10_146) ggX10_isTerm_X10_isBit
theorem da9_dX10_isTerm_0 : (decode cX10_isTerm 0 = .ok (.iload_n 0, 1)) ∧ (decode cX10_isTerm 1 = .ok (.tableswitch 61 0 3 #[31, 40, 48, 56], 31)) ∧ (decode cX10_isTerm 32 = .ok (.iload_n 1, 1)) ∧ (decode cX10_isTerm 33 = .ok (.iconst 0, 1)) ∧ (decode cX10_isTerm 34 = .ok (.sipush 999, 3)) ∧ (decode cX10_isTerm 37 = .ok (.invokestatic 18, 3)) ∧ (decode cX10_isTerm 40 = .ok (.ireturn, 1)) ∧ (decode cX10_isTerm 41 = .ok (.iload_n 1, 1)) ∧ (decode cX10_isTerm 42 = .ok (.iconst 0, 1)) ∧ (decode cX10_isTerm 43 = .ok (.bipush 10, 2)) ∧ (decode cX10_isTerm 45 = .ok (.invokestatic 18, 3)) ∧ (decode cX10_isTerm 48 = .ok (.ireturn, 1)) ∧ (decode cX10_isTerm 49 = .ok (.iload_n 1, 1)) ∧ (decode cX10_isTerm 50 = .ok (.iconst 0, 1)) ∧ (decode cX10_isTerm 51 = .ok (.bipush 9, 2)) ∧ (decode cX10_isTerm 53 = .ok (.invokestatic 18, 3)) := by decide +kernel
theorem dX10_isTerm_0 : decode cX10_isTerm 0 = .ok (.iload_n 0, 1) := da9_dX10_isTerm_0.1
theorem dX10_isTerm_1 : decode cX10_isTerm 1 = .ok (.tableswitch 61 0 3 #[31, 40, 48, 56], 31) := da9_dX10_isTerm_0.2.1
theorem dX10_isTerm_32 : decode cX10_isTerm 32 = .ok (.iload_n 1, 1) := da9_dX10_isTerm_0.2.2.1
theorem dX10_isTerm_33 : decode cX10_isTerm 33 = .ok (.iconst 0, 1) := da9_dX10_isTerm_0.2.2.2.1
theorem dX10_isTerm_34 : decode cX10_isTerm 34 = .ok (.sipush 999, 3) := da9_dX10_isTerm_0.2.2.2.2.1
theorem dX10_isTerm_37 : decode cX10_isTerm 37 = .ok (.invokestatic 18, 3) := da9_dX10_isTerm_0.2.2.2.2.2.1
theorem dX10_isTerm_40 : decode cX10_isTerm 40 = .ok (.ireturn, 1) := da9_dX10_isTerm_0.2.2.2.2.2.2.1
theorem dX10_isTerm_41 : decode cX10_isTerm 41 = .ok (.iload_n 1, 1) := da9_dX10_isTerm_0.2.2.2.2.2.2.2.1
theorem dX10_isTerm_42 : decode cX10_isTerm 42 = .ok (.iconst 0, 1) := da9_dX10_isTerm_0.2.2.2.2.2.2.2.2.1
theorem dX10_isTerm_43 : decode cX10_isTerm 43 = .ok (.bipush 10, 2) := da9_dX10_isTerm_0.2.2.2.2.2.2.2.2.2.1
theorem dX10_isTerm_45 : decode cX10_isTerm 45 = .ok (.invokestatic 18, 3) := da9_dX10_isTerm_0.2.2.2.2.2.2.2.2.2.2.1
theorem dX10_isTerm_48 : decode cX10_isTerm 48 = .ok (.ireturn, 1) := da9_dX10_isTerm_0.2.2.2.2.2.2.2.2.2.2.2.1
theorem dX10_isTerm_49 : decode cX10_isTerm 49 = .ok (.iload_n 1, 1) := da9_dX10_isTerm_0.2.2.2.2.2.2.2.2.2.2.2.2.1
theorem dX10_isTerm_50 : decode cX10_isTerm 50 = .ok (.iconst 0, 1) := da9_dX10_isTerm_0.2.2.2.2.2.2.2.2.2.2.2.2.2.1
theorem dX10_isTerm_51 : decode cX10_isTerm 51 = .ok (.bipush 9, 2) := da9_dX10_isTerm_0.2.2.2.2.2.2.2.2.2.2.2.2.2.2.1
theorem dX10_isTerm_53 : decode cX10_isTerm 53 = .ok (.invokestatic 18, 3) := da9_dX10_isTerm_0.2.2.2.2.2.2.2.2.2.2.2.2.2.2.2
theorem da9_dX10_isTerm_56 : (decode cX10_isTerm 56 = .ok (.ireturn, 1)) ∧ (decode cX10_isTerm 57 = .ok (.iload_n 1, 1)) ∧ (decode cX10_isTerm 58 = .ok (.invokestatic 133, 3)) ∧ (decode cX10_isTerm 61 = .ok (.ireturn, 1)) ∧ (decode cX10_isTerm 62 = .ok (.iconst 0, 1)) ∧ (decode cX10_isTerm 63 = .ok (.ireturn, 1)) := by decide +kernel
theorem dX10_isTerm_56 : decode cX10_isTerm 56 = .ok (.ireturn, 1) := da9_dX10_isTerm_56.1
theorem dX10_isTerm_57 : decode cX10_isTerm 57 = .ok (.iload_n 1, 1) := da9_dX10_isTerm_56.2.1
theorem dX10_isTerm_58 : decode cX10_isTerm 58 = .ok (.invokestatic 133, 3) := da9_dX10_isTerm_56.2.2.1
theorem dX10_isTerm_61 : decode cX10_isTerm 61 = .ok (.ireturn, 1) := da9_dX10_isTerm_56.2.2.2.1
theorem dX10_isTerm_62 : decode cX10_isTerm 62 = .ok (.iconst 0, 1) := da9_dX10_isTerm_56.2.2.2.2.1
theorem dX10_isTerm_63 : decode cX10_isTerm 63 = .ok (.ireturn, 1) := da9_dX10_isTerm_56.2.2.2.2.2
theorem da9_dX10_termAt_0 : (decode cX10_termAt 0 = .ok (.iload_n 0, 1)) ∧ (decode cX10_termAt 1 = .ok (.ifCond .ne 8, 3)) ∧ (decode cX10_termAt 4 = .ok (.bipush 13, 2)) ∧ (decode cX10_termAt 6 = .ok (.goto 25, 3)) ∧ (decode cX10_termAt 9 = .ok (.iload_n 0, 1)) ∧ (decode cX10_termAt 10 = .ok (.iconst 1, 1)) ∧ (decode cX10_termAt 11 = .ok (.if_icmp .ne 8, 3)) ∧ (decode cX10_termAt 14 = .ok (.bipush 26, 2)) ∧ (decode cX10_termAt 16 = .ok (.goto 15, 3)) ∧ (decode cX10_termAt 19 = .ok (.iload_n 0, 1)) ∧ (decode cX10_termAt 20 = .ok (.iconst 2, 1)) ∧ (decode cX10_termAt 21 = .ok (.if_icmp .ne 8, 3)) ∧ (decode cX10_termAt 24 = .ok (.bipush 27, 2)) ∧ (decode cX10_termAt 26 = .ok (.goto 5, 3)) ∧ (decode cX10_termAt 29 = .ok (.bipush 28, 2)) ∧ (decode cX10_termAt 31 = .ok (.ireturn, 1)) := by decide +kernel
theorem dX10_termAt_0 : decode cX10_termAt 0 = .ok (.iload_n 0, 1) := da9_dX10_termAt_0.1
theorem dX10_termAt_1 : decode cX10_termAt 1 = .ok (.ifCond .ne 8, 3) := da9_dX10_termAt_0.2.1
theorem dX10_termAt_4 : decode cX10_termAt 4 = .ok (.bipush 13, 2) := da9_dX10_termAt_0.2.2.1
theorem dX10_termAt_6 : decode cX10_termAt 6 = .ok (.goto 25, 3) := da9_dX10_termAt_0.2.2.2.1
theorem dX10_termAt_9 : decode cX10_termAt 9 = .ok (.iload_n 0, 1) := da9_dX10_termAt_0.2.2.2.2.1
theorem dX10_termAt_10 : decode cX10_termAt 10 = .ok (.iconst 1, 1) := da9_dX10_termAt_0.2.2.2.2.2.1
theorem dX10_termAt_11 : decode cX10_termAt 11 = .ok (.if_icmp .ne 8, 3) := da9_dX10_termAt_0.2.2.2.2.2.2.1
theorem dX10_termAt_14 : decode cX10_termAt 14 = .ok (.bipush 26, 2) := da9_dX10_termAt_0.2.2.2.2.2.2.2.1
theorem dX10_termAt_16 : decode cX10_termAt 16 = .ok (.goto 15, 3) := da9_dX10_termAt_0.2.2.2.2.2.2.2.2.1
theorem dX10_termAt_19 : decode cX10_termAt 19 = .ok (.iload_n 0, 1) := da9_dX10_termAt_0.2.2.2.2.2.2.2.2.2.1
theorem dX10_termAt_20 : decode cX10_termAt 20 = .ok (.iconst 2, 1) := da9_dX10_termAt_0.2.2.2.2.2.2.2.2.2.2.1
theorem dX10_termAt_21 : decode cX10_termAt 21 = .ok (.if_icmp .ne 8, 3) := da9_dX10_termAt_0.2.2.2.2.2.2.2.2.2.2.2.1
theorem dX10_termAt_24 : decode cX10_termAt 24 = .ok (.bipush 27, 2) := da9_dX10_termAt_0.2.2.2.2.2.2.2.2.2.2.2.2.1
theorem dX10_termAt_26 : decode cX10_termAt 26 = .ok (.goto 5, 3) := da9_dX10_termAt_0.2.2.2.2.2.2.2.2.2.2.2.2.2.1
theorem dX10_termAt_29 : decode cX10_termAt 29 = .ok (.bipush 28, 2) := da9_dX10_termAt_0.2.2.2.2.2.2.2.2.2.2.2.2.2.2.1
theorem dX10_termAt_31 : decode cX10_termAt 31 = .ok (.ireturn, 1) := da9_dX10_termAt_0.2.2.2.2.2.2.2.2.2.2.2.2.2.2.2
set_option maxRecDepth 20000 in
theorem ggX10_terms_X10_isTerm : GoodIn wsX10_terms wsX10_isTerm := wd_c vW10_ok mvW10_141
set_option maxRecDepth 20000 in
theorem gX10_terms_X10_isTerm : GoodIn wsX10_terms (va_wsS RX10 162 yX10_isTerm wsX10_isTerm) := goodIn_app (wd_l vW10_ok _ pvW10_155) ggX10_terms_X10_isTerm
set_option maxRecDepth 20000 in
theorem ggX10_terms_X10_refuses : GoodIn wsX10_terms wsX10_refuses := wd_c vW10_ok mvW10_13
set_option maxRecDepth 20000 in
theorem gX10_terms_X10_refuses : GoodIn wsX10_terms (wsV RX10 119 RX10 yX10_refuses wsX10_refuses) := goodIn_app (wd_l vW10_ok _ pvW10_142) ggX10_terms_X10_refuses
set_option maxRecDepth 20000 in
theorem ggX10_terms_X10_termAt : GoodIn wsX10_terms wsX10_termAt := wd_c vW10_ok mvW10_144
set_option maxRecDepth 20000 in
theorem gX10_terms_X10_termAt : GoodIn wsX10_terms (va_wsS RX10 166 yX10_termAt wsX10_termAt) := goodIn_app (wd_l vW10_ok _ pvW10_156) ggX10_terms_X10_termAt
set_option maxRecDepth 20000 in
theorem ggX10_terms_X10_settled : GoodIn wsX10_terms wsX10_settled := wd_c vW10_ok mvW10_32
set_option maxRecDepth 20000 in
theorem gX10_terms_X10_settled : GoodIn wsX10_terms (wsV RX10 122 RX10 yX10_settled wsX10_settled) := goodIn_app (wd_l vW10_ok _ pvW10_143) ggX10_terms_X10_settled
theorem da9_dX10_terms_0 : (decode cX10_terms 0 = .ok (.iload_n 1, 1)) ∧ (decode cX10_terms 1 = .ok (.iload_n 2, 1)) ∧ (decode cX10_terms 2 = .ok (.invokestatic 162, 3)) ∧ (decode cX10_terms 5 = .ok (.ifCond .ne 9, 3)) ∧ (decode cX10_terms 8 = .ok (.aload_n 0, 1)) ∧ (decode cX10_terms 9 = .ok (.iconst (-1), 1)) ∧ (decode cX10_terms 10 = .ok (.invokevirtual 119, 3)) ∧ (decode cX10_terms 13 = .ok (.ireturn, 1)) ∧ (decode cX10_terms 14 = .ok (.aload_n 0, 1)) ∧ (decode cX10_terms 15 = .ok (.getfield 28, 3)) ∧ (decode cX10_terms 18 = .ok (.iload_n 1, 1)) ∧ (decode cX10_terms 19 = .ok (.invokestatic 166, 3)) ∧ (decode cX10_terms 22 = .ok (.iaload, 1)) ∧ (decode cX10_terms 23 = .ok (.istore_n 3, 1)) ∧ (decode cX10_terms 24 = .ok (.aload_n 0, 1)) ∧ (decode cX10_terms 25 = .ok (.getfield 28, 3)) := by decide +kernel
theorem dX10_terms_0 : decode cX10_terms 0 = .ok (.iload_n 1, 1) := da9_dX10_terms_0.1
theorem dX10_terms_1 : decode cX10_terms 1 = .ok (.iload_n 2, 1) := da9_dX10_terms_0.2.1
theorem dX10_terms_2 : decode cX10_terms 2 = .ok (.invokestatic 162, 3) := da9_dX10_terms_0.2.2.1
theorem dX10_terms_5 : decode cX10_terms 5 = .ok (.ifCond .ne 9, 3) := da9_dX10_terms_0.2.2.2.1
theorem dX10_terms_8 : decode cX10_terms 8 = .ok (.aload_n 0, 1) := da9_dX10_terms_0.2.2.2.2.1
theorem dX10_terms_9 : decode cX10_terms 9 = .ok (.iconst (-1), 1) := da9_dX10_terms_0.2.2.2.2.2.1
theorem dX10_terms_10 : decode cX10_terms 10 = .ok (.invokevirtual 119, 3) := da9_dX10_terms_0.2.2.2.2.2.2.1
theorem dX10_terms_13 : decode cX10_terms 13 = .ok (.ireturn, 1) := da9_dX10_terms_0.2.2.2.2.2.2.2.1
theorem dX10_terms_14 : decode cX10_terms 14 = .ok (.aload_n 0, 1) := da9_dX10_terms_0.2.2.2.2.2.2.2.2.1
theorem dX10_terms_15 : decode cX10_terms 15 = .ok (.getfield 28, 3) := da9_dX10_terms_0.2.2.2.2.2.2.2.2.2.1
theorem dX10_terms_18 : decode cX10_terms 18 = .ok (.iload_n 1, 1) := da9_dX10_terms_0.2.2.2.2.2.2.2.2.2.2.1
theorem dX10_terms_19 : decode cX10_terms 19 = .ok (.invokestatic 166, 3) := da9_dX10_terms_0.2.2.2.2.2.2.2.2.2.2.2.1
theorem dX10_terms_22 : decode cX10_terms 22 = .ok (.iaload, 1) := da9_dX10_terms_0.2.2.2.2.2.2.2.2.2.2.2.2.1
theorem dX10_terms_23 : decode cX10_terms 23 = .ok (.istore_n 3, 1) := da9_dX10_terms_0.2.2.2.2.2.2.2.2.2.2.2.2.2.1
theorem dX10_terms_24 : decode cX10_terms 24 = .ok (.aload_n 0, 1) := da9_dX10_terms_0.2.2.2.2.2.2.2.2.2.2.2.2.2.2.1
theorem dX10_terms_25 : decode cX10_terms 25 = .ok (.getfield 28, 3) := da9_dX10_terms_0.2.2.2.2.2.2.2.2.2.2.2.2.2.2.2
theorem da9_dX10_terms_28 : (decode cX10_terms 28 = .ok (.iload_n 1, 1)) ∧ (decode cX10_terms 29 = .ok (.invokestatic 166, 3)) ∧ (decode cX10_terms 32 = .ok (.iload_n 2, 1)) ∧ (decode cX10_terms 33 = .ok (.iastore, 1)) ∧ (decode cX10_terms 34 = .ok (.aload_n 0, 1)) ∧ (decode cX10_terms 35 = .ok (.iload_n 3, 1)) ∧ (decode cX10_terms 36 = .ok (.invokevirtual 122, 3)) ∧ (decode cX10_terms 39 = .ok (.ireturn, 1)) := by decide +kernel
theorem dX10_terms_28 : decode cX10_terms 28 = .ok (.iload_n 1, 1) := da9_dX10_terms_28.1
theorem dX10_terms_29 : decode cX10_terms 29 = .ok (.invokestatic 166, 3) := da9_dX10_terms_28.2.1
theorem dX10_terms_32 : decode cX10_terms 32 = .ok (.iload_n 2, 1) := da9_dX10_terms_28.2.2.1
theorem dX10_terms_33 : decode cX10_terms 33 = .ok (.iastore, 1) := da9_dX10_terms_28.2.2.2.1
theorem dX10_terms_34 : decode cX10_terms 34 = .ok (.aload_n 0, 1) := da9_dX10_terms_28.2.2.2.2.1
theorem dX10_terms_35 : decode cX10_terms 35 = .ok (.iload_n 3, 1) := da9_dX10_terms_28.2.2.2.2.2.1
theorem dX10_terms_36 : decode cX10_terms 36 = .ok (.invokevirtual 122, 3) := da9_dX10_terms_28.2.2.2.2.2.2.1
theorem dX10_terms_39 : decode cX10_terms 39 = .ok (.ireturn, 1) := da9_dX10_terms_28.2.2.2.2.2.2.2
set_option maxRecDepth 20000 in
theorem ggX10_testOf_X10_bothOf : GoodIn wsX10_testOf wsX10_bothOf := wd_c vW10_ok mvW10_118
set_option maxRecDepth 20000 in
theorem gX10_testOf_X10_bothOf : GoodIn wsX10_testOf (wsV RX10 323 RX10 yX10_bothOf wsX10_bothOf) := goodIn_app (wd_l vW10_ok _ pvW10_189) ggX10_testOf_X10_bothOf
set_option maxRecDepth 20000 in
theorem ggX10_testOf_X10_passes0 : GoodIn wsX10_testOf wsX10_passes0 := wd_c vW10_ok mvW10_92
set_option maxRecDepth 20000 in
theorem gX10_testOf_X10_passes0 : GoodIn wsX10_testOf (wsV RX10 302 RX10 yX10_passes0 wsX10_passes0) := goodIn_app (wd_l vW10_ok _ pvW10_185) ggX10_testOf_X10_passes0
theorem da9_dX10_testOf_0 : (decode cX10_testOf 0 = .ok (.aload_n 0, 1)) ∧ (decode cX10_testOf 1 = .ok (.iload_n 1, 1)) ∧ (decode cX10_testOf 2 = .ok (.invokevirtual 323, 3)) ∧ (decode cX10_testOf 5 = .ok (.istore_n 2, 1)) ∧ (decode cX10_testOf 6 = .ok (.aload_n 0, 1)) ∧ (decode cX10_testOf 7 = .ok (.iconst 5, 1)) ∧ (decode cX10_testOf 8 = .ok (.invokevirtual 302, 3)) ∧ (decode cX10_testOf 11 = .ok (.ifCond .eq 38, 3)) ∧ (decode cX10_testOf 14 = .ok (.aload_n 0, 1)) ∧ (decode cX10_testOf 15 = .ok (.iload_n 1, 1)) ∧ (decode cX10_testOf 16 = .ok (.ifCond .eq 11, 3)) ∧ (decode cX10_testOf 19 = .ok (.iload_n 2, 1)) ∧ (decode cX10_testOf 20 = .ok (.ifCond .ne 7, 3)) ∧ (decode cX10_testOf 23 = .ok (.iconst 1, 1)) ∧ (decode cX10_testOf 24 = .ok (.goto 4, 3)) ∧ (decode cX10_testOf 27 = .ok (.iconst 0, 1)) := by decide +kernel
theorem dX10_testOf_0 : decode cX10_testOf 0 = .ok (.aload_n 0, 1) := da9_dX10_testOf_0.1
theorem dX10_testOf_1 : decode cX10_testOf 1 = .ok (.iload_n 1, 1) := da9_dX10_testOf_0.2.1
theorem dX10_testOf_2 : decode cX10_testOf 2 = .ok (.invokevirtual 323, 3) := da9_dX10_testOf_0.2.2.1
theorem dX10_testOf_5 : decode cX10_testOf 5 = .ok (.istore_n 2, 1) := da9_dX10_testOf_0.2.2.2.1
theorem dX10_testOf_6 : decode cX10_testOf 6 = .ok (.aload_n 0, 1) := da9_dX10_testOf_0.2.2.2.2.1
theorem dX10_testOf_7 : decode cX10_testOf 7 = .ok (.iconst 5, 1) := da9_dX10_testOf_0.2.2.2.2.2.1
theorem dX10_testOf_8 : decode cX10_testOf 8 = .ok (.invokevirtual 302, 3) := da9_dX10_testOf_0.2.2.2.2.2.2.1
theorem dX10_testOf_11 : decode cX10_testOf 11 = .ok (.ifCond .eq 38, 3) := da9_dX10_testOf_0.2.2.2.2.2.2.2.1
theorem dX10_testOf_14 : decode cX10_testOf 14 = .ok (.aload_n 0, 1) := da9_dX10_testOf_0.2.2.2.2.2.2.2.2.1
theorem dX10_testOf_15 : decode cX10_testOf 15 = .ok (.iload_n 1, 1) := da9_dX10_testOf_0.2.2.2.2.2.2.2.2.2.1
theorem dX10_testOf_16 : decode cX10_testOf 16 = .ok (.ifCond .eq 11, 3) := da9_dX10_testOf_0.2.2.2.2.2.2.2.2.2.2.1
theorem dX10_testOf_19 : decode cX10_testOf 19 = .ok (.iload_n 2, 1) := da9_dX10_testOf_0.2.2.2.2.2.2.2.2.2.2.2.1
theorem dX10_testOf_20 : decode cX10_testOf 20 = .ok (.ifCond .ne 7, 3) := da9_dX10_testOf_0.2.2.2.2.2.2.2.2.2.2.2.2.1
theorem dX10_testOf_23 : decode cX10_testOf 23 = .ok (.iconst 1, 1) := da9_dX10_testOf_0.2.2.2.2.2.2.2.2.2.2.2.2.2.1
theorem dX10_testOf_24 : decode cX10_testOf 24 = .ok (.goto 4, 3) := da9_dX10_testOf_0.2.2.2.2.2.2.2.2.2.2.2.2.2.2.1
theorem dX10_testOf_27 : decode cX10_testOf 27 = .ok (.iconst 0, 1) := da9_dX10_testOf_0.2.2.2.2.2.2.2.2.2.2.2.2.2.2.2
theorem da9_dX10_testOf_28 : (decode cX10_testOf 28 = .ok (.invokevirtual 323, 3)) ∧ (decode cX10_testOf 31 = .ok (.istore_n 3, 1)) ∧ (decode cX10_testOf 32 = .ok (.iload_n 2, 1)) ∧ (decode cX10_testOf 33 = .ok (.ifCond .ne 7, 3)) ∧ (decode cX10_testOf 36 = .ok (.iload_n 3, 1)) ∧ (decode cX10_testOf 37 = .ok (.ifCond .eq 7, 3)) ∧ (decode cX10_testOf 40 = .ok (.iconst 1, 1)) ∧ (decode cX10_testOf 41 = .ok (.goto 4, 3)) ∧ (decode cX10_testOf 44 = .ok (.iconst 0, 1)) ∧ (decode cX10_testOf 45 = .ok (.istore_n 2, 1)) ∧ (decode cX10_testOf 46 = .ok (.goto (-40), 3)) ∧ (decode cX10_testOf 49 = .ok (.iload_n 2, 1)) ∧ (decode cX10_testOf 50 = .ok (.ireturn, 1)) := by decide +kernel
theorem dX10_testOf_28 : decode cX10_testOf 28 = .ok (.invokevirtual 323, 3) := da9_dX10_testOf_28.1
theorem dX10_testOf_31 : decode cX10_testOf 31 = .ok (.istore_n 3, 1) := da9_dX10_testOf_28.2.1
theorem dX10_testOf_32 : decode cX10_testOf 32 = .ok (.iload_n 2, 1) := da9_dX10_testOf_28.2.2.1
theorem dX10_testOf_33 : decode cX10_testOf 33 = .ok (.ifCond .ne 7, 3) := da9_dX10_testOf_28.2.2.2.1
theorem dX10_testOf_36 : decode cX10_testOf 36 = .ok (.iload_n 3, 1) := da9_dX10_testOf_28.2.2.2.2.1
theorem dX10_testOf_37 : decode cX10_testOf 37 = .ok (.ifCond .eq 7, 3) := da9_dX10_testOf_28.2.2.2.2.2.1
theorem dX10_testOf_40 : decode cX10_testOf 40 = .ok (.iconst 1, 1) := da9_dX10_testOf_28.2.2.2.2.2.2.1
theorem dX10_testOf_41 : decode cX10_testOf 41 = .ok (.goto 4, 3) := da9_dX10_testOf_28.2.2.2.2.2.2.2.1
theorem dX10_testOf_44 : decode cX10_testOf 44 = .ok (.iconst 0, 1) := da9_dX10_testOf_28.2.2.2.2.2.2.2.2.1
theorem dX10_testOf_45 : decode cX10_testOf 45 = .ok (.istore_n 2, 1) := da9_dX10_testOf_28.2.2.2.2.2.2.2.2.2.1
theorem dX10_testOf_46 : decode cX10_testOf 46 = .ok (.goto (-40), 3) := da9_dX10_testOf_28.2.2.2.2.2.2.2.2.2.2.1
theorem dX10_testOf_49 : decode cX10_testOf 49 = .ok (.iload_n 2, 1) := da9_dX10_testOf_28.2.2.2.2.2.2.2.2.2.2.2.1
theorem dX10_testOf_50 : decode cX10_testOf 50 = .ok (.ireturn, 1) := da9_dX10_testOf_28.2.2.2.2.2.2.2.2.2.2.2.2
set_option maxRecDepth 20000 in
theorem ggX10_setsTurn_X10_setsAsked : GoodIn wsX10_setsTurn wsX10_setsAsked := wd_c vW10_ok mvW10_54
set_option maxRecDepth 20000 in
theorem gX10_setsTurn_X10_setsAsked : GoodIn wsX10_setsTurn (wsV RX10 335 RX10 yX10_setsAsked wsX10_setsAsked) := goodIn_app (wd_l vW10_ok _ pvW10_193) ggX10_setsTurn_X10_setsAsked
theorem da9_dX10_setsTurn_0 : (decode cX10_setsTurn 0 = .ok (.aload_n 0, 1)) ∧ (decode cX10_setsTurn 1 = .ok (.getfield 63, 3)) ∧ (decode cX10_setsTurn 4 = .ok (.iconst 0, 1)) ∧ (decode cX10_setsTurn 5 = .ok (.iload_n 1, 1)) ∧ (decode cX10_setsTurn 6 = .ok (.iastore, 1)) ∧ (decode cX10_setsTurn 7 = .ok (.aload_n 0, 1)) ∧ (decode cX10_setsTurn 8 = .ok (.getfield 63, 3)) ∧ (decode cX10_setsTurn 11 = .ok (.iconst 1, 1)) ∧ (decode cX10_setsTurn 12 = .ok (.iload_n 2, 1)) ∧ (decode cX10_setsTurn 13 = .ok (.iastore, 1)) ∧ (decode cX10_setsTurn 14 = .ok (.aload_n 0, 1)) ∧ (decode cX10_setsTurn 15 = .ok (.getfield 63, 3)) ∧ (decode cX10_setsTurn 18 = .ok (.iconst 2, 1)) ∧ (decode cX10_setsTurn 19 = .ok (.iload_n 3, 1)) ∧ (decode cX10_setsTurn 20 = .ok (.iastore, 1)) ∧ (decode cX10_setsTurn 21 = .ok (.aload_n 0, 1)) := by decide +kernel
theorem dX10_setsTurn_0 : decode cX10_setsTurn 0 = .ok (.aload_n 0, 1) := da9_dX10_setsTurn_0.1
theorem dX10_setsTurn_1 : decode cX10_setsTurn 1 = .ok (.getfield 63, 3) := da9_dX10_setsTurn_0.2.1
theorem dX10_setsTurn_4 : decode cX10_setsTurn 4 = .ok (.iconst 0, 1) := da9_dX10_setsTurn_0.2.2.1
theorem dX10_setsTurn_5 : decode cX10_setsTurn 5 = .ok (.iload_n 1, 1) := da9_dX10_setsTurn_0.2.2.2.1
theorem dX10_setsTurn_6 : decode cX10_setsTurn 6 = .ok (.iastore, 1) := da9_dX10_setsTurn_0.2.2.2.2.1
theorem dX10_setsTurn_7 : decode cX10_setsTurn 7 = .ok (.aload_n 0, 1) := da9_dX10_setsTurn_0.2.2.2.2.2.1
theorem dX10_setsTurn_8 : decode cX10_setsTurn 8 = .ok (.getfield 63, 3) := da9_dX10_setsTurn_0.2.2.2.2.2.2.1
theorem dX10_setsTurn_11 : decode cX10_setsTurn 11 = .ok (.iconst 1, 1) := da9_dX10_setsTurn_0.2.2.2.2.2.2.2.1
theorem dX10_setsTurn_12 : decode cX10_setsTurn 12 = .ok (.iload_n 2, 1) := da9_dX10_setsTurn_0.2.2.2.2.2.2.2.2.1
theorem dX10_setsTurn_13 : decode cX10_setsTurn 13 = .ok (.iastore, 1) := da9_dX10_setsTurn_0.2.2.2.2.2.2.2.2.2.1
theorem dX10_setsTurn_14 : decode cX10_setsTurn 14 = .ok (.aload_n 0, 1) := da9_dX10_setsTurn_0.2.2.2.2.2.2.2.2.2.2.1
theorem dX10_setsTurn_15 : decode cX10_setsTurn 15 = .ok (.getfield 63, 3) := da9_dX10_setsTurn_0.2.2.2.2.2.2.2.2.2.2.2.1
theorem dX10_setsTurn_18 : decode cX10_setsTurn 18 = .ok (.iconst 2, 1) := da9_dX10_setsTurn_0.2.2.2.2.2.2.2.2.2.2.2.2.1
theorem dX10_setsTurn_19 : decode cX10_setsTurn 19 = .ok (.iload_n 3, 1) := da9_dX10_setsTurn_0.2.2.2.2.2.2.2.2.2.2.2.2.2.1
theorem dX10_setsTurn_20 : decode cX10_setsTurn 20 = .ok (.iastore, 1) := da9_dX10_setsTurn_0.2.2.2.2.2.2.2.2.2.2.2.2.2.2.1
theorem dX10_setsTurn_21 : decode cX10_setsTurn 21 = .ok (.aload_n 0, 1) := da9_dX10_setsTurn_0.2.2.2.2.2.2.2.2.2.2.2.2.2.2.2
theorem da9_dX10_setsTurn_22 : (decode cX10_setsTurn 22 = .ok (.iconst (-1), 1)) ∧ (decode cX10_setsTurn 23 = .ok (.iconst (-1), 1)) ∧ (decode cX10_setsTurn 24 = .ok (.iload 4, 2)) ∧ (decode cX10_setsTurn 26 = .ok (.invokevirtual 335, 3)) ∧ (decode cX10_setsTurn 29 = .ok (.return_, 1)) := by decide +kernel
theorem dX10_setsTurn_22 : decode cX10_setsTurn 22 = .ok (.iconst (-1), 1) := da9_dX10_setsTurn_22.1
theorem dX10_setsTurn_23 : decode cX10_setsTurn 23 = .ok (.iconst (-1), 1) := da9_dX10_setsTurn_22.2.1
theorem dX10_setsTurn_24 : decode cX10_setsTurn 24 = .ok (.iload 4, 2) := da9_dX10_setsTurn_22.2.2.1
theorem dX10_setsTurn_26 : decode cX10_setsTurn 26 = .ok (.invokevirtual 335, 3) := da9_dX10_setsTurn_22.2.2.2.1
theorem dX10_setsTurn_29 : decode cX10_setsTurn 29 = .ok (.return_, 1) := da9_dX10_setsTurn_22.2.2.2.2
set_option maxRecDepth 20000 in
theorem ggX10_tells_X10_codeAt : GoodIn wsX10_tells wsX10_codeAt := wd_c vW10_ok mvW10_71
set_option maxRecDepth 20000 in
theorem gX10_tells_X10_codeAt : GoodIn wsX10_tells (wsV RX10 281 RX10 yX10_codeAt wsX10_codeAt) := goodIn_app (wd_l vW10_ok _ pvW10_181) ggX10_tells_X10_codeAt
set_option maxRecDepth 20000 in
theorem ggX10_tells_X10_sumOf : GoodIn wsX10_tells wsX10_sumOf := wd_c vW10_ok mvW10_75
set_option maxRecDepth 20000 in
theorem gX10_tells_X10_sumOf : GoodIn wsX10_tells (wsV RX10 305 RX10 yX10_sumOf wsX10_sumOf) := goodIn_app (wd_l vW10_ok _ pvW10_186) ggX10_tells_X10_sumOf
set_option maxRecDepth 20000 in
theorem ggX10_tells_X10_passes0 : GoodIn wsX10_tells wsX10_passes0 := wd_c vW10_ok mvW10_92
set_option maxRecDepth 20000 in
theorem gX10_tells_X10_passes0 : GoodIn wsX10_tells (wsV RX10 302 RX10 yX10_passes0 wsX10_passes0) := goodIn_app (wd_l vW10_ok _ pvW10_185) ggX10_tells_X10_passes0
set_option maxRecDepth 20000 in
theorem ggX10_tells_X10_testOf : GoodIn wsX10_tells wsX10_testOf := wd_c vW10_ok mvW10_114
set_option maxRecDepth 20000 in
theorem gX10_tells_X10_testOf : GoodIn wsX10_tells (wsV RX10 332 RX10 yX10_testOf wsX10_testOf) := goodIn_app (wd_l vW10_ok _ pvW10_192) ggX10_tells_X10_testOf
theorem da9_dX10_tells_0 : (decode cX10_tells 0 = .ok (.aload_n 0, 1)) ∧ (decode cX10_tells 1 = .ok (.getfield 28, 3)) ∧ (decode cX10_tells 4 = .ok (.bipush 32, 2)) ∧ (decode cX10_tells 6 = .ok (.iaload, 1)) ∧ (decode cX10_tells 7 = .ok (.iconst (-1), 1)) ∧ (decode cX10_tells 8 = .ok (.if_icmp .ne 5, 3)) ∧ (decode cX10_tells 11 = .ok (.iload_n 2, 1)) ∧ (decode cX10_tells 12 = .ok (.ireturn, 1)) ∧ (decode cX10_tells 13 = .ok (.aload_n 0, 1)) ∧ (decode cX10_tells 14 = .ok (.iconst 0, 1)) ∧ (decode cX10_tells 15 = .ok (.putfield 308, 3)) ∧ (decode cX10_tells 18 = .ok (.iload_n 2, 1)) ∧ (decode cX10_tells 19 = .ok (.i2l, 1)) ∧ (decode cX10_tells 20 = .ok (.lstore_n 3, 1)) ∧ (decode cX10_tells 21 = .ok (.aload_n 0, 1)) ∧ (decode cX10_tells 22 = .ok (.sipush 400, 3)) := by decide +kernel
theorem dX10_tells_0 : decode cX10_tells 0 = .ok (.aload_n 0, 1) := da9_dX10_tells_0.1
theorem dX10_tells_1 : decode cX10_tells 1 = .ok (.getfield 28, 3) := da9_dX10_tells_0.2.1
theorem dX10_tells_4 : decode cX10_tells 4 = .ok (.bipush 32, 2) := da9_dX10_tells_0.2.2.1
theorem dX10_tells_6 : decode cX10_tells 6 = .ok (.iaload, 1) := da9_dX10_tells_0.2.2.2.1
theorem dX10_tells_7 : decode cX10_tells 7 = .ok (.iconst (-1), 1) := da9_dX10_tells_0.2.2.2.2.1
theorem dX10_tells_8 : decode cX10_tells 8 = .ok (.if_icmp .ne 5, 3) := da9_dX10_tells_0.2.2.2.2.2.1
theorem dX10_tells_11 : decode cX10_tells 11 = .ok (.iload_n 2, 1) := da9_dX10_tells_0.2.2.2.2.2.2.1
theorem dX10_tells_12 : decode cX10_tells 12 = .ok (.ireturn, 1) := da9_dX10_tells_0.2.2.2.2.2.2.2.1
theorem dX10_tells_13 : decode cX10_tells 13 = .ok (.aload_n 0, 1) := da9_dX10_tells_0.2.2.2.2.2.2.2.2.1
theorem dX10_tells_14 : decode cX10_tells 14 = .ok (.iconst 0, 1) := da9_dX10_tells_0.2.2.2.2.2.2.2.2.2.1
theorem dX10_tells_15 : decode cX10_tells 15 = .ok (.putfield 308, 3) := da9_dX10_tells_0.2.2.2.2.2.2.2.2.2.2.1
theorem dX10_tells_18 : decode cX10_tells 18 = .ok (.iload_n 2, 1) := da9_dX10_tells_0.2.2.2.2.2.2.2.2.2.2.2.1
theorem dX10_tells_19 : decode cX10_tells 19 = .ok (.i2l, 1) := da9_dX10_tells_0.2.2.2.2.2.2.2.2.2.2.2.2.1
theorem dX10_tells_20 : decode cX10_tells 20 = .ok (.lstore_n 3, 1) := da9_dX10_tells_0.2.2.2.2.2.2.2.2.2.2.2.2.2.1
theorem dX10_tells_21 : decode cX10_tells 21 = .ok (.aload_n 0, 1) := da9_dX10_tells_0.2.2.2.2.2.2.2.2.2.2.2.2.2.2.1
theorem dX10_tells_22 : decode cX10_tells 22 = .ok (.sipush 400, 3) := da9_dX10_tells_0.2.2.2.2.2.2.2.2.2.2.2.2.2.2.2
theorem da9_dX10_tells_25 : (decode cX10_tells 25 = .ok (.aload_n 0, 1)) ∧ (decode cX10_tells 26 = .ok (.getfield 28, 3)) ∧ (decode cX10_tells 29 = .ok (.bipush 32, 2)) ∧ (decode cX10_tells 31 = .ok (.iaload, 1)) ∧ (decode cX10_tells 32 = .ok (.imul, 1)) ∧ (decode cX10_tells 33 = .ok (.putfield 278, 3)) ∧ (decode cX10_tells 36 = .ok (.aload_n 0, 1)) ∧ (decode cX10_tells 37 = .ok (.aload_n 0, 1)) ∧ (decode cX10_tells 38 = .ok (.getfield 278, 3)) ∧ (decode cX10_tells 41 = .ok (.aload_n 0, 1)) ∧ (decode cX10_tells 42 = .ok (.getfield 28, 3)) ∧ (decode cX10_tells 45 = .ok (.bipush 33, 2)) ∧ (decode cX10_tells 47 = .ok (.aload_n 0, 1)) ∧ (decode cX10_tells 48 = .ok (.getfield 28, 3)) ∧ (decode cX10_tells 51 = .ok (.bipush 32, 2)) ∧ (decode cX10_tells 53 = .ok (.iaload, 1)) := by decide +kernel
theorem dX10_tells_25 : decode cX10_tells 25 = .ok (.aload_n 0, 1) := da9_dX10_tells_25.1
theorem dX10_tells_26 : decode cX10_tells 26 = .ok (.getfield 28, 3) := da9_dX10_tells_25.2.1
theorem dX10_tells_29 : decode cX10_tells 29 = .ok (.bipush 32, 2) := da9_dX10_tells_25.2.2.1
theorem dX10_tells_31 : decode cX10_tells 31 = .ok (.iaload, 1) := da9_dX10_tells_25.2.2.2.1
theorem dX10_tells_32 : decode cX10_tells 32 = .ok (.imul, 1) := da9_dX10_tells_25.2.2.2.2.1
theorem dX10_tells_33 : decode cX10_tells 33 = .ok (.putfield 278, 3) := da9_dX10_tells_25.2.2.2.2.2.1
theorem dX10_tells_36 : decode cX10_tells 36 = .ok (.aload_n 0, 1) := da9_dX10_tells_25.2.2.2.2.2.2.1
theorem dX10_tells_37 : decode cX10_tells 37 = .ok (.aload_n 0, 1) := da9_dX10_tells_25.2.2.2.2.2.2.2.1
theorem dX10_tells_38 : decode cX10_tells 38 = .ok (.getfield 278, 3) := da9_dX10_tells_25.2.2.2.2.2.2.2.2.1
theorem dX10_tells_41 : decode cX10_tells 41 = .ok (.aload_n 0, 1) := da9_dX10_tells_25.2.2.2.2.2.2.2.2.2.1
theorem dX10_tells_42 : decode cX10_tells 42 = .ok (.getfield 28, 3) := da9_dX10_tells_25.2.2.2.2.2.2.2.2.2.2.1
theorem dX10_tells_45 : decode cX10_tells 45 = .ok (.bipush 33, 2) := da9_dX10_tells_25.2.2.2.2.2.2.2.2.2.2.2.1
theorem dX10_tells_47 : decode cX10_tells 47 = .ok (.aload_n 0, 1) := da9_dX10_tells_25.2.2.2.2.2.2.2.2.2.2.2.2.1
theorem dX10_tells_48 : decode cX10_tells 48 = .ok (.getfield 28, 3) := da9_dX10_tells_25.2.2.2.2.2.2.2.2.2.2.2.2.2.1
theorem dX10_tells_51 : decode cX10_tells 51 = .ok (.bipush 32, 2) := da9_dX10_tells_25.2.2.2.2.2.2.2.2.2.2.2.2.2.2.1
theorem dX10_tells_53 : decode cX10_tells 53 = .ok (.iaload, 1) := da9_dX10_tells_25.2.2.2.2.2.2.2.2.2.2.2.2.2.2.2
theorem da9_dX10_tells_54 : (decode cX10_tells 54 = .ok (.iadd, 1)) ∧ (decode cX10_tells 55 = .ok (.iaload, 1)) ∧ (decode cX10_tells 56 = .ok (.iadd, 1)) ∧ (decode cX10_tells 57 = .ok (.putfield 275, 3)) ∧ (decode cX10_tells 60 = .ok (.aload_n 0, 1)) ∧ (decode cX10_tells 61 = .ok (.getfield 278, 3)) ∧ (decode cX10_tells 64 = .ok (.aload_n 0, 1)) ∧ (decode cX10_tells 65 = .ok (.getfield 275, 3)) ∧ (decode cX10_tells 68 = .ok (.if_icmp .ge 144, 3)) ∧ (decode cX10_tells 71 = .ok (.aload_n 0, 1)) ∧ (decode cX10_tells 72 = .ok (.aload_n 0, 1)) ∧ (decode cX10_tells 73 = .ok (.getfield 278, 3)) ∧ (decode cX10_tells 76 = .ok (.invokevirtual 281, 3)) ∧ (decode cX10_tells 79 = .ok (.istore 5, 2)) ∧ (decode cX10_tells 81 = .ok (.aload_n 0, 1)) ∧ (decode cX10_tells 82 = .ok (.iconst 0, 1)) := by decide +kernel
theorem dX10_tells_54 : decode cX10_tells 54 = .ok (.iadd, 1) := da9_dX10_tells_54.1
theorem dX10_tells_55 : decode cX10_tells 55 = .ok (.iaload, 1) := da9_dX10_tells_54.2.1
theorem dX10_tells_56 : decode cX10_tells 56 = .ok (.iadd, 1) := da9_dX10_tells_54.2.2.1
theorem dX10_tells_57 : decode cX10_tells 57 = .ok (.putfield 275, 3) := da9_dX10_tells_54.2.2.2.1
theorem dX10_tells_60 : decode cX10_tells 60 = .ok (.aload_n 0, 1) := da9_dX10_tells_54.2.2.2.2.1
theorem dX10_tells_61 : decode cX10_tells 61 = .ok (.getfield 278, 3) := da9_dX10_tells_54.2.2.2.2.2.1
theorem dX10_tells_64 : decode cX10_tells 64 = .ok (.aload_n 0, 1) := da9_dX10_tells_54.2.2.2.2.2.2.1
theorem dX10_tells_65 : decode cX10_tells 65 = .ok (.getfield 275, 3) := da9_dX10_tells_54.2.2.2.2.2.2.2.1
theorem dX10_tells_68 : decode cX10_tells 68 = .ok (.if_icmp .ge 144, 3) := da9_dX10_tells_54.2.2.2.2.2.2.2.2.1
theorem dX10_tells_71 : decode cX10_tells 71 = .ok (.aload_n 0, 1) := da9_dX10_tells_54.2.2.2.2.2.2.2.2.2.1
theorem dX10_tells_72 : decode cX10_tells 72 = .ok (.aload_n 0, 1) := da9_dX10_tells_54.2.2.2.2.2.2.2.2.2.2.1
theorem dX10_tells_73 : decode cX10_tells 73 = .ok (.getfield 278, 3) := da9_dX10_tells_54.2.2.2.2.2.2.2.2.2.2.2.1
theorem dX10_tells_76 : decode cX10_tells 76 = .ok (.invokevirtual 281, 3) := da9_dX10_tells_54.2.2.2.2.2.2.2.2.2.2.2.2.1
theorem dX10_tells_79 : decode cX10_tells 79 = .ok (.istore 5, 2) := da9_dX10_tells_54.2.2.2.2.2.2.2.2.2.2.2.2.2.1
theorem dX10_tells_81 : decode cX10_tells 81 = .ok (.aload_n 0, 1) := da9_dX10_tells_54.2.2.2.2.2.2.2.2.2.2.2.2.2.2.1
theorem dX10_tells_82 : decode cX10_tells 82 = .ok (.iconst 0, 1) := da9_dX10_tells_54.2.2.2.2.2.2.2.2.2.2.2.2.2.2.2
theorem da9_dX10_tells_83 : (decode cX10_tells 83 = .ok (.putfield 288, 3)) ∧ (decode cX10_tells 86 = .ok (.aload_n 0, 1)) ∧ (decode cX10_tells 87 = .ok (.dup, 1)) ∧ (decode cX10_tells 88 = .ok (.getfield 278, 3)) ∧ (decode cX10_tells 91 = .ok (.iconst 1, 1)) ∧ (decode cX10_tells 92 = .ok (.iadd, 1)) ∧ (decode cX10_tells 93 = .ok (.putfield 278, 3)) ∧ (decode cX10_tells 96 = .ok (.iload 5, 2)) ∧ (decode cX10_tells 98 = .ok (.iconst 1, 1)) ∧ (decode cX10_tells 99 = .ok (.if_icmp .ne 11, 3)) ∧ (decode cX10_tells 102 = .ok (.aload_n 0, 1)) ∧ (decode cX10_tells 103 = .ok (.iconst 1, 1)) ∧ (decode cX10_tells 104 = .ok (.invokevirtual 305, 3)) ∧ (decode cX10_tells 107 = .ok (.goto 4, 3)) ∧ (decode cX10_tells 110 = .ok (.lconst 1, 1)) ∧ (decode cX10_tells 111 = .ok (.lstore 6, 2)) := by decide +kernel
theorem dX10_tells_83 : decode cX10_tells 83 = .ok (.putfield 288, 3) := da9_dX10_tells_83.1
theorem dX10_tells_86 : decode cX10_tells 86 = .ok (.aload_n 0, 1) := da9_dX10_tells_83.2.1
theorem dX10_tells_87 : decode cX10_tells 87 = .ok (.dup, 1) := da9_dX10_tells_83.2.2.1
theorem dX10_tells_88 : decode cX10_tells 88 = .ok (.getfield 278, 3) := da9_dX10_tells_83.2.2.2.1
theorem dX10_tells_91 : decode cX10_tells 91 = .ok (.iconst 1, 1) := da9_dX10_tells_83.2.2.2.2.1
theorem dX10_tells_92 : decode cX10_tells 92 = .ok (.iadd, 1) := da9_dX10_tells_83.2.2.2.2.2.1
theorem dX10_tells_93 : decode cX10_tells 93 = .ok (.putfield 278, 3) := da9_dX10_tells_83.2.2.2.2.2.2.1
theorem dX10_tells_96 : decode cX10_tells 96 = .ok (.iload 5, 2) := da9_dX10_tells_83.2.2.2.2.2.2.2.1
theorem dX10_tells_98 : decode cX10_tells 98 = .ok (.iconst 1, 1) := da9_dX10_tells_83.2.2.2.2.2.2.2.2.1
theorem dX10_tells_99 : decode cX10_tells 99 = .ok (.if_icmp .ne 11, 3) := da9_dX10_tells_83.2.2.2.2.2.2.2.2.2.1
theorem dX10_tells_102 : decode cX10_tells 102 = .ok (.aload_n 0, 1) := da9_dX10_tells_83.2.2.2.2.2.2.2.2.2.2.1
theorem dX10_tells_103 : decode cX10_tells 103 = .ok (.iconst 1, 1) := da9_dX10_tells_83.2.2.2.2.2.2.2.2.2.2.2.1
theorem dX10_tells_104 : decode cX10_tells 104 = .ok (.invokevirtual 305, 3) := da9_dX10_tells_83.2.2.2.2.2.2.2.2.2.2.2.2.1
theorem dX10_tells_107 : decode cX10_tells 107 = .ok (.goto 4, 3) := da9_dX10_tells_83.2.2.2.2.2.2.2.2.2.2.2.2.2.1
theorem dX10_tells_110 : decode cX10_tells 110 = .ok (.lconst 1, 1) := da9_dX10_tells_83.2.2.2.2.2.2.2.2.2.2.2.2.2.2.1
theorem dX10_tells_111 : decode cX10_tells 111 = .ok (.lstore 6, 2) := da9_dX10_tells_83.2.2.2.2.2.2.2.2.2.2.2.2.2.2.2
theorem da9_dX10_tells_113 : (decode cX10_tells 113 = .ok (.aload_n 0, 1)) ∧ (decode cX10_tells 114 = .ok (.getfield 288, 3)) ∧ (decode cX10_tells 117 = .ok (.istore 8, 2)) ∧ (decode cX10_tells 119 = .ok (.aload_n 0, 1)) ∧ (decode cX10_tells 120 = .ok (.iconst 0, 1)) ∧ (decode cX10_tells 121 = .ok (.putfield 288, 3)) ∧ (decode cX10_tells 124 = .ok (.aload_n 0, 1)) ∧ (decode cX10_tells 125 = .ok (.iconst 4, 1)) ∧ (decode cX10_tells 126 = .ok (.invokevirtual 302, 3)) ∧ (decode cX10_tells 129 = .ok (.ifCond .eq 11, 3)) ∧ (decode cX10_tells 132 = .ok (.aload_n 0, 1)) ∧ (decode cX10_tells 133 = .ok (.iconst 1, 1)) ∧ (decode cX10_tells 134 = .ok (.invokevirtual 332, 3)) ∧ (decode cX10_tells 137 = .ok (.ifCond .eq 7, 3)) ∧ (decode cX10_tells 140 = .ok (.iconst 1, 1)) ∧ (decode cX10_tells 141 = .ok (.goto 4, 3)) := by decide +kernel
theorem dX10_tells_113 : decode cX10_tells 113 = .ok (.aload_n 0, 1) := da9_dX10_tells_113.1
theorem dX10_tells_114 : decode cX10_tells 114 = .ok (.getfield 288, 3) := da9_dX10_tells_113.2.1
theorem dX10_tells_117 : decode cX10_tells 117 = .ok (.istore 8, 2) := da9_dX10_tells_113.2.2.1
theorem dX10_tells_119 : decode cX10_tells 119 = .ok (.aload_n 0, 1) := da9_dX10_tells_113.2.2.2.1
theorem dX10_tells_120 : decode cX10_tells 120 = .ok (.iconst 0, 1) := da9_dX10_tells_113.2.2.2.2.1
theorem dX10_tells_121 : decode cX10_tells 121 = .ok (.putfield 288, 3) := da9_dX10_tells_113.2.2.2.2.2.1
theorem dX10_tells_124 : decode cX10_tells 124 = .ok (.aload_n 0, 1) := da9_dX10_tells_113.2.2.2.2.2.2.1
theorem dX10_tells_125 : decode cX10_tells 125 = .ok (.iconst 4, 1) := da9_dX10_tells_113.2.2.2.2.2.2.2.1
theorem dX10_tells_126 : decode cX10_tells 126 = .ok (.invokevirtual 302, 3) := da9_dX10_tells_113.2.2.2.2.2.2.2.2.1
theorem dX10_tells_129 : decode cX10_tells 129 = .ok (.ifCond .eq 11, 3) := da9_dX10_tells_113.2.2.2.2.2.2.2.2.2.1
theorem dX10_tells_132 : decode cX10_tells 132 = .ok (.aload_n 0, 1) := da9_dX10_tells_113.2.2.2.2.2.2.2.2.2.2.1
theorem dX10_tells_133 : decode cX10_tells 133 = .ok (.iconst 1, 1) := da9_dX10_tells_113.2.2.2.2.2.2.2.2.2.2.2.1
theorem dX10_tells_134 : decode cX10_tells 134 = .ok (.invokevirtual 332, 3) := da9_dX10_tells_113.2.2.2.2.2.2.2.2.2.2.2.2.1
theorem dX10_tells_137 : decode cX10_tells 137 = .ok (.ifCond .eq 7, 3) := da9_dX10_tells_113.2.2.2.2.2.2.2.2.2.2.2.2.2.1
theorem dX10_tells_140 : decode cX10_tells 140 = .ok (.iconst 1, 1) := da9_dX10_tells_113.2.2.2.2.2.2.2.2.2.2.2.2.2.2.1
theorem dX10_tells_141 : decode cX10_tells 141 = .ok (.goto 4, 3) := da9_dX10_tells_113.2.2.2.2.2.2.2.2.2.2.2.2.2.2.2
theorem da9_dX10_tells_144 : (decode cX10_tells 144 = .ok (.iconst 0, 1)) ∧ (decode cX10_tells 145 = .ok (.istore 9, 2)) ∧ (decode cX10_tells 147 = .ok (.iload 5, 2)) ∧ (decode cX10_tells 149 = .ok (.iload_n 1, 1)) ∧ (decode cX10_tells 150 = .ok (.if_icmp .ne 49, 3)) ∧ (decode cX10_tells 153 = .ok (.iload 9, 2)) ∧ (decode cX10_tells 155 = .ok (.ifCond .eq 44, 3)) ∧ (decode cX10_tells 158 = .ok (.aload_n 0, 1)) ∧ (decode cX10_tells 159 = .ok (.getfield 288, 3)) ∧ (decode cX10_tells 162 = .ok (.ifCond .ne 37, 3)) ∧ (decode cX10_tells 165 = .ok (.iload 8, 2)) ∧ (decode cX10_tells 167 = .ok (.ifCond .ne 32, 3)) ∧ (decode cX10_tells 170 = .ok (.lload 6, 2)) ∧ (decode cX10_tells 172 = .ok (.lconst 0, 1)) ∧ (decode cX10_tells 173 = .ok (.lcmp, 1)) ∧ (decode cX10_tells 174 = .ok (.ifCond .ge 7, 3)) := by decide +kernel
theorem dX10_tells_144 : decode cX10_tells 144 = .ok (.iconst 0, 1) := da9_dX10_tells_144.1
theorem dX10_tells_145 : decode cX10_tells 145 = .ok (.istore 9, 2) := da9_dX10_tells_144.2.1
theorem dX10_tells_147 : decode cX10_tells 147 = .ok (.iload 5, 2) := da9_dX10_tells_144.2.2.1
theorem dX10_tells_149 : decode cX10_tells 149 = .ok (.iload_n 1, 1) := da9_dX10_tells_144.2.2.2.1
theorem dX10_tells_150 : decode cX10_tells 150 = .ok (.if_icmp .ne 49, 3) := da9_dX10_tells_144.2.2.2.2.1
theorem dX10_tells_153 : decode cX10_tells 153 = .ok (.iload 9, 2) := da9_dX10_tells_144.2.2.2.2.2.1
theorem dX10_tells_155 : decode cX10_tells 155 = .ok (.ifCond .eq 44, 3) := da9_dX10_tells_144.2.2.2.2.2.2.1
theorem dX10_tells_158 : decode cX10_tells 158 = .ok (.aload_n 0, 1) := da9_dX10_tells_144.2.2.2.2.2.2.2.1
theorem dX10_tells_159 : decode cX10_tells 159 = .ok (.getfield 288, 3) := da9_dX10_tells_144.2.2.2.2.2.2.2.2.1
theorem dX10_tells_162 : decode cX10_tells 162 = .ok (.ifCond .ne 37, 3) := da9_dX10_tells_144.2.2.2.2.2.2.2.2.2.1
theorem dX10_tells_165 : decode cX10_tells 165 = .ok (.iload 8, 2) := da9_dX10_tells_144.2.2.2.2.2.2.2.2.2.2.1
theorem dX10_tells_167 : decode cX10_tells 167 = .ok (.ifCond .ne 32, 3) := da9_dX10_tells_144.2.2.2.2.2.2.2.2.2.2.2.1
theorem dX10_tells_170 : decode cX10_tells 170 = .ok (.lload 6, 2) := da9_dX10_tells_144.2.2.2.2.2.2.2.2.2.2.2.2.1
theorem dX10_tells_172 : decode cX10_tells 172 = .ok (.lconst 0, 1) := da9_dX10_tells_144.2.2.2.2.2.2.2.2.2.2.2.2.2.1
theorem dX10_tells_173 : decode cX10_tells 173 = .ok (.lcmp, 1) := da9_dX10_tells_144.2.2.2.2.2.2.2.2.2.2.2.2.2.2.1
theorem dX10_tells_174 : decode cX10_tells 174 = .ok (.ifCond .ge 7, 3) := da9_dX10_tells_144.2.2.2.2.2.2.2.2.2.2.2.2.2.2.2
theorem da9_dX10_tells_177 : (decode cX10_tells 177 = .ok (.lconst 0, 1)) ∧ (decode cX10_tells 178 = .ok (.goto 20, 3)) ∧ (decode cX10_tells 181 = .ok (.lload 6, 2)) ∧ (decode cX10_tells 183 = .ok (.ldc2_w 339, 3)) ∧ (decode cX10_tells 186 = .ok (.lcmp, 1)) ∧ (decode cX10_tells 187 = .ok (.ifCond .le 9, 3)) ∧ (decode cX10_tells 190 = .ok (.ldc2_w 339, 3)) ∧ (decode cX10_tells 193 = .ok (.goto 5, 3)) ∧ (decode cX10_tells 196 = .ok (.lload 6, 2)) ∧ (decode cX10_tells 198 = .ok (.lstore_n 3, 1)) ∧ (decode cX10_tells 199 = .ok (.aload_n 0, 1)) ∧ (decode cX10_tells 200 = .ok (.dup, 1)) ∧ (decode cX10_tells 201 = .ok (.getfield 278, 3)) ∧ (decode cX10_tells 204 = .ok (.iconst 1, 1)) ∧ (decode cX10_tells 205 = .ok (.iadd, 1)) ∧ (decode cX10_tells 206 = .ok (.putfield 278, 3)) := by decide +kernel
theorem dX10_tells_177 : decode cX10_tells 177 = .ok (.lconst 0, 1) := da9_dX10_tells_177.1
theorem dX10_tells_178 : decode cX10_tells 178 = .ok (.goto 20, 3) := da9_dX10_tells_177.2.1
theorem dX10_tells_181 : decode cX10_tells 181 = .ok (.lload 6, 2) := da9_dX10_tells_177.2.2.1
theorem dX10_tells_183 : decode cX10_tells 183 = .ok (.ldc2_w 339, 3) := da9_dX10_tells_177.2.2.2.1
theorem dX10_tells_186 : decode cX10_tells 186 = .ok (.lcmp, 1) := da9_dX10_tells_177.2.2.2.2.1
theorem dX10_tells_187 : decode cX10_tells 187 = .ok (.ifCond .le 9, 3) := da9_dX10_tells_177.2.2.2.2.2.1
theorem dX10_tells_190 : decode cX10_tells 190 = .ok (.ldc2_w 339, 3) := da9_dX10_tells_177.2.2.2.2.2.2.1
theorem dX10_tells_193 : decode cX10_tells 193 = .ok (.goto 5, 3) := da9_dX10_tells_177.2.2.2.2.2.2.2.1
theorem dX10_tells_196 : decode cX10_tells 196 = .ok (.lload 6, 2) := da9_dX10_tells_177.2.2.2.2.2.2.2.2.1
theorem dX10_tells_198 : decode cX10_tells 198 = .ok (.lstore_n 3, 1) := da9_dX10_tells_177.2.2.2.2.2.2.2.2.2.1
theorem dX10_tells_199 : decode cX10_tells 199 = .ok (.aload_n 0, 1) := da9_dX10_tells_177.2.2.2.2.2.2.2.2.2.2.1
theorem dX10_tells_200 : decode cX10_tells 200 = .ok (.dup, 1) := da9_dX10_tells_177.2.2.2.2.2.2.2.2.2.2.2.1
theorem dX10_tells_201 : decode cX10_tells 201 = .ok (.getfield 278, 3) := da9_dX10_tells_177.2.2.2.2.2.2.2.2.2.2.2.2.1
theorem dX10_tells_204 : decode cX10_tells 204 = .ok (.iconst 1, 1) := da9_dX10_tells_177.2.2.2.2.2.2.2.2.2.2.2.2.2.1
theorem dX10_tells_205 : decode cX10_tells 205 = .ok (.iadd, 1) := da9_dX10_tells_177.2.2.2.2.2.2.2.2.2.2.2.2.2.2.1
theorem dX10_tells_206 : decode cX10_tells 206 = .ok (.putfield 278, 3) := da9_dX10_tells_177.2.2.2.2.2.2.2.2.2.2.2.2.2.2.2
theorem da9_dX10_tells_209 : (decode cX10_tells 209 = .ok (.goto (-149), 3)) ∧ (decode cX10_tells 212 = .ok (.lload_n 3, 1)) ∧ (decode cX10_tells 213 = .ok (.l2i, 1)) ∧ (decode cX10_tells 214 = .ok (.ireturn, 1)) := by decide +kernel
theorem dX10_tells_209 : decode cX10_tells 209 = .ok (.goto (-149), 3) := da9_dX10_tells_209.1
theorem dX10_tells_212 : decode cX10_tells 212 = .ok (.lload_n 3, 1) := da9_dX10_tells_209.2.1
theorem dX10_tells_213 : decode cX10_tells 213 = .ok (.l2i, 1) := da9_dX10_tells_209.2.2.1
theorem dX10_tells_214 : decode cX10_tells 214 = .ok (.ireturn, 1) := da9_dX10_tells_209.2.2.2
set_option maxRecDepth 20000 in
theorem ggX10_paysNow_X10_tells : GoodIn wsX10_paysNow wsX10_tells := wd_c vW10_ok mvW10_62
set_option maxRecDepth 20000 in
theorem gX10_paysNow_X10_tells : GoodIn wsX10_paysNow (wsV RX10 341 RX10 yX10_tells wsX10_tells) := goodIn_app (wd_l vW10_ok _ pvW10_194) ggX10_paysNow_X10_tells
theorem da9_dX10_paysNow_0 : (decode cX10_paysNow 0 = .ok (.aload_n 0, 1)) ∧ (decode cX10_paysNow 1 = .ok (.iconst 1, 1)) ∧ (decode cX10_paysNow 2 = .ok (.aload_n 0, 1)) ∧ (decode cX10_paysNow 3 = .ok (.getfield 63, 3)) ∧ (decode cX10_paysNow 6 = .ok (.iconst 0, 1)) ∧ (decode cX10_paysNow 7 = .ok (.iaload, 1)) ∧ (decode cX10_paysNow 8 = .ok (.invokevirtual 341, 3)) ∧ (decode cX10_paysNow 11 = .ok (.ireturn, 1)) := by decide +kernel
theorem dX10_paysNow_0 : decode cX10_paysNow 0 = .ok (.aload_n 0, 1) := da9_dX10_paysNow_0.1
theorem dX10_paysNow_1 : decode cX10_paysNow 1 = .ok (.iconst 1, 1) := da9_dX10_paysNow_0.2.1
theorem dX10_paysNow_2 : decode cX10_paysNow 2 = .ok (.aload_n 0, 1) := da9_dX10_paysNow_0.2.2.1
theorem dX10_paysNow_3 : decode cX10_paysNow 3 = .ok (.getfield 63, 3) := da9_dX10_paysNow_0.2.2.2.1
theorem dX10_paysNow_6 : decode cX10_paysNow 6 = .ok (.iconst 0, 1) := da9_dX10_paysNow_0.2.2.2.2.1
theorem dX10_paysNow_7 : decode cX10_paysNow 7 = .ok (.iaload, 1) := da9_dX10_paysNow_0.2.2.2.2.2.1
theorem dX10_paysNow_8 : decode cX10_paysNow 8 = .ok (.invokevirtual 341, 3) := da9_dX10_paysNow_0.2.2.2.2.2.2.1
theorem dX10_paysNow_11 : decode cX10_paysNow 11 = .ok (.ireturn, 1) := da9_dX10_paysNow_0.2.2.2.2.2.2.2
set_option maxRecDepth 20000 in
theorem ggX10_isNow_X10_tells : GoodIn wsX10_isNow wsX10_tells := wd_c vW10_ok mvW10_62
set_option maxRecDepth 20000 in
theorem gX10_isNow_X10_tells : GoodIn wsX10_isNow (wsV RX10 341 RX10 yX10_tells wsX10_tells) := goodIn_app (wd_l vW10_ok _ pvW10_194) ggX10_isNow_X10_tells
theorem da9_dX10_isNow_0 : (decode cX10_isNow 0 = .ok (.aload_n 0, 1)) ∧ (decode cX10_isNow 1 = .ok (.iload_n 1, 1)) ∧ (decode cX10_isNow 2 = .ok (.iconst 0, 1)) ∧ (decode cX10_isNow 3 = .ok (.invokevirtual 341, 3)) ∧ (decode cX10_isNow 6 = .ok (.iconst 1, 1)) ∧ (decode cX10_isNow 7 = .ok (.if_icmp .ne 7, 3)) ∧ (decode cX10_isNow 10 = .ok (.iconst 1, 1)) ∧ (decode cX10_isNow 11 = .ok (.goto 4, 3)) ∧ (decode cX10_isNow 14 = .ok (.iconst 0, 1)) ∧ (decode cX10_isNow 15 = .ok (.ireturn, 1)) := by decide +kernel
theorem dX10_isNow_0 : decode cX10_isNow 0 = .ok (.aload_n 0, 1) := da9_dX10_isNow_0.1
theorem dX10_isNow_1 : decode cX10_isNow 1 = .ok (.iload_n 1, 1) := da9_dX10_isNow_0.2.1
theorem dX10_isNow_2 : decode cX10_isNow 2 = .ok (.iconst 0, 1) := da9_dX10_isNow_0.2.2.1
theorem dX10_isNow_3 : decode cX10_isNow 3 = .ok (.invokevirtual 341, 3) := da9_dX10_isNow_0.2.2.2.1
theorem dX10_isNow_6 : decode cX10_isNow 6 = .ok (.iconst 1, 1) := da9_dX10_isNow_0.2.2.2.2.1
theorem dX10_isNow_7 : decode cX10_isNow 7 = .ok (.if_icmp .ne 7, 3) := da9_dX10_isNow_0.2.2.2.2.2.1
theorem dX10_isNow_10 : decode cX10_isNow 10 = .ok (.iconst 1, 1) := da9_dX10_isNow_0.2.2.2.2.2.2.1
theorem dX10_isNow_11 : decode cX10_isNow 11 = .ok (.goto 4, 3) := da9_dX10_isNow_0.2.2.2.2.2.2.2.1
theorem dX10_isNow_14 : decode cX10_isNow 14 = .ok (.iconst 0, 1) := da9_dX10_isNow_0.2.2.2.2.2.2.2.2.1
theorem dX10_isNow_15 : decode cX10_isNow 15 = .ok (.ireturn, 1) := da9_dX10_isNow_0.2.2.2.2.2.2.2.2.2
set_option maxRecDepth 20000 in
theorem ggX10_tipsAt_X10_setsFloor : GoodIn wsX10_tipsAt wsX10_setsFloor := wd_c vW10_ok mvW10_49
set_option maxRecDepth 20000 in
theorem gX10_tipsAt_X10_setsFloor : GoodIn wsX10_tipsAt (wsV RX10 344 RX10 yX10_setsFloor wsX10_setsFloor) := goodIn_app (wd_l vW10_ok _ pvW10_195) ggX10_tipsAt_X10_setsFloor
set_option maxRecDepth 20000 in
theorem ggX10_tipsAt_X10_isNow : GoodIn wsX10_tipsAt wsX10_isNow := wd_c vW10_ok mvW10_58
set_option maxRecDepth 20000 in
theorem gX10_tipsAt_X10_isNow : GoodIn wsX10_tipsAt (wsV RX10 159 RX10 yX10_isNow wsX10_isNow) := goodIn_app (wd_l vW10_ok _ pvW10_154) ggX10_tipsAt_X10_isNow
theorem da9_dX10_tipsAt_0 : (decode cX10_tipsAt 0 = .ok (.aload_n 0, 1)) ∧ (decode cX10_tipsAt 1 = .ok (.iload_n 1, 1)) ∧ (decode cX10_tipsAt 2 = .ok (.invokevirtual 344, 3)) ∧ (decode cX10_tipsAt 5 = .ok (.aload_n 0, 1)) ∧ (decode cX10_tipsAt 6 = .ok (.iconst 3, 1)) ∧ (decode cX10_tipsAt 7 = .ok (.invokevirtual 159, 3)) ∧ (decode cX10_tipsAt 10 = .ok (.ireturn, 1)) := by decide +kernel
theorem dX10_tipsAt_0 : decode cX10_tipsAt 0 = .ok (.aload_n 0, 1) := da9_dX10_tipsAt_0.1
theorem dX10_tipsAt_1 : decode cX10_tipsAt 1 = .ok (.iload_n 1, 1) := da9_dX10_tipsAt_0.2.1
theorem dX10_tipsAt_2 : decode cX10_tipsAt 2 = .ok (.invokevirtual 344, 3) := da9_dX10_tipsAt_0.2.2.1
theorem dX10_tipsAt_5 : decode cX10_tipsAt 5 = .ok (.aload_n 0, 1) := da9_dX10_tipsAt_0.2.2.2.1
theorem dX10_tipsAt_6 : decode cX10_tipsAt 6 = .ok (.iconst 3, 1) := da9_dX10_tipsAt_0.2.2.2.2.1
theorem dX10_tipsAt_7 : decode cX10_tipsAt 7 = .ok (.invokevirtual 159, 3) := da9_dX10_tipsAt_0.2.2.2.2.2.1
theorem dX10_tipsAt_10 : decode cX10_tipsAt 10 = .ok (.ireturn, 1) := da9_dX10_tipsAt_0.2.2.2.2.2.2
end
