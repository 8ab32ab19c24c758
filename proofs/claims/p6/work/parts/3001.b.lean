theorem u9_wsX10_setsFloor_X10 : ∀ w ∈ u_ws RX10 TX10 56, w ∈ wsX10_setsFloor := by
  first | exact fun w h => List.mem_cons_of_mem _ (List.mem_append_right _ h) | decide +kernel
theorem f9_wsX10_setsFloor_31 : (Cond.fieldLink RX10 63 "TurnedFloorsModel" "asked" "[I") ∈ wsX10_setsFloor := by decide +kernel
theorem f9_wsX10_setsFloor_32 : (Cond.fieldLink RX10 28 "TurnedFloorsModel" "kept" "[I") ∈ wsX10_setsFloor := by decide +kernel
theorem u9_wsX10_codeAt_X10 : ∀ w ∈ u_ws RX10 TX10 56, w ∈ wsX10_codeAt := by
  first | exact fun w h => List.mem_cons_of_mem _ (List.mem_append_right _ h) | decide +kernel
theorem f9_wsX10_codeAt_34 : (Cond.fieldLink RX10 275 "TurnedFloorsModel" "goEnd" "I") ∈ wsX10_codeAt := by decide +kernel
theorem f9_wsX10_codeAt_35 : (Cond.fieldLink RX10 28 "TurnedFloorsModel" "kept" "[I") ∈ wsX10_codeAt := by decide +kernel
theorem u9_wsX10_passes0_X10 : ∀ w ∈ u_ws RX10 TX10 56, w ∈ wsX10_passes0 := by
  first | exact fun w h => List.mem_cons_of_mem _ (List.mem_append_right _ h) | decide +kernel
theorem f9_wsX10_passes0_37 : (Cond.fieldLink RX10 278 "TurnedFloorsModel" "go" "I") ∈ wsX10_passes0 := by decide +kernel
theorem u9_wsX10_lessThan_X10 : ∀ w ∈ u_ws RX10 TX10 56, w ∈ wsX10_lessThan := by
  first | exact fun w h => List.mem_cons_of_mem _ (List.mem_append_right _ h) | decide +kernel
theorem f9_wsX10_lessThan_39 : (Cond.fieldLink RX10 28 "TurnedFloorsModel" "kept" "[I") ∈ wsX10_lessThan := by decide +kernel
theorem u9_wsX10_gaps_X10 : ∀ w ∈ u_ws RX10 TX10 56, w ∈ wsX10_gaps := by
  first | exact fun w h => List.mem_cons_of_mem _ (List.mem_append_right _ h) | decide +kernel
theorem f9_wsX10_gaps_41 : (Cond.fieldLink RX10 28 "TurnedFloorsModel" "kept" "[I") ∈ wsX10_gaps := by decide +kernel
theorem u9_wsX10_orderValue_X10 : ∀ w ∈ u_ws RX10 TX10 56, w ∈ wsX10_orderValue := by
  first | exact fun w h => List.mem_cons_of_mem _ (List.mem_append_right _ h) | decide +kernel
theorem f9_wsX10_orderValue_43 : (Cond.fieldLink RX10 28 "TurnedFloorsModel" "kept" "[I") ∈ wsX10_orderValue := by decide +kernel
theorem f9_wsX10_orderValue_44 : (Cond.fieldLink RX10 314 "TurnedFloorsModel" "orderDone" "I") ∈ wsX10_orderValue := by decide +kernel
theorem f9_wsX10_orderValue_45 : (Cond.fieldLink RX10 317 "TurnedFloorsModel" "orderLatest" "I") ∈ wsX10_orderValue := by decide +kernel
theorem u9_wsX10_partOf_X10 : ∀ w ∈ u_ws RX10 TX10 56, w ∈ wsX10_partOf := by
  first | exact fun w h => List.mem_cons_of_mem _ (List.mem_append_right _ h) | decide +kernel
theorem f9_wsX10_partOf_47 : (Cond.fieldLink RX10 288 "TurnedFloorsModel" "broken" "Z") ∈ wsX10_partOf := by decide +kernel
theorem f9_wsX10_partOf_48 : (Cond.fieldLink RX10 308 "TurnedFloorsModel" "inOrders" "Z") ∈ wsX10_partOf := by decide +kernel
theorem f9_wsX10_partOf_49 : (Cond.fieldLink RX10 63 "TurnedFloorsModel" "asked" "[I") ∈ wsX10_partOf := by decide +kernel
theorem f9_wsX10_partOf_50 : (Cond.fieldLink RX10 28 "TurnedFloorsModel" "kept" "[I") ∈ wsX10_partOf := by decide +kernel
theorem f9_wsX10_partOf_51 : (Cond.fieldLink RX10 278 "TurnedFloorsModel" "go" "I") ∈ wsX10_partOf := by decide +kernel
theorem u9_wsX10_bounded_X10 : ∀ w ∈ u_ws RX10 TX10 56, w ∈ wsX10_bounded := by
  first | exact fun w h => List.mem_cons_of_mem _ (List.mem_append_right _ h) | decide +kernel
theorem f9_wsX10_bounded_53 : (Cond.fieldLink RX10 288 "TurnedFloorsModel" "broken" "Z") ∈ wsX10_bounded := by decide +kernel
theorem f9_wsX10_bounded_54 : (Cond.constantLong RX10 284 1000000000) ∈ wsX10_bounded := by decide +kernel
theorem f9_wsX10_bounded_55 : (Cond.constantLong RX10 286 (-1000000000)) ∈ wsX10_bounded := by decide +kernel
set_option maxHeartbeats 4000000 in
set_option maxRecDepth 100000 in
theorem qX10_setsFloor (l : Launch) (D : va_G) (ty : Nat → ClassId) (eo : Nat → Nat) (sz : Nat) (ad : Nat → Nat) (q : dS) (p1 : Int32) (o2 : dS) (h : zX10_setsFloor q p1 = some o2) : Met l yX10_setsFloor wsX10_setsFloor ({ frames := 2, cells := 0, slots := 0, locals := 43 } : Room) (va_Pc [.ref (ad 0), .int p1] (kz_pre D ty eo (w10 ty ad q) sz)) (va_Qv (fun (u : va_W) => w10 ty ad o2 = u) (kz_B D ty (va_A (w10 ty ad q) sz)) (va_A (w10 ty ad q) sz)) 0 0 (va_A (w10 ty ad q) sz) := by
  refine Met.ofW (cc := cX10_setsFloor) (maxL := 2) (ret := none) (by decide) rfl ?_
  intro p e s m args below meth c s₁ B hml hv
  obtain ⟨rfl, hsz, hP, hK, hD0, hN, hE⟩ := hv
  have hx := B.exec
  have hb := B.bytes
  have hr := B.returns
  have hts := atoms_spec (ws := wsX10_setsFloor) B.pre
  have hown : s.vm.findClass RX10 = some m.cls := findClass_of_methodNamed B.named
  have hlocks := B.notSynchronized
  subst hsz
  have hD := hD0.self (sz := s.heap.size)
  generalize hAe : va_A (w10 ty ad q) s.heap.size = A at hD hE ⊢
  have hA : ∀ q : Nat, s.heap.size ≤ q → A q := fun q h => by rw [← hAe]; exact Or.inr h
  clear hAe
  have hS : va_S A s.heap s.heap [] := va_S.rf
  have hl := lv_entry ([.ref (ad 0), .int p1]) (n := 2) (Nat.le_of_ble_eq_true rfl)
  rw [lg_entry_eq]
  generalize (lg_sl ([.ref (ad 0), .int p1]) ++ List.replicate (2 - (lg_sl ([.ref (ad 0), .int p1])).length) Slot.unset).toArray = ls at hl ⊢
  have hl : lv_has ls 2 [(0, .ref (ad 0)), (1, .int p1)] := hl
  have C : dc_C p s m _ meth c cX10_setsFloor none 2 RX10 wsX10_setsFloor D ty eo A := ⟨hx, hb, hr, hts, hown, hlocks, hml, hK, hN, hE, hA⟩
  unfold zX10_setsFloor at h
  refine lv_aload_n hx hb dX10_setsFloor_0 rfl (lv_at hl 0 rfl) ?_
  refine va_get (D := D) (ci := 10) (v := .ref (ad 12)) (C := RX10) (T := TX10) (N := 56) hx hb hts u9_wsX10_setsFloor_X10 hown hK hP 0 rfl rfl 26 (by decide) (hts (.fieldLink RX10 63 "TurnedFloorsModel" "asked" "[I") f9_wsX10_setsFloor_31) (fun _ h9 => h9) rfl dX10_setsFloor_1 ?_
  refine lv_iconst (v := 0) hx hb dX10_setsFloor_4 (by decide) ?_
  refine lv_iconst (v := (-1)) hx hb dX10_setsFloor_5 (by decide) ?_
  refine va_iast hx hb hK hP hD hS 12 0 rfl rfl (by simp only [vp_in]; decide) dX10_setsFloor_6 (fun H locs hp hd hs => ?_)
  obtain ⟨q1, eq1, h⟩ := dL_some h
  refine kz_re (w2 := w10 ty ad q1) hp hd hs (by rw [(by decide +kernel : Int32.toNatClampNeg 0 = 0), ← eq1]; exact w10_a12 ty ad q 0 (-1)) ?_
  clear hp hd hs hP hD hS
  intro hP hD hS
  refine lv_aload_n hx hb dX10_setsFloor_7 rfl (lv_at hl 0 rfl) ?_
  refine va_get (D := D) (ci := 10) (v := .ref (ad 12)) (C := RX10) (T := TX10) (N := 56) hx hb hts u9_wsX10_setsFloor_X10 hown hK hP 0 rfl rfl 26 (by decide) (hts (.fieldLink RX10 63 "TurnedFloorsModel" "asked" "[I") f9_wsX10_setsFloor_31) (fun _ h9 => h9) rfl dX10_setsFloor_8 ?_
  refine lv_iconst (v := 1) hx hb dX10_setsFloor_11 (by decide) ?_
  refine lv_iconst (v := (-1)) hx hb dX10_setsFloor_12 (by decide) ?_
  refine va_iast hx hb hK hP hD hS 12 0 rfl rfl (by simp only [vp_in]; decide) dX10_setsFloor_13 (fun H locs hp hd hs => ?_)
  obtain ⟨q2, eq2, h⟩ := dL_some h
  refine kz_re (w2 := w10 ty ad q2) hp hd hs (by rw [(by decide +kernel : Int32.toNatClampNeg 1 = 1), ← eq2]; exact w10_a12 ty ad q1 1 (-1)) ?_
  clear hp hd hs hP hD hS
  intro hP hD hS
  refine lv_aload_n hx hb dX10_setsFloor_14 rfl (lv_at hl 0 rfl) ?_
  refine va_get (D := D) (ci := 10) (v := .ref (ad 12)) (C := RX10) (T := TX10) (N := 56) hx hb hts u9_wsX10_setsFloor_X10 hown hK hP 0 rfl rfl 26 (by decide) (hts (.fieldLink RX10 63 "TurnedFloorsModel" "asked" "[I") f9_wsX10_setsFloor_31) (fun _ h9 => h9) rfl dX10_setsFloor_15 ?_
  refine lv_iconst (v := 2) hx hb dX10_setsFloor_18 (by decide) ?_
  refine lv_iconst (v := (-1)) hx hb dX10_setsFloor_19 (by decide) ?_
  refine va_iast hx hb hK hP hD hS 12 0 rfl rfl (by simp only [vp_in]; decide) dX10_setsFloor_20 (fun H locs hp hd hs => ?_)
  obtain ⟨q3, eq3, h⟩ := dL_some h
  refine kz_re (w2 := w10 ty ad q3) hp hd hs (by rw [(by decide +kernel : Int32.toNatClampNeg 2 = 2), ← eq3]; exact w10_a12 ty ad q2 2 (-1)) ?_
  clear hp hd hs hP hD hS
  intro hP hD hS
  refine lv_aload_n hx hb dX10_setsFloor_21 rfl (lv_at hl 0 rfl) ?_
  refine lv_aload_n hx hb dX10_setsFloor_22 rfl (lv_at hl 0 rfl) ?_
  refine va_get (D := D) (ci := 10) (v := .ref (ad 2)) (C := RX10) (T := TX10) (N := 56) hx hb hts u9_wsX10_setsFloor_X10 hown hK hP 0 rfl rfl 2 (by decide) (hts (.fieldLink RX10 28 "TurnedFloorsModel" "kept" "[I") f9_wsX10_setsFloor_32) (fun _ h9 => h9) rfl dX10_setsFloor_23 ?_
  refine lv_iconst (v := 0) hx hb dX10_setsFloor_26 (by decide) ?_
  refine lv_iload_n hx hb dX10_setsFloor_27 rfl (lv_at hl 1 rfl) ?_
  refine lv_iadd hx hb dX10_setsFloor_28 ?_
  obtain ⟨g4, h⟩ := dG_some h
  refine va_iald hx hb hK hP 2 0 rfl rfl (dg_in g4) dX10_setsFloor_29 ?_
  obtain ⟨v5, ev5, h⟩ := dL_some h
  refine kz_topi v5 ev5 ?_
  refine lv_iload_n hx hb dX10_setsFloor_30 rfl (lv_at hl 1 rfl) ?_
  refine lv_aload_n hx hb dX10_setsFloor_31 rfl (lv_at hl 0 rfl) ?_
  refine va_get (D := D) (ci := 10) (v := .ref (ad 2)) (C := RX10) (T := TX10) (N := 56) hx hb hts u9_wsX10_setsFloor_X10 hown hK hP 0 rfl rfl 2 (by decide) (hts (.fieldLink RX10 28 "TurnedFloorsModel" "kept" "[I") f9_wsX10_setsFloor_32) (fun _ h9 => h9) rfl dX10_setsFloor_32 ?_
  refine lv_bipush (v := 6) hx hb dX10_setsFloor_35 (by decide) ?_
  refine lv_iload_n hx hb dX10_setsFloor_37 rfl (lv_at hl 1 rfl) ?_
  refine lv_iadd hx hb dX10_setsFloor_38 ?_
  obtain ⟨g6, h⟩ := dG_some h
  refine va_iald hx hb hK hP 2 0 rfl rfl (dg_in g6) dX10_setsFloor_39 ?_
  obtain ⟨v7, ev7, h⟩ := dL_some h
  refine kz_topi v7 ev7 ?_
  obtain ⟨q10, h9, h⟩ := dV_some h
  refine dw_kv (va_runV (As := [.int v5, .int p1, .int v7]) (rest := []) ⟨hx, hb, hml, hown, hts⟩ (qX10_setsAsked l D ty eo _ ad q3 v5 p1 v7 q10 h9) (cwV 3 hts gX10_setsFloor_X10_setsAsked rfl rfl rfl (by decide +kernel) ⟨Nat.le_of_ble_eq_true rfl, Nat.le_of_ble_eq_true rfl⟩) (dw_preV (ci := 10) (q0 := 0) hK hN hE hP hD hS hA rfl rfl) rfl rfl hl.1 rfl (lv_room (Nat.le_of_ble_eq_true rfl)) dX10_setsFloor_40 ⟨Nat.le_of_ble_eq_true rfl, Nat.le_of_ble_eq_true rfl⟩) hD hS hA (fun u9 H locs hw hp hd hs => ?_)
  clear hP hD hS
  obtain rfl := hw
  have hP := hp; have hD := hd; have hS := hs; clear hp hd hs
  cases h
  exact kz_vret hx hb hr hlocks hP hK hD hS dX10_setsFloor_43 rfl

set_option maxHeartbeats 4000000 in
set_option maxRecDepth 100000 in
theorem WX10_codeAt_21 {p : Program} {l : Launch} {e : Env} {s : State} {m : MethodId} {args : Array Value} {below : List Frame} {meth : Method} {c : Code} {D : va_G} {ty : Nat → ClassId} {eo : Nat → Nat} {A : Nat → Prop} {ad : Nat → Nat} {o1 : Int32} {o2 : dS} (C : dc_C p s m args meth c cX10_codeAt (some .int) 2 RX10 wsX10_codeAt D ty eo A)   (q : dS) (y0 : Int32) (H : Heap) (locs : List Loc) (ls : Array Slot) (h : zX10_codeAt_21  q y0 = some (o1, o2)) (hP : va_P D vwCl (w10 ty ad q) H) (hD : va_D A (w10 ty ad q)) (hS : va_S A s.heap H locs) (hl : lv_has ls 2 []) : W p l e ({ frames := 0, cells := 0, slots := 0, locals := 0 } : Room) s m args below meth c H locs 0 0 (MQ below (va_Qi (fun (r : Int32) (u : va_W) => o1 = r ∧ w10 ty ad o2 = u) (kz_B D ty A) A) args s 0 0 A) (F0 m 21 ls [.int y0]) := by
  have C0 := C
  obtain ⟨hx, hb, hr, hts, hown, hlocks, hml, hK, hN, hE, hA⟩ := C
  unfold zX10_codeAt_21 at h
  cases h
  exact kz_iret hx hb hr hlocks hP hK hD hS dX10_codeAt_21 ⟨rfl, rfl⟩
set_option maxHeartbeats 4000000 in
set_option maxRecDepth 100000 in
theorem qX10_codeAt (l : Launch) (D : va_G) (ty : Nat → ClassId) (eo : Nat → Nat) (sz : Nat) (ad : Nat → Nat) (q : dS) (p1 : Int32) (o1 : Int32) (o2 : dS) (h : zX10_codeAt q p1 = some (o1, o2)) : Met l yX10_codeAt wsX10_codeAt ({ frames := 0, cells := 0, slots := 0, locals := 0 } : Room) (va_Pc [.ref (ad 0), .int p1] (kz_pre D ty eo (w10 ty ad q) sz)) (va_Qi (fun (r : Int32) (u : va_W) => o1 = r ∧ w10 ty ad o2 = u) (kz_B D ty (va_A (w10 ty ad q) sz)) (va_A (w10 ty ad q) sz)) 0 0 (va_A (w10 ty ad q) sz) := by
  refine Met.ofW (cc := cX10_codeAt) (maxL := 2) (ret := (some .int)) (by decide) rfl ?_
  intro p e s m args below meth c s₁ B hml hv
  obtain ⟨rfl, hsz, hP, hK, hD0, hN, hE⟩ := hv
  have hx := B.exec
  have hb := B.bytes
  have hr := B.returns
  have hts := atoms_spec (ws := wsX10_codeAt) B.pre
  have hown : s.vm.findClass RX10 = some m.cls := findClass_of_methodNamed B.named
  have hlocks := B.notSynchronized
  subst hsz
  have hD := hD0.self (sz := s.heap.size)
  generalize hAe : va_A (w10 ty ad q) s.heap.size = A at hD hE ⊢
  have hA : ∀ q : Nat, s.heap.size ≤ q → A q := fun q h => by rw [← hAe]; exact Or.inr h
  clear hAe
  have hS : va_S A s.heap s.heap [] := va_S.rf
  have hl := lv_entry ([.ref (ad 0), .int p1]) (n := 2) (Nat.le_of_ble_eq_true rfl)
  rw [lg_entry_eq]
  generalize (lg_sl ([.ref (ad 0), .int p1]) ++ List.replicate (2 - (lg_sl ([.ref (ad 0), .int p1])).length) Slot.unset).toArray = ls at hl ⊢
  have hl : lv_has ls 2 [(0, .ref (ad 0)), (1, .int p1)] := hl
  have C : dc_C p s m _ meth c cX10_codeAt (some .int) 2 RX10 wsX10_codeAt D ty eo A := ⟨hx, hb, hr, hts, hown, hlocks, hml, hK, hN, hE, hA⟩
  unfold zX10_codeAt at h
  refine lv_iload_n hx hb dX10_codeAt_0 rfl (lv_at hl 1 rfl) ?_
  refine lv_aload_n hx hb dX10_codeAt_1 rfl (lv_at hl 0 rfl) ?_
  refine va_get (D := D) (ci := 10) (v := .int (q.1 0 23)) (C := RX10) (T := TX10) (N := 56) hx hb hts u9_wsX10_codeAt_X10 hown hK hP 0 rfl rfl 23 (by decide) (hts (.fieldLink RX10 275 "TurnedFloorsModel" "goEnd" "I") f9_wsX10_codeAt_34) (fun _ h9 => h9) rfl dX10_codeAt_2 ?_
  refine lv_icmp_ge (tgt := 20) hx hb dX10_codeAt_5 (by decide) (fun c9 => ?_) (fun c9 => ?_)
  · rw [if_pos c9] at h
    refine lv_iconst (v := 0) hx hb dX10_codeAt_20 (by decide) ?_
    exact WX10_codeAt_21 C  _ _ _ _ _ h hP hD hS (lv_sub hl [] rfl)
  · rw [if_neg c9] at h
    refine lv_aload_n hx hb dX10_codeAt_8 rfl (lv_at hl 0 rfl) ?_
    refine va_get (D := D) (ci := 10) (v := .ref (ad 2)) (C := RX10) (T := TX10) (N := 56) hx hb hts u9_wsX10_codeAt_X10 hown hK hP 0 rfl rfl 2 (by decide) (hts (.fieldLink RX10 28 "TurnedFloorsModel" "kept" "[I") f9_wsX10_codeAt_35) (fun _ h9 => h9) rfl dX10_codeAt_9 ?_
    refine lv_bipush (v := 40) hx hb dX10_codeAt_12 (by decide) ?_
    refine lv_iload_n hx hb dX10_codeAt_14 rfl (lv_at hl 1 rfl) ?_
    refine lv_iadd hx hb dX10_codeAt_15 ?_
    obtain ⟨g1, h⟩ := dG_some h
    refine va_iald hx hb hK hP 2 0 rfl rfl (dg_in g1) dX10_codeAt_16 ?_
    obtain ⟨v2, ev2, h⟩ := dL_some h
    refine kz_topi v2 ev2 ?_
    refine lv_goto (tgt := 21) hx hb dX10_codeAt_17 (by decide) ?_
    exact WX10_codeAt_21 C  _ _ _ _ _ h hP hD hS (lv_sub hl [] rfl)

set_option maxHeartbeats 4000000 in
set_option maxRecDepth 100000 in
theorem qX10_sign (l : Launch) (D : va_G) (ty : Nat → ClassId) (eo : Nat → Nat) (sz : Nat) (p1 : Int32) (o1 : Int32) (h : zX10_sign p1 = some o1) : Met l yX10_sign wsX10_sign ({ frames := 0, cells := 0, slots := 0, locals := 0 } : Room) (va_Pc [.int p1] (kz_pre D ty eo (([] : va_W)) sz)) (va_Qi (fun (r : Int32) (u : va_W) => o1 = r ∧ ([] : va_W) = u) (kz_B D ty (va_A (([] : va_W)) sz)) (va_A (([] : va_W)) sz)) 0 0 (va_A (([] : va_W)) sz) := by
  refine Met.ofW (cc := cX10_sign) (maxL := 1) (ret := (some .int)) (by decide) rfl ?_
  intro p e s m args below meth c s₁ B hml hv
  obtain ⟨rfl, hsz, hP, hK, hD0, hN, hE⟩ := hv
  have hx := B.exec
  have hb := B.bytes
  have hr := B.returns
  have hts := atoms_spec (ws := wsX10_sign) B.pre
  have hown : s.vm.findClass RX10 = some m.cls := findClass_of_methodNamed B.named
  have hlocks := B.notSynchronized
  subst hsz
  have hD := hD0.self (sz := s.heap.size)
  generalize hAe : va_A (([] : va_W)) s.heap.size = A at hD hE ⊢
  have hA : ∀ q : Nat, s.heap.size ≤ q → A q := fun q h => by rw [← hAe]; exact Or.inr h
  clear hAe
  have hS : va_S A s.heap s.heap [] := va_S.rf
  have hl := lv_entry ([.int p1]) (n := 1) (Nat.le_of_ble_eq_true rfl)
  rw [lg_entry_eq]
  generalize (lg_sl ([.int p1]) ++ List.replicate (1 - (lg_sl ([.int p1])).length) Slot.unset).toArray = ls at hl ⊢
  have hl : lv_has ls 1 [(0, .int p1)] := hl
  have C : dc_C p s m _ meth c cX10_sign (some .int) 1 RX10 wsX10_sign D ty eo A := ⟨hx, hb, hr, hts, hown, hlocks, hml, hK, hN, hE, hA⟩
  unfold zX10_sign at h
  refine lv_bipush (v := 100) hx hb dX10_sign_0 (by decide) ?_
  refine lv_iload_n hx hb dX10_sign_2 rfl (lv_at hl 0 rfl) ?_
  refine lv_iadd hx hb dX10_sign_3 ?_
  cases h
  exact kz_iret hx hb hr hlocks hP hK hD hS dX10_sign_4 ⟨rfl, rfl⟩

set_option maxHeartbeats 4000000 in
set_option maxRecDepth 100000 in
theorem WX10_passes0_32 {p : Program} {l : Launch} {e : Env} {s : State} {m : MethodId} {args : Array Value} {below : List Frame} {meth : Method} {c : Code} {D : va_G} {ty : Nat → ClassId} {eo : Nat → Nat} {A : Nat → Prop} {ad : Nat → Nat} {o1 : Int32} {o2 : dS} (C : dc_C p s m args meth c cX10_passes0 (some .boolean) 3 RX10 wsX10_passes0 D ty eo A)   (q : dS) (x2 : Int32) (H : Heap) (locs : List Loc) (ls : Array Slot) (h : zX10_passes0_32  q x2 = some (o1, o2)) (hP : va_P D vwCl (w10 ty ad q) H) (hD : va_D A (w10 ty ad q)) (hS : va_S A s.heap H locs) (hl : lv_has ls 3 [(2, .int x2)]) : W p l e ({ frames := 1, cells := 0, slots := 0, locals := 21 } : Room) s m args below meth c H locs 0 0 (MQ below (va_Qi (fun (r : Int32) (u : va_W) => o1 = r ∧ w10 ty ad o2 = u) (kz_B D ty A) A) args s 0 0 A) (F0 m 32 ls []) := by
  have C0 := C
  obtain ⟨hx, hb, hr, hts, hown, hlocks, hml, hK, hN, hE, hA⟩ := C
  unfold zX10_passes0_32 at h
  refine lv_iload_n hx hb dX10_passes0_32 rfl (lv_at hl 0 rfl) ?_
  obtain ⟨g1, h⟩ := dG_some h
  cases h
  exact kz_zret hx hb hr hlocks (dbl_nar g1) hP hK hD hS dX10_passes0_33 ⟨rfl, rfl⟩
set_option maxHeartbeats 4000000 in
set_option maxRecDepth 100000 in
theorem WX10_passes0_17 {p : Program} {l : Launch} {e : Env} {s : State} {m : MethodId} {args : Array Value} {below : List Frame} {meth : Method} {c : Code} {D : va_G} {ty : Nat → ClassId} {eo : Nat → Nat} {A : Nat → Prop} {ad : Nat → Nat} {o1 : Int32} {o2 : dS} (C : dc_C p s m args meth c cX10_passes0 (some .boolean) 3 RX10 wsX10_passes0 D ty eo A)   (q : dS) (y0 : Int32) (H : Heap) (locs : List Loc) (ls : Array Slot) (h : zX10_passes0_17  q y0 = some (o1, o2)) (hP : va_P D vwCl (w10 ty ad q) H) (hD : va_D A (w10 ty ad q)) (hS : va_S A s.heap H locs) (hl : lv_has ls 3 [(0, .ref (ad 0))]) : W p l e ({ frames := 1, cells := 0, slots := 0, locals := 21 } : Room) s m args below meth c H locs 0 0 (MQ below (va_Qi (fun (r : Int32) (u : va_W) => o1 = r ∧ w10 ty ad o2 = u) (kz_B D ty A) A) args s 0 0 A) (F0 m 17 ls [.int y0]) := by
  have C0 := C
  obtain ⟨hx, hb, hr, hts, hown, hlocks, hml, hK, hN, hE, hA⟩ := C
  unfold zX10_passes0_17 at h
  refine lv_istore_n (lv' := [(2, .int y0), (0, .ref (ad 0))]) hx hb dX10_passes0_17 rfl hl (by decide) rfl (fun ls hl => ?_)
  refine lv_iload_n hx hb dX10_passes0_18 rfl (lv_at hl 0 rfl) ?_
  refine lv_if_eq (tgt := 32) hx hb dX10_passes0_19 (by decide) (fun c9 => ?_) (fun c9 => ?_)
  · rw [if_pos c9] at h
    exact WX10_passes0_32 C0  _ _ _ _ _ h hP hD hS (lv_sub hl [0] rfl)
  · rw [if_neg c9] at h
    refine lv_aload_n hx hb dX10_passes0_22 rfl (lv_at hl 1 rfl) ?_
    refine lv_dup hx hb dX10_passes0_23 rfl ?_
    refine va_get (D := D) (ci := 10) (v := .int (q.1 0 22)) (C := RX10) (T := TX10) (N := 56) hx hb hts u9_wsX10_passes0_X10 hown hK hP 0 rfl rfl 22 (by decide) (hts (.fieldLink RX10 278 "TurnedFloorsModel" "go" "I") f9_wsX10_passes0_37) (fun _ h9 => h9) rfl dX10_passes0_24 ?_
    refine lv_iconst (v := 1) hx hb dX10_passes0_27 (by decide) ?_
    refine lv_iadd hx hb dX10_passes0_28 ?_
    refine va_put (D := D) (ci := 10) (v := .int ((q.1 0 22) + 1 : Int32)) (ty := .int) (C := RX10) (T := TX10) (N := 56) hx hb hts u9_wsX10_passes0_X10 tyX10 tyX10_ok nmX10 hown hK hP hD hS 0 rfl rfl 22 (by decide) (hts (.fieldLink RX10 278 "TurnedFloorsModel" "go" "I") f9_wsX10_passes0_37) (fun _ h9 => h9) rfl (by decide +kernel) rfl rfl (Nat.le_of_ble_eq_true rfl) dX10_passes0_29 (fun H locs hp hd hs => ?_)
    obtain ⟨q1, eq1, h⟩ := dL_some h
    refine kz_re (w2 := w10 ty ad q1) hp hd hs (by rw [← eq1]; exact w10_f22 ty ad q ((q.1 0 22) + 1 : Int32)) ?_
    clear hp hd hs hP hD hS
    intro hP hD hS
    exact WX10_passes0_32 C0  _ _ _ _ _ h hP hD hS (lv_sub hl [0] rfl)
set_option maxHeartbeats 4000000 in
set_option maxRecDepth 100000 in
theorem qX10_passes0 (l : Launch) (D : va_G) (ty : Nat → ClassId) (eo : Nat → Nat) (sz : Nat) (ad : Nat → Nat) (q : dS) (p1 : Int32) (o1 : Int32) (o2 : dS) (h : zX10_passes0 q p1 = some (o1, o2)) : Met l yX10_passes0 wsX10_passes0 ({ frames := 1, cells := 0, slots := 0, locals := 21 } : Room) (va_Pc [.ref (ad 0), .int p1] (kz_pre D ty eo (w10 ty ad q) sz)) (va_Qi (fun (r : Int32) (u : va_W) => o1 = r ∧ w10 ty ad o2 = u) (kz_B D ty (va_A (w10 ty ad q) sz)) (va_A (w10 ty ad q) sz)) 0 0 (va_A (w10 ty ad q) sz) := by
  refine Met.ofW (cc := cX10_passes0) (maxL := 3) (ret := (some .boolean)) (by decide) rfl ?_
  intro p e s m args below meth c s₁ B hml hv
  obtain ⟨rfl, hsz, hP, hK, hD0, hN, hE⟩ := hv
  have hx := B.exec
  have hb := B.bytes
  have hr := B.returns
  have hts := atoms_spec (ws := wsX10_passes0) B.pre
  have hown : s.vm.findClass RX10 = some m.cls := findClass_of_methodNamed B.named
  have hlocks := B.notSynchronized
  subst hsz
  have hD := hD0.self (sz := s.heap.size)
  generalize hAe : va_A (w10 ty ad q) s.heap.size = A at hD hE ⊢
  have hA : ∀ q : Nat, s.heap.size ≤ q → A q := fun q h => by rw [← hAe]; exact Or.inr h
  clear hAe
  have hS : va_S A s.heap s.heap [] := va_S.rf
  have hl := lv_entry ([.ref (ad 0), .int p1]) (n := 3) (Nat.le_of_ble_eq_true rfl)
  rw [lg_entry_eq]
  generalize (lg_sl ([.ref (ad 0), .int p1]) ++ List.replicate (3 - (lg_sl ([.ref (ad 0), .int p1])).length) Slot.unset).toArray = ls at hl ⊢
  have hl : lv_has ls 3 [(0, .ref (ad 0)), (1, .int p1)] := hl
  have C : dc_C p s m _ meth c cX10_passes0 (some .boolean) 3 RX10 wsX10_passes0 D ty eo A := ⟨hx, hb, hr, hts, hown, hlocks, hml, hK, hN, hE, hA⟩
  unfold zX10_passes0 at h
  refine lv_aload_n hx hb dX10_passes0_0 rfl (lv_at hl 0 rfl) ?_
  refine lv_aload_n hx hb dX10_passes0_1 rfl (lv_at hl 0 rfl) ?_
  refine va_get (D := D) (ci := 10) (v := .int (q.1 0 22)) (C := RX10) (T := TX10) (N := 56) hx hb hts u9_wsX10_passes0_X10 hown hK hP 0 rfl rfl 22 (by decide) (hts (.fieldLink RX10 278 "TurnedFloorsModel" "go" "I") f9_wsX10_passes0_37) (fun _ h9 => h9) rfl dX10_passes0_2 ?_
  obtain ⟨r1, q3, h2, h⟩ := dB_some h
  refine dw_ki (va_runV (As := [.int (q.1 0 22)]) (rest := []) ⟨hx, hb, hml, hown, hts⟩ (qX10_codeAt l D ty eo _ ad q (q.1 0 22) r1 q3 h2) (cwV 1 hts gX10_passes0_X10_codeAt rfl rfl rfl (by decide +kernel) ⟨Nat.le_of_ble_eq_true rfl, Nat.le_of_ble_eq_true rfl⟩) (dw_preV (ci := 10) (q0 := 0) hK hN hE hP hD hS hA rfl rfl) rfl rfl hl.1 rfl (lv_room (Nat.le_of_ble_eq_true rfl)) dX10_passes0_5 ⟨Nat.le_of_ble_eq_true rfl, Nat.le_of_ble_eq_true rfl⟩) hD hS hA (fun r9 u9 H locs hw hp hd hs => ?_)
  clear hP hD hS
  obtain ⟨rfl, rfl⟩ := hw
  have hP := hp; have hD := hd; have hS := hs; clear hp hd hs
  refine lv_iload_n hx hb dX10_passes0_8 rfl (lv_at hl 1 rfl) ?_
  refine lv_icmp_ne (tgt := 16) hx hb dX10_passes0_9 (by decide) (fun c9 => ?_) (fun c9 => ?_)
  · rw [if_neg c9] at h
    refine lv_iconst (v := 0) hx hb dX10_passes0_16 (by decide) ?_
    exact WX10_passes0_17 C  _ _ _ _ _ h hP hD hS (lv_sub hl [0] rfl)
  · rw [if_pos c9] at h
    refine lv_iconst (v := 1) hx hb dX10_passes0_12 (by decide) ?_
    refine lv_goto (tgt := 17) hx hb dX10_passes0_13 (by decide) ?_
    exact WX10_passes0_17 C  _ _ _ _ _ h hP hD hS (lv_sub hl [0] rfl)

set_option maxHeartbeats 4000000 in
set_option maxRecDepth 100000 in
theorem WX10_lessThan_30 {p : Program} {l : Launch} {e : Env} {s : State} {m : MethodId} {args : Array Value} {below : List Frame} {meth : Method} {c : Code} {D : va_G} {ty : Nat → ClassId} {eo : Nat → Nat} {A : Nat → Prop} {ad : Nat → Nat} {o1 : Int32} {o2 : dS} (C : dc_C p s m args meth c cX10_lessThan (some .int) 4 RX10 wsX10_lessThan D ty eo A) {k4 : dS → Int32 → Int32 → Int32 → Option (Int32 × dS)} (hk4 : ∀ (q : dS) (x1 : Int32) (x2 : Int32) (x3 : Int32) (H : Heap) (locs : List Loc) (ls : Array Slot), k4 q x1 x2 x3 = some (o1, o2) → va_P D vwCl (w10 ty ad q) H → va_D A (w10 ty ad q) → va_S A s.heap H locs → lv_has ls 4 [(0, .ref (ad 0)), (1, .int x1), (2, .int x2), (3, .int x3)] → W p l e ({ frames := 1, cells := 0, slots := 0, locals := 20 } : Room) s m args below meth c H locs 0 0 (MQ below (va_Qi (fun (r : Int32) (u : va_W) => o1 = r ∧ w10 ty ad o2 = u) (kz_B D ty A) A) args s 0 0 A) (F0 m 4 ls [])) (q : dS) (x1 : Int32) (x3 : Int32) (y0 : Int32) (y1 : Int32) (H : Heap) (locs : List Loc) (ls : Array Slot) (h : zX10_lessThan_30 k4 q x1 x3 y0 y1 = some (o1, o2)) (hP : va_P D vwCl (w10 ty ad q) H) (hD : va_D A (w10 ty ad q)) (hS : va_S A s.heap H locs) (hl : lv_has ls 4 [(0, .ref (ad 0)), (1, .int x1), (3, .int x3)]) : W p l e ({ frames := 1, cells := 0, slots := 0, locals := 20 } : Room) s m args below meth c H locs 0 0 (MQ below (va_Qi (fun (r : Int32) (u : va_W) => o1 = r ∧ w10 ty ad o2 = u) (kz_B D ty A) A) args s 0 0 A) (F0 m 30 ls [.int y0, .int y1]) := by
  have C0 := C
  obtain ⟨hx, hb, hr, hts, hown, hlocks, hml, hK, hN, hE, hA⟩ := C
  unfold zX10_lessThan_30 at h
  refine lv_iadd hx hb dX10_lessThan_30 ?_
  refine lv_istore_n (lv' := [(2, .int (y1 + y0)), (0, .ref (ad 0)), (1, .int x1), (3, .int x3)]) hx hb dX10_lessThan_31 rfl hl (by decide) rfl (fun ls hl => ?_)
  refine lv_iinc (v := x3 + 1) (lv' := [(3, .int (x3 + 1)), (2, .int (y1 + y0)), (0, .ref (ad 0)), (1, .int x1)]) hx hb dX10_lessThan_32 hl (k := 3) rfl rfl (by decide) rfl (fun ls hl => ?_)
  refine lv_goto (tgt := 4) hx hb dX10_lessThan_35 (by decide) ?_
  exact hk4 _ _ _ _ _ _ _ h hP hD hS (lv_sub hl [2, 3, 1, 0] rfl)
set_option maxHeartbeats 4000000 in
set_option maxRecDepth 100000 in
theorem WX10_lessThan_4b {p : Program} {l : Launch} {e : Env} {s : State} {m : MethodId} {args : Array Value} {below : List Frame} {meth : Method} {c : Code} {D : va_G} {ty : Nat → ClassId} {eo : Nat → Nat} {A : Nat → Prop} {ad : Nat → Nat} {o1 : Int32} {o2 : dS} (C : dc_C p s m args meth c cX10_lessThan (some .int) 4 RX10 wsX10_lessThan D ty eo A) {k4 : dS → Int32 → Int32 → Int32 → Option (Int32 × dS)} (hk4 : ∀ (q : dS) (x1 : Int32) (x2 : Int32) (x3 : Int32) (H : Heap) (locs : List Loc) (ls : Array Slot), k4 q x1 x2 x3 = some (o1, o2) → va_P D vwCl (w10 ty ad q) H → va_D A (w10 ty ad q) → va_S A s.heap H locs → lv_has ls 4 [(0, .ref (ad 0)), (1, .int x1), (2, .int x2), (3, .int x3)] → W p l e ({ frames := 1, cells := 0, slots := 0, locals := 20 } : Room) s m args below meth c H locs 0 0 (MQ below (va_Qi (fun (r : Int32) (u : va_W) => o1 = r ∧ w10 ty ad o2 = u) (kz_B D ty A) A) args s 0 0 A) (F0 m 4 ls [])) (q : dS) (x1 : Int32) (x2 : Int32) (x3 : Int32) (H : Heap) (locs : List Loc) (ls : Array Slot) (h : zX10_lessThan_4b k4 q x1 x2 x3 = some (o1, o2)) (hP : va_P D vwCl (w10 ty ad q) H) (hD : va_D A (w10 ty ad q)) (hS : va_S A s.heap H locs) (hl : lv_has ls 4 [(0, .ref (ad 0)), (1, .int x1), (2, .int x2), (3, .int x3)]) : W p l e ({ frames := 1, cells := 0, slots := 0, locals := 20 } : Room) s m args below meth c H locs 0 0 (MQ below (va_Qi (fun (r : Int32) (u : va_W) => o1 = r ∧ w10 ty ad o2 = u) (kz_B D ty A) A) args s 0 0 A) (F0 m 4 ls []) := by
  have C0 := C
  obtain ⟨hx, hb, hr, hts, hown, hlocks, hml, hK, hN, hE, hA⟩ := C
  unfold zX10_lessThan_4b at h
  refine lv_iload_n hx hb dX10_lessThan_4 rfl (lv_at hl 3 rfl) ?_
  refine lv_aload_n hx hb dX10_lessThan_5 rfl (lv_at hl 0 rfl) ?_
  obtain ⟨r1, q3, h2, h⟩ := dB_some h
  refine dw_ki (va_runV (As := []) (rest := [.int x3]) ⟨hx, hb, hml, hown, hts⟩ (qX10_size l D ty eo _ ad q  r1 q3 h2) (cwV 0 hts gX10_lessThan_X10_size rfl rfl rfl (by decide +kernel) ⟨Nat.le_of_ble_eq_true rfl, Nat.le_of_ble_eq_true rfl⟩) (dw_preV (ci := 10) (q0 := 0) hK hN hE hP hD hS hA rfl rfl) rfl rfl hl.1 rfl (lv_room (Nat.le_of_ble_eq_true rfl)) dX10_lessThan_6 ⟨Nat.le_of_ble_eq_true rfl, Nat.le_of_ble_eq_true rfl⟩) hD hS hA (fun r9 u9 H locs hw hp hd hs => ?_)
  clear hP hD hS
  obtain ⟨rfl, rfl⟩ := hw
  have hP := hp; have hD := hd; have hS := hs; clear hp hd hs
  refine lv_icmp_ge (tgt := 38) hx hb dX10_lessThan_9 (by decide) (fun c9 => ?_) (fun c9 => ?_)
  · rw [if_pos c9] at h
    refine lv_iload_n hx hb dX10_lessThan_38 rfl (lv_at hl 2 rfl) ?_
    cases h
    exact kz_iret hx hb hr hlocks hP hK hD hS dX10_lessThan_39 ⟨rfl, rfl⟩
  · rw [if_neg c9] at h
    refine lv_iload_n hx hb dX10_lessThan_12 rfl (lv_at hl 2 rfl) ?_
    refine lv_aload_n hx hb dX10_lessThan_13 rfl (lv_at hl 0 rfl) ?_
    refine va_get (D := D) (ci := 10) (v := .ref (ad 2)) (C := RX10) (T := TX10) (N := 56) hx hb hts u9_wsX10_lessThan_X10 hown hK hP 0 rfl rfl 2 (by decide) (hts (.fieldLink RX10 28 "TurnedFloorsModel" "kept" "[I") f9_wsX10_lessThan_39) (fun _ h9 => h9) rfl dX10_lessThan_14 ?_
    refine lv_iconst (v := 0) hx hb dX10_lessThan_17 (by decide) ?_
    refine lv_iload_n hx hb dX10_lessThan_18 rfl (lv_at hl 3 rfl) ?_
    refine lv_iadd hx hb dX10_lessThan_19 ?_
    obtain ⟨g4, h⟩ := dG_some h
    refine va_iald hx hb hK hP 2 0 rfl rfl (dg_in g4) dX10_lessThan_20 ?_
    obtain ⟨v5, ev5, h⟩ := dL_some h
    refine kz_topi v5 ev5 ?_
    refine lv_iload_n hx hb dX10_lessThan_21 rfl (lv_at hl 1 rfl) ?_
    refine lv_icmp_ge (tgt := 29) hx hb dX10_lessThan_22 (by decide) (fun c9 => ?_) (fun c9 => ?_)
    · rw [if_pos c9] at h
      refine lv_iconst (v := 0) hx hb dX10_lessThan_29 (by decide) ?_
      exact WX10_lessThan_30 C0 hk4 _ _ _ _ _ _ _ _ h hP hD hS (lv_sub hl [0, 1, 3] rfl)
    · rw [if_neg c9] at h
      refine lv_iconst (v := 1) hx hb dX10_lessThan_25 (by decide) ?_
      refine lv_goto (tgt := 30) hx hb dX10_lessThan_26 (by decide) ?_
      exact WX10_lessThan_30 C0 hk4 _ _ _ _ _ _ _ _ h hP hD hS (lv_sub hl [0, 1, 3] rfl)
set_option maxHeartbeats 4000000 in
set_option maxRecDepth 100000 in
theorem WX10_lessThan_4 {p : Program} {l : Launch} {e : Env} {s : State} {m : MethodId} {args : Array Value} {below : List Frame} {meth : Method} {c : Code} {D : va_G} {ty : Nat → ClassId} {eo : Nat → Nat} {A : Nat → Prop} {ad : Nat → Nat} {o1 : Int32} {o2 : dS} (C : dc_C p s m args meth c cX10_lessThan (some .int) 4 RX10 wsX10_lessThan D ty eo A)   (n : Nat) (q : dS) (x1 : Int32) (x2 : Int32) (x3 : Int32) (H : Heap) (locs : List Loc) (ls : Array Slot) (h : zX10_lessThan_4  n q x1 x2 x3 = some (o1, o2)) (hP : va_P D vwCl (w10 ty ad q) H) (hD : va_D A (w10 ty ad q)) (hS : va_S A s.heap H locs) (hl : lv_has ls 4 [(0, .ref (ad 0)), (1, .int x1), (2, .int x2), (3, .int x3)]) : W p l e ({ frames := 1, cells := 0, slots := 0, locals := 20 } : Room) s m args below meth c H locs 0 0 (MQ below (va_Qi (fun (r : Int32) (u : va_W) => o1 = r ∧ w10 ty ad o2 = u) (kz_B D ty A) A) args s 0 0 A) (F0 m 4 ls []) := by
  exact dFix_W (F := fun k (a : dS × Int32 × Int32 × Int32) => zX10_lessThan_4b  (fun q x1 x2 x3 => k (q, x1, x2, x3)) a.1 a.2.1 a.2.2.1 a.2.2.2) (o := (o1, o2)) (P := fun (a : dS × Int32 × Int32 × Int32) H locs ls => va_P D vwCl (w10 ty ad a.1) H ∧ va_D A (w10 ty ad a.1) ∧ va_S A s.heap H locs ∧ lv_has ls 4 [(0, .ref (ad 0)), (1, .int a.2.1), (2, .int a.2.2.1), (3, .int a.2.2.2)]) (G := fun H locs ls => W p l e ({ frames := 1, cells := 0, slots := 0, locals := 20 } : Room) s m args below meth c H locs 0 0 (MQ below (va_Qi (fun (r : Int32) (u : va_W) => o1 = r ∧ w10 ty ad o2 = u) (kz_B D ty A) A) args s 0 0 A) (F0 m 4 ls []))
    (fun k hk a H locs ls h hp => WX10_lessThan_4b C  (fun q x1 x2 x3 H locs ls h h1 h2 h3 h4 => hk (q, x1, x2, x3) H locs ls h ⟨h1, h2, h3, h4⟩) a.1 a.2.1 a.2.2.1 a.2.2.2 H locs ls h hp.1 hp.2.1 hp.2.2.1 hp.2.2.2) n (q, x1, x2, x3) H locs ls h ⟨hP, hD, hS, hl⟩
set_option maxHeartbeats 4000000 in
set_option maxRecDepth 100000 in
theorem qX10_lessThan (l : Launch) (D : va_G) (ty : Nat → ClassId) (eo : Nat → Nat) (sz : Nat) (ad : Nat → Nat) (q : dS) (p1 : Int32) (o1 : Int32) (o2 : dS) (h : zX10_lessThan q p1 = some (o1, o2)) : Met l yX10_lessThan wsX10_lessThan ({ frames := 1, cells := 0, slots := 0, locals := 20 } : Room) (va_Pc [.ref (ad 0), .int p1] (kz_pre D ty eo (w10 ty ad q) sz)) (va_Qi (fun (r : Int32) (u : va_W) => o1 = r ∧ w10 ty ad o2 = u) (kz_B D ty (va_A (w10 ty ad q) sz)) (va_A (w10 ty ad q) sz)) 0 0 (va_A (w10 ty ad q) sz) := by
  refine Met.ofW (cc := cX10_lessThan) (maxL := 4) (ret := (some .int)) (by decide) rfl ?_
  intro p e s m args below meth c s₁ B hml hv
  obtain ⟨rfl, hsz, hP, hK, hD0, hN, hE⟩ := hv
  have hx := B.exec
  have hb := B.bytes
  have hr := B.returns
  have hts := atoms_spec (ws := wsX10_lessThan) B.pre
  have hown : s.vm.findClass RX10 = some m.cls := findClass_of_methodNamed B.named
  have hlocks := B.notSynchronized
  subst hsz
  have hD := hD0.self (sz := s.heap.size)
  generalize hAe : va_A (w10 ty ad q) s.heap.size = A at hD hE ⊢
  have hA : ∀ q : Nat, s.heap.size ≤ q → A q := fun q h => by rw [← hAe]; exact Or.inr h
  clear hAe
  have hS : va_S A s.heap s.heap [] := va_S.rf
  have hl := lv_entry ([.ref (ad 0), .int p1]) (n := 4) (Nat.le_of_ble_eq_true rfl)
  rw [lg_entry_eq]
  generalize (lg_sl ([.ref (ad 0), .int p1]) ++ List.replicate (4 - (lg_sl ([.ref (ad 0), .int p1])).length) Slot.unset).toArray = ls at hl ⊢
  have hl : lv_has ls 4 [(0, .ref (ad 0)), (1, .int p1)] := hl
  have C : dc_C p s m _ meth c cX10_lessThan (some .int) 4 RX10 wsX10_lessThan D ty eo A := ⟨hx, hb, hr, hts, hown, hlocks, hml, hK, hN, hE, hA⟩
  unfold zX10_lessThan at h
  refine lv_iconst (v := 0) hx hb dX10_lessThan_0 (by decide) ?_
  refine lv_istore_n (lv' := [(2, .int 0), (0, .ref (ad 0)), (1, .int p1)]) hx hb dX10_lessThan_1 rfl hl (by decide) rfl (fun ls hl => ?_)
  refine lv_iconst (v := 0) hx hb dX10_lessThan_2 (by decide) ?_
  refine lv_istore_n (lv' := [(3, .int 0), (2, .int 0), (0, .ref (ad 0)), (1, .int p1)]) hx hb dX10_lessThan_3 rfl hl (by decide) rfl (fun ls hl => ?_)
  exact WX10_lessThan_4 C  _ _ _ _ _ _ _ _ h hP hD hS (lv_sub hl [2, 3, 1, 0] rfl)

set_option maxHeartbeats 4000000 in
set_option maxRecDepth 100000 in
theorem WX10_gaps_95 {p : Program} {l : Launch} {e : Env} {s : State} {m : MethodId} {args : Array Value} {below : List Frame} {meth : Method} {c : Code} {D : va_G} {ty : Nat → ClassId} {eo : Nat → Nat} {A : Nat → Prop} {ad : Nat → Nat} {o1 : Int32} {o2 : dS} (C : dc_C p s m args meth c cX10_gaps (some .int) 4 RX10 wsX10_gaps D ty eo A) {k41 : dS → Int32 → Int32 → Option (Int32 × dS)} (hk41 : ∀ (q : dS) (x1 : Int32) (x2 : Int32) (H : Heap) (locs : List Loc) (ls : Array Slot), k41 q x1 x2 = some (o1, o2) → va_P D vwCl (w10 ty ad q) H → va_D A (w10 ty ad q) → va_S A s.heap H locs → lv_has ls 4 [(0, .ref (ad 0)), (1, .int x1), (2, .int x2)] → W p l e ({ frames := 2, cells := 0, slots := 0, locals := 43 } : Room) s m args below meth c H locs 0 0 (MQ below (va_Qi (fun (r : Int32) (u : va_W) => o1 = r ∧ w10 ty ad o2 = u) (kz_B D ty A) A) args s 0 0 A) (F0 m 41 ls [])) (q : dS) (x2 : Int32) (y0 : Int32) (y1 : Int32) (H : Heap) (locs : List Loc) (ls : Array Slot) (h : zX10_gaps_95 k41 q x2 y0 y1 = some (o1, o2)) (hP : va_P D vwCl (w10 ty ad q) H) (hD : va_D A (w10 ty ad q)) (hS : va_S A s.heap H locs) (hl : lv_has ls 4 [(0, .ref (ad 0)), (2, .int x2)]) : W p l e ({ frames := 2, cells := 0, slots := 0, locals := 43 } : Room) s m args below meth c H locs 0 0 (MQ below (va_Qi (fun (r : Int32) (u : va_W) => o1 = r ∧ w10 ty ad o2 = u) (kz_B D ty A) A) args s 0 0 A) (F0 m 95 ls [.int y0, .int y1]) := by
  have C0 := C
  obtain ⟨hx, hb, hr, hts, hown, hlocks, hml, hK, hN, hE, hA⟩ := C
  unfold zX10_gaps_95 at h
  refine lv_iadd hx hb dX10_gaps_95 ?_
  refine lv_istore_n (lv' := [(1, .int (y1 + y0)), (0, .ref (ad 0)), (2, .int x2)]) hx hb dX10_gaps_96 rfl hl (by decide) rfl (fun ls hl => ?_)
  refine lv_iinc (v := x2 + 1) (lv' := [(2, .int (x2 + 1)), (1, .int (y1 + y0)), (0, .ref (ad 0))]) hx hb dX10_gaps_97 hl (k := 2) rfl rfl (by decide) rfl (fun ls hl => ?_)
  refine lv_goto (tgt := 41) hx hb dX10_gaps_100 (by decide) ?_
  exact hk41 _ _ _ _ _ _ h hP hD hS (lv_sub hl [2, 1, 0] rfl)
set_option maxHeartbeats 4000000 in
set_option maxRecDepth 100000 in
theorem WX10_gaps_90 {p : Program} {l : Launch} {e : Env} {s : State} {m : MethodId} {args : Array Value} {below : List Frame} {meth : Method} {c : Code} {D : va_G} {ty : Nat → ClassId} {eo : Nat → Nat} {A : Nat → Prop} {ad : Nat → Nat} {o1 : Int32} {o2 : dS} (C : dc_C p s m args meth c cX10_gaps (some .int) 4 RX10 wsX10_gaps D ty eo A) {k41 : dS → Int32 → Int32 → Option (Int32 × dS)} (hk41 : ∀ (q : dS) (x1 : Int32) (x2 : Int32) (H : Heap) (locs : List Loc) (ls : Array Slot), k41 q x1 x2 = some (o1, o2) → va_P D vwCl (w10 ty ad q) H → va_D A (w10 ty ad q) → va_S A s.heap H locs → lv_has ls 4 [(0, .ref (ad 0)), (1, .int x1), (2, .int x2)] → W p l e ({ frames := 2, cells := 0, slots := 0, locals := 43 } : Room) s m args below meth c H locs 0 0 (MQ below (va_Qi (fun (r : Int32) (u : va_W) => o1 = r ∧ w10 ty ad o2 = u) (kz_B D ty A) A) args s 0 0 A) (F0 m 41 ls [])) (q : dS) (x2 : Int32) (y0 : Int32) (H : Heap) (locs : List Loc) (ls : Array Slot) (h : zX10_gaps_90 k41 q x2 y0 = some (o1, o2)) (hP : va_P D vwCl (w10 ty ad q) H) (hD : va_D A (w10 ty ad q)) (hS : va_S A s.heap H locs) (hl : lv_has ls 4 [(0, .ref (ad 0)), (2, .int x2)]) : W p l e ({ frames := 2, cells := 0, slots := 0, locals := 43 } : Room) s m args below meth c H locs 0 0 (MQ below (va_Qi (fun (r : Int32) (u : va_W) => o1 = r ∧ w10 ty ad o2 = u) (kz_B D ty A) A) args s 0 0 A) (F0 m 90 ls [.int y0]) := by
  have C0 := C
  obtain ⟨hx, hb, hr, hts, hown, hlocks, hml, hK, hN, hE, hA⟩ := C
  unfold zX10_gaps_90 at h
  refine lv_iconst (v := 0) hx hb dX10_gaps_90 (by decide) ?_
  refine lv_goto (tgt := 95) hx hb dX10_gaps_91 (by decide) ?_
  exact WX10_gaps_95 C0 hk41 _ _ _ _ _ _ _ h hP hD hS (lv_sub hl [0, 1] rfl)
set_option maxHeartbeats 4000000 in
set_option maxRecDepth 100000 in
theorem WX10_gaps_41b {p : Program} {l : Launch} {e : Env} {s : State} {m : MethodId} {args : Array Value} {below : List Frame} {meth : Method} {c : Code} {D : va_G} {ty : Nat → ClassId} {eo : Nat → Nat} {A : Nat → Prop} {ad : Nat → Nat} {o1 : Int32} {o2 : dS} (C : dc_C p s m args meth c cX10_gaps (some .int) 4 RX10 wsX10_gaps D ty eo A) {k41 : dS → Int32 → Int32 → Option (Int32 × dS)} (hk41 : ∀ (q : dS) (x1 : Int32) (x2 : Int32) (H : Heap) (locs : List Loc) (ls : Array Slot), k41 q x1 x2 = some (o1, o2) → va_P D vwCl (w10 ty ad q) H → va_D A (w10 ty ad q) → va_S A s.heap H locs → lv_has ls 4 [(0, .ref (ad 0)), (1, .int x1), (2, .int x2)] → W p l e ({ frames := 2, cells := 0, slots := 0, locals := 43 } : Room) s m args below meth c H locs 0 0 (MQ below (va_Qi (fun (r : Int32) (u : va_W) => o1 = r ∧ w10 ty ad o2 = u) (kz_B D ty A) A) args s 0 0 A) (F0 m 41 ls [])) (q : dS) (x1 : Int32) (x2 : Int32) (H : Heap) (locs : List Loc) (ls : Array Slot) (h : zX10_gaps_41b k41 q x1 x2 = some (o1, o2)) (hP : va_P D vwCl (w10 ty ad q) H) (hD : va_D A (w10 ty ad q)) (hS : va_S A s.heap H locs) (hl : lv_has ls 4 [(0, .ref (ad 0)), (1, .int x1), (2, .int x2)]) : W p l e ({ frames := 2, cells := 0, slots := 0, locals := 43 } : Room) s m args below meth c H locs 0 0 (MQ below (va_Qi (fun (r : Int32) (u : va_W) => o1 = r ∧ w10 ty ad o2 = u) (kz_B D ty A) A) args s 0 0 A) (F0 m 41 ls []) := by
  have C0 := C
  obtain ⟨hx, hb, hr, hts, hown, hlocks, hml, hK, hN, hE, hA⟩ := C
  unfold zX10_gaps_41b at h
  refine lv_iload_n hx hb dX10_gaps_41 rfl (lv_at hl 2 rfl) ?_
  refine lv_iconst (v := 1) hx hb dX10_gaps_42 (by decide) ?_
  refine lv_iadd hx hb dX10_gaps_43 ?_
  refine lv_aload_n hx hb dX10_gaps_44 rfl (lv_at hl 0 rfl) ?_
  obtain ⟨r1, q3, h2, h⟩ := dB_some h
  refine dw_ki (va_runV (As := []) (rest := [.int (x2 + 1 : Int32)]) ⟨hx, hb, hml, hown, hts⟩ (qX10_size l D ty eo _ ad q  r1 q3 h2) (cwV 0 hts gX10_gaps_X10_size rfl rfl rfl (by decide +kernel) ⟨Nat.le_of_ble_eq_true rfl, Nat.le_of_ble_eq_true rfl⟩) (dw_preV (ci := 10) (q0 := 0) hK hN hE hP hD hS hA rfl rfl) rfl rfl hl.1 rfl (lv_room (Nat.le_of_ble_eq_true rfl)) dX10_gaps_45 ⟨Nat.le_of_ble_eq_true rfl, Nat.le_of_ble_eq_true rfl⟩) hD hS hA (fun r9 u9 H locs hw hp hd hs => ?_)
  clear hP hD hS
  obtain ⟨rfl, rfl⟩ := hw
  have hP := hp; have hD := hd; have hS := hs; clear hp hd hs
  refine lv_icmp_ge (tgt := 103) hx hb dX10_gaps_48 (by decide) (fun c9 => ?_) (fun c9 => ?_)
  · rw [if_pos c9] at h
    refine lv_iload_n hx hb dX10_gaps_103 rfl (lv_at hl 1 rfl) ?_
    cases h
    exact kz_iret hx hb hr hlocks hP hK hD hS dX10_gaps_104 ⟨rfl, rfl⟩
  · rw [if_neg c9] at h
    refine lv_aload_n hx hb dX10_gaps_51 rfl (lv_at hl 0 rfl) ?_
    refine lv_aload_n hx hb dX10_gaps_52 rfl (lv_at hl 0 rfl) ?_
    refine va_get (D := D) (ci := 10) (v := .ref (ad 2)) (C := RX10) (T := TX10) (N := 56) hx hb hts u9_wsX10_gaps_X10 hown hK hP 0 rfl rfl 2 (by decide) (hts (.fieldLink RX10 28 "TurnedFloorsModel" "kept" "[I") f9_wsX10_gaps_41) (fun _ h9 => h9) rfl dX10_gaps_53 ?_
    refine lv_iconst (v := 0) hx hb dX10_gaps_56 (by decide) ?_
    refine lv_iload_n hx hb dX10_gaps_57 rfl (lv_at hl 2 rfl) ?_
    refine lv_iadd hx hb dX10_gaps_58 ?_
    obtain ⟨g4, h⟩ := dG_some h
    refine va_iald hx hb hK hP 2 0 rfl rfl (dg_in g4) dX10_gaps_59 ?_
    obtain ⟨v5, ev5, h⟩ := dL_some h
    refine kz_topi v5 ev5 ?_
    obtain ⟨r6, q8, h7, h⟩ := dB_some h
    refine dw_ki (va_runV (As := [.int v5]) (rest := []) ⟨hx, hb, hml, hown, hts⟩ (qX10_lessThan l D ty eo _ ad q3 v5 r6 q8 h7) (cwV 1 hts gX10_gaps_X10_lessThan rfl rfl rfl (by decide +kernel) ⟨Nat.le_of_ble_eq_true rfl, Nat.le_of_ble_eq_true rfl⟩) (dw_preV (ci := 10) (q0 := 0) hK hN hE hP hD hS hA rfl rfl) rfl rfl hl.1 rfl (lv_room (Nat.le_of_ble_eq_true rfl)) dX10_gaps_60 ⟨Nat.le_of_ble_eq_true rfl, Nat.le_of_ble_eq_true rfl⟩) hD hS hA (fun r9 u9 H locs hw hp hd hs => ?_)
    clear hP hD hS
    obtain ⟨rfl, rfl⟩ := hw
    have hP := hp; have hD := hd; have hS := hs; clear hp hd hs
    refine lv_aload_n hx hb dX10_gaps_63 rfl (lv_at hl 0 rfl) ?_
    refine lv_aload_n hx hb dX10_gaps_64 rfl (lv_at hl 0 rfl) ?_
    refine va_get (D := D) (ci := 10) (v := .ref (ad 2)) (C := RX10) (T := TX10) (N := 56) hx hb hts u9_wsX10_gaps_X10 hown hK hP 0 rfl rfl 2 (by decide) (hts (.fieldLink RX10 28 "TurnedFloorsModel" "kept" "[I") f9_wsX10_gaps_41) (fun _ h9 => h9) rfl dX10_gaps_65 ?_
    refine lv_iconst (v := 0) hx hb dX10_gaps_68 (by decide) ?_
    refine lv_iload_n hx hb dX10_gaps_69 rfl (lv_at hl 2 rfl) ?_
    refine lv_iadd hx hb dX10_gaps_70 ?_
    refine lv_iconst (v := 1) hx hb dX10_gaps_71 (by decide) ?_
    refine lv_iadd hx hb dX10_gaps_72 ?_
    obtain ⟨g9, h⟩ := dG_some h
    refine va_iald hx hb hK hP 2 0 rfl rfl (dg_in g9) dX10_gaps_73 ?_
    obtain ⟨v10, ev10, h⟩ := dL_some h
    refine kz_topi v10 ev10 ?_
    obtain ⟨r11, q13, h12, h⟩ := dB_some h
    refine dw_ki (va_runV (As := [.int v10]) (rest := [.int r6]) ⟨hx, hb, hml, hown, hts⟩ (qX10_lessThan l D ty eo _ ad q8 v10 r11 q13 h12) (cwV 1 hts gX10_gaps_X10_lessThan rfl rfl rfl (by decide +kernel) ⟨Nat.le_of_ble_eq_true rfl, Nat.le_of_ble_eq_true rfl⟩) (dw_preV (ci := 10) (q0 := 0) hK hN hE hP hD hS hA rfl rfl) rfl rfl hl.1 rfl (lv_room (Nat.le_of_ble_eq_true rfl)) dX10_gaps_74 ⟨Nat.le_of_ble_eq_true rfl, Nat.le_of_ble_eq_true rfl⟩) hD hS hA (fun r9 u9 H locs hw hp hd hs => ?_)
    clear hP hD hS
    obtain ⟨rfl, rfl⟩ := hw
    have hP := hp; have hD := hd; have hS := hs; clear hp hd hs
    refine lv_isub hx hb dX10_gaps_77 ?_
    refine lv_istore_n (lv' := [(3, .int (r6 - r11)), (0, .ref (ad 0)), (1, .int x1), (2, .int x2)]) hx hb dX10_gaps_78 rfl hl (by decide) rfl (fun ls hl => ?_)
    refine lv_iload_n hx hb dX10_gaps_79 rfl (lv_at hl 2 rfl) ?_
    refine lv_iload_n hx hb dX10_gaps_80 rfl (lv_at hl 0 rfl) ?_
    refine lv_iconst (v := 1) hx hb dX10_gaps_81 (by decide) ?_
    refine lv_icmp_eq (tgt := 90) hx hb dX10_gaps_82 (by decide) (fun c9 => ?_) (fun c9 => ?_)
    · rw [if_pos c9] at h
      exact WX10_gaps_90 C0 hk41 _ _ _ _ _ _ h hP hD hS (lv_sub hl [1, 3] rfl)
    · rw [if_neg c9] at h
      refine lv_iload_n hx hb dX10_gaps_85 rfl (lv_at hl 0 rfl) ?_
      refine lv_iconst (v := (-1)) hx hb dX10_gaps_86 (by decide) ?_
      refine lv_icmp_ne (tgt := 94) hx hb dX10_gaps_87 (by decide) (fun c9 => ?_) (fun c9 => ?_)
      · rw [if_neg c9] at h
        refine lv_iconst (v := 1) hx hb dX10_gaps_94 (by decide) ?_
        exact WX10_gaps_95 C0 hk41 _ _ _ _ _ _ _ h hP hD hS (lv_sub hl [1, 3] rfl)
      · rw [if_pos c9] at h
        exact WX10_gaps_90 C0 hk41 _ _ _ _ _ _ h hP hD hS (lv_sub hl [1, 3] rfl)
set_option maxHeartbeats 4000000 in
set_option maxRecDepth 100000 in
theorem WX10_gaps_41 {p : Program} {l : Launch} {e : Env} {s : State} {m : MethodId} {args : Array Value} {below : List Frame} {meth : Method} {c : Code} {D : va_G} {ty : Nat → ClassId} {eo : Nat → Nat} {A : Nat → Prop} {ad : Nat → Nat} {o1 : Int32} {o2 : dS} (C : dc_C p s m args meth c cX10_gaps (some .int) 4 RX10 wsX10_gaps D ty eo A)   (n : Nat) (q : dS) (x1 : Int32) (x2 : Int32) (H : Heap) (locs : List Loc) (ls : Array Slot) (h : zX10_gaps_41  n q x1 x2 = some (o1, o2)) (hP : va_P D vwCl (w10 ty ad q) H) (hD : va_D A (w10 ty ad q)) (hS : va_S A s.heap H locs) (hl : lv_has ls 4 [(0, .ref (ad 0)), (1, .int x1), (2, .int x2)]) : W p l e ({ frames := 2, cells := 0, slots := 0, locals := 43 } : Room) s m args below meth c H locs 0 0 (MQ below (va_Qi (fun (r : Int32) (u : va_W) => o1 = r ∧ w10 ty ad o2 = u) (kz_B D ty A) A) args s 0 0 A) (F0 m 41 ls []) := by
  exact dFix_W (F := fun k (a : dS × Int32 × Int32) => zX10_gaps_41b  (fun q x1 x2 => k (q, x1, x2)) a.1 a.2.1 a.2.2) (o := (o1, o2)) (P := fun (a : dS × Int32 × Int32) H locs ls => va_P D vwCl (w10 ty ad a.1) H ∧ va_D A (w10 ty ad a.1) ∧ va_S A s.heap H locs ∧ lv_has ls 4 [(0, .ref (ad 0)), (1, .int a.2.1), (2, .int a.2.2)]) (G := fun H locs ls => W p l e ({ frames := 2, cells := 0, slots := 0, locals := 43 } : Room) s m args below meth c H locs 0 0 (MQ below (va_Qi (fun (r : Int32) (u : va_W) => o1 = r ∧ w10 ty ad o2 = u) (kz_B D ty A) A) args s 0 0 A) (F0 m 41 ls []))
    (fun k hk a H locs ls h hp => WX10_gaps_41b C  (fun q x1 x2 H locs ls h h1 h2 h3 h4 => hk (q, x1, x2) H locs ls h ⟨h1, h2, h3, h4⟩) a.1 a.2.1 a.2.2 H locs ls h hp.1 hp.2.1 hp.2.2.1 hp.2.2.2) n (q, x1, x2) H locs ls h ⟨hP, hD, hS, hl⟩
set_option maxHeartbeats 4000000 in
set_option maxRecDepth 100000 in
theorem WX10_gaps_38 {p : Program} {l : Launch} {e : Env} {s : State} {m : MethodId} {args : Array Value} {below : List Frame} {meth : Method} {c : Code} {D : va_G} {ty : Nat → ClassId} {eo : Nat → Nat} {A : Nat → Prop} {ad : Nat → Nat} {o1 : Int32} {o2 : dS} (C : dc_C p s m args meth c cX10_gaps (some .int) 4 RX10 wsX10_gaps D ty eo A)   (q : dS) (y0 : Int32) (H : Heap) (locs : List Loc) (ls : Array Slot) (h : zX10_gaps_38  q y0 = some (o1, o2)) (hP : va_P D vwCl (w10 ty ad q) H) (hD : va_D A (w10 ty ad q)) (hS : va_S A s.heap H locs) (hl : lv_has ls 4 [(0, .ref (ad 0))]) : W p l e ({ frames := 2, cells := 0, slots := 0, locals := 43 } : Room) s m args below meth c H locs 0 0 (MQ below (va_Qi (fun (r : Int32) (u : va_W) => o1 = r ∧ w10 ty ad o2 = u) (kz_B D ty A) A) args s 0 0 A) (F0 m 38 ls [.int y0]) := by
  have C0 := C
  obtain ⟨hx, hb, hr, hts, hown, hlocks, hml, hK, hN, hE, hA⟩ := C
  unfold zX10_gaps_38 at h
  refine lv_istore_n (lv' := [(1, .int y0), (0, .ref (ad 0))]) hx hb dX10_gaps_38 rfl hl (by decide) rfl (fun ls hl => ?_)
  refine lv_iconst (v := 0) hx hb dX10_gaps_39 (by decide) ?_
  refine lv_istore_n (lv' := [(2, .int 0), (1, .int y0), (0, .ref (ad 0))]) hx hb dX10_gaps_40 rfl hl (by decide) rfl (fun ls hl => ?_)
  exact WX10_gaps_41 C0  _ _ _ _ _ _ _ h hP hD hS (lv_sub hl [2, 1, 0] rfl)
set_option maxHeartbeats 4000000 in
set_option maxRecDepth 100000 in
theorem WX10_gaps_37 {p : Program} {l : Launch} {e : Env} {s : State} {m : MethodId} {args : Array Value} {below : List Frame} {meth : Method} {c : Code} {D : va_G} {ty : Nat → ClassId} {eo : Nat → Nat} {A : Nat → Prop} {ad : Nat → Nat} {o1 : Int32} {o2 : dS} (C : dc_C p s m args meth c cX10_gaps (some .int) 4 RX10 wsX10_gaps D ty eo A)   (q : dS)  (H : Heap) (locs : List Loc) (ls : Array Slot) (h : zX10_gaps_37  q = some (o1, o2)) (hP : va_P D vwCl (w10 ty ad q) H) (hD : va_D A (w10 ty ad q)) (hS : va_S A s.heap H locs) (hl : lv_has ls 4 [(0, .ref (ad 0))]) : W p l e ({ frames := 2, cells := 0, slots := 0, locals := 43 } : Room) s m args below meth c H locs 0 0 (MQ below (va_Qi (fun (r : Int32) (u : va_W) => o1 = r ∧ w10 ty ad o2 = u) (kz_B D ty A) A) args s 0 0 A) (F0 m 37 ls []) := by
  have C0 := C
  obtain ⟨hx, hb, hr, hts, hown, hlocks, hml, hK, hN, hE, hA⟩ := C
  unfold zX10_gaps_37 at h
  refine lv_iconst (v := 0) hx hb dX10_gaps_37 (by decide) ?_
  exact WX10_gaps_38 C0  _ _ _ _ _ h hP hD hS (lv_sub hl [0] rfl)
set_option maxHeartbeats 4000000 in
set_option maxRecDepth 100000 in
theorem qX10_gaps (l : Launch) (D : va_G) (ty : Nat → ClassId) (eo : Nat → Nat) (sz : Nat) (ad : Nat → Nat) (q : dS)  (o1 : Int32) (o2 : dS) (h : zX10_gaps q = some (o1, o2)) : Met l yX10_gaps wsX10_gaps ({ frames := 2, cells := 0, slots := 0, locals := 43 } : Room) (va_Pc [.ref (ad 0)] (kz_pre D ty eo (w10 ty ad q) sz)) (va_Qi (fun (r : Int32) (u : va_W) => o1 = r ∧ w10 ty ad o2 = u) (kz_B D ty (va_A (w10 ty ad q) sz)) (va_A (w10 ty ad q) sz)) 0 0 (va_A (w10 ty ad q) sz) := by
  refine Met.ofW (cc := cX10_gaps) (maxL := 4) (ret := (some .int)) (by decide) rfl ?_
  intro p e s m args below meth c s₁ B hml hv
  obtain ⟨rfl, hsz, hP, hK, hD0, hN, hE⟩ := hv
  have hx := B.exec
  have hb := B.bytes
  have hr := B.returns
  have hts := atoms_spec (ws := wsX10_gaps) B.pre
  have hown : s.vm.findClass RX10 = some m.cls := findClass_of_methodNamed B.named
  have hlocks := B.notSynchronized
  subst hsz
  have hD := hD0.self (sz := s.heap.size)
  generalize hAe : va_A (w10 ty ad q) s.heap.size = A at hD hE ⊢
  have hA : ∀ q : Nat, s.heap.size ≤ q → A q := fun q h => by rw [← hAe]; exact Or.inr h
  clear hAe
  have hS : va_S A s.heap s.heap [] := va_S.rf
  have hl := lv_entry ([.ref (ad 0)]) (n := 4) (Nat.le_of_ble_eq_true rfl)
  rw [lg_entry_eq]
  generalize (lg_sl ([.ref (ad 0)]) ++ List.replicate (4 - (lg_sl ([.ref (ad 0)])).length) Slot.unset).toArray = ls at hl ⊢
  have hl : lv_has ls 4 [(0, .ref (ad 0))] := hl
  have C : dc_C p s m _ meth c cX10_gaps (some .int) 4 RX10 wsX10_gaps D ty eo A := ⟨hx, hb, hr, hts, hown, hlocks, hml, hK, hN, hE, hA⟩
  unfold zX10_gaps at h
  refine lv_aload_n hx hb dX10_gaps_0 rfl (lv_at hl 0 rfl) ?_
  obtain ⟨r1, q3, h2, h⟩ := dB_some h
  refine dw_ki (va_runV (As := []) (rest := []) ⟨hx, hb, hml, hown, hts⟩ (qX10_size l D ty eo _ ad q  r1 q3 h2) (cwV 0 hts gX10_gaps_X10_size rfl rfl rfl (by decide +kernel) ⟨Nat.le_of_ble_eq_true rfl, Nat.le_of_ble_eq_true rfl⟩) (dw_preV (ci := 10) (q0 := 0) hK hN hE hP hD hS hA rfl rfl) rfl rfl hl.1 rfl (lv_room (Nat.le_of_ble_eq_true rfl)) dX10_gaps_1 ⟨Nat.le_of_ble_eq_true rfl, Nat.le_of_ble_eq_true rfl⟩) hD hS hA (fun r9 u9 H locs hw hp hd hs => ?_)
  clear hP hD hS
  obtain ⟨rfl, rfl⟩ := hw
  have hP := hp; have hD := hd; have hS := hs; clear hp hd hs
  refine lv_if_le (tgt := 37) hx hb dX10_gaps_4 (by decide) (fun c9 => ?_) (fun c9 => ?_)
  · rw [if_pos c9] at h
    exact WX10_gaps_37 C  _ _ _ _ h hP hD hS (lv_sub hl [0] rfl)
  · rw [if_neg c9] at h
    refine lv_aload_n hx hb dX10_gaps_7 rfl (lv_at hl 0 rfl) ?_
    refine lv_aload_n hx hb dX10_gaps_8 rfl (lv_at hl 0 rfl) ?_
    refine va_get (D := D) (ci := 10) (v := .ref (ad 2)) (C := RX10) (T := TX10) (N := 56) hx hb hts u9_wsX10_gaps_X10 hown hK hP 0 rfl rfl 2 (by decide) (hts (.fieldLink RX10 28 "TurnedFloorsModel" "kept" "[I") f9_wsX10_gaps_41) (fun _ h9 => h9) rfl dX10_gaps_9 ?_
    refine lv_iconst (v := 0) hx hb dX10_gaps_12 (by decide) ?_
    refine lv_aload_n hx hb dX10_gaps_13 rfl (lv_at hl 0 rfl) ?_
    obtain ⟨r4, q6, h5, h⟩ := dB_some h
    refine dw_ki (va_runV (As := []) (rest := [.int 0, .ref (ad 2), .ref (ad 0)]) ⟨hx, hb, hml, hown, hts⟩ (qX10_size l D ty eo _ ad q3  r4 q6 h5) (cwV 0 hts gX10_gaps_X10_size rfl rfl rfl (by decide +kernel) ⟨Nat.le_of_ble_eq_true rfl, Nat.le_of_ble_eq_true rfl⟩) (dw_preV (ci := 10) (q0 := 0) hK hN hE hP hD hS hA rfl rfl) rfl rfl hl.1 rfl (lv_room (Nat.le_of_ble_eq_true rfl)) dX10_gaps_14 ⟨Nat.le_of_ble_eq_true rfl, Nat.le_of_ble_eq_true rfl⟩) hD hS hA (fun r9 u9 H locs hw hp hd hs => ?_)
    clear hP hD hS
    obtain ⟨rfl, rfl⟩ := hw
    have hP := hp; have hD := hd; have hS := hs; clear hp hd hs
    refine lv_iadd hx hb dX10_gaps_17 ?_
    refine lv_iconst (v := 1) hx hb dX10_gaps_18 (by decide) ?_
    refine lv_isub hx hb dX10_gaps_19 ?_
    obtain ⟨g7, h⟩ := dG_some h
    refine va_iald hx hb hK hP 2 0 rfl rfl (dg_in g7) dX10_gaps_20 ?_
    obtain ⟨v8, ev8, h⟩ := dL_some h
    refine kz_topi v8 ev8 ?_
    obtain ⟨r9, q11, h10, h⟩ := dB_some h
    refine dw_ki (va_runV (As := [.int v8]) (rest := []) ⟨hx, hb, hml, hown, hts⟩ (qX10_lessThan l D ty eo _ ad q6 v8 r9 q11 h10) (cwV 1 hts gX10_gaps_X10_lessThan rfl rfl rfl (by decide +kernel) ⟨Nat.le_of_ble_eq_true rfl, Nat.le_of_ble_eq_true rfl⟩) (dw_preV (ci := 10) (q0 := 0) hK hN hE hP hD hS hA rfl rfl) rfl rfl hl.1 rfl (lv_room (Nat.le_of_ble_eq_true rfl)) dX10_gaps_21 ⟨Nat.le_of_ble_eq_true rfl, Nat.le_of_ble_eq_true rfl⟩) hD hS hA (fun r9 u9 H locs hw hp hd hs => ?_)
    clear hP hD hS
    obtain ⟨rfl, rfl⟩ := hw
    have hP := hp; have hD := hd; have hS := hs; clear hp hd hs
    refine lv_aload_n hx hb dX10_gaps_24 rfl (lv_at hl 0 rfl) ?_
    obtain ⟨r12, q14, h13, h⟩ := dB_some h
    refine dw_ki (va_runV (As := []) (rest := [.int r9]) ⟨hx, hb, hml, hown, hts⟩ (qX10_size l D ty eo _ ad q11  r12 q14 h13) (cwV 0 hts gX10_gaps_X10_size rfl rfl rfl (by decide +kernel) ⟨Nat.le_of_ble_eq_true rfl, Nat.le_of_ble_eq_true rfl⟩) (dw_preV (ci := 10) (q0 := 0) hK hN hE hP hD hS hA rfl rfl) rfl rfl hl.1 rfl (lv_room (Nat.le_of_ble_eq_true rfl)) dX10_gaps_25 ⟨Nat.le_of_ble_eq_true rfl, Nat.le_of_ble_eq_true rfl⟩) hD hS hA (fun r9 u9 H locs hw hp hd hs => ?_)
    clear hP hD hS
    obtain ⟨rfl, rfl⟩ := hw
    have hP := hp; have hD := hd; have hS := hs; clear hp hd hs
    refine lv_iconst (v := 1) hx hb dX10_gaps_28 (by decide) ?_
    refine lv_isub hx hb dX10_gaps_29 ?_
    refine lv_icmp_ge (tgt := 37) hx hb dX10_gaps_30 (by decide) (fun c9 => ?_) (fun c9 => ?_)
    · rw [if_pos c9] at h
      exact WX10_gaps_37 C  _ _ _ _ h hP hD hS (lv_sub hl [0] rfl)
    · rw [if_neg c9] at h
      refine lv_iconst (v := 1) hx hb dX10_gaps_33 (by decide) ?_
      refine lv_goto (tgt := 38) hx hb dX10_gaps_34 (by decide) ?_
      exact WX10_gaps_38 C  _ _ _ _ _ h hP hD hS (lv_sub hl [0] rfl)

set_option maxHeartbeats 4000000 in
set_option maxRecDepth 100000 in
theorem WX10_orderValue_86 {p : Program} {l : Launch} {e : Env} {s : State} {m : MethodId} {args : Array Value} {below : List Frame} {meth : Method} {c : Code} {D : va_G} {ty : Nat → ClassId} {eo : Nat → Nat} {A : Nat → Prop} {ad : Nat → Nat} {o1 : Int32} {o2 : dS} (C : dc_C p s m args meth c cX10_orderValue (some .int) 3 RX10 wsX10_orderValue D ty eo A)   (q : dS) (y0 : Int32) (H : Heap) (locs : List Loc) (ls : Array Slot) (h : zX10_orderValue_86  q y0 = some (o1, o2)) (hP : va_P D vwCl (w10 ty ad q) H) (hD : va_D A (w10 ty ad q)) (hS : va_S A s.heap H locs) (hl : lv_has ls 3 []) : W p l e ({ frames := 3, cells := 0, slots := 0, locals := 66 } : Room) s m args below meth c H locs 0 0 (MQ below (va_Qi (fun (r : Int32) (u : va_W) => o1 = r ∧ w10 ty ad o2 = u) (kz_B D ty A) A) args s 0 0 A) (F0 m 86 ls [.int y0]) := by
  have C0 := C
  obtain ⟨hx, hb, hr, hts, hown, hlocks, hml, hK, hN, hE, hA⟩ := C
  unfold zX10_orderValue_86 at h
  cases h
  exact kz_iret hx hb hr hlocks hP hK hD hS dX10_orderValue_86 ⟨rfl, rfl⟩
set_option maxHeartbeats 4000000 in
set_option maxRecDepth 100000 in
theorem WX10_orderValue_65 {p : Program} {l : Launch} {e : Env} {s : State} {m : MethodId} {args : Array Value} {below : List Frame} {meth : Method} {c : Code} {D : va_G} {ty : Nat → ClassId} {eo : Nat → Nat} {A : Nat → Prop} {ad : Nat → Nat} {o1 : Int32} {o2 : dS} (C : dc_C p s m args meth c cX10_orderValue (some .int) 3 RX10 wsX10_orderValue D ty eo A)   (q : dS) (y0 : Int32) (H : Heap) (locs : List Loc) (ls : Array Slot) (h : zX10_orderValue_65  q y0 = some (o1, o2)) (hP : va_P D vwCl (w10 ty ad q) H) (hD : va_D A (w10 ty ad q)) (hS : va_S A s.heap H locs) (hl : lv_has ls 3 []) : W p l e ({ frames := 3, cells := 0, slots := 0, locals := 66 } : Room) s m args below meth c H locs 0 0 (MQ below (va_Qi (fun (r : Int32) (u : va_W) => o1 = r ∧ w10 ty ad o2 = u) (kz_B D ty A) A) args s 0 0 A) (F0 m 65 ls [.int y0]) := by
  have C0 := C
  obtain ⟨hx, hb, hr, hts, hown, hlocks, hml, hK, hN, hE, hA⟩ := C
  unfold zX10_orderValue_65 at h
  cases h
  exact kz_iret hx hb hr hlocks hP hK hD hS dX10_orderValue_65 ⟨rfl, rfl⟩
set_option maxHeartbeats 4000000 in
set_option maxRecDepth 100000 in
theorem qX10_orderValue (l : Launch) (D : va_G) (ty : Nat → ClassId) (eo : Nat → Nat) (sz : Nat) (ad : Nat → Nat) (q : dS) (p1 : Int32) (p2 : Int32) (o1 : Int32) (o2 : dS) (h : zX10_orderValue q p1 p2 = some (o1, o2)) : Met l yX10_orderValue wsX10_orderValue ({ frames := 3, cells := 0, slots := 0, locals := 66 } : Room) (va_Pc [.ref (ad 0), .int p1, .int p2] (kz_pre D ty eo (w10 ty ad q) sz)) (va_Qi (fun (r : Int32) (u : va_W) => o1 = r ∧ w10 ty ad o2 = u) (kz_B D ty (va_A (w10 ty ad q) sz)) (va_A (w10 ty ad q) sz)) 0 0 (va_A (w10 ty ad q) sz) := by
  refine Met.ofW (cc := cX10_orderValue) (maxL := 3) (ret := (some .int)) (by decide) rfl ?_
  intro p e s m args below meth c s₁ B hml hv
  obtain ⟨rfl, hsz, hP, hK, hD0, hN, hE⟩ := hv
  have hx := B.exec
  have hb := B.bytes
  have hr := B.returns
  have hts := atoms_spec (ws := wsX10_orderValue) B.pre
  have hown : s.vm.findClass RX10 = some m.cls := findClass_of_methodNamed B.named
  have hlocks := B.notSynchronized
  subst hsz
  have hD := hD0.self (sz := s.heap.size)
  generalize hAe : va_A (w10 ty ad q) s.heap.size = A at hD hE ⊢
  have hA : ∀ q : Nat, s.heap.size ≤ q → A q := fun q h => by rw [← hAe]; exact Or.inr h
  clear hAe
  have hS : va_S A s.heap s.heap [] := va_S.rf
  have hl := lv_entry ([.ref (ad 0), .int p1, .int p2]) (n := 3) (Nat.le_of_ble_eq_true rfl)
  rw [lg_entry_eq]
  generalize (lg_sl ([.ref (ad 0), .int p1, .int p2]) ++ List.replicate (3 - (lg_sl ([.ref (ad 0), .int p1, .int p2])).length) Slot.unset).toArray = ls at hl ⊢
  have hl : lv_has ls 3 [(0, .ref (ad 0)), (1, .int p1), (2, .int p2)] := hl
  have C : dc_C p s m _ meth c cX10_orderValue (some .int) 3 RX10 wsX10_orderValue D ty eo A := ⟨hx, hb, hr, hts, hown, hlocks, hml, hK, hN, hE, hA⟩
  unfold zX10_orderValue at h
  refine lv_iload_n hx hb dX10_orderValue_0 rfl (lv_at hl 1 rfl) ?_
  by_cases c1 : p1 = 15
  · rw [if_pos c1] at h
    refine lv_tableIn (off := 43) (tgt := 44) hx hb dX10_orderValue_1 (by rw [c1]; decide) (by rw [c1]; decide) (by rw [c1]; decide) (by decide) ?_
    refine lv_aload_n hx hb dX10_orderValue_44 rfl (lv_at hl 0 rfl) ?_
    refine lv_iload_n hx hb dX10_orderValue_45 rfl (lv_at hl 2 rfl) ?_
    obtain ⟨r2, q4, h3, h⟩ := dB_some h
    refine dw_ki (va_runV (As := [.int p2]) (rest := []) ⟨hx, hb, hml, hown, hts⟩ (qX10_isPlace l D ty eo _ ad q p2 r2 q4 h3) (cwV 1 hts gX10_orderValue_X10_isPlace rfl rfl rfl (by decide +kernel) ⟨Nat.le_of_ble_eq_true rfl, Nat.le_of_ble_eq_true rfl⟩) (dw_preV (ci := 10) (q0 := 0) hK hN hE hP hD hS hA rfl rfl) rfl rfl hl.1 rfl (lv_room (Nat.le_of_ble_eq_true rfl)) dX10_orderValue_46 ⟨Nat.le_of_ble_eq_true rfl, Nat.le_of_ble_eq_true rfl⟩) hD hS hA (fun r9 u9 H locs hw hp hd hs => ?_)
    clear hP hD hS
    obtain ⟨rfl, rfl⟩ := hw
    have hP := hp; have hD := hd; have hS := hs; clear hp hd hs
    refine lv_if_eq (tgt := 64) hx hb dX10_orderValue_49 (by decide) (fun c9 => ?_) (fun c9 => ?_)
    · rw [if_pos c9] at h
      refine lv_iconst (v := (-1)) hx hb dX10_orderValue_64 (by decide) ?_
      exact WX10_orderValue_65 C  _ _ _ _ _ h hP hD hS (lv_sub hl [] rfl)
    · rw [if_neg c9] at h
      refine lv_aload_n hx hb dX10_orderValue_52 rfl (lv_at hl 0 rfl) ?_
      refine va_get (D := D) (ci := 10) (v := .ref (ad 2)) (C := RX10) (T := TX10) (N := 56) hx hb hts u9_wsX10_orderValue_X10 hown hK hP 0 rfl rfl 2 (by decide) (hts (.fieldLink RX10 28 "TurnedFloorsModel" "kept" "[I") f9_wsX10_orderValue_43) (fun _ h9 => h9) rfl dX10_orderValue_53 ?_
      refine lv_bipush (v := 6) hx hb dX10_orderValue_56 (by decide) ?_
      refine lv_iload_n hx hb dX10_orderValue_58 rfl (lv_at hl 2 rfl) ?_
      refine lv_iadd hx hb dX10_orderValue_59 ?_
      obtain ⟨g5, h⟩ := dG_some h
      refine va_iald hx hb hK hP 2 0 rfl rfl (dg_in g5) dX10_orderValue_60 ?_
      obtain ⟨v6, ev6, h⟩ := dL_some h
      refine kz_topi v6 ev6 ?_
      refine lv_goto (tgt := 65) hx hb dX10_orderValue_61 (by decide) ?_
      exact WX10_orderValue_65 C  _ _ _ _ _ h hP hD hS (lv_sub hl [] rfl)
  rw [if_neg c1] at h
  by_cases c7 : p1 = 16
  · rw [if_pos c7] at h
    refine lv_tableIn (off := 86) (tgt := 87) hx hb dX10_orderValue_1 (by rw [c7]; decide) (by rw [c7]; decide) (by rw [c7]; decide) (by decide) ?_
    refine lv_aload_n hx hb dX10_orderValue_87 rfl (lv_at hl 0 rfl) ?_
    refine va_get (D := D) (ci := 10) (v := .ref (ad 2)) (C := RX10) (T := TX10) (N := 56) hx hb hts u9_wsX10_orderValue_X10 hown hK hP 0 rfl rfl 2 (by decide) (hts (.fieldLink RX10 28 "TurnedFloorsModel" "kept" "[I") f9_wsX10_orderValue_43) (fun _ h9 => h9) rfl dX10_orderValue_88 ?_
    refine lv_bipush (v := 13) hx hb dX10_orderValue_91 (by decide) ?_
    refine va_iald hx hb hK hP 2 0 rfl rfl (by simp only [vp_in]; decide) dX10_orderValue_93 ?_
    refine kz_topi (q.1 2 13) (congrArg (q.1 2) (by decide +kernel : Int32.toNatClampNeg 13 = 13)) ?_
    cases h
    exact kz_iret hx hb hr hlocks hP hK hD hS dX10_orderValue_94 ⟨rfl, rfl⟩
  rw [if_neg c7] at h
  by_cases c8 : p1 = 17
  · rw [if_pos c8] at h
    refine lv_tableIn (off := 94) (tgt := 95) hx hb dX10_orderValue_1 (by rw [c8]; decide) (by rw [c8]; decide) (by rw [c8]; decide) (by decide) ?_
    refine lv_aload_n hx hb dX10_orderValue_95 rfl (lv_at hl 0 rfl) ?_
    refine va_get (D := D) (ci := 10) (v := .int (q.1 0 27)) (C := RX10) (T := TX10) (N := 56) hx hb hts u9_wsX10_orderValue_X10 hown hK hP 0 rfl rfl 27 (by decide) (hts (.fieldLink RX10 314 "TurnedFloorsModel" "orderDone" "I") f9_wsX10_orderValue_44) (fun _ h9 => h9) rfl dX10_orderValue_96 ?_
    cases h
    exact kz_iret hx hb hr hlocks hP hK hD hS dX10_orderValue_99 ⟨rfl, rfl⟩
  rw [if_neg c8] at h
  by_cases c9 : p1 = 18
  · rw [if_pos c9] at h
    refine lv_tableIn (off := 99) (tgt := 100) hx hb dX10_orderValue_1 (by rw [c9]; decide) (by rw [c9]; decide) (by rw [c9]; decide) (by decide) ?_
    refine lv_aload_n hx hb dX10_orderValue_100 rfl (lv_at hl 0 rfl) ?_
    refine va_get (D := D) (ci := 10) (v := .int (q.1 0 28)) (C := RX10) (T := TX10) (N := 56) hx hb hts u9_wsX10_orderValue_X10 hown hK hP 0 rfl rfl 28 (by decide) (hts (.fieldLink RX10 317 "TurnedFloorsModel" "orderLatest" "I") f9_wsX10_orderValue_45) (fun _ h9 => h9) rfl dX10_orderValue_101 ?_
    cases h
    exact kz_iret hx hb hr hlocks hP hK hD hS dX10_orderValue_104 ⟨rfl, rfl⟩
  rw [if_neg c9] at h
  by_cases c10 : p1 = 19
  · rw [if_pos c10] at h
    refine lv_tableIn (off := 104) (tgt := 105) hx hb dX10_orderValue_1 (by rw [c10]; decide) (by rw [c10]; decide) (by rw [c10]; decide) (by decide) ?_
    refine lv_aload_n hx hb dX10_orderValue_105 rfl (lv_at hl 0 rfl) ?_
    refine va_get (D := D) (ci := 10) (v := .ref (ad 2)) (C := RX10) (T := TX10) (N := 56) hx hb hts u9_wsX10_orderValue_X10 hown hK hP 0 rfl rfl 2 (by decide) (hts (.fieldLink RX10 28 "TurnedFloorsModel" "kept" "[I") f9_wsX10_orderValue_43) (fun _ h9 => h9) rfl dX10_orderValue_106 ?_
    refine lv_bipush (v := 12) hx hb dX10_orderValue_109 (by decide) ?_
    refine va_iald hx hb hK hP 2 0 rfl rfl (by simp only [vp_in]; decide) dX10_orderValue_111 ?_
    refine kz_topi (q.1 2 12) (congrArg (q.1 2) (by decide +kernel : Int32.toNatClampNeg 12 = 12)) ?_
    cases h
    exact kz_iret hx hb hr hlocks hP hK hD hS dX10_orderValue_112 ⟨rfl, rfl⟩
  rw [if_neg c10] at h
  by_cases c11 : p1 = 20
  · rw [if_pos c11] at h
    refine lv_tableIn (off := 112) (tgt := 113) hx hb dX10_orderValue_1 (by rw [c11]; decide) (by rw [c11]; decide) (by rw [c11]; decide) (by decide) ?_
    refine lv_aload_n hx hb dX10_orderValue_113 rfl (lv_at hl 0 rfl) ?_
    obtain ⟨r12, q14, h13, h⟩ := dB_some h
    refine dw_ki (va_runV (As := []) (rest := []) ⟨hx, hb, hml, hown, hts⟩ (qX10_gaps l D ty eo _ ad q  r12 q14 h13) (cwV 0 hts gX10_orderValue_X10_gaps rfl rfl rfl (by decide +kernel) ⟨Nat.le_of_ble_eq_true rfl, Nat.le_of_ble_eq_true rfl⟩) (dw_preV (ci := 10) (q0 := 0) hK hN hE hP hD hS hA rfl rfl) rfl rfl hl.1 rfl (lv_room (Nat.le_of_ble_eq_true rfl)) dX10_orderValue_114 ⟨Nat.le_of_ble_eq_true rfl, Nat.le_of_ble_eq_true rfl⟩) hD hS hA (fun r9 u9 H locs hw hp hd hs => ?_)
    clear hP hD hS
    obtain ⟨rfl, rfl⟩ := hw
    have hP := hp; have hD := hd; have hS := hs; clear hp hd hs
    cases h
    exact kz_iret hx hb hr hlocks hP hK hD hS dX10_orderValue_117 ⟨rfl, rfl⟩
  rw [if_neg c11] at h
  by_cases c15 : p1 = 21
  · rw [if_pos c15] at h
    refine lv_tableIn (off := 65) (tgt := 66) hx hb dX10_orderValue_1 (by rw [c15]; decide) (by rw [c15]; decide) (by rw [c15]; decide) (by decide) ?_
    refine lv_aload_n hx hb dX10_orderValue_66 rfl (lv_at hl 0 rfl) ?_
    refine lv_iload_n hx hb dX10_orderValue_67 rfl (lv_at hl 2 rfl) ?_
    obtain ⟨r16, q18, h17, h⟩ := dB_some h
    refine dw_ki (va_runV (As := [.int p2]) (rest := []) ⟨hx, hb, hml, hown, hts⟩ (qX10_isPlace l D ty eo _ ad q p2 r16 q18 h17) (cwV 1 hts gX10_orderValue_X10_isPlace rfl rfl rfl (by decide +kernel) ⟨Nat.le_of_ble_eq_true rfl, Nat.le_of_ble_eq_true rfl⟩) (dw_preV (ci := 10) (q0 := 0) hK hN hE hP hD hS hA rfl rfl) rfl rfl hl.1 rfl (lv_room (Nat.le_of_ble_eq_true rfl)) dX10_orderValue_68 ⟨Nat.le_of_ble_eq_true rfl, Nat.le_of_ble_eq_true rfl⟩) hD hS hA (fun r9 u9 H locs hw hp hd hs => ?_)
    clear hP hD hS
    obtain ⟨rfl, rfl⟩ := hw
    have hP := hp; have hD := hd; have hS := hs; clear hp hd hs
    refine lv_if_eq (tgt := 85) hx hb dX10_orderValue_71 (by decide) (fun c9 => ?_) (fun c9 => ?_)
    · rw [if_pos c9] at h
      refine lv_iconst (v := (-1)) hx hb dX10_orderValue_85 (by decide) ?_
      exact WX10_orderValue_86 C  _ _ _ _ _ h hP hD hS (lv_sub hl [] rfl)
    · rw [if_neg c9] at h
      refine lv_aload_n hx hb dX10_orderValue_74 rfl (lv_at hl 0 rfl) ?_
      refine va_get (D := D) (ci := 10) (v := .ref (ad 2)) (C := RX10) (T := TX10) (N := 56) hx hb hts u9_wsX10_orderValue_X10 hown hK hP 0 rfl rfl 2 (by decide) (hts (.fieldLink RX10 28 "TurnedFloorsModel" "kept" "[I") f9_wsX10_orderValue_43) (fun _ h9 => h9) rfl dX10_orderValue_75 ?_
      refine lv_iconst (v := 0) hx hb dX10_orderValue_78 (by decide) ?_
      refine lv_iload_n hx hb dX10_orderValue_79 rfl (lv_at hl 2 rfl) ?_
      refine lv_iadd hx hb dX10_orderValue_80 ?_
      obtain ⟨g19, h⟩ := dG_some h
      refine va_iald hx hb hK hP 2 0 rfl rfl (dg_in g19) dX10_orderValue_81 ?_
      obtain ⟨v20, ev20, h⟩ := dL_some h
      refine kz_topi v20 ev20 ?_
      refine lv_goto (tgt := 86) hx hb dX10_orderValue_82 (by decide) ?_
      exact WX10_orderValue_86 C  _ _ _ _ _ h hP hD hS (lv_sub hl [] rfl)
  rw [if_neg c15] at h
  refine lv_tableOut (tgt := 113) hx hb dX10_orderValue_1 (by simp only [← Int32.toInt_inj, Int32.reduceToInt] at c1 c7 c8 c9 c10 c11 c15; omega) (by decide) ?_
  refine lv_aload_n hx hb dX10_orderValue_113 rfl (lv_at hl 0 rfl) ?_
  obtain ⟨r21, q23, h22, h⟩ := dB_some h
  refine dw_ki (va_runV (As := []) (rest := []) ⟨hx, hb, hml, hown, hts⟩ (qX10_gaps l D ty eo _ ad q  r21 q23 h22) (cwV 0 hts gX10_orderValue_X10_gaps rfl rfl rfl (by decide +kernel) ⟨Nat.le_of_ble_eq_true rfl, Nat.le_of_ble_eq_true rfl⟩) (dw_preV (ci := 10) (q0 := 0) hK hN hE hP hD hS hA rfl rfl) rfl rfl hl.1 rfl (lv_room (Nat.le_of_ble_eq_true rfl)) dX10_orderValue_114 ⟨Nat.le_of_ble_eq_true rfl, Nat.le_of_ble_eq_true rfl⟩) hD hS hA (fun r9 u9 H locs hw hp hd hs => ?_)
  clear hP hD hS
  obtain ⟨rfl, rfl⟩ := hw
  have hP := hp; have hD := hd; have hS := hs; clear hp hd hs
  cases h
  exact kz_iret hx hb hr hlocks hP hK hD hS dX10_orderValue_117 ⟨rfl, rfl⟩

set_option maxHeartbeats 4000000 in
set_option maxRecDepth 100000 in
theorem WX10_partOf_157 {p : Program} {l : Launch} {e : Env} {s : State} {m : MethodId} {args : Array Value} {below : List Frame} {meth : Method} {c : Code} {D : va_G} {ty : Nat → ClassId} {eo : Nat → Nat} {A : Nat → Prop} {ad : Nat → Nat} {o1 : Int64} {o2 : dS} {kU : dS → Int32 → Option (Int64 × dS)} {nU : Nat} (hkU : ∀ (sz : Nat) (q : dS) (p1 : Int32) (o1 : Int64) (o2 : dS), kU q p1 = some (o1, o2) → Met l yX10_sumOf wsX10_sumOf ({ frames := 12 + 3 * nU, cells := 0, slots := 0, locals := 400 + 75 * nU } : Room) (va_Pc [.ref (ad 0), .int p1] (kz_pre D ty eo (w10 ty ad q) sz)) (va_Ql (fun (r : Int64) (u : va_W) => o1 = r ∧ w10 ty ad o2 = u) (kz_B D ty (va_A (w10 ty ad q) sz)) (va_A (w10 ty ad q) sz)) 0 0 (va_A (w10 ty ad q) sz)) (C : dc_C p s m args meth c cX10_partOf (some .long) 4 RX10 wsX10_partOf D ty eo A)   (q : dS) (y0 : Int64) (H : Heap) (locs : List Loc) (ls : Array Slot) (h : zX10_partOf_157 kU  q y0 = some (o1, o2)) (hP : va_P D vwCl (w10 ty ad q) H) (hD : va_D A (w10 ty ad q)) (hS : va_S A s.heap H locs) (hl : lv_has ls 4 []) : W p l e ({ frames := 12 + 3 * nU + 1, cells := 0, slots := 0, locals := 400 + 75 * nU + 26 } : Room) s m args below meth c H locs 0 0 (MQ below (va_Ql (fun (r : Int64) (u : va_W) => o1 = r ∧ w10 ty ad o2 = u) (kz_B D ty A) A) args s 0 0 A) (F0 m 157 ls [.long y0]) := by
  have C0 := C
  obtain ⟨hx, hb, hr, hts, hown, hlocks, hml, hK, hN, hE, hA⟩ := C
  unfold zX10_partOf_157 at h
  cases h
  exact kz_lret hx hb hr hlocks hP hK hD hS dX10_partOf_157 ⟨rfl, rfl⟩
set_option maxHeartbeats 4000000 in
set_option maxRecDepth 100000 in
theorem WX10_partOf_105 {p : Program} {l : Launch} {e : Env} {s : State} {m : MethodId} {args : Array Value} {below : List Frame} {meth : Method} {c : Code} {D : va_G} {ty : Nat → ClassId} {eo : Nat → Nat} {A : Nat → Prop} {ad : Nat → Nat} {o1 : Int64} {o2 : dS} {kU : dS → Int32 → Option (Int64 × dS)} {nU : Nat} (hkU : ∀ (sz : Nat) (q : dS) (p1 : Int32) (o1 : Int64) (o2 : dS), kU q p1 = some (o1, o2) → Met l yX10_sumOf wsX10_sumOf ({ frames := 12 + 3 * nU, cells := 0, slots := 0, locals := 400 + 75 * nU } : Room) (va_Pc [.ref (ad 0), .int p1] (kz_pre D ty eo (w10 ty ad q) sz)) (va_Ql (fun (r : Int64) (u : va_W) => o1 = r ∧ w10 ty ad o2 = u) (kz_B D ty (va_A (w10 ty ad q) sz)) (va_A (w10 ty ad q) sz)) 0 0 (va_A (w10 ty ad q) sz)) (C : dc_C p s m args meth c cX10_partOf (some .long) 4 RX10 wsX10_partOf D ty eo A)   (q : dS)  (H : Heap) (locs : List Loc) (ls : Array Slot) (h : zX10_partOf_105 kU  q = some (o1, o2)) (hP : va_P D vwCl (w10 ty ad q) H) (hD : va_D A (w10 ty ad q)) (hS : va_S A s.heap H locs) (hl : lv_has ls 4 []) : W p l e ({ frames := 12 + 3 * nU + 1, cells := 0, slots := 0, locals := 400 + 75 * nU + 26 } : Room) s m args below meth c H locs 0 0 (MQ below (va_Ql (fun (r : Int64) (u : va_W) => o1 = r ∧ w10 ty ad o2 = u) (kz_B D ty A) A) args s 0 0 A) (F0 m 105 ls []) := by
  have C0 := C
  obtain ⟨hx, hb, hr, hts, hown, hlocks, hml, hK, hN, hE, hA⟩ := C
  unfold zX10_partOf_105 at h
  refine lv_lconst (v := 0) hx hb dX10_partOf_105 (by decide) ?_
  cases h
  exact kz_lret hx hb hr hlocks hP hK hD hS dX10_partOf_106 ⟨rfl, rfl⟩
set_option maxHeartbeats 4000000 in
set_option maxRecDepth 100000 in
theorem WX10_partOf_94 {p : Program} {l : Launch} {e : Env} {s : State} {m : MethodId} {args : Array Value} {below : List Frame} {meth : Method} {c : Code} {D : va_G} {ty : Nat → ClassId} {eo : Nat → Nat} {A : Nat → Prop} {ad : Nat → Nat} {o1 : Int64} {o2 : dS} {kU : dS → Int32 → Option (Int64 × dS)} {nU : Nat} (hkU : ∀ (sz : Nat) (q : dS) (p1 : Int32) (o1 : Int64) (o2 : dS), kU q p1 = some (o1, o2) → Met l yX10_sumOf wsX10_sumOf ({ frames := 12 + 3 * nU, cells := 0, slots := 0, locals := 400 + 75 * nU } : Room) (va_Pc [.ref (ad 0), .int p1] (kz_pre D ty eo (w10 ty ad q) sz)) (va_Ql (fun (r : Int64) (u : va_W) => o1 = r ∧ w10 ty ad o2 = u) (kz_B D ty (va_A (w10 ty ad q) sz)) (va_A (w10 ty ad q) sz)) 0 0 (va_A (w10 ty ad q) sz)) (C : dc_C p s m args meth c cX10_partOf (some .long) 4 RX10 wsX10_partOf D ty eo A)   (q : dS) (x1 : Int32) (x2 : Int32) (x3 : Int32) (H : Heap) (locs : List Loc) (ls : Array Slot) (h : zX10_partOf_94 kU  q x1 x2 x3 = some (o1, o2)) (hP : va_P D vwCl (w10 ty ad q) H) (hD : va_D A (w10 ty ad q)) (hS : va_S A s.heap H locs) (hl : lv_has ls 4 [(0, .ref (ad 0)), (1, .int x1), (2, .int x2), (3, .int x3)]) : W p l e ({ frames := 12 + 3 * nU + 1, cells := 0, slots := 0, locals := 400 + 75 * nU + 26 } : Room) s m args below meth c H locs 0 0 (MQ below (va_Ql (fun (r : Int64) (u : va_W) => o1 = r ∧ w10 ty ad o2 = u) (kz_B D ty A) A) args s 0 0 A) (F0 m 94 ls []) := by
  have C0 := C
  obtain ⟨hx, hb, hr, hts, hown, hlocks, hml, hK, hN, hE, hA⟩ := C
  unfold zX10_partOf_94 at h
  refine lv_iload_n hx hb dX10_partOf_94 rfl (lv_at hl 1 rfl) ?_
  refine lv_if_eq (tgt := 105) hx hb dX10_partOf_95 (by decide) (fun c9 => ?_) (fun c9 => ?_)
  · rw [if_pos c9] at h
    exact WX10_partOf_105 hkU C0  _ _ _ _ h hP hD hS (lv_sub hl [] rfl)
  · rw [if_neg c9] at h
    refine lv_aload_n hx hb dX10_partOf_98 rfl (lv_at hl 0 rfl) ?_
    refine va_get (D := D) (ci := 10) (v := .int (q.1 0 24)) (C := RX10) (T := TX10) (N := 56) hx hb hts u9_wsX10_partOf_X10 hown hK hP 0 rfl rfl 24 (by decide) (hts (.fieldLink RX10 288 "TurnedFloorsModel" "broken" "Z") f9_wsX10_partOf_47) (fun _ h9 => h9) rfl dX10_partOf_99 ?_
    refine lv_if_eq (tgt := 107) hx hb dX10_partOf_102 (by decide) (fun c9 => ?_) (fun c9 => ?_)
    · rw [if_pos c9] at h
      refine lv_iload_n hx hb dX10_partOf_107 rfl (lv_at hl 2 rfl) ?_
      refine lv_bipush (v := 50) hx hb dX10_partOf_108 (by decide) ?_
      refine lv_icmp_ne (tgt := 130) hx hb dX10_partOf_110 (by decide) (fun c9 => ?_) (fun c9 => ?_)
      · rw [if_neg c9] at h
        refine lv_aload_n hx hb dX10_partOf_130 rfl (lv_at hl 0 rfl) ?_
        refine va_get (D := D) (ci := 10) (v := .int (q.1 0 25)) (C := RX10) (T := TX10) (N := 56) hx hb hts u9_wsX10_partOf_X10 hown hK hP 0 rfl rfl 25 (by decide) (hts (.fieldLink RX10 308 "TurnedFloorsModel" "inOrders" "Z") f9_wsX10_partOf_48) (fun _ h9 => h9) rfl dX10_partOf_131 ?_
        refine lv_if_eq (tgt := 147) hx hb dX10_partOf_134 (by decide) (fun c9 => ?_) (fun c9 => ?_)
        · rw [if_pos c9] at h
          refine lv_aload_n hx hb dX10_partOf_147 rfl (lv_at hl 0 rfl) ?_
          refine va_get (D := D) (ci := 10) (v := .ref (ad 12)) (C := RX10) (T := TX10) (N := 56) hx hb hts u9_wsX10_partOf_X10 hown hK hP 0 rfl rfl 26 (by decide) (hts (.fieldLink RX10 63 "TurnedFloorsModel" "asked" "[I") f9_wsX10_partOf_49) (fun _ h9 => h9) rfl dX10_partOf_148 ?_
          refine lv_iload_n hx hb dX10_partOf_151 rfl (lv_at hl 2 rfl) ?_
          refine lv_bipush (v := 8) hx hb dX10_partOf_152 (by decide) ?_
          refine lv_isub hx hb dX10_partOf_154 ?_
          obtain ⟨g1, h⟩ := dG_some h
          refine va_iald hx hb hK hP 12 0 rfl rfl (dg_in g1) dX10_partOf_155 ?_
          obtain ⟨v2, ev2, h⟩ := dL_some h
          refine kz_topi v2 ev2 ?_
          refine lv_i2l (v := Int32.toInt64 v2) hx hb dX10_partOf_156 rfl ?_
          exact WX10_partOf_157 hkU C0  _ _ _ _ _ h hP hD hS (lv_sub hl [] rfl)
        · rw [if_neg c9] at h
          refine lv_aload_n hx hb dX10_partOf_137 rfl (lv_at hl 0 rfl) ?_
          refine lv_iload_n hx hb dX10_partOf_138 rfl (lv_at hl 2 rfl) ?_
          refine lv_iload_n hx hb dX10_partOf_139 rfl (lv_at hl 3 rfl) ?_
          obtain ⟨r3, q5, h4, h⟩ := dB_some h
          refine dw_ki (va_runV (As := [.int x2, .int x3]) (rest := []) ⟨hx, hb, hml, hown, hts⟩ (qX10_orderValue l D ty eo _ ad q x2 x3 r3 q5 h4) (cwV 2 hts gX10_partOf_X10_orderValue rfl rfl rfl (by decide +kernel) ⟨by dsimp only [headSpec]; omega, by dsimp only [headSpec]; omega⟩) (dw_preV (ci := 10) (q0 := 0) hK hN hE hP hD hS hA rfl rfl) rfl rfl hl.1 rfl (lv_room (Nat.le_of_ble_eq_true rfl)) dX10_partOf_140 ⟨Nat.le_of_ble_eq_true rfl, Nat.le_of_ble_eq_true rfl⟩) hD hS hA (fun r9 u9 H locs hw hp hd hs => ?_)
          clear hP hD hS
          obtain ⟨rfl, rfl⟩ := hw
          have hP := hp; have hD := hd; have hS := hs; clear hp hd hs
          refine lv_i2l (v := Int32.toInt64 r3) hx hb dX10_partOf_143 rfl ?_
          refine lv_goto (tgt := 157) hx hb dX10_partOf_144 (by decide) ?_
          exact WX10_partOf_157 hkU C0  _ _ _ _ _ h hP hD hS (lv_sub hl [] rfl)
      · rw [if_pos c9] at h
        refine lv_aload_n hx hb dX10_partOf_113 rfl (lv_at hl 0 rfl) ?_
        refine va_get (D := D) (ci := 10) (v := .ref (ad 2)) (C := RX10) (T := TX10) (N := 56) hx hb hts u9_wsX10_partOf_X10 hown hK hP 0 rfl rfl 2 (by decide) (hts (.fieldLink RX10 28 "TurnedFloorsModel" "kept" "[I") f9_wsX10_partOf_50) (fun _ h9 => h9) rfl dX10_partOf_114 ?_
        refine lv_sipush (v := 2840) hx hb dX10_partOf_117 (by decide) ?_
        refine lv_aload_n hx hb dX10_partOf_120 rfl (lv_at hl 0 rfl) ?_
        refine va_get (D := D) (ci := 10) (v := .int (q.1 0 22)) (C := RX10) (T := TX10) (N := 56) hx hb hts u9_wsX10_partOf_X10 hown hK hP 0 rfl rfl 22 (by decide) (hts (.fieldLink RX10 278 "TurnedFloorsModel" "go" "I") f9_wsX10_partOf_51) (fun _ h9 => h9) rfl dX10_partOf_121 ?_
        refine lv_iadd hx hb dX10_partOf_124 ?_
        refine lv_iconst (v := 1) hx hb dX10_partOf_125 (by decide) ?_
        refine lv_isub hx hb dX10_partOf_126 ?_
        obtain ⟨g6, h⟩ := dG_some h
        refine va_iald hx hb hK hP 2 0 rfl rfl (dg_in g6) dX10_partOf_127 ?_
        obtain ⟨v7, ev7, h⟩ := dL_some h
        refine kz_topi v7 ev7 ?_
        refine lv_i2l (v := Int32.toInt64 v7) hx hb dX10_partOf_128 rfl ?_
        cases h
        exact kz_lret hx hb hr hlocks hP hK hD hS dX10_partOf_129 ⟨rfl, rfl⟩
    · rw [if_neg c9] at h
      exact WX10_partOf_105 hkU C0  _ _ _ _ h hP hD hS (lv_sub hl [] rfl)
set_option maxHeartbeats 4000000 in
set_option maxRecDepth 100000 in
theorem WX10_partOf_70 {p : Program} {l : Launch} {e : Env} {s : State} {m : MethodId} {args : Array Value} {below : List Frame} {meth : Method} {c : Code} {D : va_G} {ty : Nat → ClassId} {eo : Nat → Nat} {A : Nat → Prop} {ad : Nat → Nat} {o1 : Int64} {o2 : dS} {kU : dS → Int32 → Option (Int64 × dS)} {nU : Nat} (hkU : ∀ (sz : Nat) (q : dS) (p1 : Int32) (o1 : Int64) (o2 : dS), kU q p1 = some (o1, o2) → Met l yX10_sumOf wsX10_sumOf ({ frames := 12 + 3 * nU, cells := 0, slots := 0, locals := 400 + 75 * nU } : Room) (va_Pc [.ref (ad 0), .int p1] (kz_pre D ty eo (w10 ty ad q) sz)) (va_Ql (fun (r : Int64) (u : va_W) => o1 = r ∧ w10 ty ad o2 = u) (kz_B D ty (va_A (w10 ty ad q) sz)) (va_A (w10 ty ad q) sz)) 0 0 (va_A (w10 ty ad q) sz)) (C : dc_C p s m args meth c cX10_partOf (some .long) 4 RX10 wsX10_partOf D ty eo A)   (q : dS) (x1 : Int32) (x2 : Int32) (H : Heap) (locs : List Loc) (ls : Array Slot) (h : zX10_partOf_70 kU  q x1 x2 = some (o1, o2)) (hP : va_P D vwCl (w10 ty ad q) H) (hD : va_D A (w10 ty ad q)) (hS : va_S A s.heap H locs) (hl : lv_has ls 4 [(0, .ref (ad 0)), (1, .int x1), (2, .int x2)]) : W p l e ({ frames := 12 + 3 * nU + 1, cells := 0, slots := 0, locals := 400 + 75 * nU + 26 } : Room) s m args below meth c H locs 0 0 (MQ below (va_Ql (fun (r : Int64) (u : va_W) => o1 = r ∧ w10 ty ad o2 = u) (kz_B D ty A) A) args s 0 0 A) (F0 m 70 ls []) := by
  have C0 := C
  obtain ⟨hx, hb, hr, hts, hown, hlocks, hml, hK, hN, hE, hA⟩ := C
  unfold zX10_partOf_70 at h
  refine lv_aload_n hx hb dX10_partOf_70 rfl (lv_at hl 0 rfl) ?_
  refine va_get (D := D) (ci := 10) (v := .ref (ad 2)) (C := RX10) (T := TX10) (N := 56) hx hb hts u9_wsX10_partOf_X10 hown hK hP 0 rfl rfl 2 (by decide) (hts (.fieldLink RX10 28 "TurnedFloorsModel" "kept" "[I") f9_wsX10_partOf_50) (fun _ h9 => h9) rfl dX10_partOf_71 ?_
  refine lv_sipush (v := 2840) hx hb dX10_partOf_74 (by decide) ?_
  refine lv_aload_n hx hb dX10_partOf_77 rfl (lv_at hl 0 rfl) ?_
  refine va_get (D := D) (ci := 10) (v := .int (q.1 0 22)) (C := RX10) (T := TX10) (N := 56) hx hb hts u9_wsX10_partOf_X10 hown hK hP 0 rfl rfl 22 (by decide) (hts (.fieldLink RX10 278 "TurnedFloorsModel" "go" "I") f9_wsX10_partOf_51) (fun _ h9 => h9) rfl dX10_partOf_78 ?_
  refine lv_iadd hx hb dX10_partOf_81 ?_
  obtain ⟨g1, h⟩ := dG_some h
  refine va_iald hx hb hK hP 2 0 rfl rfl (dg_in g1) dX10_partOf_82 ?_
  obtain ⟨v2, ev2, h⟩ := dL_some h
  refine kz_topi v2 ev2 ?_
  refine lv_istore_n (lv' := [(3, .int v2), (0, .ref (ad 0)), (1, .int x1), (2, .int x2)]) hx hb dX10_partOf_83 rfl hl (by decide) rfl (fun ls hl => ?_)
  refine lv_aload_n hx hb dX10_partOf_84 rfl (lv_at hl 1 rfl) ?_
  refine lv_dup hx hb dX10_partOf_85 rfl ?_
  refine va_get (D := D) (ci := 10) (v := .int (q.1 0 22)) (C := RX10) (T := TX10) (N := 56) hx hb hts u9_wsX10_partOf_X10 hown hK hP 0 rfl rfl 22 (by decide) (hts (.fieldLink RX10 278 "TurnedFloorsModel" "go" "I") f9_wsX10_partOf_51) (fun _ h9 => h9) rfl dX10_partOf_86 ?_
  refine lv_iconst (v := 1) hx hb dX10_partOf_89 (by decide) ?_
  refine lv_iadd hx hb dX10_partOf_90 ?_
  refine va_put (D := D) (ci := 10) (v := .int ((q.1 0 22) + 1 : Int32)) (ty := .int) (C := RX10) (T := TX10) (N := 56) hx hb hts u9_wsX10_partOf_X10 tyX10 tyX10_ok nmX10 hown hK hP hD hS 0 rfl rfl 22 (by decide) (hts (.fieldLink RX10 278 "TurnedFloorsModel" "go" "I") f9_wsX10_partOf_51) (fun _ h9 => h9) rfl (by decide +kernel) rfl rfl (Nat.le_of_ble_eq_true rfl) dX10_partOf_91 (fun H locs hp hd hs => ?_)
  obtain ⟨q3, eq3, h⟩ := dL_some h
  refine kz_re (w2 := w10 ty ad q3) hp hd hs (by rw [← eq3]; exact w10_f22 ty ad q ((q.1 0 22) + 1 : Int32)) ?_
  clear hp hd hs hP hD hS
  intro hP hD hS
  exact WX10_partOf_94 hkU C0  _ _ _ _ _ _ _ h hP hD hS (lv_sub hl [1, 2, 3, 0] rfl)
set_option maxHeartbeats 4000000 in
set_option maxRecDepth 100000 in
theorem qX10_partOf (l : Launch) (D : va_G) (ty : Nat → ClassId) (eo : Nat → Nat) (sz : Nat) (ad : Nat → Nat) (kU : dS → Int32 → Option (Int64 × dS)) (nU : Nat) (hkU : ∀ (sz : Nat) (q : dS) (p1 : Int32) (o1 : Int64) (o2 : dS), kU q p1 = some (o1, o2) → Met l yX10_sumOf wsX10_sumOf ({ frames := 12 + 3 * nU, cells := 0, slots := 0, locals := 400 + 75 * nU } : Room) (va_Pc [.ref (ad 0), .int p1] (kz_pre D ty eo (w10 ty ad q) sz)) (va_Ql (fun (r : Int64) (u : va_W) => o1 = r ∧ w10 ty ad o2 = u) (kz_B D ty (va_A (w10 ty ad q) sz)) (va_A (w10 ty ad q) sz)) 0 0 (va_A (w10 ty ad q) sz)) (q : dS) (p1 : Int32) (o1 : Int64) (o2 : dS) (h : zX10_partOf kU q p1 = some (o1, o2)) : Met l yX10_partOf wsX10_partOf ({ frames := 12 + 3 * nU + 1, cells := 0, slots := 0, locals := 400 + 75 * nU + 26 } : Room) (va_Pc [.ref (ad 0), .int p1] (kz_pre D ty eo (w10 ty ad q) sz)) (va_Ql (fun (r : Int64) (u : va_W) => o1 = r ∧ w10 ty ad o2 = u) (kz_B D ty (va_A (w10 ty ad q) sz)) (va_A (w10 ty ad q) sz)) 0 0 (va_A (w10 ty ad q) sz) := by
  refine Met.ofW (cc := cX10_partOf) (maxL := 4) (ret := (some .long)) (by decide) rfl ?_
  intro p e s m args below meth c s₁ B hml hv
  obtain ⟨rfl, hsz, hP, hK, hD0, hN, hE⟩ := hv
  have hx := B.exec
  have hb := B.bytes
  have hr := B.returns
  have hts := atoms_spec (ws := wsX10_partOf) B.pre
  have hown : s.vm.findClass RX10 = some m.cls := findClass_of_methodNamed B.named
  have hlocks := B.notSynchronized
  subst hsz
  have hD := hD0.self (sz := s.heap.size)
  generalize hAe : va_A (w10 ty ad q) s.heap.size = A at hD hE ⊢
  have hA : ∀ q : Nat, s.heap.size ≤ q → A q := fun q h => by rw [← hAe]; exact Or.inr h
  clear hAe
  have hS : va_S A s.heap s.heap [] := va_S.rf
  have hl := lv_entry ([.ref (ad 0), .int p1]) (n := 4) (Nat.le_of_ble_eq_true rfl)
  rw [lg_entry_eq]
  generalize (lg_sl ([.ref (ad 0), .int p1]) ++ List.replicate (4 - (lg_sl ([.ref (ad 0), .int p1])).length) Slot.unset).toArray = ls at hl ⊢
  have hl : lv_has ls 4 [(0, .ref (ad 0)), (1, .int p1)] := hl
  have C : dc_C p s m _ meth c cX10_partOf (some .long) 4 RX10 wsX10_partOf D ty eo A := ⟨hx, hb, hr, hts, hown, hlocks, hml, hK, hN, hE, hA⟩
  unfold zX10_partOf at h
  refine lv_aload_n hx hb dX10_partOf_0 rfl (lv_at hl 0 rfl) ?_
  refine lv_bipush (v := 91) hx hb dX10_partOf_1 (by decide) ?_
  obtain ⟨r1, h2, h⟩ := dV_some h
  refine dw_ks (va_runS (As := [.int 91]) (rest := [.ref (ad 0)]) ⟨hx, hb, hml, hown, hts⟩ (qX10_sign l D ty eo _ 91 _ h2) (va_cwS 1 hts gX10_partOf_X10_sign rfl rfl rfl (by decide +kernel) ⟨by dsimp only [headSpec]; omega, by dsimp only [headSpec]; omega⟩) (kz_preS hK hN hE hP hD hS hA [] (by decide) rfl) rfl rfl hl.1 rfl (lv_room (Nat.le_of_ble_eq_true rfl)) dX10_partOf_3 ⟨Nat.le_of_ble_eq_true rfl, Nat.le_of_ble_eq_true rfl⟩) hP hD hS hA (fun _ _ h9 => h9.2.symm) (fun r9 u9 H locs hw hp hd hs => ?_)
  obtain ⟨rfl, -⟩ := hw
  clear hP hD hS
  have hP := hp; have hD := hd; have hS := hs; clear hp hd hs
  obtain ⟨r3, q5, h4, h⟩ := dB_some h
  refine dw_ki (va_runV (As := [.int r1]) (rest := []) ⟨hx, hb, hml, hown, hts⟩ (qX10_passes0 l D ty eo _ ad q r1 r3 q5 h4) (cwV 1 hts gX10_partOf_X10_passes0 rfl rfl rfl (by decide +kernel) ⟨by dsimp only [headSpec]; omega, by dsimp only [headSpec]; omega⟩) (dw_preV (ci := 10) (q0 := 0) hK hN hE hP hD hS hA rfl rfl) rfl rfl hl.1 rfl (lv_room (Nat.le_of_ble_eq_true rfl)) dX10_partOf_6 ⟨Nat.le_of_ble_eq_true rfl, Nat.le_of_ble_eq_true rfl⟩) hD hS hA (fun r9 u9 H locs hw hp hd hs => ?_)
  clear hP hD hS
  obtain ⟨rfl, rfl⟩ := hw
  have hP := hp; have hD := hd; have hS := hs; clear hp hd hs
  refine lv_if_eq (tgt := 30) hx hb dX10_partOf_9 (by decide) (fun c9 => ?_) (fun c9 => ?_)
  · rw [if_pos c9] at h
    refine lv_aload_n hx hb dX10_partOf_30 rfl (lv_at hl 0 rfl) ?_
    refine lv_aload_n hx hb dX10_partOf_31 rfl (lv_at hl 0 rfl) ?_
    refine va_get (D := D) (ci := 10) (v := .int (q5.1 0 22)) (C := RX10) (T := TX10) (N := 56) hx hb hts (by decide +kernel) hown hK hP 0 rfl rfl 22 (by decide) (hts (.fieldLink RX10 278 "TurnedFloorsModel" "go" "I") (by decide +kernel)) (fun _ h9 => h9) rfl dX10_partOf_32 ?_
    obtain ⟨r6, q8, h7, h⟩ := dB_some h
    refine dw_ki (va_runV (As := [.int (q5.1 0 22)]) (rest := []) ⟨hx, hb, hml, hown, hts⟩ (qX10_codeAt l D ty eo _ ad q5 (q5.1 0 22) r6 q8 h7) (cwV 1 hts gX10_partOf_X10_codeAt rfl rfl rfl (by decide +kernel) ⟨by dsimp only [headSpec]; omega, by dsimp only [headSpec]; omega⟩) (dw_preV (ci := 10) (q0 := 0) hK hN hE hP hD hS hA rfl rfl) rfl rfl hl.1 rfl (lv_room (Nat.le_of_ble_eq_true rfl)) dX10_partOf_35 ⟨Nat.le_of_ble_eq_true rfl, Nat.le_of_ble_eq_true rfl⟩) hD hS hA (fun r9 u9 H locs hw hp hd hs => ?_)
    clear hP hD hS
    obtain ⟨rfl, rfl⟩ := hw
    have hP := hp; have hD := hd; have hS := hs; clear hp hd hs
    refine lv_istore_n (lv' := [(2, .int r6), (0, .ref (ad 0)), (1, .int p1)]) hx hb dX10_partOf_38 rfl hl (by decide) rfl (fun ls hl => ?_)
    refine lv_iconst (v := 0) hx hb dX10_partOf_39 (by decide) ?_
    refine lv_istore_n (lv' := [(3, .int 0), (2, .int r6), (0, .ref (ad 0)), (1, .int p1)]) hx hb dX10_partOf_40 rfl hl (by decide) rfl (fun ls hl => ?_)
    refine lv_aload_n hx hb dX10_partOf_41 rfl (lv_at hl 2 rfl) ?_
    refine lv_dup hx hb dX10_partOf_42 rfl ?_
    refine va_get (D := D) (ci := 10) (v := .int (q8.1 0 22)) (C := RX10) (T := TX10) (N := 56) hx hb hts (by decide +kernel) hown hK hP 0 rfl rfl 22 (by decide) (hts (.fieldLink RX10 278 "TurnedFloorsModel" "go" "I") (by decide +kernel)) (fun _ h9 => h9) rfl dX10_partOf_43 ?_
    refine lv_iconst (v := 1) hx hb dX10_partOf_46 (by decide) ?_
    refine lv_iadd hx hb dX10_partOf_47 ?_
    refine va_put (D := D) (ci := 10) (v := .int ((q8.1 0 22) + 1 : Int32)) (ty := .int) (C := RX10) (T := TX10) (N := 56) hx hb hts (by decide +kernel) tyX10 tyX10_ok nmX10 hown hK hP hD hS 0 rfl rfl 22 (by decide) (hts (.fieldLink RX10 278 "TurnedFloorsModel" "go" "I") (by decide +kernel)) (fun _ h9 => h9) rfl (by decide +kernel) rfl rfl (Nat.le_of_ble_eq_true rfl) dX10_partOf_48 (fun H locs hp hd hs => ?_)
    obtain ⟨q9, eq9, h⟩ := dL_some h
    refine kz_re (w2 := w10 ty ad q9) hp hd hs (by rw [← eq9]; exact w10_f22 ty ad q8 ((q8.1 0 22) + 1 : Int32)) ?_
    clear hp hd hs hP hD hS
    intro hP hD hS
    refine lv_aload_n hx hb dX10_partOf_51 rfl (lv_at hl 2 rfl) ?_
    refine va_get (D := D) (ci := 10) (v := .int (q9.1 0 25)) (C := RX10) (T := TX10) (N := 56) hx hb hts (by decide +kernel) hown hK hP 0 rfl rfl 25 (by decide) (hts (.fieldLink RX10 308 "TurnedFloorsModel" "inOrders" "Z") (by decide +kernel)) (fun _ h9 => h9) rfl dX10_partOf_52 ?_
    refine lv_if_eq (tgt := 94) hx hb dX10_partOf_55 (by decide) (fun c9 => ?_) (fun c9 => ?_)
    · rw [if_pos c9] at h
      exact WX10_partOf_94 hkU C  _ _ _ _ _ _ _ h hP hD hS (lv_sub hl [2, 3, 1, 0] rfl)
    · rw [if_neg c9] at h
      refine lv_iload_n hx hb dX10_partOf_58 rfl (lv_at hl 1 rfl) ?_
      refine lv_bipush (v := 21) hx hb dX10_partOf_59 (by decide) ?_
      refine lv_icmp_eq (tgt := 70) hx hb dX10_partOf_61 (by decide) (fun c9 => ?_) (fun c9 => ?_)
      · rw [if_pos c9] at h
        exact WX10_partOf_70 hkU C  _ _ _ _ _ _ h hP hD hS (lv_sub hl [2, 3, 1] rfl)
      · rw [if_neg c9] at h
        refine lv_iload_n hx hb dX10_partOf_64 rfl (lv_at hl 1 rfl) ?_
        refine lv_bipush (v := 15) hx hb dX10_partOf_65 (by decide) ?_
        refine lv_icmp_ne (tgt := 94) hx hb dX10_partOf_67 (by decide) (fun c9 => ?_) (fun c9 => ?_)
        · rw [if_neg c9] at h
          exact WX10_partOf_94 hkU C  _ _ _ _ _ _ _ h hP hD hS (lv_sub hl [2, 3, 1, 0] rfl)
        · rw [if_pos c9] at h
          exact WX10_partOf_70 hkU C  _ _ _ _ _ _ h hP hD hS (lv_sub hl [2, 3, 1] rfl)
  · rw [if_neg c9] at h
    refine lv_aload_n hx hb dX10_partOf_12 rfl (lv_at hl 0 rfl) ?_
    refine lv_iload_n hx hb dX10_partOf_13 rfl (lv_at hl 1 rfl) ?_
    obtain ⟨r10, q12, h11, h⟩ := dB_some h
    refine dw_kl (va_runV (As := [.int p1]) (rest := []) ⟨hx, hb, hml, hown, hts⟩ (hkU _ q5 p1 r10 q12 h11) (cwV 1 hts gX10_partOf_X10_sumOf rfl rfl rfl (by decide +kernel) ⟨by dsimp only [headSpec]; omega, by dsimp only [headSpec]; omega⟩) (dw_preV (ci := 10) (q0 := 0) hK hN hE hP hD hS hA rfl rfl) rfl rfl hl.1 rfl (lv_room (Nat.le_of_ble_eq_true rfl)) dX10_partOf_14 ⟨Nat.le_of_ble_eq_true rfl, Nat.le_of_ble_eq_true rfl⟩) hD hS hA (fun r9 u9 H locs hw hp hd hs => ?_)
    clear hP hD hS
    obtain ⟨rfl, rfl⟩ := hw
    have hP := hp; have hD := hd; have hS := hs; clear hp hd hs
    refine lv_lstore_n (lv' := [(2, .long r10), (0, .ref (ad 0)), (1, .int p1)]) hx hb dX10_partOf_17 rfl hl (by decide) rfl (fun ls hl => ?_)
    refine lv_aload_n hx hb dX10_partOf_18 rfl (lv_at hl 1 rfl) ?_
    refine lv_dup hx hb dX10_partOf_19 rfl ?_
    refine va_get (D := D) (ci := 10) (v := .int (q12.1 0 22)) (C := RX10) (T := TX10) (N := 56) hx hb hts (by decide +kernel) hown hK hP 0 rfl rfl 22 (by decide) (hts (.fieldLink RX10 278 "TurnedFloorsModel" "go" "I") (by decide +kernel)) (fun _ h9 => h9) rfl dX10_partOf_20 ?_
    refine lv_iconst (v := 1) hx hb dX10_partOf_23 (by decide) ?_
    refine lv_iadd hx hb dX10_partOf_24 ?_
    refine va_put (D := D) (ci := 10) (v := .int ((q12.1 0 22) + 1 : Int32)) (ty := .int) (C := RX10) (T := TX10) (N := 56) hx hb hts (by decide +kernel) tyX10 tyX10_ok nmX10 hown hK hP hD hS 0 rfl rfl 22 (by decide) (hts (.fieldLink RX10 278 "TurnedFloorsModel" "go" "I") (by decide +kernel)) (fun _ h9 => h9) rfl (by decide +kernel) rfl rfl (Nat.le_of_ble_eq_true rfl) dX10_partOf_25 (fun H locs hp hd hs => ?_)
    obtain ⟨q13, eq13, h⟩ := dL_some h
    refine kz_re (w2 := w10 ty ad q13) hp hd hs (by rw [← eq13]; exact w10_f22 ty ad q12 ((q12.1 0 22) + 1 : Int32)) ?_
    clear hp hd hs hP hD hS
    intro hP hD hS
    refine lv_lload_n hx hb dX10_partOf_28 rfl (lv_at hl 0 rfl) ?_
    cases h
    exact kz_lret hx hb hr hlocks hP hK hD hS dX10_partOf_29 ⟨rfl, rfl⟩

set_option maxHeartbeats 4000000 in
set_option maxRecDepth 100000 in
theorem WX10_bounded_37 {p : Program} {l : Launch} {e : Env} {s : State} {m : MethodId} {args : Array Value} {below : List Frame} {meth : Method} {c : Code} {D : va_G} {ty : Nat → ClassId} {eo : Nat → Nat} {A : Nat → Prop} {ad : Nat → Nat} {o1 : Int64} {o2 : dS} (C : dc_C p s m args meth c cX10_bounded (some .long) 4 RX10 wsX10_bounded D ty eo A)   (q : dS) (y0 : Int64) (H : Heap) (locs : List Loc) (ls : Array Slot) (h : zX10_bounded_37  q y0 = some (o1, o2)) (hP : va_P D vwCl (w10 ty ad q) H) (hD : va_D A (w10 ty ad q)) (hS : va_S A s.heap H locs) (hl : lv_has ls 4 []) : W p l e ({ frames := 0, cells := 0, slots := 0, locals := 0 } : Room) s m args below meth c H locs 0 0 (MQ below (va_Ql (fun (r : Int64) (u : va_W) => o1 = r ∧ w10 ty ad o2 = u) (kz_B D ty A) A) args s 0 0 A) (F0 m 37 ls [.long y0]) := by
  have C0 := C
  obtain ⟨hx, hb, hr, hts, hown, hlocks, hml, hK, hN, hE, hA⟩ := C
  unfold zX10_bounded_37 at h
  cases h
  exact kz_lret hx hb hr hlocks hP hK hD hS dX10_bounded_37 ⟨rfl, rfl⟩
set_option maxHeartbeats 4000000 in
set_option maxRecDepth 100000 in
theorem WX10_bounded_25 {p : Program} {l : Launch} {e : Env} {s : State} {m : MethodId} {args : Array Value} {below : List Frame} {meth : Method} {c : Code} {D : va_G} {ty : Nat → ClassId} {eo : Nat → Nat} {A : Nat → Prop} {ad : Nat → Nat} {o1 : Int64} {o2 : dS} (C : dc_C p s m args meth c cX10_bounded (some .long) 4 RX10 wsX10_bounded D ty eo A)   (q : dS) (x1 : Int64) (H : Heap) (locs : List Loc) (ls : Array Slot) (h : zX10_bounded_25  q x1 = some (o1, o2)) (hP : va_P D vwCl (w10 ty ad q) H) (hD : va_D A (w10 ty ad q)) (hS : va_S A s.heap H locs) (hl : lv_has ls 4 [(0, .ref (ad 0)), (1, .long x1)]) : W p l e ({ frames := 0, cells := 0, slots := 0, locals := 0 } : Room) s m args below meth c H locs 0 0 (MQ below (va_Ql (fun (r : Int64) (u : va_W) => o1 = r ∧ w10 ty ad o2 = u) (kz_B D ty A) A) args s 0 0 A) (F0 m 25 ls []) := by
  have C0 := C
  obtain ⟨hx, hb, hr, hts, hown, hlocks, hml, hK, hN, hE, hA⟩ := C
  unfold zX10_bounded_25 at h
  refine lv_aload_n hx hb dX10_bounded_25 rfl (lv_at hl 0 rfl) ?_
  refine va_get (D := D) (ci := 10) (v := .int (q.1 0 24)) (C := RX10) (T := TX10) (N := 56) hx hb hts u9_wsX10_bounded_X10 hown hK hP 0 rfl rfl 24 (by decide) (hts (.fieldLink RX10 288 "TurnedFloorsModel" "broken" "Z") f9_wsX10_bounded_53) (fun _ h9 => h9) rfl dX10_bounded_26 ?_
  refine lv_if_eq (tgt := 36) hx hb dX10_bounded_29 (by decide) (fun c9 => ?_) (fun c9 => ?_)
  · rw [if_pos c9] at h
    refine lv_lload_n hx hb dX10_bounded_36 rfl (lv_at hl 1 rfl) ?_
    exact WX10_bounded_37 C0  _ _ _ _ _ h hP hD hS (lv_sub hl [] rfl)
  · rw [if_neg c9] at h
    refine lv_lconst (v := 0) hx hb dX10_bounded_32 (by decide) ?_
    refine lv_goto (tgt := 37) hx hb dX10_bounded_33 (by decide) ?_
    exact WX10_bounded_37 C0  _ _ _ _ _ h hP hD hS (lv_sub hl [] rfl)
set_option maxHeartbeats 4000000 in
set_option maxRecDepth 100000 in
theorem WX10_bounded_20 {p : Program} {l : Launch} {e : Env} {s : State} {m : MethodId} {args : Array Value} {below : List Frame} {meth : Method} {c : Code} {D : va_G} {ty : Nat → ClassId} {eo : Nat → Nat} {A : Nat → Prop} {ad : Nat → Nat} {o1 : Int64} {o2 : dS} (C : dc_C p s m args meth c cX10_bounded (some .long) 4 RX10 wsX10_bounded D ty eo A)   (q : dS) (x1 : Int64) (H : Heap) (locs : List Loc) (ls : Array Slot) (h : zX10_bounded_20  q x1 = some (o1, o2)) (hP : va_P D vwCl (w10 ty ad q) H) (hD : va_D A (w10 ty ad q)) (hS : va_S A s.heap H locs) (hl : lv_has ls 4 [(0, .ref (ad 0)), (1, .long x1)]) : W p l e ({ frames := 0, cells := 0, slots := 0, locals := 0 } : Room) s m args below meth c H locs 0 0 (MQ below (va_Ql (fun (r : Int64) (u : va_W) => o1 = r ∧ w10 ty ad o2 = u) (kz_B D ty A) A) args s 0 0 A) (F0 m 20 ls []) := by
  have C0 := C
  obtain ⟨hx, hb, hr, hts, hown, hlocks, hml, hK, hN, hE, hA⟩ := C
  unfold zX10_bounded_20 at h
  refine lv_aload_n hx hb dX10_bounded_20 rfl (lv_at hl 0 rfl) ?_
  refine lv_iconst (v := 1) hx hb dX10_bounded_21 (by decide) ?_
  refine va_put (D := D) (ci := 10) (v := .int 1) (ty := .boolean) (C := RX10) (T := TX10) (N := 56) hx hb hts u9_wsX10_bounded_X10 tyX10 tyX10_ok nmX10 hown hK hP hD hS 0 rfl rfl 24 (by decide) (hts (.fieldLink RX10 288 "TurnedFloorsModel" "broken" "Z") f9_wsX10_bounded_53) (fun _ h9 => h9) rfl (by decide +kernel) rfl rfl (Nat.le_of_ble_eq_true rfl) dX10_bounded_22 (fun H locs hp hd hs => ?_)
  obtain ⟨q1, eq1, h⟩ := dL_some h
  refine kz_re (w2 := w10 ty ad q1) hp hd hs (by rw [← eq1]; exact w10_f24 ty ad q 1) ?_
  clear hp hd hs hP hD hS
  intro hP hD hS
  exact WX10_bounded_25 C0  _ _ _ _ _ h hP hD hS (lv_sub hl [0, 1] rfl)
set_option maxHeartbeats 4000000 in
set_option maxRecDepth 100000 in
theorem qX10_bounded (l : Launch) (D : va_G) (ty : Nat → ClassId) (eo : Nat → Nat) (sz : Nat) (ad : Nat → Nat) (q : dS) (p1 : Int64) (p2 : Int32) (o1 : Int64) (o2 : dS) (h : zX10_bounded q p1 p2 = some (o1, o2)) : Met l yX10_bounded wsX10_bounded ({ frames := 0, cells := 0, slots := 0, locals := 0 } : Room) (va_Pc [.ref (ad 0), .long p1, .int p2] (kz_pre D ty eo (w10 ty ad q) sz)) (va_Ql (fun (r : Int64) (u : va_W) => o1 = r ∧ w10 ty ad o2 = u) (kz_B D ty (va_A (w10 ty ad q) sz)) (va_A (w10 ty ad q) sz)) 0 0 (va_A (w10 ty ad q) sz) := by
  refine Met.ofW (cc := cX10_bounded) (maxL := 4) (ret := (some .long)) (by decide) rfl ?_
  intro p e s m args below meth c s₁ B hml hv
  obtain ⟨rfl, hsz, hP, hK, hD0, hN, hE⟩ := hv
  have hx := B.exec
  have hb := B.bytes
  have hr := B.returns
  have hts := atoms_spec (ws := wsX10_bounded) B.pre
  have hown : s.vm.findClass RX10 = some m.cls := findClass_of_methodNamed B.named
  have hlocks := B.notSynchronized
  subst hsz
  have hD := hD0.self (sz := s.heap.size)
  generalize hAe : va_A (w10 ty ad q) s.heap.size = A at hD hE ⊢
  have hA : ∀ q : Nat, s.heap.size ≤ q → A q := fun q h => by rw [← hAe]; exact Or.inr h
  clear hAe
  have hS : va_S A s.heap s.heap [] := va_S.rf
  have hl := lv_entry ([.ref (ad 0), .long p1, .int p2]) (n := 4) (Nat.le_of_ble_eq_true rfl)
  rw [lg_entry_eq]
  generalize (lg_sl ([.ref (ad 0), .long p1, .int p2]) ++ List.replicate (4 - (lg_sl ([.ref (ad 0), .long p1, .int p2])).length) Slot.unset).toArray = ls at hl ⊢
  have hl : lv_has ls 4 [(0, .ref (ad 0)), (1, .long p1), (3, .int p2)] := hl
  have C : dc_C p s m _ meth c cX10_bounded (some .long) 4 RX10 wsX10_bounded D ty eo A := ⟨hx, hb, hr, hts, hown, hlocks, hml, hK, hN, hE, hA⟩
  unfold zX10_bounded at h
  refine lv_iload_n hx hb dX10_bounded_0 rfl (lv_at hl 2 rfl) ?_
  refine lv_if_eq (tgt := 25) hx hb dX10_bounded_1 (by decide) (fun c9 => ?_) (fun c9 => ?_)
  · rw [if_pos c9] at h
    exact WX10_bounded_25 C  _ _ _ _ _ h hP hD hS (lv_sub hl [0, 1] rfl)
  · rw [if_neg c9] at h
    refine lv_lload_n hx hb dX10_bounded_4 rfl (lv_at hl 1 rfl) ?_
    refine lv_ldc2 (v := 1000000000) hx hb hown (hts (.constantLong RX10 284 1000000000) f9_wsX10_bounded_54) dX10_bounded_5 ?_
    refine W.lcmp hx hb dX10_bounded_8 ?_
    refine lv_if_gt (tgt := 20) hx hb dX10_bounded_9 (by decide) (fun c9 => ?_) (fun c9 => ?_)
    · rw [if_pos c9] at h
      exact WX10_bounded_20 C  _ _ _ _ _ h hP hD hS (lv_sub hl [0, 1] rfl)
    · rw [if_neg c9] at h
      refine lv_lload_n hx hb dX10_bounded_12 rfl (lv_at hl 1 rfl) ?_
      refine lv_ldc2 (v := (-1000000000)) hx hb hown (hts (.constantLong RX10 286 (-1000000000)) f9_wsX10_bounded_55) dX10_bounded_13 ?_
      refine W.lcmp hx hb dX10_bounded_16 ?_
      refine lv_if_ge (tgt := 25) hx hb dX10_bounded_17 (by decide) (fun c9 => ?_) (fun c9 => ?_)
      · rw [if_pos c9] at h
        exact WX10_bounded_25 C  _ _ _ _ _ h hP hD hS (lv_sub hl [0, 1] rfl)
      · rw [if_neg c9] at h
        exact WX10_bounded_20 C  _ _ _ _ _ h hP hD hS (lv_sub hl [0, 1] rfl)
