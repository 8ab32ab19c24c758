theorem u9_wsX4_readTest_X4 : ∀ w ∈ u_ws RX4 TX4 11, w ∈ wsX4_readTest := by
  first | exact fun w h => List.mem_cons_of_mem _ (List.mem_append_right _ h) | decide +kernel
theorem u9_wsX4_readTest_X7 : ∀ w ∈ u_ws RX7 TX7 8, w ∈ wsX4_readTest := by
  first | exact fun w h => List.mem_cons_of_mem _ (List.mem_append_right _ h) | decide +kernel
theorem f9_wsX4_readTest_547 : (Cond.fieldLink RX4 15 "TurnedFloors$Reader" "length" "I") ∈ wsX4_readTest := by decide +kernel
theorem f9_wsX4_readTest_548 : (Cond.fieldLink RX4 45 "TurnedFloors$Reader" "faultAt" "I") ∈ wsX4_readTest := by decide +kernel
theorem f9_wsX4_readTest_549 : (Cond.fieldLink RX4 23 "TurnedFloors$Reader" "text" "LTurnedFloors$Text;") ∈ wsX4_readTest := by decide +kernel
theorem u9_wsX7_endTest_X7 : ∀ w ∈ u_ws RX7 TX7 8, w ∈ wsX7_endTest := by
  first | exact fun w h => List.mem_cons_of_mem _ (List.mem_append_right _ h) | decide +kernel
theorem f9_wsX7_endTest_551 : (Cond.fieldLink RX7 7 "TurnedFloors$Text" "clauses" "I") ∈ wsX7_endTest := by decide +kernel
theorem f9_wsX7_endTest_552 : (Cond.fieldLink RX7 29 "TurnedFloors$Text" "testTo" "[I") ∈ wsX7_endTest := by decide +kernel
theorem f9_wsX7_endTest_553 : (Cond.fieldLink RX7 13 "TurnedFloors$Text" "length" "I") ∈ wsX7_endTest := by decide +kernel
theorem u9_wsX4_readClause_X4 : ∀ w ∈ u_ws RX4 TX4 11, w ∈ wsX4_readClause := by
  first | exact fun w h => List.mem_cons_of_mem _ (List.mem_append_right _ h) | decide +kernel
theorem f9_wsX4_readClause_555 : (Cond.fieldLink RX4 45 "TurnedFloors$Reader" "faultAt" "I") ∈ wsX4_readClause := by decide +kernel
theorem f9_wsX4_readClause_556 : (Cond.fieldLink RX4 23 "TurnedFloors$Reader" "text" "LTurnedFloors$Text;") ∈ wsX4_readClause := by decide +kernel
theorem f9_wsX4_readClause_557 : (Cond.fieldLink RX4 19 "TurnedFloors$Reader" "ofOrders" "Z") ∈ wsX4_readClause := by decide +kernel
theorem u9_wsX4_read_X4 : ∀ w ∈ u_ws RX4 TX4 11, w ∈ wsX4_read := by
  first | exact fun w h => List.mem_cons_of_mem _ (List.mem_append_right _ h) | decide +kernel
theorem f9_wsX4_read_559 : (Cond.fieldLink RX4 45 "TurnedFloors$Reader" "faultAt" "I") ∈ wsX4_read := by decide +kernel
theorem f9_wsX4_read_560 : (Cond.fieldLink RX4 27 "TurnedFloors$Reader" "token" "I") ∈ wsX4_read := by decide +kernel
theorem f9_wsX4_read_561 : (Cond.fieldLink RX4 9 "TurnedFloors$Reader" "bytes" "[I") ∈ wsX4_read := by decide +kernel
theorem f9_wsX4_read_562 : (Cond.methodLink RX4 48 Lib.Math.min.name) ∈ wsX4_read := by decide +kernel
theorem f9_wsX4_read_563 : (Cond.static Lib.Math.min.name) ∈ wsX4_read := by decide +kernel
theorem f9_wsX4_read_564 : (Cond.initialized "java/lang/Math") ∈ wsX4_read := by decide +kernel
theorem f9_wsX4_read_565 : (Cond.code Lib.Math.min.name Lib.Math.min.code 2 (some .int)) ∈ wsX4_read := by decide +kernel
theorem f9_wsX4_read_566 : (Cond.fieldLink RX4 15 "TurnedFloors$Reader" "length" "I") ∈ wsX4_read := by decide +kernel
theorem f9_wsX4_read_567 : (Cond.fieldLink RX4 19 "TurnedFloors$Reader" "ofOrders" "Z") ∈ wsX4_read := by decide +kernel
theorem f9_wsX4_read_568 : (Cond.fieldLink RX4 23 "TurnedFloors$Reader" "text" "LTurnedFloors$Text;") ∈ wsX4_read := by decide +kernel
theorem f9_wsX4_read_569 : (Cond.fieldLink RX4 33 "TurnedFloors$Reader" "stop" "I") ∈ wsX4_read := by decide +kernel
theorem f9_wsX4_read_570 : (Cond.fieldLink RX4 39 "TurnedFloors$Reader" "parts" "I") ∈ wsX4_read := by decide +kernel
theorem f9_wsX4_read_571 : (Cond.fieldLink RX4 42 "TurnedFloors$Reader" "open" "I") ∈ wsX4_read := by decide +kernel
set_option maxHeartbeats 4000000 in
set_option maxRecDepth 100000 in
theorem WX4_isSame_s24_t11_20b {p : Program} {l : Launch} {e : Env} {s : State} {m : MethodId} {args : Array Value} {below : List Frame} {meth : Method} {c : Code} {D : va_G} {ty : Nat → ClassId} {eo : Nat → Nat} {A : Nat → Prop} {ad : Nat → Nat} {o1 : Int32} {o2 : dK} (C : dc_C p s m args meth c cX4_isSame (some .boolean) 5 RX4 wsX4_isSame D ty eo A) {k20 : dK → Int32 → Int32 → Int32 → Option (Int32 × dK)} (hk20 : ∀ (q : dK) (x2 : Int32) (x3 : Int32) (x4 : Int32) (H : Heap) (locs : List Loc) (ls : Array Slot), k20 q x2 x3 x4 = some (o1, o2) → va_P D vwCl (wF ty ad q) H → va_D A (wF ty ad q) → va_S A s.heap H locs → lv_has ls 5 [(0, .ref (ad 24)), (1, .ref (eo (1 + 11))), (2, .int x2), (3, .int x3), (4, .int x4)] → W p l e ({ frames := 4, cells := 0, slots := 0, locals := 85 } : Room) s m args below meth c H locs 0 0 (MQ below (va_Qi (fun (r : Int32) (u : va_W) => o1 = r ∧ wF ty ad o2 = u) (kz_B D ty A) A) args s 0 0 A) (F0 m 20 ls [])) (q : dK) (x2 : Int32) (x3 : Int32) (x4 : Int32) (H : Heap) (locs : List Loc) (ls : Array Slot) (h : zX4_isSame_s24_t11_20b k20 q x2 x3 x4 = some (o1, o2)) (hP : va_P D vwCl (wF ty ad q) H) (hD : va_D A (wF ty ad q)) (hS : va_S A s.heap H locs) (hl : lv_has ls 5 [(0, .ref (ad 24)), (1, .ref (eo (1 + 11))), (2, .int x2), (3, .int x3), (4, .int x4)]) : W p l e ({ frames := 4, cells := 0, slots := 0, locals := 85 } : Room) s m args below meth c H locs 0 0 (MQ below (va_Qi (fun (r : Int32) (u : va_W) => o1 = r ∧ wF ty ad o2 = u) (kz_B D ty A) A) args s 0 0 A) (F0 m 20 ls []) := by
  have C0 := C
  obtain ⟨hx, hb, hr, hts, hown, hlocks, hml, hK, hN, hE, hA⟩ := C
  unfold zX4_isSame_s24_t11_20b at h
  refine lv_iload hx hb dX4_isSame_20 (lv_at hl 4 rfl) ?_
  refine lv_iload_n hx hb dX4_isSame_22 rfl (lv_at hl 3 rfl) ?_
  refine lv_icmp_ge (tgt := 57) hx hb dX4_isSame_23 (by decide) (fun c9 => ?_) (fun c9 => ?_)
  · rw [if_pos c9] at h
    refine lv_iconst (v := 1) hx hb dX4_isSame_57 (by decide) ?_
    cases h
    exact kz_zret hx hb hr hlocks rfl hP hK hD hS dX4_isSame_58 ⟨rfl, rfl⟩
  · rw [if_neg c9] at h
    refine lv_aload_n hx hb dX4_isSame_26 rfl (lv_at hl 1 rfl) ?_
    refine lv_iload hx hb dX4_isSame_27 (lv_at hl 4 rfl) ?_
    obtain ⟨g1, h⟩ := dG_some h
    refine dw_ks (va_runV (As := [.int x4]) (rest := []) ⟨hx, hb, hml, hown, hts⟩ (kcJ0ch l D ty eo _ 11 (by decide) x4 (dg_in g1)) (cwV 1 hts gX4_isSame_J0_charAt_5068e rfl rfl rfl (by decide +kernel) ⟨Nat.le_of_ble_eq_true rfl, Nat.le_of_ble_eq_true rfl⟩) (kz_preT hK hN hE hP hD hS hA 11 (by decide) [] (by decide) rfl) rfl rfl hl.1 rfl (lv_room (Nat.le_of_ble_eq_true rfl)) dX4_isSame_29 ⟨Nat.le_of_ble_eq_true rfl, Nat.le_of_ble_eq_true rfl⟩) hP hD hS hA (fun _ _ h9 => h9.2.symm) (fun r9 u9 H locs hw hp hd hs => ?_)
    obtain ⟨rfl, -⟩ := hw
    clear hP hD hS
    have hP := hp; have hD := hd; have hS := hs; clear hp hd hs
    obtain ⟨v2, ev2, h⟩ := dL_some h
    refine kz_topi v2 ev2 ?_
    refine lv_aload_n hx hb dX4_isSame_32 rfl (lv_at hl 0 rfl) ?_
    refine va_get (D := D) (ci := 4) (v := dN (ad 46) (q.1 24 0)) (C := RX4) (T := TX4) (N := 11) hx hb hts u9_wsX4_isSame_X4 hown hK hP 24 rfl rfl 0 (by decide) (hts (.fieldLink RX4 9 "TurnedFloors$Reader" "bytes" "[I") f9_wsX4_isSame_474) (fun _ h9 => h9) rfl dX4_isSame_33 ?_
    obtain ⟨g3, h⟩ := dG_some h
    refine kz_topv (if_neg (dnz_ne g3)) ?_
    refine lv_aload_n hx hb dX4_isSame_36 rfl (lv_at hl 0 rfl) ?_
    refine va_get (D := D) (ci := 4) (v := .int (q.1 24 5)) (C := RX4) (T := TX4) (N := 11) hx hb hts u9_wsX4_isSame_X4 hown hK hP 24 rfl rfl 5 (by decide) (hts (.fieldLink RX4 30 "TurnedFloors$Reader" "start" "I") f9_wsX4_isSame_475) (fun _ h9 => h9) rfl dX4_isSame_37 ?_
    refine lv_iload hx hb dX4_isSame_40 (lv_at hl 4 rfl) ?_
    refine lv_iadd hx hb dX4_isSame_42 ?_
    refine lv_iload_n hx hb dX4_isSame_43 rfl (lv_at hl 2 rfl) ?_
    refine lv_isub hx hb dX4_isSame_44 ?_
    obtain ⟨g4, h⟩ := dG_some h
    refine va_iald hx hb hK hP 46 0 rfl rfl (dg_in g4) dX4_isSame_45 ?_
    obtain ⟨v5, ev5, h⟩ := dL_some h
    refine kz_topi v5 ev5 ?_
    refine lv_icmp_eq (tgt := 51) hx hb dX4_isSame_46 (by decide) (fun c9 => ?_) (fun c9 => ?_)
    · rw [if_pos c9] at h
      refine lv_iinc (v := x4 + 1) (lv' := [(4, .int (x4 + 1)), (0, .ref (ad 24)), (1, .ref (eo (1 + 11))), (2, .int x2), (3, .int x3)]) hx hb dX4_isSame_51 hl (k := 4) rfl rfl (by decide) rfl (fun ls hl => ?_)
      refine lv_goto (tgt := 20) hx hb dX4_isSame_54 (by decide) ?_
      exact hk20 _ _ _ _ _ _ _ h hP hD hS (lv_sub hl [1, 2, 3, 4, 0] rfl)
    · rw [if_neg c9] at h
      refine lv_iconst (v := 0) hx hb dX4_isSame_49 (by decide) ?_
      cases h
      exact kz_zret hx hb hr hlocks rfl hP hK hD hS dX4_isSame_50 ⟨rfl, rfl⟩
set_option maxHeartbeats 4000000 in
set_option maxRecDepth 100000 in
theorem WX4_isSame_s24_t11_20 {p : Program} {l : Launch} {e : Env} {s : State} {m : MethodId} {args : Array Value} {below : List Frame} {meth : Method} {c : Code} {D : va_G} {ty : Nat → ClassId} {eo : Nat → Nat} {A : Nat → Prop} {ad : Nat → Nat} {o1 : Int32} {o2 : dK} (C : dc_C p s m args meth c cX4_isSame (some .boolean) 5 RX4 wsX4_isSame D ty eo A)   (n : Nat) (q : dK) (x2 : Int32) (x3 : Int32) (x4 : Int32) (H : Heap) (locs : List Loc) (ls : Array Slot) (h : zX4_isSame_s24_t11_20  n q x2 x3 x4 = some (o1, o2)) (hP : va_P D vwCl (wF ty ad q) H) (hD : va_D A (wF ty ad q)) (hS : va_S A s.heap H locs) (hl : lv_has ls 5 [(0, .ref (ad 24)), (1, .ref (eo (1 + 11))), (2, .int x2), (3, .int x3), (4, .int x4)]) : W p l e ({ frames := 4, cells := 0, slots := 0, locals := 85 } : Room) s m args below meth c H locs 0 0 (MQ below (va_Qi (fun (r : Int32) (u : va_W) => o1 = r ∧ wF ty ad o2 = u) (kz_B D ty A) A) args s 0 0 A) (F0 m 20 ls []) := by
  exact dFix_W (F := fun k (a : dK × Int32 × Int32 × Int32) => zX4_isSame_s24_t11_20b  (fun q x2 x3 x4 => k (q, x2, x3, x4)) a.1 a.2.1 a.2.2.1 a.2.2.2) (o := (o1, o2)) (P := fun (a : dK × Int32 × Int32 × Int32) H locs ls => va_P D vwCl (wF ty ad a.1) H ∧ va_D A (wF ty ad a.1) ∧ va_S A s.heap H locs ∧ lv_has ls 5 [(0, .ref (ad 24)), (1, .ref (eo (1 + 11))), (2, .int a.2.1), (3, .int a.2.2.1), (4, .int a.2.2.2)]) (G := fun H locs ls => W p l e ({ frames := 4, cells := 0, slots := 0, locals := 85 } : Room) s m args below meth c H locs 0 0 (MQ below (va_Qi (fun (r : Int32) (u : va_W) => o1 = r ∧ wF ty ad o2 = u) (kz_B D ty A) A) args s 0 0 A) (F0 m 20 ls []))
    (fun k hk a H locs ls h hp => WX4_isSame_s24_t11_20b C  (fun q x2 x3 x4 H locs ls h h1 h2 h3 h4 => hk (q, x2, x3, x4) H locs ls h ⟨h1, h2, h3, h4⟩) a.1 a.2.1 a.2.2.1 a.2.2.2 H locs ls h hp.1 hp.2.1 hp.2.2.1 hp.2.2.2) n (q, x2, x3, x4) H locs ls h ⟨hP, hD, hS, hl⟩
set_option maxHeartbeats 4000000 in
set_option maxRecDepth 100000 in
theorem qX4_isSame_s24_t11 (l : Launch) (D : va_G) (ty : Nat → ClassId) (eo : Nat → Nat) (sz : Nat) (ad : Nat → Nat) (q : dK) (p2 : Int32) (p3 : Int32) (o1 : Int32) (o2 : dK) (h : zX4_isSame_s24_t11 q p2 p3 = some (o1, o2)) : Met l yX4_isSame wsX4_isSame ({ frames := 4, cells := 0, slots := 0, locals := 85 } : Room) (va_Pc [.ref (ad 24), .ref (eo (1 + 11)), .int p2, .int p3] (kz_pre D ty eo (wF ty ad q) sz)) (va_Qi (fun (r : Int32) (u : va_W) => o1 = r ∧ wF ty ad o2 = u) (kz_B D ty (va_A (wF ty ad q) sz)) (va_A (wF ty ad q) sz)) 0 0 (va_A (wF ty ad q) sz) := by
  refine Met.ofW (cc := cX4_isSame) (maxL := 5) (ret := (some .boolean)) (by decide) rfl ?_
  intro p e s m args below meth c s₁ B hml hv
  obtain ⟨rfl, hsz, hP, hK, hD0, hN, hE⟩ := hv
  have hx := B.exec
  have hb := B.bytes
  have hr := B.returns
  have hts := atoms_spec (ws := wsX4_isSame) B.pre
  have hown : s.vm.findClass RX4 = some m.cls := findClass_of_methodNamed B.named
  have hlocks := B.notSynchronized
  subst hsz
  have hD := hD0.self (sz := s.heap.size)
  generalize hAe : va_A (wF ty ad q) s.heap.size = A at hD hE ⊢
  have hA : ∀ q : Nat, s.heap.size ≤ q → A q := fun q h => by rw [← hAe]; exact Or.inr h
  clear hAe
  have hS : va_S A s.heap s.heap [] := va_S.rf
  have hl := lv_entry ([.ref (ad 24), .ref (eo (1 + 11)), .int p2, .int p3]) (n := 5) (Nat.le_of_ble_eq_true rfl)
  rw [lg_entry_eq]
  generalize (lg_sl ([.ref (ad 24), .ref (eo (1 + 11)), .int p2, .int p3]) ++ List.replicate (5 - (lg_sl ([.ref (ad 24), .ref (eo (1 + 11)), .int p2, .int p3])).length) Slot.unset).toArray = ls at hl ⊢
  have hl : lv_has ls 5 [(0, .ref (ad 24)), (1, .ref (eo (1 + 11))), (2, .int p2), (3, .int p3)] := hl
  have C : dc_C p s m _ meth c cX4_isSame (some .boolean) 5 RX4 wsX4_isSame D ty eo A := ⟨hx, hb, hr, hts, hown, hlocks, hml, hK, hN, hE, hA⟩
  unfold zX4_isSame_s24_t11 at h
  refine lv_iload_n hx hb dX4_isSame_0 rfl (lv_at hl 3 rfl) ?_
  refine lv_iload_n hx hb dX4_isSame_1 rfl (lv_at hl 2 rfl) ?_
  refine lv_isub hx hb dX4_isSame_2 ?_
  refine lv_aload_n hx hb dX4_isSame_3 rfl (lv_at hl 0 rfl) ?_
  refine va_get (D := D) (ci := 4) (v := .int (q.1 24 6)) (C := RX4) (T := TX4) (N := 11) hx hb hts u9_wsX4_isSame_X4 hown hK hP 24 rfl rfl 6 (by decide) (hts (.fieldLink RX4 33 "TurnedFloors$Reader" "stop" "I") f9_wsX4_isSame_476) (fun _ h9 => h9) rfl dX4_isSame_4 ?_
  refine lv_aload_n hx hb dX4_isSame_7 rfl (lv_at hl 0 rfl) ?_
  refine va_get (D := D) (ci := 4) (v := .int (q.1 24 5)) (C := RX4) (T := TX4) (N := 11) hx hb hts u9_wsX4_isSame_X4 hown hK hP 24 rfl rfl 5 (by decide) (hts (.fieldLink RX4 30 "TurnedFloors$Reader" "start" "I") f9_wsX4_isSame_475) (fun _ h9 => h9) rfl dX4_isSame_8 ?_
  refine lv_isub hx hb dX4_isSame_11 ?_
  refine lv_icmp_eq (tgt := 17) hx hb dX4_isSame_12 (by decide) (fun c9 => ?_) (fun c9 => ?_)
  · rw [if_pos c9] at h
    refine lv_iload_n hx hb dX4_isSame_17 rfl (lv_at hl 2 rfl) ?_
    refine lv_istore (lv' := [(4, .int p2), (0, .ref (ad 24)), (1, .ref (eo (1 + 11))), (2, .int p2), (3, .int p3)]) hx hb dX4_isSame_18 hl (by decide) rfl (fun ls hl => ?_)
    exact WX4_isSame_s24_t11_20 C  _ _ _ _ _ _ _ _ h hP hD hS (lv_sub hl [1, 2, 3, 4, 0] rfl)
  · rw [if_neg c9] at h
    refine lv_iconst (v := 0) hx hb dX4_isSame_15 (by decide) ?_
    cases h
    exact kz_zret hx hb hr hlocks rfl hP hK hD hS dX4_isSame_16 ⟨rfl, rfl⟩

set_option maxHeartbeats 4000000 in
set_option maxRecDepth 100000 in
theorem WX4_isWord_s24_t11_26 {p : Program} {l : Launch} {e : Env} {s : State} {m : MethodId} {args : Array Value} {below : List Frame} {meth : Method} {c : Code} {D : va_G} {ty : Nat → ClassId} {eo : Nat → Nat} {A : Nat → Prop} {ad : Nat → Nat} {o1 : Int32} {o2 : dK} (C : dc_C p s m args meth c cX4_isWord (some .boolean) 2 RX4 wsX4_isWord D ty eo A)   (q : dK) (y0 : Int32) (H : Heap) (locs : List Loc) (ls : Array Slot) (h : zX4_isWord_s24_t11_26  q y0 = some (o1, o2)) (hP : va_P D vwCl (wF ty ad q) H) (hD : va_D A (wF ty ad q)) (hS : va_S A s.heap H locs) (hl : lv_has ls 2 []) : W p l e ({ frames := 5, cells := 0, slots := 0, locals := 109 } : Room) s m args below meth c H locs 0 0 (MQ below (va_Qi (fun (r : Int32) (u : va_W) => o1 = r ∧ wF ty ad o2 = u) (kz_B D ty A) A) args s 0 0 A) (F0 m 26 ls [.int y0]) := by
  have C0 := C
  obtain ⟨hx, hb, hr, hts, hown, hlocks, hml, hK, hN, hE, hA⟩ := C
  unfold zX4_isWord_s24_t11_26 at h
  obtain ⟨g1, h⟩ := dG_some h
  cases h
  exact kz_zret hx hb hr hlocks (dbl_nar g1) hP hK hD hS dX4_isWord_26 ⟨rfl, rfl⟩
set_option maxHeartbeats 4000000 in
set_option maxRecDepth 100000 in
theorem WX4_isWord_s24_t11_25 {p : Program} {l : Launch} {e : Env} {s : State} {m : MethodId} {args : Array Value} {below : List Frame} {meth : Method} {c : Code} {D : va_G} {ty : Nat → ClassId} {eo : Nat → Nat} {A : Nat → Prop} {ad : Nat → Nat} {o1 : Int32} {o2 : dK} (C : dc_C p s m args meth c cX4_isWord (some .boolean) 2 RX4 wsX4_isWord D ty eo A)   (q : dK)  (H : Heap) (locs : List Loc) (ls : Array Slot) (h : zX4_isWord_s24_t11_25  q = some (o1, o2)) (hP : va_P D vwCl (wF ty ad q) H) (hD : va_D A (wF ty ad q)) (hS : va_S A s.heap H locs) (hl : lv_has ls 2 []) : W p l e ({ frames := 5, cells := 0, slots := 0, locals := 109 } : Room) s m args below meth c H locs 0 0 (MQ below (va_Qi (fun (r : Int32) (u : va_W) => o1 = r ∧ wF ty ad o2 = u) (kz_B D ty A) A) args s 0 0 A) (F0 m 25 ls []) := by
  have C0 := C
  obtain ⟨hx, hb, hr, hts, hown, hlocks, hml, hK, hN, hE, hA⟩ := C
  unfold zX4_isWord_s24_t11_25 at h
  refine lv_iconst (v := 0) hx hb dX4_isWord_25 (by decide) ?_
  exact WX4_isWord_s24_t11_26 C0  _ _ _ _ _ h hP hD hS (lv_sub hl [] rfl)
set_option maxHeartbeats 4000000 in
set_option maxRecDepth 100000 in
theorem qX4_isWord_s24_t11 (l : Launch) (D : va_G) (ty : Nat → ClassId) (eo : Nat → Nat) (sz : Nat) (ad : Nat → Nat) (q : dK)  (o1 : Int32) (o2 : dK) (h : zX4_isWord_s24_t11 q = some (o1, o2)) : Met l yX4_isWord wsX4_isWord ({ frames := 5, cells := 0, slots := 0, locals := 109 } : Room) (va_Pc [.ref (ad 24), .ref (eo (1 + 11))] (kz_pre D ty eo (wF ty ad q) sz)) (va_Qi (fun (r : Int32) (u : va_W) => o1 = r ∧ wF ty ad o2 = u) (kz_B D ty (va_A (wF ty ad q) sz)) (va_A (wF ty ad q) sz)) 0 0 (va_A (wF ty ad q) sz) := by
  refine Met.ofW (cc := cX4_isWord) (maxL := 2) (ret := (some .boolean)) (by decide) rfl ?_
  intro p e s m args below meth c s₁ B hml hv
  obtain ⟨rfl, hsz, hP, hK, hD0, hN, hE⟩ := hv
  have hx := B.exec
  have hb := B.bytes
  have hr := B.returns
  have hts := atoms_spec (ws := wsX4_isWord) B.pre
  have hown : s.vm.findClass RX4 = some m.cls := findClass_of_methodNamed B.named
  have hlocks := B.notSynchronized
  subst hsz
  have hD := hD0.self (sz := s.heap.size)
  generalize hAe : va_A (wF ty ad q) s.heap.size = A at hD hE ⊢
  have hA : ∀ q : Nat, s.heap.size ≤ q → A q := fun q h => by rw [← hAe]; exact Or.inr h
  clear hAe
  have hS : va_S A s.heap s.heap [] := va_S.rf
  have hl := lv_entry ([.ref (ad 24), .ref (eo (1 + 11))]) (n := 2) (Nat.le_of_ble_eq_true rfl)
  rw [lg_entry_eq]
  generalize (lg_sl ([.ref (ad 24), .ref (eo (1 + 11))]) ++ List.replicate (2 - (lg_sl ([.ref (ad 24), .ref (eo (1 + 11))])).length) Slot.unset).toArray = ls at hl ⊢
  have hl : lv_has ls 2 [(0, .ref (ad 24)), (1, .ref (eo (1 + 11)))] := hl
  have C : dc_C p s m _ meth c cX4_isWord (some .boolean) 2 RX4 wsX4_isWord D ty eo A := ⟨hx, hb, hr, hts, hown, hlocks, hml, hK, hN, hE, hA⟩
  unfold zX4_isWord_s24_t11 at h
  refine lv_aload_n hx hb dX4_isWord_0 rfl (lv_at hl 0 rfl) ?_
  refine va_get (D := D) (ci := 4) (v := .int (q.1 24 4)) (C := RX4) (T := TX4) (N := 11) hx hb hts u9_wsX4_isWord_X4 hown hK hP 24 rfl rfl 4 (by decide) (hts (.fieldLink RX4 27 "TurnedFloors$Reader" "token" "I") f9_wsX4_isWord_524) (fun _ h9 => h9) rfl dX4_isWord_1 ?_
  refine lv_iconst (v := 1) hx hb dX4_isWord_4 (by decide) ?_
  refine lv_icmp_ne (tgt := 25) hx hb dX4_isWord_5 (by decide) (fun c9 => ?_) (fun c9 => ?_)
  · rw [if_neg c9] at h
    exact WX4_isWord_s24_t11_25 C  _ _ _ _ h hP hD hS (lv_sub hl [] rfl)
  · rw [if_pos c9] at h
    refine lv_aload_n hx hb dX4_isWord_8 rfl (lv_at hl 0 rfl) ?_
    refine lv_aload_n hx hb dX4_isWord_9 rfl (lv_at hl 1 rfl) ?_
    refine lv_iconst (v := 0) hx hb dX4_isWord_10 (by decide) ?_
    refine lv_aload_n hx hb dX4_isWord_11 rfl (lv_at hl 1 rfl) ?_
    refine dw_ks (va_runV (As := []) (rest := [.int 0, .ref (eo (1 + 11)), .ref (ad 24)]) ⟨hx, hb, hml, hown, hts⟩ (kcJ0le l D ty eo _ 11 (by decide)) (cwV 0 hts gX4_isWord_J0_length_8abf5 rfl rfl rfl (by decide +kernel) ⟨Nat.le_of_ble_eq_true rfl, Nat.le_of_ble_eq_true rfl⟩) (kz_preT hK hN hE hP hD hS hA 11 (by decide) [] (by decide) rfl) rfl rfl hl.1 rfl (lv_room (Nat.le_of_ble_eq_true rfl)) dX4_isWord_12 ⟨Nat.le_of_ble_eq_true rfl, Nat.le_of_ble_eq_true rfl⟩) hP hD hS hA (fun _ _ h9 => h9.2.symm) (fun r9 u9 H locs hw hp hd hs => ?_)
    obtain ⟨rfl, -⟩ := hw
    clear hP hD hS
    have hP := hp; have hD := hd; have hS := hs; clear hp hd hs
    refine kz_topi 2 (by decide +kernel) ?_
    obtain ⟨r1, q3, h2, h⟩ := dB_some h
    refine dw_ki (va_runV (As := [.ref (eo (1 + 11)), .int 0, .int 2]) (rest := []) ⟨hx, hb, hml, hown, hts⟩ (qX4_isSame_s24_t11 l D ty eo _ ad q 0 2 r1 q3 h2) (cwV 3 hts gX4_isWord_X4_isSame rfl rfl rfl (by decide +kernel) ⟨Nat.le_of_ble_eq_true rfl, Nat.le_of_ble_eq_true rfl⟩) (dw_preV (ci := 4) (q0 := 24) hK hN hE hP hD hS hA rfl rfl) rfl rfl hl.1 rfl (lv_room (Nat.le_of_ble_eq_true rfl)) dX4_isWord_15 ⟨Nat.le_of_ble_eq_true rfl, Nat.le_of_ble_eq_true rfl⟩) hD hS hA (fun r9 u9 H locs hw hp hd hs => ?_)
    clear hP hD hS
    obtain ⟨rfl, rfl⟩ := hw
    have hP := hp; have hD := hd; have hS := hs; clear hp hd hs
    refine lv_if_eq (tgt := 25) hx hb dX4_isWord_18 (by decide) (fun c9 => ?_) (fun c9 => ?_)
    · rw [if_pos c9] at h
      exact WX4_isWord_s24_t11_25 C  _ _ _ _ h hP hD hS (lv_sub hl [] rfl)
    · rw [if_neg c9] at h
      refine lv_iconst (v := 1) hx hb dX4_isWord_21 (by decide) ?_
      refine lv_goto (tgt := 26) hx hb dX4_isWord_22 (by decide) ?_
      exact WX4_isWord_s24_t11_26 C  _ _ _ _ _ h hP hD hS (lv_sub hl [] rfl)

set_option maxHeartbeats 4000000 in
set_option maxRecDepth 100000 in
theorem WX4_readTest_s24_73 {p : Program} {l : Launch} {e : Env} {s : State} {m : MethodId} {args : Array Value} {below : List Frame} {meth : Method} {c : Code} {D : va_G} {ty : Nat → ClassId} {eo : Nat → Nat} {A : Nat → Prop} {ad : Nat → Nat} {o2 : dK} {kT : dK → Option (dK)} {nT : Nat} (hkT : ∀ (sz : Nat) (q : dK)  (o2 : dK), kT q  = some o2 → Met l yX4_readTest wsX4_readTest ({ frames := 44 + 3 * nT, cells := 0, slots := 0, locals := 1130 + 66 * nT } : Room) (va_Pc [.ref (ad 24)] (kz_pre D ty eo (wF ty ad q) sz)) (va_Qv (fun (u : va_W) => wF ty ad o2 = u) (kz_B D ty (va_A (wF ty ad q) sz)) (va_A (wF ty ad q) sz)) 0 0 (va_A (wF ty ad q) sz)) (C : dc_C p s m args meth c cX4_readTest none 3 RX4 wsX4_readTest D ty eo A)   (q : dK)  (H : Heap) (locs : List Loc) (ls : Array Slot) (h : zX4_readTest_s24_73 kT  q = some o2) (hP : va_P D vwCl (wF ty ad q) H) (hD : va_D A (wF ty ad q)) (hS : va_S A s.heap H locs) (hl : lv_has ls 3 []) : W p l e ({ frames := 44 + 3 * nT + 3, cells := 0, slots := 0, locals := 1130 + 66 * nT + 66 } : Room) s m args below meth c H locs 0 0 (MQ below (va_Qv (fun (u : va_W) => wF ty ad o2 = u) (kz_B D ty A) A) args s 0 0 A) (F0 m 73 ls []) := by
  have C0 := C
  obtain ⟨hx, hb, hr, hts, hown, hlocks, hml, hK, hN, hE, hA⟩ := C
  unfold zX4_readTest_s24_73 at h
  cases h
  exact kz_vret hx hb hr hlocks hP hK hD hS dX4_readTest_73 rfl
set_option maxHeartbeats 4000000 in
set_option maxRecDepth 100000 in
theorem WX4_readTest_s24_6b {p : Program} {l : Launch} {e : Env} {s : State} {m : MethodId} {args : Array Value} {below : List Frame} {meth : Method} {c : Code} {D : va_G} {ty : Nat → ClassId} {eo : Nat → Nat} {A : Nat → Prop} {ad : Nat → Nat} {o2 : dK} {kT : dK → Option (dK)} {nT : Nat} (hkT : ∀ (sz : Nat) (q : dK)  (o2 : dK), kT q  = some o2 → Met l yX4_readTest wsX4_readTest ({ frames := 44 + 3 * nT, cells := 0, slots := 0, locals := 1130 + 66 * nT } : Room) (va_Pc [.ref (ad 24)] (kz_pre D ty eo (wF ty ad q) sz)) (va_Qv (fun (u : va_W) => wF ty ad o2 = u) (kz_B D ty (va_A (wF ty ad q) sz)) (va_A (wF ty ad q) sz)) 0 0 (va_A (wF ty ad q) sz)) (C : dc_C p s m args meth c cX4_readTest none 3 RX4 wsX4_readTest D ty eo A) {k6 : dK → Int32 → Option (dK)} (hk6 : ∀ (q : dK) (x1 : Int32) (H : Heap) (locs : List Loc) (ls : Array Slot), k6 q x1 = some o2 → va_P D vwCl (wF ty ad q) H → va_D A (wF ty ad q) → va_S A s.heap H locs → lv_has ls 3 [(0, .ref (ad 24)), (1, .int x1)] → W p l e ({ frames := 44 + 3 * nT + 3, cells := 0, slots := 0, locals := 1130 + 66 * nT + 66 } : Room) s m args below meth c H locs 0 0 (MQ below (va_Qv (fun (u : va_W) => wF ty ad o2 = u) (kz_B D ty A) A) args s 0 0 A) (F0 m 6 ls [])) (q : dK) (x1 : Int32) (H : Heap) (locs : List Loc) (ls : Array Slot) (h : zX4_readTest_s24_6b kT k6 q x1 = some o2) (hP : va_P D vwCl (wF ty ad q) H) (hD : va_D A (wF ty ad q)) (hS : va_S A s.heap H locs) (hl : lv_has ls 3 [(0, .ref (ad 24)), (1, .int x1)]) : W p l e ({ frames := 44 + 3 * nT + 3, cells := 0, slots := 0, locals := 1130 + 66 * nT + 66 } : Room) s m args below meth c H locs 0 0 (MQ below (va_Qv (fun (u : va_W) => wF ty ad o2 = u) (kz_B D ty A) A) args s 0 0 A) (F0 m 6 ls []) := by
  have C0 := C
  obtain ⟨hx, hb, hr, hts, hown, hlocks, hml, hK, hN, hE, hA⟩ := C
  unfold zX4_readTest_s24_6b at h
  refine lv_iload_n hx hb dX4_readTest_6 rfl (lv_at hl 1 rfl) ?_
  refine lv_aload_n hx hb dX4_readTest_7 rfl (lv_at hl 0 rfl) ?_
  refine va_get (D := D) (ci := 4) (v := .int (q.1 24 1)) (C := RX4) (T := TX4) (N := 11) hx hb hts u9_wsX4_readTest_X4 hown hK hP 24 rfl rfl 1 (by decide) (hts (.fieldLink RX4 15 "TurnedFloors$Reader" "length" "I") f9_wsX4_readTest_547) (fun _ h9 => h9) rfl dX4_readTest_8 ?_
  refine lv_icmp_ge (tgt := 73) hx hb dX4_readTest_11 (by decide) (fun c9 => ?_) (fun c9 => ?_)
  · rw [if_pos c9] at h
    exact WX4_readTest_s24_73 hkT C0  _ _ _ _ h hP hD hS (lv_sub hl [] rfl)
  · rw [if_neg c9] at h
    refine lv_aload_n hx hb dX4_readTest_14 rfl (lv_at hl 0 rfl) ?_
    refine va_get (D := D) (ci := 4) (v := .int (q.1 24 10)) (C := RX4) (T := TX4) (N := 11) hx hb hts u9_wsX4_readTest_X4 hown hK hP 24 rfl rfl 10 (by decide) (hts (.fieldLink RX4 45 "TurnedFloors$Reader" "faultAt" "I") f9_wsX4_readTest_548) (fun _ h9 => h9) rfl dX4_readTest_15 ?_
    refine lv_iconst (v := (-1)) hx hb dX4_readTest_18 (by decide) ?_
    refine lv_icmp_ne (tgt := 73) hx hb dX4_readTest_19 (by decide) (fun c9 => ?_) (fun c9 => ?_)
    · rw [if_neg c9] at h
      exact WX4_readTest_s24_73 hkT C0  _ _ _ _ h hP hD hS (lv_sub hl [] rfl)
    · rw [if_pos c9] at h
      refine lv_aload_n hx hb dX4_readTest_22 rfl (lv_at hl 0 rfl) ?_
      refine va_ldcS hx hb hown (hE.2.2.2.2.1 11 (by decide)) dX4_readTest_23 ?_
      obtain ⟨r1, q3, h2, h⟩ := dB_some h
      refine dw_ki (va_runV (As := [.ref (eo (1 + 11))]) (rest := []) ⟨hx, hb, hml, hown, hts⟩ (qX4_isWord_s24_t11 l D ty eo _ ad q  r1 q3 h2) (cwV 1 hts gX4_readTest_X4_isWord rfl rfl rfl (by decide +kernel) ⟨by dsimp only [headSpec]; omega, by dsimp only [headSpec]; omega⟩) (dw_preV (ci := 4) (q0 := 24) hK hN hE hP hD hS hA rfl rfl) rfl rfl hl.1 rfl (lv_room (Nat.le_of_ble_eq_true rfl)) dX4_readTest_25 ⟨Nat.le_of_ble_eq_true rfl, Nat.le_of_ble_eq_true rfl⟩) hD hS hA (fun r9 u9 H locs hw hp hd hs => ?_)
      clear hP hD hS
      obtain ⟨rfl, rfl⟩ := hw
      have hP := hp; have hD := hd; have hS := hs; clear hp hd hs
      refine lv_if_eq (tgt := 73) hx hb dX4_readTest_28 (by decide) (fun c9 => ?_) (fun c9 => ?_)
      · rw [if_pos c9] at h
        exact WX4_readTest_s24_73 hkT C0  _ _ _ _ h hP hD hS (lv_sub hl [] rfl)
      · rw [if_neg c9] at h
        refine lv_aload_n hx hb dX4_readTest_31 rfl (lv_at hl 0 rfl) ?_
        refine va_get (D := D) (ci := 4) (v := dN (ad 25) (q3.1 24 3)) (C := RX4) (T := TX4) (N := 11) hx hb hts u9_wsX4_readTest_X4 hown hK hP 24 rfl rfl 3 (by decide) (hts (.fieldLink RX4 23 "TurnedFloors$Reader" "text" "LTurnedFloors$Text;") f9_wsX4_readTest_549) (fun _ h9 => h9) rfl dX4_readTest_32 ?_
        obtain ⟨g4, h⟩ := dG_some h
        refine kz_topv (if_neg (dnz_ne g4)) ?_
        refine va_getN (D := D) (ci := 7) (v := .int (q3.1 25 7)) (C := RX7) (T := TX7) (N := 8) hx hb hts u9_wsX4_readTest_X7 hown hK hP 25 rfl rfl 7 (by decide) (hN.use (.fieldLinkNest "TurnedFloors$Reader" 115 "TurnedFloors$Text" "length" "I" "TurnedFloors") (by decide +kernel)) (fun _ h9 => h9) rfl dX4_readTest_35 ?_
        refine lv_istore_n (lv' := [(2, .int (q3.1 25 7)), (0, .ref (ad 24)), (1, .int x1)]) hx hb dX4_readTest_38 rfl hl (by decide) rfl (fun ls hl => ?_)
        refine lv_aload_n hx hb dX4_readTest_39 rfl (lv_at hl 1 rfl) ?_
        refine va_get (D := D) (ci := 4) (v := dN (ad 25) (q3.1 24 3)) (C := RX4) (T := TX4) (N := 11) hx hb hts u9_wsX4_readTest_X4 hown hK hP 24 rfl rfl 3 (by decide) (hts (.fieldLink RX4 23 "TurnedFloors$Reader" "text" "LTurnedFloors$Text;") f9_wsX4_readTest_549) (fun _ h9 => h9) rfl dX4_readTest_40 ?_
        obtain ⟨g5, h⟩ := dG_some h
        refine kz_topv (if_neg (dnz_ne g5)) ?_
        refine lv_bipush (v := 12) hx hb dX4_readTest_43 (by decide) ?_
        refine lv_iconst (v := 0) hx hb dX4_readTest_45 (by decide) ?_
        obtain ⟨q8, h7, h⟩ := dV_some h
        refine dw_kv (va_runV (As := [.int 12, .int 0]) (rest := []) ⟨hx, hb, hml, hown, hts⟩ (qX7_emit_s25 l D ty eo _ ad q3 12 0 q8 h7) (cwV 2 hts gX4_readTest_X7_emit rfl rfl rfl (by decide +kernel) ⟨by dsimp only [headSpec]; omega, by dsimp only [headSpec]; omega⟩) (dw_preV (ci := 7) (q0 := 25) hK hN hE hP hD hS hA rfl rfl) rfl rfl hl.1 rfl (lv_room (Nat.le_of_ble_eq_true rfl)) dX4_readTest_46 ⟨Nat.le_of_ble_eq_true rfl, Nat.le_of_ble_eq_true rfl⟩) hD hS hA (fun u9 H locs hw hp hd hs => ?_)
        clear hP hD hS
        obtain rfl := hw
        have hP := hp; have hD := hd; have hS := hs; clear hp hd hs
        refine lv_aload_n hx hb dX4_readTest_49 rfl (lv_at hl 1 rfl) ?_
        obtain ⟨q11, h10, h⟩ := dV_some h
        refine dw_kv (va_runV (As := []) (rest := []) ⟨hx, hb, hml, hown, hts⟩ (qX4_step_s24 l D ty eo _ ad q8  q11 h10) (cwV 0 hts gX4_readTest_X4_step rfl rfl rfl (by decide +kernel) ⟨by dsimp only [headSpec]; omega, by dsimp only [headSpec]; omega⟩) (dw_preV (ci := 4) (q0 := 24) hK hN hE hP hD hS hA rfl rfl) rfl rfl hl.1 rfl (lv_room (Nat.le_of_ble_eq_true rfl)) dX4_readTest_50 ⟨Nat.le_of_ble_eq_true rfl, Nat.le_of_ble_eq_true rfl⟩) hD hS hA (fun u9 H locs hw hp hd hs => ?_)
        clear hP hD hS
        obtain rfl := hw
        have hP := hp; have hD := hd; have hS := hs; clear hp hd hs
        refine lv_aload_n hx hb dX4_readTest_53 rfl (lv_at hl 1 rfl) ?_
        obtain ⟨q14, h13, h⟩ := dV_some h
        refine dw_kv (va_runV (As := []) (rest := []) ⟨hx, hb, hml, hown, hts⟩ (qX4_readBoth_s24 l D ty eo _ ad kT nT hkT q11  q14 h13) (cwV 0 hts gX4_readTest_X4_readBoth rfl rfl rfl (by decide +kernel) ⟨by dsimp only [headSpec]; omega, by dsimp only [headSpec]; omega⟩) (dw_preV (ci := 4) (q0 := 24) hK hN hE hP hD hS hA rfl rfl) rfl rfl hl.1 rfl (lv_room (Nat.le_of_ble_eq_true rfl)) dX4_readTest_54 ⟨Nat.le_of_ble_eq_true rfl, Nat.le_of_ble_eq_true rfl⟩) hD hS hA (fun u9 H locs hw hp hd hs => ?_)
        clear hP hD hS
        obtain rfl := hw
        have hP := hp; have hD := hd; have hS := hs; clear hp hd hs
        refine lv_aload_n hx hb dX4_readTest_57 rfl (lv_at hl 1 rfl) ?_
        refine va_get (D := D) (ci := 4) (v := dN (ad 25) (q14.1 24 3)) (C := RX4) (T := TX4) (N := 11) hx hb hts u9_wsX4_readTest_X4 hown hK hP 24 rfl rfl 3 (by decide) (hts (.fieldLink RX4 23 "TurnedFloors$Reader" "text" "LTurnedFloors$Text;") f9_wsX4_readTest_549) (fun _ h9 => h9) rfl dX4_readTest_58 ?_
        obtain ⟨g15, h⟩ := dG_some h
        refine kz_topv (if_neg (dnz_ne g15)) ?_
        refine lv_bipush (v := 12) hx hb dX4_readTest_61 (by decide) ?_
        refine lv_iload_n hx hb dX4_readTest_63 rfl (lv_at hl 0 rfl) ?_
        obtain ⟨q18, h17, h⟩ := dV_some h
        refine dw_kv (va_runV (As := [.int 12, .int (q3.1 25 7)]) (rest := []) ⟨hx, hb, hml, hown, hts⟩ (qX7_leapHere_s25 l D ty eo _ ad q14 12 (q3.1 25 7) q18 h17) (cwV 2 hts gX4_readTest_X7_leapHere rfl rfl rfl (by decide +kernel) ⟨by dsimp only [headSpec]; omega, by dsimp only [headSpec]; omega⟩) (dw_preV (ci := 7) (q0 := 25) hK hN hE hP hD hS hA rfl rfl) rfl rfl hl.1 rfl (lv_room (Nat.le_of_ble_eq_true rfl)) dX4_readTest_64 ⟨Nat.le_of_ble_eq_true rfl, Nat.le_of_ble_eq_true rfl⟩) hD hS hA (fun u9 H locs hw hp hd hs => ?_)
        clear hP hD hS
        obtain rfl := hw
        have hP := hp; have hD := hd; have hS := hs; clear hp hd hs
        refine lv_iinc (v := x1 + 1) (lv' := [(1, .int (x1 + 1)), (2, .int (q3.1 25 7)), (0, .ref (ad 24))]) hx hb dX4_readTest_67 hl (k := 2) rfl rfl (by decide) rfl (fun ls hl => ?_)
        refine lv_goto (tgt := 6) hx hb dX4_readTest_70 (by decide) ?_
        exact hk6 _ _ _ _ _ h hP hD hS (lv_sub hl [2, 0] rfl)
set_option maxHeartbeats 4000000 in
set_option maxRecDepth 100000 in
theorem WX4_readTest_s24_6 {p : Program} {l : Launch} {e : Env} {s : State} {m : MethodId} {args : Array Value} {below : List Frame} {meth : Method} {c : Code} {D : va_G} {ty : Nat → ClassId} {eo : Nat → Nat} {A : Nat → Prop} {ad : Nat → Nat} {o2 : dK} {kT : dK → Option (dK)} {nT : Nat} (hkT : ∀ (sz : Nat) (q : dK)  (o2 : dK), kT q  = some o2 → Met l yX4_readTest wsX4_readTest ({ frames := 44 + 3 * nT, cells := 0, slots := 0, locals := 1130 + 66 * nT } : Room) (va_Pc [.ref (ad 24)] (kz_pre D ty eo (wF ty ad q) sz)) (va_Qv (fun (u : va_W) => wF ty ad o2 = u) (kz_B D ty (va_A (wF ty ad q) sz)) (va_A (wF ty ad q) sz)) 0 0 (va_A (wF ty ad q) sz)) (C : dc_C p s m args meth c cX4_readTest none 3 RX4 wsX4_readTest D ty eo A)   (n : Nat) (q : dK) (x1 : Int32) (H : Heap) (locs : List Loc) (ls : Array Slot) (h : zX4_readTest_s24_6 kT  n q x1 = some o2) (hP : va_P D vwCl (wF ty ad q) H) (hD : va_D A (wF ty ad q)) (hS : va_S A s.heap H locs) (hl : lv_has ls 3 [(0, .ref (ad 24)), (1, .int x1)]) : W p l e ({ frames := 44 + 3 * nT + 3, cells := 0, slots := 0, locals := 1130 + 66 * nT + 66 } : Room) s m args below meth c H locs 0 0 (MQ below (va_Qv (fun (u : va_W) => wF ty ad o2 = u) (kz_B D ty A) A) args s 0 0 A) (F0 m 6 ls []) := by
  exact dFix_W (F := fun k (a : dK × Int32) => zX4_readTest_s24_6b kT  (fun q x1 => k (q, x1)) a.1 a.2) (o := o2) (P := fun (a : dK × Int32) H locs ls => va_P D vwCl (wF ty ad a.1) H ∧ va_D A (wF ty ad a.1) ∧ va_S A s.heap H locs ∧ lv_has ls 3 [(0, .ref (ad 24)), (1, .int a.2)]) (G := fun H locs ls => W p l e ({ frames := 44 + 3 * nT + 3, cells := 0, slots := 0, locals := 1130 + 66 * nT + 66 } : Room) s m args below meth c H locs 0 0 (MQ below (va_Qv (fun (u : va_W) => wF ty ad o2 = u) (kz_B D ty A) A) args s 0 0 A) (F0 m 6 ls []))
    (fun k hk a H locs ls h hp => WX4_readTest_s24_6b hkT C  (fun q x1 H locs ls h h1 h2 h3 h4 => hk (q, x1) H locs ls h ⟨h1, h2, h3, h4⟩) a.1 a.2 H locs ls h hp.1 hp.2.1 hp.2.2.1 hp.2.2.2) n (q, x1) H locs ls h ⟨hP, hD, hS, hl⟩
set_option maxHeartbeats 4000000 in
set_option maxRecDepth 100000 in
theorem qX4_readTest_s24_o (l : Launch) (D : va_G) (ty : Nat → ClassId) (eo : Nat → Nat) (sz : Nat) (ad : Nat → Nat) (kT : dK → Option (dK)) (nT : Nat) (hkT : ∀ (sz : Nat) (q : dK)  (o2 : dK), kT q  = some o2 → Met l yX4_readTest wsX4_readTest ({ frames := 44 + 3 * nT, cells := 0, slots := 0, locals := 1130 + 66 * nT } : Room) (va_Pc [.ref (ad 24)] (kz_pre D ty eo (wF ty ad q) sz)) (va_Qv (fun (u : va_W) => wF ty ad o2 = u) (kz_B D ty (va_A (wF ty ad q) sz)) (va_A (wF ty ad q) sz)) 0 0 (va_A (wF ty ad q) sz)) (q : dK)  (o2 : dK) (h : zX4_readTest_s24_o kT q = some o2) : Met l yX4_readTest wsX4_readTest ({ frames := 44 + 3 * nT + 3, cells := 0, slots := 0, locals := 1130 + 66 * nT + 66 } : Room) (va_Pc [.ref (ad 24)] (kz_pre D ty eo (wF ty ad q) sz)) (va_Qv (fun (u : va_W) => wF ty ad o2 = u) (kz_B D ty (va_A (wF ty ad q) sz)) (va_A (wF ty ad q) sz)) 0 0 (va_A (wF ty ad q) sz) := by
  refine Met.ofW (cc := cX4_readTest) (maxL := 3) (ret := none) (by decide) rfl ?_
  intro p e s m args below meth c s₁ B hml hv
  obtain ⟨rfl, hsz, hP, hK, hD0, hN, hE⟩ := hv
  have hx := B.exec
  have hb := B.bytes
  have hr := B.returns
  have hts := atoms_spec (ws := wsX4_readTest) B.pre
  have hown : s.vm.findClass RX4 = some m.cls := findClass_of_methodNamed B.named
  have hlocks := B.notSynchronized
  subst hsz
  have hD := hD0.self (sz := s.heap.size)
  generalize hAe : va_A (wF ty ad q) s.heap.size = A at hD hE ⊢
  have hA : ∀ q : Nat, s.heap.size ≤ q → A q := fun q h => by rw [← hAe]; exact Or.inr h
  clear hAe
  have hS : va_S A s.heap s.heap [] := va_S.rf
  have hl := lv_entry ([.ref (ad 24)]) (n := 3) (Nat.le_of_ble_eq_true rfl)
  rw [lg_entry_eq]
  generalize (lg_sl ([.ref (ad 24)]) ++ List.replicate (3 - (lg_sl ([.ref (ad 24)])).length) Slot.unset).toArray = ls at hl ⊢
  have hl : lv_has ls 3 [(0, .ref (ad 24))] := hl
  have C : dc_C p s m _ meth c cX4_readTest none 3 RX4 wsX4_readTest D ty eo A := ⟨hx, hb, hr, hts, hown, hlocks, hml, hK, hN, hE, hA⟩
  unfold zX4_readTest_s24_o at h
  refine lv_aload_n hx hb dX4_readTest_0 rfl (lv_at hl 0 rfl) ?_
  obtain ⟨q3, h2, h⟩ := dV_some h
  refine dw_kv (va_runV (As := []) (rest := []) ⟨hx, hb, hml, hown, hts⟩ (qX4_readBoth_s24 l D ty eo _ ad kT nT hkT q  q3 h2) (cwV 0 hts gX4_readTest_X4_readBoth rfl rfl rfl (by decide +kernel) ⟨by dsimp only [headSpec]; omega, by dsimp only [headSpec]; omega⟩) (dw_preV (ci := 4) (q0 := 24) hK hN hE hP hD hS hA rfl rfl) rfl rfl hl.1 rfl (lv_room (Nat.le_of_ble_eq_true rfl)) dX4_readTest_1 ⟨Nat.le_of_ble_eq_true rfl, Nat.le_of_ble_eq_true rfl⟩) hD hS hA (fun u9 H locs hw hp hd hs => ?_)
  clear hP hD hS
  obtain rfl := hw
  have hP := hp; have hD := hd; have hS := hs; clear hp hd hs
  refine lv_iconst (v := 0) hx hb dX4_readTest_4 (by decide) ?_
  refine lv_istore_n (lv' := [(1, .int 0), (0, .ref (ad 24))]) hx hb dX4_readTest_5 rfl hl (by decide) rfl (fun ls hl => ?_)
  exact WX4_readTest_s24_6 hkT C  _ _ _ _ _ _ h hP hD hS (lv_sub hl [1, 0] rfl)
set_option maxHeartbeats 4000000 in
set_option maxRecDepth 100000 in
theorem qX4_readTest_s24 (l : Launch) (D : va_G) (ty : Nat → ClassId) (eo : Nat → Nat) (sz : Nat) (ad : Nat → Nat) (n : Nat) : ∀ (q : dK)  (o2 : dK), zX4_readTest_s24 n q  = some o2 → Met l yX4_readTest wsX4_readTest ({ frames := 44 + 3 * n, cells := 0, slots := 0, locals := 1130 + 66 * n } : Room) (va_Pc [.ref (ad 24)] (kz_pre D ty eo (wF ty ad q) sz)) (va_Qv (fun (u : va_W) => wF ty ad o2 = u) (kz_B D ty (va_A (wF ty ad q) sz)) (va_A (wF ty ad q) sz)) 0 0 (va_A (wF ty ad q) sz) := by
  induction n generalizing sz with
  | zero => intro q  o2 h; cases h
  | succ n ih =>
    intro q  o2 h
    have h2 := qX4_readTest_s24_o l D ty eo sz ad (zX4_readTest_s24 n) n (fun sz q  o2 h => ih sz q  o2 h) q  o2 h
    have e : ({ frames := 44 + 3 * n + 3, cells := 0, slots := 0, locals := 1130 + 66 * n + 66 } : Room) = ({ frames := 44 + 3 * (n + 1), cells := 0, slots := 0, locals := 1130 + 66 * (n + 1) } : Room) := by congr 1 <;> omega
    rw [← e]
    exact h2

set_option maxHeartbeats 4000000 in
set_option maxRecDepth 100000 in
theorem WX7_endTest_s25_22 {p : Program} {l : Launch} {e : Env} {s : State} {m : MethodId} {args : Array Value} {below : List Frame} {meth : Method} {c : Code} {D : va_G} {ty : Nat → ClassId} {eo : Nat → Nat} {A : Nat → Prop} {ad : Nat → Nat} {o2 : dK} (C : dc_C p s m args meth c cX7_endTest none 1 RX7 wsX7_endTest D ty eo A)   (q : dK)  (H : Heap) (locs : List Loc) (ls : Array Slot) (h : zX7_endTest_s25_22  q = some o2) (hP : va_P D vwCl (wF ty ad q) H) (hD : va_D A (wF ty ad q)) (hS : va_S A s.heap H locs) (hl : lv_has ls 1 []) : W p l e ({ frames := 0, cells := 0, slots := 0, locals := 0 } : Room) s m args below meth c H locs 0 0 (MQ below (va_Qv (fun (u : va_W) => wF ty ad o2 = u) (kz_B D ty A) A) args s 0 0 A) (F0 m 22 ls []) := by
  have C0 := C
  obtain ⟨hx, hb, hr, hts, hown, hlocks, hml, hK, hN, hE, hA⟩ := C
  unfold zX7_endTest_s25_22 at h
  cases h
  exact kz_vret hx hb hr hlocks hP hK hD hS dX7_endTest_22 rfl
set_option maxHeartbeats 4000000 in
set_option maxRecDepth 100000 in
theorem qX7_endTest_s25 (l : Launch) (D : va_G) (ty : Nat → ClassId) (eo : Nat → Nat) (sz : Nat) (ad : Nat → Nat) (q : dK)  (o2 : dK) (h : zX7_endTest_s25 q = some o2) : Met l yX7_endTest wsX7_endTest ({ frames := 0, cells := 0, slots := 0, locals := 0 } : Room) (va_Pc [.ref (ad 25)] (kz_pre D ty eo (wF ty ad q) sz)) (va_Qv (fun (u : va_W) => wF ty ad o2 = u) (kz_B D ty (va_A (wF ty ad q) sz)) (va_A (wF ty ad q) sz)) 0 0 (va_A (wF ty ad q) sz) := by
  refine Met.ofW (cc := cX7_endTest) (maxL := 1) (ret := none) (by decide) rfl ?_
  intro p e s m args below meth c s₁ B hml hv
  obtain ⟨rfl, hsz, hP, hK, hD0, hN, hE⟩ := hv
  have hx := B.exec
  have hb := B.bytes
  have hr := B.returns
  have hts := atoms_spec (ws := wsX7_endTest) B.pre
  have hown : s.vm.findClass RX7 = some m.cls := findClass_of_methodNamed B.named
  have hlocks := B.notSynchronized
  subst hsz
  have hD := hD0.self (sz := s.heap.size)
  generalize hAe : va_A (wF ty ad q) s.heap.size = A at hD hE ⊢
  have hA : ∀ q : Nat, s.heap.size ≤ q → A q := fun q h => by rw [← hAe]; exact Or.inr h
  clear hAe
  have hS : va_S A s.heap s.heap [] := va_S.rf
  have hl := lv_entry ([.ref (ad 25)]) (n := 1) (Nat.le_of_ble_eq_true rfl)
  rw [lg_entry_eq]
  generalize (lg_sl ([.ref (ad 25)]) ++ List.replicate (1 - (lg_sl ([.ref (ad 25)])).length) Slot.unset).toArray = ls at hl ⊢
  have hl : lv_has ls 1 [(0, .ref (ad 25))] := hl
  have C : dc_C p s m _ meth c cX7_endTest none 1 RX7 wsX7_endTest D ty eo A := ⟨hx, hb, hr, hts, hown, hlocks, hml, hK, hN, hE, hA⟩
  unfold zX7_endTest_s25 at h
  refine lv_aload_n hx hb dX7_endTest_0 rfl (lv_at hl 0 rfl) ?_
  refine va_get (D := D) (ci := 7) (v := .int (q.1 25 6)) (C := RX7) (T := TX7) (N := 8) hx hb hts u9_wsX7_endTest_X7 hown hK hP 25 rfl rfl 6 (by decide) (hts (.fieldLink RX7 7 "TurnedFloors$Text" "clauses" "I") f9_wsX7_endTest_551) (fun _ h9 => h9) rfl dX7_endTest_1 ?_
  refine lv_if_le (tgt := 22) hx hb dX7_endTest_4 (by decide) (fun c9 => ?_) (fun c9 => ?_)
  · rw [if_pos c9] at h
    exact WX7_endTest_s25_22 C  _ _ _ _ h hP hD hS (lv_sub hl [] rfl)
  · rw [if_neg c9] at h
    refine lv_aload_n hx hb dX7_endTest_7 rfl (lv_at hl 0 rfl) ?_
    refine va_get (D := D) (ci := 7) (v := .ref (ad 30)) (C := RX7) (T := TX7) (N := 8) hx hb hts u9_wsX7_endTest_X7 hown hK hP 25 rfl rfl 4 (by decide) (hts (.fieldLink RX7 29 "TurnedFloors$Text" "testTo" "[I") f9_wsX7_endTest_552) (fun _ h9 => h9) rfl dX7_endTest_8 ?_
    refine lv_aload_n hx hb dX7_endTest_11 rfl (lv_at hl 0 rfl) ?_
    refine va_get (D := D) (ci := 7) (v := .int (q.1 25 6)) (C := RX7) (T := TX7) (N := 8) hx hb hts u9_wsX7_endTest_X7 hown hK hP 25 rfl rfl 6 (by decide) (hts (.fieldLink RX7 7 "TurnedFloors$Text" "clauses" "I") f9_wsX7_endTest_551) (fun _ h9 => h9) rfl dX7_endTest_12 ?_
    refine lv_iconst (v := 1) hx hb dX7_endTest_15 (by decide) ?_
    refine lv_isub hx hb dX7_endTest_16 ?_
    refine lv_aload_n hx hb dX7_endTest_17 rfl (lv_at hl 0 rfl) ?_
    refine va_get (D := D) (ci := 7) (v := .int (q.1 25 7)) (C := RX7) (T := TX7) (N := 8) hx hb hts u9_wsX7_endTest_X7 hown hK hP 25 rfl rfl 7 (by decide) (hts (.fieldLink RX7 13 "TurnedFloors$Text" "length" "I") f9_wsX7_endTest_553) (fun _ h9 => h9) rfl dX7_endTest_18 ?_
    obtain ⟨g1, h⟩ := dG_some h
    refine va_iast hx hb hK hP hD hS 30 0 rfl rfl (dg_in g1) dX7_endTest_21 (fun H locs hp hd hs => ?_)
    obtain ⟨q2, eq2, h⟩ := dL_some h
    refine kz_re (w2 := wF ty ad q2) hp hd hs (by rw [← eq2]; exact wF_a30 ty ad q (Int32.toNatClampNeg ((q.1 25 6) - 1 : Int32)) (q.1 25 7)) ?_
    clear hp hd hs hP hD hS
    intro hP hD hS
    exact WX7_endTest_s25_22 C  _ _ _ _ h hP hD hS (lv_sub hl [] rfl)

set_option maxHeartbeats 4000000 in
set_option maxRecDepth 100000 in
theorem WX4_readClause_s24_135 {p : Program} {l : Launch} {e : Env} {s : State} {m : MethodId} {args : Array Value} {below : List Frame} {meth : Method} {c : Code} {D : va_G} {ty : Nat → ClassId} {eo : Nat → Nat} {A : Nat → Prop} {ad : Nat → Nat} {o2 : dK} (C : dc_C p s m args meth c cX4_readClause none 2 RX4 wsX4_readClause D ty eo A)   (q : dK)  (H : Heap) (locs : List Loc) (ls : Array Slot) (h : zX4_readClause_s24_135  q = some o2) (hP : va_P D vwCl (wF ty ad q) H) (hD : va_D A (wF ty ad q)) (hS : va_S A s.heap H locs) (hl : lv_has ls 2 []) : W p l e ({ frames := 75, cells := 0, slots := 0, locals := 1812 } : Room) s m args below meth c H locs 0 0 (MQ below (va_Qv (fun (u : va_W) => wF ty ad o2 = u) (kz_B D ty A) A) args s 0 0 A) (F0 m 135 ls []) := by
  have C0 := C
  obtain ⟨hx, hb, hr, hts, hown, hlocks, hml, hK, hN, hE, hA⟩ := C
  unfold zX4_readClause_s24_135 at h
  cases h
  exact kz_vret hx hb hr hlocks hP hK hD hS dX4_readClause_135 rfl
set_option maxHeartbeats 4000000 in
set_option maxRecDepth 100000 in
theorem WX4_readClause_s24_103 {p : Program} {l : Launch} {e : Env} {s : State} {m : MethodId} {args : Array Value} {below : List Frame} {meth : Method} {c : Code} {D : va_G} {ty : Nat → ClassId} {eo : Nat → Nat} {A : Nat → Prop} {ad : Nat → Nat} {o2 : dK} (C : dc_C p s m args meth c cX4_readClause none 2 RX4 wsX4_readClause D ty eo A)   (q : dK)  (H : Heap) (locs : List Loc) (ls : Array Slot) (h : zX4_readClause_s24_103  q = some o2) (hP : va_P D vwCl (wF ty ad q) H) (hD : va_D A (wF ty ad q)) (hS : va_S A s.heap H locs) (hl : lv_has ls 2 [(0, .ref (ad 24))]) : W p l e ({ frames := 75, cells := 0, slots := 0, locals := 1812 } : Room) s m args below meth c H locs 0 0 (MQ below (va_Qv (fun (u : va_W) => wF ty ad o2 = u) (kz_B D ty A) A) args s 0 0 A) (F0 m 103 ls []) := by
  have C0 := C
  obtain ⟨hx, hb, hr, hts, hown, hlocks, hml, hK, hN, hE, hA⟩ := C
  unfold zX4_readClause_s24_103 at h
  refine lv_aload_n hx hb dX4_readClause_103 rfl (lv_at hl 0 rfl) ?_
  refine va_get (D := D) (ci := 4) (v := .int (q.1 24 10)) (C := RX4) (T := TX4) (N := 11) hx hb hts u9_wsX4_readClause_X4 hown hK hP 24 rfl rfl 10 (by decide) (hts (.fieldLink RX4 45 "TurnedFloors$Reader" "faultAt" "I") f9_wsX4_readClause_555) (fun _ h9 => h9) rfl dX4_readClause_104 ?_
  refine lv_iconst (v := (-1)) hx hb dX4_readClause_107 (by decide) ?_
  refine lv_icmp_ne (tgt := 135) hx hb dX4_readClause_108 (by decide) (fun c9 => ?_) (fun c9 => ?_)
  · rw [if_neg c9] at h
    exact WX4_readClause_s24_135 C0  _ _ _ _ h hP hD hS (lv_sub hl [] rfl)
  · rw [if_pos c9] at h
    refine lv_aload_n hx hb dX4_readClause_111 rfl (lv_at hl 0 rfl) ?_
    refine va_ldcS hx hb hown (hE.2.2.2.2.1 7 (by decide)) dX4_readClause_112 ?_
    obtain ⟨r1, q3, h2, h⟩ := dB_some h
    refine dw_ki (va_runV (As := [.ref (eo (1 + 7))]) (rest := []) ⟨hx, hb, hml, hown, hts⟩ (qX4_isWord_s24_t7 l D ty eo _ ad q  r1 q3 h2) (cwV 1 hts gX4_readClause_X4_isWord rfl rfl rfl (by decide +kernel) ⟨Nat.le_of_ble_eq_true rfl, Nat.le_of_ble_eq_true rfl⟩) (dw_preV (ci := 4) (q0 := 24) hK hN hE hP hD hS hA rfl rfl) rfl rfl hl.1 rfl (lv_room (Nat.le_of_ble_eq_true rfl)) dX4_readClause_114 ⟨Nat.le_of_ble_eq_true rfl, Nat.le_of_ble_eq_true rfl⟩) hD hS hA (fun r9 u9 H locs hw hp hd hs => ?_)
    clear hP hD hS
    obtain ⟨rfl, rfl⟩ := hw
    have hP := hp; have hD := hd; have hS := hs; clear hp hd hs
    refine lv_if_eq (tgt := 135) hx hb dX4_readClause_117 (by decide) (fun c9 => ?_) (fun c9 => ?_)
    · rw [if_pos c9] at h
      exact WX4_readClause_s24_135 C0  _ _ _ _ h hP hD hS (lv_sub hl [] rfl)
    · rw [if_neg c9] at h
      refine lv_aload_n hx hb dX4_readClause_120 rfl (lv_at hl 0 rfl) ?_
      obtain ⟨q6, h5, h⟩ := dV_some h
      refine dw_kv (va_runV (As := []) (rest := []) ⟨hx, hb, hml, hown, hts⟩ (qX4_step_s24 l D ty eo _ ad q3  q6 h5) (cwV 0 hts gX4_readClause_X4_step rfl rfl rfl (by decide +kernel) ⟨Nat.le_of_ble_eq_true rfl, Nat.le_of_ble_eq_true rfl⟩) (dw_preV (ci := 4) (q0 := 24) hK hN hE hP hD hS hA rfl rfl) rfl rfl hl.1 rfl (lv_room (Nat.le_of_ble_eq_true rfl)) dX4_readClause_121 ⟨Nat.le_of_ble_eq_true rfl, Nat.le_of_ble_eq_true rfl⟩) hD hS hA (fun u9 H locs hw hp hd hs => ?_)
      clear hP hD hS
      obtain rfl := hw
      have hP := hp; have hD := hd; have hS := hs; clear hp hd hs
      refine lv_aload_n hx hb dX4_readClause_124 rfl (lv_at hl 0 rfl) ?_
      obtain ⟨q9, h8, h⟩ := dV_some h
      refine dw_kv (va_runV (As := []) (rest := []) ⟨hx, hb, hml, hown, hts⟩ (qX4_readTest_s24 l D ty eo _ ad 10 q6  q9 h8) (cwV 0 hts gX4_readClause_X4_readTest rfl rfl rfl (by decide +kernel) ⟨Nat.le_of_ble_eq_true rfl, Nat.le_of_ble_eq_true rfl⟩) (dw_preV (ci := 4) (q0 := 24) hK hN hE hP hD hS hA rfl rfl) rfl rfl hl.1 rfl (lv_room (Nat.le_of_ble_eq_true rfl)) dX4_readClause_125 ⟨Nat.le_of_ble_eq_true rfl, Nat.le_of_ble_eq_true rfl⟩) hD hS hA (fun u9 H locs hw hp hd hs => ?_)
      clear hP hD hS
      obtain rfl := hw
      have hP := hp; have hD := hd; have hS := hs; clear hp hd hs
      refine lv_aload_n hx hb dX4_readClause_128 rfl (lv_at hl 0 rfl) ?_
      refine va_get (D := D) (ci := 4) (v := dN (ad 25) (q9.1 24 3)) (C := RX4) (T := TX4) (N := 11) hx hb hts u9_wsX4_readClause_X4 hown hK hP 24 rfl rfl 3 (by decide) (hts (.fieldLink RX4 23 "TurnedFloors$Reader" "text" "LTurnedFloors$Text;") f9_wsX4_readClause_556) (fun _ h9 => h9) rfl dX4_readClause_129 ?_
      obtain ⟨g10, h⟩ := dG_some h
      refine kz_topv (if_neg (dnz_ne g10)) ?_
      obtain ⟨q13, h12, h⟩ := dV_some h
      refine dw_kv (va_runV (As := []) (rest := []) ⟨hx, hb, hml, hown, hts⟩ (qX7_endTest_s25 l D ty eo _ ad q9  q13 h12) (cwV 0 hts gX4_readClause_X7_endTest rfl rfl rfl (by decide +kernel) ⟨Nat.le_of_ble_eq_true rfl, Nat.le_of_ble_eq_true rfl⟩) (dw_preV (ci := 7) (q0 := 25) hK hN hE hP hD hS hA rfl rfl) rfl rfl hl.1 rfl (lv_room (Nat.le_of_ble_eq_true rfl)) dX4_readClause_132 ⟨Nat.le_of_ble_eq_true rfl, Nat.le_of_ble_eq_true rfl⟩) hD hS hA (fun u9 H locs hw hp hd hs => ?_)
      clear hP hD hS
      obtain rfl := hw
      have hP := hp; have hD := hd; have hS := hs; clear hp hd hs
      exact WX4_readClause_s24_135 C0  _ _ _ _ h hP hD hS (lv_sub hl [] rfl)
set_option maxHeartbeats 4000000 in
set_option maxRecDepth 100000 in
theorem WX4_readClause_s24_71 {p : Program} {l : Launch} {e : Env} {s : State} {m : MethodId} {args : Array Value} {below : List Frame} {meth : Method} {c : Code} {D : va_G} {ty : Nat → ClassId} {eo : Nat → Nat} {A : Nat → Prop} {ad : Nat → Nat} {o2 : dK} (C : dc_C p s m args meth c cX4_readClause none 2 RX4 wsX4_readClause D ty eo A)   (q : dK)  (H : Heap) (locs : List Loc) (ls : Array Slot) (h : zX4_readClause_s24_71  q = some o2) (hP : va_P D vwCl (wF ty ad q) H) (hD : va_D A (wF ty ad q)) (hS : va_S A s.heap H locs) (hl : lv_has ls 2 [(0, .ref (ad 24))]) : W p l e ({ frames := 75, cells := 0, slots := 0, locals := 1812 } : Room) s m args below meth c H locs 0 0 (MQ below (va_Qv (fun (u : va_W) => wF ty ad o2 = u) (kz_B D ty A) A) args s 0 0 A) (F0 m 71 ls []) := by
  have C0 := C
  obtain ⟨hx, hb, hr, hts, hown, hlocks, hml, hK, hN, hE, hA⟩ := C
  unfold zX4_readClause_s24_71 at h
  refine lv_aload_n hx hb dX4_readClause_71 rfl (lv_at hl 0 rfl) ?_
  refine va_get (D := D) (ci := 4) (v := .int (q.1 24 2)) (C := RX4) (T := TX4) (N := 11) hx hb hts u9_wsX4_readClause_X4 hown hK hP 24 rfl rfl 2 (by decide) (hts (.fieldLink RX4 19 "TurnedFloors$Reader" "ofOrders" "Z") f9_wsX4_readClause_557) (fun _ h9 => h9) rfl dX4_readClause_72 ?_
  refine lv_if_eq (tgt := 103) hx hb dX4_readClause_75 (by decide) (fun c9 => ?_) (fun c9 => ?_)
  · rw [if_pos c9] at h
    exact WX4_readClause_s24_103 C0  _ _ _ _ h hP hD hS (lv_sub hl [0] rfl)
  · rw [if_neg c9] at h
    refine lv_aload_n hx hb dX4_readClause_78 rfl (lv_at hl 0 rfl) ?_
    refine va_get (D := D) (ci := 4) (v := .int (q.1 24 10)) (C := RX4) (T := TX4) (N := 11) hx hb hts u9_wsX4_readClause_X4 hown hK hP 24 rfl rfl 10 (by decide) (hts (.fieldLink RX4 45 "TurnedFloors$Reader" "faultAt" "I") f9_wsX4_readClause_555) (fun _ h9 => h9) rfl dX4_readClause_79 ?_
    refine lv_iconst (v := (-1)) hx hb dX4_readClause_82 (by decide) ?_
    refine lv_icmp_ne (tgt := 103) hx hb dX4_readClause_83 (by decide) (fun c9 => ?_) (fun c9 => ?_)
    · rw [if_neg c9] at h
      exact WX4_readClause_s24_103 C0  _ _ _ _ h hP hD hS (lv_sub hl [0] rfl)
    · rw [if_pos c9] at h
      refine lv_aload_n hx hb dX4_readClause_86 rfl (lv_at hl 0 rfl) ?_
      refine va_ldcS hx hb hown (hE.2.2.2.2.1 6 (by decide)) dX4_readClause_87 ?_
      obtain ⟨r1, q3, h2, h⟩ := dB_some h
      refine dw_ki (va_runV (As := [.ref (eo (1 + 6))]) (rest := []) ⟨hx, hb, hml, hown, hts⟩ (qX4_isWord_s24_t6 l D ty eo _ ad q  r1 q3 h2) (cwV 1 hts gX4_readClause_X4_isWord rfl rfl rfl (by decide +kernel) ⟨Nat.le_of_ble_eq_true rfl, Nat.le_of_ble_eq_true rfl⟩) (dw_preV (ci := 4) (q0 := 24) hK hN hE hP hD hS hA rfl rfl) rfl rfl hl.1 rfl (lv_room (Nat.le_of_ble_eq_true rfl)) dX4_readClause_89 ⟨Nat.le_of_ble_eq_true rfl, Nat.le_of_ble_eq_true rfl⟩) hD hS hA (fun r9 u9 H locs hw hp hd hs => ?_)
      clear hP hD hS
      obtain ⟨rfl, rfl⟩ := hw
      have hP := hp; have hD := hd; have hS := hs; clear hp hd hs
      refine lv_if_eq (tgt := 103) hx hb dX4_readClause_92 (by decide) (fun c9 => ?_) (fun c9 => ?_)
      · rw [if_pos c9] at h
        exact WX4_readClause_s24_103 C0  _ _ _ _ h hP hD hS (lv_sub hl [0] rfl)
      · rw [if_neg c9] at h
        refine lv_aload_n hx hb dX4_readClause_95 rfl (lv_at hl 0 rfl) ?_
        obtain ⟨q6, h5, h⟩ := dV_some h
        refine dw_kv (va_runV (As := []) (rest := []) ⟨hx, hb, hml, hown, hts⟩ (qX4_step_s24 l D ty eo _ ad q3  q6 h5) (cwV 0 hts gX4_readClause_X4_step rfl rfl rfl (by decide +kernel) ⟨Nat.le_of_ble_eq_true rfl, Nat.le_of_ble_eq_true rfl⟩) (dw_preV (ci := 4) (q0 := 24) hK hN hE hP hD hS hA rfl rfl) rfl rfl hl.1 rfl (lv_room (Nat.le_of_ble_eq_true rfl)) dX4_readClause_96 ⟨Nat.le_of_ble_eq_true rfl, Nat.le_of_ble_eq_true rfl⟩) hD hS hA (fun u9 H locs hw hp hd hs => ?_)
        clear hP hD hS
        obtain rfl := hw
        have hP := hp; have hD := hd; have hS := hs; clear hp hd hs
        refine lv_aload_n hx hb dX4_readClause_99 rfl (lv_at hl 0 rfl) ?_
        obtain ⟨q9, h8, h⟩ := dV_some h
        refine dw_kv (va_runV (As := []) (rest := []) ⟨hx, hb, hml, hown, hts⟩ (qX4_readTimes_s24 l D ty eo _ ad q6  q9 h8) (cwV 0 hts gX4_readClause_X4_readTimes rfl rfl rfl (by decide +kernel) ⟨Nat.le_of_ble_eq_true rfl, Nat.le_of_ble_eq_true rfl⟩) (dw_preV (ci := 4) (q0 := 24) hK hN hE hP hD hS hA rfl rfl) rfl rfl hl.1 rfl (lv_room (Nat.le_of_ble_eq_true rfl)) dX4_readClause_100 ⟨Nat.le_of_ble_eq_true rfl, Nat.le_of_ble_eq_true rfl⟩) hD hS hA (fun u9 H locs hw hp hd hs => ?_)
        clear hP hD hS
        obtain rfl := hw
        have hP := hp; have hD := hd; have hS := hs; clear hp hd hs
        exact WX4_readClause_s24_103 C0  _ _ _ _ h hP hD hS (lv_sub hl [0] rfl)
set_option maxHeartbeats 4000000 in
set_option maxRecDepth 100000 in
theorem WX4_readClause_s24_60 {p : Program} {l : Launch} {e : Env} {s : State} {m : MethodId} {args : Array Value} {below : List Frame} {meth : Method} {c : Code} {D : va_G} {ty : Nat → ClassId} {eo : Nat → Nat} {A : Nat → Prop} {ad : Nat → Nat} {o2 : dK} (C : dc_C p s m args meth c cX4_readClause none 2 RX4 wsX4_readClause D ty eo A)   (q : dK)  (H : Heap) (locs : List Loc) (ls : Array Slot) (h : zX4_readClause_s24_60  q = some o2) (hP : va_P D vwCl (wF ty ad q) H) (hD : va_D A (wF ty ad q)) (hS : va_S A s.heap H locs) (hl : lv_has ls 2 [(0, .ref (ad 24))]) : W p l e ({ frames := 75, cells := 0, slots := 0, locals := 1812 } : Room) s m args below meth c H locs 0 0 (MQ below (va_Qv (fun (u : va_W) => wF ty ad o2 = u) (kz_B D ty A) A) args s 0 0 A) (F0 m 60 ls []) := by
  have C0 := C
  obtain ⟨hx, hb, hr, hts, hown, hlocks, hml, hK, hN, hE, hA⟩ := C
  unfold zX4_readClause_s24_60 at h
  refine lv_aload_n hx hb dX4_readClause_60 rfl (lv_at hl 0 rfl) ?_
  obtain ⟨q3, h2, h⟩ := dV_some h
  refine dw_kv (va_runV (As := []) (rest := []) ⟨hx, hb, hml, hown, hts⟩ (qX4_readSum_s24 l D ty eo _ ad 10 q  q3 h2) (cwV 0 hts gX4_readClause_X4_readSum rfl rfl rfl (by decide +kernel) ⟨Nat.le_of_ble_eq_true rfl, Nat.le_of_ble_eq_true rfl⟩) (dw_preV (ci := 4) (q0 := 24) hK hN hE hP hD hS hA rfl rfl) rfl rfl hl.1 rfl (lv_room (Nat.le_of_ble_eq_true rfl)) dX4_readClause_61 ⟨Nat.le_of_ble_eq_true rfl, Nat.le_of_ble_eq_true rfl⟩) hD hS hA (fun u9 H locs hw hp hd hs => ?_)
  clear hP hD hS
  obtain rfl := hw
  have hP := hp; have hD := hd; have hS := hs; clear hp hd hs
  refine lv_aload_n hx hb dX4_readClause_64 rfl (lv_at hl 0 rfl) ?_
  refine va_get (D := D) (ci := 4) (v := dN (ad 25) (q3.1 24 3)) (C := RX4) (T := TX4) (N := 11) hx hb hts u9_wsX4_readClause_X4 hown hK hP 24 rfl rfl 3 (by decide) (hts (.fieldLink RX4 23 "TurnedFloors$Reader" "text" "LTurnedFloors$Text;") f9_wsX4_readClause_556) (fun _ h9 => h9) rfl dX4_readClause_65 ?_
  obtain ⟨g4, h⟩ := dG_some h
  refine kz_topv (if_neg (dnz_ne g4)) ?_
  obtain ⟨q7, h6, h⟩ := dV_some h
  refine dw_kv (va_runV (As := []) (rest := []) ⟨hx, hb, hml, hown, hts⟩ (qX7_endSum_s25 l D ty eo _ ad q3  q7 h6) (cwV 0 hts gX4_readClause_X7_endSum rfl rfl rfl (by decide +kernel) ⟨Nat.le_of_ble_eq_true rfl, Nat.le_of_ble_eq_true rfl⟩) (dw_preV (ci := 7) (q0 := 25) hK hN hE hP hD hS hA rfl rfl) rfl rfl hl.1 rfl (lv_room (Nat.le_of_ble_eq_true rfl)) dX4_readClause_68 ⟨Nat.le_of_ble_eq_true rfl, Nat.le_of_ble_eq_true rfl⟩) hD hS hA (fun u9 H locs hw hp hd hs => ?_)
  clear hP hD hS
  obtain rfl := hw
  have hP := hp; have hD := hd; have hS := hs; clear hp hd hs
  exact WX4_readClause_s24_71 C0  _ _ _ _ h hP hD hS (lv_sub hl [0] rfl)
set_option maxHeartbeats 4000000 in
set_option maxRecDepth 100000 in
theorem WX4_readClause_s24_15 {p : Program} {l : Launch} {e : Env} {s : State} {m : MethodId} {args : Array Value} {below : List Frame} {meth : Method} {c : Code} {D : va_G} {ty : Nat → ClassId} {eo : Nat → Nat} {A : Nat → Prop} {ad : Nat → Nat} {o2 : dK} (C : dc_C p s m args meth c cX4_readClause none 2 RX4 wsX4_readClause D ty eo A)   (q : dK)  (H : Heap) (locs : List Loc) (ls : Array Slot) (h : zX4_readClause_s24_15  q = some o2) (hP : va_P D vwCl (wF ty ad q) H) (hD : va_D A (wF ty ad q)) (hS : va_S A s.heap H locs) (hl : lv_has ls 2 [(0, .ref (ad 24))]) : W p l e ({ frames := 75, cells := 0, slots := 0, locals := 1812 } : Room) s m args below meth c H locs 0 0 (MQ below (va_Qv (fun (u : va_W) => wF ty ad o2 = u) (kz_B D ty A) A) args s 0 0 A) (F0 m 15 ls [.ref (eo (1 + 1)), .ref (ad 24)]) := by
  have C0 := C
  obtain ⟨hx, hb, hr, hts, hown, hlocks, hml, hK, hN, hE, hA⟩ := C
  unfold zX4_readClause_s24_15 at h
  obtain ⟨r1, q3, h2, h⟩ := dB_some h
  refine dw_ki (va_runV (As := [.ref (eo (1 + 1))]) (rest := []) ⟨hx, hb, hml, hown, hts⟩ (qX4_wordIn_s24_t1 l D ty eo _ ad q  r1 q3 h2) (cwV 1 hts gX4_readClause_X4_wordIn rfl rfl rfl (by decide +kernel) ⟨Nat.le_of_ble_eq_true rfl, Nat.le_of_ble_eq_true rfl⟩) (dw_preV (ci := 4) (q0 := 24) hK hN hE hP hD hS hA rfl rfl) rfl rfl hl.1 rfl (lv_room (Nat.le_of_ble_eq_true rfl)) dX4_readClause_15 ⟨Nat.le_of_ble_eq_true rfl, Nat.le_of_ble_eq_true rfl⟩) hD hS hA (fun r9 u9 H locs hw hp hd hs => ?_)
  clear hP hD hS
  obtain ⟨rfl, rfl⟩ := hw
  have hP := hp; have hD := hd; have hS := hs; clear hp hd hs
  refine lv_istore_n (lv' := [(1, .int r1), (0, .ref (ad 24))]) hx hb dX4_readClause_18 rfl hl (by decide) rfl (fun ls hl => ?_)
  refine lv_iload_n hx hb dX4_readClause_19 rfl (lv_at hl 0 rfl) ?_
  refine lv_iconst (v := (-1)) hx hb dX4_readClause_20 (by decide) ?_
  refine lv_icmp_ne (tgt := 29) hx hb dX4_readClause_21 (by decide) (fun c9 => ?_) (fun c9 => ?_)
  · rw [if_neg c9] at h
    refine lv_aload_n hx hb dX4_readClause_29 rfl (lv_at hl 1 rfl) ?_
    refine va_get (D := D) (ci := 4) (v := dN (ad 25) (q3.1 24 3)) (C := RX4) (T := TX4) (N := 11) hx hb hts u9_wsX4_readClause_X4 hown hK hP 24 rfl rfl 3 (by decide) (hts (.fieldLink RX4 23 "TurnedFloors$Reader" "text" "LTurnedFloors$Text;") f9_wsX4_readClause_556) (fun _ h9 => h9) rfl dX4_readClause_30 ?_
    obtain ⟨g4, h⟩ := dG_some h
    refine kz_topv (if_neg (dnz_ne g4)) ?_
    refine lv_iload_n hx hb dX4_readClause_33 rfl (lv_at hl 0 rfl) ?_
    obtain ⟨q7, h6, h⟩ := dV_some h
    refine dw_kv (va_runV (As := [.int r1]) (rest := []) ⟨hx, hb, hml, hown, hts⟩ (qX7_beginClause_s25 l D ty eo _ ad q3 r1 q7 h6) (cwV 1 hts gX4_readClause_X7_beginClause rfl rfl rfl (by decide +kernel) ⟨Nat.le_of_ble_eq_true rfl, Nat.le_of_ble_eq_true rfl⟩) (dw_preV (ci := 7) (q0 := 25) hK hN hE hP hD hS hA rfl rfl) rfl rfl hl.1 rfl (lv_room (Nat.le_of_ble_eq_true rfl)) dX4_readClause_34 ⟨Nat.le_of_ble_eq_true rfl, Nat.le_of_ble_eq_true rfl⟩) hD hS hA (fun u9 H locs hw hp hd hs => ?_)
    clear hP hD hS
    obtain rfl := hw
    have hP := hp; have hD := hd; have hS := hs; clear hp hd hs
    refine lv_aload_n hx hb dX4_readClause_37 rfl (lv_at hl 1 rfl) ?_
    obtain ⟨q10, h9, h⟩ := dV_some h
    refine dw_kv (va_runV (As := []) (rest := []) ⟨hx, hb, hml, hown, hts⟩ (qX4_step_s24 l D ty eo _ ad q7  q10 h9) (cwV 0 hts gX4_readClause_X4_step rfl rfl rfl (by decide +kernel) ⟨Nat.le_of_ble_eq_true rfl, Nat.le_of_ble_eq_true rfl⟩) (dw_preV (ci := 4) (q0 := 24) hK hN hE hP hD hS hA rfl rfl) rfl rfl hl.1 rfl (lv_room (Nat.le_of_ble_eq_true rfl)) dX4_readClause_38 ⟨Nat.le_of_ble_eq_true rfl, Nat.le_of_ble_eq_true rfl⟩) hD hS hA (fun u9 H locs hw hp hd hs => ?_)
    clear hP hD hS
    obtain rfl := hw
    have hP := hp; have hD := hd; have hS := hs; clear hp hd hs
    refine lv_aload_n hx hb dX4_readClause_41 rfl (lv_at hl 1 rfl) ?_
    refine va_get (D := D) (ci := 4) (v := .int (q10.1 24 2)) (C := RX4) (T := TX4) (N := 11) hx hb hts u9_wsX4_readClause_X4 hown hK hP 24 rfl rfl 2 (by decide) (hts (.fieldLink RX4 19 "TurnedFloors$Reader" "ofOrders" "Z") f9_wsX4_readClause_557) (fun _ h9 => h9) rfl dX4_readClause_42 ?_
    refine lv_if_eq (tgt := 56) hx hb dX4_readClause_45 (by decide) (fun c9 => ?_) (fun c9 => ?_)
    · rw [if_pos c9] at h
      refine lv_iload_n hx hb dX4_readClause_56 rfl (lv_at hl 0 rfl) ?_
      refine lv_if_ne (tgt := 71) hx hb dX4_readClause_57 (by decide) (fun c9 => ?_) (fun c9 => ?_)
      · rw [if_neg c9] at h
        exact WX4_readClause_s24_71 C0  _ _ _ _ h hP hD hS (lv_sub hl [1] rfl)
      · rw [if_pos c9] at h
        exact WX4_readClause_s24_60 C0  _ _ _ _ h hP hD hS (lv_sub hl [1] rfl)
    · rw [if_neg c9] at h
      refine lv_iload_n hx hb dX4_readClause_48 rfl (lv_at hl 0 rfl) ?_
      refine lv_iconst (v := 3) hx hb dX4_readClause_49 (by decide) ?_
      refine lv_icmp_eq (tgt := 71) hx hb dX4_readClause_50 (by decide) (fun c9 => ?_) (fun c9 => ?_)
      · rw [if_pos c9] at h
        exact WX4_readClause_s24_71 C0  _ _ _ _ h hP hD hS (lv_sub hl [1] rfl)
      · rw [if_neg c9] at h
        refine lv_goto (tgt := 60) hx hb dX4_readClause_53 (by decide) ?_
        exact WX4_readClause_s24_60 C0  _ _ _ _ h hP hD hS (lv_sub hl [1] rfl)
  · rw [if_pos c9] at h
    refine lv_aload_n hx hb dX4_readClause_24 rfl (lv_at hl 1 rfl) ?_
    obtain ⟨q13, h12, h⟩ := dV_some h
    refine dw_kv (va_runV (As := []) (rest := []) ⟨hx, hb, hml, hown, hts⟩ (qX4_fail_s24 l D ty eo _ ad q3  q13 h12) (cwV 0 hts gX4_readClause_X4_fail rfl rfl rfl (by decide +kernel) ⟨Nat.le_of_ble_eq_true rfl, Nat.le_of_ble_eq_true rfl⟩) (dw_preV (ci := 4) (q0 := 24) hK hN hE hP hD hS hA rfl rfl) rfl rfl hl.1 rfl (lv_room (Nat.le_of_ble_eq_true rfl)) dX4_readClause_25 ⟨Nat.le_of_ble_eq_true rfl, Nat.le_of_ble_eq_true rfl⟩) hD hS hA (fun u9 H locs hw hp hd hs => ?_)
    clear hP hD hS
    obtain rfl := hw
    have hP := hp; have hD := hd; have hS := hs; clear hp hd hs
    cases h
    exact kz_vret hx hb hr hlocks hP hK hD hS dX4_readClause_28 rfl
set_option maxHeartbeats 4000000 in
set_option maxRecDepth 100000 in
theorem qX4_readClause_s24 (l : Launch) (D : va_G) (ty : Nat → ClassId) (eo : Nat → Nat) (sz : Nat) (ad : Nat → Nat) (q : dK)  (o2 : dK) (h : zX4_readClause_s24 q = some o2) : Met l yX4_readClause wsX4_readClause ({ frames := 75, cells := 0, slots := 0, locals := 1812 } : Room) (va_Pc [.ref (ad 24)] (kz_pre D ty eo (wF ty ad q) sz)) (va_Qv (fun (u : va_W) => wF ty ad o2 = u) (kz_B D ty (va_A (wF ty ad q) sz)) (va_A (wF ty ad q) sz)) 0 0 (va_A (wF ty ad q) sz) := by
  refine Met.ofW (cc := cX4_readClause) (maxL := 2) (ret := none) (by decide) rfl ?_
  intro p e s m args below meth c s₁ B hml hv
  obtain ⟨rfl, hsz, hP, hK, hD0, hN, hE⟩ := hv
  have hx := B.exec
  have hb := B.bytes
  have hr := B.returns
  have hts := atoms_spec (ws := wsX4_readClause) B.pre
  have hown : s.vm.findClass RX4 = some m.cls := findClass_of_methodNamed B.named
  have hlocks := B.notSynchronized
  subst hsz
  have hD := hD0.self (sz := s.heap.size)
  generalize hAe : va_A (wF ty ad q) s.heap.size = A at hD hE ⊢
  have hA : ∀ q : Nat, s.heap.size ≤ q → A q := fun q h => by rw [← hAe]; exact Or.inr h
  clear hAe
  have hS : va_S A s.heap s.heap [] := va_S.rf
  have hl := lv_entry ([.ref (ad 24)]) (n := 2) (Nat.le_of_ble_eq_true rfl)
  rw [lg_entry_eq]
  generalize (lg_sl ([.ref (ad 24)]) ++ List.replicate (2 - (lg_sl ([.ref (ad 24)])).length) Slot.unset).toArray = ls at hl ⊢
  have hl : lv_has ls 2 [(0, .ref (ad 24))] := hl
  have C : dc_C p s m _ meth c cX4_readClause none 2 RX4 wsX4_readClause D ty eo A := ⟨hx, hb, hr, hts, hown, hlocks, hml, hK, hN, hE, hA⟩
  unfold zX4_readClause_s24 at h
  refine lv_aload_n hx hb dX4_readClause_0 rfl (lv_at hl 0 rfl) ?_
  refine lv_aload_n hx hb dX4_readClause_1 rfl (lv_at hl 0 rfl) ?_
  refine va_get (D := D) (ci := 4) (v := .int (q.1 24 2)) (C := RX4) (T := TX4) (N := 11) hx hb hts u9_wsX4_readClause_X4 hown hK hP 24 rfl rfl 2 (by decide) (hts (.fieldLink RX4 19 "TurnedFloors$Reader" "ofOrders" "Z") f9_wsX4_readClause_557) (fun _ h9 => h9) rfl dX4_readClause_2 ?_
  refine lv_if_eq (tgt := 13) hx hb dX4_readClause_5 (by decide) (fun c9 => ?_) (fun c9 => ?_)
  · rw [if_pos c9] at h
    refine va_ldcS hx hb hown (hE.2.2.2.2.1 1 (by decide)) dX4_readClause_13 ?_
    exact WX4_readClause_s24_15 C  _ _ _ _ h hP hD hS (lv_sub hl [0] rfl)
  · rw [if_neg c9] at h
    refine va_ldcS hx hb hown (hE.2.2.2.2.1 0 (by decide)) dX4_readClause_8 ?_
    refine lv_goto (tgt := 15) hx hb dX4_readClause_10 (by decide) ?_
    obtain ⟨r1, q3, h2, h⟩ := dB_some h
    refine dw_ki (va_runV (As := [.ref (eo (1 + 0))]) (rest := []) ⟨hx, hb, hml, hown, hts⟩ (qX4_wordIn_s24_t0 l D ty eo _ ad q  r1 q3 h2) (cwV 1 hts gX4_readClause_X4_wordIn rfl rfl rfl (by decide +kernel) ⟨Nat.le_of_ble_eq_true rfl, Nat.le_of_ble_eq_true rfl⟩) (dw_preV (ci := 4) (q0 := 24) hK hN hE hP hD hS hA rfl rfl) rfl rfl hl.1 rfl (lv_room (Nat.le_of_ble_eq_true rfl)) dX4_readClause_15 ⟨Nat.le_of_ble_eq_true rfl, Nat.le_of_ble_eq_true rfl⟩) hD hS hA (fun r9 u9 H locs hw hp hd hs => ?_)
    clear hP hD hS
    obtain ⟨rfl, rfl⟩ := hw
    have hP := hp; have hD := hd; have hS := hs; clear hp hd hs
    refine lv_istore_n (lv' := [(1, .int r1), (0, .ref (ad 24))]) hx hb dX4_readClause_18 rfl hl (by decide) rfl (fun ls hl => ?_)
    refine lv_iload_n hx hb dX4_readClause_19 rfl (lv_at hl 0 rfl) ?_
    refine lv_iconst (v := (-1)) hx hb dX4_readClause_20 (by decide) ?_
    refine lv_icmp_ne (tgt := 29) hx hb dX4_readClause_21 (by decide) (fun c9 => ?_) (fun c9 => ?_)
    · rw [if_neg c9] at h
      refine lv_aload_n hx hb dX4_readClause_29 rfl (lv_at hl 1 rfl) ?_
      refine va_get (D := D) (ci := 4) (v := dN (ad 25) (q3.1 24 3)) (C := RX4) (T := TX4) (N := 11) hx hb hts u9_wsX4_readClause_X4 hown hK hP 24 rfl rfl 3 (by decide) (hts (.fieldLink RX4 23 "TurnedFloors$Reader" "text" "LTurnedFloors$Text;") f9_wsX4_readClause_556) (fun _ h9 => h9) rfl dX4_readClause_30 ?_
      obtain ⟨g4, h⟩ := dG_some h
      refine kz_topv (if_neg (dnz_ne g4)) ?_
      refine lv_iload_n hx hb dX4_readClause_33 rfl (lv_at hl 0 rfl) ?_
      obtain ⟨q7, h6, h⟩ := dV_some h
      refine dw_kv (va_runV (As := [.int r1]) (rest := []) ⟨hx, hb, hml, hown, hts⟩ (qX7_beginClause_s25 l D ty eo _ ad q3 r1 q7 h6) (cwV 1 hts gX4_readClause_X7_beginClause rfl rfl rfl (by decide +kernel) ⟨Nat.le_of_ble_eq_true rfl, Nat.le_of_ble_eq_true rfl⟩) (dw_preV (ci := 7) (q0 := 25) hK hN hE hP hD hS hA rfl rfl) rfl rfl hl.1 rfl (lv_room (Nat.le_of_ble_eq_true rfl)) dX4_readClause_34 ⟨Nat.le_of_ble_eq_true rfl, Nat.le_of_ble_eq_true rfl⟩) hD hS hA (fun u9 H locs hw hp hd hs => ?_)
      clear hP hD hS
      obtain rfl := hw
      have hP := hp; have hD := hd; have hS := hs; clear hp hd hs
      refine lv_aload_n hx hb dX4_readClause_37 rfl (lv_at hl 1 rfl) ?_
      obtain ⟨q10, h9, h⟩ := dV_some h
      refine dw_kv (va_runV (As := []) (rest := []) ⟨hx, hb, hml, hown, hts⟩ (qX4_step_s24 l D ty eo _ ad q7  q10 h9) (cwV 0 hts gX4_readClause_X4_step rfl rfl rfl (by decide +kernel) ⟨Nat.le_of_ble_eq_true rfl, Nat.le_of_ble_eq_true rfl⟩) (dw_preV (ci := 4) (q0 := 24) hK hN hE hP hD hS hA rfl rfl) rfl rfl hl.1 rfl (lv_room (Nat.le_of_ble_eq_true rfl)) dX4_readClause_38 ⟨Nat.le_of_ble_eq_true rfl, Nat.le_of_ble_eq_true rfl⟩) hD hS hA (fun u9 H locs hw hp hd hs => ?_)
      clear hP hD hS
      obtain rfl := hw
      have hP := hp; have hD := hd; have hS := hs; clear hp hd hs
      refine lv_aload_n hx hb dX4_readClause_41 rfl (lv_at hl 1 rfl) ?_
      refine va_get (D := D) (ci := 4) (v := .int (q10.1 24 2)) (C := RX4) (T := TX4) (N := 11) hx hb hts u9_wsX4_readClause_X4 hown hK hP 24 rfl rfl 2 (by decide) (hts (.fieldLink RX4 19 "TurnedFloors$Reader" "ofOrders" "Z") f9_wsX4_readClause_557) (fun _ h9 => h9) rfl dX4_readClause_42 ?_
      refine lv_if_eq (tgt := 56) hx hb dX4_readClause_45 (by decide) (fun c9 => ?_) (fun c9 => ?_)
      · rw [if_pos c9] at h
        refine lv_iload_n hx hb dX4_readClause_56 rfl (lv_at hl 0 rfl) ?_
        refine lv_if_ne (tgt := 71) hx hb dX4_readClause_57 (by decide) (fun c9 => ?_) (fun c9 => ?_)
        · rw [if_neg c9] at h
          exact WX4_readClause_s24_71 C  _ _ _ _ h hP hD hS (lv_sub hl [1] rfl)
        · rw [if_pos c9] at h
          exact WX4_readClause_s24_60 C  _ _ _ _ h hP hD hS (lv_sub hl [1] rfl)
      · rw [if_neg c9] at h
        refine lv_iload_n hx hb dX4_readClause_48 rfl (lv_at hl 0 rfl) ?_
        refine lv_iconst (v := 3) hx hb dX4_readClause_49 (by decide) ?_
        refine lv_icmp_eq (tgt := 71) hx hb dX4_readClause_50 (by decide) (fun c9 => ?_) (fun c9 => ?_)
        · rw [if_pos c9] at h
          exact WX4_readClause_s24_71 C  _ _ _ _ h hP hD hS (lv_sub hl [1] rfl)
        · rw [if_neg c9] at h
          refine lv_goto (tgt := 60) hx hb dX4_readClause_53 (by decide) ?_
          exact WX4_readClause_s24_60 C  _ _ _ _ h hP hD hS (lv_sub hl [1] rfl)
    · rw [if_pos c9] at h
      refine lv_aload_n hx hb dX4_readClause_24 rfl (lv_at hl 1 rfl) ?_
      obtain ⟨q13, h12, h⟩ := dV_some h
      refine dw_kv (va_runV (As := []) (rest := []) ⟨hx, hb, hml, hown, hts⟩ (qX4_fail_s24 l D ty eo _ ad q3  q13 h12) (cwV 0 hts gX4_readClause_X4_fail rfl rfl rfl (by decide +kernel) ⟨Nat.le_of_ble_eq_true rfl, Nat.le_of_ble_eq_true rfl⟩) (dw_preV (ci := 4) (q0 := 24) hK hN hE hP hD hS hA rfl rfl) rfl rfl hl.1 rfl (lv_room (Nat.le_of_ble_eq_true rfl)) dX4_readClause_25 ⟨Nat.le_of_ble_eq_true rfl, Nat.le_of_ble_eq_true rfl⟩) hD hS hA (fun u9 H locs hw hp hd hs => ?_)
      clear hP hD hS
      obtain rfl := hw
      have hP := hp; have hD := hd; have hS := hs; clear hp hd hs
      cases h
      exact kz_vret hx hb hr hlocks hP hK hD hS dX4_readClause_28 rfl

set_option maxHeartbeats 4000000 in
set_option maxRecDepth 100000 in
theorem WX4_read_s24_s46_s25_122 {p : Program} {l : Launch} {e : Env} {s : State} {m : MethodId} {args : Array Value} {below : List Frame} {meth : Method} {c : Code} {D : va_G} {ty : Nat → ClassId} {eo : Nat → Nat} {A : Nat → Prop} {ad : Nat → Nat} {o1 : Int32} {o2 : dK} (C : dc_C p s m args meth c cX4_read (some .int) 6 RX4 wsX4_read D ty eo A)   (q : dK)  (H : Heap) (locs : List Loc) (ls : Array Slot) (h : zX4_read_s24_s46_s25_122  q = some (o1, o2)) (hP : va_P D vwCl (wF ty ad q) H) (hD : va_D A (wF ty ad q)) (hS : va_S A s.heap H locs) (hl : lv_has ls 6 [(0, .ref (ad 24))]) : W p l e ({ frames := 76, cells := 0, slots := 0, locals := 1833 } : Room) s m args below meth c H locs 0 0 (MQ below (va_Qi (fun (r : Int32) (u : va_W) => o1 = r ∧ wF ty ad o2 = u) (kz_B D ty A) A) args s 0 0 A) (F0 m 122 ls []) := by
  have C0 := C
  obtain ⟨hx, hb, hr, hts, hown, hlocks, hml, hK, hN, hE, hA⟩ := C
  unfold zX4_read_s24_s46_s25_122 at h
  refine lv_aload_n hx hb dX4_read_122 rfl (lv_at hl 0 rfl) ?_
  refine va_get (D := D) (ci := 4) (v := .int (q.1 24 10)) (C := RX4) (T := TX4) (N := 11) hx hb hts u9_wsX4_read_X4 hown hK hP 24 rfl rfl 10 (by decide) (hts (.fieldLink RX4 45 "TurnedFloors$Reader" "faultAt" "I") f9_wsX4_read_559) (fun _ h9 => h9) rfl dX4_read_123 ?_
  cases h
  exact kz_iret hx hb hr hlocks hP hK hD hS dX4_read_126 ⟨rfl, rfl⟩
set_option maxHeartbeats 4000000 in
set_option maxRecDepth 100000 in
theorem WX4_read_s24_s46_s25_110 {p : Program} {l : Launch} {e : Env} {s : State} {m : MethodId} {args : Array Value} {below : List Frame} {meth : Method} {c : Code} {D : va_G} {ty : Nat → ClassId} {eo : Nat → Nat} {A : Nat → Prop} {ad : Nat → Nat} {o1 : Int32} {o2 : dK} (C : dc_C p s m args meth c cX4_read (some .int) 6 RX4 wsX4_read D ty eo A) {k60 : dK → Int32 → Option (Int32 × dK)} (hk60 : ∀ (q : dK) (x5 : Int32) (H : Heap) (locs : List Loc) (ls : Array Slot), k60 q x5 = some (o1, o2) → va_P D vwCl (wF ty ad q) H → va_D A (wF ty ad q) → va_S A s.heap H locs → lv_has ls 6 [(0, .ref (ad 24)), (5, .int x5)] → W p l e ({ frames := 76, cells := 0, slots := 0, locals := 1833 } : Room) s m args below meth c H locs 0 0 (MQ below (va_Qi (fun (r : Int32) (u : va_W) => o1 = r ∧ wF ty ad o2 = u) (kz_B D ty A) A) args s 0 0 A) (F0 m 60 ls [])) (q : dK) (x5 : Int32) (H : Heap) (locs : List Loc) (ls : Array Slot) (h : zX4_read_s24_s46_s25_110 k60 q x5 = some (o1, o2)) (hP : va_P D vwCl (wF ty ad q) H) (hD : va_D A (wF ty ad q)) (hS : va_S A s.heap H locs) (hl : lv_has ls 6 [(0, .ref (ad 24)), (5, .int x5)]) : W p l e ({ frames := 76, cells := 0, slots := 0, locals := 1833 } : Room) s m args below meth c H locs 0 0 (MQ below (va_Qi (fun (r : Int32) (u : va_W) => o1 = r ∧ wF ty ad o2 = u) (kz_B D ty A) A) args s 0 0 A) (F0 m 110 ls []) := by
  have C0 := C
  obtain ⟨hx, hb, hr, hts, hown, hlocks, hml, hK, hN, hE, hA⟩ := C
  unfold zX4_read_s24_s46_s25_110 at h
  refine lv_aload_n hx hb dX4_read_110 rfl (lv_at hl 0 rfl) ?_
  refine lv_bipush (v := 59) hx hb dX4_read_111 (by decide) ?_
  obtain ⟨q3, h2, h⟩ := dV_some h
  refine dw_kv (va_runV (As := [.int 59]) (rest := []) ⟨hx, hb, hml, hown, hts⟩ (qX4_expectSign_s24 l D ty eo _ ad q 59 q3 h2) (cwV 1 hts gX4_read_X4_expectSign rfl rfl rfl (by decide +kernel) ⟨Nat.le_of_ble_eq_true rfl, Nat.le_of_ble_eq_true rfl⟩) (dw_preV (ci := 4) (q0 := 24) hK hN hE hP hD hS hA rfl rfl) rfl rfl hl.1 rfl (lv_room (Nat.le_of_ble_eq_true rfl)) dX4_read_113 ⟨Nat.le_of_ble_eq_true rfl, Nat.le_of_ble_eq_true rfl⟩) hD hS hA (fun u9 H locs hw hp hd hs => ?_)
  clear hP hD hS
  obtain rfl := hw
  have hP := hp; have hD := hd; have hS := hs; clear hp hd hs
  refine lv_iinc (v := x5 + 1) (lv' := [(5, .int (x5 + 1)), (0, .ref (ad 24))]) hx hb dX4_read_116 hl (k := 1) rfl rfl (by decide) rfl (fun ls hl => ?_)
  refine lv_goto (tgt := 60) hx hb dX4_read_119 (by decide) ?_
  exact hk60 _ _ _ _ _ h hP hD hS (lv_sub hl [1, 0] rfl)
set_option maxHeartbeats 4000000 in
set_option maxRecDepth 100000 in
theorem WX4_read_s24_s46_s25_93 {p : Program} {l : Launch} {e : Env} {s : State} {m : MethodId} {args : Array Value} {below : List Frame} {meth : Method} {c : Code} {D : va_G} {ty : Nat → ClassId} {eo : Nat → Nat} {A : Nat → Prop} {ad : Nat → Nat} {o1 : Int32} {o2 : dK} (C : dc_C p s m args meth c cX4_read (some .int) 6 RX4 wsX4_read D ty eo A) {k60 : dK → Int32 → Option (Int32 × dK)} (hk60 : ∀ (q : dK) (x5 : Int32) (H : Heap) (locs : List Loc) (ls : Array Slot), k60 q x5 = some (o1, o2) → va_P D vwCl (wF ty ad q) H → va_D A (wF ty ad q) → va_S A s.heap H locs → lv_has ls 6 [(0, .ref (ad 24)), (5, .int x5)] → W p l e ({ frames := 76, cells := 0, slots := 0, locals := 1833 } : Room) s m args below meth c H locs 0 0 (MQ below (va_Qi (fun (r : Int32) (u : va_W) => o1 = r ∧ wF ty ad o2 = u) (kz_B D ty A) A) args s 0 0 A) (F0 m 60 ls [])) (q : dK) (x5 : Int32) (H : Heap) (locs : List Loc) (ls : Array Slot) (h : zX4_read_s24_s46_s25_93 k60 q x5 = some (o1, o2)) (hP : va_P D vwCl (wF ty ad q) H) (hD : va_D A (wF ty ad q)) (hS : va_S A s.heap H locs) (hl : lv_has ls 6 [(0, .ref (ad 24)), (5, .int x5)]) : W p l e ({ frames := 76, cells := 0, slots := 0, locals := 1833 } : Room) s m args below meth c H locs 0 0 (MQ below (va_Qi (fun (r : Int32) (u : va_W) => o1 = r ∧ wF ty ad o2 = u) (kz_B D ty A) A) args s 0 0 A) (F0 m 93 ls []) := by
  have C0 := C
  obtain ⟨hx, hb, hr, hts, hown, hlocks, hml, hK, hN, hE, hA⟩ := C
  unfold zX4_read_s24_s46_s25_93 at h
  refine lv_aload_n hx hb dX4_read_93 rfl (lv_at hl 0 rfl) ?_
  refine va_get (D := D) (ci := 4) (v := .int (q.1 24 10)) (C := RX4) (T := TX4) (N := 11) hx hb hts u9_wsX4_read_X4 hown hK hP 24 rfl rfl 10 (by decide) (hts (.fieldLink RX4 45 "TurnedFloors$Reader" "faultAt" "I") f9_wsX4_read_559) (fun _ h9 => h9) rfl dX4_read_94 ?_
  refine lv_iconst (v := (-1)) hx hb dX4_read_97 (by decide) ?_
  refine lv_icmp_ne (tgt := 110) hx hb dX4_read_98 (by decide) (fun c9 => ?_) (fun c9 => ?_)
  · rw [if_neg c9] at h
    exact WX4_read_s24_s46_s25_110 C0 hk60 _ _ _ _ _ h hP hD hS (lv_sub hl [0, 1] rfl)
  · rw [if_pos c9] at h
    refine lv_aload_n hx hb dX4_read_101 rfl (lv_at hl 0 rfl) ?_
    refine va_get (D := D) (ci := 4) (v := .int (q.1 24 4)) (C := RX4) (T := TX4) (N := 11) hx hb hts u9_wsX4_read_X4 hown hK hP 24 rfl rfl 4 (by decide) (hts (.fieldLink RX4 27 "TurnedFloors$Reader" "token" "I") f9_wsX4_read_560) (fun _ h9 => h9) rfl dX4_read_102 ?_
    refine lv_if_ne (tgt := 110) hx hb dX4_read_105 (by decide) (fun c9 => ?_) (fun c9 => ?_)
    · rw [if_neg c9] at h
      exact WX4_read_s24_s46_s25_110 C0 hk60 _ _ _ _ _ h hP hD hS (lv_sub hl [0, 1] rfl)
    · rw [if_pos c9] at h
      refine lv_iconst (v := (-1)) hx hb dX4_read_108 (by decide) ?_
      cases h
      exact kz_iret hx hb hr hlocks hP hK hD hS dX4_read_109 ⟨rfl, rfl⟩
set_option maxHeartbeats 4000000 in
set_option maxRecDepth 100000 in
theorem WX4_read_s24_s46_s25_60b {p : Program} {l : Launch} {e : Env} {s : State} {m : MethodId} {args : Array Value} {below : List Frame} {meth : Method} {c : Code} {D : va_G} {ty : Nat → ClassId} {eo : Nat → Nat} {A : Nat → Prop} {ad : Nat → Nat} {o1 : Int32} {o2 : dK} (C : dc_C p s m args meth c cX4_read (some .int) 6 RX4 wsX4_read D ty eo A) {k60 : dK → Int32 → Option (Int32 × dK)} (hk60 : ∀ (q : dK) (x5 : Int32) (H : Heap) (locs : List Loc) (ls : Array Slot), k60 q x5 = some (o1, o2) → va_P D vwCl (wF ty ad q) H → va_D A (wF ty ad q) → va_S A s.heap H locs → lv_has ls 6 [(0, .ref (ad 24)), (5, .int x5)] → W p l e ({ frames := 76, cells := 0, slots := 0, locals := 1833 } : Room) s m args below meth c H locs 0 0 (MQ below (va_Qi (fun (r : Int32) (u : va_W) => o1 = r ∧ wF ty ad o2 = u) (kz_B D ty A) A) args s 0 0 A) (F0 m 60 ls [])) (q : dK) (x5 : Int32) (H : Heap) (locs : List Loc) (ls : Array Slot) (h : zX4_read_s24_s46_s25_60b k60 q x5 = some (o1, o2)) (hP : va_P D vwCl (wF ty ad q) H) (hD : va_D A (wF ty ad q)) (hS : va_S A s.heap H locs) (hl : lv_has ls 6 [(0, .ref (ad 24)), (5, .int x5)]) : W p l e ({ frames := 76, cells := 0, slots := 0, locals := 1833 } : Room) s m args below meth c H locs 0 0 (MQ below (va_Qi (fun (r : Int32) (u : va_W) => o1 = r ∧ wF ty ad o2 = u) (kz_B D ty A) A) args s 0 0 A) (F0 m 60 ls []) := by
  have C0 := C
  obtain ⟨hx, hb, hr, hts, hown, hlocks, hml, hK, hN, hE, hA⟩ := C
  unfold zX4_read_s24_s46_s25_60b at h
  refine lv_iload hx hb dX4_read_60 (lv_at hl 1 rfl) ?_
  refine lv_bipush (v := 12) hx hb dX4_read_62 (by decide) ?_
  refine lv_icmp_gt (tgt := 122) hx hb dX4_read_64 (by decide) (fun c9 => ?_) (fun c9 => ?_)
  · rw [if_pos c9] at h
    exact WX4_read_s24_s46_s25_122 C0  _ _ _ _ h hP hD hS (lv_sub hl [0] rfl)
  · rw [if_neg c9] at h
    refine lv_aload_n hx hb dX4_read_67 rfl (lv_at hl 0 rfl) ?_
    refine va_get (D := D) (ci := 4) (v := .int (q.1 24 10)) (C := RX4) (T := TX4) (N := 11) hx hb hts u9_wsX4_read_X4 hown hK hP 24 rfl rfl 10 (by decide) (hts (.fieldLink RX4 45 "TurnedFloors$Reader" "faultAt" "I") f9_wsX4_read_559) (fun _ h9 => h9) rfl dX4_read_68 ?_
    refine lv_iconst (v := (-1)) hx hb dX4_read_71 (by decide) ?_
    refine lv_icmp_ne (tgt := 122) hx hb dX4_read_72 (by decide) (fun c9 => ?_) (fun c9 => ?_)
    · rw [if_neg c9] at h
      exact WX4_read_s24_s46_s25_122 C0  _ _ _ _ h hP hD hS (lv_sub hl [0] rfl)
    · rw [if_pos c9] at h
      refine lv_iload hx hb dX4_read_75 (lv_at hl 1 rfl) ?_
      refine lv_bipush (v := 12) hx hb dX4_read_77 (by decide) ?_
      refine lv_icmp_ne (tgt := 89) hx hb dX4_read_79 (by decide) (fun c9 => ?_) (fun c9 => ?_)
      · rw [if_neg c9] at h
        refine lv_aload_n hx hb dX4_read_89 rfl (lv_at hl 0 rfl) ?_
        obtain ⟨q3, h2, h⟩ := dV_some h
        refine dw_kv (va_runV (As := []) (rest := []) ⟨hx, hb, hml, hown, hts⟩ (qX4_readClause_s24 l D ty eo _ ad q  q3 h2) (cwV 0 hts gX4_read_X4_readClause rfl rfl rfl (by decide +kernel) ⟨Nat.le_of_ble_eq_true rfl, Nat.le_of_ble_eq_true rfl⟩) (dw_preV (ci := 4) (q0 := 24) hK hN hE hP hD hS hA rfl rfl) rfl rfl hl.1 rfl (lv_room (Nat.le_of_ble_eq_true rfl)) dX4_read_90 ⟨Nat.le_of_ble_eq_true rfl, Nat.le_of_ble_eq_true rfl⟩) hD hS hA (fun u9 H locs hw hp hd hs => ?_)
        clear hP hD hS
        obtain rfl := hw
        have hP := hp; have hD := hd; have hS := hs; clear hp hd hs
        exact WX4_read_s24_s46_s25_93 C0 hk60 _ _ _ _ _ h hP hD hS (lv_sub hl [0, 1] rfl)
      · rw [if_pos c9] at h
        refine lv_aload_n hx hb dX4_read_82 rfl (lv_at hl 0 rfl) ?_
        obtain ⟨q6, h5, h⟩ := dV_some h
        refine dw_kv (va_runV (As := []) (rest := []) ⟨hx, hb, hml, hown, hts⟩ (qX4_fail_s24 l D ty eo _ ad q  q6 h5) (cwV 0 hts gX4_read_X4_fail rfl rfl rfl (by decide +kernel) ⟨Nat.le_of_ble_eq_true rfl, Nat.le_of_ble_eq_true rfl⟩) (dw_preV (ci := 4) (q0 := 24) hK hN hE hP hD hS hA rfl rfl) rfl rfl hl.1 rfl (lv_room (Nat.le_of_ble_eq_true rfl)) dX4_read_83 ⟨Nat.le_of_ble_eq_true rfl, Nat.le_of_ble_eq_true rfl⟩) hD hS hA (fun u9 H locs hw hp hd hs => ?_)
        clear hP hD hS
        obtain rfl := hw
        have hP := hp; have hD := hd; have hS := hs; clear hp hd hs
        refine lv_goto (tgt := 93) hx hb dX4_read_86 (by decide) ?_
        exact WX4_read_s24_s46_s25_93 C0 hk60 _ _ _ _ _ h hP hD hS (lv_sub hl [0, 1] rfl)
set_option maxHeartbeats 4000000 in
set_option maxRecDepth 100000 in
theorem WX4_read_s24_s46_s25_60 {p : Program} {l : Launch} {e : Env} {s : State} {m : MethodId} {args : Array Value} {below : List Frame} {meth : Method} {c : Code} {D : va_G} {ty : Nat → ClassId} {eo : Nat → Nat} {A : Nat → Prop} {ad : Nat → Nat} {o1 : Int32} {o2 : dK} (C : dc_C p s m args meth c cX4_read (some .int) 6 RX4 wsX4_read D ty eo A)   (n : Nat) (q : dK) (x5 : Int32) (H : Heap) (locs : List Loc) (ls : Array Slot) (h : zX4_read_s24_s46_s25_60  n q x5 = some (o1, o2)) (hP : va_P D vwCl (wF ty ad q) H) (hD : va_D A (wF ty ad q)) (hS : va_S A s.heap H locs) (hl : lv_has ls 6 [(0, .ref (ad 24)), (5, .int x5)]) : W p l e ({ frames := 76, cells := 0, slots := 0, locals := 1833 } : Room) s m args below meth c H locs 0 0 (MQ below (va_Qi (fun (r : Int32) (u : va_W) => o1 = r ∧ wF ty ad o2 = u) (kz_B D ty A) A) args s 0 0 A) (F0 m 60 ls []) := by
  exact dFix_W (F := fun k (a : dK × Int32) => zX4_read_s24_s46_s25_60b  (fun q x5 => k (q, x5)) a.1 a.2) (o := (o1, o2)) (P := fun (a : dK × Int32) H locs ls => va_P D vwCl (wF ty ad a.1) H ∧ va_D A (wF ty ad a.1) ∧ va_S A s.heap H locs ∧ lv_has ls 6 [(0, .ref (ad 24)), (5, .int a.2)]) (G := fun H locs ls => W p l e ({ frames := 76, cells := 0, slots := 0, locals := 1833 } : Room) s m args below meth c H locs 0 0 (MQ below (va_Qi (fun (r : Int32) (u : va_W) => o1 = r ∧ wF ty ad o2 = u) (kz_B D ty A) A) args s 0 0 A) (F0 m 60 ls []))
    (fun k hk a H locs ls h hp => WX4_read_s24_s46_s25_60b C  (fun q x5 H locs ls h h1 h2 h3 h4 => hk (q, x5) H locs ls h ⟨h1, h2, h3, h4⟩) a.1 a.2 H locs ls h hp.1 hp.2.1 hp.2.2.1 hp.2.2.2) n (q, x5) H locs ls h ⟨hP, hD, hS, hl⟩
set_option maxHeartbeats 4000000 in
set_option maxRecDepth 100000 in
theorem qX4_read_s24_s46_s25 (l : Launch) (D : va_G) (ty : Nat → ClassId) (eo : Nat → Nat) (sz : Nat) (ad : Nat → Nat) (q : dK) (p2 : Int32) (p3 : Int32) (o1 : Int32) (o2 : dK) (h : zX4_read_s24_s46_s25 q p2 p3 = some (o1, o2)) : Met l yX4_read wsX4_read ({ frames := 76, cells := 0, slots := 0, locals := 1833 } : Room) (va_Pc [.ref (ad 24), .ref (ad 46), .int p2, .int p3, .ref (ad 25)] (kz_pre D ty eo (wF ty ad q) sz)) (va_Qi (fun (r : Int32) (u : va_W) => o1 = r ∧ wF ty ad o2 = u) (kz_B D ty (va_A (wF ty ad q) sz)) (va_A (wF ty ad q) sz)) 0 0 (va_A (wF ty ad q) sz) := by
  refine Met.ofW (cc := cX4_read) (maxL := 6) (ret := (some .int)) (by decide) rfl ?_
  intro p e s m args below meth c s₁ B hml hv
  obtain ⟨rfl, hsz, hP, hK, hD0, hN, hE⟩ := hv
  have hx := B.exec
  have hb := B.bytes
  have hr := B.returns
  have hts := atoms_spec (ws := wsX4_read) B.pre
  have hown : s.vm.findClass RX4 = some m.cls := findClass_of_methodNamed B.named
  have hlocks := B.notSynchronized
  subst hsz
  have hD := hD0.self (sz := s.heap.size)
  generalize hAe : va_A (wF ty ad q) s.heap.size = A at hD hE ⊢
  have hA : ∀ q : Nat, s.heap.size ≤ q → A q := fun q h => by rw [← hAe]; exact Or.inr h
  clear hAe
  have hS : va_S A s.heap s.heap [] := va_S.rf
  have hl := lv_entry ([.ref (ad 24), .ref (ad 46), .int p2, .int p3, .ref (ad 25)]) (n := 6) (Nat.le_of_ble_eq_true rfl)
  rw [lg_entry_eq]
  generalize (lg_sl ([.ref (ad 24), .ref (ad 46), .int p2, .int p3, .ref (ad 25)]) ++ List.replicate (6 - (lg_sl ([.ref (ad 24), .ref (ad 46), .int p2, .int p3, .ref (ad 25)])).length) Slot.unset).toArray = ls at hl ⊢
  have hl : lv_has ls 6 [(0, .ref (ad 24)), (1, .ref (ad 46)), (2, .int p2), (3, .int p3), (4, .ref (ad 25))] := hl
  have C : dc_C p s m _ meth c cX4_read (some .int) 6 RX4 wsX4_read D ty eo A := ⟨hx, hb, hr, hts, hown, hlocks, hml, hK, hN, hE, hA⟩
  unfold zX4_read_s24_s46_s25 at h
  refine lv_aload_n hx hb dX4_read_0 rfl (lv_at hl 0 rfl) ?_
  refine lv_aload_n hx hb dX4_read_1 rfl (lv_at hl 1 rfl) ?_
  refine va_put (D := D) (ci := 4) (v := .ref (ad 46)) (ty := .array .int) (C := RX4) (T := TX4) (N := 11) hx hb hts u9_wsX4_read_X4 tyX4 tyX4_ok nmX4 hown hK hP hD hS 24 rfl rfl 0 (by decide) (hts (.fieldLink RX4 9 "TurnedFloors$Reader" "bytes" "[I") f9_wsX4_read_561) (fun _ h9 => h9) rfl (by decide +kernel) rfl rfl (Nat.le_of_ble_eq_true rfl) dX4_read_2 (fun H locs hp hd hs => ?_)
  obtain ⟨q1, eq1, h⟩ := dL_some h
  refine kz_re (w2 := wF ty ad q1) hp hd hs (by rw [← eq1]; exact wF_f24_0 ty ad q 1) ?_
  clear hp hd hs hP hD hS
  intro hP hD hS
  refine lv_aload_n hx hb dX4_read_5 rfl (lv_at hl 0 rfl) ?_
  refine lv_iload_n hx hb dX4_read_6 rfl (lv_at hl 2 rfl) ?_
  refine lv_aload_n hx hb dX4_read_7 rfl (lv_at hl 1 rfl) ?_
  refine va_alen (v := 400) hx hb hK hP 46 0 rfl rfl rfl dX4_read_8 ?_
  refine va_mmin hx hb (hml.trans hl.1.symm) hown (hts (.methodLink RX4 48 Lib.Math.min.name) f9_wsX4_read_562) (hts (.static Lib.Math.min.name) f9_wsX4_read_563) (hts (.initialized "java/lang/Math") f9_wsX4_read_564) (hts (.code Lib.Math.min.name Lib.Math.min.code 2 (some .int)) f9_wsX4_read_565) (Nat.le_of_ble_eq_true rfl) (Nat.le_of_ble_eq_true rfl) (Nat.le_of_ble_eq_true rfl) (Nat.le_of_ble_eq_true rfl) dX4_read_9 ?_
  refine kz_topi (mnI p2 400) rfl ?_
  refine va_put (D := D) (ci := 4) (v := .int (mnI p2 400)) (ty := .int) (C := RX4) (T := TX4) (N := 11) hx hb hts u9_wsX4_read_X4 tyX4 tyX4_ok nmX4 hown hK hP hD hS 24 rfl rfl 1 (by decide) (hts (.fieldLink RX4 15 "TurnedFloors$Reader" "length" "I") f9_wsX4_read_566) (fun _ h9 => h9) rfl (by decide +kernel) rfl rfl (Nat.le_of_ble_eq_true rfl) dX4_read_12 (fun H locs hp hd hs => ?_)
  obtain ⟨q2, eq2, h⟩ := dL_some h
  refine kz_re (w2 := wF ty ad q2) hp hd hs (by rw [← eq2]; exact wF_f24_1 ty ad q1 (mnI p2 400)) ?_
  clear hp hd hs hP hD hS
  intro hP hD hS
  refine lv_aload_n hx hb dX4_read_15 rfl (lv_at hl 0 rfl) ?_
  refine lv_iload_n hx hb dX4_read_16 rfl (lv_at hl 3 rfl) ?_
  obtain ⟨g3, h⟩ := dG_some h
  refine va_put (D := D) (ci := 4) (v := .int p3) (ty := .boolean) (C := RX4) (T := TX4) (N := 11) hx hb hts u9_wsX4_read_X4 tyX4 tyX4_ok nmX4 hown hK hP hD hS 24 rfl rfl 2 (by decide) (hts (.fieldLink RX4 19 "TurnedFloors$Reader" "ofOrders" "Z") f9_wsX4_read_567) (fun _ h9 => h9) rfl (by decide +kernel) (dbl_nar g3) (dbl_fit g3) (Nat.le_of_ble_eq_true rfl) dX4_read_17 (fun H locs hp hd hs => ?_)
  obtain ⟨q4, eq4, h⟩ := dL_some h
  refine kz_re (w2 := wF ty ad q4) hp hd hs (by rw [← eq4]; exact wF_f24_2 ty ad q2 p3) ?_
  clear hp hd hs hP hD hS
  intro hP hD hS
  refine lv_aload_n hx hb dX4_read_20 rfl (lv_at hl 0 rfl) ?_
  refine lv_aload hx hb dX4_read_21 (lv_at hl 4 rfl) ?_
  refine va_put (D := D) (ci := 4) (v := .ref (ad 25)) (ty := .object "TurnedFloors$Text") (C := RX4) (T := TX4) (N := 11) hx hb hts u9_wsX4_read_X4 tyX4 tyX4_ok nmX4 hown hK hP hD hS 24 rfl rfl 3 (by decide) (hts (.fieldLink RX4 23 "TurnedFloors$Reader" "text" "LTurnedFloors$Text;") f9_wsX4_read_568) (fun _ h9 => h9) rfl (by decide +kernel) rfl rfl (Nat.le_of_ble_eq_true rfl) dX4_read_23 (fun H locs hp hd hs => ?_)
  obtain ⟨q5, eq5, h⟩ := dL_some h
  refine kz_re (w2 := wF ty ad q5) hp hd hs (by rw [← eq5]; exact wF_f24_3 ty ad q4 1) ?_
  clear hp hd hs hP hD hS
  intro hP hD hS
  refine lv_aload_n hx hb dX4_read_26 rfl (lv_at hl 0 rfl) ?_
  refine va_get (D := D) (ci := 4) (v := dN (ad 25) (q5.1 24 3)) (C := RX4) (T := TX4) (N := 11) hx hb hts u9_wsX4_read_X4 hown hK hP 24 rfl rfl 3 (by decide) (hts (.fieldLink RX4 23 "TurnedFloors$Reader" "text" "LTurnedFloors$Text;") f9_wsX4_read_568) (fun _ h9 => h9) rfl dX4_read_27 ?_
  obtain ⟨g6, h⟩ := dG_some h
  refine kz_topv (if_neg (dnz_ne g6)) ?_
  obtain ⟨q9, h8, h⟩ := dV_some h
  refine dw_kv (va_runV (As := []) (rest := []) ⟨hx, hb, hml, hown, hts⟩ (qX7_clear_s25 l D ty eo _ ad q5  q9 h8) (cwV 0 hts gX4_read_X7_clear rfl rfl rfl (by decide +kernel) ⟨Nat.le_of_ble_eq_true rfl, Nat.le_of_ble_eq_true rfl⟩) (dw_preV (ci := 7) (q0 := 25) hK hN hE hP hD hS hA rfl rfl) rfl rfl hl.1 rfl (lv_room (Nat.le_of_ble_eq_true rfl)) dX4_read_30 ⟨Nat.le_of_ble_eq_true rfl, Nat.le_of_ble_eq_true rfl⟩) hD hS hA (fun u9 H locs hw hp hd hs => ?_)
  clear hP hD hS
  obtain rfl := hw
  have hP := hp; have hD := hd; have hS := hs; clear hp hd hs
  refine lv_aload_n hx hb dX4_read_33 rfl (lv_at hl 0 rfl) ?_
  refine lv_iconst (v := 0) hx hb dX4_read_34 (by decide) ?_
  refine va_put (D := D) (ci := 4) (v := .int 0) (ty := .int) (C := RX4) (T := TX4) (N := 11) hx hb hts u9_wsX4_read_X4 tyX4 tyX4_ok nmX4 hown hK hP hD hS 24 rfl rfl 6 (by decide) (hts (.fieldLink RX4 33 "TurnedFloors$Reader" "stop" "I") f9_wsX4_read_569) (fun _ h9 => h9) rfl (by decide +kernel) rfl rfl (Nat.le_of_ble_eq_true rfl) dX4_read_35 (fun H locs hp hd hs => ?_)
  obtain ⟨q10, eq10, h⟩ := dL_some h
  refine kz_re (w2 := wF ty ad q10) hp hd hs (by rw [← eq10]; exact wF_f24_6 ty ad q9 0) ?_
  clear hp hd hs hP hD hS
  intro hP hD hS
  refine lv_aload_n hx hb dX4_read_38 rfl (lv_at hl 0 rfl) ?_
  refine lv_iconst (v := 0) hx hb dX4_read_39 (by decide) ?_
  refine va_put (D := D) (ci := 4) (v := .int 0) (ty := .int) (C := RX4) (T := TX4) (N := 11) hx hb hts u9_wsX4_read_X4 tyX4 tyX4_ok nmX4 hown hK hP hD hS 24 rfl rfl 8 (by decide) (hts (.fieldLink RX4 39 "TurnedFloors$Reader" "parts" "I") f9_wsX4_read_570) (fun _ h9 => h9) rfl (by decide +kernel) rfl rfl (Nat.le_of_ble_eq_true rfl) dX4_read_40 (fun H locs hp hd hs => ?_)
  obtain ⟨q11, eq11, h⟩ := dL_some h
  refine kz_re (w2 := wF ty ad q11) hp hd hs (by rw [← eq11]; exact wF_f24_8 ty ad q10 0) ?_
  clear hp hd hs hP hD hS
  intro hP hD hS
  refine lv_aload_n hx hb dX4_read_43 rfl (lv_at hl 0 rfl) ?_
  refine lv_iconst (v := 0) hx hb dX4_read_44 (by decide) ?_
  refine va_put (D := D) (ci := 4) (v := .int 0) (ty := .int) (C := RX4) (T := TX4) (N := 11) hx hb hts u9_wsX4_read_X4 tyX4 tyX4_ok nmX4 hown hK hP hD hS 24 rfl rfl 9 (by decide) (hts (.fieldLink RX4 42 "TurnedFloors$Reader" "open" "I") f9_wsX4_read_571) (fun _ h9 => h9) rfl (by decide +kernel) rfl rfl (Nat.le_of_ble_eq_true rfl) dX4_read_45 (fun H locs hp hd hs => ?_)
  obtain ⟨q12, eq12, h⟩ := dL_some h
  refine kz_re (w2 := wF ty ad q12) hp hd hs (by rw [← eq12]; exact wF_f24_9 ty ad q11 0) ?_
  clear hp hd hs hP hD hS
  intro hP hD hS
  refine lv_aload_n hx hb dX4_read_48 rfl (lv_at hl 0 rfl) ?_
  refine lv_iconst (v := (-1)) hx hb dX4_read_49 (by decide) ?_
  refine va_put (D := D) (ci := 4) (v := .int (-1)) (ty := .int) (C := RX4) (T := TX4) (N := 11) hx hb hts u9_wsX4_read_X4 tyX4 tyX4_ok nmX4 hown hK hP hD hS 24 rfl rfl 10 (by decide) (hts (.fieldLink RX4 45 "TurnedFloors$Reader" "faultAt" "I") f9_wsX4_read_559) (fun _ h9 => h9) rfl (by decide +kernel) rfl rfl (Nat.le_of_ble_eq_true rfl) dX4_read_50 (fun H locs hp hd hs => ?_)
  obtain ⟨q13, eq13, h⟩ := dL_some h
  refine kz_re (w2 := wF ty ad q13) hp hd hs (by rw [← eq13]; exact wF_f24_10 ty ad q12 (-1)) ?_
  clear hp hd hs hP hD hS
  intro hP hD hS
  refine lv_aload_n hx hb dX4_read_53 rfl (lv_at hl 0 rfl) ?_
  obtain ⟨q16, h15, h⟩ := dV_some h
  refine dw_kv (va_runV (As := []) (rest := []) ⟨hx, hb, hml, hown, hts⟩ (qX4_step_s24 l D ty eo _ ad q13  q16 h15) (cwV 0 hts gX4_read_X4_step rfl rfl rfl (by decide +kernel) ⟨Nat.le_of_ble_eq_true rfl, Nat.le_of_ble_eq_true rfl⟩) (dw_preV (ci := 4) (q0 := 24) hK hN hE hP hD hS hA rfl rfl) rfl rfl hl.1 rfl (lv_room (Nat.le_of_ble_eq_true rfl)) dX4_read_54 ⟨Nat.le_of_ble_eq_true rfl, Nat.le_of_ble_eq_true rfl⟩) hD hS hA (fun u9 H locs hw hp hd hs => ?_)
  clear hP hD hS
  obtain rfl := hw
  have hP := hp; have hD := hd; have hS := hs; clear hp hd hs
  refine lv_iconst (v := 0) hx hb dX4_read_57 (by decide) ?_
  refine lv_istore (lv' := [(5, .int 0), (0, .ref (ad 24)), (1, .ref (ad 46)), (2, .int p2), (3, .int p3), (4, .ref (ad 25))]) hx hb dX4_read_58 hl (by decide) rfl (fun ls hl => ?_)
  exact WX4_read_s24_s46_s25_60 C  _ _ _ _ _ _ h hP hD hS (lv_sub hl [1, 0] rfl)
