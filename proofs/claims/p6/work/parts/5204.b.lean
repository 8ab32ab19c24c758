theorem u9_wsX7_clear_X7 : ∀ w ∈ u_ws RX7 TX7 8, w ∈ wsX7_clear := by
  first | exact fun w h => List.mem_cons_of_mem _ (List.mem_append_right _ h) | decide +kernel
theorem f9_wsX7_clear_459 : (Cond.fieldLink RX7 7 "TurnedFloors$Text" "clauses" "I") ∈ wsX7_clear := by decide +kernel
theorem f9_wsX7_clear_460 : (Cond.fieldLink RX7 13 "TurnedFloors$Text" "length" "I") ∈ wsX7_clear := by decide +kernel
theorem u9_wsX4_step_X4 : ∀ w ∈ u_ws RX4 TX4 11, w ∈ wsX4_step := by
  first | exact fun w h => List.mem_cons_of_mem _ (List.mem_append_right _ h) | decide +kernel
theorem f9_wsX4_step_462 : (Cond.fieldLink RX4 33 "TurnedFloors$Reader" "stop" "I") ∈ wsX4_step := by decide +kernel
theorem f9_wsX4_step_463 : (Cond.fieldLink RX4 27 "TurnedFloors$Reader" "token" "I") ∈ wsX4_step := by decide +kernel
theorem f9_wsX4_step_464 : (Cond.fieldLink RX4 36 "TurnedFloors$Reader" "number" "I") ∈ wsX4_step := by decide +kernel
theorem f9_wsX4_step_465 : (Cond.fieldLink RX4 9 "TurnedFloors$Reader" "bytes" "[I") ∈ wsX4_step := by decide +kernel
theorem f9_wsX4_step_466 : (Cond.methodLink RX4 48 Lib.Math.min.name) ∈ wsX4_step := by decide +kernel
theorem f9_wsX4_step_467 : (Cond.static Lib.Math.min.name) ∈ wsX4_step := by decide +kernel
theorem f9_wsX4_step_468 : (Cond.initialized "java/lang/Math") ∈ wsX4_step := by decide +kernel
theorem f9_wsX4_step_469 : (Cond.code Lib.Math.min.name Lib.Math.min.code 2 (some .int)) ∈ wsX4_step := by decide +kernel
theorem f9_wsX4_step_470 : (Cond.fieldLink RX4 30 "TurnedFloors$Reader" "start" "I") ∈ wsX4_step := by decide +kernel
theorem f9_wsX4_step_471 : (Cond.fieldLink RX4 15 "TurnedFloors$Reader" "length" "I") ∈ wsX4_step := by decide +kernel
theorem f9_wsX4_step_472 : (Cond.fieldLink RX4 45 "TurnedFloors$Reader" "faultAt" "I") ∈ wsX4_step := by decide +kernel
theorem u9_wsX4_isSame_X4 : ∀ w ∈ u_ws RX4 TX4 11, w ∈ wsX4_isSame := by
  first | exact fun w h => List.mem_cons_of_mem _ (List.mem_append_right _ h) | decide +kernel
theorem f9_wsX4_isSame_474 : (Cond.fieldLink RX4 9 "TurnedFloors$Reader" "bytes" "[I") ∈ wsX4_isSame := by decide +kernel
theorem f9_wsX4_isSame_475 : (Cond.fieldLink RX4 30 "TurnedFloors$Reader" "start" "I") ∈ wsX4_isSame := by decide +kernel
theorem f9_wsX4_isSame_476 : (Cond.fieldLink RX4 33 "TurnedFloors$Reader" "stop" "I") ∈ wsX4_isSame := by decide +kernel
theorem u9_wsX4_wordIn_X4 : ∀ w ∈ u_ws RX4 TX4 11, w ∈ wsX4_wordIn := by
  first | exact fun w h => List.mem_cons_of_mem _ (List.mem_append_right _ h) | decide +kernel
theorem f9_wsX4_wordIn_478 : (Cond.fieldLink RX4 27 "TurnedFloors$Reader" "token" "I") ∈ wsX4_wordIn := by decide +kernel
theorem u9_wsX7_beginClause_X7 : ∀ w ∈ u_ws RX7 TX7 8, w ∈ wsX7_beginClause := by
  first | exact fun w h => List.mem_cons_of_mem _ (List.mem_append_right _ h) | decide +kernel
theorem f9_wsX7_beginClause_480 : (Cond.fieldLink RX7 7 "TurnedFloors$Text" "clauses" "I") ∈ wsX7_beginClause := by decide +kernel
theorem f9_wsX7_beginClause_481 : (Cond.fieldLink RX7 16 "TurnedFloors$Text" "kind" "[I") ∈ wsX7_beginClause := by decide +kernel
theorem f9_wsX7_beginClause_482 : (Cond.fieldLink RX7 20 "TurnedFloors$Text" "times" "[I") ∈ wsX7_beginClause := by decide +kernel
theorem f9_wsX7_beginClause_483 : (Cond.fieldLink RX7 23 "TurnedFloors$Text" "sumFrom" "[I") ∈ wsX7_beginClause := by decide +kernel
theorem f9_wsX7_beginClause_484 : (Cond.fieldLink RX7 13 "TurnedFloors$Text" "length" "I") ∈ wsX7_beginClause := by decide +kernel
theorem f9_wsX7_beginClause_485 : (Cond.fieldLink RX7 26 "TurnedFloors$Text" "testFrom" "[I") ∈ wsX7_beginClause := by decide +kernel
theorem f9_wsX7_beginClause_486 : (Cond.fieldLink RX7 29 "TurnedFloors$Text" "testTo" "[I") ∈ wsX7_beginClause := by decide +kernel
theorem u9_wsX4_fail_X4 : ∀ w ∈ u_ws RX4 TX4 11, w ∈ wsX4_fail := by
  first | exact fun w h => List.mem_cons_of_mem _ (List.mem_append_right _ h) | decide +kernel
theorem f9_wsX4_fail_488 : (Cond.fieldLink RX4 45 "TurnedFloors$Reader" "faultAt" "I") ∈ wsX4_fail := by decide +kernel
theorem f9_wsX4_fail_489 : (Cond.fieldLink RX4 30 "TurnedFloors$Reader" "start" "I") ∈ wsX4_fail := by decide +kernel
set_option maxHeartbeats 4000000 in
set_option maxRecDepth 100000 in
theorem qX7_clear_s25 (l : Launch) (D : va_G) (ty : Nat → ClassId) (eo : Nat → Nat) (sz : Nat) (ad : Nat → Nat) (q : dK)  (o2 : dK) (h : zX7_clear_s25 q = some o2) : Met l yX7_clear wsX7_clear ({ frames := 0, cells := 0, slots := 0, locals := 0 } : Room) (va_Pc [.ref (ad 25)] (kz_pre D ty eo (wF ty ad q) sz)) (va_Qv (fun (u : va_W) => wF ty ad o2 = u) (kz_B D ty (va_A (wF ty ad q) sz)) (va_A (wF ty ad q) sz)) 0 0 (va_A (wF ty ad q) sz) := by
  refine Met.ofW (cc := cX7_clear) (maxL := 1) (ret := none) (by decide) rfl ?_
  intro p e s m args below meth c s₁ B hml hv
  obtain ⟨rfl, hsz, hP, hK, hD0, hN, hE⟩ := hv
  have hx := B.exec
  have hb := B.bytes
  have hr := B.returns
  have hts := atoms_spec (ws := wsX7_clear) B.pre
  have hown : s.vm.findClass RX7 = some m.cls := findClass_of_methodNamed B.named
  have hlocks := B.notSynchronized
  subst hsz
  have hD := hD0.self (sz := s.heap.size)
  generalize hAe : va_A (wF ty ad q) s.heap.size = A at hD hE ⊢
  have hA : ∀ q : Nat, s.heap.size ≤ q → A q := fun q h => by rw [← hAe]; exact Or.inr h
  clear hAe
  have hS : va_S A s.heap s.heap [] := va_S.rf
  have hl := lv_entry ([.ref (ad 25)]) (n := 1) (Nat.le_of_ble_eq_true rfl)
  rw [lg_entry_eq]
  generalize (lg_sl ([.ref (ad 25)]) ++ List.replicate (1 - (lg_sl ([.ref (ad 25)])).length) Slot.unset).toArray = ls at hl ⊢
  have hl : lv_has ls 1 [(0, .ref (ad 25))] := hl
  have C : dc_C p s m _ meth c cX7_clear none 1 RX7 wsX7_clear D ty eo A := ⟨hx, hb, hr, hts, hown, hlocks, hml, hK, hN, hE, hA⟩
  unfold zX7_clear_s25 at h
  refine lv_aload_n hx hb dX7_clear_0 rfl (lv_at hl 0 rfl) ?_
  refine lv_iconst (v := 0) hx hb dX7_clear_1 (by decide) ?_
  refine va_put (D := D) (ci := 7) (v := .int 0) (ty := .int) (C := RX7) (T := TX7) (N := 8) hx hb hts u9_wsX7_clear_X7 tyX7 tyX7_ok nmX7 hown hK hP hD hS 25 rfl rfl 6 (by decide) (hts (.fieldLink RX7 7 "TurnedFloors$Text" "clauses" "I") f9_wsX7_clear_459) (fun _ h9 => h9) rfl (by decide +kernel) rfl rfl (Nat.le_of_ble_eq_true rfl) dX7_clear_2 (fun H locs hp hd hs => ?_)
  obtain ⟨q1, eq1, h⟩ := dL_some h
  refine kz_re (w2 := wF ty ad q1) hp hd hs (by rw [← eq1]; exact wF_f25_6 ty ad q 0) ?_
  clear hp hd hs hP hD hS
  intro hP hD hS
  refine lv_aload_n hx hb dX7_clear_5 rfl (lv_at hl 0 rfl) ?_
  refine lv_iconst (v := 0) hx hb dX7_clear_6 (by decide) ?_
  refine va_put (D := D) (ci := 7) (v := .int 0) (ty := .int) (C := RX7) (T := TX7) (N := 8) hx hb hts u9_wsX7_clear_X7 tyX7 tyX7_ok nmX7 hown hK hP hD hS 25 rfl rfl 7 (by decide) (hts (.fieldLink RX7 13 "TurnedFloors$Text" "length" "I") f9_wsX7_clear_460) (fun _ h9 => h9) rfl (by decide +kernel) rfl rfl (Nat.le_of_ble_eq_true rfl) dX7_clear_7 (fun H locs hp hd hs => ?_)
  obtain ⟨q2, eq2, h⟩ := dL_some h
  refine kz_re (w2 := wF ty ad q2) hp hd hs (by rw [← eq2]; exact wF_f25_7 ty ad q1 0) ?_
  clear hp hd hs hP hD hS
  intro hP hD hS
  cases h
  exact kz_vret hx hb hr hlocks hP hK hD hS dX7_clear_10 rfl

set_option maxHeartbeats 4000000 in
set_option maxRecDepth 100000 in
theorem WX4_tokenOf_31 {p : Program} {l : Launch} {e : Env} {s : State} {m : MethodId} {args : Array Value} {below : List Frame} {meth : Method} {c : Code} {D : va_G} {ty : Nat → ClassId} {eo : Nat → Nat} {A : Nat → Prop} {o1 : Int32} (C : dc_C p s m args meth c cX4_tokenOf (some .int) 1 RX4 wsX4_tokenOf D ty eo A)   (y0 : Int32) (H : Heap) (locs : List Loc) (ls : Array Slot) (h : zX4_tokenOf_31  y0 = some o1) (hP : va_P D vwCl (([] : va_W)) H) (hD : va_D A (([] : va_W))) (hS : va_S A s.heap H locs) (hl : lv_has ls 1 []) : W p l e ({ frames := 0, cells := 0, slots := 0, locals := 0 } : Room) s m args below meth c H locs 0 0 (MQ below (va_Qi (fun (r : Int32) (u : va_W) => o1 = r ∧ ([] : va_W) = u) (kz_B D ty A) A) args s 0 0 A) (F0 m 31 ls [.int y0]) := by
  have C0 := C
  obtain ⟨hx, hb, hr, hts, hown, hlocks, hml, hK, hN, hE, hA⟩ := C
  unfold zX4_tokenOf_31 at h
  cases h
  exact kz_iret hx hb hr hlocks hP hK hD hS dX4_tokenOf_31 ⟨rfl, rfl⟩
set_option maxHeartbeats 4000000 in
set_option maxRecDepth 100000 in
theorem WX4_tokenOf_30 {p : Program} {l : Launch} {e : Env} {s : State} {m : MethodId} {args : Array Value} {below : List Frame} {meth : Method} {c : Code} {D : va_G} {ty : Nat → ClassId} {eo : Nat → Nat} {A : Nat → Prop} {o1 : Int32} (C : dc_C p s m args meth c cX4_tokenOf (some .int) 1 RX4 wsX4_tokenOf D ty eo A)    (H : Heap) (locs : List Loc) (ls : Array Slot) (h : zX4_tokenOf_30   = some o1) (hP : va_P D vwCl (([] : va_W)) H) (hD : va_D A (([] : va_W))) (hS : va_S A s.heap H locs) (hl : lv_has ls 1 []) : W p l e ({ frames := 0, cells := 0, slots := 0, locals := 0 } : Room) s m args below meth c H locs 0 0 (MQ below (va_Qi (fun (r : Int32) (u : va_W) => o1 = r ∧ ([] : va_W) = u) (kz_B D ty A) A) args s 0 0 A) (F0 m 30 ls []) := by
  have C0 := C
  obtain ⟨hx, hb, hr, hts, hown, hlocks, hml, hK, hN, hE, hA⟩ := C
  unfold zX4_tokenOf_30 at h
  refine lv_iconst (v := 3) hx hb dX4_tokenOf_30 (by decide) ?_
  exact WX4_tokenOf_31 C0  _ _ _ _ h hP hD hS (lv_sub hl [] rfl)
set_option maxHeartbeats 4000000 in
set_option maxRecDepth 100000 in
theorem WX4_tokenOf_14 {p : Program} {l : Launch} {e : Env} {s : State} {m : MethodId} {args : Array Value} {below : List Frame} {meth : Method} {c : Code} {D : va_G} {ty : Nat → ClassId} {eo : Nat → Nat} {A : Nat → Prop} {o1 : Int32} (C : dc_C p s m args meth c cX4_tokenOf (some .int) 1 RX4 wsX4_tokenOf D ty eo A)   (x0 : Int32) (H : Heap) (locs : List Loc) (ls : Array Slot) (h : zX4_tokenOf_14  x0 = some o1) (hP : va_P D vwCl (([] : va_W)) H) (hD : va_D A (([] : va_W))) (hS : va_S A s.heap H locs) (hl : lv_has ls 1 [(0, .int x0)]) : W p l e ({ frames := 0, cells := 0, slots := 0, locals := 0 } : Room) s m args below meth c H locs 0 0 (MQ below (va_Qi (fun (r : Int32) (u : va_W) => o1 = r ∧ ([] : va_W) = u) (kz_B D ty A) A) args s 0 0 A) (F0 m 14 ls []) := by
  have C0 := C
  obtain ⟨hx, hb, hr, hts, hown, hlocks, hml, hK, hN, hE, hA⟩ := C
  unfold zX4_tokenOf_14 at h
  refine lv_iload_n hx hb dX4_tokenOf_14 rfl (lv_at hl 0 rfl) ?_
  refine lv_bipush (v := 48) hx hb dX4_tokenOf_15 (by decide) ?_
  refine lv_icmp_lt (tgt := 30) hx hb dX4_tokenOf_17 (by decide) (fun c9 => ?_) (fun c9 => ?_)
  · rw [if_pos c9] at h
    exact WX4_tokenOf_30 C0  _ _ _ h hP hD hS (lv_sub hl [] rfl)
  · rw [if_neg c9] at h
    refine lv_iload_n hx hb dX4_tokenOf_20 rfl (lv_at hl 0 rfl) ?_
    refine lv_bipush (v := 57) hx hb dX4_tokenOf_21 (by decide) ?_
    refine lv_icmp_gt (tgt := 30) hx hb dX4_tokenOf_23 (by decide) (fun c9 => ?_) (fun c9 => ?_)
    · rw [if_pos c9] at h
      exact WX4_tokenOf_30 C0  _ _ _ h hP hD hS (lv_sub hl [] rfl)
    · rw [if_neg c9] at h
      refine lv_iconst (v := 2) hx hb dX4_tokenOf_26 (by decide) ?_
      refine lv_goto (tgt := 31) hx hb dX4_tokenOf_27 (by decide) ?_
      exact WX4_tokenOf_31 C0  _ _ _ _ h hP hD hS (lv_sub hl [] rfl)
set_option maxHeartbeats 4000000 in
set_option maxRecDepth 100000 in
theorem qX4_tokenOf (l : Launch) (D : va_G) (ty : Nat → ClassId) (eo : Nat → Nat) (sz : Nat) (p1 : Int32) (o1 : Int32) (h : zX4_tokenOf p1 = some o1) : Met l yX4_tokenOf wsX4_tokenOf ({ frames := 0, cells := 0, slots := 0, locals := 0 } : Room) (va_Pc [.int p1] (kz_pre D ty eo (([] : va_W)) sz)) (va_Qi (fun (r : Int32) (u : va_W) => o1 = r ∧ ([] : va_W) = u) (kz_B D ty (va_A (([] : va_W)) sz)) (va_A (([] : va_W)) sz)) 0 0 (va_A (([] : va_W)) sz) := by
  refine Met.ofW (cc := cX4_tokenOf) (maxL := 1) (ret := (some .int)) (by decide) rfl ?_
  intro p e s m args below meth c s₁ B hml hv
  obtain ⟨rfl, hsz, hP, hK, hD0, hN, hE⟩ := hv
  have hx := B.exec
  have hb := B.bytes
  have hr := B.returns
  have hts := atoms_spec (ws := wsX4_tokenOf) B.pre
  have hown : s.vm.findClass RX4 = some m.cls := findClass_of_methodNamed B.named
  have hlocks := B.notSynchronized
  subst hsz
  have hD := hD0.self (sz := s.heap.size)
  generalize hAe : va_A (([] : va_W)) s.heap.size = A at hD hE ⊢
  have hA : ∀ q : Nat, s.heap.size ≤ q → A q := fun q h => by rw [← hAe]; exact Or.inr h
  clear hAe
  have hS : va_S A s.heap s.heap [] := va_S.rf
  have hl := lv_entry ([.int p1]) (n := 1) (Nat.le_of_ble_eq_true rfl)
  rw [lg_entry_eq]
  generalize (lg_sl ([.int p1]) ++ List.replicate (1 - (lg_sl ([.int p1])).length) Slot.unset).toArray = ls at hl ⊢
  have hl : lv_has ls 1 [(0, .int p1)] := hl
  have C : dc_C p s m _ meth c cX4_tokenOf (some .int) 1 RX4 wsX4_tokenOf D ty eo A := ⟨hx, hb, hr, hts, hown, hlocks, hml, hK, hN, hE, hA⟩
  unfold zX4_tokenOf at h
  refine lv_iload_n hx hb dX4_tokenOf_0 rfl (lv_at hl 0 rfl) ?_
  refine lv_bipush (v := 97) hx hb dX4_tokenOf_1 (by decide) ?_
  refine lv_icmp_lt (tgt := 14) hx hb dX4_tokenOf_3 (by decide) (fun c9 => ?_) (fun c9 => ?_)
  · rw [if_pos c9] at h
    exact WX4_tokenOf_14 C  _ _ _ _ h hP hD hS (lv_sub hl [0] rfl)
  · rw [if_neg c9] at h
    refine lv_iload_n hx hb dX4_tokenOf_6 rfl (lv_at hl 0 rfl) ?_
    refine lv_bipush (v := 122) hx hb dX4_tokenOf_7 (by decide) ?_
    refine lv_icmp_gt (tgt := 14) hx hb dX4_tokenOf_9 (by decide) (fun c9 => ?_) (fun c9 => ?_)
    · rw [if_pos c9] at h
      exact WX4_tokenOf_14 C  _ _ _ _ h hP hD hS (lv_sub hl [0] rfl)
    · rw [if_neg c9] at h
      refine lv_iconst (v := 1) hx hb dX4_tokenOf_12 (by decide) ?_
      cases h
      exact kz_iret hx hb hr hlocks hP hK hD hS dX4_tokenOf_13 ⟨rfl, rfl⟩

set_option maxHeartbeats 4000000 in
set_option maxRecDepth 100000 in
theorem WX4_step_s24_216 {p : Program} {l : Launch} {e : Env} {s : State} {m : MethodId} {args : Array Value} {below : List Frame} {meth : Method} {c : Code} {D : va_G} {ty : Nat → ClassId} {eo : Nat → Nat} {A : Nat → Prop} {ad : Nat → Nat} {o2 : dK} (C : dc_C p s m args meth c cX4_step none 2 RX4 wsX4_step D ty eo A)   (q : dK)  (H : Heap) (locs : List Loc) (ls : Array Slot) (h : zX4_step_s24_216  q = some o2) (hP : va_P D vwCl (wF ty ad q) H) (hD : va_D A (wF ty ad q)) (hS : va_S A s.heap H locs) (hl : lv_has ls 2 []) : W p l e ({ frames := 1, cells := 0, slots := 0, locals := 21 } : Room) s m args below meth c H locs 0 0 (MQ below (va_Qv (fun (u : va_W) => wF ty ad o2 = u) (kz_B D ty A) A) args s 0 0 A) (F0 m 216 ls []) := by
  have C0 := C
  obtain ⟨hx, hb, hr, hts, hown, hlocks, hml, hK, hN, hE, hA⟩ := C
  unfold zX4_step_s24_216 at h
  cases h
  exact kz_vret hx hb hr hlocks hP hK hD hS dX4_step_216 rfl
set_option maxHeartbeats 4000000 in
set_option maxRecDepth 100000 in
theorem WX4_step_s24_167b {p : Program} {l : Launch} {e : Env} {s : State} {m : MethodId} {args : Array Value} {below : List Frame} {meth : Method} {c : Code} {D : va_G} {ty : Nat → ClassId} {eo : Nat → Nat} {A : Nat → Prop} {ad : Nat → Nat} {o2 : dK} (C : dc_C p s m args meth c cX4_step none 2 RX4 wsX4_step D ty eo A) {k167 : dK → Int32 → Option (dK)} (hk167 : ∀ (q : dK) (x1 : Int32) (H : Heap) (locs : List Loc) (ls : Array Slot), k167 q x1 = some o2 → va_P D vwCl (wF ty ad q) H → va_D A (wF ty ad q) → va_S A s.heap H locs → lv_has ls 2 [(0, .ref (ad 24)), (1, .int x1)] → W p l e ({ frames := 1, cells := 0, slots := 0, locals := 21 } : Room) s m args below meth c H locs 0 0 (MQ below (va_Qv (fun (u : va_W) => wF ty ad o2 = u) (kz_B D ty A) A) args s 0 0 A) (F0 m 167 ls [])) (q : dK) (x1 : Int32) (H : Heap) (locs : List Loc) (ls : Array Slot) (h : zX4_step_s24_167b k167 q x1 = some o2) (hP : va_P D vwCl (wF ty ad q) H) (hD : va_D A (wF ty ad q)) (hS : va_S A s.heap H locs) (hl : lv_has ls 2 [(0, .ref (ad 24)), (1, .int x1)]) : W p l e ({ frames := 1, cells := 0, slots := 0, locals := 21 } : Room) s m args below meth c H locs 0 0 (MQ below (va_Qv (fun (u : va_W) => wF ty ad o2 = u) (kz_B D ty A) A) args s 0 0 A) (F0 m 167 ls []) := by
  have C0 := C
  obtain ⟨hx, hb, hr, hts, hown, hlocks, hml, hK, hN, hE, hA⟩ := C
  unfold zX4_step_s24_167b at h
  refine lv_iload_n hx hb dX4_step_167 rfl (lv_at hl 1 rfl) ?_
  refine lv_aload_n hx hb dX4_step_168 rfl (lv_at hl 0 rfl) ?_
  refine va_get (D := D) (ci := 4) (v := .int (q.1 24 6)) (C := RX4) (T := TX4) (N := 11) hx hb hts u9_wsX4_step_X4 hown hK hP 24 rfl rfl 6 (by decide) (hts (.fieldLink RX4 33 "TurnedFloors$Reader" "stop" "I") f9_wsX4_step_462) (fun _ h9 => h9) rfl dX4_step_169 ?_
  refine lv_icmp_ge (tgt := 216) hx hb dX4_step_172 (by decide) (fun c9 => ?_) (fun c9 => ?_)
  · rw [if_pos c9] at h
    exact WX4_step_s24_216 C0  _ _ _ _ h hP hD hS (lv_sub hl [] rfl)
  · rw [if_neg c9] at h
    refine lv_aload_n hx hb dX4_step_175 rfl (lv_at hl 0 rfl) ?_
    refine va_get (D := D) (ci := 4) (v := .int (q.1 24 4)) (C := RX4) (T := TX4) (N := 11) hx hb hts u9_wsX4_step_X4 hown hK hP 24 rfl rfl 4 (by decide) (hts (.fieldLink RX4 27 "TurnedFloors$Reader" "token" "I") f9_wsX4_step_463) (fun _ h9 => h9) rfl dX4_step_176 ?_
    refine lv_iconst (v := 2) hx hb dX4_step_179 (by decide) ?_
    refine lv_icmp_ne (tgt := 216) hx hb dX4_step_180 (by decide) (fun c9 => ?_) (fun c9 => ?_)
    · rw [if_neg c9] at h
      exact WX4_step_s24_216 C0  _ _ _ _ h hP hD hS (lv_sub hl [] rfl)
    · rw [if_pos c9] at h
      refine lv_aload_n hx hb dX4_step_183 rfl (lv_at hl 0 rfl) ?_
      refine lv_sipush (v := 1001) hx hb dX4_step_184 (by decide) ?_
      refine lv_aload_n hx hb dX4_step_187 rfl (lv_at hl 0 rfl) ?_
      refine va_get (D := D) (ci := 4) (v := .int (q.1 24 7)) (C := RX4) (T := TX4) (N := 11) hx hb hts u9_wsX4_step_X4 hown hK hP 24 rfl rfl 7 (by decide) (hts (.fieldLink RX4 36 "TurnedFloors$Reader" "number" "I") f9_wsX4_step_464) (fun _ h9 => h9) rfl dX4_step_188 ?_
      refine lv_bipush (v := 10) hx hb dX4_step_191 (by decide) ?_
      refine lv_imul hx hb dX4_step_193 ?_
      refine lv_aload_n hx hb dX4_step_194 rfl (lv_at hl 0 rfl) ?_
      refine va_get (D := D) (ci := 4) (v := dN (ad 46) (q.1 24 0)) (C := RX4) (T := TX4) (N := 11) hx hb hts u9_wsX4_step_X4 hown hK hP 24 rfl rfl 0 (by decide) (hts (.fieldLink RX4 9 "TurnedFloors$Reader" "bytes" "[I") f9_wsX4_step_465) (fun _ h9 => h9) rfl dX4_step_195 ?_
      obtain ⟨g1, h⟩ := dG_some h
      refine kz_topv (if_neg (dnz_ne g1)) ?_
      refine lv_iload_n hx hb dX4_step_198 rfl (lv_at hl 1 rfl) ?_
      obtain ⟨g2, h⟩ := dG_some h
      refine va_iald hx hb hK hP 46 0 rfl rfl (dg_in g2) dX4_step_199 ?_
      obtain ⟨v3, ev3, h⟩ := dL_some h
      refine kz_topi v3 ev3 ?_
      refine lv_iadd hx hb dX4_step_200 ?_
      refine lv_bipush (v := 48) hx hb dX4_step_201 (by decide) ?_
      refine lv_isub hx hb dX4_step_203 ?_
      refine va_mmin hx hb (hml.trans hl.1.symm) hown (hts (.methodLink RX4 48 Lib.Math.min.name) f9_wsX4_step_466) (hts (.static Lib.Math.min.name) f9_wsX4_step_467) (hts (.initialized "java/lang/Math") f9_wsX4_step_468) (hts (.code Lib.Math.min.name Lib.Math.min.code 2 (some .int)) f9_wsX4_step_469) (Nat.le_of_ble_eq_true rfl) (Nat.le_of_ble_eq_true rfl) (Nat.le_of_ble_eq_true rfl) (Nat.le_of_ble_eq_true rfl) dX4_step_204 ?_
      refine kz_topi (mnI 1001 ((((q.1 24 7) * 10 : Int32) + v3) - 48 : Int32)) rfl ?_
      refine va_put (D := D) (ci := 4) (v := .int (mnI 1001 ((((q.1 24 7) * 10 : Int32) + v3) - 48 : Int32))) (ty := .int) (C := RX4) (T := TX4) (N := 11) hx hb hts u9_wsX4_step_X4 tyX4 tyX4_ok nmX4 hown hK hP hD hS 24 rfl rfl 7 (by decide) (hts (.fieldLink RX4 36 "TurnedFloors$Reader" "number" "I") f9_wsX4_step_464) (fun _ h9 => h9) rfl (by decide +kernel) rfl rfl (Nat.le_of_ble_eq_true rfl) dX4_step_207 (fun H locs hp hd hs => ?_)
      obtain ⟨q4, eq4, h⟩ := dL_some h
      refine kz_re (w2 := wF ty ad q4) hp hd hs (by rw [← eq4]; exact wF_f24_7 ty ad q (mnI 1001 ((((q.1 24 7) * 10 : Int32) + v3) - 48 : Int32))) ?_
      clear hp hd hs hP hD hS
      intro hP hD hS
      refine lv_iinc (v := x1 + 1) (lv' := [(1, .int (x1 + 1)), (0, .ref (ad 24))]) hx hb dX4_step_210 hl (k := 1) rfl rfl (by decide) rfl (fun ls hl => ?_)
      refine lv_goto (tgt := 167) hx hb dX4_step_213 (by decide) ?_
      exact hk167 _ _ _ _ _ h hP hD hS (lv_sub hl [1, 0] rfl)
set_option maxHeartbeats 4000000 in
set_option maxRecDepth 100000 in
theorem WX4_step_s24_167 {p : Program} {l : Launch} {e : Env} {s : State} {m : MethodId} {args : Array Value} {below : List Frame} {meth : Method} {c : Code} {D : va_G} {ty : Nat → ClassId} {eo : Nat → Nat} {A : Nat → Prop} {ad : Nat → Nat} {o2 : dK} (C : dc_C p s m args meth c cX4_step none 2 RX4 wsX4_step D ty eo A)   (n : Nat) (q : dK) (x1 : Int32) (H : Heap) (locs : List Loc) (ls : Array Slot) (h : zX4_step_s24_167  n q x1 = some o2) (hP : va_P D vwCl (wF ty ad q) H) (hD : va_D A (wF ty ad q)) (hS : va_S A s.heap H locs) (hl : lv_has ls 2 [(0, .ref (ad 24)), (1, .int x1)]) : W p l e ({ frames := 1, cells := 0, slots := 0, locals := 21 } : Room) s m args below meth c H locs 0 0 (MQ below (va_Qv (fun (u : va_W) => wF ty ad o2 = u) (kz_B D ty A) A) args s 0 0 A) (F0 m 167 ls []) := by
  exact dFix_W (F := fun k (a : dK × Int32) => zX4_step_s24_167b  (fun q x1 => k (q, x1)) a.1 a.2) (o := o2) (P := fun (a : dK × Int32) H locs ls => va_P D vwCl (wF ty ad a.1) H ∧ va_D A (wF ty ad a.1) ∧ va_S A s.heap H locs ∧ lv_has ls 2 [(0, .ref (ad 24)), (1, .int a.2)]) (G := fun H locs ls => W p l e ({ frames := 1, cells := 0, slots := 0, locals := 21 } : Room) s m args below meth c H locs 0 0 (MQ below (va_Qv (fun (u : va_W) => wF ty ad o2 = u) (kz_B D ty A) A) args s 0 0 A) (F0 m 167 ls []))
    (fun k hk a H locs ls h hp => WX4_step_s24_167b C  (fun q x1 H locs ls h h1 h2 h3 h4 => hk (q, x1) H locs ls h ⟨h1, h2, h3, h4⟩) a.1 a.2 H locs ls h hp.1 hp.2.1 hp.2.2.1 hp.2.2.2) n (q, x1) H locs ls h ⟨hP, hD, hS, hl⟩
set_option maxHeartbeats 4000000 in
set_option maxRecDepth 100000 in
theorem WX4_step_s24_162 {p : Program} {l : Launch} {e : Env} {s : State} {m : MethodId} {args : Array Value} {below : List Frame} {meth : Method} {c : Code} {D : va_G} {ty : Nat → ClassId} {eo : Nat → Nat} {A : Nat → Prop} {ad : Nat → Nat} {o2 : dK} (C : dc_C p s m args meth c cX4_step none 2 RX4 wsX4_step D ty eo A)   (q : dK)  (H : Heap) (locs : List Loc) (ls : Array Slot) (h : zX4_step_s24_162  q = some o2) (hP : va_P D vwCl (wF ty ad q) H) (hD : va_D A (wF ty ad q)) (hS : va_S A s.heap H locs) (hl : lv_has ls 2 [(0, .ref (ad 24))]) : W p l e ({ frames := 1, cells := 0, slots := 0, locals := 21 } : Room) s m args below meth c H locs 0 0 (MQ below (va_Qv (fun (u : va_W) => wF ty ad o2 = u) (kz_B D ty A) A) args s 0 0 A) (F0 m 162 ls []) := by
  have C0 := C
  obtain ⟨hx, hb, hr, hts, hown, hlocks, hml, hK, hN, hE, hA⟩ := C
  unfold zX4_step_s24_162 at h
  refine lv_aload_n hx hb dX4_step_162 rfl (lv_at hl 0 rfl) ?_
  refine va_get (D := D) (ci := 4) (v := .int (q.1 24 5)) (C := RX4) (T := TX4) (N := 11) hx hb hts u9_wsX4_step_X4 hown hK hP 24 rfl rfl 5 (by decide) (hts (.fieldLink RX4 30 "TurnedFloors$Reader" "start" "I") f9_wsX4_step_470) (fun _ h9 => h9) rfl dX4_step_163 ?_
  refine lv_istore_n (lv' := [(1, .int (q.1 24 5)), (0, .ref (ad 24))]) hx hb dX4_step_166 rfl hl (by decide) rfl (fun ls hl => ?_)
  exact WX4_step_s24_167 C0  _ _ _ _ _ _ h hP hD hS (lv_sub hl [1, 0] rfl)
set_option maxHeartbeats 4000000 in
set_option maxRecDepth 100000 in
theorem WX4_step_s24_111b {p : Program} {l : Launch} {e : Env} {s : State} {m : MethodId} {args : Array Value} {below : List Frame} {meth : Method} {c : Code} {D : va_G} {ty : Nat → ClassId} {eo : Nat → Nat} {A : Nat → Prop} {ad : Nat → Nat} {o2 : dK} (C : dc_C p s m args meth c cX4_step none 2 RX4 wsX4_step D ty eo A) {k111 : dK → Option (dK)} (hk111 : ∀ (q : dK)  (H : Heap) (locs : List Loc) (ls : Array Slot), k111 q = some o2 → va_P D vwCl (wF ty ad q) H → va_D A (wF ty ad q) → va_S A s.heap H locs → lv_has ls 2 [(0, .ref (ad 24))] → W p l e ({ frames := 1, cells := 0, slots := 0, locals := 21 } : Room) s m args below meth c H locs 0 0 (MQ below (va_Qv (fun (u : va_W) => wF ty ad o2 = u) (kz_B D ty A) A) args s 0 0 A) (F0 m 111 ls [])) (q : dK)  (H : Heap) (locs : List Loc) (ls : Array Slot) (h : zX4_step_s24_111b k111 q = some o2) (hP : va_P D vwCl (wF ty ad q) H) (hD : va_D A (wF ty ad q)) (hS : va_S A s.heap H locs) (hl : lv_has ls 2 [(0, .ref (ad 24))]) : W p l e ({ frames := 1, cells := 0, slots := 0, locals := 21 } : Room) s m args below meth c H locs 0 0 (MQ below (va_Qv (fun (u : va_W) => wF ty ad o2 = u) (kz_B D ty A) A) args s 0 0 A) (F0 m 111 ls []) := by
  have C0 := C
  obtain ⟨hx, hb, hr, hts, hown, hlocks, hml, hK, hN, hE, hA⟩ := C
  unfold zX4_step_s24_111b at h
  refine lv_aload_n hx hb dX4_step_111 rfl (lv_at hl 0 rfl) ?_
  refine va_get (D := D) (ci := 4) (v := .int (q.1 24 6)) (C := RX4) (T := TX4) (N := 11) hx hb hts u9_wsX4_step_X4 hown hK hP 24 rfl rfl 6 (by decide) (hts (.fieldLink RX4 33 "TurnedFloors$Reader" "stop" "I") f9_wsX4_step_462) (fun _ h9 => h9) rfl dX4_step_112 ?_
  refine lv_aload_n hx hb dX4_step_115 rfl (lv_at hl 0 rfl) ?_
  refine va_get (D := D) (ci := 4) (v := .int (q.1 24 1)) (C := RX4) (T := TX4) (N := 11) hx hb hts u9_wsX4_step_X4 hown hK hP 24 rfl rfl 1 (by decide) (hts (.fieldLink RX4 15 "TurnedFloors$Reader" "length" "I") f9_wsX4_step_471) (fun _ h9 => h9) rfl dX4_step_116 ?_
  refine lv_icmp_ge (tgt := 162) hx hb dX4_step_119 (by decide) (fun c9 => ?_) (fun c9 => ?_)
  · rw [if_pos c9] at h
    exact WX4_step_s24_162 C0  _ _ _ _ h hP hD hS (lv_sub hl [0] rfl)
  · rw [if_neg c9] at h
    refine lv_aload_n hx hb dX4_step_122 rfl (lv_at hl 0 rfl) ?_
    refine va_get (D := D) (ci := 4) (v := .int (q.1 24 4)) (C := RX4) (T := TX4) (N := 11) hx hb hts u9_wsX4_step_X4 hown hK hP 24 rfl rfl 4 (by decide) (hts (.fieldLink RX4 27 "TurnedFloors$Reader" "token" "I") f9_wsX4_step_463) (fun _ h9 => h9) rfl dX4_step_123 ?_
    refine lv_iconst (v := 3) hx hb dX4_step_126 (by decide) ?_
    refine lv_icmp_eq (tgt := 162) hx hb dX4_step_127 (by decide) (fun c9 => ?_) (fun c9 => ?_)
    · rw [if_pos c9] at h
      exact WX4_step_s24_162 C0  _ _ _ _ h hP hD hS (lv_sub hl [0] rfl)
    · rw [if_neg c9] at h
      refine lv_aload_n hx hb dX4_step_130 rfl (lv_at hl 0 rfl) ?_
      refine va_get (D := D) (ci := 4) (v := dN (ad 46) (q.1 24 0)) (C := RX4) (T := TX4) (N := 11) hx hb hts u9_wsX4_step_X4 hown hK hP 24 rfl rfl 0 (by decide) (hts (.fieldLink RX4 9 "TurnedFloors$Reader" "bytes" "[I") f9_wsX4_step_465) (fun _ h9 => h9) rfl dX4_step_131 ?_
      obtain ⟨g1, h⟩ := dG_some h
      refine kz_topv (if_neg (dnz_ne g1)) ?_
      refine lv_aload_n hx hb dX4_step_134 rfl (lv_at hl 0 rfl) ?_
      refine va_get (D := D) (ci := 4) (v := .int (q.1 24 6)) (C := RX4) (T := TX4) (N := 11) hx hb hts u9_wsX4_step_X4 hown hK hP 24 rfl rfl 6 (by decide) (hts (.fieldLink RX4 33 "TurnedFloors$Reader" "stop" "I") f9_wsX4_step_462) (fun _ h9 => h9) rfl dX4_step_135 ?_
      obtain ⟨g2, h⟩ := dG_some h
      refine va_iald hx hb hK hP 46 0 rfl rfl (dg_in g2) dX4_step_138 ?_
      obtain ⟨v3, ev3, h⟩ := dL_some h
      refine kz_topi v3 ev3 ?_
      obtain ⟨r4, h5, h⟩ := dV_some h
      refine dw_ks (va_runS (As := [.int v3]) (rest := []) ⟨hx, hb, hml, hown, hts⟩ (qX4_tokenOf l D ty eo _ v3 _ h5) (va_cwS 1 hts gX4_step_X4_tokenOf rfl rfl rfl (by decide +kernel) ⟨Nat.le_of_ble_eq_true rfl, Nat.le_of_ble_eq_true rfl⟩) (kz_preS hK hN hE hP hD hS hA [] (by decide) rfl) rfl rfl hl.1 rfl (lv_room (Nat.le_of_ble_eq_true rfl)) dX4_step_139 ⟨Nat.le_of_ble_eq_true rfl, Nat.le_of_ble_eq_true rfl⟩) hP hD hS hA (fun _ _ h9 => h9.2.symm) (fun r9 u9 H locs hw hp hd hs => ?_)
      obtain ⟨rfl, -⟩ := hw
      clear hP hD hS
      have hP := hp; have hD := hd; have hS := hs; clear hp hd hs
      refine lv_aload_n hx hb dX4_step_142 rfl (lv_at hl 0 rfl) ?_
      refine va_get (D := D) (ci := 4) (v := .int (q.1 24 4)) (C := RX4) (T := TX4) (N := 11) hx hb hts u9_wsX4_step_X4 hown hK hP 24 rfl rfl 4 (by decide) (hts (.fieldLink RX4 27 "TurnedFloors$Reader" "token" "I") f9_wsX4_step_463) (fun _ h9 => h9) rfl dX4_step_143 ?_
      refine lv_icmp_ne (tgt := 162) hx hb dX4_step_146 (by decide) (fun c9 => ?_) (fun c9 => ?_)
      · rw [if_neg c9] at h
        exact WX4_step_s24_162 C0  _ _ _ _ h hP hD hS (lv_sub hl [0] rfl)
      · rw [if_pos c9] at h
        refine lv_aload_n hx hb dX4_step_149 rfl (lv_at hl 0 rfl) ?_
        refine lv_dup hx hb dX4_step_150 rfl ?_
        refine va_get (D := D) (ci := 4) (v := .int (q.1 24 6)) (C := RX4) (T := TX4) (N := 11) hx hb hts u9_wsX4_step_X4 hown hK hP 24 rfl rfl 6 (by decide) (hts (.fieldLink RX4 33 "TurnedFloors$Reader" "stop" "I") f9_wsX4_step_462) (fun _ h9 => h9) rfl dX4_step_151 ?_
        refine lv_iconst (v := 1) hx hb dX4_step_154 (by decide) ?_
        refine lv_iadd hx hb dX4_step_155 ?_
        refine va_put (D := D) (ci := 4) (v := .int ((q.1 24 6) + 1 : Int32)) (ty := .int) (C := RX4) (T := TX4) (N := 11) hx hb hts u9_wsX4_step_X4 tyX4 tyX4_ok nmX4 hown hK hP hD hS 24 rfl rfl 6 (by decide) (hts (.fieldLink RX4 33 "TurnedFloors$Reader" "stop" "I") f9_wsX4_step_462) (fun _ h9 => h9) rfl (by decide +kernel) rfl rfl (Nat.le_of_ble_eq_true rfl) dX4_step_156 (fun H locs hp hd hs => ?_)
        obtain ⟨q6, eq6, h⟩ := dL_some h
        refine kz_re (w2 := wF ty ad q6) hp hd hs (by rw [← eq6]; exact wF_f24_6 ty ad q ((q.1 24 6) + 1 : Int32)) ?_
        clear hp hd hs hP hD hS
        intro hP hD hS
        refine lv_goto (tgt := 111) hx hb dX4_step_159 (by decide) ?_
        exact hk111 _ _ _ _ h hP hD hS (lv_sub hl [0] rfl)
set_option maxHeartbeats 4000000 in
set_option maxRecDepth 100000 in
theorem WX4_step_s24_111 {p : Program} {l : Launch} {e : Env} {s : State} {m : MethodId} {args : Array Value} {below : List Frame} {meth : Method} {c : Code} {D : va_G} {ty : Nat → ClassId} {eo : Nat → Nat} {A : Nat → Prop} {ad : Nat → Nat} {o2 : dK} (C : dc_C p s m args meth c cX4_step none 2 RX4 wsX4_step D ty eo A)   (n : Nat) (q : dK)  (H : Heap) (locs : List Loc) (ls : Array Slot) (h : zX4_step_s24_111  n q = some o2) (hP : va_P D vwCl (wF ty ad q) H) (hD : va_D A (wF ty ad q)) (hS : va_S A s.heap H locs) (hl : lv_has ls 2 [(0, .ref (ad 24))]) : W p l e ({ frames := 1, cells := 0, slots := 0, locals := 21 } : Room) s m args below meth c H locs 0 0 (MQ below (va_Qv (fun (u : va_W) => wF ty ad o2 = u) (kz_B D ty A) A) args s 0 0 A) (F0 m 111 ls []) := by
  exact dFix_W (F := fun k (a : dK) => zX4_step_s24_111b  (fun q => k (q)) a) (o := o2) (P := fun (a : dK) H locs ls => va_P D vwCl (wF ty ad a) H ∧ va_D A (wF ty ad a) ∧ va_S A s.heap H locs ∧ lv_has ls 2 [(0, .ref (ad 24))]) (G := fun H locs ls => W p l e ({ frames := 1, cells := 0, slots := 0, locals := 21 } : Room) s m args below meth c H locs 0 0 (MQ below (va_Qv (fun (u : va_W) => wF ty ad o2 = u) (kz_B D ty A) A) args s 0 0 A) (F0 m 111 ls []))
    (fun k hk a H locs ls h hp => WX4_step_s24_111b C  (fun q H locs ls h h1 h2 h3 h4 => hk (q) H locs ls h ⟨h1, h2, h3, h4⟩) a H locs ls h hp.1 hp.2.1 hp.2.2.1 hp.2.2.2) n (q) H locs ls h ⟨hP, hD, hS, hl⟩
set_option maxHeartbeats 4000000 in
set_option maxRecDepth 100000 in
theorem WX4_step_s24_55 {p : Program} {l : Launch} {e : Env} {s : State} {m : MethodId} {args : Array Value} {below : List Frame} {meth : Method} {c : Code} {D : va_G} {ty : Nat → ClassId} {eo : Nat → Nat} {A : Nat → Prop} {ad : Nat → Nat} {o2 : dK} (C : dc_C p s m args meth c cX4_step none 2 RX4 wsX4_step D ty eo A)   (q : dK)  (H : Heap) (locs : List Loc) (ls : Array Slot) (h : zX4_step_s24_55  q = some o2) (hP : va_P D vwCl (wF ty ad q) H) (hD : va_D A (wF ty ad q)) (hS : va_S A s.heap H locs) (hl : lv_has ls 2 [(0, .ref (ad 24))]) : W p l e ({ frames := 1, cells := 0, slots := 0, locals := 21 } : Room) s m args below meth c H locs 0 0 (MQ below (va_Qv (fun (u : va_W) => wF ty ad o2 = u) (kz_B D ty A) A) args s 0 0 A) (F0 m 55 ls []) := by
  have C0 := C
  obtain ⟨hx, hb, hr, hts, hown, hlocks, hml, hK, hN, hE, hA⟩ := C
  unfold zX4_step_s24_55 at h
  refine lv_aload_n hx hb dX4_step_55 rfl (lv_at hl 0 rfl) ?_
  refine lv_aload_n hx hb dX4_step_56 rfl (lv_at hl 0 rfl) ?_
  refine va_get (D := D) (ci := 4) (v := .int (q.1 24 5)) (C := RX4) (T := TX4) (N := 11) hx hb hts u9_wsX4_step_X4 hown hK hP 24 rfl rfl 5 (by decide) (hts (.fieldLink RX4 30 "TurnedFloors$Reader" "start" "I") f9_wsX4_step_470) (fun _ h9 => h9) rfl dX4_step_57 ?_
  refine va_put (D := D) (ci := 4) (v := .int (q.1 24 5)) (ty := .int) (C := RX4) (T := TX4) (N := 11) hx hb hts u9_wsX4_step_X4 tyX4 tyX4_ok nmX4 hown hK hP hD hS 24 rfl rfl 6 (by decide) (hts (.fieldLink RX4 33 "TurnedFloors$Reader" "stop" "I") f9_wsX4_step_462) (fun _ h9 => h9) rfl (by decide +kernel) rfl rfl (Nat.le_of_ble_eq_true rfl) dX4_step_60 (fun H locs hp hd hs => ?_)
  obtain ⟨q1, eq1, h⟩ := dL_some h
  refine kz_re (w2 := wF ty ad q1) hp hd hs (by rw [← eq1]; exact wF_f24_6 ty ad q (q.1 24 5)) ?_
  clear hp hd hs hP hD hS
  intro hP hD hS
  refine lv_aload_n hx hb dX4_step_63 rfl (lv_at hl 0 rfl) ?_
  refine lv_iconst (v := 0) hx hb dX4_step_64 (by decide) ?_
  refine va_put (D := D) (ci := 4) (v := .int 0) (ty := .int) (C := RX4) (T := TX4) (N := 11) hx hb hts u9_wsX4_step_X4 tyX4 tyX4_ok nmX4 hown hK hP hD hS 24 rfl rfl 7 (by decide) (hts (.fieldLink RX4 36 "TurnedFloors$Reader" "number" "I") f9_wsX4_step_464) (fun _ h9 => h9) rfl (by decide +kernel) rfl rfl (Nat.le_of_ble_eq_true rfl) dX4_step_65 (fun H locs hp hd hs => ?_)
  obtain ⟨q2, eq2, h⟩ := dL_some h
  refine kz_re (w2 := wF ty ad q2) hp hd hs (by rw [← eq2]; exact wF_f24_7 ty ad q1 0) ?_
  clear hp hd hs hP hD hS
  intro hP hD hS
  refine lv_aload_n hx hb dX4_step_68 rfl (lv_at hl 0 rfl) ?_
  refine lv_iconst (v := 0) hx hb dX4_step_69 (by decide) ?_
  refine va_put (D := D) (ci := 4) (v := .int 0) (ty := .int) (C := RX4) (T := TX4) (N := 11) hx hb hts u9_wsX4_step_X4 tyX4 tyX4_ok nmX4 hown hK hP hD hS 24 rfl rfl 4 (by decide) (hts (.fieldLink RX4 27 "TurnedFloors$Reader" "token" "I") f9_wsX4_step_463) (fun _ h9 => h9) rfl (by decide +kernel) rfl rfl (Nat.le_of_ble_eq_true rfl) dX4_step_70 (fun H locs hp hd hs => ?_)
  obtain ⟨q3, eq3, h⟩ := dL_some h
  refine kz_re (w2 := wF ty ad q3) hp hd hs (by rw [← eq3]; exact wF_f24_4 ty ad q2 0) ?_
  clear hp hd hs hP hD hS
  intro hP hD hS
  refine lv_aload_n hx hb dX4_step_73 rfl (lv_at hl 0 rfl) ?_
  refine va_get (D := D) (ci := 4) (v := .int (q3.1 24 5)) (C := RX4) (T := TX4) (N := 11) hx hb hts u9_wsX4_step_X4 hown hK hP 24 rfl rfl 5 (by decide) (hts (.fieldLink RX4 30 "TurnedFloors$Reader" "start" "I") f9_wsX4_step_470) (fun _ h9 => h9) rfl dX4_step_74 ?_
  refine lv_aload_n hx hb dX4_step_77 rfl (lv_at hl 0 rfl) ?_
  refine va_get (D := D) (ci := 4) (v := .int (q3.1 24 1)) (C := RX4) (T := TX4) (N := 11) hx hb hts u9_wsX4_step_X4 hown hK hP 24 rfl rfl 1 (by decide) (hts (.fieldLink RX4 15 "TurnedFloors$Reader" "length" "I") f9_wsX4_step_471) (fun _ h9 => h9) rfl dX4_step_78 ?_
  refine lv_icmp_lt (tgt := 85) hx hb dX4_step_81 (by decide) (fun c9 => ?_) (fun c9 => ?_)
  · rw [if_pos c9] at h
    refine lv_aload_n hx hb dX4_step_85 rfl (lv_at hl 0 rfl) ?_
    refine lv_aload_n hx hb dX4_step_86 rfl (lv_at hl 0 rfl) ?_
    refine va_get (D := D) (ci := 4) (v := dN (ad 46) (q3.1 24 0)) (C := RX4) (T := TX4) (N := 11) hx hb hts u9_wsX4_step_X4 hown hK hP 24 rfl rfl 0 (by decide) (hts (.fieldLink RX4 9 "TurnedFloors$Reader" "bytes" "[I") f9_wsX4_step_465) (fun _ h9 => h9) rfl dX4_step_87 ?_
    obtain ⟨g4, h⟩ := dG_some h
    refine kz_topv (if_neg (dnz_ne g4)) ?_
    refine lv_aload_n hx hb dX4_step_90 rfl (lv_at hl 0 rfl) ?_
    refine va_get (D := D) (ci := 4) (v := .int (q3.1 24 5)) (C := RX4) (T := TX4) (N := 11) hx hb hts u9_wsX4_step_X4 hown hK hP 24 rfl rfl 5 (by decide) (hts (.fieldLink RX4 30 "TurnedFloors$Reader" "start" "I") f9_wsX4_step_470) (fun _ h9 => h9) rfl dX4_step_91 ?_
    obtain ⟨g5, h⟩ := dG_some h
    refine va_iald hx hb hK hP 46 0 rfl rfl (dg_in g5) dX4_step_94 ?_
    obtain ⟨v6, ev6, h⟩ := dL_some h
    refine kz_topi v6 ev6 ?_
    obtain ⟨r7, h8, h⟩ := dV_some h
    refine dw_ks (va_runS (As := [.int v6]) (rest := [.ref (ad 24)]) ⟨hx, hb, hml, hown, hts⟩ (qX4_tokenOf l D ty eo _ v6 _ h8) (va_cwS 1 hts gX4_step_X4_tokenOf rfl rfl rfl (by decide +kernel) ⟨Nat.le_of_ble_eq_true rfl, Nat.le_of_ble_eq_true rfl⟩) (kz_preS hK hN hE hP hD hS hA [] (by decide) rfl) rfl rfl hl.1 rfl (lv_room (Nat.le_of_ble_eq_true rfl)) dX4_step_95 ⟨Nat.le_of_ble_eq_true rfl, Nat.le_of_ble_eq_true rfl⟩) hP hD hS hA (fun _ _ h9 => h9.2.symm) (fun r9 u9 H locs hw hp hd hs => ?_)
    obtain ⟨rfl, -⟩ := hw
    clear hP hD hS
    have hP := hp; have hD := hd; have hS := hs; clear hp hd hs
    refine va_put (D := D) (ci := 4) (v := .int r7) (ty := .int) (C := RX4) (T := TX4) (N := 11) hx hb hts u9_wsX4_step_X4 tyX4 tyX4_ok nmX4 hown hK hP hD hS 24 rfl rfl 4 (by decide) (hts (.fieldLink RX4 27 "TurnedFloors$Reader" "token" "I") f9_wsX4_step_463) (fun _ h9 => h9) rfl (by decide +kernel) rfl rfl (Nat.le_of_ble_eq_true rfl) dX4_step_98 (fun H locs hp hd hs => ?_)
    obtain ⟨q9, eq9, h⟩ := dL_some h
    refine kz_re (w2 := wF ty ad q9) hp hd hs (by rw [← eq9]; exact wF_f24_4 ty ad q3 r7) ?_
    clear hp hd hs hP hD hS
    intro hP hD hS
    refine lv_aload_n hx hb dX4_step_101 rfl (lv_at hl 0 rfl) ?_
    refine lv_dup hx hb dX4_step_102 rfl ?_
    refine va_get (D := D) (ci := 4) (v := .int (q9.1 24 6)) (C := RX4) (T := TX4) (N := 11) hx hb hts u9_wsX4_step_X4 hown hK hP 24 rfl rfl 6 (by decide) (hts (.fieldLink RX4 33 "TurnedFloors$Reader" "stop" "I") f9_wsX4_step_462) (fun _ h9 => h9) rfl dX4_step_103 ?_
    refine lv_iconst (v := 1) hx hb dX4_step_106 (by decide) ?_
    refine lv_iadd hx hb dX4_step_107 ?_
    refine va_put (D := D) (ci := 4) (v := .int ((q9.1 24 6) + 1 : Int32)) (ty := .int) (C := RX4) (T := TX4) (N := 11) hx hb hts u9_wsX4_step_X4 tyX4 tyX4_ok nmX4 hown hK hP hD hS 24 rfl rfl 6 (by decide) (hts (.fieldLink RX4 33 "TurnedFloors$Reader" "stop" "I") f9_wsX4_step_462) (fun _ h9 => h9) rfl (by decide +kernel) rfl rfl (Nat.le_of_ble_eq_true rfl) dX4_step_108 (fun H locs hp hd hs => ?_)
    obtain ⟨q10, eq10, h⟩ := dL_some h
    refine kz_re (w2 := wF ty ad q10) hp hd hs (by rw [← eq10]; exact wF_f24_6 ty ad q9 ((q9.1 24 6) + 1 : Int32)) ?_
    clear hp hd hs hP hD hS
    intro hP hD hS
    exact WX4_step_s24_111 C0  _ _ _ _ _ h hP hD hS (lv_sub hl [0] rfl)
  · rw [if_neg c9] at h
    cases h
    exact kz_vret hx hb hr hlocks hP hK hD hS dX4_step_84 rfl
set_option maxHeartbeats 4000000 in
set_option maxRecDepth 100000 in
theorem WX4_step_s24_17b {p : Program} {l : Launch} {e : Env} {s : State} {m : MethodId} {args : Array Value} {below : List Frame} {meth : Method} {c : Code} {D : va_G} {ty : Nat → ClassId} {eo : Nat → Nat} {A : Nat → Prop} {ad : Nat → Nat} {o2 : dK} (C : dc_C p s m args meth c cX4_step none 2 RX4 wsX4_step D ty eo A) {k17 : dK → Option (dK)} (hk17 : ∀ (q : dK)  (H : Heap) (locs : List Loc) (ls : Array Slot), k17 q = some o2 → va_P D vwCl (wF ty ad q) H → va_D A (wF ty ad q) → va_S A s.heap H locs → lv_has ls 2 [(0, .ref (ad 24))] → W p l e ({ frames := 1, cells := 0, slots := 0, locals := 21 } : Room) s m args below meth c H locs 0 0 (MQ below (va_Qv (fun (u : va_W) => wF ty ad o2 = u) (kz_B D ty A) A) args s 0 0 A) (F0 m 17 ls [])) (q : dK)  (H : Heap) (locs : List Loc) (ls : Array Slot) (h : zX4_step_s24_17b k17 q = some o2) (hP : va_P D vwCl (wF ty ad q) H) (hD : va_D A (wF ty ad q)) (hS : va_S A s.heap H locs) (hl : lv_has ls 2 [(0, .ref (ad 24))]) : W p l e ({ frames := 1, cells := 0, slots := 0, locals := 21 } : Room) s m args below meth c H locs 0 0 (MQ below (va_Qv (fun (u : va_W) => wF ty ad o2 = u) (kz_B D ty A) A) args s 0 0 A) (F0 m 17 ls []) := by
  have C0 := C
  obtain ⟨hx, hb, hr, hts, hown, hlocks, hml, hK, hN, hE, hA⟩ := C
  unfold zX4_step_s24_17b at h
  refine lv_aload_n hx hb dX4_step_17 rfl (lv_at hl 0 rfl) ?_
  refine va_get (D := D) (ci := 4) (v := .int (q.1 24 5)) (C := RX4) (T := TX4) (N := 11) hx hb hts u9_wsX4_step_X4 hown hK hP 24 rfl rfl 5 (by decide) (hts (.fieldLink RX4 30 "TurnedFloors$Reader" "start" "I") f9_wsX4_step_470) (fun _ h9 => h9) rfl dX4_step_18 ?_
  refine lv_aload_n hx hb dX4_step_21 rfl (lv_at hl 0 rfl) ?_
  refine va_get (D := D) (ci := 4) (v := .int (q.1 24 1)) (C := RX4) (T := TX4) (N := 11) hx hb hts u9_wsX4_step_X4 hown hK hP 24 rfl rfl 1 (by decide) (hts (.fieldLink RX4 15 "TurnedFloors$Reader" "length" "I") f9_wsX4_step_471) (fun _ h9 => h9) rfl dX4_step_22 ?_
  refine lv_icmp_ge (tgt := 55) hx hb dX4_step_25 (by decide) (fun c9 => ?_) (fun c9 => ?_)
  · rw [if_pos c9] at h
    exact WX4_step_s24_55 C0  _ _ _ _ h hP hD hS (lv_sub hl [0] rfl)
  · rw [if_neg c9] at h
    refine lv_aload_n hx hb dX4_step_28 rfl (lv_at hl 0 rfl) ?_
    refine va_get (D := D) (ci := 4) (v := dN (ad 46) (q.1 24 0)) (C := RX4) (T := TX4) (N := 11) hx hb hts u9_wsX4_step_X4 hown hK hP 24 rfl rfl 0 (by decide) (hts (.fieldLink RX4 9 "TurnedFloors$Reader" "bytes" "[I") f9_wsX4_step_465) (fun _ h9 => h9) rfl dX4_step_29 ?_
    obtain ⟨g1, h⟩ := dG_some h
    refine kz_topv (if_neg (dnz_ne g1)) ?_
    refine lv_aload_n hx hb dX4_step_32 rfl (lv_at hl 0 rfl) ?_
    refine va_get (D := D) (ci := 4) (v := .int (q.1 24 5)) (C := RX4) (T := TX4) (N := 11) hx hb hts u9_wsX4_step_X4 hown hK hP 24 rfl rfl 5 (by decide) (hts (.fieldLink RX4 30 "TurnedFloors$Reader" "start" "I") f9_wsX4_step_470) (fun _ h9 => h9) rfl dX4_step_33 ?_
    obtain ⟨g2, h⟩ := dG_some h
    refine va_iald hx hb hK hP 46 0 rfl rfl (dg_in g2) dX4_step_36 ?_
    obtain ⟨v3, ev3, h⟩ := dL_some h
    refine kz_topi v3 ev3 ?_
    refine lv_bipush (v := 32) hx hb dX4_step_37 (by decide) ?_
    refine lv_icmp_ne (tgt := 55) hx hb dX4_step_39 (by decide) (fun c9 => ?_) (fun c9 => ?_)
    · rw [if_neg c9] at h
      exact WX4_step_s24_55 C0  _ _ _ _ h hP hD hS (lv_sub hl [0] rfl)
    · rw [if_pos c9] at h
      refine lv_aload_n hx hb dX4_step_42 rfl (lv_at hl 0 rfl) ?_
      refine lv_dup hx hb dX4_step_43 rfl ?_
      refine va_get (D := D) (ci := 4) (v := .int (q.1 24 5)) (C := RX4) (T := TX4) (N := 11) hx hb hts u9_wsX4_step_X4 hown hK hP 24 rfl rfl 5 (by decide) (hts (.fieldLink RX4 30 "TurnedFloors$Reader" "start" "I") f9_wsX4_step_470) (fun _ h9 => h9) rfl dX4_step_44 ?_
      refine lv_iconst (v := 1) hx hb dX4_step_47 (by decide) ?_
      refine lv_iadd hx hb dX4_step_48 ?_
      refine va_put (D := D) (ci := 4) (v := .int ((q.1 24 5) + 1 : Int32)) (ty := .int) (C := RX4) (T := TX4) (N := 11) hx hb hts u9_wsX4_step_X4 tyX4 tyX4_ok nmX4 hown hK hP hD hS 24 rfl rfl 5 (by decide) (hts (.fieldLink RX4 30 "TurnedFloors$Reader" "start" "I") f9_wsX4_step_470) (fun _ h9 => h9) rfl (by decide +kernel) rfl rfl (Nat.le_of_ble_eq_true rfl) dX4_step_49 (fun H locs hp hd hs => ?_)
      obtain ⟨q4, eq4, h⟩ := dL_some h
      refine kz_re (w2 := wF ty ad q4) hp hd hs (by rw [← eq4]; exact wF_f24_5 ty ad q ((q.1 24 5) + 1 : Int32)) ?_
      clear hp hd hs hP hD hS
      intro hP hD hS
      refine lv_goto (tgt := 17) hx hb dX4_step_52 (by decide) ?_
      exact hk17 _ _ _ _ h hP hD hS (lv_sub hl [0] rfl)
set_option maxHeartbeats 4000000 in
set_option maxRecDepth 100000 in
theorem WX4_step_s24_17 {p : Program} {l : Launch} {e : Env} {s : State} {m : MethodId} {args : Array Value} {below : List Frame} {meth : Method} {c : Code} {D : va_G} {ty : Nat → ClassId} {eo : Nat → Nat} {A : Nat → Prop} {ad : Nat → Nat} {o2 : dK} (C : dc_C p s m args meth c cX4_step none 2 RX4 wsX4_step D ty eo A)   (n : Nat) (q : dK)  (H : Heap) (locs : List Loc) (ls : Array Slot) (h : zX4_step_s24_17  n q = some o2) (hP : va_P D vwCl (wF ty ad q) H) (hD : va_D A (wF ty ad q)) (hS : va_S A s.heap H locs) (hl : lv_has ls 2 [(0, .ref (ad 24))]) : W p l e ({ frames := 1, cells := 0, slots := 0, locals := 21 } : Room) s m args below meth c H locs 0 0 (MQ below (va_Qv (fun (u : va_W) => wF ty ad o2 = u) (kz_B D ty A) A) args s 0 0 A) (F0 m 17 ls []) := by
  exact dFix_W (F := fun k (a : dK) => zX4_step_s24_17b  (fun q => k (q)) a) (o := o2) (P := fun (a : dK) H locs ls => va_P D vwCl (wF ty ad a) H ∧ va_D A (wF ty ad a) ∧ va_S A s.heap H locs ∧ lv_has ls 2 [(0, .ref (ad 24))]) (G := fun H locs ls => W p l e ({ frames := 1, cells := 0, slots := 0, locals := 21 } : Room) s m args below meth c H locs 0 0 (MQ below (va_Qv (fun (u : va_W) => wF ty ad o2 = u) (kz_B D ty A) A) args s 0 0 A) (F0 m 17 ls []))
    (fun k hk a H locs ls h hp => WX4_step_s24_17b C  (fun q H locs ls h h1 h2 h3 h4 => hk (q) H locs ls h ⟨h1, h2, h3, h4⟩) a H locs ls h hp.1 hp.2.1 hp.2.2.1 hp.2.2.2) n (q) H locs ls h ⟨hP, hD, hS, hl⟩
set_option maxHeartbeats 4000000 in
set_option maxRecDepth 100000 in
theorem qX4_step_s24 (l : Launch) (D : va_G) (ty : Nat → ClassId) (eo : Nat → Nat) (sz : Nat) (ad : Nat → Nat) (q : dK)  (o2 : dK) (h : zX4_step_s24 q = some o2) : Met l yX4_step wsX4_step ({ frames := 1, cells := 0, slots := 0, locals := 21 } : Room) (va_Pc [.ref (ad 24)] (kz_pre D ty eo (wF ty ad q) sz)) (va_Qv (fun (u : va_W) => wF ty ad o2 = u) (kz_B D ty (va_A (wF ty ad q) sz)) (va_A (wF ty ad q) sz)) 0 0 (va_A (wF ty ad q) sz) := by
  refine Met.ofW (cc := cX4_step) (maxL := 2) (ret := none) (by decide) rfl ?_
  intro p e s m args below meth c s₁ B hml hv
  obtain ⟨rfl, hsz, hP, hK, hD0, hN, hE⟩ := hv
  have hx := B.exec
  have hb := B.bytes
  have hr := B.returns
  have hts := atoms_spec (ws := wsX4_step) B.pre
  have hown : s.vm.findClass RX4 = some m.cls := findClass_of_methodNamed B.named
  have hlocks := B.notSynchronized
  subst hsz
  have hD := hD0.self (sz := s.heap.size)
  generalize hAe : va_A (wF ty ad q) s.heap.size = A at hD hE ⊢
  have hA : ∀ q : Nat, s.heap.size ≤ q → A q := fun q h => by rw [← hAe]; exact Or.inr h
  clear hAe
  have hS : va_S A s.heap s.heap [] := va_S.rf
  have hl := lv_entry ([.ref (ad 24)]) (n := 2) (Nat.le_of_ble_eq_true rfl)
  rw [lg_entry_eq]
  generalize (lg_sl ([.ref (ad 24)]) ++ List.replicate (2 - (lg_sl ([.ref (ad 24)])).length) Slot.unset).toArray = ls at hl ⊢
  have hl : lv_has ls 2 [(0, .ref (ad 24))] := hl
  have C : dc_C p s m _ meth c cX4_step none 2 RX4 wsX4_step D ty eo A := ⟨hx, hb, hr, hts, hown, hlocks, hml, hK, hN, hE, hA⟩
  unfold zX4_step_s24 at h
  refine lv_aload_n hx hb dX4_step_0 rfl (lv_at hl 0 rfl) ?_
  refine va_get (D := D) (ci := 4) (v := .int (q.1 24 10)) (C := RX4) (T := TX4) (N := 11) hx hb hts u9_wsX4_step_X4 hown hK hP 24 rfl rfl 10 (by decide) (hts (.fieldLink RX4 45 "TurnedFloors$Reader" "faultAt" "I") f9_wsX4_step_472) (fun _ h9 => h9) rfl dX4_step_1 ?_
  refine lv_iconst (v := (-1)) hx hb dX4_step_4 (by decide) ?_
  refine lv_icmp_eq (tgt := 9) hx hb dX4_step_5 (by decide) (fun c9 => ?_) (fun c9 => ?_)
  · rw [if_pos c9] at h
    refine lv_aload_n hx hb dX4_step_9 rfl (lv_at hl 0 rfl) ?_
    refine lv_aload_n hx hb dX4_step_10 rfl (lv_at hl 0 rfl) ?_
    refine va_get (D := D) (ci := 4) (v := .int (q.1 24 6)) (C := RX4) (T := TX4) (N := 11) hx hb hts u9_wsX4_step_X4 hown hK hP 24 rfl rfl 6 (by decide) (hts (.fieldLink RX4 33 "TurnedFloors$Reader" "stop" "I") f9_wsX4_step_462) (fun _ h9 => h9) rfl dX4_step_11 ?_
    refine va_put (D := D) (ci := 4) (v := .int (q.1 24 6)) (ty := .int) (C := RX4) (T := TX4) (N := 11) hx hb hts u9_wsX4_step_X4 tyX4 tyX4_ok nmX4 hown hK hP hD hS 24 rfl rfl 5 (by decide) (hts (.fieldLink RX4 30 "TurnedFloors$Reader" "start" "I") f9_wsX4_step_470) (fun _ h9 => h9) rfl (by decide +kernel) rfl rfl (Nat.le_of_ble_eq_true rfl) dX4_step_14 (fun H locs hp hd hs => ?_)
    obtain ⟨q1, eq1, h⟩ := dL_some h
    refine kz_re (w2 := wF ty ad q1) hp hd hs (by rw [← eq1]; exact wF_f24_5 ty ad q (q.1 24 6)) ?_
    clear hp hd hs hP hD hS
    intro hP hD hS
    exact WX4_step_s24_17 C  _ _ _ _ _ h hP hD hS (lv_sub hl [0] rfl)
  · rw [if_neg c9] at h
    cases h
    exact kz_vret hx hb hr hlocks hP hK hD hS dX4_step_8 rfl

set_option maxHeartbeats 4000000 in
set_option maxRecDepth 100000 in
theorem WX4_isSame_s24_t0_20b {p : Program} {l : Launch} {e : Env} {s : State} {m : MethodId} {args : Array Value} {below : List Frame} {meth : Method} {c : Code} {D : va_G} {ty : Nat → ClassId} {eo : Nat → Nat} {A : Nat → Prop} {ad : Nat → Nat} {o1 : Int32} {o2 : dK} (C : dc_C p s m args meth c cX4_isSame (some .boolean) 5 RX4 wsX4_isSame D ty eo A) {k20 : dK → Int32 → Int32 → Int32 → Option (Int32 × dK)} (hk20 : ∀ (q : dK) (x2 : Int32) (x3 : Int32) (x4 : Int32) (H : Heap) (locs : List Loc) (ls : Array Slot), k20 q x2 x3 x4 = some (o1, o2) → va_P D vwCl (wF ty ad q) H → va_D A (wF ty ad q) → va_S A s.heap H locs → lv_has ls 5 [(0, .ref (ad 24)), (1, .ref (eo (1 + 0))), (2, .int x2), (3, .int x3), (4, .int x4)] → W p l e ({ frames := 4, cells := 0, slots := 0, locals := 85 } : Room) s m args below meth c H locs 0 0 (MQ below (va_Qi (fun (r : Int32) (u : va_W) => o1 = r ∧ wF ty ad o2 = u) (kz_B D ty A) A) args s 0 0 A) (F0 m 20 ls [])) (q : dK) (x2 : Int32) (x3 : Int32) (x4 : Int32) (H : Heap) (locs : List Loc) (ls : Array Slot) (h : zX4_isSame_s24_t0_20b k20 q x2 x3 x4 = some (o1, o2)) (hP : va_P D vwCl (wF ty ad q) H) (hD : va_D A (wF ty ad q)) (hS : va_S A s.heap H locs) (hl : lv_has ls 5 [(0, .ref (ad 24)), (1, .ref (eo (1 + 0))), (2, .int x2), (3, .int x3), (4, .int x4)]) : W p l e ({ frames := 4, cells := 0, slots := 0, locals := 85 } : Room) s m args below meth c H locs 0 0 (MQ below (va_Qi (fun (r : Int32) (u : va_W) => o1 = r ∧ wF ty ad o2 = u) (kz_B D ty A) A) args s 0 0 A) (F0 m 20 ls []) := by
  have C0 := C
  obtain ⟨hx, hb, hr, hts, hown, hlocks, hml, hK, hN, hE, hA⟩ := C
  unfold zX4_isSame_s24_t0_20b at h
  refine lv_iload hx hb dX4_isSame_20 (lv_at hl 4 rfl) ?_
  refine lv_iload_n hx hb dX4_isSame_22 rfl (lv_at hl 3 rfl) ?_
  refine lv_icmp_ge (tgt := 57) hx hb dX4_isSame_23 (by decide) (fun c9 => ?_) (fun c9 => ?_)
  · rw [if_pos c9] at h
    refine lv_iconst (v := 1) hx hb dX4_isSame_57 (by decide) ?_
    cases h
    exact kz_zret hx hb hr hlocks rfl hP hK hD hS dX4_isSame_58 ⟨rfl, rfl⟩
  · rw [if_neg c9] at h
    refine lv_aload_n hx hb dX4_isSame_26 rfl (lv_at hl 1 rfl) ?_
    refine lv_iload hx hb dX4_isSame_27 (lv_at hl 4 rfl) ?_
    obtain ⟨g1, h⟩ := dG_some h
    refine dw_ks (va_runV (As := [.int x4]) (rest := []) ⟨hx, hb, hml, hown, hts⟩ (kcJ0ch l D ty eo _ 0 (by decide) x4 (dg_in g1)) (cwV 1 hts gX4_isSame_J0_charAt_5068e rfl rfl rfl (by decide +kernel) ⟨Nat.le_of_ble_eq_true rfl, Nat.le_of_ble_eq_true rfl⟩) (kz_preT hK hN hE hP hD hS hA 0 (by decide) [] (by decide) rfl) rfl rfl hl.1 rfl (lv_room (Nat.le_of_ble_eq_true rfl)) dX4_isSame_29 ⟨Nat.le_of_ble_eq_true rfl, Nat.le_of_ble_eq_true rfl⟩) hP hD hS hA (fun _ _ h9 => h9.2.symm) (fun r9 u9 H locs hw hp hd hs => ?_)
    obtain ⟨rfl, -⟩ := hw
    clear hP hD hS
    have hP := hp; have hD := hd; have hS := hs; clear hp hd hs
    obtain ⟨v2, ev2, h⟩ := dL_some h
    refine kz_topi v2 ev2 ?_
    refine lv_aload_n hx hb dX4_isSame_32 rfl (lv_at hl 0 rfl) ?_
    refine va_get (D := D) (ci := 4) (v := dN (ad 46) (q.1 24 0)) (C := RX4) (T := TX4) (N := 11) hx hb hts u9_wsX4_isSame_X4 hown hK hP 24 rfl rfl 0 (by decide) (hts (.fieldLink RX4 9 "TurnedFloors$Reader" "bytes" "[I") f9_wsX4_isSame_474) (fun _ h9 => h9) rfl dX4_isSame_33 ?_
    obtain ⟨g3, h⟩ := dG_some h
    refine kz_topv (if_neg (dnz_ne g3)) ?_
    refine lv_aload_n hx hb dX4_isSame_36 rfl (lv_at hl 0 rfl) ?_
    refine va_get (D := D) (ci := 4) (v := .int (q.1 24 5)) (C := RX4) (T := TX4) (N := 11) hx hb hts u9_wsX4_isSame_X4 hown hK hP 24 rfl rfl 5 (by decide) (hts (.fieldLink RX4 30 "TurnedFloors$Reader" "start" "I") f9_wsX4_isSame_475) (fun _ h9 => h9) rfl dX4_isSame_37 ?_
    refine lv_iload hx hb dX4_isSame_40 (lv_at hl 4 rfl) ?_
    refine lv_iadd hx hb dX4_isSame_42 ?_
    refine lv_iload_n hx hb dX4_isSame_43 rfl (lv_at hl 2 rfl) ?_
    refine lv_isub hx hb dX4_isSame_44 ?_
    obtain ⟨g4, h⟩ := dG_some h
    refine va_iald hx hb hK hP 46 0 rfl rfl (dg_in g4) dX4_isSame_45 ?_
    obtain ⟨v5, ev5, h⟩ := dL_some h
    refine kz_topi v5 ev5 ?_
    refine lv_icmp_eq (tgt := 51) hx hb dX4_isSame_46 (by decide) (fun c9 => ?_) (fun c9 => ?_)
    · rw [if_pos c9] at h
      refine lv_iinc (v := x4 + 1) (lv' := [(4, .int (x4 + 1)), (0, .ref (ad 24)), (1, .ref (eo (1 + 0))), (2, .int x2), (3, .int x3)]) hx hb dX4_isSame_51 hl (k := 4) rfl rfl (by decide) rfl (fun ls hl => ?_)
      refine lv_goto (tgt := 20) hx hb dX4_isSame_54 (by decide) ?_
      exact hk20 _ _ _ _ _ _ _ h hP hD hS (lv_sub hl [1, 2, 3, 4, 0] rfl)
    · rw [if_neg c9] at h
      refine lv_iconst (v := 0) hx hb dX4_isSame_49 (by decide) ?_
      cases h
      exact kz_zret hx hb hr hlocks rfl hP hK hD hS dX4_isSame_50 ⟨rfl, rfl⟩
set_option maxHeartbeats 4000000 in
set_option maxRecDepth 100000 in
theorem WX4_isSame_s24_t0_20 {p : Program} {l : Launch} {e : Env} {s : State} {m : MethodId} {args : Array Value} {below : List Frame} {meth : Method} {c : Code} {D : va_G} {ty : Nat → ClassId} {eo : Nat → Nat} {A : Nat → Prop} {ad : Nat → Nat} {o1 : Int32} {o2 : dK} (C : dc_C p s m args meth c cX4_isSame (some .boolean) 5 RX4 wsX4_isSame D ty eo A)   (n : Nat) (q : dK) (x2 : Int32) (x3 : Int32) (x4 : Int32) (H : Heap) (locs : List Loc) (ls : Array Slot) (h : zX4_isSame_s24_t0_20  n q x2 x3 x4 = some (o1, o2)) (hP : va_P D vwCl (wF ty ad q) H) (hD : va_D A (wF ty ad q)) (hS : va_S A s.heap H locs) (hl : lv_has ls 5 [(0, .ref (ad 24)), (1, .ref (eo (1 + 0))), (2, .int x2), (3, .int x3), (4, .int x4)]) : W p l e ({ frames := 4, cells := 0, slots := 0, locals := 85 } : Room) s m args below meth c H locs 0 0 (MQ below (va_Qi (fun (r : Int32) (u : va_W) => o1 = r ∧ wF ty ad o2 = u) (kz_B D ty A) A) args s 0 0 A) (F0 m 20 ls []) := by
  exact dFix_W (F := fun k (a : dK × Int32 × Int32 × Int32) => zX4_isSame_s24_t0_20b  (fun q x2 x3 x4 => k (q, x2, x3, x4)) a.1 a.2.1 a.2.2.1 a.2.2.2) (o := (o1, o2)) (P := fun (a : dK × Int32 × Int32 × Int32) H locs ls => va_P D vwCl (wF ty ad a.1) H ∧ va_D A (wF ty ad a.1) ∧ va_S A s.heap H locs ∧ lv_has ls 5 [(0, .ref (ad 24)), (1, .ref (eo (1 + 0))), (2, .int a.2.1), (3, .int a.2.2.1), (4, .int a.2.2.2)]) (G := fun H locs ls => W p l e ({ frames := 4, cells := 0, slots := 0, locals := 85 } : Room) s m args below meth c H locs 0 0 (MQ below (va_Qi (fun (r : Int32) (u : va_W) => o1 = r ∧ wF ty ad o2 = u) (kz_B D ty A) A) args s 0 0 A) (F0 m 20 ls []))
    (fun k hk a H locs ls h hp => WX4_isSame_s24_t0_20b C  (fun q x2 x3 x4 H locs ls h h1 h2 h3 h4 => hk (q, x2, x3, x4) H locs ls h ⟨h1, h2, h3, h4⟩) a.1 a.2.1 a.2.2.1 a.2.2.2 H locs ls h hp.1 hp.2.1 hp.2.2.1 hp.2.2.2) n (q, x2, x3, x4) H locs ls h ⟨hP, hD, hS, hl⟩
set_option maxHeartbeats 4000000 in
set_option maxRecDepth 100000 in
theorem qX4_isSame_s24_t0 (l : Launch) (D : va_G) (ty : Nat → ClassId) (eo : Nat → Nat) (sz : Nat) (ad : Nat → Nat) (q : dK) (p2 : Int32) (p3 : Int32) (o1 : Int32) (o2 : dK) (h : zX4_isSame_s24_t0 q p2 p3 = some (o1, o2)) : Met l yX4_isSame wsX4_isSame ({ frames := 4, cells := 0, slots := 0, locals := 85 } : Room) (va_Pc [.ref (ad 24), .ref (eo (1 + 0)), .int p2, .int p3] (kz_pre D ty eo (wF ty ad q) sz)) (va_Qi (fun (r : Int32) (u : va_W) => o1 = r ∧ wF ty ad o2 = u) (kz_B D ty (va_A (wF ty ad q) sz)) (va_A (wF ty ad q) sz)) 0 0 (va_A (wF ty ad q) sz) := by
  refine Met.ofW (cc := cX4_isSame) (maxL := 5) (ret := (some .boolean)) (by decide) rfl ?_
  intro p e s m args below meth c s₁ B hml hv
  obtain ⟨rfl, hsz, hP, hK, hD0, hN, hE⟩ := hv
  have hx := B.exec
  have hb := B.bytes
  have hr := B.returns
  have hts := atoms_spec (ws := wsX4_isSame) B.pre
  have hown : s.vm.findClass RX4 = some m.cls := findClass_of_methodNamed B.named
  have hlocks := B.notSynchronized
  subst hsz
  have hD := hD0.self (sz := s.heap.size)
  generalize hAe : va_A (wF ty ad q) s.heap.size = A at hD hE ⊢
  have hA : ∀ q : Nat, s.heap.size ≤ q → A q := fun q h => by rw [← hAe]; exact Or.inr h
  clear hAe
  have hS : va_S A s.heap s.heap [] := va_S.rf
  have hl := lv_entry ([.ref (ad 24), .ref (eo (1 + 0)), .int p2, .int p3]) (n := 5) (Nat.le_of_ble_eq_true rfl)
  rw [lg_entry_eq]
  generalize (lg_sl ([.ref (ad 24), .ref (eo (1 + 0)), .int p2, .int p3]) ++ List.replicate (5 - (lg_sl ([.ref (ad 24), .ref (eo (1 + 0)), .int p2, .int p3])).length) Slot.unset).toArray = ls at hl ⊢
  have hl : lv_has ls 5 [(0, .ref (ad 24)), (1, .ref (eo (1 + 0))), (2, .int p2), (3, .int p3)] := hl
  have C : dc_C p s m _ meth c cX4_isSame (some .boolean) 5 RX4 wsX4_isSame D ty eo A := ⟨hx, hb, hr, hts, hown, hlocks, hml, hK, hN, hE, hA⟩
  unfold zX4_isSame_s24_t0 at h
  refine lv_iload_n hx hb dX4_isSame_0 rfl (lv_at hl 3 rfl) ?_
  refine lv_iload_n hx hb dX4_isSame_1 rfl (lv_at hl 2 rfl) ?_
  refine lv_isub hx hb dX4_isSame_2 ?_
  refine lv_aload_n hx hb dX4_isSame_3 rfl (lv_at hl 0 rfl) ?_
  refine va_get (D := D) (ci := 4) (v := .int (q.1 24 6)) (C := RX4) (T := TX4) (N := 11) hx hb hts u9_wsX4_isSame_X4 hown hK hP 24 rfl rfl 6 (by decide) (hts (.fieldLink RX4 33 "TurnedFloors$Reader" "stop" "I") f9_wsX4_isSame_476) (fun _ h9 => h9) rfl dX4_isSame_4 ?_
  refine lv_aload_n hx hb dX4_isSame_7 rfl (lv_at hl 0 rfl) ?_
  refine va_get (D := D) (ci := 4) (v := .int (q.1 24 5)) (C := RX4) (T := TX4) (N := 11) hx hb hts u9_wsX4_isSame_X4 hown hK hP 24 rfl rfl 5 (by decide) (hts (.fieldLink RX4 30 "TurnedFloors$Reader" "start" "I") f9_wsX4_isSame_475) (fun _ h9 => h9) rfl dX4_isSame_8 ?_
  refine lv_isub hx hb dX4_isSame_11 ?_
  refine lv_icmp_eq (tgt := 17) hx hb dX4_isSame_12 (by decide) (fun c9 => ?_) (fun c9 => ?_)
  · rw [if_pos c9] at h
    refine lv_iload_n hx hb dX4_isSame_17 rfl (lv_at hl 2 rfl) ?_
    refine lv_istore (lv' := [(4, .int p2), (0, .ref (ad 24)), (1, .ref (eo (1 + 0))), (2, .int p2), (3, .int p3)]) hx hb dX4_isSame_18 hl (by decide) rfl (fun ls hl => ?_)
    exact WX4_isSame_s24_t0_20 C  _ _ _ _ _ _ _ _ h hP hD hS (lv_sub hl [1, 2, 3, 4, 0] rfl)
  · rw [if_neg c9] at h
    refine lv_iconst (v := 0) hx hb dX4_isSame_15 (by decide) ?_
    cases h
    exact kz_zret hx hb hr hlocks rfl hP hK hD hS dX4_isSame_16 ⟨rfl, rfl⟩

set_option maxHeartbeats 4000000 in
set_option maxRecDepth 100000 in
theorem WX4_wordIn_s24_t0_62 {p : Program} {l : Launch} {e : Env} {s : State} {m : MethodId} {args : Array Value} {below : List Frame} {meth : Method} {c : Code} {D : va_G} {ty : Nat → ClassId} {eo : Nat → Nat} {A : Nat → Prop} {ad : Nat → Nat} {o1 : Int32} {o2 : dK} (C : dc_C p s m args meth c cX4_wordIn (some .int) 5 RX4 wsX4_wordIn D ty eo A)   (q : dK)  (H : Heap) (locs : List Loc) (ls : Array Slot) (h : zX4_wordIn_s24_t0_62  q = some (o1, o2)) (hP : va_P D vwCl (wF ty ad q) H) (hD : va_D A (wF ty ad q)) (hS : va_S A s.heap H locs) (hl : lv_has ls 5 []) : W p l e ({ frames := 5, cells := 0, slots := 0, locals := 109 } : Room) s m args below meth c H locs 0 0 (MQ below (va_Qi (fun (r : Int32) (u : va_W) => o1 = r ∧ wF ty ad o2 = u) (kz_B D ty A) A) args s 0 0 A) (F0 m 62 ls []) := by
  have C0 := C
  obtain ⟨hx, hb, hr, hts, hown, hlocks, hml, hK, hN, hE, hA⟩ := C
  unfold zX4_wordIn_s24_t0_62 at h
  refine lv_iconst (v := (-1)) hx hb dX4_wordIn_62 (by decide) ?_
  cases h
  exact kz_iret hx hb hr hlocks hP hK hD hS dX4_wordIn_63 ⟨rfl, rfl⟩
set_option maxHeartbeats 4000000 in
set_option maxRecDepth 100000 in
theorem WX4_wordIn_s24_t0_56 {p : Program} {l : Launch} {e : Env} {s : State} {m : MethodId} {args : Array Value} {below : List Frame} {meth : Method} {c : Code} {D : va_G} {ty : Nat → ClassId} {eo : Nat → Nat} {A : Nat → Prop} {ad : Nat → Nat} {o1 : Int32} {o2 : dK} (C : dc_C p s m args meth c cX4_wordIn (some .int) 5 RX4 wsX4_wordIn D ty eo A) {k7 : dK → Int32 → Int32 → Int32 → Option (Int32 × dK)} (hk7 : ∀ (q : dK) (x2 : Int32) (x3 : Int32) (x4 : Int32) (H : Heap) (locs : List Loc) (ls : Array Slot), k7 q x2 x3 x4 = some (o1, o2) → va_P D vwCl (wF ty ad q) H → va_D A (wF ty ad q) → va_S A s.heap H locs → lv_has ls 5 [(0, .ref (ad 24)), (1, .ref (eo (1 + 0))), (2, .int x2), (3, .int x3), (4, .int x4)] → W p l e ({ frames := 5, cells := 0, slots := 0, locals := 109 } : Room) s m args below meth c H locs 0 0 (MQ below (va_Qi (fun (r : Int32) (u : va_W) => o1 = r ∧ wF ty ad o2 = u) (kz_B D ty A) A) args s 0 0 A) (F0 m 7 ls [])) (q : dK) (x2 : Int32) (x3 : Int32) (x4 : Int32) (H : Heap) (locs : List Loc) (ls : Array Slot) (h : zX4_wordIn_s24_t0_56 k7 q x2 x3 x4 = some (o1, o2)) (hP : va_P D vwCl (wF ty ad q) H) (hD : va_D A (wF ty ad q)) (hS : va_S A s.heap H locs) (hl : lv_has ls 5 [(0, .ref (ad 24)), (1, .ref (eo (1 + 0))), (2, .int x2), (3, .int x3), (4, .int x4)]) : W p l e ({ frames := 5, cells := 0, slots := 0, locals := 109 } : Room) s m args below meth c H locs 0 0 (MQ below (va_Qi (fun (r : Int32) (u : va_W) => o1 = r ∧ wF ty ad o2 = u) (kz_B D ty A) A) args s 0 0 A) (F0 m 56 ls []) := by
  have C0 := C
  obtain ⟨hx, hb, hr, hts, hown, hlocks, hml, hK, hN, hE, hA⟩ := C
  unfold zX4_wordIn_s24_t0_56 at h
  refine lv_iinc (v := x4 + 1) (lv' := [(4, .int (x4 + 1)), (0, .ref (ad 24)), (1, .ref (eo (1 + 0))), (2, .int x2), (3, .int x3)]) hx hb dX4_wordIn_56 hl (k := 4) rfl rfl (by decide) rfl (fun ls hl => ?_)
  refine lv_goto (tgt := 7) hx hb dX4_wordIn_59 (by decide) ?_
  exact hk7 _ _ _ _ _ _ _ h hP hD hS (lv_sub hl [1, 2, 3, 4, 0] rfl)
set_option maxHeartbeats 4000000 in
set_option maxRecDepth 100000 in
theorem WX4_wordIn_s24_t0_7b {p : Program} {l : Launch} {e : Env} {s : State} {m : MethodId} {args : Array Value} {below : List Frame} {meth : Method} {c : Code} {D : va_G} {ty : Nat → ClassId} {eo : Nat → Nat} {A : Nat → Prop} {ad : Nat → Nat} {o1 : Int32} {o2 : dK} (C : dc_C p s m args meth c cX4_wordIn (some .int) 5 RX4 wsX4_wordIn D ty eo A) {k7 : dK → Int32 → Int32 → Int32 → Option (Int32 × dK)} (hk7 : ∀ (q : dK) (x2 : Int32) (x3 : Int32) (x4 : Int32) (H : Heap) (locs : List Loc) (ls : Array Slot), k7 q x2 x3 x4 = some (o1, o2) → va_P D vwCl (wF ty ad q) H → va_D A (wF ty ad q) → va_S A s.heap H locs → lv_has ls 5 [(0, .ref (ad 24)), (1, .ref (eo (1 + 0))), (2, .int x2), (3, .int x3), (4, .int x4)] → W p l e ({ frames := 5, cells := 0, slots := 0, locals := 109 } : Room) s m args below meth c H locs 0 0 (MQ below (va_Qi (fun (r : Int32) (u : va_W) => o1 = r ∧ wF ty ad o2 = u) (kz_B D ty A) A) args s 0 0 A) (F0 m 7 ls [])) (q : dK) (x2 : Int32) (x3 : Int32) (x4 : Int32) (H : Heap) (locs : List Loc) (ls : Array Slot) (h : zX4_wordIn_s24_t0_7b k7 q x2 x3 x4 = some (o1, o2)) (hP : va_P D vwCl (wF ty ad q) H) (hD : va_D A (wF ty ad q)) (hS : va_S A s.heap H locs) (hl : lv_has ls 5 [(0, .ref (ad 24)), (1, .ref (eo (1 + 0))), (2, .int x2), (3, .int x3), (4, .int x4)]) : W p l e ({ frames := 5, cells := 0, slots := 0, locals := 109 } : Room) s m args below meth c H locs 0 0 (MQ below (va_Qi (fun (r : Int32) (u : va_W) => o1 = r ∧ wF ty ad o2 = u) (kz_B D ty A) A) args s 0 0 A) (F0 m 7 ls []) := by
  have C0 := C
  obtain ⟨hx, hb, hr, hts, hown, hlocks, hml, hK, hN, hE, hA⟩ := C
  unfold zX4_wordIn_s24_t0_7b at h
  refine lv_iload hx hb dX4_wordIn_7 (lv_at hl 4 rfl) ?_
  refine lv_aload_n hx hb dX4_wordIn_9 rfl (lv_at hl 1 rfl) ?_
  refine dw_ks (va_runV (As := []) (rest := [.int x4]) ⟨hx, hb, hml, hown, hts⟩ (kcJ0le l D ty eo _ 0 (by decide)) (cwV 0 hts gX4_wordIn_J0_length_8abf5 rfl rfl rfl (by decide +kernel) ⟨Nat.le_of_ble_eq_true rfl, Nat.le_of_ble_eq_true rfl⟩) (kz_preT hK hN hE hP hD hS hA 0 (by decide) [] (by decide) rfl) rfl rfl hl.1 rfl (lv_room (Nat.le_of_ble_eq_true rfl)) dX4_wordIn_10 ⟨Nat.le_of_ble_eq_true rfl, Nat.le_of_ble_eq_true rfl⟩) hP hD hS hA (fun _ _ h9 => h9.2.symm) (fun r9 u9 H locs hw hp hd hs => ?_)
  obtain ⟨rfl, -⟩ := hw
  clear hP hD hS
  have hP := hp; have hD := hd; have hS := hs; clear hp hd hs
  refine kz_topi 21 (by decide +kernel) ?_
  refine lv_icmp_ge (tgt := 62) hx hb dX4_wordIn_13 (by decide) (fun c9 => ?_) (fun c9 => ?_)
  · rw [if_pos c9] at h
    exact WX4_wordIn_s24_t0_62 C0  _ _ _ _ h hP hD hS (lv_sub hl [] rfl)
  · rw [if_neg c9] at h
    refine lv_aload_n hx hb dX4_wordIn_16 rfl (lv_at hl 0 rfl) ?_
    refine va_get (D := D) (ci := 4) (v := .int (q.1 24 4)) (C := RX4) (T := TX4) (N := 11) hx hb hts u9_wsX4_wordIn_X4 hown hK hP 24 rfl rfl 4 (by decide) (hts (.fieldLink RX4 27 "TurnedFloors$Reader" "token" "I") f9_wsX4_wordIn_478) (fun _ h9 => h9) rfl dX4_wordIn_17 ?_
    refine lv_iconst (v := 1) hx hb dX4_wordIn_20 (by decide) ?_
    refine lv_icmp_ne (tgt := 62) hx hb dX4_wordIn_21 (by decide) (fun c9 => ?_) (fun c9 => ?_)
    · rw [if_neg c9] at h
      exact WX4_wordIn_s24_t0_62 C0  _ _ _ _ h hP hD hS (lv_sub hl [] rfl)
    · rw [if_pos c9] at h
      refine lv_aload_n hx hb dX4_wordIn_24 rfl (lv_at hl 1 rfl) ?_
      refine lv_iload hx hb dX4_wordIn_25 (lv_at hl 4 rfl) ?_
      obtain ⟨g1, h⟩ := dG_some h
      refine dw_ks (va_runV (As := [.int x4]) (rest := []) ⟨hx, hb, hml, hown, hts⟩ (kcJ0ch l D ty eo _ 0 (by decide) x4 (dg_in g1)) (cwV 1 hts gX4_wordIn_J0_charAt_5068e rfl rfl rfl (by decide +kernel) ⟨Nat.le_of_ble_eq_true rfl, Nat.le_of_ble_eq_true rfl⟩) (kz_preT hK hN hE hP hD hS hA 0 (by decide) [] (by decide) rfl) rfl rfl hl.1 rfl (lv_room (Nat.le_of_ble_eq_true rfl)) dX4_wordIn_27 ⟨Nat.le_of_ble_eq_true rfl, Nat.le_of_ble_eq_true rfl⟩) hP hD hS hA (fun _ _ h9 => h9.2.symm) (fun r9 u9 H locs hw hp hd hs => ?_)
      obtain ⟨rfl, -⟩ := hw
      clear hP hD hS
      have hP := hp; have hD := hd; have hS := hs; clear hp hd hs
      obtain ⟨v2, ev2, h⟩ := dL_some h
      refine kz_topi v2 ev2 ?_
      refine lv_bipush (v := 32) hx hb dX4_wordIn_30 (by decide) ?_
      refine lv_icmp_ne (tgt := 56) hx hb dX4_wordIn_32 (by decide) (fun c9 => ?_) (fun c9 => ?_)
      · rw [if_neg c9] at h
        exact WX4_wordIn_s24_t0_56 C0 hk7 _ _ _ _ _ _ _ h hP hD hS (lv_sub hl [0, 1, 2, 3, 4] rfl)
      · rw [if_pos c9] at h
        refine lv_aload_n hx hb dX4_wordIn_35 rfl (lv_at hl 0 rfl) ?_
        refine lv_aload_n hx hb dX4_wordIn_36 rfl (lv_at hl 1 rfl) ?_
        refine lv_iload_n hx hb dX4_wordIn_37 rfl (lv_at hl 3 rfl) ?_
        refine lv_iload hx hb dX4_wordIn_38 (lv_at hl 4 rfl) ?_
        obtain ⟨r3, q5, h4, h⟩ := dB_some h
        refine dw_ki (va_runV (As := [.ref (eo (1 + 0)), .int x3, .int x4]) (rest := []) ⟨hx, hb, hml, hown, hts⟩ (qX4_isSame_s24_t0 l D ty eo _ ad q x3 x4 r3 q5 h4) (cwV 3 hts gX4_wordIn_X4_isSame rfl rfl rfl (by decide +kernel) ⟨Nat.le_of_ble_eq_true rfl, Nat.le_of_ble_eq_true rfl⟩) (dw_preV (ci := 4) (q0 := 24) hK hN hE hP hD hS hA rfl rfl) rfl rfl hl.1 rfl (lv_room (Nat.le_of_ble_eq_true rfl)) dX4_wordIn_40 ⟨Nat.le_of_ble_eq_true rfl, Nat.le_of_ble_eq_true rfl⟩) hD hS hA (fun r9 u9 H locs hw hp hd hs => ?_)
        clear hP hD hS
        obtain ⟨rfl, rfl⟩ := hw
        have hP := hp; have hD := hd; have hS := hs; clear hp hd hs
        refine lv_if_eq (tgt := 48) hx hb dX4_wordIn_43 (by decide) (fun c9 => ?_) (fun c9 => ?_)
        · rw [if_pos c9] at h
          refine lv_iinc (v := x2 + 1) (lv' := [(2, .int (x2 + 1)), (0, .ref (ad 24)), (1, .ref (eo (1 + 0))), (3, .int x3), (4, .int x4)]) hx hb dX4_wordIn_48 hl (k := 2) rfl rfl (by decide) rfl (fun ls hl => ?_)
          refine lv_iload hx hb dX4_wordIn_51 (lv_at hl 4 rfl) ?_
          refine lv_iconst (v := 1) hx hb dX4_wordIn_53 (by decide) ?_
          refine lv_iadd hx hb dX4_wordIn_54 ?_
          refine lv_istore_n (lv' := [(3, .int (x4 + 1 : Int32)), (2, .int (x2 + 1)), (0, .ref (ad 24)), (1, .ref (eo (1 + 0))), (4, .int x4)]) hx hb dX4_wordIn_55 rfl hl (by decide) rfl (fun ls hl => ?_)
          exact WX4_wordIn_s24_t0_56 C0 hk7 _ _ _ _ _ _ _ h hP hD hS (lv_sub hl [2, 3, 1, 0, 4] rfl)
        · rw [if_neg c9] at h
          refine lv_iload_n hx hb dX4_wordIn_46 rfl (lv_at hl 2 rfl) ?_
          cases h
          exact kz_iret hx hb hr hlocks hP hK hD hS dX4_wordIn_47 ⟨rfl, rfl⟩
set_option maxHeartbeats 4000000 in
set_option maxRecDepth 100000 in
theorem WX4_wordIn_s24_t0_7 {p : Program} {l : Launch} {e : Env} {s : State} {m : MethodId} {args : Array Value} {below : List Frame} {meth : Method} {c : Code} {D : va_G} {ty : Nat → ClassId} {eo : Nat → Nat} {A : Nat → Prop} {ad : Nat → Nat} {o1 : Int32} {o2 : dK} (C : dc_C p s m args meth c cX4_wordIn (some .int) 5 RX4 wsX4_wordIn D ty eo A)   (n : Nat) (q : dK) (x2 : Int32) (x3 : Int32) (x4 : Int32) (H : Heap) (locs : List Loc) (ls : Array Slot) (h : zX4_wordIn_s24_t0_7  n q x2 x3 x4 = some (o1, o2)) (hP : va_P D vwCl (wF ty ad q) H) (hD : va_D A (wF ty ad q)) (hS : va_S A s.heap H locs) (hl : lv_has ls 5 [(0, .ref (ad 24)), (1, .ref (eo (1 + 0))), (2, .int x2), (3, .int x3), (4, .int x4)]) : W p l e ({ frames := 5, cells := 0, slots := 0, locals := 109 } : Room) s m args below meth c H locs 0 0 (MQ below (va_Qi (fun (r : Int32) (u : va_W) => o1 = r ∧ wF ty ad o2 = u) (kz_B D ty A) A) args s 0 0 A) (F0 m 7 ls []) := by
  exact dFix_W (F := fun k (a : dK × Int32 × Int32 × Int32) => zX4_wordIn_s24_t0_7b  (fun q x2 x3 x4 => k (q, x2, x3, x4)) a.1 a.2.1 a.2.2.1 a.2.2.2) (o := (o1, o2)) (P := fun (a : dK × Int32 × Int32 × Int32) H locs ls => va_P D vwCl (wF ty ad a.1) H ∧ va_D A (wF ty ad a.1) ∧ va_S A s.heap H locs ∧ lv_has ls 5 [(0, .ref (ad 24)), (1, .ref (eo (1 + 0))), (2, .int a.2.1), (3, .int a.2.2.1), (4, .int a.2.2.2)]) (G := fun H locs ls => W p l e ({ frames := 5, cells := 0, slots := 0, locals := 109 } : Room) s m args below meth c H locs 0 0 (MQ below (va_Qi (fun (r : Int32) (u : va_W) => o1 = r ∧ wF ty ad o2 = u) (kz_B D ty A) A) args s 0 0 A) (F0 m 7 ls []))
    (fun k hk a H locs ls h hp => WX4_wordIn_s24_t0_7b C  (fun q x2 x3 x4 H locs ls h h1 h2 h3 h4 => hk (q, x2, x3, x4) H locs ls h ⟨h1, h2, h3, h4⟩) a.1 a.2.1 a.2.2.1 a.2.2.2 H locs ls h hp.1 hp.2.1 hp.2.2.1 hp.2.2.2) n (q, x2, x3, x4) H locs ls h ⟨hP, hD, hS, hl⟩
set_option maxHeartbeats 4000000 in
set_option maxRecDepth 100000 in
theorem qX4_wordIn_s24_t0 (l : Launch) (D : va_G) (ty : Nat → ClassId) (eo : Nat → Nat) (sz : Nat) (ad : Nat → Nat) (q : dK)  (o1 : Int32) (o2 : dK) (h : zX4_wordIn_s24_t0 q = some (o1, o2)) : Met l yX4_wordIn wsX4_wordIn ({ frames := 5, cells := 0, slots := 0, locals := 109 } : Room) (va_Pc [.ref (ad 24), .ref (eo (1 + 0))] (kz_pre D ty eo (wF ty ad q) sz)) (va_Qi (fun (r : Int32) (u : va_W) => o1 = r ∧ wF ty ad o2 = u) (kz_B D ty (va_A (wF ty ad q) sz)) (va_A (wF ty ad q) sz)) 0 0 (va_A (wF ty ad q) sz) := by
  refine Met.ofW (cc := cX4_wordIn) (maxL := 5) (ret := (some .int)) (by decide) rfl ?_
  intro p e s m args below meth c s₁ B hml hv
  obtain ⟨rfl, hsz, hP, hK, hD0, hN, hE⟩ := hv
  have hx := B.exec
  have hb := B.bytes
  have hr := B.returns
  have hts := atoms_spec (ws := wsX4_wordIn) B.pre
  have hown : s.vm.findClass RX4 = some m.cls := findClass_of_methodNamed B.named
  have hlocks := B.notSynchronized
  subst hsz
  have hD := hD0.self (sz := s.heap.size)
  generalize hAe : va_A (wF ty ad q) s.heap.size = A at hD hE ⊢
  have hA : ∀ q : Nat, s.heap.size ≤ q → A q := fun q h => by rw [← hAe]; exact Or.inr h
  clear hAe
  have hS : va_S A s.heap s.heap [] := va_S.rf
  have hl := lv_entry ([.ref (ad 24), .ref (eo (1 + 0))]) (n := 5) (Nat.le_of_ble_eq_true rfl)
  rw [lg_entry_eq]
  generalize (lg_sl ([.ref (ad 24), .ref (eo (1 + 0))]) ++ List.replicate (5 - (lg_sl ([.ref (ad 24), .ref (eo (1 + 0))])).length) Slot.unset).toArray = ls at hl ⊢
  have hl : lv_has ls 5 [(0, .ref (ad 24)), (1, .ref (eo (1 + 0)))] := hl
  have C : dc_C p s m _ meth c cX4_wordIn (some .int) 5 RX4 wsX4_wordIn D ty eo A := ⟨hx, hb, hr, hts, hown, hlocks, hml, hK, hN, hE, hA⟩
  unfold zX4_wordIn_s24_t0 at h
  refine lv_iconst (v := 0) hx hb dX4_wordIn_0 (by decide) ?_
  refine lv_istore_n (lv' := [(2, .int 0), (0, .ref (ad 24)), (1, .ref (eo (1 + 0)))]) hx hb dX4_wordIn_1 rfl hl (by decide) rfl (fun ls hl => ?_)
  refine lv_iconst (v := 0) hx hb dX4_wordIn_2 (by decide) ?_
  refine lv_istore_n (lv' := [(3, .int 0), (2, .int 0), (0, .ref (ad 24)), (1, .ref (eo (1 + 0)))]) hx hb dX4_wordIn_3 rfl hl (by decide) rfl (fun ls hl => ?_)
  refine lv_iconst (v := 0) hx hb dX4_wordIn_4 (by decide) ?_
  refine lv_istore (lv' := [(4, .int 0), (3, .int 0), (2, .int 0), (0, .ref (ad 24)), (1, .ref (eo (1 + 0)))]) hx hb dX4_wordIn_5 hl (by decide) rfl (fun ls hl => ?_)
  exact WX4_wordIn_s24_t0_7 C  _ _ _ _ _ _ _ _ h hP hD hS (lv_sub hl [3, 4, 2, 1, 0] rfl)

set_option maxHeartbeats 4000000 in
set_option maxRecDepth 100000 in
theorem WX7_beginClause_s25_81 {p : Program} {l : Launch} {e : Env} {s : State} {m : MethodId} {args : Array Value} {below : List Frame} {meth : Method} {c : Code} {D : va_G} {ty : Nat → ClassId} {eo : Nat → Nat} {A : Nat → Prop} {ad : Nat → Nat} {o2 : dK} (C : dc_C p s m args meth c cX7_beginClause none 2 RX7 wsX7_beginClause D ty eo A)   (q : dK)  (H : Heap) (locs : List Loc) (ls : Array Slot) (h : zX7_beginClause_s25_81  q = some o2) (hP : va_P D vwCl (wF ty ad q) H) (hD : va_D A (wF ty ad q)) (hS : va_S A s.heap H locs) (hl : lv_has ls 2 []) : W p l e ({ frames := 0, cells := 0, slots := 0, locals := 0 } : Room) s m args below meth c H locs 0 0 (MQ below (va_Qv (fun (u : va_W) => wF ty ad o2 = u) (kz_B D ty A) A) args s 0 0 A) (F0 m 81 ls []) := by
  have C0 := C
  obtain ⟨hx, hb, hr, hts, hown, hlocks, hml, hK, hN, hE, hA⟩ := C
  unfold zX7_beginClause_s25_81 at h
  cases h
  exact kz_vret hx hb hr hlocks hP hK hD hS dX7_beginClause_81 rfl
set_option maxHeartbeats 4000000 in
set_option maxRecDepth 100000 in
theorem qX7_beginClause_s25 (l : Launch) (D : va_G) (ty : Nat → ClassId) (eo : Nat → Nat) (sz : Nat) (ad : Nat → Nat) (q : dK) (p1 : Int32) (o2 : dK) (h : zX7_beginClause_s25 q p1 = some o2) : Met l yX7_beginClause wsX7_beginClause ({ frames := 0, cells := 0, slots := 0, locals := 0 } : Room) (va_Pc [.ref (ad 25), .int p1] (kz_pre D ty eo (wF ty ad q) sz)) (va_Qv (fun (u : va_W) => wF ty ad o2 = u) (kz_B D ty (va_A (wF ty ad q) sz)) (va_A (wF ty ad q) sz)) 0 0 (va_A (wF ty ad q) sz) := by
  refine Met.ofW (cc := cX7_beginClause) (maxL := 2) (ret := none) (by decide) rfl ?_
  intro p e s m args below meth c s₁ B hml hv
  obtain ⟨rfl, hsz, hP, hK, hD0, hN, hE⟩ := hv
  have hx := B.exec
  have hb := B.bytes
  have hr := B.returns
  have hts := atoms_spec (ws := wsX7_beginClause) B.pre
  have hown : s.vm.findClass RX7 = some m.cls := findClass_of_methodNamed B.named
  have hlocks := B.notSynchronized
  subst hsz
  have hD := hD0.self (sz := s.heap.size)
  generalize hAe : va_A (wF ty ad q) s.heap.size = A at hD hE ⊢
  have hA : ∀ q : Nat, s.heap.size ≤ q → A q := fun q h => by rw [← hAe]; exact Or.inr h
  clear hAe
  have hS : va_S A s.heap s.heap [] := va_S.rf
  have hl := lv_entry ([.ref (ad 25), .int p1]) (n := 2) (Nat.le_of_ble_eq_true rfl)
  rw [lg_entry_eq]
  generalize (lg_sl ([.ref (ad 25), .int p1]) ++ List.replicate (2 - (lg_sl ([.ref (ad 25), .int p1])).length) Slot.unset).toArray = ls at hl ⊢
  have hl : lv_has ls 2 [(0, .ref (ad 25)), (1, .int p1)] := hl
  have C : dc_C p s m _ meth c cX7_beginClause none 2 RX7 wsX7_beginClause D ty eo A := ⟨hx, hb, hr, hts, hown, hlocks, hml, hK, hN, hE, hA⟩
  unfold zX7_beginClause_s25 at h
  refine lv_aload_n hx hb dX7_beginClause_0 rfl (lv_at hl 0 rfl) ?_
  refine va_get (D := D) (ci := 7) (v := .int (q.1 25 6)) (C := RX7) (T := TX7) (N := 8) hx hb hts u9_wsX7_beginClause_X7 hown hK hP 25 rfl rfl 6 (by decide) (hts (.fieldLink RX7 7 "TurnedFloors$Text" "clauses" "I") f9_wsX7_beginClause_480) (fun _ h9 => h9) rfl dX7_beginClause_1 ?_
  refine lv_aload_n hx hb dX7_beginClause_4 rfl (lv_at hl 0 rfl) ?_
  refine va_get (D := D) (ci := 7) (v := .ref (ad 26)) (C := RX7) (T := TX7) (N := 8) hx hb hts u9_wsX7_beginClause_X7 hown hK hP 25 rfl rfl 0 (by decide) (hts (.fieldLink RX7 16 "TurnedFloors$Text" "kind" "[I") f9_wsX7_beginClause_481) (fun _ h9 => h9) rfl dX7_beginClause_5 ?_
  refine va_alen (v := 12) hx hb hK hP 26 0 rfl rfl rfl dX7_beginClause_8 ?_
  refine lv_icmp_ge (tgt := 81) hx hb dX7_beginClause_9 (by decide) (fun c9 => ?_) (fun c9 => ?_)
  · rw [if_pos c9] at h
    exact WX7_beginClause_s25_81 C  _ _ _ _ h hP hD hS (lv_sub hl [] rfl)
  · rw [if_neg c9] at h
    refine lv_aload_n hx hb dX7_beginClause_12 rfl (lv_at hl 0 rfl) ?_
    refine va_get (D := D) (ci := 7) (v := .ref (ad 26)) (C := RX7) (T := TX7) (N := 8) hx hb hts u9_wsX7_beginClause_X7 hown hK hP 25 rfl rfl 0 (by decide) (hts (.fieldLink RX7 16 "TurnedFloors$Text" "kind" "[I") f9_wsX7_beginClause_481) (fun _ h9 => h9) rfl dX7_beginClause_13 ?_
    refine lv_aload_n hx hb dX7_beginClause_16 rfl (lv_at hl 0 rfl) ?_
    refine va_get (D := D) (ci := 7) (v := .int (q.1 25 6)) (C := RX7) (T := TX7) (N := 8) hx hb hts u9_wsX7_beginClause_X7 hown hK hP 25 rfl rfl 6 (by decide) (hts (.fieldLink RX7 7 "TurnedFloors$Text" "clauses" "I") f9_wsX7_beginClause_480) (fun _ h9 => h9) rfl dX7_beginClause_17 ?_
    refine lv_iload_n hx hb dX7_beginClause_20 rfl (lv_at hl 1 rfl) ?_
    obtain ⟨g1, h⟩ := dG_some h
    refine va_iast hx hb hK hP hD hS 26 0 rfl rfl (dg_in g1) dX7_beginClause_21 (fun H locs hp hd hs => ?_)
    obtain ⟨q2, eq2, h⟩ := dL_some h
    refine kz_re (w2 := wF ty ad q2) hp hd hs (by rw [← eq2]; exact wF_a26 ty ad q (Int32.toNatClampNeg (q.1 25 6)) p1) ?_
    clear hp hd hs hP hD hS
    intro hP hD hS
    refine lv_aload_n hx hb dX7_beginClause_22 rfl (lv_at hl 0 rfl) ?_
    refine va_get (D := D) (ci := 7) (v := .ref (ad 27)) (C := RX7) (T := TX7) (N := 8) hx hb hts u9_wsX7_beginClause_X7 hown hK hP 25 rfl rfl 1 (by decide) (hts (.fieldLink RX7 20 "TurnedFloors$Text" "times" "[I") f9_wsX7_beginClause_482) (fun _ h9 => h9) rfl dX7_beginClause_23 ?_
    refine lv_aload_n hx hb dX7_beginClause_26 rfl (lv_at hl 0 rfl) ?_
    refine va_get (D := D) (ci := 7) (v := .int (q2.1 25 6)) (C := RX7) (T := TX7) (N := 8) hx hb hts u9_wsX7_beginClause_X7 hown hK hP 25 rfl rfl 6 (by decide) (hts (.fieldLink RX7 7 "TurnedFloors$Text" "clauses" "I") f9_wsX7_beginClause_480) (fun _ h9 => h9) rfl dX7_beginClause_27 ?_
    refine lv_iconst (v := 1) hx hb dX7_beginClause_30 (by decide) ?_
    obtain ⟨g3, h⟩ := dG_some h
    refine va_iast hx hb hK hP hD hS 27 0 rfl rfl (dg_in g3) dX7_beginClause_31 (fun H locs hp hd hs => ?_)
    obtain ⟨q4, eq4, h⟩ := dL_some h
    refine kz_re (w2 := wF ty ad q4) hp hd hs (by rw [← eq4]; exact wF_a27 ty ad q2 (Int32.toNatClampNeg (q2.1 25 6)) 1) ?_
    clear hp hd hs hP hD hS
    intro hP hD hS
    refine lv_aload_n hx hb dX7_beginClause_32 rfl (lv_at hl 0 rfl) ?_
    refine va_get (D := D) (ci := 7) (v := .ref (ad 28)) (C := RX7) (T := TX7) (N := 8) hx hb hts u9_wsX7_beginClause_X7 hown hK hP 25 rfl rfl 2 (by decide) (hts (.fieldLink RX7 23 "TurnedFloors$Text" "sumFrom" "[I") f9_wsX7_beginClause_483) (fun _ h9 => h9) rfl dX7_beginClause_33 ?_
    refine lv_aload_n hx hb dX7_beginClause_36 rfl (lv_at hl 0 rfl) ?_
    refine va_get (D := D) (ci := 7) (v := .int (q4.1 25 6)) (C := RX7) (T := TX7) (N := 8) hx hb hts u9_wsX7_beginClause_X7 hown hK hP 25 rfl rfl 6 (by decide) (hts (.fieldLink RX7 7 "TurnedFloors$Text" "clauses" "I") f9_wsX7_beginClause_480) (fun _ h9 => h9) rfl dX7_beginClause_37 ?_
    refine lv_aload_n hx hb dX7_beginClause_40 rfl (lv_at hl 0 rfl) ?_
    refine va_get (D := D) (ci := 7) (v := .int (q4.1 25 7)) (C := RX7) (T := TX7) (N := 8) hx hb hts u9_wsX7_beginClause_X7 hown hK hP 25 rfl rfl 7 (by decide) (hts (.fieldLink RX7 13 "TurnedFloors$Text" "length" "I") f9_wsX7_beginClause_484) (fun _ h9 => h9) rfl dX7_beginClause_41 ?_
    obtain ⟨g5, h⟩ := dG_some h
    refine va_iast hx hb hK hP hD hS 28 0 rfl rfl (dg_in g5) dX7_beginClause_44 (fun H locs hp hd hs => ?_)
    obtain ⟨q6, eq6, h⟩ := dL_some h
    refine kz_re (w2 := wF ty ad q6) hp hd hs (by rw [← eq6]; exact wF_a28 ty ad q4 (Int32.toNatClampNeg (q4.1 25 6)) (q4.1 25 7)) ?_
    clear hp hd hs hP hD hS
    intro hP hD hS
    refine lv_aload_n hx hb dX7_beginClause_45 rfl (lv_at hl 0 rfl) ?_
    refine va_get (D := D) (ci := 7) (v := .ref (ad 29)) (C := RX7) (T := TX7) (N := 8) hx hb hts u9_wsX7_beginClause_X7 hown hK hP 25 rfl rfl 3 (by decide) (hts (.fieldLink RX7 26 "TurnedFloors$Text" "testFrom" "[I") f9_wsX7_beginClause_485) (fun _ h9 => h9) rfl dX7_beginClause_46 ?_
    refine lv_aload_n hx hb dX7_beginClause_49 rfl (lv_at hl 0 rfl) ?_
    refine va_get (D := D) (ci := 7) (v := .int (q6.1 25 6)) (C := RX7) (T := TX7) (N := 8) hx hb hts u9_wsX7_beginClause_X7 hown hK hP 25 rfl rfl 6 (by decide) (hts (.fieldLink RX7 7 "TurnedFloors$Text" "clauses" "I") f9_wsX7_beginClause_480) (fun _ h9 => h9) rfl dX7_beginClause_50 ?_
    refine lv_aload_n hx hb dX7_beginClause_53 rfl (lv_at hl 0 rfl) ?_
    refine va_get (D := D) (ci := 7) (v := .int (q6.1 25 7)) (C := RX7) (T := TX7) (N := 8) hx hb hts u9_wsX7_beginClause_X7 hown hK hP 25 rfl rfl 7 (by decide) (hts (.fieldLink RX7 13 "TurnedFloors$Text" "length" "I") f9_wsX7_beginClause_484) (fun _ h9 => h9) rfl dX7_beginClause_54 ?_
    obtain ⟨g7, h⟩ := dG_some h
    refine va_iast hx hb hK hP hD hS 29 0 rfl rfl (dg_in g7) dX7_beginClause_57 (fun H locs hp hd hs => ?_)
    obtain ⟨q8, eq8, h⟩ := dL_some h
    refine kz_re (w2 := wF ty ad q8) hp hd hs (by rw [← eq8]; exact wF_a29 ty ad q6 (Int32.toNatClampNeg (q6.1 25 6)) (q6.1 25 7)) ?_
    clear hp hd hs hP hD hS
    intro hP hD hS
    refine lv_aload_n hx hb dX7_beginClause_58 rfl (lv_at hl 0 rfl) ?_
    refine va_get (D := D) (ci := 7) (v := .ref (ad 30)) (C := RX7) (T := TX7) (N := 8) hx hb hts u9_wsX7_beginClause_X7 hown hK hP 25 rfl rfl 4 (by decide) (hts (.fieldLink RX7 29 "TurnedFloors$Text" "testTo" "[I") f9_wsX7_beginClause_486) (fun _ h9 => h9) rfl dX7_beginClause_59 ?_
    refine lv_aload_n hx hb dX7_beginClause_62 rfl (lv_at hl 0 rfl) ?_
    refine va_get (D := D) (ci := 7) (v := .int (q8.1 25 6)) (C := RX7) (T := TX7) (N := 8) hx hb hts u9_wsX7_beginClause_X7 hown hK hP 25 rfl rfl 6 (by decide) (hts (.fieldLink RX7 7 "TurnedFloors$Text" "clauses" "I") f9_wsX7_beginClause_480) (fun _ h9 => h9) rfl dX7_beginClause_63 ?_
    refine lv_aload_n hx hb dX7_beginClause_66 rfl (lv_at hl 0 rfl) ?_
    refine va_get (D := D) (ci := 7) (v := .int (q8.1 25 7)) (C := RX7) (T := TX7) (N := 8) hx hb hts u9_wsX7_beginClause_X7 hown hK hP 25 rfl rfl 7 (by decide) (hts (.fieldLink RX7 13 "TurnedFloors$Text" "length" "I") f9_wsX7_beginClause_484) (fun _ h9 => h9) rfl dX7_beginClause_67 ?_
    obtain ⟨g9, h⟩ := dG_some h
    refine va_iast hx hb hK hP hD hS 30 0 rfl rfl (dg_in g9) dX7_beginClause_70 (fun H locs hp hd hs => ?_)
    obtain ⟨q10, eq10, h⟩ := dL_some h
    refine kz_re (w2 := wF ty ad q10) hp hd hs (by rw [← eq10]; exact wF_a30 ty ad q8 (Int32.toNatClampNeg (q8.1 25 6)) (q8.1 25 7)) ?_
    clear hp hd hs hP hD hS
    intro hP hD hS
    refine lv_aload_n hx hb dX7_beginClause_71 rfl (lv_at hl 0 rfl) ?_
    refine lv_dup hx hb dX7_beginClause_72 rfl ?_
    refine va_get (D := D) (ci := 7) (v := .int (q10.1 25 6)) (C := RX7) (T := TX7) (N := 8) hx hb hts u9_wsX7_beginClause_X7 hown hK hP 25 rfl rfl 6 (by decide) (hts (.fieldLink RX7 7 "TurnedFloors$Text" "clauses" "I") f9_wsX7_beginClause_480) (fun _ h9 => h9) rfl dX7_beginClause_73 ?_
    refine lv_iconst (v := 1) hx hb dX7_beginClause_76 (by decide) ?_
    refine lv_iadd hx hb dX7_beginClause_77 ?_
    refine va_put (D := D) (ci := 7) (v := .int ((q10.1 25 6) + 1 : Int32)) (ty := .int) (C := RX7) (T := TX7) (N := 8) hx hb hts u9_wsX7_beginClause_X7 tyX7 tyX7_ok nmX7 hown hK hP hD hS 25 rfl rfl 6 (by decide) (hts (.fieldLink RX7 7 "TurnedFloors$Text" "clauses" "I") f9_wsX7_beginClause_480) (fun _ h9 => h9) rfl (by decide +kernel) rfl rfl (Nat.le_of_ble_eq_true rfl) dX7_beginClause_78 (fun H locs hp hd hs => ?_)
    obtain ⟨q11, eq11, h⟩ := dL_some h
    refine kz_re (w2 := wF ty ad q11) hp hd hs (by rw [← eq11]; exact wF_f25_6 ty ad q10 ((q10.1 25 6) + 1 : Int32)) ?_
    clear hp hd hs hP hD hS
    intro hP hD hS
    exact WX7_beginClause_s25_81 C  _ _ _ _ h hP hD hS (lv_sub hl [] rfl)

set_option maxHeartbeats 4000000 in
set_option maxRecDepth 100000 in
theorem WX4_fail_s24_16 {p : Program} {l : Launch} {e : Env} {s : State} {m : MethodId} {args : Array Value} {below : List Frame} {meth : Method} {c : Code} {D : va_G} {ty : Nat → ClassId} {eo : Nat → Nat} {A : Nat → Prop} {ad : Nat → Nat} {o2 : dK} (C : dc_C p s m args meth c cX4_fail none 1 RX4 wsX4_fail D ty eo A)   (q : dK)  (H : Heap) (locs : List Loc) (ls : Array Slot) (h : zX4_fail_s24_16  q = some o2) (hP : va_P D vwCl (wF ty ad q) H) (hD : va_D A (wF ty ad q)) (hS : va_S A s.heap H locs) (hl : lv_has ls 1 []) : W p l e ({ frames := 0, cells := 0, slots := 0, locals := 0 } : Room) s m args below meth c H locs 0 0 (MQ below (va_Qv (fun (u : va_W) => wF ty ad o2 = u) (kz_B D ty A) A) args s 0 0 A) (F0 m 16 ls []) := by
  have C0 := C
  obtain ⟨hx, hb, hr, hts, hown, hlocks, hml, hK, hN, hE, hA⟩ := C
  unfold zX4_fail_s24_16 at h
  cases h
  exact kz_vret hx hb hr hlocks hP hK hD hS dX4_fail_16 rfl
set_option maxHeartbeats 4000000 in
set_option maxRecDepth 100000 in
theorem qX4_fail_s24 (l : Launch) (D : va_G) (ty : Nat → ClassId) (eo : Nat → Nat) (sz : Nat) (ad : Nat → Nat) (q : dK)  (o2 : dK) (h : zX4_fail_s24 q = some o2) : Met l yX4_fail wsX4_fail ({ frames := 0, cells := 0, slots := 0, locals := 0 } : Room) (va_Pc [.ref (ad 24)] (kz_pre D ty eo (wF ty ad q) sz)) (va_Qv (fun (u : va_W) => wF ty ad o2 = u) (kz_B D ty (va_A (wF ty ad q) sz)) (va_A (wF ty ad q) sz)) 0 0 (va_A (wF ty ad q) sz) := by
  refine Met.ofW (cc := cX4_fail) (maxL := 1) (ret := none) (by decide) rfl ?_
  intro p e s m args below meth c s₁ B hml hv
  obtain ⟨rfl, hsz, hP, hK, hD0, hN, hE⟩ := hv
  have hx := B.exec
  have hb := B.bytes
  have hr := B.returns
  have hts := atoms_spec (ws := wsX4_fail) B.pre
  have hown : s.vm.findClass RX4 = some m.cls := findClass_of_methodNamed B.named
  have hlocks := B.notSynchronized
  subst hsz
  have hD := hD0.self (sz := s.heap.size)
  generalize hAe : va_A (wF ty ad q) s.heap.size = A at hD hE ⊢
  have hA : ∀ q : Nat, s.heap.size ≤ q → A q := fun q h => by rw [← hAe]; exact Or.inr h
  clear hAe
  have hS : va_S A s.heap s.heap [] := va_S.rf
  have hl := lv_entry ([.ref (ad 24)]) (n := 1) (Nat.le_of_ble_eq_true rfl)
  rw [lg_entry_eq]
  generalize (lg_sl ([.ref (ad 24)]) ++ List.replicate (1 - (lg_sl ([.ref (ad 24)])).length) Slot.unset).toArray = ls at hl ⊢
  have hl : lv_has ls 1 [(0, .ref (ad 24))] := hl
  have C : dc_C p s m _ meth c cX4_fail none 1 RX4 wsX4_fail D ty eo A := ⟨hx, hb, hr, hts, hown, hlocks, hml, hK, hN, hE, hA⟩
  unfold zX4_fail_s24 at h
  refine lv_aload_n hx hb dX4_fail_0 rfl (lv_at hl 0 rfl) ?_
  refine va_get (D := D) (ci := 4) (v := .int (q.1 24 10)) (C := RX4) (T := TX4) (N := 11) hx hb hts u9_wsX4_fail_X4 hown hK hP 24 rfl rfl 10 (by decide) (hts (.fieldLink RX4 45 "TurnedFloors$Reader" "faultAt" "I") f9_wsX4_fail_488) (fun _ h9 => h9) rfl dX4_fail_1 ?_
  refine lv_iconst (v := (-1)) hx hb dX4_fail_4 (by decide) ?_
  refine lv_icmp_ne (tgt := 16) hx hb dX4_fail_5 (by decide) (fun c9 => ?_) (fun c9 => ?_)
  · rw [if_neg c9] at h
    exact WX4_fail_s24_16 C  _ _ _ _ h hP hD hS (lv_sub hl [] rfl)
  · rw [if_pos c9] at h
    refine lv_aload_n hx hb dX4_fail_8 rfl (lv_at hl 0 rfl) ?_
    refine lv_aload_n hx hb dX4_fail_9 rfl (lv_at hl 0 rfl) ?_
    refine va_get (D := D) (ci := 4) (v := .int (q.1 24 5)) (C := RX4) (T := TX4) (N := 11) hx hb hts u9_wsX4_fail_X4 hown hK hP 24 rfl rfl 5 (by decide) (hts (.fieldLink RX4 30 "TurnedFloors$Reader" "start" "I") f9_wsX4_fail_489) (fun _ h9 => h9) rfl dX4_fail_10 ?_
    refine va_put (D := D) (ci := 4) (v := .int (q.1 24 5)) (ty := .int) (C := RX4) (T := TX4) (N := 11) hx hb hts u9_wsX4_fail_X4 tyX4 tyX4_ok nmX4 hown hK hP hD hS 24 rfl rfl 10 (by decide) (hts (.fieldLink RX4 45 "TurnedFloors$Reader" "faultAt" "I") f9_wsX4_fail_488) (fun _ h9 => h9) rfl (by decide +kernel) rfl rfl (Nat.le_of_ble_eq_true rfl) dX4_fail_13 (fun H locs hp hd hs => ?_)
    obtain ⟨q1, eq1, h⟩ := dL_some h
    refine kz_re (w2 := wF ty ad q1) hp hd hs (by rw [← eq1]; exact wF_f24_10 ty ad q (q.1 24 5)) ?_
    clear hp hd hs hP hD hS
    intro hP hD hS
    exact WX4_fail_s24_16 C  _ _ _ _ h hP hD hS (lv_sub hl [] rfl)
