theorem u9_wsX0_backToMark_X0 : ∀ w ∈ u_ws RX0 TX0 6, w ∈ wsX0_backToMark := by
  first | exact fun w h => List.mem_cons_of_mem _ (List.mem_append_right _ h) | decide +kernel
theorem f9_wsX0_backToMark_669 : (Cond.fieldLink RX0 23 "TurnedFloors$History" "markedTowers" "[J") ∈ wsX0_backToMark := by decide +kernel
theorem f9_wsX0_backToMark_670 : (Cond.fieldLink RX0 9 "TurnedFloors$History" "towers" "[J") ∈ wsX0_backToMark := by decide +kernel
theorem f9_wsX0_backToMark_671 : (Cond.methodLink RX0 32 arraycopyName) ∈ wsX0_backToMark := by decide +kernel
theorem f9_wsX0_backToMark_672 : (Cond.native arraycopyName) ∈ wsX0_backToMark := by decide +kernel
theorem f9_wsX0_backToMark_673 : (Cond.static arraycopyName) ∈ wsX0_backToMark := by decide +kernel
theorem f9_wsX0_backToMark_674 : (Cond.initialized "java/lang/System") ∈ wsX0_backToMark := by decide +kernel
theorem f9_wsX0_backToMark_675 : (Cond.fieldLink RX0 26 "TurnedFloors$History" "markedKinds" "[I") ∈ wsX0_backToMark := by decide +kernel
theorem f9_wsX0_backToMark_676 : (Cond.fieldLink RX0 15 "TurnedFloors$History" "kinds" "[I") ∈ wsX0_backToMark := by decide +kernel
theorem f9_wsX0_backToMark_677 : (Cond.fieldLink RX0 29 "TurnedFloors$History" "markedKept" "I") ∈ wsX0_backToMark := by decide +kernel
theorem f9_wsX0_backToMark_678 : (Cond.fieldLink RX0 19 "TurnedFloors$History" "kept" "I") ∈ wsX0_backToMark := by decide +kernel
theorem u9_wsX5_run_X5 : ∀ w ∈ u_ws RX5 TX5 4, w ∈ wsX5_run := by
  first | exact fun w h => List.mem_cons_of_mem _ (List.mem_append_right _ h) | decide +kernel
theorem f9_wsX5_run_680 : (Cond.fieldLink RX5 19 "TurnedFloors$Runner" "latest" "I") ∈ wsX5_run := by decide +kernel
theorem f9_wsX5_run_681 : (Cond.fieldLink RX5 15 "TurnedFloors$Runner" "done" "I") ∈ wsX5_run := by decide +kernel
theorem u9_wsX5_run_X7 : ∀ w ∈ u_ws RX7 TX7 8, w ∈ wsX5_run := by
  first | exact fun w h => List.mem_cons_of_mem _ (List.mem_append_right _ h) | decide +kernel
theorem u9_wsX5_run_X2 : ∀ w ∈ u_ws RX2 TX2 2, w ∈ wsX5_run := by
  first | exact fun w h => List.mem_cons_of_mem _ (List.mem_append_right _ h) | decide +kernel
theorem f9_wsX5_run_684 : (Cond.fieldLink RX5 22 "TurnedFloors$Runner" "machine" "LTurnedFloors$Machine;") ∈ wsX5_run := by decide +kernel
theorem f9_wsX5_run_685 : (Cond.fieldLink RX5 11 "TurnedFloors$Runner" "words" "[I") ∈ wsX5_run := by decide +kernel
theorem u9_wsX9_orders_X9 : ∀ w ∈ u_ws RX9 TX9 19, w ∈ wsX9_orders := by
  first | exact fun w h => List.mem_cons_of_mem _ (List.mem_append_right _ h) | decide +kernel
theorem u9_wsX9_orders_X6 : ∀ w ∈ u_ws RX6 TX6 10, w ∈ wsX9_orders := by
  first | exact fun w h => List.mem_cons_of_mem _ (List.mem_append_right _ h) | decide +kernel
theorem u9_wsX9_orders_X5 : ∀ w ∈ u_ws RX5 TX5 4, w ∈ wsX9_orders := by
  first | exact fun w h => List.mem_cons_of_mem _ (List.mem_append_right _ h) | decide +kernel
theorem f9_wsX9_orders_689 : (Cond.fieldLink RX9 88 "TurnedFloors" "tapeLength" "I") ∈ wsX9_orders := by decide +kernel
theorem f9_wsX9_orders_690 : (Cond.fieldLink RX9 98 "TurnedFloors" "stoppedClause" "I") ∈ wsX9_orders := by decide +kernel
theorem f9_wsX9_orders_691 : (Cond.fieldLink RX9 64 "TurnedFloors" "reader" "LTurnedFloors$Reader;") ∈ wsX9_orders := by decide +kernel
theorem f9_wsX9_orders_692 : (Cond.fieldLink RX9 84 "TurnedFloors" "tape" "[I") ∈ wsX9_orders := by decide +kernel
theorem f9_wsX9_orders_693 : (Cond.fieldLink RX9 73 "TurnedFloors" "draft" "LTurnedFloors$Text;") ∈ wsX9_orders := by decide +kernel
theorem f9_wsX9_orders_694 : (Cond.fieldLink RX9 92 "TurnedFloors" "faultPlace" "I") ∈ wsX9_orders := by decide +kernel
theorem f9_wsX9_orders_695 : (Cond.fieldLink RX9 57 "TurnedFloors" "runner" "LTurnedFloors$Runner;") ∈ wsX9_orders := by decide +kernel
theorem f9_wsX9_orders_696 : (Cond.fieldLink RX9 10 "TurnedFloors" "state" "LTurnedFloors$State;") ∈ wsX9_orders := by decide +kernel
theorem f9_wsX9_orders_697 : (Cond.fieldLink RX9 27 "TurnedFloors" "history" "LTurnedFloors$History;") ∈ wsX9_orders := by decide +kernel
theorem u9_wsX9_fault_X9 : ∀ w ∈ u_ws RX9 TX9 19, w ∈ wsX9_fault := by
  first | exact fun w h => List.mem_cons_of_mem _ (List.mem_append_right _ h) | decide +kernel
theorem f9_wsX9_fault_699 : (Cond.fieldLink RX9 92 "TurnedFloors" "faultPlace" "I") ∈ wsX9_fault := by decide +kernel
theorem u9_wsX9_stopped_X9 : ∀ w ∈ u_ws RX9 TX9 19, w ∈ wsX9_stopped := by
  first | exact fun w h => List.mem_cons_of_mem _ (List.mem_append_right _ h) | decide +kernel
theorem f9_wsX9_stopped_701 : (Cond.fieldLink RX9 98 "TurnedFloors" "stoppedClause" "I") ∈ wsX9_stopped := by decide +kernel
theorem u9_wsX9_force_X9 : ∀ w ∈ u_ws RX9 TX9 19, w ∈ wsX9_force := by
  first | exact fun w h => List.mem_cons_of_mem _ (List.mem_append_right _ h) | decide +kernel
theorem u9_wsX9_force_X6 : ∀ w ∈ u_ws RX6 TX6 10, w ∈ wsX9_force := by
  first | exact fun w h => List.mem_cons_of_mem _ (List.mem_append_right _ h) | decide +kernel
theorem f9_wsX9_force_704 : (Cond.fieldLink RX9 10 "TurnedFloors" "state" "LTurnedFloors$State;") ∈ wsX9_force := by decide +kernel
theorem u9_wsX9_move_X9 : ∀ w ∈ u_ws RX9 TX9 19, w ∈ wsX9_move := by
  first | exact fun w h => List.mem_cons_of_mem _ (List.mem_append_right _ h) | decide +kernel
theorem u9_wsX9_move_X6 : ∀ w ∈ u_ws RX6 TX6 10, w ∈ wsX9_move := by
  first | exact fun w h => List.mem_cons_of_mem _ (List.mem_append_right _ h) | decide +kernel
theorem f9_wsX9_move_707 : (Cond.fieldLink RX9 10 "TurnedFloors" "state" "LTurnedFloors$State;") ∈ wsX9_move := by decide +kernel
theorem f9_wsX9_move_708 : (Cond.fieldLink RX9 27 "TurnedFloors" "history" "LTurnedFloors$History;") ∈ wsX9_move := by decide +kernel
set_option maxHeartbeats 4000000 in
set_option maxRecDepth 100000 in
theorem qX0_backToMark_s10 (l : Launch) (D : va_G) (ty : Nat → ClassId) (eo : Nat → Nat) (sz : Nat) (ad : Nat → Nat) (q : dK)  (o2 : dK) (h : zX0_backToMark_s10 q = some o2) : Met l yX0_backToMark wsX0_backToMark ({ frames := 1, cells := 0, slots := 0, locals := 40 } : Room) (va_Pc [.ref (ad 10)] (kz_pre D ty eo (wF ty ad q) sz)) (va_Qv (fun (u : va_W) => wF ty ad o2 = u) (kz_B D ty (va_A (wF ty ad q) sz)) (va_A (wF ty ad q) sz)) 0 0 (va_A (wF ty ad q) sz) := by
  refine Met.ofW (cc := cX0_backToMark) (maxL := 1) (ret := none) (by decide) rfl ?_
  intro p e s m args below meth c s₁ B hml hv
  obtain ⟨rfl, hsz, hP, hK, hD0, hN, hE⟩ := hv
  have hx := B.exec
  have hb := B.bytes
  have hr := B.returns
  have hts := atoms_spec (ws := wsX0_backToMark) B.pre
  have hown : s.vm.findClass RX0 = some m.cls := findClass_of_methodNamed B.named
  have hlocks := B.notSynchronized
  subst hsz
  have hD := hD0.self (sz := s.heap.size)
  generalize hAe : va_A (wF ty ad q) s.heap.size = A at hD hE ⊢
  have hA : ∀ q : Nat, s.heap.size ≤ q → A q := fun q h => by rw [← hAe]; exact Or.inr h
  clear hAe
  have hS : va_S A s.heap s.heap [] := va_S.rf
  have hl := lv_entry ([.ref (ad 10)]) (n := 1) (Nat.le_of_ble_eq_true rfl)
  rw [lg_entry_eq]
  generalize (lg_sl ([.ref (ad 10)]) ++ List.replicate (1 - (lg_sl ([.ref (ad 10)])).length) Slot.unset).toArray = ls at hl ⊢
  have hl : lv_has ls 1 [(0, .ref (ad 10))] := hl
  have C : dc_C p s m _ meth c cX0_backToMark none 1 RX0 wsX0_backToMark D ty eo A := ⟨hx, hb, hr, hts, hown, hlocks, hml, hK, hN, hE, hA⟩
  unfold zX0_backToMark_s10 at h
  refine lv_aload_n hx hb dX0_backToMark_0 rfl (lv_at hl 0 rfl) ?_
  refine va_get (D := D) (ci := 0) (v := .ref (ad 13)) (C := RX0) (T := TX0) (N := 6) hx hb hts u9_wsX0_backToMark_X0 hown hK hP 10 rfl rfl 3 (by decide) (hts (.fieldLink RX0 23 "TurnedFloors$History" "markedTowers" "[J") f9_wsX0_backToMark_669) (fun _ h9 => h9) rfl dX0_backToMark_1 ?_
  refine lv_iconst (v := 0) hx hb dX0_backToMark_4 (by decide) ?_
  refine lv_aload_n hx hb dX0_backToMark_5 rfl (lv_at hl 0 rfl) ?_
  refine va_get (D := D) (ci := 0) (v := .ref (ad 11)) (C := RX0) (T := TX0) (N := 6) hx hb hts u9_wsX0_backToMark_X0 hown hK hP 10 rfl rfl 0 (by decide) (hts (.fieldLink RX0 9 "TurnedFloors$History" "towers" "[J") f9_wsX0_backToMark_670) (fun _ h9 => h9) rfl dX0_backToMark_6 ?_
  refine lv_iconst (v := 0) hx hb dX0_backToMark_9 (by decide) ?_
  refine lv_bipush (v := 16) hx hb dX0_backToMark_10 (by decide) ?_
  refine va_copyl hx hb (hml.trans hl.1.symm) hown (hts (.methodLink RX0 32 arraycopyName) f9_wsX0_backToMark_671) (hts (.native arraycopyName) f9_wsX0_backToMark_672) (hts (.static arraycopyName) f9_wsX0_backToMark_673) (hts (.initialized "java/lang/System") f9_wsX0_backToMark_674) hK hP hD hS 13 11 1 1 rfl rfl rfl rfl rfl (by decide) (by decide) (by decide) (by decide) (by decide) (fun _ _ => rfl) (Nat.le_of_ble_eq_true rfl) (Nat.le_of_ble_eq_true rfl) dX0_backToMark_12 (fun H locs hp hd hs => ?_)
  obtain ⟨q1, eq1, h⟩ := dL_some h
  refine kz_re (w2 := wF ty ad q1) hp hd hs (by rw [← eq1]; exact rfl) ?_
  clear hp hd hs hP hD hS
  intro hP hD hS
  refine lv_aload_n hx hb dX0_backToMark_15 rfl (lv_at hl 0 rfl) ?_
  refine va_get (D := D) (ci := 0) (v := .ref (ad 14)) (C := RX0) (T := TX0) (N := 6) hx hb hts u9_wsX0_backToMark_X0 hown hK hP 10 rfl rfl 4 (by decide) (hts (.fieldLink RX0 26 "TurnedFloors$History" "markedKinds" "[I") f9_wsX0_backToMark_675) (fun _ h9 => h9) rfl dX0_backToMark_16 ?_
  refine lv_iconst (v := 0) hx hb dX0_backToMark_19 (by decide) ?_
  refine lv_aload_n hx hb dX0_backToMark_20 rfl (lv_at hl 0 rfl) ?_
  refine va_get (D := D) (ci := 0) (v := .ref (ad 12)) (C := RX0) (T := TX0) (N := 6) hx hb hts u9_wsX0_backToMark_X0 hown hK hP 10 rfl rfl 1 (by decide) (hts (.fieldLink RX0 15 "TurnedFloors$History" "kinds" "[I") f9_wsX0_backToMark_676) (fun _ h9 => h9) rfl dX0_backToMark_21 ?_
  refine lv_iconst (v := 0) hx hb dX0_backToMark_24 (by decide) ?_
  refine lv_bipush (v := 16) hx hb dX0_backToMark_25 (by decide) ?_
  refine va_copyi hx hb (hml.trans hl.1.symm) hown (hts (.methodLink RX0 32 arraycopyName) f9_wsX0_backToMark_671) (hts (.native arraycopyName) f9_wsX0_backToMark_672) (hts (.static arraycopyName) f9_wsX0_backToMark_673) (hts (.initialized "java/lang/System") f9_wsX0_backToMark_674) hK hP hD hS 14 12 0 0 rfl rfl rfl rfl rfl (by decide) (by decide) (by decide) (by decide) (by decide) (fun _ _ => rfl) (Nat.le_of_ble_eq_true rfl) (Nat.le_of_ble_eq_true rfl) dX0_backToMark_27 (fun H locs hp hd hs => ?_)
  obtain ⟨q2, eq2, h⟩ := dL_some h
  refine kz_re (w2 := wF ty ad q2) hp hd hs (by rw [← eq2]; exact rfl) ?_
  clear hp hd hs hP hD hS
  intro hP hD hS
  refine lv_aload_n hx hb dX0_backToMark_30 rfl (lv_at hl 0 rfl) ?_
  refine lv_aload_n hx hb dX0_backToMark_31 rfl (lv_at hl 0 rfl) ?_
  refine va_get (D := D) (ci := 0) (v := .int (q2.1 10 5)) (C := RX0) (T := TX0) (N := 6) hx hb hts u9_wsX0_backToMark_X0 hown hK hP 10 rfl rfl 5 (by decide) (hts (.fieldLink RX0 29 "TurnedFloors$History" "markedKept" "I") f9_wsX0_backToMark_677) (fun _ h9 => h9) rfl dX0_backToMark_32 ?_
  refine va_put (D := D) (ci := 0) (v := .int (q2.1 10 5)) (ty := .int) (C := RX0) (T := TX0) (N := 6) hx hb hts u9_wsX0_backToMark_X0 tyX0 tyX0_ok nmX0 hown hK hP hD hS 10 rfl rfl 2 (by decide) (hts (.fieldLink RX0 19 "TurnedFloors$History" "kept" "I") f9_wsX0_backToMark_678) (fun _ h9 => h9) rfl (by decide +kernel) rfl rfl (Nat.le_of_ble_eq_true rfl) dX0_backToMark_35 (fun H locs hp hd hs => ?_)
  obtain ⟨q3, eq3, h⟩ := dL_some h
  refine kz_re (w2 := wF ty ad q3) hp hd hs (by rw [← eq3]; exact wF_f10_2 ty ad q2 (q2.1 10 5)) ?_
  clear hp hd hs hP hD hS
  intro hP hD hS
  cases h
  exact kz_vret hx hb hr hlocks hP hK hD hS dX0_backToMark_38 rfl

set_option maxHeartbeats 4000000 in
set_option maxRecDepth 100000 in
theorem WX5_run_s22_s25_s2_s20_s10_208 {p : Program} {l : Launch} {e : Env} {s : State} {m : MethodId} {args : Array Value} {below : List Frame} {meth : Method} {c : Code} {D : va_G} {ty : Nat → ClassId} {eo : Nat → Nat} {A : Nat → Prop} {ad : Nat → Nat} {o1 : Int32} {o2 : dK} (C : dc_C p s m args meth c cX5_run (some .int) 14 RX5 wsX5_run D ty eo A) {k24 : dK → Int64 → Int32 → Option (Int32 × dK)} {k36 : dK → Int64 → Int32 → Int32 → Option (Int32 × dK)} (hk24 : ∀ (q : dK) (x5 : Int64) (x7 : Int32) (H : Heap) (locs : List Loc) (ls : Array Slot), k24 q x5 x7 = some (o1, o2) → va_P D vwCl (wF ty ad q) H → va_D A (wF ty ad q) → va_S A s.heap H locs → lv_has ls 14 [(0, .ref (ad 22)), (1, .ref (ad 25)), (2, .ref (ad 2)), (3, .ref (ad 20)), (4, .ref (ad 10)), (5, .long x5), (7, .int x7)] → W p l e ({ frames := 6, cells := 0, slots := 0, locals := 151 } : Room) s m args below meth c H locs 0 0 (MQ below (va_Qi (fun (r : Int32) (u : va_W) => o1 = r ∧ wF ty ad o2 = u) (kz_B D ty A) A) args s 0 0 A) (F0 m 24 ls [])) (hk36 : ∀ (q : dK) (x5 : Int64) (x7 : Int32) (x8 : Int32) (H : Heap) (locs : List Loc) (ls : Array Slot), k36 q x5 x7 x8 = some (o1, o2) → va_P D vwCl (wF ty ad q) H → va_D A (wF ty ad q) → va_S A s.heap H locs → lv_has ls 14 [(0, .ref (ad 22)), (1, .ref (ad 25)), (2, .ref (ad 2)), (3, .ref (ad 20)), (4, .ref (ad 10)), (5, .long x5), (7, .int x7), (8, .int x8)] → W p l e ({ frames := 6, cells := 0, slots := 0, locals := 151 } : Room) s m args below meth c H locs 0 0 (MQ below (va_Qi (fun (r : Int32) (u : va_W) => o1 = r ∧ wF ty ad o2 = u) (kz_B D ty A) A) args s 0 0 A) (F0 m 36 ls [])) (q : dK) (x5 : Int64) (x7 : Int32) (x8 : Int32) (H : Heap) (locs : List Loc) (ls : Array Slot) (h : zX5_run_s22_s25_s2_s20_s10_208 k24 k36 q x5 x7 x8 = some (o1, o2)) (hP : va_P D vwCl (wF ty ad q) H) (hD : va_D A (wF ty ad q)) (hS : va_S A s.heap H locs) (hl : lv_has ls 14 [(0, .ref (ad 22)), (1, .ref (ad 25)), (2, .ref (ad 2)), (3, .ref (ad 20)), (4, .ref (ad 10)), (5, .long x5), (7, .int x7), (8, .int x8)]) : W p l e ({ frames := 6, cells := 0, slots := 0, locals := 151 } : Room) s m args below meth c H locs 0 0 (MQ below (va_Qi (fun (r : Int32) (u : va_W) => o1 = r ∧ wF ty ad o2 = u) (kz_B D ty A) A) args s 0 0 A) (F0 m 208 ls []) := by
  have C0 := C
  obtain ⟨hx, hb, hr, hts, hown, hlocks, hml, hK, hN, hE, hA⟩ := C
  unfold zX5_run_s22_s25_s2_s20_s10_208 at h
  refine lv_iinc (v := x8 + 1) (lv' := [(8, .int (x8 + 1)), (0, .ref (ad 22)), (1, .ref (ad 25)), (2, .ref (ad 2)), (3, .ref (ad 20)), (4, .ref (ad 10)), (5, .long x5), (7, .int x7)]) hx hb dX5_run_208 hl (k := 7) rfl rfl (by decide) rfl (fun ls hl => ?_)
  refine lv_goto (tgt := 36) hx hb dX5_run_211 (by decide) ?_
  exact hk36 _ _ _ _ _ _ _ h hP hD hS (lv_sub hl [1, 2, 3, 4, 5, 6, 7, 0] rfl)
set_option maxHeartbeats 4000000 in
set_option maxRecDepth 100000 in
theorem WX5_run_s22_s25_s2_s20_s10_205 {p : Program} {l : Launch} {e : Env} {s : State} {m : MethodId} {args : Array Value} {below : List Frame} {meth : Method} {c : Code} {D : va_G} {ty : Nat → ClassId} {eo : Nat → Nat} {A : Nat → Prop} {ad : Nat → Nat} {o1 : Int32} {o2 : dK} (C : dc_C p s m args meth c cX5_run (some .int) 14 RX5 wsX5_run D ty eo A) {k24 : dK → Int64 → Int32 → Option (Int32 × dK)} {k36 : dK → Int64 → Int32 → Int32 → Option (Int32 × dK)} (hk24 : ∀ (q : dK) (x5 : Int64) (x7 : Int32) (H : Heap) (locs : List Loc) (ls : Array Slot), k24 q x5 x7 = some (o1, o2) → va_P D vwCl (wF ty ad q) H → va_D A (wF ty ad q) → va_S A s.heap H locs → lv_has ls 14 [(0, .ref (ad 22)), (1, .ref (ad 25)), (2, .ref (ad 2)), (3, .ref (ad 20)), (4, .ref (ad 10)), (5, .long x5), (7, .int x7)] → W p l e ({ frames := 6, cells := 0, slots := 0, locals := 151 } : Room) s m args below meth c H locs 0 0 (MQ below (va_Qi (fun (r : Int32) (u : va_W) => o1 = r ∧ wF ty ad o2 = u) (kz_B D ty A) A) args s 0 0 A) (F0 m 24 ls [])) (hk36 : ∀ (q : dK) (x5 : Int64) (x7 : Int32) (x8 : Int32) (H : Heap) (locs : List Loc) (ls : Array Slot), k36 q x5 x7 x8 = some (o1, o2) → va_P D vwCl (wF ty ad q) H → va_D A (wF ty ad q) → va_S A s.heap H locs → lv_has ls 14 [(0, .ref (ad 22)), (1, .ref (ad 25)), (2, .ref (ad 2)), (3, .ref (ad 20)), (4, .ref (ad 10)), (5, .long x5), (7, .int x7), (8, .int x8)] → W p l e ({ frames := 6, cells := 0, slots := 0, locals := 151 } : Room) s m args below meth c H locs 0 0 (MQ below (va_Qi (fun (r : Int32) (u : va_W) => o1 = r ∧ wF ty ad o2 = u) (kz_B D ty A) A) args s 0 0 A) (F0 m 36 ls [])) (q : dK) (x5 : Int64) (x7 : Int32) (x8 : Int32) (y0 : Int32) (H : Heap) (locs : List Loc) (ls : Array Slot) (h : zX5_run_s22_s25_s2_s20_s10_205 k24 k36 q x5 x7 x8 y0 = some (o1, o2)) (hP : va_P D vwCl (wF ty ad q) H) (hD : va_D A (wF ty ad q)) (hS : va_S A s.heap H locs) (hl : lv_has ls 14 [(0, .ref (ad 22)), (1, .ref (ad 25)), (2, .ref (ad 2)), (3, .ref (ad 20)), (4, .ref (ad 10)), (5, .long x5), (7, .int x7), (8, .int x8)]) : W p l e ({ frames := 6, cells := 0, slots := 0, locals := 151 } : Room) s m args below meth c H locs 0 0 (MQ below (va_Qi (fun (r : Int32) (u : va_W) => o1 = r ∧ wF ty ad o2 = u) (kz_B D ty A) A) args s 0 0 A) (F0 m 205 ls [.int y0, .ref (ad 22)]) := by
  have C0 := C
  obtain ⟨hx, hb, hr, hts, hown, hlocks, hml, hK, hN, hE, hA⟩ := C
  unfold zX5_run_s22_s25_s2_s20_s10_205 at h
  refine va_put (D := D) (ci := 5) (v := .int y0) (ty := .int) (C := RX5) (T := TX5) (N := 4) hx hb hts u9_wsX5_run_X5 tyX5 tyX5_ok nmX5 hown hK hP hD hS 22 rfl rfl 3 (by decide) (hts (.fieldLink RX5 19 "TurnedFloors$Runner" "latest" "I") f9_wsX5_run_680) (fun _ h9 => h9) rfl (by decide +kernel) rfl rfl (Nat.le_of_ble_eq_true rfl) dX5_run_205 (fun H locs hp hd hs => ?_)
  obtain ⟨q1, eq1, h⟩ := dL_some h
  refine kz_re (w2 := wF ty ad q1) hp hd hs (by rw [← eq1]; exact wF_f22_3 ty ad q y0) ?_
  clear hp hd hs hP hD hS
  intro hP hD hS
  exact WX5_run_s22_s25_s2_s20_s10_208 C0 hk24 hk36 _ _ _ _ _ _ _ h hP hD hS (lv_sub hl [0, 1, 2, 3, 4, 5, 6, 7] rfl)
set_option maxHeartbeats 4000000 in
set_option maxRecDepth 100000 in
theorem WX5_run_s22_s25_s2_s20_s10_150 {p : Program} {l : Launch} {e : Env} {s : State} {m : MethodId} {args : Array Value} {below : List Frame} {meth : Method} {c : Code} {D : va_G} {ty : Nat → ClassId} {eo : Nat → Nat} {A : Nat → Prop} {ad : Nat → Nat} {o1 : Int32} {o2 : dK} (C : dc_C p s m args meth c cX5_run (some .int) 14 RX5 wsX5_run D ty eo A) {k24 : dK → Int64 → Int32 → Option (Int32 × dK)} {k36 : dK → Int64 → Int32 → Int32 → Option (Int32 × dK)} (hk24 : ∀ (q : dK) (x5 : Int64) (x7 : Int32) (H : Heap) (locs : List Loc) (ls : Array Slot), k24 q x5 x7 = some (o1, o2) → va_P D vwCl (wF ty ad q) H → va_D A (wF ty ad q) → va_S A s.heap H locs → lv_has ls 14 [(0, .ref (ad 22)), (1, .ref (ad 25)), (2, .ref (ad 2)), (3, .ref (ad 20)), (4, .ref (ad 10)), (5, .long x5), (7, .int x7)] → W p l e ({ frames := 6, cells := 0, slots := 0, locals := 151 } : Room) s m args below meth c H locs 0 0 (MQ below (va_Qi (fun (r : Int32) (u : va_W) => o1 = r ∧ wF ty ad o2 = u) (kz_B D ty A) A) args s 0 0 A) (F0 m 24 ls [])) (hk36 : ∀ (q : dK) (x5 : Int64) (x7 : Int32) (x8 : Int32) (H : Heap) (locs : List Loc) (ls : Array Slot), k36 q x5 x7 x8 = some (o1, o2) → va_P D vwCl (wF ty ad q) H → va_D A (wF ty ad q) → va_S A s.heap H locs → lv_has ls 14 [(0, .ref (ad 22)), (1, .ref (ad 25)), (2, .ref (ad 2)), (3, .ref (ad 20)), (4, .ref (ad 10)), (5, .long x5), (7, .int x7), (8, .int x8)] → W p l e ({ frames := 6, cells := 0, slots := 0, locals := 151 } : Room) s m args below meth c H locs 0 0 (MQ below (va_Qi (fun (r : Int32) (u : va_W) => o1 = r ∧ wF ty ad o2 = u) (kz_B D ty A) A) args s 0 0 A) (F0 m 36 ls [])) (q : dK) (x5 : Int64) (x7 : Int32) (x8 : Int32) (x9 : Int64) (x11 : Int32) (y0 : Int32) (H : Heap) (locs : List Loc) (ls : Array Slot) (h : zX5_run_s22_s25_s2_s20_s10_150 k24 k36 q x5 x7 x8 x9 x11 y0 = some (o1, o2)) (hP : va_P D vwCl (wF ty ad q) H) (hD : va_D A (wF ty ad q)) (hS : va_S A s.heap H locs) (hl : lv_has ls 14 [(0, .ref (ad 22)), (1, .ref (ad 25)), (2, .ref (ad 2)), (3, .ref (ad 20)), (4, .ref (ad 10)), (5, .long x5), (7, .int x7), (8, .int x8), (9, .long x9), (11, .int x11)]) : W p l e ({ frames := 6, cells := 0, slots := 0, locals := 151 } : Room) s m args below meth c H locs 0 0 (MQ below (va_Qi (fun (r : Int32) (u : va_W) => o1 = r ∧ wF ty ad o2 = u) (kz_B D ty A) A) args s 0 0 A) (F0 m 150 ls [.int y0]) := by
  have C0 := C
  obtain ⟨hx, hb, hr, hts, hown, hlocks, hml, hK, hN, hE, hA⟩ := C
  unfold zX5_run_s22_s25_s2_s20_s10_150 at h
  refine lv_istore (lv' := [(13, .int y0), (0, .ref (ad 22)), (1, .ref (ad 25)), (2, .ref (ad 2)), (3, .ref (ad 20)), (4, .ref (ad 10)), (5, .long x5), (7, .int x7), (8, .int x8), (9, .long x9), (11, .int x11)]) hx hb dX5_run_150 hl (by decide) rfl (fun ls hl => ?_)
  refine lv_iload hx hb dX5_run_152 (lv_at hl 0 rfl) ?_
  refine lv_if_ge (tgt := 171) hx hb dX5_run_154 (by decide) (fun c9 => ?_) (fun c9 => ?_)
  · rw [if_pos c9] at h
    refine lv_aload hx hb dX5_run_171 (lv_at hl 5 rfl) ?_
    refine lv_iload hx hb dX5_run_173 (lv_at hl 10 rfl) ?_
    refine lv_lload hx hb dX5_run_175 (lv_at hl 9 rfl) ?_
    obtain ⟨q3, h2, h⟩ := dV_some h
    refine dw_kv (va_runV (As := [.int x11, .long x9]) (rest := []) ⟨hx, hb, hml, hown, hts⟩ (qX0_keep_s10 l D ty eo _ ad q x11 x9 q3 h2) (cwV 2 hts gX5_run_X0_keep rfl rfl rfl (by decide +kernel) ⟨Nat.le_of_ble_eq_true rfl, Nat.le_of_ble_eq_true rfl⟩) (dw_preV (ci := 0) (q0 := 10) hK hN hE hP hD hS hA rfl rfl) rfl rfl hl.1 rfl (lv_room (Nat.le_of_ble_eq_true rfl)) dX5_run_177 ⟨Nat.le_of_ble_eq_true rfl, Nat.le_of_ble_eq_true rfl⟩) hD hS hA (fun u9 H locs hw hp hd hs => ?_)
    clear hP hD hS
    obtain rfl := hw
    have hP := hp; have hD := hd; have hS := hs; clear hp hd hs
    refine lv_aload_n hx hb dX5_run_180 rfl (lv_at hl 1 rfl) ?_
    refine lv_dup hx hb dX5_run_181 rfl ?_
    refine va_get (D := D) (ci := 5) (v := .int (q3.1 22 2)) (C := RX5) (T := TX5) (N := 4) hx hb hts u9_wsX5_run_X5 hown hK hP 22 rfl rfl 2 (by decide) (hts (.fieldLink RX5 15 "TurnedFloors$Runner" "done" "I") f9_wsX5_run_681) (fun _ h9 => h9) rfl dX5_run_182 ?_
    refine lv_iconst (v := 1) hx hb dX5_run_185 (by decide) ?_
    refine lv_iadd hx hb dX5_run_186 ?_
    refine va_put (D := D) (ci := 5) (v := .int ((q3.1 22 2) + 1 : Int32)) (ty := .int) (C := RX5) (T := TX5) (N := 4) hx hb hts u9_wsX5_run_X5 tyX5 tyX5_ok nmX5 hown hK hP hD hS 22 rfl rfl 2 (by decide) (hts (.fieldLink RX5 15 "TurnedFloors$Runner" "done" "I") f9_wsX5_run_681) (fun _ h9 => h9) rfl (by decide +kernel) rfl rfl (Nat.le_of_ble_eq_true rfl) dX5_run_187 (fun H locs hp hd hs => ?_)
    obtain ⟨q4, eq4, h⟩ := dL_some h
    refine kz_re (w2 := wF ty ad q4) hp hd hs (by rw [← eq4]; exact wF_f22_2 ty ad q3 ((q3.1 22 2) + 1 : Int32)) ?_
    clear hp hd hs hP hD hS
    intro hP hD hS
    refine lv_aload_n hx hb dX5_run_190 rfl (lv_at hl 1 rfl) ?_
    refine lv_iload hx hb dX5_run_191 (lv_at hl 10 rfl) ?_
    refine lv_if_ne (tgt := 201) hx hb dX5_run_193 (by decide) (fun c9 => ?_) (fun c9 => ?_)
    · rw [if_neg c9] at h
      refine lv_aload_n hx hb dX5_run_201 rfl (lv_at hl 1 rfl) ?_
      refine va_get (D := D) (ci := 5) (v := .int (q4.1 22 3)) (C := RX5) (T := TX5) (N := 4) hx hb hts u9_wsX5_run_X5 hown hK hP 22 rfl rfl 3 (by decide) (hts (.fieldLink RX5 19 "TurnedFloors$Runner" "latest" "I") f9_wsX5_run_680) (fun _ h9 => h9) rfl dX5_run_202 ?_
      exact WX5_run_s22_s25_s2_s20_s10_205 C0 hk24 hk36 _ _ _ _ _ _ _ _ h hP hD hS (lv_sub hl [1, 2, 3, 4, 5, 6, 7, 8] rfl)
    · rw [if_pos c9] at h
      refine lv_iload hx hb dX5_run_196 (lv_at hl 0 rfl) ?_
      refine lv_goto (tgt := 205) hx hb dX5_run_198 (by decide) ?_
      exact WX5_run_s22_s25_s2_s20_s10_205 C0 hk24 hk36 _ _ _ _ _ _ _ _ h hP hD hS (lv_sub hl [1, 2, 3, 4, 5, 6, 7, 8] rfl)
  · rw [if_neg c9] at h
    refine lv_aload_n hx hb dX5_run_157 rfl (lv_at hl 3 rfl) ?_
    refine lv_lload hx hb dX5_run_158 (lv_at hl 6 rfl) ?_
    obtain ⟨q7, h6, h⟩ := dV_some h
    refine dw_kv (va_runV (As := [.long x5]) (rest := []) ⟨hx, hb, hml, hown, hts⟩ (qX8_unpack_s2 l D ty eo _ ad q x5 q7 h6) (cwV 1 hts gX5_run_X8_unpack rfl rfl rfl (by decide +kernel) ⟨Nat.le_of_ble_eq_true rfl, Nat.le_of_ble_eq_true rfl⟩) (dw_preV (ci := 8) (q0 := 2) hK hN hE hP hD hS hA rfl rfl) rfl rfl hl.1 rfl (lv_room (Nat.le_of_ble_eq_true rfl)) dX5_run_160 ⟨Nat.le_of_ble_eq_true rfl, Nat.le_of_ble_eq_true rfl⟩) hD hS hA (fun u9 H locs hw hp hd hs => ?_)
    clear hP hD hS
    obtain rfl := hw
    have hP := hp; have hD := hd; have hS := hs; clear hp hd hs
    refine lv_aload hx hb dX5_run_163 (lv_at hl 5 rfl) ?_
    obtain ⟨q10, h9, h⟩ := dV_some h
    refine dw_kv (va_runV (As := []) (rest := []) ⟨hx, hb, hml, hown, hts⟩ (qX0_backToMark_s10 l D ty eo _ ad q7  q10 h9) (cwV 0 hts gX5_run_X0_backToMark rfl rfl rfl (by decide +kernel) ⟨Nat.le_of_ble_eq_true rfl, Nat.le_of_ble_eq_true rfl⟩) (dw_preV (ci := 0) (q0 := 10) hK hN hE hP hD hS hA rfl rfl) rfl rfl hl.1 rfl (lv_room (Nat.le_of_ble_eq_true rfl)) dX5_run_165 ⟨Nat.le_of_ble_eq_true rfl, Nat.le_of_ble_eq_true rfl⟩) hD hS hA (fun u9 H locs hw hp hd hs => ?_)
    clear hP hD hS
    obtain rfl := hw
    have hP := hp; have hD := hd; have hS := hs; clear hp hd hs
    refine lv_iload hx hb dX5_run_168 (lv_at hl 7 rfl) ?_
    cases h
    exact kz_iret hx hb hr hlocks hP hK hD hS dX5_run_170 ⟨rfl, rfl⟩
set_option maxHeartbeats 4000000 in
set_option maxRecDepth 100000 in
theorem WX5_run_s22_s25_s2_s20_s10_36b {p : Program} {l : Launch} {e : Env} {s : State} {m : MethodId} {args : Array Value} {below : List Frame} {meth : Method} {c : Code} {D : va_G} {ty : Nat → ClassId} {eo : Nat → Nat} {A : Nat → Prop} {ad : Nat → Nat} {o1 : Int32} {o2 : dK} (C : dc_C p s m args meth c cX5_run (some .int) 14 RX5 wsX5_run D ty eo A) {k24 : dK → Int64 → Int32 → Option (Int32 × dK)} {k36 : dK → Int64 → Int32 → Int32 → Option (Int32 × dK)} (hk24 : ∀ (q : dK) (x5 : Int64) (x7 : Int32) (H : Heap) (locs : List Loc) (ls : Array Slot), k24 q x5 x7 = some (o1, o2) → va_P D vwCl (wF ty ad q) H → va_D A (wF ty ad q) → va_S A s.heap H locs → lv_has ls 14 [(0, .ref (ad 22)), (1, .ref (ad 25)), (2, .ref (ad 2)), (3, .ref (ad 20)), (4, .ref (ad 10)), (5, .long x5), (7, .int x7)] → W p l e ({ frames := 6, cells := 0, slots := 0, locals := 151 } : Room) s m args below meth c H locs 0 0 (MQ below (va_Qi (fun (r : Int32) (u : va_W) => o1 = r ∧ wF ty ad o2 = u) (kz_B D ty A) A) args s 0 0 A) (F0 m 24 ls [])) (hk36 : ∀ (q : dK) (x5 : Int64) (x7 : Int32) (x8 : Int32) (H : Heap) (locs : List Loc) (ls : Array Slot), k36 q x5 x7 x8 = some (o1, o2) → va_P D vwCl (wF ty ad q) H → va_D A (wF ty ad q) → va_S A s.heap H locs → lv_has ls 14 [(0, .ref (ad 22)), (1, .ref (ad 25)), (2, .ref (ad 2)), (3, .ref (ad 20)), (4, .ref (ad 10)), (5, .long x5), (7, .int x7), (8, .int x8)] → W p l e ({ frames := 6, cells := 0, slots := 0, locals := 151 } : Room) s m args below meth c H locs 0 0 (MQ below (va_Qi (fun (r : Int32) (u : va_W) => o1 = r ∧ wF ty ad o2 = u) (kz_B D ty A) A) args s 0 0 A) (F0 m 36 ls [])) (q : dK) (x5 : Int64) (x7 : Int32) (x8 : Int32) (H : Heap) (locs : List Loc) (ls : Array Slot) (h : zX5_run_s22_s25_s2_s20_s10_36b k24 k36 q x5 x7 x8 = some (o1, o2)) (hP : va_P D vwCl (wF ty ad q) H) (hD : va_D A (wF ty ad q)) (hS : va_S A s.heap H locs) (hl : lv_has ls 14 [(0, .ref (ad 22)), (1, .ref (ad 25)), (2, .ref (ad 2)), (3, .ref (ad 20)), (4, .ref (ad 10)), (5, .long x5), (7, .int x7), (8, .int x8)]) : W p l e ({ frames := 6, cells := 0, slots := 0, locals := 151 } : Room) s m args below meth c H locs 0 0 (MQ below (va_Qi (fun (r : Int32) (u : va_W) => o1 = r ∧ wF ty ad o2 = u) (kz_B D ty A) A) args s 0 0 A) (F0 m 36 ls []) := by
  have C0 := C
  obtain ⟨hx, hb, hr, hts, hown, hlocks, hml, hK, hN, hE, hA⟩ := C
  unfold zX5_run_s22_s25_s2_s20_s10_36b at h
  refine lv_iload hx hb dX5_run_36 (lv_at hl 7 rfl) ?_
  refine lv_aload_n hx hb dX5_run_38 rfl (lv_at hl 1 rfl) ?_
  refine va_getN (D := D) (ci := 7) (v := .ref (ad 27)) (C := RX7) (T := TX7) (N := 8) hx hb hts u9_wsX5_run_X7 hown hK hP 25 rfl rfl 1 (by decide) (hN.use (.fieldLinkNest "TurnedFloors$Runner" 42 "TurnedFloors$Text" "times" "[I" "TurnedFloors") (by decide +kernel)) (fun _ h9 => h9) rfl dX5_run_39 ?_
  refine lv_iload hx hb dX5_run_42 (lv_at hl 6 rfl) ?_
  obtain ⟨g1, h⟩ := dG_some h
  refine va_iald hx hb hK hP 27 0 rfl rfl (dg_in g1) dX5_run_44 ?_
  obtain ⟨v2, ev2, h⟩ := dL_some h
  refine kz_topi v2 ev2 ?_
  refine lv_icmp_ge (tgt := 214) hx hb dX5_run_45 (by decide) (fun c9 => ?_) (fun c9 => ?_)
  · rw [if_pos c9] at h
    refine lv_iinc (v := x7 + 1) (lv' := [(7, .int (x7 + 1)), (0, .ref (ad 22)), (1, .ref (ad 25)), (2, .ref (ad 2)), (3, .ref (ad 20)), (4, .ref (ad 10)), (5, .long x5), (8, .int x8)]) hx hb dX5_run_214 hl (k := 6) rfl rfl (by decide) rfl (fun ls hl => ?_)
    refine lv_goto (tgt := 24) hx hb dX5_run_217 (by decide) ?_
    exact hk24 _ _ _ _ _ _ h hP hD hS (lv_sub hl [1, 2, 3, 4, 5, 6, 0] rfl)
  · rw [if_neg c9] at h
    refine lv_aload_n hx hb dX5_run_48 rfl (lv_at hl 0 rfl) ?_
    refine lv_aload_n hx hb dX5_run_49 rfl (lv_at hl 2 rfl) ?_
    obtain ⟨q5, h4, h⟩ := dV_some h
    refine dw_kv (va_runV (As := [.ref (ad 2)]) (rest := []) ⟨hx, hb, hml, hown, hts⟩ (qX5_setWords_s22_s2 l D ty eo _ ad q  q5 h4) (cwV 1 hts gX5_run_X5_setWords rfl rfl rfl (by decide +kernel) ⟨Nat.le_of_ble_eq_true rfl, Nat.le_of_ble_eq_true rfl⟩) (dw_preV (ci := 5) (q0 := 22) hK hN hE hP hD hS hA rfl rfl) rfl rfl hl.1 rfl (lv_room (Nat.le_of_ble_eq_true rfl)) dX5_run_50 ⟨Nat.le_of_ble_eq_true rfl, Nat.le_of_ble_eq_true rfl⟩) hD hS hA (fun u9 H locs hw hp hd hs => ?_)
    clear hP hD hS
    obtain rfl := hw
    have hP := hp; have hD := hd; have hS := hs; clear hp hd hs
    refine lv_aload_n hx hb dX5_run_53 rfl (lv_at hl 0 rfl) ?_
    refine va_get (D := D) (ci := 5) (v := .ref (ad 18)) (C := RX5) (T := TX5) (N := 4) hx hb hts u9_wsX5_run_X5 hown hK hP 22 rfl rfl 0 (by decide) (hts (.fieldLink RX5 22 "TurnedFloors$Runner" "machine" "LTurnedFloors$Machine;") f9_wsX5_run_684) (fun _ h9 => h9) rfl dX5_run_54 ?_
    refine lv_aload_n hx hb dX5_run_57 rfl (lv_at hl 1 rfl) ?_
    refine lv_aload_n hx hb dX5_run_58 rfl (lv_at hl 1 rfl) ?_
    refine va_getN (D := D) (ci := 7) (v := .ref (ad 29)) (C := RX7) (T := TX7) (N := 8) hx hb hts u9_wsX5_run_X7 hown hK hP 25 rfl rfl 3 (by decide) (hN.use (.fieldLinkNest "TurnedFloors$Runner" 49 "TurnedFloors$Text" "testFrom" "[I" "TurnedFloors") (by decide +kernel)) (fun _ h9 => h9) rfl dX5_run_59 ?_
    refine lv_iload hx hb dX5_run_62 (lv_at hl 6 rfl) ?_
    obtain ⟨g6, h⟩ := dG_some h
    refine va_iald hx hb hK hP 29 0 rfl rfl (dg_in g6) dX5_run_64 ?_
    obtain ⟨v7, ev7, h⟩ := dL_some h
    refine kz_topi v7 ev7 ?_
    refine lv_aload_n hx hb dX5_run_65 rfl (lv_at hl 1 rfl) ?_
    refine va_getN (D := D) (ci := 7) (v := .ref (ad 30)) (C := RX7) (T := TX7) (N := 8) hx hb hts u9_wsX5_run_X7 hown hK hP 25 rfl rfl 4 (by decide) (hN.use (.fieldLinkNest "TurnedFloors$Runner" 52 "TurnedFloors$Text" "testTo" "[I" "TurnedFloors") (by decide +kernel)) (fun _ h9 => h9) rfl dX5_run_66 ?_
    refine lv_iload hx hb dX5_run_69 (lv_at hl 6 rfl) ?_
    obtain ⟨g8, h⟩ := dG_some h
    refine va_iald hx hb hK hP 30 0 rfl rfl (dg_in g8) dX5_run_71 ?_
    obtain ⟨v9, ev9, h⟩ := dL_some h
    refine kz_topi v9 ev9 ?_
    refine lv_aload_n hx hb dX5_run_72 rfl (lv_at hl 0 rfl) ?_
    refine va_get (D := D) (ci := 5) (v := .ref (ad 23)) (C := RX5) (T := TX5) (N := 4) hx hb hts u9_wsX5_run_X5 hown hK hP 22 rfl rfl 1 (by decide) (hts (.fieldLink RX5 11 "TurnedFloors$Runner" "words" "[I") f9_wsX5_run_685) (fun _ h9 => h9) rfl dX5_run_73 ?_
    obtain ⟨r10, q12, h11, h⟩ := dB_some h
    refine dw_ki (va_runV (As := [.ref (ad 25), .int v7, .int v9, .ref (ad 23)]) (rest := []) ⟨hx, hb, hml, hown, hts⟩ (qX2_valueOf_s18_s25_s23 l D ty eo _ ad q5 v7 v9 r10 q12 h11) (cwV 4 hts gX5_run_X2_valueOf rfl rfl rfl (by decide +kernel) ⟨Nat.le_of_ble_eq_true rfl, Nat.le_of_ble_eq_true rfl⟩) (dw_preV (ci := 2) (q0 := 18) hK hN hE hP hD hS hA rfl rfl) rfl rfl hl.1 rfl (lv_room (Nat.le_of_ble_eq_true rfl)) dX5_run_76 ⟨Nat.le_of_ble_eq_true rfl, Nat.le_of_ble_eq_true rfl⟩) hD hS hA (fun r9 u9 H locs hw hp hd hs => ?_)
    clear hP hD hS
    obtain ⟨rfl, rfl⟩ := hw
    have hP := hp; have hD := hd; have hS := hs; clear hp hd hs
    refine lv_iconst (v := 1) hx hb dX5_run_79 (by decide) ?_
    refine lv_icmp_ne (tgt := 208) hx hb dX5_run_80 (by decide) (fun c9 => ?_) (fun c9 => ?_)
    · rw [if_neg c9] at h
      exact WX5_run_s22_s25_s2_s20_s10_208 C0 hk24 hk36 _ _ _ _ _ _ _ h hP hD hS (lv_sub hl [0, 1, 2, 3, 4, 5, 6, 7] rfl)
    · rw [if_pos c9] at h
      refine lv_aload_n hx hb dX5_run_83 rfl (lv_at hl 2 rfl) ?_
      obtain ⟨r13, q15, h14, h⟩ := dB_some h
      refine dw_kl (va_runV (As := []) (rest := []) ⟨hx, hb, hml, hown, hts⟩ (qX8_pack_s2 l D ty eo _ ad q12  r13 q15 h14) (cwV 0 hts gX5_run_X8_pack rfl rfl rfl (by decide +kernel) ⟨Nat.le_of_ble_eq_true rfl, Nat.le_of_ble_eq_true rfl⟩) (dw_preV (ci := 8) (q0 := 2) hK hN hE hP hD hS hA rfl rfl) rfl rfl hl.1 rfl (lv_room (Nat.le_of_ble_eq_true rfl)) dX5_run_84 ⟨Nat.le_of_ble_eq_true rfl, Nat.le_of_ble_eq_true rfl⟩) hD hS hA (fun r9 u9 H locs hw hp hd hs => ?_)
      clear hP hD hS
      obtain ⟨rfl, rfl⟩ := hw
      have hP := hp; have hD := hd; have hS := hs; clear hp hd hs
      refine lv_lstore (lv' := [(9, .long r13), (0, .ref (ad 22)), (1, .ref (ad 25)), (2, .ref (ad 2)), (3, .ref (ad 20)), (4, .ref (ad 10)), (5, .long x5), (7, .int x7), (8, .int x8)]) hx hb dX5_run_87 hl (by decide) rfl (fun ls hl => ?_)
      refine lv_aload_n hx hb dX5_run_89 rfl (lv_at hl 2 rfl) ?_
      refine va_getN (D := D) (ci := 7) (v := .ref (ad 26)) (C := RX7) (T := TX7) (N := 8) hx hb hts u9_wsX5_run_X7 hown hK hP 25 rfl rfl 0 (by decide) (hN.use (.fieldLinkNest "TurnedFloors$Runner" 61 "TurnedFloors$Text" "kind" "[I" "TurnedFloors") (by decide +kernel)) (fun _ h9 => h9) rfl dX5_run_90 ?_
      refine lv_iload hx hb dX5_run_93 (lv_at hl 7 rfl) ?_
      obtain ⟨g16, h⟩ := dG_some h
      refine va_iald hx hb hK hP 26 0 rfl rfl (dg_in g16) dX5_run_95 ?_
      obtain ⟨v17, ev17, h⟩ := dL_some h
      refine kz_topi v17 ev17 ?_
      refine lv_istore (lv' := [(11, .int v17), (9, .long r13), (0, .ref (ad 22)), (1, .ref (ad 25)), (2, .ref (ad 2)), (3, .ref (ad 20)), (4, .ref (ad 10)), (5, .long x5), (7, .int x7), (8, .int x8)]) hx hb dX5_run_96 hl (by decide) rfl (fun ls hl => ?_)
      refine lv_aload_n hx hb dX5_run_98 rfl (lv_at hl 2 rfl) ?_
      refine va_get (D := D) (ci := 5) (v := .ref (ad 18)) (C := RX5) (T := TX5) (N := 4) hx hb hts u9_wsX5_run_X5 hown hK hP 22 rfl rfl 0 (by decide) (hts (.fieldLink RX5 22 "TurnedFloors$Runner" "machine" "LTurnedFloors$Machine;") f9_wsX5_run_684) (fun _ h9 => h9) rfl dX5_run_99 ?_
      refine lv_aload_n hx hb dX5_run_102 rfl (lv_at hl 3 rfl) ?_
      refine lv_aload_n hx hb dX5_run_103 rfl (lv_at hl 3 rfl) ?_
      refine va_getN (D := D) (ci := 7) (v := .ref (ad 28)) (C := RX7) (T := TX7) (N := 8) hx hb hts u9_wsX5_run_X7 hown hK hP 25 rfl rfl 2 (by decide) (hN.use (.fieldLinkNest "TurnedFloors$Runner" 64 "TurnedFloors$Text" "sumFrom" "[I" "TurnedFloors") (by decide +kernel)) (fun _ h9 => h9) rfl dX5_run_104 ?_
      refine lv_iload hx hb dX5_run_107 (lv_at hl 8 rfl) ?_
      obtain ⟨g18, h⟩ := dG_some h
      refine va_iald hx hb hK hP 28 0 rfl rfl (dg_in g18) dX5_run_109 ?_
      obtain ⟨v19, ev19, h⟩ := dL_some h
      refine kz_topi v19 ev19 ?_
      refine lv_aload_n hx hb dX5_run_110 rfl (lv_at hl 3 rfl) ?_
      refine va_getN (D := D) (ci := 7) (v := .ref (ad 29)) (C := RX7) (T := TX7) (N := 8) hx hb hts u9_wsX5_run_X7 hown hK hP 25 rfl rfl 3 (by decide) (hN.use (.fieldLinkNest "TurnedFloors$Runner" 49 "TurnedFloors$Text" "testFrom" "[I" "TurnedFloors") (by decide +kernel)) (fun _ h9 => h9) rfl dX5_run_111 ?_
      refine lv_iload hx hb dX5_run_114 (lv_at hl 8 rfl) ?_
      obtain ⟨g20, h⟩ := dG_some h
      refine va_iald hx hb hK hP 29 0 rfl rfl (dg_in g20) dX5_run_116 ?_
      obtain ⟨v21, ev21, h⟩ := dL_some h
      refine kz_topi v21 ev21 ?_
      refine lv_aload_n hx hb dX5_run_117 rfl (lv_at hl 2 rfl) ?_
      refine va_get (D := D) (ci := 5) (v := .ref (ad 23)) (C := RX5) (T := TX5) (N := 4) hx hb hts u9_wsX5_run_X5 hown hK hP 22 rfl rfl 1 (by decide) (hts (.fieldLink RX5 11 "TurnedFloors$Runner" "words" "[I") f9_wsX5_run_685) (fun _ h9 => h9) rfl dX5_run_118 ?_
      obtain ⟨r22, q24, h23, h⟩ := dB_some h
      refine dw_ki (va_runV (As := [.ref (ad 25), .int v19, .int v21, .ref (ad 23)]) (rest := []) ⟨hx, hb, hml, hown, hts⟩ (qX2_valueOf_s18_s25_s23 l D ty eo _ ad q15 v19 v21 r22 q24 h23) (cwV 4 hts gX5_run_X2_valueOf rfl rfl rfl (by decide +kernel) ⟨Nat.le_of_ble_eq_true rfl, Nat.le_of_ble_eq_true rfl⟩) (dw_preV (ci := 2) (q0 := 18) hK hN hE hP hD hS hA rfl rfl) rfl rfl hl.1 rfl (lv_room (Nat.le_of_ble_eq_true rfl)) dX5_run_121 ⟨Nat.le_of_ble_eq_true rfl, Nat.le_of_ble_eq_true rfl⟩) hD hS hA (fun r9 u9 H locs hw hp hd hs => ?_)
      clear hP hD hS
      obtain ⟨rfl, rfl⟩ := hw
      have hP := hp; have hD := hd; have hS := hs; clear hp hd hs
      refine lv_istore (lv' := [(12, .int r22), (11, .int v17), (9, .long r13), (0, .ref (ad 22)), (1, .ref (ad 25)), (2, .ref (ad 2)), (3, .ref (ad 20)), (4, .ref (ad 10)), (5, .long x5), (7, .int x7), (8, .int x8)]) hx hb dX5_run_124 hl (by decide) rfl (fun ls hl => ?_)
      refine lv_aload_n hx hb dX5_run_126 rfl (lv_at hl 3 rfl) ?_
      refine va_get (D := D) (ci := 5) (v := .ref (ad 18)) (C := RX5) (T := TX5) (N := 4) hx hb hts u9_wsX5_run_X5 hown hK hP 22 rfl rfl 0 (by decide) (hts (.fieldLink RX5 22 "TurnedFloors$Runner" "machine" "LTurnedFloors$Machine;") f9_wsX5_run_684) (fun _ h9 => h9) rfl dX5_run_127 ?_
      refine va_getN (D := D) (ci := 2) (v := .int (q24.1 18 1)) (C := RX2) (T := TX2) (N := 2) hx hb hts u9_wsX5_run_X2 hown hK hP 18 rfl rfl 1 (by decide) (hN.use (.fieldLinkNest "TurnedFloors$Runner" 67 "TurnedFloors$Machine" "broken" "Z" "TurnedFloors") (by decide +kernel)) (fun _ h9 => h9) rfl dX5_run_130 ?_
      refine lv_if_eq (tgt := 141) hx hb dX5_run_133 (by decide) (fun c9 => ?_) (fun c9 => ?_)
      · rw [if_pos c9] at h
        refine lv_aload_n hx hb dX5_run_141 rfl (lv_at hl 5 rfl) ?_
        refine lv_iload hx hb dX5_run_142 (lv_at hl 1 rfl) ?_
        refine lv_iload hx hb dX5_run_144 (lv_at hl 0 rfl) ?_
        refine lv_aload_n hx hb dX5_run_146 rfl (lv_at hl 6 rfl) ?_
        obtain ⟨r25, q27, h26, h⟩ := dB_some h
        refine dw_ki (va_runV (As := [.int v17, .int r22, .ref (ad 20)]) (rest := []) ⟨hx, hb, hml, hown, hts⟩ (qX8_act_s2_s20 l D ty eo _ ad q24 v17 r22 r25 q27 h26) (cwV 3 hts gX5_run_X8_act rfl rfl rfl (by decide +kernel) ⟨Nat.le_of_ble_eq_true rfl, Nat.le_of_ble_eq_true rfl⟩) (dw_preV (ci := 8) (q0 := 2) hK hN hE hP hD hS hA rfl rfl) rfl rfl hl.1 rfl (lv_room (Nat.le_of_ble_eq_true rfl)) dX5_run_147 ⟨Nat.le_of_ble_eq_true rfl, Nat.le_of_ble_eq_true rfl⟩) hD hS hA (fun r9 u9 H locs hw hp hd hs => ?_)
        clear hP hD hS
        obtain ⟨rfl, rfl⟩ := hw
        have hP := hp; have hD := hd; have hS := hs; clear hp hd hs
        exact WX5_run_s22_s25_s2_s20_s10_150 C0 hk24 hk36 _ _ _ _ _ _ _ _ _ _ h hP hD hS (lv_sub hl [3, 4, 5, 6, 7, 8, 9, 10, 2, 1] rfl)
      · rw [if_neg c9] at h
        refine lv_bipush (v := (-3)) hx hb dX5_run_136 (by decide) ?_
        refine lv_goto (tgt := 150) hx hb dX5_run_138 (by decide) ?_
        exact WX5_run_s22_s25_s2_s20_s10_150 C0 hk24 hk36 _ _ _ _ _ _ _ _ _ _ h hP hD hS (lv_sub hl [3, 4, 5, 6, 7, 8, 9, 10, 2, 1] rfl)
set_option maxHeartbeats 4000000 in
set_option maxRecDepth 100000 in
theorem WX5_run_s22_s25_s2_s20_s10_36 {p : Program} {l : Launch} {e : Env} {s : State} {m : MethodId} {args : Array Value} {below : List Frame} {meth : Method} {c : Code} {D : va_G} {ty : Nat → ClassId} {eo : Nat → Nat} {A : Nat → Prop} {ad : Nat → Nat} {o1 : Int32} {o2 : dK} (C : dc_C p s m args meth c cX5_run (some .int) 14 RX5 wsX5_run D ty eo A) {k24 : dK → Int64 → Int32 → Option (Int32 × dK)} (hk24 : ∀ (q : dK) (x5 : Int64) (x7 : Int32) (H : Heap) (locs : List Loc) (ls : Array Slot), k24 q x5 x7 = some (o1, o2) → va_P D vwCl (wF ty ad q) H → va_D A (wF ty ad q) → va_S A s.heap H locs → lv_has ls 14 [(0, .ref (ad 22)), (1, .ref (ad 25)), (2, .ref (ad 2)), (3, .ref (ad 20)), (4, .ref (ad 10)), (5, .long x5), (7, .int x7)] → W p l e ({ frames := 6, cells := 0, slots := 0, locals := 151 } : Room) s m args below meth c H locs 0 0 (MQ below (va_Qi (fun (r : Int32) (u : va_W) => o1 = r ∧ wF ty ad o2 = u) (kz_B D ty A) A) args s 0 0 A) (F0 m 24 ls [])) (n : Nat) (q : dK) (x5 : Int64) (x7 : Int32) (x8 : Int32) (H : Heap) (locs : List Loc) (ls : Array Slot) (h : zX5_run_s22_s25_s2_s20_s10_36 k24 n q x5 x7 x8 = some (o1, o2)) (hP : va_P D vwCl (wF ty ad q) H) (hD : va_D A (wF ty ad q)) (hS : va_S A s.heap H locs) (hl : lv_has ls 14 [(0, .ref (ad 22)), (1, .ref (ad 25)), (2, .ref (ad 2)), (3, .ref (ad 20)), (4, .ref (ad 10)), (5, .long x5), (7, .int x7), (8, .int x8)]) : W p l e ({ frames := 6, cells := 0, slots := 0, locals := 151 } : Room) s m args below meth c H locs 0 0 (MQ below (va_Qi (fun (r : Int32) (u : va_W) => o1 = r ∧ wF ty ad o2 = u) (kz_B D ty A) A) args s 0 0 A) (F0 m 36 ls []) := by
  exact dFix_W (F := fun k (a : dK × Int64 × Int32 × Int32) => zX5_run_s22_s25_s2_s20_s10_36b k24 (fun q x5 x7 x8 => k (q, x5, x7, x8)) a.1 a.2.1 a.2.2.1 a.2.2.2) (o := (o1, o2)) (P := fun (a : dK × Int64 × Int32 × Int32) H locs ls => va_P D vwCl (wF ty ad a.1) H ∧ va_D A (wF ty ad a.1) ∧ va_S A s.heap H locs ∧ lv_has ls 14 [(0, .ref (ad 22)), (1, .ref (ad 25)), (2, .ref (ad 2)), (3, .ref (ad 20)), (4, .ref (ad 10)), (5, .long a.2.1), (7, .int a.2.2.1), (8, .int a.2.2.2)]) (G := fun H locs ls => W p l e ({ frames := 6, cells := 0, slots := 0, locals := 151 } : Room) s m args below meth c H locs 0 0 (MQ below (va_Qi (fun (r : Int32) (u : va_W) => o1 = r ∧ wF ty ad o2 = u) (kz_B D ty A) A) args s 0 0 A) (F0 m 36 ls []))
    (fun k hk a H locs ls h hp => WX5_run_s22_s25_s2_s20_s10_36b C hk24 (fun q x5 x7 x8 H locs ls h h1 h2 h3 h4 => hk (q, x5, x7, x8) H locs ls h ⟨h1, h2, h3, h4⟩) a.1 a.2.1 a.2.2.1 a.2.2.2 H locs ls h hp.1 hp.2.1 hp.2.2.1 hp.2.2.2) n (q, x5, x7, x8) H locs ls h ⟨hP, hD, hS, hl⟩
set_option maxHeartbeats 4000000 in
set_option maxRecDepth 100000 in
theorem WX5_run_s22_s25_s2_s20_s10_24b {p : Program} {l : Launch} {e : Env} {s : State} {m : MethodId} {args : Array Value} {below : List Frame} {meth : Method} {c : Code} {D : va_G} {ty : Nat → ClassId} {eo : Nat → Nat} {A : Nat → Prop} {ad : Nat → Nat} {o1 : Int32} {o2 : dK} (C : dc_C p s m args meth c cX5_run (some .int) 14 RX5 wsX5_run D ty eo A) {k24 : dK → Int64 → Int32 → Option (Int32 × dK)} (hk24 : ∀ (q : dK) (x5 : Int64) (x7 : Int32) (H : Heap) (locs : List Loc) (ls : Array Slot), k24 q x5 x7 = some (o1, o2) → va_P D vwCl (wF ty ad q) H → va_D A (wF ty ad q) → va_S A s.heap H locs → lv_has ls 14 [(0, .ref (ad 22)), (1, .ref (ad 25)), (2, .ref (ad 2)), (3, .ref (ad 20)), (4, .ref (ad 10)), (5, .long x5), (7, .int x7)] → W p l e ({ frames := 6, cells := 0, slots := 0, locals := 151 } : Room) s m args below meth c H locs 0 0 (MQ below (va_Qi (fun (r : Int32) (u : va_W) => o1 = r ∧ wF ty ad o2 = u) (kz_B D ty A) A) args s 0 0 A) (F0 m 24 ls [])) (q : dK) (x5 : Int64) (x7 : Int32) (H : Heap) (locs : List Loc) (ls : Array Slot) (h : zX5_run_s22_s25_s2_s20_s10_24b k24 q x5 x7 = some (o1, o2)) (hP : va_P D vwCl (wF ty ad q) H) (hD : va_D A (wF ty ad q)) (hS : va_S A s.heap H locs) (hl : lv_has ls 14 [(0, .ref (ad 22)), (1, .ref (ad 25)), (2, .ref (ad 2)), (3, .ref (ad 20)), (4, .ref (ad 10)), (5, .long x5), (7, .int x7)]) : W p l e ({ frames := 6, cells := 0, slots := 0, locals := 151 } : Room) s m args below meth c H locs 0 0 (MQ below (va_Qi (fun (r : Int32) (u : va_W) => o1 = r ∧ wF ty ad o2 = u) (kz_B D ty A) A) args s 0 0 A) (F0 m 24 ls []) := by
  have C0 := C
  obtain ⟨hx, hb, hr, hts, hown, hlocks, hml, hK, hN, hE, hA⟩ := C
  unfold zX5_run_s22_s25_s2_s20_s10_24b at h
  refine lv_iload hx hb dX5_run_24 (lv_at hl 6 rfl) ?_
  refine lv_aload_n hx hb dX5_run_26 rfl (lv_at hl 1 rfl) ?_
  refine va_getN (D := D) (ci := 7) (v := .int (q.1 25 6)) (C := RX7) (T := TX7) (N := 8) hx hb hts u9_wsX5_run_X7 hown hK hP 25 rfl rfl 6 (by decide) (hN.use (.fieldLinkNest "TurnedFloors$Runner" 37 "TurnedFloors$Text" "clauses" "I" "TurnedFloors") (by decide +kernel)) (fun _ h9 => h9) rfl dX5_run_27 ?_
  refine lv_icmp_ge (tgt := 220) hx hb dX5_run_30 (by decide) (fun c9 => ?_) (fun c9 => ?_)
  · rw [if_pos c9] at h
    refine lv_iconst (v := (-1)) hx hb dX5_run_220 (by decide) ?_
    cases h
    exact kz_iret hx hb hr hlocks hP hK hD hS dX5_run_221 ⟨rfl, rfl⟩
  · rw [if_neg c9] at h
    refine lv_iconst (v := 0) hx hb dX5_run_33 (by decide) ?_
    refine lv_istore (lv' := [(8, .int 0), (0, .ref (ad 22)), (1, .ref (ad 25)), (2, .ref (ad 2)), (3, .ref (ad 20)), (4, .ref (ad 10)), (5, .long x5), (7, .int x7)]) hx hb dX5_run_34 hl (by decide) rfl (fun ls hl => ?_)
    exact WX5_run_s22_s25_s2_s20_s10_36 C0 hk24 _ _ _ _ _ _ _ _ h hP hD hS (lv_sub hl [1, 2, 3, 4, 5, 6, 7, 0] rfl)
set_option maxHeartbeats 4000000 in
set_option maxRecDepth 100000 in
theorem WX5_run_s22_s25_s2_s20_s10_24 {p : Program} {l : Launch} {e : Env} {s : State} {m : MethodId} {args : Array Value} {below : List Frame} {meth : Method} {c : Code} {D : va_G} {ty : Nat → ClassId} {eo : Nat → Nat} {A : Nat → Prop} {ad : Nat → Nat} {o1 : Int32} {o2 : dK} (C : dc_C p s m args meth c cX5_run (some .int) 14 RX5 wsX5_run D ty eo A)   (n : Nat) (q : dK) (x5 : Int64) (x7 : Int32) (H : Heap) (locs : List Loc) (ls : Array Slot) (h : zX5_run_s22_s25_s2_s20_s10_24  n q x5 x7 = some (o1, o2)) (hP : va_P D vwCl (wF ty ad q) H) (hD : va_D A (wF ty ad q)) (hS : va_S A s.heap H locs) (hl : lv_has ls 14 [(0, .ref (ad 22)), (1, .ref (ad 25)), (2, .ref (ad 2)), (3, .ref (ad 20)), (4, .ref (ad 10)), (5, .long x5), (7, .int x7)]) : W p l e ({ frames := 6, cells := 0, slots := 0, locals := 151 } : Room) s m args below meth c H locs 0 0 (MQ below (va_Qi (fun (r : Int32) (u : va_W) => o1 = r ∧ wF ty ad o2 = u) (kz_B D ty A) A) args s 0 0 A) (F0 m 24 ls []) := by
  exact dFix_W (F := fun k (a : dK × Int64 × Int32) => zX5_run_s22_s25_s2_s20_s10_24b  (fun q x5 x7 => k (q, x5, x7)) a.1 a.2.1 a.2.2) (o := (o1, o2)) (P := fun (a : dK × Int64 × Int32) H locs ls => va_P D vwCl (wF ty ad a.1) H ∧ va_D A (wF ty ad a.1) ∧ va_S A s.heap H locs ∧ lv_has ls 14 [(0, .ref (ad 22)), (1, .ref (ad 25)), (2, .ref (ad 2)), (3, .ref (ad 20)), (4, .ref (ad 10)), (5, .long a.2.1), (7, .int a.2.2)]) (G := fun H locs ls => W p l e ({ frames := 6, cells := 0, slots := 0, locals := 151 } : Room) s m args below meth c H locs 0 0 (MQ below (va_Qi (fun (r : Int32) (u : va_W) => o1 = r ∧ wF ty ad o2 = u) (kz_B D ty A) A) args s 0 0 A) (F0 m 24 ls []))
    (fun k hk a H locs ls h hp => WX5_run_s22_s25_s2_s20_s10_24b C  (fun q x5 x7 H locs ls h h1 h2 h3 h4 => hk (q, x5, x7) H locs ls h ⟨h1, h2, h3, h4⟩) a.1 a.2.1 a.2.2 H locs ls h hp.1 hp.2.1 hp.2.2.1 hp.2.2.2) n (q, x5, x7) H locs ls h ⟨hP, hD, hS, hl⟩
set_option maxHeartbeats 4000000 in
set_option maxRecDepth 100000 in
theorem qX5_run_s22_s25_s2_s20_s10 (l : Launch) (D : va_G) (ty : Nat → ClassId) (eo : Nat → Nat) (sz : Nat) (ad : Nat → Nat) (q : dK)  (o1 : Int32) (o2 : dK) (h : zX5_run_s22_s25_s2_s20_s10 q = some (o1, o2)) : Met l yX5_run wsX5_run ({ frames := 6, cells := 0, slots := 0, locals := 151 } : Room) (va_Pc [.ref (ad 22), .ref (ad 25), .ref (ad 2), .ref (ad 20), .ref (ad 10)] (kz_pre D ty eo (wF ty ad q) sz)) (va_Qi (fun (r : Int32) (u : va_W) => o1 = r ∧ wF ty ad o2 = u) (kz_B D ty (va_A (wF ty ad q) sz)) (va_A (wF ty ad q) sz)) 0 0 (va_A (wF ty ad q) sz) := by
  refine Met.ofW (cc := cX5_run) (maxL := 14) (ret := (some .int)) (by decide) rfl ?_
  intro p e s m args below meth c s₁ B hml hv
  obtain ⟨rfl, hsz, hP, hK, hD0, hN, hE⟩ := hv
  have hx := B.exec
  have hb := B.bytes
  have hr := B.returns
  have hts := atoms_spec (ws := wsX5_run) B.pre
  have hown : s.vm.findClass RX5 = some m.cls := findClass_of_methodNamed B.named
  have hlocks := B.notSynchronized
  subst hsz
  have hD := hD0.self (sz := s.heap.size)
  generalize hAe : va_A (wF ty ad q) s.heap.size = A at hD hE ⊢
  have hA : ∀ q : Nat, s.heap.size ≤ q → A q := fun q h => by rw [← hAe]; exact Or.inr h
  clear hAe
  have hS : va_S A s.heap s.heap [] := va_S.rf
  have hl := lv_entry ([.ref (ad 22), .ref (ad 25), .ref (ad 2), .ref (ad 20), .ref (ad 10)]) (n := 14) (Nat.le_of_ble_eq_true rfl)
  rw [lg_entry_eq]
  generalize (lg_sl ([.ref (ad 22), .ref (ad 25), .ref (ad 2), .ref (ad 20), .ref (ad 10)]) ++ List.replicate (14 - (lg_sl ([.ref (ad 22), .ref (ad 25), .ref (ad 2), .ref (ad 20), .ref (ad 10)])).length) Slot.unset).toArray = ls at hl ⊢
  have hl : lv_has ls 14 [(0, .ref (ad 22)), (1, .ref (ad 25)), (2, .ref (ad 2)), (3, .ref (ad 20)), (4, .ref (ad 10))] := hl
  have C : dc_C p s m _ meth c cX5_run (some .int) 14 RX5 wsX5_run D ty eo A := ⟨hx, hb, hr, hts, hown, hlocks, hml, hK, hN, hE, hA⟩
  unfold zX5_run_s22_s25_s2_s20_s10 at h
  refine lv_aload_n hx hb dX5_run_0 rfl (lv_at hl 2 rfl) ?_
  obtain ⟨r1, q3, h2, h⟩ := dB_some h
  refine dw_kl (va_runV (As := []) (rest := []) ⟨hx, hb, hml, hown, hts⟩ (qX8_pack_s2 l D ty eo _ ad q  r1 q3 h2) (cwV 0 hts gX5_run_X8_pack rfl rfl rfl (by decide +kernel) ⟨Nat.le_of_ble_eq_true rfl, Nat.le_of_ble_eq_true rfl⟩) (dw_preV (ci := 8) (q0 := 2) hK hN hE hP hD hS hA rfl rfl) rfl rfl hl.1 rfl (lv_room (Nat.le_of_ble_eq_true rfl)) dX5_run_1 ⟨Nat.le_of_ble_eq_true rfl, Nat.le_of_ble_eq_true rfl⟩) hD hS hA (fun r9 u9 H locs hw hp hd hs => ?_)
  clear hP hD hS
  obtain ⟨rfl, rfl⟩ := hw
  have hP := hp; have hD := hd; have hS := hs; clear hp hd hs
  refine lv_lstore (lv' := [(5, .long r1), (0, .ref (ad 22)), (1, .ref (ad 25)), (2, .ref (ad 2)), (3, .ref (ad 20)), (4, .ref (ad 10))]) hx hb dX5_run_4 hl (by decide) rfl (fun ls hl => ?_)
  refine lv_aload hx hb dX5_run_6 (lv_at hl 5 rfl) ?_
  obtain ⟨q6, h5, h⟩ := dV_some h
  refine dw_kv (va_runV (As := []) (rest := []) ⟨hx, hb, hml, hown, hts⟩ (qX0_mark_s10 l D ty eo _ ad q3  q6 h5) (cwV 0 hts gX5_run_X0_mark rfl rfl rfl (by decide +kernel) ⟨Nat.le_of_ble_eq_true rfl, Nat.le_of_ble_eq_true rfl⟩) (dw_preV (ci := 0) (q0 := 10) hK hN hE hP hD hS hA rfl rfl) rfl rfl hl.1 rfl (lv_room (Nat.le_of_ble_eq_true rfl)) dX5_run_8 ⟨Nat.le_of_ble_eq_true rfl, Nat.le_of_ble_eq_true rfl⟩) hD hS hA (fun u9 H locs hw hp hd hs => ?_)
  clear hP hD hS
  obtain rfl := hw
  have hP := hp; have hD := hd; have hS := hs; clear hp hd hs
  refine lv_aload_n hx hb dX5_run_11 rfl (lv_at hl 1 rfl) ?_
  refine lv_iconst (v := 0) hx hb dX5_run_12 (by decide) ?_
  refine va_put (D := D) (ci := 5) (v := .int 0) (ty := .int) (C := RX5) (T := TX5) (N := 4) hx hb hts u9_wsX5_run_X5 tyX5 tyX5_ok nmX5 hown hK hP hD hS 22 rfl rfl 2 (by decide) (hts (.fieldLink RX5 15 "TurnedFloors$Runner" "done" "I") f9_wsX5_run_681) (fun _ h9 => h9) rfl (by decide +kernel) rfl rfl (Nat.le_of_ble_eq_true rfl) dX5_run_13 (fun H locs hp hd hs => ?_)
  obtain ⟨q7, eq7, h⟩ := dL_some h
  refine kz_re (w2 := wF ty ad q7) hp hd hs (by rw [← eq7]; exact wF_f22_2 ty ad q6 0) ?_
  clear hp hd hs hP hD hS
  intro hP hD hS
  refine lv_aload_n hx hb dX5_run_16 rfl (lv_at hl 1 rfl) ?_
  refine lv_iconst (v := (-1)) hx hb dX5_run_17 (by decide) ?_
  refine va_put (D := D) (ci := 5) (v := .int (-1)) (ty := .int) (C := RX5) (T := TX5) (N := 4) hx hb hts u9_wsX5_run_X5 tyX5 tyX5_ok nmX5 hown hK hP hD hS 22 rfl rfl 3 (by decide) (hts (.fieldLink RX5 19 "TurnedFloors$Runner" "latest" "I") f9_wsX5_run_680) (fun _ h9 => h9) rfl (by decide +kernel) rfl rfl (Nat.le_of_ble_eq_true rfl) dX5_run_18 (fun H locs hp hd hs => ?_)
  obtain ⟨q8, eq8, h⟩ := dL_some h
  refine kz_re (w2 := wF ty ad q8) hp hd hs (by rw [← eq8]; exact wF_f22_3 ty ad q7 (-1)) ?_
  clear hp hd hs hP hD hS
  intro hP hD hS
  refine lv_iconst (v := 0) hx hb dX5_run_21 (by decide) ?_
  refine lv_istore (lv' := [(7, .int 0), (5, .long r1), (0, .ref (ad 22)), (1, .ref (ad 25)), (2, .ref (ad 2)), (3, .ref (ad 20)), (4, .ref (ad 10))]) hx hb dX5_run_22 hl (by decide) rfl (fun ls hl => ?_)
  exact WX5_run_s22_s25_s2_s20_s10_24 C  _ _ _ _ _ _ _ h hP hD hS (lv_sub hl [2, 3, 4, 5, 6, 1, 0] rfl)

set_option maxHeartbeats 4000000 in
set_option maxRecDepth 100000 in
theorem WX9_orders_s0_109 {p : Program} {l : Launch} {e : Env} {s : State} {m : MethodId} {args : Array Value} {below : List Frame} {meth : Method} {c : Code} {D : va_G} {ty : Nat → ClassId} {eo : Nat → Nat} {A : Nat → Prop} {ad : Nat → Nat} {o1 : Int32} {o2 : dK} (C : dc_C p s m args meth c cX9_orders (some .int) 2 RX9 wsX9_orders D ty eo A)   (q : dK) (y0 : Int32) (H : Heap) (locs : List Loc) (ls : Array Slot) (h : zX9_orders_s0_109  q y0 = some (o1, o2)) (hP : va_P D vwCl (wF ty ad q) H) (hD : va_D A (wF ty ad q)) (hS : va_S A s.heap H locs) (hl : lv_has ls 2 []) : W p l e ({ frames := 77, cells := 0, slots := 0, locals := 1858 } : Room) s m args below meth c H locs 0 0 (MQ below (va_Qi (fun (r : Int32) (u : va_W) => o1 = r ∧ wF ty ad o2 = u) (kz_B D ty A) A) args s 0 0 A) (F0 m 109 ls [.int y0]) := by
  have C0 := C
  obtain ⟨hx, hb, hr, hts, hown, hlocks, hml, hK, hN, hE, hA⟩ := C
  unfold zX9_orders_s0_109 at h
  cases h
  exact kz_iret hx hb hr hlocks hP hK hD hS dX9_orders_109 ⟨rfl, rfl⟩
set_option maxHeartbeats 4000000 in
set_option maxRecDepth 100000 in
theorem qX9_orders_s0 (l : Launch) (D : va_G) (ty : Nat → ClassId) (eo : Nat → Nat) (sz : Nat) (ad : Nat → Nat) (q : dK)  (o1 : Int32) (o2 : dK) (h : zX9_orders_s0 q = some (o1, o2)) : Met l yX9_orders wsX9_orders ({ frames := 77, cells := 0, slots := 0, locals := 1858 } : Room) (va_Pc [.ref (ad 0)] (kz_pre D ty eo (wF ty ad q) sz)) (va_Qi (fun (r : Int32) (u : va_W) => o1 = r ∧ wF ty ad o2 = u) (kz_B D ty (va_A (wF ty ad q) sz)) (va_A (wF ty ad q) sz)) 0 0 (va_A (wF ty ad q) sz) := by
  refine Met.ofW (cc := cX9_orders) (maxL := 2) (ret := (some .int)) (by decide) rfl ?_
  intro p e s m args below meth c s₁ B hml hv
  obtain ⟨rfl, hsz, hP, hK, hD0, hN, hE⟩ := hv
  have hx := B.exec
  have hb := B.bytes
  have hr := B.returns
  have hts := atoms_spec (ws := wsX9_orders) B.pre
  have hown : s.vm.findClass RX9 = some m.cls := findClass_of_methodNamed B.named
  have hlocks := B.notSynchronized
  subst hsz
  have hD := hD0.self (sz := s.heap.size)
  generalize hAe : va_A (wF ty ad q) s.heap.size = A at hD hE ⊢
  have hA : ∀ q : Nat, s.heap.size ≤ q → A q := fun q h => by rw [← hAe]; exact Or.inr h
  clear hAe
  have hS : va_S A s.heap s.heap [] := va_S.rf
  have hl := lv_entry ([.ref (ad 0)]) (n := 2) (Nat.le_of_ble_eq_true rfl)
  rw [lg_entry_eq]
  generalize (lg_sl ([.ref (ad 0)]) ++ List.replicate (2 - (lg_sl ([.ref (ad 0)])).length) Slot.unset).toArray = ls at hl ⊢
  have hl : lv_has ls 2 [(0, .ref (ad 0))] := hl
  have C : dc_C p s m _ meth c cX9_orders (some .int) 2 RX9 wsX9_orders D ty eo A := ⟨hx, hb, hr, hts, hown, hlocks, hml, hK, hN, hE, hA⟩
  unfold zX9_orders_s0 at h
  refine lv_aload_n hx hb dX9_orders_0 rfl (lv_at hl 0 rfl) ?_
  refine va_get (D := D) (ci := 9) (v := .int (q.1 0 12)) (C := RX9) (T := TX9) (N := 19) hx hb hts u9_wsX9_orders_X9 hown hK hP 0 rfl rfl 12 (by decide) (hts (.fieldLink RX9 88 "TurnedFloors" "tapeLength" "I") f9_wsX9_orders_689) (fun _ h9 => h9) rfl dX9_orders_1 ?_
  refine lv_istore_n (lv' := [(1, .int (q.1 0 12)), (0, .ref (ad 0))]) hx hb dX9_orders_4 rfl hl (by decide) rfl (fun ls hl => ?_)
  refine lv_aload_n hx hb dX9_orders_5 rfl (lv_at hl 1 rfl) ?_
  refine lv_iconst (v := 0) hx hb dX9_orders_6 (by decide) ?_
  refine va_put (D := D) (ci := 9) (v := .int 0) (ty := .int) (C := RX9) (T := TX9) (N := 19) hx hb hts u9_wsX9_orders_X9 tyX9 tyX9_ok nmX9 hown hK hP hD hS 0 rfl rfl 12 (by decide) (hts (.fieldLink RX9 88 "TurnedFloors" "tapeLength" "I") f9_wsX9_orders_689) (fun _ h9 => h9) rfl (by decide +kernel) rfl rfl (Nat.le_of_ble_eq_true rfl) dX9_orders_7 (fun H locs hp hd hs => ?_)
  obtain ⟨q1, eq1, h⟩ := dL_some h
  refine kz_re (w2 := wF ty ad q1) hp hd hs (by rw [← eq1]; exact wF_f0_12 ty ad q 0) ?_
  clear hp hd hs hP hD hS
  intro hP hD hS
  refine lv_aload_n hx hb dX9_orders_10 rfl (lv_at hl 1 rfl) ?_
  refine lv_iconst (v := (-1)) hx hb dX9_orders_11 (by decide) ?_
  refine va_put (D := D) (ci := 9) (v := .int (-1)) (ty := .int) (C := RX9) (T := TX9) (N := 19) hx hb hts u9_wsX9_orders_X9 tyX9 tyX9_ok nmX9 hown hK hP hD hS 0 rfl rfl 15 (by decide) (hts (.fieldLink RX9 98 "TurnedFloors" "stoppedClause" "I") f9_wsX9_orders_690) (fun _ h9 => h9) rfl (by decide +kernel) rfl rfl (Nat.le_of_ble_eq_true rfl) dX9_orders_12 (fun H locs hp hd hs => ?_)
  obtain ⟨q2, eq2, h⟩ := dL_some h
  refine kz_re (w2 := wF ty ad q2) hp hd hs (by rw [← eq2]; exact wF_f0_15 ty ad q1 (-1)) ?_
  clear hp hd hs hP hD hS
  intro hP hD hS
  refine lv_aload_n hx hb dX9_orders_15 rfl (lv_at hl 1 rfl) ?_
  refine lv_aload_n hx hb dX9_orders_16 rfl (lv_at hl 1 rfl) ?_
  refine va_get (D := D) (ci := 9) (v := .ref (ad 24)) (C := RX9) (T := TX9) (N := 19) hx hb hts u9_wsX9_orders_X9 hown hK hP 0 rfl rfl 8 (by decide) (hts (.fieldLink RX9 64 "TurnedFloors" "reader" "LTurnedFloors$Reader;") f9_wsX9_orders_691) (fun _ h9 => h9) rfl dX9_orders_17 ?_
  refine lv_aload_n hx hb dX9_orders_20 rfl (lv_at hl 1 rfl) ?_
  refine va_get (D := D) (ci := 9) (v := .ref (ad 46)) (C := RX9) (T := TX9) (N := 19) hx hb hts u9_wsX9_orders_X9 hown hK hP 0 rfl rfl 11 (by decide) (hts (.fieldLink RX9 84 "TurnedFloors" "tape" "[I") f9_wsX9_orders_692) (fun _ h9 => h9) rfl dX9_orders_21 ?_
  refine lv_iload_n hx hb dX9_orders_24 rfl (lv_at hl 0 rfl) ?_
  refine lv_iconst (v := 1) hx hb dX9_orders_25 (by decide) ?_
  refine lv_aload_n hx hb dX9_orders_26 rfl (lv_at hl 1 rfl) ?_
  refine va_get (D := D) (ci := 9) (v := .ref (ad 25)) (C := RX9) (T := TX9) (N := 19) hx hb hts u9_wsX9_orders_X9 hown hK hP 0 rfl rfl 9 (by decide) (hts (.fieldLink RX9 73 "TurnedFloors" "draft" "LTurnedFloors$Text;") f9_wsX9_orders_693) (fun _ h9 => h9) rfl dX9_orders_27 ?_
  obtain ⟨r3, q5, h4, h⟩ := dB_some h
  refine dw_ki (va_runV (As := [.ref (ad 46), .int (q.1 0 12), .int 1, .ref (ad 25)]) (rest := [.ref (ad 0)]) ⟨hx, hb, hml, hown, hts⟩ (qX4_read_s24_s46_s25 l D ty eo _ ad q2 (q.1 0 12) 1 r3 q5 h4) (cwV 4 hts gX9_orders_X4_read rfl rfl rfl (by decide +kernel) ⟨Nat.le_of_ble_eq_true rfl, Nat.le_of_ble_eq_true rfl⟩) (dw_preV (ci := 4) (q0 := 24) hK hN hE hP hD hS hA rfl rfl) rfl rfl hl.1 rfl (lv_room (Nat.le_of_ble_eq_true rfl)) dX9_orders_30 ⟨Nat.le_of_ble_eq_true rfl, Nat.le_of_ble_eq_true rfl⟩) hD hS hA (fun r9 u9 H locs hw hp hd hs => ?_)
  clear hP hD hS
  obtain ⟨rfl, rfl⟩ := hw
  have hP := hp; have hD := hd; have hS := hs; clear hp hd hs
  refine va_put (D := D) (ci := 9) (v := .int r3) (ty := .int) (C := RX9) (T := TX9) (N := 19) hx hb hts u9_wsX9_orders_X9 tyX9 tyX9_ok nmX9 hown hK hP hD hS 0 rfl rfl 13 (by decide) (hts (.fieldLink RX9 92 "TurnedFloors" "faultPlace" "I") f9_wsX9_orders_694) (fun _ h9 => h9) rfl (by decide +kernel) rfl rfl (Nat.le_of_ble_eq_true rfl) dX9_orders_33 (fun H locs hp hd hs => ?_)
  obtain ⟨q6, eq6, h⟩ := dL_some h
  refine kz_re (w2 := wF ty ad q6) hp hd hs (by rw [← eq6]; exact wF_f0_13 ty ad q5 r3) ?_
  clear hp hd hs hP hD hS
  intro hP hD hS
  refine lv_aload_n hx hb dX9_orders_36 rfl (lv_at hl 1 rfl) ?_
  refine va_get (D := D) (ci := 9) (v := .int (q6.1 0 13)) (C := RX9) (T := TX9) (N := 19) hx hb hts u9_wsX9_orders_X9 hown hK hP 0 rfl rfl 13 (by decide) (hts (.fieldLink RX9 92 "TurnedFloors" "faultPlace" "I") f9_wsX9_orders_694) (fun _ h9 => h9) rfl dX9_orders_37 ?_
  refine lv_iconst (v := (-1)) hx hb dX9_orders_40 (by decide) ?_
  refine lv_icmp_eq (tgt := 51) hx hb dX9_orders_41 (by decide) (fun c9 => ?_) (fun c9 => ?_)
  · rw [if_pos c9] at h
    refine lv_aload_n hx hb dX9_orders_51 rfl (lv_at hl 1 rfl) ?_
    refine lv_aload_n hx hb dX9_orders_52 rfl (lv_at hl 1 rfl) ?_
    refine va_get (D := D) (ci := 9) (v := .ref (ad 22)) (C := RX9) (T := TX9) (N := 19) hx hb hts u9_wsX9_orders_X9 hown hK hP 0 rfl rfl 7 (by decide) (hts (.fieldLink RX9 57 "TurnedFloors" "runner" "LTurnedFloors$Runner;") f9_wsX9_orders_695) (fun _ h9 => h9) rfl dX9_orders_53 ?_
    refine lv_aload_n hx hb dX9_orders_56 rfl (lv_at hl 1 rfl) ?_
    refine va_get (D := D) (ci := 9) (v := .ref (ad 25)) (C := RX9) (T := TX9) (N := 19) hx hb hts u9_wsX9_orders_X9 hown hK hP 0 rfl rfl 9 (by decide) (hts (.fieldLink RX9 73 "TurnedFloors" "draft" "LTurnedFloors$Text;") f9_wsX9_orders_693) (fun _ h9 => h9) rfl dX9_orders_57 ?_
    refine lv_aload_n hx hb dX9_orders_60 rfl (lv_at hl 1 rfl) ?_
    refine va_get (D := D) (ci := 9) (v := .ref (ad 1)) (C := RX9) (T := TX9) (N := 19) hx hb hts u9_wsX9_orders_X9 hown hK hP 0 rfl rfl 0 (by decide) (hts (.fieldLink RX9 10 "TurnedFloors" "state" "LTurnedFloors$State;") f9_wsX9_orders_696) (fun _ h9 => h9) rfl dX9_orders_61 ?_
    refine va_getN (D := D) (ci := 6) (v := .ref (ad 2)) (C := RX6) (T := TX6) (N := 10) hx hb hts u9_wsX9_orders_X6 hown hK hP 1 rfl rfl 0 (by decide) (hN.use (.fieldLinkNest "TurnedFloors" 122 "TurnedFloors$State" "tower" "LTurnedFloors$Tower;" "TurnedFloors") (by decide +kernel)) (fun _ h9 => h9) rfl dX9_orders_64 ?_
    refine lv_aload_n hx hb dX9_orders_67 rfl (lv_at hl 1 rfl) ?_
    obtain ⟨q9, h8, h⟩ := dV_some h
    refine dw_kq (va_runV (As := []) (rest := [.ref (ad 2), .ref (ad 25), .ref (ad 22), .ref (ad 0)]) ⟨hx, hb, hml, hown, hts⟩ (qX9_seated_s0 l D ty eo _ ad q6  q9 h8) (cwV 0 hts gX9_orders_X9_seated rfl rfl rfl (by decide +kernel) ⟨Nat.le_of_ble_eq_true rfl, Nat.le_of_ble_eq_true rfl⟩) (dw_preV (ci := 9) (q0 := 0) hK hN hE hP hD hS hA rfl rfl) rfl rfl hl.1 rfl (lv_room (Nat.le_of_ble_eq_true rfl)) dX9_orders_68 ⟨Nat.le_of_ble_eq_true rfl, Nat.le_of_ble_eq_true rfl⟩) hP hD hS hA (fun r9 u9 H locs hw hp hd hs => ?_)
    clear hP hD hS
    obtain ⟨rfl, rfl⟩ := hw
    have hP := hp; have hD := hd; have hS := hs; clear hp hd hs
    refine lv_aload_n hx hb dX9_orders_71 rfl (lv_at hl 1 rfl) ?_
    refine va_get (D := D) (ci := 9) (v := .ref (ad 10)) (C := RX9) (T := TX9) (N := 19) hx hb hts u9_wsX9_orders_X9 hown hK hP 0 rfl rfl 3 (by decide) (hts (.fieldLink RX9 27 "TurnedFloors" "history" "LTurnedFloors$History;") f9_wsX9_orders_697) (fun _ h9 => h9) rfl dX9_orders_72 ?_
    obtain ⟨r10, q12, h11, h⟩ := dB_some h
    refine dw_ki (va_runV (As := [.ref (ad 25), .ref (ad 2), .ref (ad 20), .ref (ad 10)]) (rest := [.ref (ad 0)]) ⟨hx, hb, hml, hown, hts⟩ (qX5_run_s22_s25_s2_s20_s10 l D ty eo _ ad q9  r10 q12 h11) (cwV 4 hts gX9_orders_X5_run rfl rfl rfl (by decide +kernel) ⟨Nat.le_of_ble_eq_true rfl, Nat.le_of_ble_eq_true rfl⟩) (dw_preV (ci := 5) (q0 := 22) hK hN hE hP hD hS hA rfl rfl) rfl rfl hl.1 rfl (lv_room (Nat.le_of_ble_eq_true rfl)) dX9_orders_75 ⟨Nat.le_of_ble_eq_true rfl, Nat.le_of_ble_eq_true rfl⟩) hD hS hA (fun r9 u9 H locs hw hp hd hs => ?_)
    clear hP hD hS
    obtain ⟨rfl, rfl⟩ := hw
    have hP := hp; have hD := hd; have hS := hs; clear hp hd hs
    refine va_put (D := D) (ci := 9) (v := .int r10) (ty := .int) (C := RX9) (T := TX9) (N := 19) hx hb hts u9_wsX9_orders_X9 tyX9 tyX9_ok nmX9 hown hK hP hD hS 0 rfl rfl 15 (by decide) (hts (.fieldLink RX9 98 "TurnedFloors" "stoppedClause" "I") f9_wsX9_orders_690) (fun _ h9 => h9) rfl (by decide +kernel) rfl rfl (Nat.le_of_ble_eq_true rfl) dX9_orders_78 (fun H locs hp hd hs => ?_)
    obtain ⟨q13, eq13, h⟩ := dL_some h
    refine kz_re (w2 := wF ty ad q13) hp hd hs (by rw [← eq13]; exact wF_f0_15 ty ad q12 r10) ?_
    clear hp hd hs hP hD hS
    intro hP hD hS
    refine lv_aload_n hx hb dX9_orders_81 rfl (lv_at hl 1 rfl) ?_
    refine va_get (D := D) (ci := 9) (v := .int (q13.1 0 15)) (C := RX9) (T := TX9) (N := 19) hx hb hts u9_wsX9_orders_X9 hown hK hP 0 rfl rfl 15 (by decide) (hts (.fieldLink RX9 98 "TurnedFloors" "stoppedClause" "I") f9_wsX9_orders_690) (fun _ h9 => h9) rfl dX9_orders_82 ?_
    refine lv_iconst (v := (-1)) hx hb dX9_orders_85 (by decide) ?_
    refine lv_icmp_ne (tgt := 103) hx hb dX9_orders_86 (by decide) (fun c9 => ?_) (fun c9 => ?_)
    · rw [if_neg c9] at h
      refine lv_aload_n hx hb dX9_orders_103 rfl (lv_at hl 1 rfl) ?_
      refine lv_bipush (v := (-3)) hx hb dX9_orders_104 (by decide) ?_
      obtain ⟨r14, q16, h15, h⟩ := dB_some h
      refine dw_ki (va_runV (As := [.int (-3)]) (rest := []) ⟨hx, hb, hml, hown, hts⟩ (qX9_refuse_s0 l D ty eo _ ad q13 (-3) r14 q16 h15) (cwV 1 hts gX9_orders_X9_refuse rfl rfl rfl (by decide +kernel) ⟨Nat.le_of_ble_eq_true rfl, Nat.le_of_ble_eq_true rfl⟩) (dw_preV (ci := 9) (q0 := 0) hK hN hE hP hD hS hA rfl rfl) rfl rfl hl.1 rfl (lv_room (Nat.le_of_ble_eq_true rfl)) dX9_orders_106 ⟨Nat.le_of_ble_eq_true rfl, Nat.le_of_ble_eq_true rfl⟩) hD hS hA (fun r9 u9 H locs hw hp hd hs => ?_)
      clear hP hD hS
      obtain ⟨rfl, rfl⟩ := hw
      have hP := hp; have hD := hd; have hS := hs; clear hp hd hs
      exact WX9_orders_s0_109 C  _ _ _ _ _ h hP hD hS (lv_sub hl [] rfl)
    · rw [if_pos c9] at h
      refine lv_aload_n hx hb dX9_orders_89 rfl (lv_at hl 1 rfl) ?_
      refine lv_aload_n hx hb dX9_orders_90 rfl (lv_at hl 1 rfl) ?_
      refine va_get (D := D) (ci := 9) (v := .ref (ad 22)) (C := RX9) (T := TX9) (N := 19) hx hb hts u9_wsX9_orders_X9 hown hK hP 0 rfl rfl 7 (by decide) (hts (.fieldLink RX9 57 "TurnedFloors" "runner" "LTurnedFloors$Runner;") f9_wsX9_orders_695) (fun _ h9 => h9) rfl dX9_orders_91 ?_
      refine va_getN (D := D) (ci := 5) (v := .int (q13.1 22 2)) (C := RX5) (T := TX5) (N := 4) hx hb hts u9_wsX9_orders_X5 hown hK hP 22 rfl rfl 2 (by decide) (hN.use (.fieldLinkNest "TurnedFloors" 202 "TurnedFloors$Runner" "done" "I" "TurnedFloors") (by decide +kernel)) (fun _ h9 => h9) rfl dX9_orders_94 ?_
      obtain ⟨r17, q19, h18, h⟩ := dB_some h
      refine dw_ki (va_runV (As := [.int (q13.1 22 2)]) (rest := []) ⟨hx, hb, hml, hown, hts⟩ (qX9_accept_s0 l D ty eo _ ad q13 (q13.1 22 2) r17 q19 h18) (cwV 1 hts gX9_orders_X9_accept rfl rfl rfl (by decide +kernel) ⟨Nat.le_of_ble_eq_true rfl, Nat.le_of_ble_eq_true rfl⟩) (dw_preV (ci := 9) (q0 := 0) hK hN hE hP hD hS hA rfl rfl) rfl rfl hl.1 rfl (lv_room (Nat.le_of_ble_eq_true rfl)) dX9_orders_97 ⟨Nat.le_of_ble_eq_true rfl, Nat.le_of_ble_eq_true rfl⟩) hD hS hA (fun r9 u9 H locs hw hp hd hs => ?_)
      clear hP hD hS
      obtain ⟨rfl, rfl⟩ := hw
      have hP := hp; have hD := hd; have hS := hs; clear hp hd hs
      refine lv_goto (tgt := 109) hx hb dX9_orders_100 (by decide) ?_
      exact WX9_orders_s0_109 C  _ _ _ _ _ h hP hD hS (lv_sub hl [] rfl)
  · rw [if_neg c9] at h
    refine lv_aload_n hx hb dX9_orders_44 rfl (lv_at hl 1 rfl) ?_
    refine lv_bipush (v := (-6)) hx hb dX9_orders_45 (by decide) ?_
    obtain ⟨r20, q22, h21, h⟩ := dB_some h
    refine dw_ki (va_runV (As := [.int (-6)]) (rest := []) ⟨hx, hb, hml, hown, hts⟩ (qX9_refuse_s0 l D ty eo _ ad q6 (-6) r20 q22 h21) (cwV 1 hts gX9_orders_X9_refuse rfl rfl rfl (by decide +kernel) ⟨Nat.le_of_ble_eq_true rfl, Nat.le_of_ble_eq_true rfl⟩) (dw_preV (ci := 9) (q0 := 0) hK hN hE hP hD hS hA rfl rfl) rfl rfl hl.1 rfl (lv_room (Nat.le_of_ble_eq_true rfl)) dX9_orders_47 ⟨Nat.le_of_ble_eq_true rfl, Nat.le_of_ble_eq_true rfl⟩) hD hS hA (fun r9 u9 H locs hw hp hd hs => ?_)
    clear hP hD hS
    obtain ⟨rfl, rfl⟩ := hw
    have hP := hp; have hD := hd; have hS := hs; clear hp hd hs
    cases h
    exact kz_iret hx hb hr hlocks hP hK hD hS dX9_orders_50 ⟨rfl, rfl⟩

set_option maxHeartbeats 4000000 in
set_option maxRecDepth 100000 in
theorem qX9_fault_s0 (l : Launch) (D : va_G) (ty : Nat → ClassId) (eo : Nat → Nat) (sz : Nat) (ad : Nat → Nat) (q : dK)  (o1 : Int32) (o2 : dK) (h : zX9_fault_s0 q = some (o1, o2)) : Met l yX9_fault wsX9_fault ({ frames := 0, cells := 0, slots := 0, locals := 0 } : Room) (va_Pc [.ref (ad 0)] (kz_pre D ty eo (wF ty ad q) sz)) (va_Qi (fun (r : Int32) (u : va_W) => o1 = r ∧ wF ty ad o2 = u) (kz_B D ty (va_A (wF ty ad q) sz)) (va_A (wF ty ad q) sz)) 0 0 (va_A (wF ty ad q) sz) := by
  refine Met.ofW (cc := cX9_fault) (maxL := 1) (ret := (some .int)) (by decide) rfl ?_
  intro p e s m args below meth c s₁ B hml hv
  obtain ⟨rfl, hsz, hP, hK, hD0, hN, hE⟩ := hv
  have hx := B.exec
  have hb := B.bytes
  have hr := B.returns
  have hts := atoms_spec (ws := wsX9_fault) B.pre
  have hown : s.vm.findClass RX9 = some m.cls := findClass_of_methodNamed B.named
  have hlocks := B.notSynchronized
  subst hsz
  have hD := hD0.self (sz := s.heap.size)
  generalize hAe : va_A (wF ty ad q) s.heap.size = A at hD hE ⊢
  have hA : ∀ q : Nat, s.heap.size ≤ q → A q := fun q h => by rw [← hAe]; exact Or.inr h
  clear hAe
  have hS : va_S A s.heap s.heap [] := va_S.rf
  have hl := lv_entry ([.ref (ad 0)]) (n := 1) (Nat.le_of_ble_eq_true rfl)
  rw [lg_entry_eq]
  generalize (lg_sl ([.ref (ad 0)]) ++ List.replicate (1 - (lg_sl ([.ref (ad 0)])).length) Slot.unset).toArray = ls at hl ⊢
  have hl : lv_has ls 1 [(0, .ref (ad 0))] := hl
  have C : dc_C p s m _ meth c cX9_fault (some .int) 1 RX9 wsX9_fault D ty eo A := ⟨hx, hb, hr, hts, hown, hlocks, hml, hK, hN, hE, hA⟩
  unfold zX9_fault_s0 at h
  refine lv_aload_n hx hb dX9_fault_0 rfl (lv_at hl 0 rfl) ?_
  refine va_get (D := D) (ci := 9) (v := .int (q.1 0 13)) (C := RX9) (T := TX9) (N := 19) hx hb hts u9_wsX9_fault_X9 hown hK hP 0 rfl rfl 13 (by decide) (hts (.fieldLink RX9 92 "TurnedFloors" "faultPlace" "I") f9_wsX9_fault_699) (fun _ h9 => h9) rfl dX9_fault_1 ?_
  cases h
  exact kz_iret hx hb hr hlocks hP hK hD hS dX9_fault_4 ⟨rfl, rfl⟩

set_option maxHeartbeats 4000000 in
set_option maxRecDepth 100000 in
theorem qX9_stopped_s0 (l : Launch) (D : va_G) (ty : Nat → ClassId) (eo : Nat → Nat) (sz : Nat) (ad : Nat → Nat) (q : dK)  (o1 : Int32) (o2 : dK) (h : zX9_stopped_s0 q = some (o1, o2)) : Met l yX9_stopped wsX9_stopped ({ frames := 0, cells := 0, slots := 0, locals := 0 } : Room) (va_Pc [.ref (ad 0)] (kz_pre D ty eo (wF ty ad q) sz)) (va_Qi (fun (r : Int32) (u : va_W) => o1 = r ∧ wF ty ad o2 = u) (kz_B D ty (va_A (wF ty ad q) sz)) (va_A (wF ty ad q) sz)) 0 0 (va_A (wF ty ad q) sz) := by
  refine Met.ofW (cc := cX9_stopped) (maxL := 1) (ret := (some .int)) (by decide) rfl ?_
  intro p e s m args below meth c s₁ B hml hv
  obtain ⟨rfl, hsz, hP, hK, hD0, hN, hE⟩ := hv
  have hx := B.exec
  have hb := B.bytes
  have hr := B.returns
  have hts := atoms_spec (ws := wsX9_stopped) B.pre
  have hown : s.vm.findClass RX9 = some m.cls := findClass_of_methodNamed B.named
  have hlocks := B.notSynchronized
  subst hsz
  have hD := hD0.self (sz := s.heap.size)
  generalize hAe : va_A (wF ty ad q) s.heap.size = A at hD hE ⊢
  have hA : ∀ q : Nat, s.heap.size ≤ q → A q := fun q h => by rw [← hAe]; exact Or.inr h
  clear hAe
  have hS : va_S A s.heap s.heap [] := va_S.rf
  have hl := lv_entry ([.ref (ad 0)]) (n := 1) (Nat.le_of_ble_eq_true rfl)
  rw [lg_entry_eq]
  generalize (lg_sl ([.ref (ad 0)]) ++ List.replicate (1 - (lg_sl ([.ref (ad 0)])).length) Slot.unset).toArray = ls at hl ⊢
  have hl : lv_has ls 1 [(0, .ref (ad 0))] := hl
  have C : dc_C p s m _ meth c cX9_stopped (some .int) 1 RX9 wsX9_stopped D ty eo A := ⟨hx, hb, hr, hts, hown, hlocks, hml, hK, hN, hE, hA⟩
  unfold zX9_stopped_s0 at h
  refine lv_aload_n hx hb dX9_stopped_0 rfl (lv_at hl 0 rfl) ?_
  refine va_get (D := D) (ci := 9) (v := .int (q.1 0 15)) (C := RX9) (T := TX9) (N := 19) hx hb hts u9_wsX9_stopped_X9 hown hK hP 0 rfl rfl 15 (by decide) (hts (.fieldLink RX9 98 "TurnedFloors" "stoppedClause" "I") f9_wsX9_stopped_701) (fun _ h9 => h9) rfl dX9_stopped_1 ?_
  cases h
  exact kz_iret hx hb hr hlocks hP hK hD hS dX9_stopped_4 ⟨rfl, rfl⟩

set_option maxHeartbeats 4000000 in
set_option maxRecDepth 100000 in
theorem WX9_force_s0_23 {p : Program} {l : Launch} {e : Env} {s : State} {m : MethodId} {args : Array Value} {below : List Frame} {meth : Method} {c : Code} {D : va_G} {ty : Nat → ClassId} {eo : Nat → Nat} {A : Nat → Prop} {ad : Nat → Nat} {o1 : Int32} {o2 : dK} (C : dc_C p s m args meth c cX9_force (some .int) 3 RX9 wsX9_force D ty eo A)   (q : dK) (x1 : Int32) (H : Heap) (locs : List Loc) (ls : Array Slot) (h : zX9_force_s0_23  q x1 = some (o1, o2)) (hP : va_P D vwCl (wF ty ad q) H) (hD : va_D A (wF ty ad q)) (hS : va_S A s.heap H locs) (hl : lv_has ls 3 [(0, .ref (ad 0)), (1, .int x1)]) : W p l e ({ frames := 1, cells := 0, slots := 0, locals := 21 } : Room) s m args below meth c H locs 0 0 (MQ below (va_Qi (fun (r : Int32) (u : va_W) => o1 = r ∧ wF ty ad o2 = u) (kz_B D ty A) A) args s 0 0 A) (F0 m 23 ls []) := by
  have C0 := C
  obtain ⟨hx, hb, hr, hts, hown, hlocks, hml, hK, hN, hE, hA⟩ := C
  unfold zX9_force_s0_23 at h
  refine lv_aload_n hx hb dX9_force_23 rfl (lv_at hl 0 rfl) ?_
  refine va_get (D := D) (ci := 9) (v := .ref (ad 1)) (C := RX9) (T := TX9) (N := 19) hx hb hts u9_wsX9_force_X9 hown hK hP 0 rfl rfl 0 (by decide) (hts (.fieldLink RX9 10 "TurnedFloors" "state" "LTurnedFloors$State;") f9_wsX9_force_704) (fun _ h9 => h9) rfl dX9_force_24 ?_
  refine va_getN (D := D) (ci := 6) (v := .int (q.1 1 9)) (C := RX6) (T := TX6) (N := 10) hx hb hts u9_wsX9_force_X6 hown hK hP 1 rfl rfl 9 (by decide) (hN.use (.fieldLinkNest "TurnedFloors" 208 "TurnedFloors$State" "inForce" "I" "TurnedFloors") (by decide +kernel)) (fun _ h9 => h9) rfl dX9_force_27 ?_
  refine lv_istore_n (lv' := [(2, .int (q.1 1 9)), (0, .ref (ad 0)), (1, .int x1)]) hx hb dX9_force_30 rfl hl (by decide) rfl (fun ls hl => ?_)
  refine lv_aload_n hx hb dX9_force_31 rfl (lv_at hl 1 rfl) ?_
  refine va_get (D := D) (ci := 9) (v := .ref (ad 1)) (C := RX9) (T := TX9) (N := 19) hx hb hts u9_wsX9_force_X9 hown hK hP 0 rfl rfl 0 (by decide) (hts (.fieldLink RX9 10 "TurnedFloors" "state" "LTurnedFloors$State;") f9_wsX9_force_704) (fun _ h9 => h9) rfl dX9_force_32 ?_
  refine lv_iload_n hx hb dX9_force_35 rfl (lv_at hl 2 rfl) ?_
  refine va_putN (D := D) (ci := 6) (v := .int x1) (ty := .int) (C := RX6) (T := TX6) (N := 10) hx hb hts u9_wsX9_force_X6 tyX6 tyX6_ok nmX6 hown hK hP hD hS 1 rfl rfl 9 (by decide) (hN.use (.fieldLinkNest "TurnedFloors" 208 "TurnedFloors$State" "inForce" "I" "TurnedFloors") (by decide +kernel)) (fun _ h9 => h9) rfl (by decide +kernel) rfl rfl (Nat.le_of_ble_eq_true rfl) dX9_force_36 (fun H locs hp hd hs => ?_)
  obtain ⟨q1, eq1, h⟩ := dL_some h
  refine kz_re (w2 := wF ty ad q1) hp hd hs (by rw [← eq1]; exact wF_f1_9 ty ad q x1) ?_
  clear hp hd hs hP hD hS
  intro hP hD hS
  refine lv_aload_n hx hb dX9_force_39 rfl (lv_at hl 1 rfl) ?_
  refine lv_iload_n hx hb dX9_force_40 rfl (lv_at hl 0 rfl) ?_
  obtain ⟨r2, q4, h3, h⟩ := dB_some h
  refine dw_ki (va_runV (As := [.int (q.1 1 9)]) (rest := []) ⟨hx, hb, hml, hown, hts⟩ (qX9_accept_s0 l D ty eo _ ad q1 (q.1 1 9) r2 q4 h3) (cwV 1 hts gX9_force_X9_accept rfl rfl rfl (by decide +kernel) ⟨Nat.le_of_ble_eq_true rfl, Nat.le_of_ble_eq_true rfl⟩) (dw_preV (ci := 9) (q0 := 0) hK hN hE hP hD hS hA rfl rfl) rfl rfl hl.1 rfl (lv_room (Nat.le_of_ble_eq_true rfl)) dX9_force_41 ⟨Nat.le_of_ble_eq_true rfl, Nat.le_of_ble_eq_true rfl⟩) hD hS hA (fun r9 u9 H locs hw hp hd hs => ?_)
  clear hP hD hS
  obtain ⟨rfl, rfl⟩ := hw
  have hP := hp; have hD := hd; have hS := hs; clear hp hd hs
  cases h
  exact kz_iret hx hb hr hlocks hP hK hD hS dX9_force_44 ⟨rfl, rfl⟩
set_option maxHeartbeats 4000000 in
set_option maxRecDepth 100000 in
theorem qX9_force_s0 (l : Launch) (D : va_G) (ty : Nat → ClassId) (eo : Nat → Nat) (sz : Nat) (ad : Nat → Nat) (q : dK) (p1 : Int32) (o1 : Int32) (o2 : dK) (h : zX9_force_s0 q p1 = some (o1, o2)) : Met l yX9_force wsX9_force ({ frames := 1, cells := 0, slots := 0, locals := 21 } : Room) (va_Pc [.ref (ad 0), .int p1] (kz_pre D ty eo (wF ty ad q) sz)) (va_Qi (fun (r : Int32) (u : va_W) => o1 = r ∧ wF ty ad o2 = u) (kz_B D ty (va_A (wF ty ad q) sz)) (va_A (wF ty ad q) sz)) 0 0 (va_A (wF ty ad q) sz) := by
  refine Met.ofW (cc := cX9_force) (maxL := 3) (ret := (some .int)) (by decide) rfl ?_
  intro p e s m args below meth c s₁ B hml hv
  obtain ⟨rfl, hsz, hP, hK, hD0, hN, hE⟩ := hv
  have hx := B.exec
  have hb := B.bytes
  have hr := B.returns
  have hts := atoms_spec (ws := wsX9_force) B.pre
  have hown : s.vm.findClass RX9 = some m.cls := findClass_of_methodNamed B.named
  have hlocks := B.notSynchronized
  subst hsz
  have hD := hD0.self (sz := s.heap.size)
  generalize hAe : va_A (wF ty ad q) s.heap.size = A at hD hE ⊢
  have hA : ∀ q : Nat, s.heap.size ≤ q → A q := fun q h => by rw [← hAe]; exact Or.inr h
  clear hAe
  have hS : va_S A s.heap s.heap [] := va_S.rf
  have hl := lv_entry ([.ref (ad 0), .int p1]) (n := 3) (Nat.le_of_ble_eq_true rfl)
  rw [lg_entry_eq]
  generalize (lg_sl ([.ref (ad 0), .int p1]) ++ List.replicate (3 - (lg_sl ([.ref (ad 0), .int p1])).length) Slot.unset).toArray = ls at hl ⊢
  have hl : lv_has ls 3 [(0, .ref (ad 0)), (1, .int p1)] := hl
  have C : dc_C p s m _ meth c cX9_force (some .int) 3 RX9 wsX9_force D ty eo A := ⟨hx, hb, hr, hts, hown, hlocks, hml, hK, hN, hE, hA⟩
  unfold zX9_force_s0 at h
  refine lv_iload_n hx hb dX9_force_0 rfl (lv_at hl 1 rfl) ?_
  refine lv_iconst (v := (-1)) hx hb dX9_force_1 (by decide) ?_
  refine lv_icmp_eq (tgt := 23) hx hb dX9_force_2 (by decide) (fun c9 => ?_) (fun c9 => ?_)
  · rw [if_pos c9] at h
    exact WX9_force_s0_23 C  _ _ _ _ _ h hP hD hS (lv_sub hl [0, 1] rfl)
  · rw [if_neg c9] at h
    refine lv_aload_n hx hb dX9_force_5 rfl (lv_at hl 0 rfl) ?_
    refine va_get (D := D) (ci := 9) (v := .ref (ad 1)) (C := RX9) (T := TX9) (N := 19) hx hb hts u9_wsX9_force_X9 hown hK hP 0 rfl rfl 0 (by decide) (hts (.fieldLink RX9 10 "TurnedFloors" "state" "LTurnedFloors$State;") f9_wsX9_force_704) (fun _ h9 => h9) rfl dX9_force_6 ?_
    refine lv_iload_n hx hb dX9_force_9 rfl (lv_at hl 1 rfl) ?_
    obtain ⟨r1, q3, h2, h⟩ := dB_some h
    refine dw_ki (va_runV (As := [.int p1]) (rest := []) ⟨hx, hb, hml, hown, hts⟩ (qX6_isLaw_s1 l D ty eo _ ad q p1 r1 q3 h2) (cwV 1 hts gX9_force_X6_isLaw rfl rfl rfl (by decide +kernel) ⟨Nat.le_of_ble_eq_true rfl, Nat.le_of_ble_eq_true rfl⟩) (dw_preV (ci := 6) (q0 := 1) hK hN hE hP hD hS hA rfl rfl) rfl rfl hl.1 rfl (lv_room (Nat.le_of_ble_eq_true rfl)) dX9_force_10 ⟨Nat.le_of_ble_eq_true rfl, Nat.le_of_ble_eq_true rfl⟩) hD hS hA (fun r9 u9 H locs hw hp hd hs => ?_)
    clear hP hD hS
    obtain ⟨rfl, rfl⟩ := hw
    have hP := hp; have hD := hd; have hS := hs; clear hp hd hs
    refine lv_if_ne (tgt := 23) hx hb dX9_force_13 (by decide) (fun c9 => ?_) (fun c9 => ?_)
    · rw [if_neg c9] at h
      exact WX9_force_s0_23 C  _ _ _ _ _ h hP hD hS (lv_sub hl [0, 1] rfl)
    · rw [if_pos c9] at h
      refine lv_aload_n hx hb dX9_force_16 rfl (lv_at hl 0 rfl) ?_
      refine lv_bipush (v := (-2)) hx hb dX9_force_17 (by decide) ?_
      obtain ⟨r4, q6, h5, h⟩ := dB_some h
      refine dw_ki (va_runV (As := [.int (-2)]) (rest := []) ⟨hx, hb, hml, hown, hts⟩ (qX9_refuse_s0 l D ty eo _ ad q3 (-2) r4 q6 h5) (cwV 1 hts gX9_force_X9_refuse rfl rfl rfl (by decide +kernel) ⟨Nat.le_of_ble_eq_true rfl, Nat.le_of_ble_eq_true rfl⟩) (dw_preV (ci := 9) (q0 := 0) hK hN hE hP hD hS hA rfl rfl) rfl rfl hl.1 rfl (lv_room (Nat.le_of_ble_eq_true rfl)) dX9_force_19 ⟨Nat.le_of_ble_eq_true rfl, Nat.le_of_ble_eq_true rfl⟩) hD hS hA (fun r9 u9 H locs hw hp hd hs => ?_)
      clear hP hD hS
      obtain ⟨rfl, rfl⟩ := hw
      have hP := hp; have hD := hd; have hS := hs; clear hp hd hs
      cases h
      exact kz_iret hx hb hr hlocks hP hK hD hS dX9_force_22 ⟨rfl, rfl⟩

set_option maxHeartbeats 4000000 in
set_option maxRecDepth 100000 in
theorem qX9_move_s0 (l : Launch) (D : va_G) (ty : Nat → ClassId) (eo : Nat → Nat) (sz : Nat) (ad : Nat → Nat) (q : dK) (p1 : Int32) (p2 : Int32) (o1 : Int32) (o2 : dK) (h : zX9_move_s0 q p1 p2 = some (o1, o2)) : Met l yX9_move wsX9_move ({ frames := 6, cells := 0, slots := 0, locals := 151 } : Room) (va_Pc [.ref (ad 0), .int p1, .int p2] (kz_pre D ty eo (wF ty ad q) sz)) (va_Qi (fun (r : Int32) (u : va_W) => o1 = r ∧ wF ty ad o2 = u) (kz_B D ty (va_A (wF ty ad q) sz)) (va_A (wF ty ad q) sz)) 0 0 (va_A (wF ty ad q) sz) := by
  refine Met.ofW (cc := cX9_move) (maxL := 6) (ret := (some .int)) (by decide) rfl ?_
  intro p e s m args below meth c s₁ B hml hv
  obtain ⟨rfl, hsz, hP, hK, hD0, hN, hE⟩ := hv
  have hx := B.exec
  have hb := B.bytes
  have hr := B.returns
  have hts := atoms_spec (ws := wsX9_move) B.pre
  have hown : s.vm.findClass RX9 = some m.cls := findClass_of_methodNamed B.named
  have hlocks := B.notSynchronized
  subst hsz
  have hD := hD0.self (sz := s.heap.size)
  generalize hAe : va_A (wF ty ad q) s.heap.size = A at hD hE ⊢
  have hA : ∀ q : Nat, s.heap.size ≤ q → A q := fun q h => by rw [← hAe]; exact Or.inr h
  clear hAe
  have hS : va_S A s.heap s.heap [] := va_S.rf
  have hl := lv_entry ([.ref (ad 0), .int p1, .int p2]) (n := 6) (Nat.le_of_ble_eq_true rfl)
  rw [lg_entry_eq]
  generalize (lg_sl ([.ref (ad 0), .int p1, .int p2]) ++ List.replicate (6 - (lg_sl ([.ref (ad 0), .int p1, .int p2])).length) Slot.unset).toArray = ls at hl ⊢
  have hl : lv_has ls 6 [(0, .ref (ad 0)), (1, .int p1), (2, .int p2)] := hl
  have C : dc_C p s m _ meth c cX9_move (some .int) 6 RX9 wsX9_move D ty eo A := ⟨hx, hb, hr, hts, hown, hlocks, hml, hK, hN, hE, hA⟩
  unfold zX9_move_s0 at h
  refine lv_aload_n hx hb dX9_move_0 rfl (lv_at hl 0 rfl) ?_
  refine va_get (D := D) (ci := 9) (v := .ref (ad 1)) (C := RX9) (T := TX9) (N := 19) hx hb hts u9_wsX9_move_X9 hown hK hP 0 rfl rfl 0 (by decide) (hts (.fieldLink RX9 10 "TurnedFloors" "state" "LTurnedFloors$State;") f9_wsX9_move_707) (fun _ h9 => h9) rfl dX9_move_1 ?_
  refine va_getN (D := D) (ci := 6) (v := .ref (ad 2)) (C := RX6) (T := TX6) (N := 10) hx hb hts u9_wsX9_move_X6 hown hK hP 1 rfl rfl 0 (by decide) (hN.use (.fieldLinkNest "TurnedFloors" 122 "TurnedFloors$State" "tower" "LTurnedFloors$Tower;" "TurnedFloors") (by decide +kernel)) (fun _ h9 => h9) rfl dX9_move_4 ?_
  obtain ⟨r1, q3, h2, h⟩ := dB_some h
  refine dw_kl (va_runV (As := []) (rest := []) ⟨hx, hb, hml, hown, hts⟩ (qX8_pack_s2 l D ty eo _ ad q  r1 q3 h2) (cwV 0 hts gX9_move_X8_pack rfl rfl rfl (by decide +kernel) ⟨Nat.le_of_ble_eq_true rfl, Nat.le_of_ble_eq_true rfl⟩) (dw_preV (ci := 8) (q0 := 2) hK hN hE hP hD hS hA rfl rfl) rfl rfl hl.1 rfl (lv_room (Nat.le_of_ble_eq_true rfl)) dX9_move_7 ⟨Nat.le_of_ble_eq_true rfl, Nat.le_of_ble_eq_true rfl⟩) hD hS hA (fun r9 u9 H locs hw hp hd hs => ?_)
  clear hP hD hS
  obtain ⟨rfl, rfl⟩ := hw
  have hP := hp; have hD := hd; have hS := hs; clear hp hd hs
  refine lv_lstore_n (lv' := [(3, .long r1), (0, .ref (ad 0)), (1, .int p1), (2, .int p2)]) hx hb dX9_move_10 rfl hl (by decide) rfl (fun ls hl => ?_)
  refine lv_aload_n hx hb dX9_move_11 rfl (lv_at hl 1 rfl) ?_
  refine va_get (D := D) (ci := 9) (v := .ref (ad 1)) (C := RX9) (T := TX9) (N := 19) hx hb hts u9_wsX9_move_X9 hown hK hP 0 rfl rfl 0 (by decide) (hts (.fieldLink RX9 10 "TurnedFloors" "state" "LTurnedFloors$State;") f9_wsX9_move_707) (fun _ h9 => h9) rfl dX9_move_12 ?_
  refine va_getN (D := D) (ci := 6) (v := .ref (ad 2)) (C := RX6) (T := TX6) (N := 10) hx hb hts u9_wsX9_move_X6 hown hK hP 1 rfl rfl 0 (by decide) (hN.use (.fieldLinkNest "TurnedFloors" 122 "TurnedFloors$State" "tower" "LTurnedFloors$Tower;" "TurnedFloors") (by decide +kernel)) (fun _ h9 => h9) rfl dX9_move_15 ?_
  refine lv_iload_n hx hb dX9_move_18 rfl (lv_at hl 2 rfl) ?_
  refine lv_iload_n hx hb dX9_move_19 rfl (lv_at hl 3 rfl) ?_
  refine lv_aload_n hx hb dX9_move_20 rfl (lv_at hl 1 rfl) ?_
  obtain ⟨q6, h5, h⟩ := dV_some h
  refine dw_kq (va_runV (As := []) (rest := [.int p2, .int p1, .ref (ad 2)]) ⟨hx, hb, hml, hown, hts⟩ (qX9_seated_s0 l D ty eo _ ad q3  q6 h5) (cwV 0 hts gX9_move_X9_seated rfl rfl rfl (by decide +kernel) ⟨Nat.le_of_ble_eq_true rfl, Nat.le_of_ble_eq_true rfl⟩) (dw_preV (ci := 9) (q0 := 0) hK hN hE hP hD hS hA rfl rfl) rfl rfl hl.1 rfl (lv_room (Nat.le_of_ble_eq_true rfl)) dX9_move_21 ⟨Nat.le_of_ble_eq_true rfl, Nat.le_of_ble_eq_true rfl⟩) hP hD hS hA (fun r9 u9 H locs hw hp hd hs => ?_)
  clear hP hD hS
  obtain ⟨rfl, rfl⟩ := hw
  have hP := hp; have hD := hd; have hS := hs; clear hp hd hs
  obtain ⟨r7, q9, h8, h⟩ := dB_some h
  refine dw_ki (va_runV (As := [.int p1, .int p2, .ref (ad 20)]) (rest := []) ⟨hx, hb, hml, hown, hts⟩ (qX8_act_s2_s20 l D ty eo _ ad q6 p1 p2 r7 q9 h8) (cwV 3 hts gX9_move_X8_act rfl rfl rfl (by decide +kernel) ⟨Nat.le_of_ble_eq_true rfl, Nat.le_of_ble_eq_true rfl⟩) (dw_preV (ci := 8) (q0 := 2) hK hN hE hP hD hS hA rfl rfl) rfl rfl hl.1 rfl (lv_room (Nat.le_of_ble_eq_true rfl)) dX9_move_24 ⟨Nat.le_of_ble_eq_true rfl, Nat.le_of_ble_eq_true rfl⟩) hD hS hA (fun r9 u9 H locs hw hp hd hs => ?_)
  clear hP hD hS
  obtain ⟨rfl, rfl⟩ := hw
  have hP := hp; have hD := hd; have hS := hs; clear hp hd hs
  refine lv_istore (lv' := [(5, .int r7), (3, .long r1), (0, .ref (ad 0)), (1, .int p1), (2, .int p2)]) hx hb dX9_move_27 hl (by decide) rfl (fun ls hl => ?_)
  refine lv_iload hx hb dX9_move_29 (lv_at hl 0 rfl) ?_
  refine lv_if_ge (tgt := 41) hx hb dX9_move_31 (by decide) (fun c9 => ?_) (fun c9 => ?_)
  · rw [if_pos c9] at h
    refine lv_aload_n hx hb dX9_move_41 rfl (lv_at hl 2 rfl) ?_
    refine va_get (D := D) (ci := 9) (v := .ref (ad 10)) (C := RX9) (T := TX9) (N := 19) hx hb hts u9_wsX9_move_X9 hown hK hP 0 rfl rfl 3 (by decide) (hts (.fieldLink RX9 27 "TurnedFloors" "history" "LTurnedFloors$History;") f9_wsX9_move_708) (fun _ h9 => h9) rfl dX9_move_42 ?_
    refine lv_iload_n hx hb dX9_move_45 rfl (lv_at hl 3 rfl) ?_
    refine lv_lload_n hx hb dX9_move_46 rfl (lv_at hl 1 rfl) ?_
    obtain ⟨q12, h11, h⟩ := dV_some h
    refine dw_kv (va_runV (As := [.int p1, .long r1]) (rest := []) ⟨hx, hb, hml, hown, hts⟩ (qX0_keep_s10 l D ty eo _ ad q9 p1 r1 q12 h11) (cwV 2 hts gX9_move_X0_keep rfl rfl rfl (by decide +kernel) ⟨Nat.le_of_ble_eq_true rfl, Nat.le_of_ble_eq_true rfl⟩) (dw_preV (ci := 0) (q0 := 10) hK hN hE hP hD hS hA rfl rfl) rfl rfl hl.1 rfl (lv_room (Nat.le_of_ble_eq_true rfl)) dX9_move_47 ⟨Nat.le_of_ble_eq_true rfl, Nat.le_of_ble_eq_true rfl⟩) hD hS hA (fun u9 H locs hw hp hd hs => ?_)
    clear hP hD hS
    obtain rfl := hw
    have hP := hp; have hD := hd; have hS := hs; clear hp hd hs
    refine lv_aload_n hx hb dX9_move_50 rfl (lv_at hl 2 rfl) ?_
    refine lv_iload hx hb dX9_move_51 (lv_at hl 0 rfl) ?_
    obtain ⟨r13, q15, h14, h⟩ := dB_some h
    refine dw_ki (va_runV (As := [.int r7]) (rest := []) ⟨hx, hb, hml, hown, hts⟩ (qX9_accept_s0 l D ty eo _ ad q12 r7 r13 q15 h14) (cwV 1 hts gX9_move_X9_accept rfl rfl rfl (by decide +kernel) ⟨Nat.le_of_ble_eq_true rfl, Nat.le_of_ble_eq_true rfl⟩) (dw_preV (ci := 9) (q0 := 0) hK hN hE hP hD hS hA rfl rfl) rfl rfl hl.1 rfl (lv_room (Nat.le_of_ble_eq_true rfl)) dX9_move_53 ⟨Nat.le_of_ble_eq_true rfl, Nat.le_of_ble_eq_true rfl⟩) hD hS hA (fun r9 u9 H locs hw hp hd hs => ?_)
    clear hP hD hS
    obtain ⟨rfl, rfl⟩ := hw
    have hP := hp; have hD := hd; have hS := hs; clear hp hd hs
    cases h
    exact kz_iret hx hb hr hlocks hP hK hD hS dX9_move_56 ⟨rfl, rfl⟩
  · rw [if_neg c9] at h
    refine lv_aload_n hx hb dX9_move_34 rfl (lv_at hl 2 rfl) ?_
    refine lv_iload hx hb dX9_move_35 (lv_at hl 0 rfl) ?_
    obtain ⟨r16, q18, h17, h⟩ := dB_some h
    refine dw_ki (va_runV (As := [.int r7]) (rest := []) ⟨hx, hb, hml, hown, hts⟩ (qX9_refuse_s0 l D ty eo _ ad q9 r7 r16 q18 h17) (cwV 1 hts gX9_move_X9_refuse rfl rfl rfl (by decide +kernel) ⟨Nat.le_of_ble_eq_true rfl, Nat.le_of_ble_eq_true rfl⟩) (dw_preV (ci := 9) (q0 := 0) hK hN hE hP hD hS hA rfl rfl) rfl rfl hl.1 rfl (lv_room (Nat.le_of_ble_eq_true rfl)) dX9_move_37 ⟨Nat.le_of_ble_eq_true rfl, Nat.le_of_ble_eq_true rfl⟩) hD hS hA (fun r9 u9 H locs hw hp hd hs => ?_)
    clear hP hD hS
    obtain ⟨rfl, rfl⟩ := hw
    have hP := hp; have hD := hd; have hS := hs; clear hp hd hs
    cases h
    exact kz_iret hx hb hr hlocks hP hK hD hS dX9_move_40 ⟨rfl, rfl⟩

set_option maxHeartbeats 4000000 in
set_option maxRecDepth 100000 in
theorem qX9_turn_s0 (l : Launch) (D : va_G) (ty : Nat → ClassId) (eo : Nat → Nat) (sz : Nat) (ad : Nat → Nat) (q : dK) (p1 : Int32) (o1 : Int32) (o2 : dK) (h : zX9_turn_s0 q p1 = some (o1, o2)) : Met l yX9_turn wsX9_turn ({ frames := 7, cells := 0, slots := 0, locals := 176 } : Room) (va_Pc [.ref (ad 0), .int p1] (kz_pre D ty eo (wF ty ad q) sz)) (va_Qi (fun (r : Int32) (u : va_W) => o1 = r ∧ wF ty ad o2 = u) (kz_B D ty (va_A (wF ty ad q) sz)) (va_A (wF ty ad q) sz)) 0 0 (va_A (wF ty ad q) sz) := by
  refine Met.ofW (cc := cX9_turn) (maxL := 2) (ret := (some .int)) (by decide) rfl ?_
  intro p e s m args below meth c s₁ B hml hv
  obtain ⟨rfl, hsz, hP, hK, hD0, hN, hE⟩ := hv
  have hx := B.exec
  have hb := B.bytes
  have hr := B.returns
  have hts := atoms_spec (ws := wsX9_turn) B.pre
  have hown : s.vm.findClass RX9 = some m.cls := findClass_of_methodNamed B.named
  have hlocks := B.notSynchronized
  subst hsz
  have hD := hD0.self (sz := s.heap.size)
  generalize hAe : va_A (wF ty ad q) s.heap.size = A at hD hE ⊢
  have hA : ∀ q : Nat, s.heap.size ≤ q → A q := fun q h => by rw [← hAe]; exact Or.inr h
  clear hAe
  have hS : va_S A s.heap s.heap [] := va_S.rf
  have hl := lv_entry ([.ref (ad 0), .int p1]) (n := 2) (Nat.le_of_ble_eq_true rfl)
  rw [lg_entry_eq]
  generalize (lg_sl ([.ref (ad 0), .int p1]) ++ List.replicate (2 - (lg_sl ([.ref (ad 0), .int p1])).length) Slot.unset).toArray = ls at hl ⊢
  have hl : lv_has ls 2 [(0, .ref (ad 0)), (1, .int p1)] := hl
  have C : dc_C p s m _ meth c cX9_turn (some .int) 2 RX9 wsX9_turn D ty eo A := ⟨hx, hb, hr, hts, hown, hlocks, hml, hK, hN, hE, hA⟩
  unfold zX9_turn_s0 at h
  refine lv_aload_n hx hb dX9_turn_0 rfl (lv_at hl 0 rfl) ?_
  refine lv_iconst (v := 0) hx hb dX9_turn_1 (by decide) ?_
  refine lv_iload_n hx hb dX9_turn_2 rfl (lv_at hl 1 rfl) ?_
  obtain ⟨r1, q3, h2, h⟩ := dB_some h
  refine dw_ki (va_runV (As := [.int 0, .int p1]) (rest := []) ⟨hx, hb, hml, hown, hts⟩ (qX9_move_s0 l D ty eo _ ad q 0 p1 r1 q3 h2) (cwV 2 hts gX9_turn_X9_move rfl rfl rfl (by decide +kernel) ⟨Nat.le_of_ble_eq_true rfl, Nat.le_of_ble_eq_true rfl⟩) (dw_preV (ci := 9) (q0 := 0) hK hN hE hP hD hS hA rfl rfl) rfl rfl hl.1 rfl (lv_room (Nat.le_of_ble_eq_true rfl)) dX9_turn_3 ⟨Nat.le_of_ble_eq_true rfl, Nat.le_of_ble_eq_true rfl⟩) hD hS hA (fun r9 u9 H locs hw hp hd hs => ?_)
  clear hP hD hS
  obtain ⟨rfl, rfl⟩ := hw
  have hP := hp; have hD := hd; have hS := hs; clear hp hd hs
  cases h
  exact kz_iret hx hb hr hlocks hP hK hD hS dX9_turn_6 ⟨rfl, rfl⟩

set_option maxHeartbeats 4000000 in
set_option maxRecDepth 100000 in
theorem qX9_right_s0 (l : Launch) (D : va_G) (ty : Nat → ClassId) (eo : Nat → Nat) (sz : Nat) (ad : Nat → Nat) (q : dK) (p1 : Int32) (o1 : Int32) (o2 : dK) (h : zX9_right_s0 q p1 = some (o1, o2)) : Met l yX9_right wsX9_right ({ frames := 7, cells := 0, slots := 0, locals := 176 } : Room) (va_Pc [.ref (ad 0), .int p1] (kz_pre D ty eo (wF ty ad q) sz)) (va_Qi (fun (r : Int32) (u : va_W) => o1 = r ∧ wF ty ad o2 = u) (kz_B D ty (va_A (wF ty ad q) sz)) (va_A (wF ty ad q) sz)) 0 0 (va_A (wF ty ad q) sz) := by
  refine Met.ofW (cc := cX9_right) (maxL := 2) (ret := (some .int)) (by decide) rfl ?_
  intro p e s m args below meth c s₁ B hml hv
  obtain ⟨rfl, hsz, hP, hK, hD0, hN, hE⟩ := hv
  have hx := B.exec
  have hb := B.bytes
  have hr := B.returns
  have hts := atoms_spec (ws := wsX9_right) B.pre
  have hown : s.vm.findClass RX9 = some m.cls := findClass_of_methodNamed B.named
  have hlocks := B.notSynchronized
  subst hsz
  have hD := hD0.self (sz := s.heap.size)
  generalize hAe : va_A (wF ty ad q) s.heap.size = A at hD hE ⊢
  have hA : ∀ q : Nat, s.heap.size ≤ q → A q := fun q h => by rw [← hAe]; exact Or.inr h
  clear hAe
  have hS : va_S A s.heap s.heap [] := va_S.rf
  have hl := lv_entry ([.ref (ad 0), .int p1]) (n := 2) (Nat.le_of_ble_eq_true rfl)
  rw [lg_entry_eq]
  generalize (lg_sl ([.ref (ad 0), .int p1]) ++ List.replicate (2 - (lg_sl ([.ref (ad 0), .int p1])).length) Slot.unset).toArray = ls at hl ⊢
  have hl : lv_has ls 2 [(0, .ref (ad 0)), (1, .int p1)] := hl
  have C : dc_C p s m _ meth c cX9_right (some .int) 2 RX9 wsX9_right D ty eo A := ⟨hx, hb, hr, hts, hown, hlocks, hml, hK, hN, hE, hA⟩
  unfold zX9_right_s0 at h
  refine lv_aload_n hx hb dX9_right_0 rfl (lv_at hl 0 rfl) ?_
  refine lv_iconst (v := 1) hx hb dX9_right_1 (by decide) ?_
  refine lv_iload_n hx hb dX9_right_2 rfl (lv_at hl 1 rfl) ?_
  obtain ⟨r1, q3, h2, h⟩ := dB_some h
  refine dw_ki (va_runV (As := [.int 1, .int p1]) (rest := []) ⟨hx, hb, hml, hown, hts⟩ (qX9_move_s0 l D ty eo _ ad q 1 p1 r1 q3 h2) (cwV 2 hts gX9_right_X9_move rfl rfl rfl (by decide +kernel) ⟨Nat.le_of_ble_eq_true rfl, Nat.le_of_ble_eq_true rfl⟩) (dw_preV (ci := 9) (q0 := 0) hK hN hE hP hD hS hA rfl rfl) rfl rfl hl.1 rfl (lv_room (Nat.le_of_ble_eq_true rfl)) dX9_right_3 ⟨Nat.le_of_ble_eq_true rfl, Nat.le_of_ble_eq_true rfl⟩) hD hS hA (fun r9 u9 H locs hw hp hd hs => ?_)
  clear hP hD hS
  obtain ⟨rfl, rfl⟩ := hw
  have hP := hp; have hD := hd; have hS := hs; clear hp hd hs
  cases h
  exact kz_iret hx hb hr hlocks hP hK hD hS dX9_right_6 ⟨rfl, rfl⟩

set_option maxHeartbeats 4000000 in
set_option maxRecDepth 100000 in
theorem qX9_swap_s0 (l : Launch) (D : va_G) (ty : Nat → ClassId) (eo : Nat → Nat) (sz : Nat) (ad : Nat → Nat) (q : dK) (p1 : Int32) (o1 : Int32) (o2 : dK) (h : zX9_swap_s0 q p1 = some (o1, o2)) : Met l yX9_swap wsX9_swap ({ frames := 7, cells := 0, slots := 0, locals := 176 } : Room) (va_Pc [.ref (ad 0), .int p1] (kz_pre D ty eo (wF ty ad q) sz)) (va_Qi (fun (r : Int32) (u : va_W) => o1 = r ∧ wF ty ad o2 = u) (kz_B D ty (va_A (wF ty ad q) sz)) (va_A (wF ty ad q) sz)) 0 0 (va_A (wF ty ad q) sz) := by
  refine Met.ofW (cc := cX9_swap) (maxL := 2) (ret := (some .int)) (by decide) rfl ?_
  intro p e s m args below meth c s₁ B hml hv
  obtain ⟨rfl, hsz, hP, hK, hD0, hN, hE⟩ := hv
  have hx := B.exec
  have hb := B.bytes
  have hr := B.returns
  have hts := atoms_spec (ws := wsX9_swap) B.pre
  have hown : s.vm.findClass RX9 = some m.cls := findClass_of_methodNamed B.named
  have hlocks := B.notSynchronized
  subst hsz
  have hD := hD0.self (sz := s.heap.size)
  generalize hAe : va_A (wF ty ad q) s.heap.size = A at hD hE ⊢
  have hA : ∀ q : Nat, s.heap.size ≤ q → A q := fun q h => by rw [← hAe]; exact Or.inr h
  clear hAe
  have hS : va_S A s.heap s.heap [] := va_S.rf
  have hl := lv_entry ([.ref (ad 0), .int p1]) (n := 2) (Nat.le_of_ble_eq_true rfl)
  rw [lg_entry_eq]
  generalize (lg_sl ([.ref (ad 0), .int p1]) ++ List.replicate (2 - (lg_sl ([.ref (ad 0), .int p1])).length) Slot.unset).toArray = ls at hl ⊢
  have hl : lv_has ls 2 [(0, .ref (ad 0)), (1, .int p1)] := hl
  have C : dc_C p s m _ meth c cX9_swap (some .int) 2 RX9 wsX9_swap D ty eo A := ⟨hx, hb, hr, hts, hown, hlocks, hml, hK, hN, hE, hA⟩
  unfold zX9_swap_s0 at h
  refine lv_aload_n hx hb dX9_swap_0 rfl (lv_at hl 0 rfl) ?_
  refine lv_iconst (v := 2) hx hb dX9_swap_1 (by decide) ?_
  refine lv_iload_n hx hb dX9_swap_2 rfl (lv_at hl 1 rfl) ?_
  obtain ⟨r1, q3, h2, h⟩ := dB_some h
  refine dw_ki (va_runV (As := [.int 2, .int p1]) (rest := []) ⟨hx, hb, hml, hown, hts⟩ (qX9_move_s0 l D ty eo _ ad q 2 p1 r1 q3 h2) (cwV 2 hts gX9_swap_X9_move rfl rfl rfl (by decide +kernel) ⟨Nat.le_of_ble_eq_true rfl, Nat.le_of_ble_eq_true rfl⟩) (dw_preV (ci := 9) (q0 := 0) hK hN hE hP hD hS hA rfl rfl) rfl rfl hl.1 rfl (lv_room (Nat.le_of_ble_eq_true rfl)) dX9_swap_3 ⟨Nat.le_of_ble_eq_true rfl, Nat.le_of_ble_eq_true rfl⟩) hD hS hA (fun r9 u9 H locs hw hp hd hs => ?_)
  clear hP hD hS
  obtain ⟨rfl, rfl⟩ := hw
  have hP := hp; have hD := hd; have hS := hs; clear hp hd hs
  cases h
  exact kz_iret hx hb hr hlocks hP hK hD hS dX9_swap_6 ⟨rfl, rfl⟩
