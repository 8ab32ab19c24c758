theorem u9_wsX4_readSum_X4 : ∀ w ∈ u_ws RX4 TX4 11, w ∈ wsX4_readSum := by
  first | exact fun w h => List.mem_cons_of_mem _ (List.mem_append_right _ h) | decide +kernel
theorem f9_wsX4_readSum_515 : (Cond.fieldLink RX4 15 "TurnedFloors$Reader" "length" "I") ∈ wsX4_readSum := by decide +kernel
theorem f9_wsX4_readSum_516 : (Cond.fieldLink RX4 45 "TurnedFloors$Reader" "faultAt" "I") ∈ wsX4_readSum := by decide +kernel
theorem f9_wsX4_readSum_517 : (Cond.fieldLink RX4 23 "TurnedFloors$Reader" "text" "LTurnedFloors$Text;") ∈ wsX4_readSum := by decide +kernel
theorem u9_wsX7_endSum_X7 : ∀ w ∈ u_ws RX7 TX7 8, w ∈ wsX7_endSum := by
  first | exact fun w h => List.mem_cons_of_mem _ (List.mem_append_right _ h) | decide +kernel
theorem f9_wsX7_endSum_519 : (Cond.fieldLink RX7 7 "TurnedFloors$Text" "clauses" "I") ∈ wsX7_endSum := by decide +kernel
theorem f9_wsX7_endSum_520 : (Cond.fieldLink RX7 26 "TurnedFloors$Text" "testFrom" "[I") ∈ wsX7_endSum := by decide +kernel
theorem f9_wsX7_endSum_521 : (Cond.fieldLink RX7 13 "TurnedFloors$Text" "length" "I") ∈ wsX7_endSum := by decide +kernel
theorem f9_wsX7_endSum_522 : (Cond.fieldLink RX7 29 "TurnedFloors$Text" "testTo" "[I") ∈ wsX7_endSum := by decide +kernel
theorem u9_wsX4_isWord_X4 : ∀ w ∈ u_ws RX4 TX4 11, w ∈ wsX4_isWord := by
  first | exact fun w h => List.mem_cons_of_mem _ (List.mem_append_right _ h) | decide +kernel
theorem f9_wsX4_isWord_524 : (Cond.fieldLink RX4 27 "TurnedFloors$Reader" "token" "I") ∈ wsX4_isWord := by decide +kernel
theorem u9_wsX7_setTimes_X7 : ∀ w ∈ u_ws RX7 TX7 8, w ∈ wsX7_setTimes := by
  first | exact fun w h => List.mem_cons_of_mem _ (List.mem_append_right _ h) | decide +kernel
theorem f9_wsX7_setTimes_526 : (Cond.fieldLink RX7 7 "TurnedFloors$Text" "clauses" "I") ∈ wsX7_setTimes := by decide +kernel
theorem f9_wsX7_setTimes_527 : (Cond.fieldLink RX7 20 "TurnedFloors$Text" "times" "[I") ∈ wsX7_setTimes := by decide +kernel
theorem u9_wsX4_readTimes_X4 : ∀ w ∈ u_ws RX4 TX4 11, w ∈ wsX4_readTimes := by
  first | exact fun w h => List.mem_cons_of_mem _ (List.mem_append_right _ h) | decide +kernel
theorem f9_wsX4_readTimes_529 : (Cond.fieldLink RX4 27 "TurnedFloors$Reader" "token" "I") ∈ wsX4_readTimes := by decide +kernel
theorem f9_wsX4_readTimes_530 : (Cond.fieldLink RX4 36 "TurnedFloors$Reader" "number" "I") ∈ wsX4_readTimes := by decide +kernel
theorem f9_wsX4_readTimes_531 : (Cond.fieldLink RX4 23 "TurnedFloors$Reader" "text" "LTurnedFloors$Text;") ∈ wsX4_readTimes := by decide +kernel
set_option maxHeartbeats 4000000 in
set_option maxRecDepth 100000 in
theorem WX4_signIn_s24_t5_2b {p : Program} {l : Launch} {e : Env} {s : State} {m : MethodId} {args : Array Value} {below : List Frame} {meth : Method} {c : Code} {D : va_G} {ty : Nat → ClassId} {eo : Nat → Nat} {A : Nat → Prop} {ad : Nat → Nat} {o1 : Int32} {o2 : dK} (C : dc_C p s m args meth c cX4_signIn (some .int) 4 RX4 wsX4_signIn D ty eo A) {k2 : dK → Int32 → Int32 → Option (Int32 × dK)} (hk2 : ∀ (q : dK) (x2 : Int32) (x3 : Int32) (H : Heap) (locs : List Loc) (ls : Array Slot), k2 q x2 x3 = some (o1, o2) → va_P D vwCl (wF ty ad q) H → va_D A (wF ty ad q) → va_S A s.heap H locs → lv_has ls 4 [(0, .ref (ad 24)), (1, .ref (eo (1 + 5))), (2, .int x2), (3, .int x3)] → W p l e ({ frames := 4, cells := 0, slots := 0, locals := 85 } : Room) s m args below meth c H locs 0 0 (MQ below (va_Qi (fun (r : Int32) (u : va_W) => o1 = r ∧ wF ty ad o2 = u) (kz_B D ty A) A) args s 0 0 A) (F0 m 2 ls [])) (q : dK) (x2 : Int32) (x3 : Int32) (H : Heap) (locs : List Loc) (ls : Array Slot) (h : zX4_signIn_s24_t5_2b k2 q x2 x3 = some (o1, o2)) (hP : va_P D vwCl (wF ty ad q) H) (hD : va_D A (wF ty ad q)) (hS : va_S A s.heap H locs) (hl : lv_has ls 4 [(0, .ref (ad 24)), (1, .ref (eo (1 + 5))), (2, .int x2), (3, .int x3)]) : W p l e ({ frames := 4, cells := 0, slots := 0, locals := 85 } : Room) s m args below meth c H locs 0 0 (MQ below (va_Qi (fun (r : Int32) (u : va_W) => o1 = r ∧ wF ty ad o2 = u) (kz_B D ty A) A) args s 0 0 A) (F0 m 2 ls []) := by
  have C0 := C
  obtain ⟨hx, hb, hr, hts, hown, hlocks, hml, hK, hN, hE, hA⟩ := C
  unfold zX4_signIn_s24_t5_2b at h
  refine lv_iload_n hx hb dX4_signIn_2 rfl (lv_at hl 3 rfl) ?_
  refine lv_aload_n hx hb dX4_signIn_3 rfl (lv_at hl 1 rfl) ?_
  refine dw_ks (va_runV (As := []) (rest := [.int x3]) ⟨hx, hb, hml, hown, hts⟩ (kcJ0le l D ty eo _ 5 (by decide)) (cwV 0 hts gX4_signIn_J0_length_8abf5 rfl rfl rfl (by decide +kernel) ⟨Nat.le_of_ble_eq_true rfl, Nat.le_of_ble_eq_true rfl⟩) (kz_preT hK hN hE hP hD hS hA 5 (by decide) [] (by decide) rfl) rfl rfl hl.1 rfl (lv_room (Nat.le_of_ble_eq_true rfl)) dX4_signIn_4 ⟨Nat.le_of_ble_eq_true rfl, Nat.le_of_ble_eq_true rfl⟩) hP hD hS hA (fun _ _ h9 => h9.2.symm) (fun r9 u9 H locs hw hp hd hs => ?_)
  obtain ⟨rfl, -⟩ := hw
  clear hP hD hS
  have hP := hp; have hD := hd; have hS := hs; clear hp hd hs
  refine kz_topi 2 (by decide +kernel) ?_
  refine lv_icmp_ge (tgt := 32) hx hb dX4_signIn_7 (by decide) (fun c9 => ?_) (fun c9 => ?_)
  · rw [if_pos c9] at h
    refine lv_iconst (v := (-1)) hx hb dX4_signIn_32 (by decide) ?_
    cases h
    exact kz_iret hx hb hr hlocks hP hK hD hS dX4_signIn_33 ⟨rfl, rfl⟩
  · rw [if_neg c9] at h
    refine lv_aload_n hx hb dX4_signIn_10 rfl (lv_at hl 0 rfl) ?_
    refine lv_aload_n hx hb dX4_signIn_11 rfl (lv_at hl 1 rfl) ?_
    refine lv_iload_n hx hb dX4_signIn_12 rfl (lv_at hl 3 rfl) ?_
    obtain ⟨g1, h⟩ := dG_some h
    refine dw_ks (va_runV (As := [.int x3]) (rest := [.ref (ad 24)]) ⟨hx, hb, hml, hown, hts⟩ (kcJ0ch l D ty eo _ 5 (by decide) x3 (dg_in g1)) (cwV 1 hts gX4_signIn_J0_charAt_5068e rfl rfl rfl (by decide +kernel) ⟨Nat.le_of_ble_eq_true rfl, Nat.le_of_ble_eq_true rfl⟩) (kz_preT hK hN hE hP hD hS hA 5 (by decide) [] (by decide) rfl) rfl rfl hl.1 rfl (lv_room (Nat.le_of_ble_eq_true rfl)) dX4_signIn_13 ⟨Nat.le_of_ble_eq_true rfl, Nat.le_of_ble_eq_true rfl⟩) hP hD hS hA (fun _ _ h9 => h9.2.symm) (fun r9 u9 H locs hw hp hd hs => ?_)
    obtain ⟨rfl, -⟩ := hw
    clear hP hD hS
    have hP := hp; have hD := hd; have hS := hs; clear hp hd hs
    obtain ⟨v2, ev2, h⟩ := dL_some h
    refine kz_topi v2 ev2 ?_
    obtain ⟨r3, q5, h4, h⟩ := dB_some h
    refine dw_ki (va_runV (As := [.int v2]) (rest := []) ⟨hx, hb, hml, hown, hts⟩ (qX4_isSign_s24 l D ty eo _ ad q v2 r3 q5 h4) (cwV 1 hts gX4_signIn_X4_isSign rfl rfl rfl (by decide +kernel) ⟨Nat.le_of_ble_eq_true rfl, Nat.le_of_ble_eq_true rfl⟩) (dw_preV (ci := 4) (q0 := 24) hK hN hE hP hD hS hA rfl rfl) rfl rfl hl.1 rfl (lv_room (Nat.le_of_ble_eq_true rfl)) dX4_signIn_16 ⟨Nat.le_of_ble_eq_true rfl, Nat.le_of_ble_eq_true rfl⟩) hD hS hA (fun r9 u9 H locs hw hp hd hs => ?_)
    clear hP hD hS
    obtain ⟨rfl, rfl⟩ := hw
    have hP := hp; have hD := hd; have hS := hs; clear hp hd hs
    refine lv_if_eq (tgt := 26) hx hb dX4_signIn_19 (by decide) (fun c9 => ?_) (fun c9 => ?_)
    · rw [if_pos c9] at h
      refine lv_iinc (v := x3 + 1) (lv' := [(3, .int (x3 + 1)), (0, .ref (ad 24)), (1, .ref (eo (1 + 5))), (2, .int x2)]) hx hb dX4_signIn_26 hl (k := 3) rfl rfl (by decide) rfl (fun ls hl => ?_)
      refine lv_goto (tgt := 2) hx hb dX4_signIn_29 (by decide) ?_
      exact hk2 _ _ _ _ _ _ h hP hD hS (lv_sub hl [1, 2, 3, 0] rfl)
    · rw [if_neg c9] at h
      refine lv_iload_n hx hb dX4_signIn_22 rfl (lv_at hl 2 rfl) ?_
      refine lv_iload_n hx hb dX4_signIn_23 rfl (lv_at hl 3 rfl) ?_
      refine lv_iadd hx hb dX4_signIn_24 ?_
      cases h
      exact kz_iret hx hb hr hlocks hP hK hD hS dX4_signIn_25 ⟨rfl, rfl⟩
set_option maxHeartbeats 4000000 in
set_option maxRecDepth 100000 in
theorem WX4_signIn_s24_t5_2 {p : Program} {l : Launch} {e : Env} {s : State} {m : MethodId} {args : Array Value} {below : List Frame} {meth : Method} {c : Code} {D : va_G} {ty : Nat → ClassId} {eo : Nat → Nat} {A : Nat → Prop} {ad : Nat → Nat} {o1 : Int32} {o2 : dK} (C : dc_C p s m args meth c cX4_signIn (some .int) 4 RX4 wsX4_signIn D ty eo A)   (n : Nat) (q : dK) (x2 : Int32) (x3 : Int32) (H : Heap) (locs : List Loc) (ls : Array Slot) (h : zX4_signIn_s24_t5_2  n q x2 x3 = some (o1, o2)) (hP : va_P D vwCl (wF ty ad q) H) (hD : va_D A (wF ty ad q)) (hS : va_S A s.heap H locs) (hl : lv_has ls 4 [(0, .ref (ad 24)), (1, .ref (eo (1 + 5))), (2, .int x2), (3, .int x3)]) : W p l e ({ frames := 4, cells := 0, slots := 0, locals := 85 } : Room) s m args below meth c H locs 0 0 (MQ below (va_Qi (fun (r : Int32) (u : va_W) => o1 = r ∧ wF ty ad o2 = u) (kz_B D ty A) A) args s 0 0 A) (F0 m 2 ls []) := by
  exact dFix_W (F := fun k (a : dK × Int32 × Int32) => zX4_signIn_s24_t5_2b  (fun q x2 x3 => k (q, x2, x3)) a.1 a.2.1 a.2.2) (o := (o1, o2)) (P := fun (a : dK × Int32 × Int32) H locs ls => va_P D vwCl (wF ty ad a.1) H ∧ va_D A (wF ty ad a.1) ∧ va_S A s.heap H locs ∧ lv_has ls 4 [(0, .ref (ad 24)), (1, .ref (eo (1 + 5))), (2, .int a.2.1), (3, .int a.2.2)]) (G := fun H locs ls => W p l e ({ frames := 4, cells := 0, slots := 0, locals := 85 } : Room) s m args below meth c H locs 0 0 (MQ below (va_Qi (fun (r : Int32) (u : va_W) => o1 = r ∧ wF ty ad o2 = u) (kz_B D ty A) A) args s 0 0 A) (F0 m 2 ls []))
    (fun k hk a H locs ls h hp => WX4_signIn_s24_t5_2b C  (fun q x2 x3 H locs ls h h1 h2 h3 h4 => hk (q, x2, x3) H locs ls h ⟨h1, h2, h3, h4⟩) a.1 a.2.1 a.2.2 H locs ls h hp.1 hp.2.1 hp.2.2.1 hp.2.2.2) n (q, x2, x3) H locs ls h ⟨hP, hD, hS, hl⟩
set_option maxHeartbeats 4000000 in
set_option maxRecDepth 100000 in
theorem qX4_signIn_s24_t5 (l : Launch) (D : va_G) (ty : Nat → ClassId) (eo : Nat → Nat) (sz : Nat) (ad : Nat → Nat) (q : dK) (p2 : Int32) (o1 : Int32) (o2 : dK) (h : zX4_signIn_s24_t5 q p2 = some (o1, o2)) : Met l yX4_signIn wsX4_signIn ({ frames := 4, cells := 0, slots := 0, locals := 85 } : Room) (va_Pc [.ref (ad 24), .ref (eo (1 + 5)), .int p2] (kz_pre D ty eo (wF ty ad q) sz)) (va_Qi (fun (r : Int32) (u : va_W) => o1 = r ∧ wF ty ad o2 = u) (kz_B D ty (va_A (wF ty ad q) sz)) (va_A (wF ty ad q) sz)) 0 0 (va_A (wF ty ad q) sz) := by
  refine Met.ofW (cc := cX4_signIn) (maxL := 4) (ret := (some .int)) (by decide) rfl ?_
  intro p e s m args below meth c s₁ B hml hv
  obtain ⟨rfl, hsz, hP, hK, hD0, hN, hE⟩ := hv
  have hx := B.exec
  have hb := B.bytes
  have hr := B.returns
  have hts := atoms_spec (ws := wsX4_signIn) B.pre
  have hown : s.vm.findClass RX4 = some m.cls := findClass_of_methodNamed B.named
  have hlocks := B.notSynchronized
  subst hsz
  have hD := hD0.self (sz := s.heap.size)
  generalize hAe : va_A (wF ty ad q) s.heap.size = A at hD hE ⊢
  have hA : ∀ q : Nat, s.heap.size ≤ q → A q := fun q h => by rw [← hAe]; exact Or.inr h
  clear hAe
  have hS : va_S A s.heap s.heap [] := va_S.rf
  have hl := lv_entry ([.ref (ad 24), .ref (eo (1 + 5)), .int p2]) (n := 4) (Nat.le_of_ble_eq_true rfl)
  rw [lg_entry_eq]
  generalize (lg_sl ([.ref (ad 24), .ref (eo (1 + 5)), .int p2]) ++ List.replicate (4 - (lg_sl ([.ref (ad 24), .ref (eo (1 + 5)), .int p2])).length) Slot.unset).toArray = ls at hl ⊢
  have hl : lv_has ls 4 [(0, .ref (ad 24)), (1, .ref (eo (1 + 5))), (2, .int p2)] := hl
  have C : dc_C p s m _ meth c cX4_signIn (some .int) 4 RX4 wsX4_signIn D ty eo A := ⟨hx, hb, hr, hts, hown, hlocks, hml, hK, hN, hE, hA⟩
  unfold zX4_signIn_s24_t5 at h
  refine lv_iconst (v := 0) hx hb dX4_signIn_0 (by decide) ?_
  refine lv_istore_n (lv' := [(3, .int 0), (0, .ref (ad 24)), (1, .ref (eo (1 + 5))), (2, .int p2)]) hx hb dX4_signIn_1 rfl hl (by decide) rfl (fun ls hl => ?_)
  exact WX4_signIn_s24_t5_2 C  _ _ _ _ _ _ _ h hP hD hS (lv_sub hl [1, 2, 3, 0] rfl)

set_option maxHeartbeats 4000000 in
set_option maxRecDepth 100000 in
theorem WX4_readSum_s24_59 {p : Program} {l : Launch} {e : Env} {s : State} {m : MethodId} {args : Array Value} {below : List Frame} {meth : Method} {c : Code} {D : va_G} {ty : Nat → ClassId} {eo : Nat → Nat} {A : Nat → Prop} {ad : Nat → Nat} {o2 : dK} {kS : dK → Option (dK)} {nS : Nat} (hkS : ∀ (sz : Nat) (q : dK)  (o2 : dK), kS q  = some o2 → Met l yX4_readSum wsX4_readSum ({ frames := 12 + 3 * nS, cells := 0, slots := 0, locals := 400 + 67 * nS } : Room) (va_Pc [.ref (ad 24)] (kz_pre D ty eo (wF ty ad q) sz)) (va_Qv (fun (u : va_W) => wF ty ad o2 = u) (kz_B D ty (va_A (wF ty ad q) sz)) (va_A (wF ty ad q) sz)) 0 0 (va_A (wF ty ad q) sz)) (C : dc_C p s m args meth c cX4_readSum none 3 RX4 wsX4_readSum D ty eo A)   (q : dK)  (H : Heap) (locs : List Loc) (ls : Array Slot) (h : zX4_readSum_s24_59 kS  q = some o2) (hP : va_P D vwCl (wF ty ad q) H) (hD : va_D A (wF ty ad q)) (hS : va_S A s.heap H locs) (hl : lv_has ls 3 []) : W p l e ({ frames := 12 + 3 * nS + 3, cells := 0, slots := 0, locals := 400 + 67 * nS + 67 } : Room) s m args below meth c H locs 0 0 (MQ below (va_Qv (fun (u : va_W) => wF ty ad o2 = u) (kz_B D ty A) A) args s 0 0 A) (F0 m 59 ls []) := by
  have C0 := C
  obtain ⟨hx, hb, hr, hts, hown, hlocks, hml, hK, hN, hE, hA⟩ := C
  unfold zX4_readSum_s24_59 at h
  cases h
  exact kz_vret hx hb hr hlocks hP hK hD hS dX4_readSum_59 rfl
set_option maxHeartbeats 4000000 in
set_option maxRecDepth 100000 in
theorem WX4_readSum_s24_6b {p : Program} {l : Launch} {e : Env} {s : State} {m : MethodId} {args : Array Value} {below : List Frame} {meth : Method} {c : Code} {D : va_G} {ty : Nat → ClassId} {eo : Nat → Nat} {A : Nat → Prop} {ad : Nat → Nat} {o2 : dK} {kS : dK → Option (dK)} {nS : Nat} (hkS : ∀ (sz : Nat) (q : dK)  (o2 : dK), kS q  = some o2 → Met l yX4_readSum wsX4_readSum ({ frames := 12 + 3 * nS, cells := 0, slots := 0, locals := 400 + 67 * nS } : Room) (va_Pc [.ref (ad 24)] (kz_pre D ty eo (wF ty ad q) sz)) (va_Qv (fun (u : va_W) => wF ty ad o2 = u) (kz_B D ty (va_A (wF ty ad q) sz)) (va_A (wF ty ad q) sz)) 0 0 (va_A (wF ty ad q) sz)) (C : dc_C p s m args meth c cX4_readSum none 3 RX4 wsX4_readSum D ty eo A) {k6 : dK → Int32 → Option (dK)} (hk6 : ∀ (q : dK) (x1 : Int32) (H : Heap) (locs : List Loc) (ls : Array Slot), k6 q x1 = some o2 → va_P D vwCl (wF ty ad q) H → va_D A (wF ty ad q) → va_S A s.heap H locs → lv_has ls 3 [(0, .ref (ad 24)), (1, .int x1)] → W p l e ({ frames := 12 + 3 * nS + 3, cells := 0, slots := 0, locals := 400 + 67 * nS + 67 } : Room) s m args below meth c H locs 0 0 (MQ below (va_Qv (fun (u : va_W) => wF ty ad o2 = u) (kz_B D ty A) A) args s 0 0 A) (F0 m 6 ls [])) (q : dK) (x1 : Int32) (H : Heap) (locs : List Loc) (ls : Array Slot) (h : zX4_readSum_s24_6b kS k6 q x1 = some o2) (hP : va_P D vwCl (wF ty ad q) H) (hD : va_D A (wF ty ad q)) (hS : va_S A s.heap H locs) (hl : lv_has ls 3 [(0, .ref (ad 24)), (1, .int x1)]) : W p l e ({ frames := 12 + 3 * nS + 3, cells := 0, slots := 0, locals := 400 + 67 * nS + 67 } : Room) s m args below meth c H locs 0 0 (MQ below (va_Qv (fun (u : va_W) => wF ty ad o2 = u) (kz_B D ty A) A) args s 0 0 A) (F0 m 6 ls []) := by
  have C0 := C
  obtain ⟨hx, hb, hr, hts, hown, hlocks, hml, hK, hN, hE, hA⟩ := C
  unfold zX4_readSum_s24_6b at h
  refine lv_iload_n hx hb dX4_readSum_6 rfl (lv_at hl 1 rfl) ?_
  refine lv_aload_n hx hb dX4_readSum_7 rfl (lv_at hl 0 rfl) ?_
  refine va_get (D := D) (ci := 4) (v := .int (q.1 24 1)) (C := RX4) (T := TX4) (N := 11) hx hb hts u9_wsX4_readSum_X4 hown hK hP 24 rfl rfl 1 (by decide) (hts (.fieldLink RX4 15 "TurnedFloors$Reader" "length" "I") f9_wsX4_readSum_515) (fun _ h9 => h9) rfl dX4_readSum_8 ?_
  refine lv_icmp_ge (tgt := 59) hx hb dX4_readSum_11 (by decide) (fun c9 => ?_) (fun c9 => ?_)
  · rw [if_pos c9] at h
    exact WX4_readSum_s24_59 hkS C0  _ _ _ _ h hP hD hS (lv_sub hl [] rfl)
  · rw [if_neg c9] at h
    refine lv_aload_n hx hb dX4_readSum_14 rfl (lv_at hl 0 rfl) ?_
    refine va_get (D := D) (ci := 4) (v := .int (q.1 24 10)) (C := RX4) (T := TX4) (N := 11) hx hb hts u9_wsX4_readSum_X4 hown hK hP 24 rfl rfl 10 (by decide) (hts (.fieldLink RX4 45 "TurnedFloors$Reader" "faultAt" "I") f9_wsX4_readSum_516) (fun _ h9 => h9) rfl dX4_readSum_15 ?_
    refine lv_iconst (v := (-1)) hx hb dX4_readSum_18 (by decide) ?_
    refine lv_icmp_ne (tgt := 59) hx hb dX4_readSum_19 (by decide) (fun c9 => ?_) (fun c9 => ?_)
    · rw [if_neg c9] at h
      exact WX4_readSum_s24_59 hkS C0  _ _ _ _ h hP hD hS (lv_sub hl [] rfl)
    · rw [if_pos c9] at h
      refine lv_aload_n hx hb dX4_readSum_22 rfl (lv_at hl 0 rfl) ?_
      refine va_ldcS hx hb hown (hE.2.2.2.2.1 5 (by decide)) dX4_readSum_23 ?_
      refine lv_iconst (v := 2) hx hb dX4_readSum_25 (by decide) ?_
      obtain ⟨r1, q3, h2, h⟩ := dB_some h
      refine dw_ki (va_runV (As := [.ref (eo (1 + 5)), .int 2]) (rest := []) ⟨hx, hb, hml, hown, hts⟩ (qX4_signIn_s24_t5 l D ty eo _ ad q 2 r1 q3 h2) (cwV 2 hts gX4_readSum_X4_signIn rfl rfl rfl (by decide +kernel) ⟨by dsimp only [headSpec]; omega, by dsimp only [headSpec]; omega⟩) (dw_preV (ci := 4) (q0 := 24) hK hN hE hP hD hS hA rfl rfl) rfl rfl hl.1 rfl (lv_room (Nat.le_of_ble_eq_true rfl)) dX4_readSum_26 ⟨Nat.le_of_ble_eq_true rfl, Nat.le_of_ble_eq_true rfl⟩) hD hS hA (fun r9 u9 H locs hw hp hd hs => ?_)
      clear hP hD hS
      obtain ⟨rfl, rfl⟩ := hw
      have hP := hp; have hD := hd; have hS := hs; clear hp hd hs
      refine lv_istore_n (lv' := [(2, .int r1), (0, .ref (ad 24)), (1, .int x1)]) hx hb dX4_readSum_29 rfl hl (by decide) rfl (fun ls hl => ?_)
      refine lv_iload_n hx hb dX4_readSum_30 rfl (lv_at hl 0 rfl) ?_
      refine lv_iconst (v := (-1)) hx hb dX4_readSum_31 (by decide) ?_
      refine lv_icmp_ne (tgt := 36) hx hb dX4_readSum_32 (by decide) (fun c9 => ?_) (fun c9 => ?_)
      · rw [if_neg c9] at h
        refine lv_aload_n hx hb dX4_readSum_36 rfl (lv_at hl 1 rfl) ?_
        obtain ⟨q6, h5, h⟩ := dV_some h
        refine dw_kv (va_runV (As := []) (rest := []) ⟨hx, hb, hml, hown, hts⟩ (qX4_step_s24 l D ty eo _ ad q3  q6 h5) (cwV 0 hts gX4_readSum_X4_step rfl rfl rfl (by decide +kernel) ⟨by dsimp only [headSpec]; omega, by dsimp only [headSpec]; omega⟩) (dw_preV (ci := 4) (q0 := 24) hK hN hE hP hD hS hA rfl rfl) rfl rfl hl.1 rfl (lv_room (Nat.le_of_ble_eq_true rfl)) dX4_readSum_37 ⟨Nat.le_of_ble_eq_true rfl, Nat.le_of_ble_eq_true rfl⟩) hD hS hA (fun u9 H locs hw hp hd hs => ?_)
        clear hP hD hS
        obtain rfl := hw
        have hP := hp; have hD := hd; have hS := hs; clear hp hd hs
        refine lv_aload_n hx hb dX4_readSum_40 rfl (lv_at hl 1 rfl) ?_
        obtain ⟨q9, h8, h⟩ := dV_some h
        refine dw_kv (va_runV (As := []) (rest := []) ⟨hx, hb, hml, hown, hts⟩ (qX4_readTerm_s24 l D ty eo _ ad kS nS hkS q6  q9 h8) (cwV 0 hts gX4_readSum_X4_readTerm rfl rfl rfl (by decide +kernel) ⟨by dsimp only [headSpec]; omega, by dsimp only [headSpec]; omega⟩) (dw_preV (ci := 4) (q0 := 24) hK hN hE hP hD hS hA rfl rfl) rfl rfl hl.1 rfl (lv_room (Nat.le_of_ble_eq_true rfl)) dX4_readSum_41 ⟨Nat.le_of_ble_eq_true rfl, Nat.le_of_ble_eq_true rfl⟩) hD hS hA (fun u9 H locs hw hp hd hs => ?_)
        clear hP hD hS
        obtain rfl := hw
        have hP := hp; have hD := hd; have hS := hs; clear hp hd hs
        refine lv_aload_n hx hb dX4_readSum_44 rfl (lv_at hl 1 rfl) ?_
        refine va_get (D := D) (ci := 4) (v := dN (ad 25) (q9.1 24 3)) (C := RX4) (T := TX4) (N := 11) hx hb hts u9_wsX4_readSum_X4 hown hK hP 24 rfl rfl 3 (by decide) (hts (.fieldLink RX4 23 "TurnedFloors$Reader" "text" "LTurnedFloors$Text;") f9_wsX4_readSum_517) (fun _ h9 => h9) rfl dX4_readSum_45 ?_
        obtain ⟨g10, h⟩ := dG_some h
        refine kz_topv (if_neg (dnz_ne g10)) ?_
        refine lv_iload_n hx hb dX4_readSum_48 rfl (lv_at hl 0 rfl) ?_
        refine lv_iconst (v := 0) hx hb dX4_readSum_49 (by decide) ?_
        obtain ⟨q13, h12, h⟩ := dV_some h
        refine dw_kv (va_runV (As := [.int r1, .int 0]) (rest := []) ⟨hx, hb, hml, hown, hts⟩ (qX7_emit_s25 l D ty eo _ ad q9 r1 0 q13 h12) (cwV 2 hts gX4_readSum_X7_emit rfl rfl rfl (by decide +kernel) ⟨by dsimp only [headSpec]; omega, by dsimp only [headSpec]; omega⟩) (dw_preV (ci := 7) (q0 := 25) hK hN hE hP hD hS hA rfl rfl) rfl rfl hl.1 rfl (lv_room (Nat.le_of_ble_eq_true rfl)) dX4_readSum_50 ⟨Nat.le_of_ble_eq_true rfl, Nat.le_of_ble_eq_true rfl⟩) hD hS hA (fun u9 H locs hw hp hd hs => ?_)
        clear hP hD hS
        obtain rfl := hw
        have hP := hp; have hD := hd; have hS := hs; clear hp hd hs
        refine lv_iinc (v := x1 + 1) (lv' := [(1, .int (x1 + 1)), (2, .int r1), (0, .ref (ad 24))]) hx hb dX4_readSum_53 hl (k := 2) rfl rfl (by decide) rfl (fun ls hl => ?_)
        refine lv_goto (tgt := 6) hx hb dX4_readSum_56 (by decide) ?_
        exact hk6 _ _ _ _ _ h hP hD hS (lv_sub hl [2, 0] rfl)
      · rw [if_pos c9] at h
        cases h
        exact kz_vret hx hb hr hlocks hP hK hD hS dX4_readSum_35 rfl
set_option maxHeartbeats 4000000 in
set_option maxRecDepth 100000 in
theorem WX4_readSum_s24_6 {p : Program} {l : Launch} {e : Env} {s : State} {m : MethodId} {args : Array Value} {below : List Frame} {meth : Method} {c : Code} {D : va_G} {ty : Nat → ClassId} {eo : Nat → Nat} {A : Nat → Prop} {ad : Nat → Nat} {o2 : dK} {kS : dK → Option (dK)} {nS : Nat} (hkS : ∀ (sz : Nat) (q : dK)  (o2 : dK), kS q  = some o2 → Met l yX4_readSum wsX4_readSum ({ frames := 12 + 3 * nS, cells := 0, slots := 0, locals := 400 + 67 * nS } : Room) (va_Pc [.ref (ad 24)] (kz_pre D ty eo (wF ty ad q) sz)) (va_Qv (fun (u : va_W) => wF ty ad o2 = u) (kz_B D ty (va_A (wF ty ad q) sz)) (va_A (wF ty ad q) sz)) 0 0 (va_A (wF ty ad q) sz)) (C : dc_C p s m args meth c cX4_readSum none 3 RX4 wsX4_readSum D ty eo A)   (n : Nat) (q : dK) (x1 : Int32) (H : Heap) (locs : List Loc) (ls : Array Slot) (h : zX4_readSum_s24_6 kS  n q x1 = some o2) (hP : va_P D vwCl (wF ty ad q) H) (hD : va_D A (wF ty ad q)) (hS : va_S A s.heap H locs) (hl : lv_has ls 3 [(0, .ref (ad 24)), (1, .int x1)]) : W p l e ({ frames := 12 + 3 * nS + 3, cells := 0, slots := 0, locals := 400 + 67 * nS + 67 } : Room) s m args below meth c H locs 0 0 (MQ below (va_Qv (fun (u : va_W) => wF ty ad o2 = u) (kz_B D ty A) A) args s 0 0 A) (F0 m 6 ls []) := by
  exact dFix_W (F := fun k (a : dK × Int32) => zX4_readSum_s24_6b kS  (fun q x1 => k (q, x1)) a.1 a.2) (o := o2) (P := fun (a : dK × Int32) H locs ls => va_P D vwCl (wF ty ad a.1) H ∧ va_D A (wF ty ad a.1) ∧ va_S A s.heap H locs ∧ lv_has ls 3 [(0, .ref (ad 24)), (1, .int a.2)]) (G := fun H locs ls => W p l e ({ frames := 12 + 3 * nS + 3, cells := 0, slots := 0, locals := 400 + 67 * nS + 67 } : Room) s m args below meth c H locs 0 0 (MQ below (va_Qv (fun (u : va_W) => wF ty ad o2 = u) (kz_B D ty A) A) args s 0 0 A) (F0 m 6 ls []))
    (fun k hk a H locs ls h hp => WX4_readSum_s24_6b hkS C  (fun q x1 H locs ls h h1 h2 h3 h4 => hk (q, x1) H locs ls h ⟨h1, h2, h3, h4⟩) a.1 a.2 H locs ls h hp.1 hp.2.1 hp.2.2.1 hp.2.2.2) n (q, x1) H locs ls h ⟨hP, hD, hS, hl⟩
set_option maxHeartbeats 4000000 in
set_option maxRecDepth 100000 in
theorem qX4_readSum_s24_o (l : Launch) (D : va_G) (ty : Nat → ClassId) (eo : Nat → Nat) (sz : Nat) (ad : Nat → Nat) (kS : dK → Option (dK)) (nS : Nat) (hkS : ∀ (sz : Nat) (q : dK)  (o2 : dK), kS q  = some o2 → Met l yX4_readSum wsX4_readSum ({ frames := 12 + 3 * nS, cells := 0, slots := 0, locals := 400 + 67 * nS } : Room) (va_Pc [.ref (ad 24)] (kz_pre D ty eo (wF ty ad q) sz)) (va_Qv (fun (u : va_W) => wF ty ad o2 = u) (kz_B D ty (va_A (wF ty ad q) sz)) (va_A (wF ty ad q) sz)) 0 0 (va_A (wF ty ad q) sz)) (q : dK)  (o2 : dK) (h : zX4_readSum_s24_o kS q = some o2) : Met l yX4_readSum wsX4_readSum ({ frames := 12 + 3 * nS + 3, cells := 0, slots := 0, locals := 400 + 67 * nS + 67 } : Room) (va_Pc [.ref (ad 24)] (kz_pre D ty eo (wF ty ad q) sz)) (va_Qv (fun (u : va_W) => wF ty ad o2 = u) (kz_B D ty (va_A (wF ty ad q) sz)) (va_A (wF ty ad q) sz)) 0 0 (va_A (wF ty ad q) sz) := by
  refine Met.ofW (cc := cX4_readSum) (maxL := 3) (ret := none) (by decide) rfl ?_
  intro p e s m args below meth c s₁ B hml hv
  obtain ⟨rfl, hsz, hP, hK, hD0, hN, hE⟩ := hv
  have hx := B.exec
  have hb := B.bytes
  have hr := B.returns
  have hts := atoms_spec (ws := wsX4_readSum) B.pre
  have hown : s.vm.findClass RX4 = some m.cls := findClass_of_methodNamed B.named
  have hlocks := B.notSynchronized
  subst hsz
  have hD := hD0.self (sz := s.heap.size)
  generalize hAe : va_A (wF ty ad q) s.heap.size = A at hD hE ⊢
  have hA : ∀ q : Nat, s.heap.size ≤ q → A q := fun q h => by rw [← hAe]; exact Or.inr h
  clear hAe
  have hS : va_S A s.heap s.heap [] := va_S.rf
  have hl := lv_entry ([.ref (ad 24)]) (n := 3) (Nat.le_of_ble_eq_true rfl)
  rw [lg_entry_eq]
  generalize (lg_sl ([.ref (ad 24)]) ++ List.replicate (3 - (lg_sl ([.ref (ad 24)])).length) Slot.unset).toArray = ls at hl ⊢
  have hl : lv_has ls 3 [(0, .ref (ad 24))] := hl
  have C : dc_C p s m _ meth c cX4_readSum none 3 RX4 wsX4_readSum D ty eo A := ⟨hx, hb, hr, hts, hown, hlocks, hml, hK, hN, hE, hA⟩
  unfold zX4_readSum_s24_o at h
  refine lv_aload_n hx hb dX4_readSum_0 rfl (lv_at hl 0 rfl) ?_
  obtain ⟨q3, h2, h⟩ := dV_some h
  refine dw_kv (va_runV (As := []) (rest := []) ⟨hx, hb, hml, hown, hts⟩ (qX4_readTerm_s24 l D ty eo _ ad kS nS hkS q  q3 h2) (cwV 0 hts gX4_readSum_X4_readTerm rfl rfl rfl (by decide +kernel) ⟨by dsimp only [headSpec]; omega, by dsimp only [headSpec]; omega⟩) (dw_preV (ci := 4) (q0 := 24) hK hN hE hP hD hS hA rfl rfl) rfl rfl hl.1 rfl (lv_room (Nat.le_of_ble_eq_true rfl)) dX4_readSum_1 ⟨Nat.le_of_ble_eq_true rfl, Nat.le_of_ble_eq_true rfl⟩) hD hS hA (fun u9 H locs hw hp hd hs => ?_)
  clear hP hD hS
  obtain rfl := hw
  have hP := hp; have hD := hd; have hS := hs; clear hp hd hs
  refine lv_iconst (v := 0) hx hb dX4_readSum_4 (by decide) ?_
  refine lv_istore_n (lv' := [(1, .int 0), (0, .ref (ad 24))]) hx hb dX4_readSum_5 rfl hl (by decide) rfl (fun ls hl => ?_)
  exact WX4_readSum_s24_6 hkS C  _ _ _ _ _ _ h hP hD hS (lv_sub hl [1, 0] rfl)
set_option maxHeartbeats 4000000 in
set_option maxRecDepth 100000 in
theorem qX4_readSum_s24 (l : Launch) (D : va_G) (ty : Nat → ClassId) (eo : Nat → Nat) (sz : Nat) (ad : Nat → Nat) (n : Nat) : ∀ (q : dK)  (o2 : dK), zX4_readSum_s24 n q  = some o2 → Met l yX4_readSum wsX4_readSum ({ frames := 12 + 3 * n, cells := 0, slots := 0, locals := 400 + 67 * n } : Room) (va_Pc [.ref (ad 24)] (kz_pre D ty eo (wF ty ad q) sz)) (va_Qv (fun (u : va_W) => wF ty ad o2 = u) (kz_B D ty (va_A (wF ty ad q) sz)) (va_A (wF ty ad q) sz)) 0 0 (va_A (wF ty ad q) sz) := by
  induction n generalizing sz with
  | zero => intro q  o2 h; cases h
  | succ n ih =>
    intro q  o2 h
    have h2 := qX4_readSum_s24_o l D ty eo sz ad (zX4_readSum_s24 n) n (fun sz q  o2 h => ih sz q  o2 h) q  o2 h
    have e : ({ frames := 12 + 3 * n + 3, cells := 0, slots := 0, locals := 400 + 67 * n + 67 } : Room) = ({ frames := 12 + 3 * (n + 1), cells := 0, slots := 0, locals := 400 + 67 * (n + 1) } : Room) := by congr 1 <;> omega
    rw [← e]
    exact h2

set_option maxHeartbeats 4000000 in
set_option maxRecDepth 100000 in
theorem WX7_endSum_s25_37 {p : Program} {l : Launch} {e : Env} {s : State} {m : MethodId} {args : Array Value} {below : List Frame} {meth : Method} {c : Code} {D : va_G} {ty : Nat → ClassId} {eo : Nat → Nat} {A : Nat → Prop} {ad : Nat → Nat} {o2 : dK} (C : dc_C p s m args meth c cX7_endSum none 1 RX7 wsX7_endSum D ty eo A)   (q : dK)  (H : Heap) (locs : List Loc) (ls : Array Slot) (h : zX7_endSum_s25_37  q = some o2) (hP : va_P D vwCl (wF ty ad q) H) (hD : va_D A (wF ty ad q)) (hS : va_S A s.heap H locs) (hl : lv_has ls 1 []) : W p l e ({ frames := 0, cells := 0, slots := 0, locals := 0 } : Room) s m args below meth c H locs 0 0 (MQ below (va_Qv (fun (u : va_W) => wF ty ad o2 = u) (kz_B D ty A) A) args s 0 0 A) (F0 m 37 ls []) := by
  have C0 := C
  obtain ⟨hx, hb, hr, hts, hown, hlocks, hml, hK, hN, hE, hA⟩ := C
  unfold zX7_endSum_s25_37 at h
  cases h
  exact kz_vret hx hb hr hlocks hP hK hD hS dX7_endSum_37 rfl
set_option maxHeartbeats 4000000 in
set_option maxRecDepth 100000 in
theorem qX7_endSum_s25 (l : Launch) (D : va_G) (ty : Nat → ClassId) (eo : Nat → Nat) (sz : Nat) (ad : Nat → Nat) (q : dK)  (o2 : dK) (h : zX7_endSum_s25 q = some o2) : Met l yX7_endSum wsX7_endSum ({ frames := 0, cells := 0, slots := 0, locals := 0 } : Room) (va_Pc [.ref (ad 25)] (kz_pre D ty eo (wF ty ad q) sz)) (va_Qv (fun (u : va_W) => wF ty ad o2 = u) (kz_B D ty (va_A (wF ty ad q) sz)) (va_A (wF ty ad q) sz)) 0 0 (va_A (wF ty ad q) sz) := by
  refine Met.ofW (cc := cX7_endSum) (maxL := 1) (ret := none) (by decide) rfl ?_
  intro p e s m args below meth c s₁ B hml hv
  obtain ⟨rfl, hsz, hP, hK, hD0, hN, hE⟩ := hv
  have hx := B.exec
  have hb := B.bytes
  have hr := B.returns
  have hts := atoms_spec (ws := wsX7_endSum) B.pre
  have hown : s.vm.findClass RX7 = some m.cls := findClass_of_methodNamed B.named
  have hlocks := B.notSynchronized
  subst hsz
  have hD := hD0.self (sz := s.heap.size)
  generalize hAe : va_A (wF ty ad q) s.heap.size = A at hD hE ⊢
  have hA : ∀ q : Nat, s.heap.size ≤ q → A q := fun q h => by rw [← hAe]; exact Or.inr h
  clear hAe
  have hS : va_S A s.heap s.heap [] := va_S.rf
  have hl := lv_entry ([.ref (ad 25)]) (n := 1) (Nat.le_of_ble_eq_true rfl)
  rw [lg_entry_eq]
  generalize (lg_sl ([.ref (ad 25)]) ++ List.replicate (1 - (lg_sl ([.ref (ad 25)])).length) Slot.unset).toArray = ls at hl ⊢
  have hl : lv_has ls 1 [(0, .ref (ad 25))] := hl
  have C : dc_C p s m _ meth c cX7_endSum none 1 RX7 wsX7_endSum D ty eo A := ⟨hx, hb, hr, hts, hown, hlocks, hml, hK, hN, hE, hA⟩
  unfold zX7_endSum_s25 at h
  refine lv_aload_n hx hb dX7_endSum_0 rfl (lv_at hl 0 rfl) ?_
  refine va_get (D := D) (ci := 7) (v := .int (q.1 25 6)) (C := RX7) (T := TX7) (N := 8) hx hb hts u9_wsX7_endSum_X7 hown hK hP 25 rfl rfl 6 (by decide) (hts (.fieldLink RX7 7 "TurnedFloors$Text" "clauses" "I") f9_wsX7_endSum_519) (fun _ h9 => h9) rfl dX7_endSum_1 ?_
  refine lv_if_le (tgt := 37) hx hb dX7_endSum_4 (by decide) (fun c9 => ?_) (fun c9 => ?_)
  · rw [if_pos c9] at h
    exact WX7_endSum_s25_37 C  _ _ _ _ h hP hD hS (lv_sub hl [] rfl)
  · rw [if_neg c9] at h
    refine lv_aload_n hx hb dX7_endSum_7 rfl (lv_at hl 0 rfl) ?_
    refine va_get (D := D) (ci := 7) (v := .ref (ad 29)) (C := RX7) (T := TX7) (N := 8) hx hb hts u9_wsX7_endSum_X7 hown hK hP 25 rfl rfl 3 (by decide) (hts (.fieldLink RX7 26 "TurnedFloors$Text" "testFrom" "[I") f9_wsX7_endSum_520) (fun _ h9 => h9) rfl dX7_endSum_8 ?_
    refine lv_aload_n hx hb dX7_endSum_11 rfl (lv_at hl 0 rfl) ?_
    refine va_get (D := D) (ci := 7) (v := .int (q.1 25 6)) (C := RX7) (T := TX7) (N := 8) hx hb hts u9_wsX7_endSum_X7 hown hK hP 25 rfl rfl 6 (by decide) (hts (.fieldLink RX7 7 "TurnedFloors$Text" "clauses" "I") f9_wsX7_endSum_519) (fun _ h9 => h9) rfl dX7_endSum_12 ?_
    refine lv_iconst (v := 1) hx hb dX7_endSum_15 (by decide) ?_
    refine lv_isub hx hb dX7_endSum_16 ?_
    refine lv_aload_n hx hb dX7_endSum_17 rfl (lv_at hl 0 rfl) ?_
    refine va_get (D := D) (ci := 7) (v := .int (q.1 25 7)) (C := RX7) (T := TX7) (N := 8) hx hb hts u9_wsX7_endSum_X7 hown hK hP 25 rfl rfl 7 (by decide) (hts (.fieldLink RX7 13 "TurnedFloors$Text" "length" "I") f9_wsX7_endSum_521) (fun _ h9 => h9) rfl dX7_endSum_18 ?_
    obtain ⟨g1, h⟩ := dG_some h
    refine va_iast hx hb hK hP hD hS 29 0 rfl rfl (dg_in g1) dX7_endSum_21 (fun H locs hp hd hs => ?_)
    obtain ⟨q2, eq2, h⟩ := dL_some h
    refine kz_re (w2 := wF ty ad q2) hp hd hs (by rw [← eq2]; exact wF_a29 ty ad q (Int32.toNatClampNeg ((q.1 25 6) - 1 : Int32)) (q.1 25 7)) ?_
    clear hp hd hs hP hD hS
    intro hP hD hS
    refine lv_aload_n hx hb dX7_endSum_22 rfl (lv_at hl 0 rfl) ?_
    refine va_get (D := D) (ci := 7) (v := .ref (ad 30)) (C := RX7) (T := TX7) (N := 8) hx hb hts u9_wsX7_endSum_X7 hown hK hP 25 rfl rfl 4 (by decide) (hts (.fieldLink RX7 29 "TurnedFloors$Text" "testTo" "[I") f9_wsX7_endSum_522) (fun _ h9 => h9) rfl dX7_endSum_23 ?_
    refine lv_aload_n hx hb dX7_endSum_26 rfl (lv_at hl 0 rfl) ?_
    refine va_get (D := D) (ci := 7) (v := .int (q2.1 25 6)) (C := RX7) (T := TX7) (N := 8) hx hb hts u9_wsX7_endSum_X7 hown hK hP 25 rfl rfl 6 (by decide) (hts (.fieldLink RX7 7 "TurnedFloors$Text" "clauses" "I") f9_wsX7_endSum_519) (fun _ h9 => h9) rfl dX7_endSum_27 ?_
    refine lv_iconst (v := 1) hx hb dX7_endSum_30 (by decide) ?_
    refine lv_isub hx hb dX7_endSum_31 ?_
    refine lv_aload_n hx hb dX7_endSum_32 rfl (lv_at hl 0 rfl) ?_
    refine va_get (D := D) (ci := 7) (v := .int (q2.1 25 7)) (C := RX7) (T := TX7) (N := 8) hx hb hts u9_wsX7_endSum_X7 hown hK hP 25 rfl rfl 7 (by decide) (hts (.fieldLink RX7 13 "TurnedFloors$Text" "length" "I") f9_wsX7_endSum_521) (fun _ h9 => h9) rfl dX7_endSum_33 ?_
    obtain ⟨g3, h⟩ := dG_some h
    refine va_iast hx hb hK hP hD hS 30 0 rfl rfl (dg_in g3) dX7_endSum_36 (fun H locs hp hd hs => ?_)
    obtain ⟨q4, eq4, h⟩ := dL_some h
    refine kz_re (w2 := wF ty ad q4) hp hd hs (by rw [← eq4]; exact wF_a30 ty ad q2 (Int32.toNatClampNeg ((q2.1 25 6) - 1 : Int32)) (q2.1 25 7)) ?_
    clear hp hd hs hP hD hS
    intro hP hD hS
    exact WX7_endSum_s25_37 C  _ _ _ _ h hP hD hS (lv_sub hl [] rfl)

set_option maxHeartbeats 4000000 in
set_option maxRecDepth 100000 in
theorem WX4_isSame_s24_t6_20b {p : Program} {l : Launch} {e : Env} {s : State} {m : MethodId} {args : Array Value} {below : List Frame} {meth : Method} {c : Code} {D : va_G} {ty : Nat → ClassId} {eo : Nat → Nat} {A : Nat → Prop} {ad : Nat → Nat} {o1 : Int32} {o2 : dK} (C : dc_C p s m args meth c cX4_isSame (some .boolean) 5 RX4 wsX4_isSame D ty eo A) {k20 : dK → Int32 → Int32 → Int32 → Option (Int32 × dK)} (hk20 : ∀ (q : dK) (x2 : Int32) (x3 : Int32) (x4 : Int32) (H : Heap) (locs : List Loc) (ls : Array Slot), k20 q x2 x3 x4 = some (o1, o2) → va_P D vwCl (wF ty ad q) H → va_D A (wF ty ad q) → va_S A s.heap H locs → lv_has ls 5 [(0, .ref (ad 24)), (1, .ref (eo (1 + 6))), (2, .int x2), (3, .int x3), (4, .int x4)] → W p l e ({ frames := 4, cells := 0, slots := 0, locals := 85 } : Room) s m args below meth c H locs 0 0 (MQ below (va_Qi (fun (r : Int32) (u : va_W) => o1 = r ∧ wF ty ad o2 = u) (kz_B D ty A) A) args s 0 0 A) (F0 m 20 ls [])) (q : dK) (x2 : Int32) (x3 : Int32) (x4 : Int32) (H : Heap) (locs : List Loc) (ls : Array Slot) (h : zX4_isSame_s24_t6_20b k20 q x2 x3 x4 = some (o1, o2)) (hP : va_P D vwCl (wF ty ad q) H) (hD : va_D A (wF ty ad q)) (hS : va_S A s.heap H locs) (hl : lv_has ls 5 [(0, .ref (ad 24)), (1, .ref (eo (1 + 6))), (2, .int x2), (3, .int x3), (4, .int x4)]) : W p l e ({ frames := 4, cells := 0, slots := 0, locals := 85 } : Room) s m args below meth c H locs 0 0 (MQ below (va_Qi (fun (r : Int32) (u : va_W) => o1 = r ∧ wF ty ad o2 = u) (kz_B D ty A) A) args s 0 0 A) (F0 m 20 ls []) := by
  have C0 := C
  obtain ⟨hx, hb, hr, hts, hown, hlocks, hml, hK, hN, hE, hA⟩ := C
  unfold zX4_isSame_s24_t6_20b at h
  refine lv_iload hx hb dX4_isSame_20 (lv_at hl 4 rfl) ?_
  refine lv_iload_n hx hb dX4_isSame_22 rfl (lv_at hl 3 rfl) ?_
  refine lv_icmp_ge (tgt := 57) hx hb dX4_isSame_23 (by decide) (fun c9 => ?_) (fun c9 => ?_)
  · rw [if_pos c9] at h
    refine lv_iconst (v := 1) hx hb dX4_isSame_57 (by decide) ?_
    cases h
    exact kz_zret hx hb hr hlocks rfl hP hK hD hS dX4_isSame_58 ⟨rfl, rfl⟩
  · rw [if_neg c9] at h
    refine lv_aload_n hx hb dX4_isSame_26 rfl (lv_at hl 1 rfl) ?_
    refine lv_iload hx hb dX4_isSame_27 (lv_at hl 4 rfl) ?_
    obtain ⟨g1, h⟩ := dG_some h
    refine dw_ks (va_runV (As := [.int x4]) (rest := []) ⟨hx, hb, hml, hown, hts⟩ (kcJ0ch l D ty eo _ 6 (by decide) x4 (dg_in g1)) (cwV 1 hts gX4_isSame_J0_charAt_5068e rfl rfl rfl (by decide +kernel) ⟨Nat.le_of_ble_eq_true rfl, Nat.le_of_ble_eq_true rfl⟩) (kz_preT hK hN hE hP hD hS hA 6 (by decide) [] (by decide) rfl) rfl rfl hl.1 rfl (lv_room (Nat.le_of_ble_eq_true rfl)) dX4_isSame_29 ⟨Nat.le_of_ble_eq_true rfl, Nat.le_of_ble_eq_true rfl⟩) hP hD hS hA (fun _ _ h9 => h9.2.symm) (fun r9 u9 H locs hw hp hd hs => ?_)
    obtain ⟨rfl, -⟩ := hw
    clear hP hD hS
    have hP := hp; have hD := hd; have hS := hs; clear hp hd hs
    obtain ⟨v2, ev2, h⟩ := dL_some h
    refine kz_topi v2 ev2 ?_
    refine lv_aload_n hx hb dX4_isSame_32 rfl (lv_at hl 0 rfl) ?_
    refine va_get (D := D) (ci := 4) (v := dN (ad 46) (q.1 24 0)) (C := RX4) (T := TX4) (N := 11) hx hb hts u9_wsX4_isSame_X4 hown hK hP 24 rfl rfl 0 (by decide) (hts (.fieldLink RX4 9 "TurnedFloors$Reader" "bytes" "[I") f9_wsX4_isSame_474) (fun _ h9 => h9) rfl dX4_isSame_33 ?_
    obtain ⟨g3, h⟩ := dG_some h
    refine kz_topv (if_neg (dnz_ne g3)) ?_
    refine lv_aload_n hx hb dX4_isSame_36 rfl (lv_at hl 0 rfl) ?_
    refine va_get (D := D) (ci := 4) (v := .int (q.1 24 5)) (C := RX4) (T := TX4) (N := 11) hx hb hts u9_wsX4_isSame_X4 hown hK hP 24 rfl rfl 5 (by decide) (hts (.fieldLink RX4 30 "TurnedFloors$Reader" "start" "I") f9_wsX4_isSame_475) (fun _ h9 => h9) rfl dX4_isSame_37 ?_
    refine lv_iload hx hb dX4_isSame_40 (lv_at hl 4 rfl) ?_
    refine lv_iadd hx hb dX4_isSame_42 ?_
    refine lv_iload_n hx hb dX4_isSame_43 rfl (lv_at hl 2 rfl) ?_
    refine lv_isub hx hb dX4_isSame_44 ?_
    obtain ⟨g4, h⟩ := dG_some h
    refine va_iald hx hb hK hP 46 0 rfl rfl (dg_in g4) dX4_isSame_45 ?_
    obtain ⟨v5, ev5, h⟩ := dL_some h
    refine kz_topi v5 ev5 ?_
    refine lv_icmp_eq (tgt := 51) hx hb dX4_isSame_46 (by decide) (fun c9 => ?_) (fun c9 => ?_)
    · rw [if_pos c9] at h
      refine lv_iinc (v := x4 + 1) (lv' := [(4, .int (x4 + 1)), (0, .ref (ad 24)), (1, .ref (eo (1 + 6))), (2, .int x2), (3, .int x3)]) hx hb dX4_isSame_51 hl (k := 4) rfl rfl (by decide) rfl (fun ls hl => ?_)
      refine lv_goto (tgt := 20) hx hb dX4_isSame_54 (by decide) ?_
      exact hk20 _ _ _ _ _ _ _ h hP hD hS (lv_sub hl [1, 2, 3, 4, 0] rfl)
    · rw [if_neg c9] at h
      refine lv_iconst (v := 0) hx hb dX4_isSame_49 (by decide) ?_
      cases h
      exact kz_zret hx hb hr hlocks rfl hP hK hD hS dX4_isSame_50 ⟨rfl, rfl⟩
set_option maxHeartbeats 4000000 in
set_option maxRecDepth 100000 in
theorem WX4_isSame_s24_t6_20 {p : Program} {l : Launch} {e : Env} {s : State} {m : MethodId} {args : Array Value} {below : List Frame} {meth : Method} {c : Code} {D : va_G} {ty : Nat → ClassId} {eo : Nat → Nat} {A : Nat → Prop} {ad : Nat → Nat} {o1 : Int32} {o2 : dK} (C : dc_C p s m args meth c cX4_isSame (some .boolean) 5 RX4 wsX4_isSame D ty eo A)   (n : Nat) (q : dK) (x2 : Int32) (x3 : Int32) (x4 : Int32) (H : Heap) (locs : List Loc) (ls : Array Slot) (h : zX4_isSame_s24_t6_20  n q x2 x3 x4 = some (o1, o2)) (hP : va_P D vwCl (wF ty ad q) H) (hD : va_D A (wF ty ad q)) (hS : va_S A s.heap H locs) (hl : lv_has ls 5 [(0, .ref (ad 24)), (1, .ref (eo (1 + 6))), (2, .int x2), (3, .int x3), (4, .int x4)]) : W p l e ({ frames := 4, cells := 0, slots := 0, locals := 85 } : Room) s m args below meth c H locs 0 0 (MQ below (va_Qi (fun (r : Int32) (u : va_W) => o1 = r ∧ wF ty ad o2 = u) (kz_B D ty A) A) args s 0 0 A) (F0 m 20 ls []) := by
  exact dFix_W (F := fun k (a : dK × Int32 × Int32 × Int32) => zX4_isSame_s24_t6_20b  (fun q x2 x3 x4 => k (q, x2, x3, x4)) a.1 a.2.1 a.2.2.1 a.2.2.2) (o := (o1, o2)) (P := fun (a : dK × Int32 × Int32 × Int32) H locs ls => va_P D vwCl (wF ty ad a.1) H ∧ va_D A (wF ty ad a.1) ∧ va_S A s.heap H locs ∧ lv_has ls 5 [(0, .ref (ad 24)), (1, .ref (eo (1 + 6))), (2, .int a.2.1), (3, .int a.2.2.1), (4, .int a.2.2.2)]) (G := fun H locs ls => W p l e ({ frames := 4, cells := 0, slots := 0, locals := 85 } : Room) s m args below meth c H locs 0 0 (MQ below (va_Qi (fun (r : Int32) (u : va_W) => o1 = r ∧ wF ty ad o2 = u) (kz_B D ty A) A) args s 0 0 A) (F0 m 20 ls []))
    (fun k hk a H locs ls h hp => WX4_isSame_s24_t6_20b C  (fun q x2 x3 x4 H locs ls h h1 h2 h3 h4 => hk (q, x2, x3, x4) H locs ls h ⟨h1, h2, h3, h4⟩) a.1 a.2.1 a.2.2.1 a.2.2.2 H locs ls h hp.1 hp.2.1 hp.2.2.1 hp.2.2.2) n (q, x2, x3, x4) H locs ls h ⟨hP, hD, hS, hl⟩
set_option maxHeartbeats 4000000 in
set_option maxRecDepth 100000 in
theorem qX4_isSame_s24_t6 (l : Launch) (D : va_G) (ty : Nat → ClassId) (eo : Nat → Nat) (sz : Nat) (ad : Nat → Nat) (q : dK) (p2 : Int32) (p3 : Int32) (o1 : Int32) (o2 : dK) (h : zX4_isSame_s24_t6 q p2 p3 = some (o1, o2)) : Met l yX4_isSame wsX4_isSame ({ frames := 4, cells := 0, slots := 0, locals := 85 } : Room) (va_Pc [.ref (ad 24), .ref (eo (1 + 6)), .int p2, .int p3] (kz_pre D ty eo (wF ty ad q) sz)) (va_Qi (fun (r : Int32) (u : va_W) => o1 = r ∧ wF ty ad o2 = u) (kz_B D ty (va_A (wF ty ad q) sz)) (va_A (wF ty ad q) sz)) 0 0 (va_A (wF ty ad q) sz) := by
  refine Met.ofW (cc := cX4_isSame) (maxL := 5) (ret := (some .boolean)) (by decide) rfl ?_
  intro p e s m args below meth c s₁ B hml hv
  obtain ⟨rfl, hsz, hP, hK, hD0, hN, hE⟩ := hv
  have hx := B.exec
  have hb := B.bytes
  have hr := B.returns
  have hts := atoms_spec (ws := wsX4_isSame) B.pre
  have hown : s.vm.findClass RX4 = some m.cls := findClass_of_methodNamed B.named
  have hlocks := B.notSynchronized
  subst hsz
  have hD := hD0.self (sz := s.heap.size)
  generalize hAe : va_A (wF ty ad q) s.heap.size = A at hD hE ⊢
  have hA : ∀ q : Nat, s.heap.size ≤ q → A q := fun q h => by rw [← hAe]; exact Or.inr h
  clear hAe
  have hS : va_S A s.heap s.heap [] := va_S.rf
  have hl := lv_entry ([.ref (ad 24), .ref (eo (1 + 6)), .int p2, .int p3]) (n := 5) (Nat.le_of_ble_eq_true rfl)
  rw [lg_entry_eq]
  generalize (lg_sl ([.ref (ad 24), .ref (eo (1 + 6)), .int p2, .int p3]) ++ List.replicate (5 - (lg_sl ([.ref (ad 24), .ref (eo (1 + 6)), .int p2, .int p3])).length) Slot.unset).toArray = ls at hl ⊢
  have hl : lv_has ls 5 [(0, .ref (ad 24)), (1, .ref (eo (1 + 6))), (2, .int p2), (3, .int p3)] := hl
  have C : dc_C p s m _ meth c cX4_isSame (some .boolean) 5 RX4 wsX4_isSame D ty eo A := ⟨hx, hb, hr, hts, hown, hlocks, hml, hK, hN, hE, hA⟩
  unfold zX4_isSame_s24_t6 at h
  refine lv_iload_n hx hb dX4_isSame_0 rfl (lv_at hl 3 rfl) ?_
  refine lv_iload_n hx hb dX4_isSame_1 rfl (lv_at hl 2 rfl) ?_
  refine lv_isub hx hb dX4_isSame_2 ?_
  refine lv_aload_n hx hb dX4_isSame_3 rfl (lv_at hl 0 rfl) ?_
  refine va_get (D := D) (ci := 4) (v := .int (q.1 24 6)) (C := RX4) (T := TX4) (N := 11) hx hb hts u9_wsX4_isSame_X4 hown hK hP 24 rfl rfl 6 (by decide) (hts (.fieldLink RX4 33 "TurnedFloors$Reader" "stop" "I") f9_wsX4_isSame_476) (fun _ h9 => h9) rfl dX4_isSame_4 ?_
  refine lv_aload_n hx hb dX4_isSame_7 rfl (lv_at hl 0 rfl) ?_
  refine va_get (D := D) (ci := 4) (v := .int (q.1 24 5)) (C := RX4) (T := TX4) (N := 11) hx hb hts u9_wsX4_isSame_X4 hown hK hP 24 rfl rfl 5 (by decide) (hts (.fieldLink RX4 30 "TurnedFloors$Reader" "start" "I") f9_wsX4_isSame_475) (fun _ h9 => h9) rfl dX4_isSame_8 ?_
  refine lv_isub hx hb dX4_isSame_11 ?_
  refine lv_icmp_eq (tgt := 17) hx hb dX4_isSame_12 (by decide) (fun c9 => ?_) (fun c9 => ?_)
  · rw [if_pos c9] at h
    refine lv_iload_n hx hb dX4_isSame_17 rfl (lv_at hl 2 rfl) ?_
    refine lv_istore (lv' := [(4, .int p2), (0, .ref (ad 24)), (1, .ref (eo (1 + 6))), (2, .int p2), (3, .int p3)]) hx hb dX4_isSame_18 hl (by decide) rfl (fun ls hl => ?_)
    exact WX4_isSame_s24_t6_20 C  _ _ _ _ _ _ _ _ h hP hD hS (lv_sub hl [1, 2, 3, 4, 0] rfl)
  · rw [if_neg c9] at h
    refine lv_iconst (v := 0) hx hb dX4_isSame_15 (by decide) ?_
    cases h
    exact kz_zret hx hb hr hlocks rfl hP hK hD hS dX4_isSame_16 ⟨rfl, rfl⟩

set_option maxHeartbeats 4000000 in
set_option maxRecDepth 100000 in
theorem WX4_isWord_s24_t6_26 {p : Program} {l : Launch} {e : Env} {s : State} {m : MethodId} {args : Array Value} {below : List Frame} {meth : Method} {c : Code} {D : va_G} {ty : Nat → ClassId} {eo : Nat → Nat} {A : Nat → Prop} {ad : Nat → Nat} {o1 : Int32} {o2 : dK} (C : dc_C p s m args meth c cX4_isWord (some .boolean) 2 RX4 wsX4_isWord D ty eo A)   (q : dK) (y0 : Int32) (H : Heap) (locs : List Loc) (ls : Array Slot) (h : zX4_isWord_s24_t6_26  q y0 = some (o1, o2)) (hP : va_P D vwCl (wF ty ad q) H) (hD : va_D A (wF ty ad q)) (hS : va_S A s.heap H locs) (hl : lv_has ls 2 []) : W p l e ({ frames := 5, cells := 0, slots := 0, locals := 109 } : Room) s m args below meth c H locs 0 0 (MQ below (va_Qi (fun (r : Int32) (u : va_W) => o1 = r ∧ wF ty ad o2 = u) (kz_B D ty A) A) args s 0 0 A) (F0 m 26 ls [.int y0]) := by
  have C0 := C
  obtain ⟨hx, hb, hr, hts, hown, hlocks, hml, hK, hN, hE, hA⟩ := C
  unfold zX4_isWord_s24_t6_26 at h
  obtain ⟨g1, h⟩ := dG_some h
  cases h
  exact kz_zret hx hb hr hlocks (dbl_nar g1) hP hK hD hS dX4_isWord_26 ⟨rfl, rfl⟩
set_option maxHeartbeats 4000000 in
set_option maxRecDepth 100000 in
theorem WX4_isWord_s24_t6_25 {p : Program} {l : Launch} {e : Env} {s : State} {m : MethodId} {args : Array Value} {below : List Frame} {meth : Method} {c : Code} {D : va_G} {ty : Nat → ClassId} {eo : Nat → Nat} {A : Nat → Prop} {ad : Nat → Nat} {o1 : Int32} {o2 : dK} (C : dc_C p s m args meth c cX4_isWord (some .boolean) 2 RX4 wsX4_isWord D ty eo A)   (q : dK)  (H : Heap) (locs : List Loc) (ls : Array Slot) (h : zX4_isWord_s24_t6_25  q = some (o1, o2)) (hP : va_P D vwCl (wF ty ad q) H) (hD : va_D A (wF ty ad q)) (hS : va_S A s.heap H locs) (hl : lv_has ls 2 []) : W p l e ({ frames := 5, cells := 0, slots := 0, locals := 109 } : Room) s m args below meth c H locs 0 0 (MQ below (va_Qi (fun (r : Int32) (u : va_W) => o1 = r ∧ wF ty ad o2 = u) (kz_B D ty A) A) args s 0 0 A) (F0 m 25 ls []) := by
  have C0 := C
  obtain ⟨hx, hb, hr, hts, hown, hlocks, hml, hK, hN, hE, hA⟩ := C
  unfold zX4_isWord_s24_t6_25 at h
  refine lv_iconst (v := 0) hx hb dX4_isWord_25 (by decide) ?_
  exact WX4_isWord_s24_t6_26 C0  _ _ _ _ _ h hP hD hS (lv_sub hl [] rfl)
set_option maxHeartbeats 4000000 in
set_option maxRecDepth 100000 in
theorem qX4_isWord_s24_t6 (l : Launch) (D : va_G) (ty : Nat → ClassId) (eo : Nat → Nat) (sz : Nat) (ad : Nat → Nat) (q : dK)  (o1 : Int32) (o2 : dK) (h : zX4_isWord_s24_t6 q = some (o1, o2)) : Met l yX4_isWord wsX4_isWord ({ frames := 5, cells := 0, slots := 0, locals := 109 } : Room) (va_Pc [.ref (ad 24), .ref (eo (1 + 6))] (kz_pre D ty eo (wF ty ad q) sz)) (va_Qi (fun (r : Int32) (u : va_W) => o1 = r ∧ wF ty ad o2 = u) (kz_B D ty (va_A (wF ty ad q) sz)) (va_A (wF ty ad q) sz)) 0 0 (va_A (wF ty ad q) sz) := by
  refine Met.ofW (cc := cX4_isWord) (maxL := 2) (ret := (some .boolean)) (by decide) rfl ?_
  intro p e s m args below meth c s₁ B hml hv
  obtain ⟨rfl, hsz, hP, hK, hD0, hN, hE⟩ := hv
  have hx := B.exec
  have hb := B.bytes
  have hr := B.returns
  have hts := atoms_spec (ws := wsX4_isWord) B.pre
  have hown : s.vm.findClass RX4 = some m.cls := findClass_of_methodNamed B.named
  have hlocks := B.notSynchronized
  subst hsz
  have hD := hD0.self (sz := s.heap.size)
  generalize hAe : va_A (wF ty ad q) s.heap.size = A at hD hE ⊢
  have hA : ∀ q : Nat, s.heap.size ≤ q → A q := fun q h => by rw [← hAe]; exact Or.inr h
  clear hAe
  have hS : va_S A s.heap s.heap [] := va_S.rf
  have hl := lv_entry ([.ref (ad 24), .ref (eo (1 + 6))]) (n := 2) (Nat.le_of_ble_eq_true rfl)
  rw [lg_entry_eq]
  generalize (lg_sl ([.ref (ad 24), .ref (eo (1 + 6))]) ++ List.replicate (2 - (lg_sl ([.ref (ad 24), .ref (eo (1 + 6))])).length) Slot.unset).toArray = ls at hl ⊢
  have hl : lv_has ls 2 [(0, .ref (ad 24)), (1, .ref (eo (1 + 6)))] := hl
  have C : dc_C p s m _ meth c cX4_isWord (some .boolean) 2 RX4 wsX4_isWord D ty eo A := ⟨hx, hb, hr, hts, hown, hlocks, hml, hK, hN, hE, hA⟩
  unfold zX4_isWord_s24_t6 at h
  refine lv_aload_n hx hb dX4_isWord_0 rfl (lv_at hl 0 rfl) ?_
  refine va_get (D := D) (ci := 4) (v := .int (q.1 24 4)) (C := RX4) (T := TX4) (N := 11) hx hb hts u9_wsX4_isWord_X4 hown hK hP 24 rfl rfl 4 (by decide) (hts (.fieldLink RX4 27 "TurnedFloors$Reader" "token" "I") f9_wsX4_isWord_524) (fun _ h9 => h9) rfl dX4_isWord_1 ?_
  refine lv_iconst (v := 1) hx hb dX4_isWord_4 (by decide) ?_
  refine lv_icmp_ne (tgt := 25) hx hb dX4_isWord_5 (by decide) (fun c9 => ?_) (fun c9 => ?_)
  · rw [if_neg c9] at h
    exact WX4_isWord_s24_t6_25 C  _ _ _ _ h hP hD hS (lv_sub hl [] rfl)
  · rw [if_pos c9] at h
    refine lv_aload_n hx hb dX4_isWord_8 rfl (lv_at hl 0 rfl) ?_
    refine lv_aload_n hx hb dX4_isWord_9 rfl (lv_at hl 1 rfl) ?_
    refine lv_iconst (v := 0) hx hb dX4_isWord_10 (by decide) ?_
    refine lv_aload_n hx hb dX4_isWord_11 rfl (lv_at hl 1 rfl) ?_
    refine dw_ks (va_runV (As := []) (rest := [.int 0, .ref (eo (1 + 6)), .ref (ad 24)]) ⟨hx, hb, hml, hown, hts⟩ (kcJ0le l D ty eo _ 6 (by decide)) (cwV 0 hts gX4_isWord_J0_length_8abf5 rfl rfl rfl (by decide +kernel) ⟨Nat.le_of_ble_eq_true rfl, Nat.le_of_ble_eq_true rfl⟩) (kz_preT hK hN hE hP hD hS hA 6 (by decide) [] (by decide) rfl) rfl rfl hl.1 rfl (lv_room (Nat.le_of_ble_eq_true rfl)) dX4_isWord_12 ⟨Nat.le_of_ble_eq_true rfl, Nat.le_of_ble_eq_true rfl⟩) hP hD hS hA (fun _ _ h9 => h9.2.symm) (fun r9 u9 H locs hw hp hd hs => ?_)
    obtain ⟨rfl, -⟩ := hw
    clear hP hD hS
    have hP := hp; have hD := hd; have hS := hs; clear hp hd hs
    refine kz_topi 5 (by decide +kernel) ?_
    obtain ⟨r1, q3, h2, h⟩ := dB_some h
    refine dw_ki (va_runV (As := [.ref (eo (1 + 6)), .int 0, .int 5]) (rest := []) ⟨hx, hb, hml, hown, hts⟩ (qX4_isSame_s24_t6 l D ty eo _ ad q 0 5 r1 q3 h2) (cwV 3 hts gX4_isWord_X4_isSame rfl rfl rfl (by decide +kernel) ⟨Nat.le_of_ble_eq_true rfl, Nat.le_of_ble_eq_true rfl⟩) (dw_preV (ci := 4) (q0 := 24) hK hN hE hP hD hS hA rfl rfl) rfl rfl hl.1 rfl (lv_room (Nat.le_of_ble_eq_true rfl)) dX4_isWord_15 ⟨Nat.le_of_ble_eq_true rfl, Nat.le_of_ble_eq_true rfl⟩) hD hS hA (fun r9 u9 H locs hw hp hd hs => ?_)
    clear hP hD hS
    obtain ⟨rfl, rfl⟩ := hw
    have hP := hp; have hD := hd; have hS := hs; clear hp hd hs
    refine lv_if_eq (tgt := 25) hx hb dX4_isWord_18 (by decide) (fun c9 => ?_) (fun c9 => ?_)
    · rw [if_pos c9] at h
      exact WX4_isWord_s24_t6_25 C  _ _ _ _ h hP hD hS (lv_sub hl [] rfl)
    · rw [if_neg c9] at h
      refine lv_iconst (v := 1) hx hb dX4_isWord_21 (by decide) ?_
      refine lv_goto (tgt := 26) hx hb dX4_isWord_22 (by decide) ?_
      exact WX4_isWord_s24_t6_26 C  _ _ _ _ _ h hP hD hS (lv_sub hl [] rfl)

set_option maxHeartbeats 4000000 in
set_option maxRecDepth 100000 in
theorem WX7_setTimes_s25_19 {p : Program} {l : Launch} {e : Env} {s : State} {m : MethodId} {args : Array Value} {below : List Frame} {meth : Method} {c : Code} {D : va_G} {ty : Nat → ClassId} {eo : Nat → Nat} {A : Nat → Prop} {ad : Nat → Nat} {o2 : dK} (C : dc_C p s m args meth c cX7_setTimes none 2 RX7 wsX7_setTimes D ty eo A)   (q : dK)  (H : Heap) (locs : List Loc) (ls : Array Slot) (h : zX7_setTimes_s25_19  q = some o2) (hP : va_P D vwCl (wF ty ad q) H) (hD : va_D A (wF ty ad q)) (hS : va_S A s.heap H locs) (hl : lv_has ls 2 []) : W p l e ({ frames := 0, cells := 0, slots := 0, locals := 0 } : Room) s m args below meth c H locs 0 0 (MQ below (va_Qv (fun (u : va_W) => wF ty ad o2 = u) (kz_B D ty A) A) args s 0 0 A) (F0 m 19 ls []) := by
  have C0 := C
  obtain ⟨hx, hb, hr, hts, hown, hlocks, hml, hK, hN, hE, hA⟩ := C
  unfold zX7_setTimes_s25_19 at h
  cases h
  exact kz_vret hx hb hr hlocks hP hK hD hS dX7_setTimes_19 rfl
set_option maxHeartbeats 4000000 in
set_option maxRecDepth 100000 in
theorem qX7_setTimes_s25 (l : Launch) (D : va_G) (ty : Nat → ClassId) (eo : Nat → Nat) (sz : Nat) (ad : Nat → Nat) (q : dK) (p1 : Int32) (o2 : dK) (h : zX7_setTimes_s25 q p1 = some o2) : Met l yX7_setTimes wsX7_setTimes ({ frames := 0, cells := 0, slots := 0, locals := 0 } : Room) (va_Pc [.ref (ad 25), .int p1] (kz_pre D ty eo (wF ty ad q) sz)) (va_Qv (fun (u : va_W) => wF ty ad o2 = u) (kz_B D ty (va_A (wF ty ad q) sz)) (va_A (wF ty ad q) sz)) 0 0 (va_A (wF ty ad q) sz) := by
  refine Met.ofW (cc := cX7_setTimes) (maxL := 2) (ret := none) (by decide) rfl ?_
  intro p e s m args below meth c s₁ B hml hv
  obtain ⟨rfl, hsz, hP, hK, hD0, hN, hE⟩ := hv
  have hx := B.exec
  have hb := B.bytes
  have hr := B.returns
  have hts := atoms_spec (ws := wsX7_setTimes) B.pre
  have hown : s.vm.findClass RX7 = some m.cls := findClass_of_methodNamed B.named
  have hlocks := B.notSynchronized
  subst hsz
  have hD := hD0.self (sz := s.heap.size)
  generalize hAe : va_A (wF ty ad q) s.heap.size = A at hD hE ⊢
  have hA : ∀ q : Nat, s.heap.size ≤ q → A q := fun q h => by rw [← hAe]; exact Or.inr h
  clear hAe
  have hS : va_S A s.heap s.heap [] := va_S.rf
  have hl := lv_entry ([.ref (ad 25), .int p1]) (n := 2) (Nat.le_of_ble_eq_true rfl)
  rw [lg_entry_eq]
  generalize (lg_sl ([.ref (ad 25), .int p1]) ++ List.replicate (2 - (lg_sl ([.ref (ad 25), .int p1])).length) Slot.unset).toArray = ls at hl ⊢
  have hl : lv_has ls 2 [(0, .ref (ad 25)), (1, .int p1)] := hl
  have C : dc_C p s m _ meth c cX7_setTimes none 2 RX7 wsX7_setTimes D ty eo A := ⟨hx, hb, hr, hts, hown, hlocks, hml, hK, hN, hE, hA⟩
  unfold zX7_setTimes_s25 at h
  refine lv_aload_n hx hb dX7_setTimes_0 rfl (lv_at hl 0 rfl) ?_
  refine va_get (D := D) (ci := 7) (v := .int (q.1 25 6)) (C := RX7) (T := TX7) (N := 8) hx hb hts u9_wsX7_setTimes_X7 hown hK hP 25 rfl rfl 6 (by decide) (hts (.fieldLink RX7 7 "TurnedFloors$Text" "clauses" "I") f9_wsX7_setTimes_526) (fun _ h9 => h9) rfl dX7_setTimes_1 ?_
  refine lv_if_le (tgt := 19) hx hb dX7_setTimes_4 (by decide) (fun c9 => ?_) (fun c9 => ?_)
  · rw [if_pos c9] at h
    exact WX7_setTimes_s25_19 C  _ _ _ _ h hP hD hS (lv_sub hl [] rfl)
  · rw [if_neg c9] at h
    refine lv_aload_n hx hb dX7_setTimes_7 rfl (lv_at hl 0 rfl) ?_
    refine va_get (D := D) (ci := 7) (v := .ref (ad 27)) (C := RX7) (T := TX7) (N := 8) hx hb hts u9_wsX7_setTimes_X7 hown hK hP 25 rfl rfl 1 (by decide) (hts (.fieldLink RX7 20 "TurnedFloors$Text" "times" "[I") f9_wsX7_setTimes_527) (fun _ h9 => h9) rfl dX7_setTimes_8 ?_
    refine lv_aload_n hx hb dX7_setTimes_11 rfl (lv_at hl 0 rfl) ?_
    refine va_get (D := D) (ci := 7) (v := .int (q.1 25 6)) (C := RX7) (T := TX7) (N := 8) hx hb hts u9_wsX7_setTimes_X7 hown hK hP 25 rfl rfl 6 (by decide) (hts (.fieldLink RX7 7 "TurnedFloors$Text" "clauses" "I") f9_wsX7_setTimes_526) (fun _ h9 => h9) rfl dX7_setTimes_12 ?_
    refine lv_iconst (v := 1) hx hb dX7_setTimes_15 (by decide) ?_
    refine lv_isub hx hb dX7_setTimes_16 ?_
    refine lv_iload_n hx hb dX7_setTimes_17 rfl (lv_at hl 1 rfl) ?_
    obtain ⟨g1, h⟩ := dG_some h
    refine va_iast hx hb hK hP hD hS 27 0 rfl rfl (dg_in g1) dX7_setTimes_18 (fun H locs hp hd hs => ?_)
    obtain ⟨q2, eq2, h⟩ := dL_some h
    refine kz_re (w2 := wF ty ad q2) hp hd hs (by rw [← eq2]; exact wF_a27 ty ad q (Int32.toNatClampNeg ((q.1 25 6) - 1 : Int32)) p1) ?_
    clear hp hd hs hP hD hS
    intro hP hD hS
    exact WX7_setTimes_s25_19 C  _ _ _ _ h hP hD hS (lv_sub hl [] rfl)

set_option maxHeartbeats 4000000 in
set_option maxRecDepth 100000 in
theorem WX4_readTimes_s24_25 {p : Program} {l : Launch} {e : Env} {s : State} {m : MethodId} {args : Array Value} {below : List Frame} {meth : Method} {c : Code} {D : va_G} {ty : Nat → ClassId} {eo : Nat → Nat} {A : Nat → Prop} {ad : Nat → Nat} {o2 : dK} (C : dc_C p s m args meth c cX4_readTimes none 1 RX4 wsX4_readTimes D ty eo A)   (q : dK)  (H : Heap) (locs : List Loc) (ls : Array Slot) (h : zX4_readTimes_s24_25  q = some o2) (hP : va_P D vwCl (wF ty ad q) H) (hD : va_D A (wF ty ad q)) (hS : va_S A s.heap H locs) (hl : lv_has ls 1 [(0, .ref (ad 24))]) : W p l e ({ frames := 2, cells := 0, slots := 0, locals := 42 } : Room) s m args below meth c H locs 0 0 (MQ below (va_Qv (fun (u : va_W) => wF ty ad o2 = u) (kz_B D ty A) A) args s 0 0 A) (F0 m 25 ls []) := by
  have C0 := C
  obtain ⟨hx, hb, hr, hts, hown, hlocks, hml, hK, hN, hE, hA⟩ := C
  unfold zX4_readTimes_s24_25 at h
  refine lv_aload_n hx hb dX4_readTimes_25 rfl (lv_at hl 0 rfl) ?_
  obtain ⟨q3, h2, h⟩ := dV_some h
  refine dw_kv (va_runV (As := []) (rest := []) ⟨hx, hb, hml, hown, hts⟩ (qX4_fail_s24 l D ty eo _ ad q  q3 h2) (cwV 0 hts gX4_readTimes_X4_fail rfl rfl rfl (by decide +kernel) ⟨Nat.le_of_ble_eq_true rfl, Nat.le_of_ble_eq_true rfl⟩) (dw_preV (ci := 4) (q0 := 24) hK hN hE hP hD hS hA rfl rfl) rfl rfl hl.1 rfl (lv_room (Nat.le_of_ble_eq_true rfl)) dX4_readTimes_26 ⟨Nat.le_of_ble_eq_true rfl, Nat.le_of_ble_eq_true rfl⟩) hD hS hA (fun u9 H locs hw hp hd hs => ?_)
  clear hP hD hS
  obtain rfl := hw
  have hP := hp; have hD := hd; have hS := hs; clear hp hd hs
  cases h
  exact kz_vret hx hb hr hlocks hP hK hD hS dX4_readTimes_29 rfl
set_option maxHeartbeats 4000000 in
set_option maxRecDepth 100000 in
theorem qX4_readTimes_s24 (l : Launch) (D : va_G) (ty : Nat → ClassId) (eo : Nat → Nat) (sz : Nat) (ad : Nat → Nat) (q : dK)  (o2 : dK) (h : zX4_readTimes_s24 q = some o2) : Met l yX4_readTimes wsX4_readTimes ({ frames := 2, cells := 0, slots := 0, locals := 42 } : Room) (va_Pc [.ref (ad 24)] (kz_pre D ty eo (wF ty ad q) sz)) (va_Qv (fun (u : va_W) => wF ty ad o2 = u) (kz_B D ty (va_A (wF ty ad q) sz)) (va_A (wF ty ad q) sz)) 0 0 (va_A (wF ty ad q) sz) := by
  refine Met.ofW (cc := cX4_readTimes) (maxL := 1) (ret := none) (by decide) rfl ?_
  intro p e s m args below meth c s₁ B hml hv
  obtain ⟨rfl, hsz, hP, hK, hD0, hN, hE⟩ := hv
  have hx := B.exec
  have hb := B.bytes
  have hr := B.returns
  have hts := atoms_spec (ws := wsX4_readTimes) B.pre
  have hown : s.vm.findClass RX4 = some m.cls := findClass_of_methodNamed B.named
  have hlocks := B.notSynchronized
  subst hsz
  have hD := hD0.self (sz := s.heap.size)
  generalize hAe : va_A (wF ty ad q) s.heap.size = A at hD hE ⊢
  have hA : ∀ q : Nat, s.heap.size ≤ q → A q := fun q h => by rw [← hAe]; exact Or.inr h
  clear hAe
  have hS : va_S A s.heap s.heap [] := va_S.rf
  have hl := lv_entry ([.ref (ad 24)]) (n := 1) (Nat.le_of_ble_eq_true rfl)
  rw [lg_entry_eq]
  generalize (lg_sl ([.ref (ad 24)]) ++ List.replicate (1 - (lg_sl ([.ref (ad 24)])).length) Slot.unset).toArray = ls at hl ⊢
  have hl : lv_has ls 1 [(0, .ref (ad 24))] := hl
  have C : dc_C p s m _ meth c cX4_readTimes none 1 RX4 wsX4_readTimes D ty eo A := ⟨hx, hb, hr, hts, hown, hlocks, hml, hK, hN, hE, hA⟩
  unfold zX4_readTimes_s24 at h
  refine lv_aload_n hx hb dX4_readTimes_0 rfl (lv_at hl 0 rfl) ?_
  refine va_get (D := D) (ci := 4) (v := .int (q.1 24 4)) (C := RX4) (T := TX4) (N := 11) hx hb hts u9_wsX4_readTimes_X4 hown hK hP 24 rfl rfl 4 (by decide) (hts (.fieldLink RX4 27 "TurnedFloors$Reader" "token" "I") f9_wsX4_readTimes_529) (fun _ h9 => h9) rfl dX4_readTimes_1 ?_
  refine lv_iconst (v := 2) hx hb dX4_readTimes_4 (by decide) ?_
  refine lv_icmp_ne (tgt := 25) hx hb dX4_readTimes_5 (by decide) (fun c9 => ?_) (fun c9 => ?_)
  · rw [if_neg c9] at h
    exact WX4_readTimes_s24_25 C  _ _ _ _ h hP hD hS (lv_sub hl [0] rfl)
  · rw [if_pos c9] at h
    refine lv_aload_n hx hb dX4_readTimes_8 rfl (lv_at hl 0 rfl) ?_
    refine va_get (D := D) (ci := 4) (v := .int (q.1 24 7)) (C := RX4) (T := TX4) (N := 11) hx hb hts u9_wsX4_readTimes_X4 hown hK hP 24 rfl rfl 7 (by decide) (hts (.fieldLink RX4 36 "TurnedFloors$Reader" "number" "I") f9_wsX4_readTimes_530) (fun _ h9 => h9) rfl dX4_readTimes_9 ?_
    refine lv_iconst (v := 1) hx hb dX4_readTimes_12 (by decide) ?_
    refine lv_icmp_lt (tgt := 25) hx hb dX4_readTimes_13 (by decide) (fun c9 => ?_) (fun c9 => ?_)
    · rw [if_pos c9] at h
      exact WX4_readTimes_s24_25 C  _ _ _ _ h hP hD hS (lv_sub hl [0] rfl)
    · rw [if_neg c9] at h
      refine lv_aload_n hx hb dX4_readTimes_16 rfl (lv_at hl 0 rfl) ?_
      refine va_get (D := D) (ci := 4) (v := .int (q.1 24 7)) (C := RX4) (T := TX4) (N := 11) hx hb hts u9_wsX4_readTimes_X4 hown hK hP 24 rfl rfl 7 (by decide) (hts (.fieldLink RX4 36 "TurnedFloors$Reader" "number" "I") f9_wsX4_readTimes_530) (fun _ h9 => h9) rfl dX4_readTimes_17 ?_
      refine lv_bipush (v := 20) hx hb dX4_readTimes_20 (by decide) ?_
      refine lv_icmp_le (tgt := 30) hx hb dX4_readTimes_22 (by decide) (fun c9 => ?_) (fun c9 => ?_)
      · rw [if_pos c9] at h
        refine lv_aload_n hx hb dX4_readTimes_30 rfl (lv_at hl 0 rfl) ?_
        refine va_get (D := D) (ci := 4) (v := dN (ad 25) (q.1 24 3)) (C := RX4) (T := TX4) (N := 11) hx hb hts u9_wsX4_readTimes_X4 hown hK hP 24 rfl rfl 3 (by decide) (hts (.fieldLink RX4 23 "TurnedFloors$Reader" "text" "LTurnedFloors$Text;") f9_wsX4_readTimes_531) (fun _ h9 => h9) rfl dX4_readTimes_31 ?_
        obtain ⟨g1, h⟩ := dG_some h
        refine kz_topv (if_neg (dnz_ne g1)) ?_
        refine lv_aload_n hx hb dX4_readTimes_34 rfl (lv_at hl 0 rfl) ?_
        refine va_get (D := D) (ci := 4) (v := .int (q.1 24 7)) (C := RX4) (T := TX4) (N := 11) hx hb hts u9_wsX4_readTimes_X4 hown hK hP 24 rfl rfl 7 (by decide) (hts (.fieldLink RX4 36 "TurnedFloors$Reader" "number" "I") f9_wsX4_readTimes_530) (fun _ h9 => h9) rfl dX4_readTimes_35 ?_
        obtain ⟨q4, h3, h⟩ := dV_some h
        refine dw_kv (va_runV (As := [.int (q.1 24 7)]) (rest := []) ⟨hx, hb, hml, hown, hts⟩ (qX7_setTimes_s25 l D ty eo _ ad q (q.1 24 7) q4 h3) (cwV 1 hts gX4_readTimes_X7_setTimes rfl rfl rfl (by decide +kernel) ⟨Nat.le_of_ble_eq_true rfl, Nat.le_of_ble_eq_true rfl⟩) (dw_preV (ci := 7) (q0 := 25) hK hN hE hP hD hS hA rfl rfl) rfl rfl hl.1 rfl (lv_room (Nat.le_of_ble_eq_true rfl)) dX4_readTimes_38 ⟨Nat.le_of_ble_eq_true rfl, Nat.le_of_ble_eq_true rfl⟩) hD hS hA (fun u9 H locs hw hp hd hs => ?_)
        clear hP hD hS
        obtain rfl := hw
        have hP := hp; have hD := hd; have hS := hs; clear hp hd hs
        refine lv_aload_n hx hb dX4_readTimes_41 rfl (lv_at hl 0 rfl) ?_
        obtain ⟨q7, h6, h⟩ := dV_some h
        refine dw_kv (va_runV (As := []) (rest := []) ⟨hx, hb, hml, hown, hts⟩ (qX4_step_s24 l D ty eo _ ad q4  q7 h6) (cwV 0 hts gX4_readTimes_X4_step rfl rfl rfl (by decide +kernel) ⟨Nat.le_of_ble_eq_true rfl, Nat.le_of_ble_eq_true rfl⟩) (dw_preV (ci := 4) (q0 := 24) hK hN hE hP hD hS hA rfl rfl) rfl rfl hl.1 rfl (lv_room (Nat.le_of_ble_eq_true rfl)) dX4_readTimes_42 ⟨Nat.le_of_ble_eq_true rfl, Nat.le_of_ble_eq_true rfl⟩) hD hS hA (fun u9 H locs hw hp hd hs => ?_)
        clear hP hD hS
        obtain rfl := hw
        have hP := hp; have hD := hd; have hS := hs; clear hp hd hs
        cases h
        exact kz_vret hx hb hr hlocks hP hK hD hS dX4_readTimes_45 rfl
      · rw [if_neg c9] at h
        exact WX4_readTimes_s24_25 C  _ _ _ _ h hP hD hS (lv_sub hl [0] rfl)

set_option maxHeartbeats 4000000 in
set_option maxRecDepth 100000 in
theorem WX4_isSame_s24_t7_20b {p : Program} {l : Launch} {e : Env} {s : State} {m : MethodId} {args : Array Value} {below : List Frame} {meth : Method} {c : Code} {D : va_G} {ty : Nat → ClassId} {eo : Nat → Nat} {A : Nat → Prop} {ad : Nat → Nat} {o1 : Int32} {o2 : dK} (C : dc_C p s m args meth c cX4_isSame (some .boolean) 5 RX4 wsX4_isSame D ty eo A) {k20 : dK → Int32 → Int32 → Int32 → Option (Int32 × dK)} (hk20 : ∀ (q : dK) (x2 : Int32) (x3 : Int32) (x4 : Int32) (H : Heap) (locs : List Loc) (ls : Array Slot), k20 q x2 x3 x4 = some (o1, o2) → va_P D vwCl (wF ty ad q) H → va_D A (wF ty ad q) → va_S A s.heap H locs → lv_has ls 5 [(0, .ref (ad 24)), (1, .ref (eo (1 + 7))), (2, .int x2), (3, .int x3), (4, .int x4)] → W p l e ({ frames := 4, cells := 0, slots := 0, locals := 85 } : Room) s m args below meth c H locs 0 0 (MQ below (va_Qi (fun (r : Int32) (u : va_W) => o1 = r ∧ wF ty ad o2 = u) (kz_B D ty A) A) args s 0 0 A) (F0 m 20 ls [])) (q : dK) (x2 : Int32) (x3 : Int32) (x4 : Int32) (H : Heap) (locs : List Loc) (ls : Array Slot) (h : zX4_isSame_s24_t7_20b k20 q x2 x3 x4 = some (o1, o2)) (hP : va_P D vwCl (wF ty ad q) H) (hD : va_D A (wF ty ad q)) (hS : va_S A s.heap H locs) (hl : lv_has ls 5 [(0, .ref (ad 24)), (1, .ref (eo (1 + 7))), (2, .int x2), (3, .int x3), (4, .int x4)]) : W p l e ({ frames := 4, cells := 0, slots := 0, locals := 85 } : Room) s m args below meth c H locs 0 0 (MQ below (va_Qi (fun (r : Int32) (u : va_W) => o1 = r ∧ wF ty ad o2 = u) (kz_B D ty A) A) args s 0 0 A) (F0 m 20 ls []) := by
  have C0 := C
  obtain ⟨hx, hb, hr, hts, hown, hlocks, hml, hK, hN, hE, hA⟩ := C
  unfold zX4_isSame_s24_t7_20b at h
  refine lv_iload hx hb dX4_isSame_20 (lv_at hl 4 rfl) ?_
  refine lv_iload_n hx hb dX4_isSame_22 rfl (lv_at hl 3 rfl) ?_
  refine lv_icmp_ge (tgt := 57) hx hb dX4_isSame_23 (by decide) (fun c9 => ?_) (fun c9 => ?_)
  · rw [if_pos c9] at h
    refine lv_iconst (v := 1) hx hb dX4_isSame_57 (by decide) ?_
    cases h
    exact kz_zret hx hb hr hlocks rfl hP hK hD hS dX4_isSame_58 ⟨rfl, rfl⟩
  · rw [if_neg c9] at h
    refine lv_aload_n hx hb dX4_isSame_26 rfl (lv_at hl 1 rfl) ?_
    refine lv_iload hx hb dX4_isSame_27 (lv_at hl 4 rfl) ?_
    obtain ⟨g1, h⟩ := dG_some h
    refine dw_ks (va_runV (As := [.int x4]) (rest := []) ⟨hx, hb, hml, hown, hts⟩ (kcJ0ch l D ty eo _ 7 (by decide) x4 (dg_in g1)) (cwV 1 hts gX4_isSame_J0_charAt_5068e rfl rfl rfl (by decide +kernel) ⟨Nat.le_of_ble_eq_true rfl, Nat.le_of_ble_eq_true rfl⟩) (kz_preT hK hN hE hP hD hS hA 7 (by decide) [] (by decide) rfl) rfl rfl hl.1 rfl (lv_room (Nat.le_of_ble_eq_true rfl)) dX4_isSame_29 ⟨Nat.le_of_ble_eq_true rfl, Nat.le_of_ble_eq_true rfl⟩) hP hD hS hA (fun _ _ h9 => h9.2.symm) (fun r9 u9 H locs hw hp hd hs => ?_)
    obtain ⟨rfl, -⟩ := hw
    clear hP hD hS
    have hP := hp; have hD := hd; have hS := hs; clear hp hd hs
    obtain ⟨v2, ev2, h⟩ := dL_some h
    refine kz_topi v2 ev2 ?_
    refine lv_aload_n hx hb dX4_isSame_32 rfl (lv_at hl 0 rfl) ?_
    refine va_get (D := D) (ci := 4) (v := dN (ad 46) (q.1 24 0)) (C := RX4) (T := TX4) (N := 11) hx hb hts u9_wsX4_isSame_X4 hown hK hP 24 rfl rfl 0 (by decide) (hts (.fieldLink RX4 9 "TurnedFloors$Reader" "bytes" "[I") f9_wsX4_isSame_474) (fun _ h9 => h9) rfl dX4_isSame_33 ?_
    obtain ⟨g3, h⟩ := dG_some h
    refine kz_topv (if_neg (dnz_ne g3)) ?_
    refine lv_aload_n hx hb dX4_isSame_36 rfl (lv_at hl 0 rfl) ?_
    refine va_get (D := D) (ci := 4) (v := .int (q.1 24 5)) (C := RX4) (T := TX4) (N := 11) hx hb hts u9_wsX4_isSame_X4 hown hK hP 24 rfl rfl 5 (by decide) (hts (.fieldLink RX4 30 "TurnedFloors$Reader" "start" "I") f9_wsX4_isSame_475) (fun _ h9 => h9) rfl dX4_isSame_37 ?_
    refine lv_iload hx hb dX4_isSame_40 (lv_at hl 4 rfl) ?_
    refine lv_iadd hx hb dX4_isSame_42 ?_
    refine lv_iload_n hx hb dX4_isSame_43 rfl (lv_at hl 2 rfl) ?_
    refine lv_isub hx hb dX4_isSame_44 ?_
    obtain ⟨g4, h⟩ := dG_some h
    refine va_iald hx hb hK hP 46 0 rfl rfl (dg_in g4) dX4_isSame_45 ?_
    obtain ⟨v5, ev5, h⟩ := dL_some h
    refine kz_topi v5 ev5 ?_
    refine lv_icmp_eq (tgt := 51) hx hb dX4_isSame_46 (by decide) (fun c9 => ?_) (fun c9 => ?_)
    · rw [if_pos c9] at h
      refine lv_iinc (v := x4 + 1) (lv' := [(4, .int (x4 + 1)), (0, .ref (ad 24)), (1, .ref (eo (1 + 7))), (2, .int x2), (3, .int x3)]) hx hb dX4_isSame_51 hl (k := 4) rfl rfl (by decide) rfl (fun ls hl => ?_)
      refine lv_goto (tgt := 20) hx hb dX4_isSame_54 (by decide) ?_
      exact hk20 _ _ _ _ _ _ _ h hP hD hS (lv_sub hl [1, 2, 3, 4, 0] rfl)
    · rw [if_neg c9] at h
      refine lv_iconst (v := 0) hx hb dX4_isSame_49 (by decide) ?_
      cases h
      exact kz_zret hx hb hr hlocks rfl hP hK hD hS dX4_isSame_50 ⟨rfl, rfl⟩
set_option maxHeartbeats 4000000 in
set_option maxRecDepth 100000 in
theorem WX4_isSame_s24_t7_20 {p : Program} {l : Launch} {e : Env} {s : State} {m : MethodId} {args : Array Value} {below : List Frame} {meth : Method} {c : Code} {D : va_G} {ty : Nat → ClassId} {eo : Nat → Nat} {A : Nat → Prop} {ad : Nat → Nat} {o1 : Int32} {o2 : dK} (C : dc_C p s m args meth c cX4_isSame (some .boolean) 5 RX4 wsX4_isSame D ty eo A)   (n : Nat) (q : dK) (x2 : Int32) (x3 : Int32) (x4 : Int32) (H : Heap) (locs : List Loc) (ls : Array Slot) (h : zX4_isSame_s24_t7_20  n q x2 x3 x4 = some (o1, o2)) (hP : va_P D vwCl (wF ty ad q) H) (hD : va_D A (wF ty ad q)) (hS : va_S A s.heap H locs) (hl : lv_has ls 5 [(0, .ref (ad 24)), (1, .ref (eo (1 + 7))), (2, .int x2), (3, .int x3), (4, .int x4)]) : W p l e ({ frames := 4, cells := 0, slots := 0, locals := 85 } : Room) s m args below meth c H locs 0 0 (MQ below (va_Qi (fun (r : Int32) (u : va_W) => o1 = r ∧ wF ty ad o2 = u) (kz_B D ty A) A) args s 0 0 A) (F0 m 20 ls []) := by
  exact dFix_W (F := fun k (a : dK × Int32 × Int32 × Int32) => zX4_isSame_s24_t7_20b  (fun q x2 x3 x4 => k (q, x2, x3, x4)) a.1 a.2.1 a.2.2.1 a.2.2.2) (o := (o1, o2)) (P := fun (a : dK × Int32 × Int32 × Int32) H locs ls => va_P D vwCl (wF ty ad a.1) H ∧ va_D A (wF ty ad a.1) ∧ va_S A s.heap H locs ∧ lv_has ls 5 [(0, .ref (ad 24)), (1, .ref (eo (1 + 7))), (2, .int a.2.1), (3, .int a.2.2.1), (4, .int a.2.2.2)]) (G := fun H locs ls => W p l e ({ frames := 4, cells := 0, slots := 0, locals := 85 } : Room) s m args below meth c H locs 0 0 (MQ below (va_Qi (fun (r : Int32) (u : va_W) => o1 = r ∧ wF ty ad o2 = u) (kz_B D ty A) A) args s 0 0 A) (F0 m 20 ls []))
    (fun k hk a H locs ls h hp => WX4_isSame_s24_t7_20b C  (fun q x2 x3 x4 H locs ls h h1 h2 h3 h4 => hk (q, x2, x3, x4) H locs ls h ⟨h1, h2, h3, h4⟩) a.1 a.2.1 a.2.2.1 a.2.2.2 H locs ls h hp.1 hp.2.1 hp.2.2.1 hp.2.2.2) n (q, x2, x3, x4) H locs ls h ⟨hP, hD, hS, hl⟩
set_option maxHeartbeats 4000000 in
set_option maxRecDepth 100000 in
theorem qX4_isSame_s24_t7 (l : Launch) (D : va_G) (ty : Nat → ClassId) (eo : Nat → Nat) (sz : Nat) (ad : Nat → Nat) (q : dK) (p2 : Int32) (p3 : Int32) (o1 : Int32) (o2 : dK) (h : zX4_isSame_s24_t7 q p2 p3 = some (o1, o2)) : Met l yX4_isSame wsX4_isSame ({ frames := 4, cells := 0, slots := 0, locals := 85 } : Room) (va_Pc [.ref (ad 24), .ref (eo (1 + 7)), .int p2, .int p3] (kz_pre D ty eo (wF ty ad q) sz)) (va_Qi (fun (r : Int32) (u : va_W) => o1 = r ∧ wF ty ad o2 = u) (kz_B D ty (va_A (wF ty ad q) sz)) (va_A (wF ty ad q) sz)) 0 0 (va_A (wF ty ad q) sz) := by
  refine Met.ofW (cc := cX4_isSame) (maxL := 5) (ret := (some .boolean)) (by decide) rfl ?_
  intro p e s m args below meth c s₁ B hml hv
  obtain ⟨rfl, hsz, hP, hK, hD0, hN, hE⟩ := hv
  have hx := B.exec
  have hb := B.bytes
  have hr := B.returns
  have hts := atoms_spec (ws := wsX4_isSame) B.pre
  have hown : s.vm.findClass RX4 = some m.cls := findClass_of_methodNamed B.named
  have hlocks := B.notSynchronized
  subst hsz
  have hD := hD0.self (sz := s.heap.size)
  generalize hAe : va_A (wF ty ad q) s.heap.size = A at hD hE ⊢
  have hA : ∀ q : Nat, s.heap.size ≤ q → A q := fun q h => by rw [← hAe]; exact Or.inr h
  clear hAe
  have hS : va_S A s.heap s.heap [] := va_S.rf
  have hl := lv_entry ([.ref (ad 24), .ref (eo (1 + 7)), .int p2, .int p3]) (n := 5) (Nat.le_of_ble_eq_true rfl)
  rw [lg_entry_eq]
  generalize (lg_sl ([.ref (ad 24), .ref (eo (1 + 7)), .int p2, .int p3]) ++ List.replicate (5 - (lg_sl ([.ref (ad 24), .ref (eo (1 + 7)), .int p2, .int p3])).length) Slot.unset).toArray = ls at hl ⊢
  have hl : lv_has ls 5 [(0, .ref (ad 24)), (1, .ref (eo (1 + 7))), (2, .int p2), (3, .int p3)] := hl
  have C : dc_C p s m _ meth c cX4_isSame (some .boolean) 5 RX4 wsX4_isSame D ty eo A := ⟨hx, hb, hr, hts, hown, hlocks, hml, hK, hN, hE, hA⟩
  unfold zX4_isSame_s24_t7 at h
  refine lv_iload_n hx hb dX4_isSame_0 rfl (lv_at hl 3 rfl) ?_
  refine lv_iload_n hx hb dX4_isSame_1 rfl (lv_at hl 2 rfl) ?_
  refine lv_isub hx hb dX4_isSame_2 ?_
  refine lv_aload_n hx hb dX4_isSame_3 rfl (lv_at hl 0 rfl) ?_
  refine va_get (D := D) (ci := 4) (v := .int (q.1 24 6)) (C := RX4) (T := TX4) (N := 11) hx hb hts u9_wsX4_isSame_X4 hown hK hP 24 rfl rfl 6 (by decide) (hts (.fieldLink RX4 33 "TurnedFloors$Reader" "stop" "I") f9_wsX4_isSame_476) (fun _ h9 => h9) rfl dX4_isSame_4 ?_
  refine lv_aload_n hx hb dX4_isSame_7 rfl (lv_at hl 0 rfl) ?_
  refine va_get (D := D) (ci := 4) (v := .int (q.1 24 5)) (C := RX4) (T := TX4) (N := 11) hx hb hts u9_wsX4_isSame_X4 hown hK hP 24 rfl rfl 5 (by decide) (hts (.fieldLink RX4 30 "TurnedFloors$Reader" "start" "I") f9_wsX4_isSame_475) (fun _ h9 => h9) rfl dX4_isSame_8 ?_
  refine lv_isub hx hb dX4_isSame_11 ?_
  refine lv_icmp_eq (tgt := 17) hx hb dX4_isSame_12 (by decide) (fun c9 => ?_) (fun c9 => ?_)
  · rw [if_pos c9] at h
    refine lv_iload_n hx hb dX4_isSame_17 rfl (lv_at hl 2 rfl) ?_
    refine lv_istore (lv' := [(4, .int p2), (0, .ref (ad 24)), (1, .ref (eo (1 + 7))), (2, .int p2), (3, .int p3)]) hx hb dX4_isSame_18 hl (by decide) rfl (fun ls hl => ?_)
    exact WX4_isSame_s24_t7_20 C  _ _ _ _ _ _ _ _ h hP hD hS (lv_sub hl [1, 2, 3, 4, 0] rfl)
  · rw [if_neg c9] at h
    refine lv_iconst (v := 0) hx hb dX4_isSame_15 (by decide) ?_
    cases h
    exact kz_zret hx hb hr hlocks rfl hP hK hD hS dX4_isSame_16 ⟨rfl, rfl⟩

set_option maxHeartbeats 4000000 in
set_option maxRecDepth 100000 in
theorem WX4_isWord_s24_t7_26 {p : Program} {l : Launch} {e : Env} {s : State} {m : MethodId} {args : Array Value} {below : List Frame} {meth : Method} {c : Code} {D : va_G} {ty : Nat → ClassId} {eo : Nat → Nat} {A : Nat → Prop} {ad : Nat → Nat} {o1 : Int32} {o2 : dK} (C : dc_C p s m args meth c cX4_isWord (some .boolean) 2 RX4 wsX4_isWord D ty eo A)   (q : dK) (y0 : Int32) (H : Heap) (locs : List Loc) (ls : Array Slot) (h : zX4_isWord_s24_t7_26  q y0 = some (o1, o2)) (hP : va_P D vwCl (wF ty ad q) H) (hD : va_D A (wF ty ad q)) (hS : va_S A s.heap H locs) (hl : lv_has ls 2 []) : W p l e ({ frames := 5, cells := 0, slots := 0, locals := 109 } : Room) s m args below meth c H locs 0 0 (MQ below (va_Qi (fun (r : Int32) (u : va_W) => o1 = r ∧ wF ty ad o2 = u) (kz_B D ty A) A) args s 0 0 A) (F0 m 26 ls [.int y0]) := by
  have C0 := C
  obtain ⟨hx, hb, hr, hts, hown, hlocks, hml, hK, hN, hE, hA⟩ := C
  unfold zX4_isWord_s24_t7_26 at h
  obtain ⟨g1, h⟩ := dG_some h
  cases h
  exact kz_zret hx hb hr hlocks (dbl_nar g1) hP hK hD hS dX4_isWord_26 ⟨rfl, rfl⟩
set_option maxHeartbeats 4000000 in
set_option maxRecDepth 100000 in
theorem WX4_isWord_s24_t7_25 {p : Program} {l : Launch} {e : Env} {s : State} {m : MethodId} {args : Array Value} {below : List Frame} {meth : Method} {c : Code} {D : va_G} {ty : Nat → ClassId} {eo : Nat → Nat} {A : Nat → Prop} {ad : Nat → Nat} {o1 : Int32} {o2 : dK} (C : dc_C p s m args meth c cX4_isWord (some .boolean) 2 RX4 wsX4_isWord D ty eo A)   (q : dK)  (H : Heap) (locs : List Loc) (ls : Array Slot) (h : zX4_isWord_s24_t7_25  q = some (o1, o2)) (hP : va_P D vwCl (wF ty ad q) H) (hD : va_D A (wF ty ad q)) (hS : va_S A s.heap H locs) (hl : lv_has ls 2 []) : W p l e ({ frames := 5, cells := 0, slots := 0, locals := 109 } : Room) s m args below meth c H locs 0 0 (MQ below (va_Qi (fun (r : Int32) (u : va_W) => o1 = r ∧ wF ty ad o2 = u) (kz_B D ty A) A) args s 0 0 A) (F0 m 25 ls []) := by
  have C0 := C
  obtain ⟨hx, hb, hr, hts, hown, hlocks, hml, hK, hN, hE, hA⟩ := C
  unfold zX4_isWord_s24_t7_25 at h
  refine lv_iconst (v := 0) hx hb dX4_isWord_25 (by decide) ?_
  exact WX4_isWord_s24_t7_26 C0  _ _ _ _ _ h hP hD hS (lv_sub hl [] rfl)
set_option maxHeartbeats 4000000 in
set_option maxRecDepth 100000 in
theorem qX4_isWord_s24_t7 (l : Launch) (D : va_G) (ty : Nat → ClassId) (eo : Nat → Nat) (sz : Nat) (ad : Nat → Nat) (q : dK)  (o1 : Int32) (o2 : dK) (h : zX4_isWord_s24_t7 q = some (o1, o2)) : Met l yX4_isWord wsX4_isWord ({ frames := 5, cells := 0, slots := 0, locals := 109 } : Room) (va_Pc [.ref (ad 24), .ref (eo (1 + 7))] (kz_pre D ty eo (wF ty ad q) sz)) (va_Qi (fun (r : Int32) (u : va_W) => o1 = r ∧ wF ty ad o2 = u) (kz_B D ty (va_A (wF ty ad q) sz)) (va_A (wF ty ad q) sz)) 0 0 (va_A (wF ty ad q) sz) := by
  refine Met.ofW (cc := cX4_isWord) (maxL := 2) (ret := (some .boolean)) (by decide) rfl ?_
  intro p e s m args below meth c s₁ B hml hv
  obtain ⟨rfl, hsz, hP, hK, hD0, hN, hE⟩ := hv
  have hx := B.exec
  have hb := B.bytes
  have hr := B.returns
  have hts := atoms_spec (ws := wsX4_isWord) B.pre
  have hown : s.vm.findClass RX4 = some m.cls := findClass_of_methodNamed B.named
  have hlocks := B.notSynchronized
  subst hsz
  have hD := hD0.self (sz := s.heap.size)
  generalize hAe : va_A (wF ty ad q) s.heap.size = A at hD hE ⊢
  have hA : ∀ q : Nat, s.heap.size ≤ q → A q := fun q h => by rw [← hAe]; exact Or.inr h
  clear hAe
  have hS : va_S A s.heap s.heap [] := va_S.rf
  have hl := lv_entry ([.ref (ad 24), .ref (eo (1 + 7))]) (n := 2) (Nat.le_of_ble_eq_true rfl)
  rw [lg_entry_eq]
  generalize (lg_sl ([.ref (ad 24), .ref (eo (1 + 7))]) ++ List.replicate (2 - (lg_sl ([.ref (ad 24), .ref (eo (1 + 7))])).length) Slot.unset).toArray = ls at hl ⊢
  have hl : lv_has ls 2 [(0, .ref (ad 24)), (1, .ref (eo (1 + 7)))] := hl
  have C : dc_C p s m _ meth c cX4_isWord (some .boolean) 2 RX4 wsX4_isWord D ty eo A := ⟨hx, hb, hr, hts, hown, hlocks, hml, hK, hN, hE, hA⟩
  unfold zX4_isWord_s24_t7 at h
  refine lv_aload_n hx hb dX4_isWord_0 rfl (lv_at hl 0 rfl) ?_
  refine va_get (D := D) (ci := 4) (v := .int (q.1 24 4)) (C := RX4) (T := TX4) (N := 11) hx hb hts u9_wsX4_isWord_X4 hown hK hP 24 rfl rfl 4 (by decide) (hts (.fieldLink RX4 27 "TurnedFloors$Reader" "token" "I") f9_wsX4_isWord_524) (fun _ h9 => h9) rfl dX4_isWord_1 ?_
  refine lv_iconst (v := 1) hx hb dX4_isWord_4 (by decide) ?_
  refine lv_icmp_ne (tgt := 25) hx hb dX4_isWord_5 (by decide) (fun c9 => ?_) (fun c9 => ?_)
  · rw [if_neg c9] at h
    exact WX4_isWord_s24_t7_25 C  _ _ _ _ h hP hD hS (lv_sub hl [] rfl)
  · rw [if_pos c9] at h
    refine lv_aload_n hx hb dX4_isWord_8 rfl (lv_at hl 0 rfl) ?_
    refine lv_aload_n hx hb dX4_isWord_9 rfl (lv_at hl 1 rfl) ?_
    refine lv_iconst (v := 0) hx hb dX4_isWord_10 (by decide) ?_
    refine lv_aload_n hx hb dX4_isWord_11 rfl (lv_at hl 1 rfl) ?_
    refine dw_ks (va_runV (As := []) (rest := [.int 0, .ref (eo (1 + 7)), .ref (ad 24)]) ⟨hx, hb, hml, hown, hts⟩ (kcJ0le l D ty eo _ 7 (by decide)) (cwV 0 hts gX4_isWord_J0_length_8abf5 rfl rfl rfl (by decide +kernel) ⟨Nat.le_of_ble_eq_true rfl, Nat.le_of_ble_eq_true rfl⟩) (kz_preT hK hN hE hP hD hS hA 7 (by decide) [] (by decide) rfl) rfl rfl hl.1 rfl (lv_room (Nat.le_of_ble_eq_true rfl)) dX4_isWord_12 ⟨Nat.le_of_ble_eq_true rfl, Nat.le_of_ble_eq_true rfl⟩) hP hD hS hA (fun _ _ h9 => h9.2.symm) (fun r9 u9 H locs hw hp hd hs => ?_)
    obtain ⟨rfl, -⟩ := hw
    clear hP hD hS
    have hP := hp; have hD := hd; have hS := hs; clear hp hd hs
    refine kz_topi 2 (by decide +kernel) ?_
    obtain ⟨r1, q3, h2, h⟩ := dB_some h
    refine dw_ki (va_runV (As := [.ref (eo (1 + 7)), .int 0, .int 2]) (rest := []) ⟨hx, hb, hml, hown, hts⟩ (qX4_isSame_s24_t7 l D ty eo _ ad q 0 2 r1 q3 h2) (cwV 3 hts gX4_isWord_X4_isSame rfl rfl rfl (by decide +kernel) ⟨Nat.le_of_ble_eq_true rfl, Nat.le_of_ble_eq_true rfl⟩) (dw_preV (ci := 4) (q0 := 24) hK hN hE hP hD hS hA rfl rfl) rfl rfl hl.1 rfl (lv_room (Nat.le_of_ble_eq_true rfl)) dX4_isWord_15 ⟨Nat.le_of_ble_eq_true rfl, Nat.le_of_ble_eq_true rfl⟩) hD hS hA (fun r9 u9 H locs hw hp hd hs => ?_)
    clear hP hD hS
    obtain ⟨rfl, rfl⟩ := hw
    have hP := hp; have hD := hd; have hS := hs; clear hp hd hs
    refine lv_if_eq (tgt := 25) hx hb dX4_isWord_18 (by decide) (fun c9 => ?_) (fun c9 => ?_)
    · rw [if_pos c9] at h
      exact WX4_isWord_s24_t7_25 C  _ _ _ _ h hP hD hS (lv_sub hl [] rfl)
    · rw [if_neg c9] at h
      refine lv_iconst (v := 1) hx hb dX4_isWord_21 (by decide) ?_
      refine lv_goto (tgt := 26) hx hb dX4_isWord_22 (by decide) ?_
      exact WX4_isWord_s24_t7_26 C  _ _ _ _ _ h hP hD hS (lv_sub hl [] rfl)

set_option maxHeartbeats 4000000 in
set_option maxRecDepth 100000 in
theorem WX4_isSame_s24_t8_20b {p : Program} {l : Launch} {e : Env} {s : State} {m : MethodId} {args : Array Value} {below : List Frame} {meth : Method} {c : Code} {D : va_G} {ty : Nat → ClassId} {eo : Nat → Nat} {A : Nat → Prop} {ad : Nat → Nat} {o1 : Int32} {o2 : dK} (C : dc_C p s m args meth c cX4_isSame (some .boolean) 5 RX4 wsX4_isSame D ty eo A) {k20 : dK → Int32 → Int32 → Int32 → Option (Int32 × dK)} (hk20 : ∀ (q : dK) (x2 : Int32) (x3 : Int32) (x4 : Int32) (H : Heap) (locs : List Loc) (ls : Array Slot), k20 q x2 x3 x4 = some (o1, o2) → va_P D vwCl (wF ty ad q) H → va_D A (wF ty ad q) → va_S A s.heap H locs → lv_has ls 5 [(0, .ref (ad 24)), (1, .ref (eo (1 + 8))), (2, .int x2), (3, .int x3), (4, .int x4)] → W p l e ({ frames := 4, cells := 0, slots := 0, locals := 85 } : Room) s m args below meth c H locs 0 0 (MQ below (va_Qi (fun (r : Int32) (u : va_W) => o1 = r ∧ wF ty ad o2 = u) (kz_B D ty A) A) args s 0 0 A) (F0 m 20 ls [])) (q : dK) (x2 : Int32) (x3 : Int32) (x4 : Int32) (H : Heap) (locs : List Loc) (ls : Array Slot) (h : zX4_isSame_s24_t8_20b k20 q x2 x3 x4 = some (o1, o2)) (hP : va_P D vwCl (wF ty ad q) H) (hD : va_D A (wF ty ad q)) (hS : va_S A s.heap H locs) (hl : lv_has ls 5 [(0, .ref (ad 24)), (1, .ref (eo (1 + 8))), (2, .int x2), (3, .int x3), (4, .int x4)]) : W p l e ({ frames := 4, cells := 0, slots := 0, locals := 85 } : Room) s m args below meth c H locs 0 0 (MQ below (va_Qi (fun (r : Int32) (u : va_W) => o1 = r ∧ wF ty ad o2 = u) (kz_B D ty A) A) args s 0 0 A) (F0 m 20 ls []) := by
  have C0 := C
  obtain ⟨hx, hb, hr, hts, hown, hlocks, hml, hK, hN, hE, hA⟩ := C
  unfold zX4_isSame_s24_t8_20b at h
  refine lv_iload hx hb dX4_isSame_20 (lv_at hl 4 rfl) ?_
  refine lv_iload_n hx hb dX4_isSame_22 rfl (lv_at hl 3 rfl) ?_
  refine lv_icmp_ge (tgt := 57) hx hb dX4_isSame_23 (by decide) (fun c9 => ?_) (fun c9 => ?_)
  · rw [if_pos c9] at h
    refine lv_iconst (v := 1) hx hb dX4_isSame_57 (by decide) ?_
    cases h
    exact kz_zret hx hb hr hlocks rfl hP hK hD hS dX4_isSame_58 ⟨rfl, rfl⟩
  · rw [if_neg c9] at h
    refine lv_aload_n hx hb dX4_isSame_26 rfl (lv_at hl 1 rfl) ?_
    refine lv_iload hx hb dX4_isSame_27 (lv_at hl 4 rfl) ?_
    obtain ⟨g1, h⟩ := dG_some h
    refine dw_ks (va_runV (As := [.int x4]) (rest := []) ⟨hx, hb, hml, hown, hts⟩ (kcJ0ch l D ty eo _ 8 (by decide) x4 (dg_in g1)) (cwV 1 hts gX4_isSame_J0_charAt_5068e rfl rfl rfl (by decide +kernel) ⟨Nat.le_of_ble_eq_true rfl, Nat.le_of_ble_eq_true rfl⟩) (kz_preT hK hN hE hP hD hS hA 8 (by decide) [] (by decide) rfl) rfl rfl hl.1 rfl (lv_room (Nat.le_of_ble_eq_true rfl)) dX4_isSame_29 ⟨Nat.le_of_ble_eq_true rfl, Nat.le_of_ble_eq_true rfl⟩) hP hD hS hA (fun _ _ h9 => h9.2.symm) (fun r9 u9 H locs hw hp hd hs => ?_)
    obtain ⟨rfl, -⟩ := hw
    clear hP hD hS
    have hP := hp; have hD := hd; have hS := hs; clear hp hd hs
    obtain ⟨v2, ev2, h⟩ := dL_some h
    refine kz_topi v2 ev2 ?_
    refine lv_aload_n hx hb dX4_isSame_32 rfl (lv_at hl 0 rfl) ?_
    refine va_get (D := D) (ci := 4) (v := dN (ad 46) (q.1 24 0)) (C := RX4) (T := TX4) (N := 11) hx hb hts u9_wsX4_isSame_X4 hown hK hP 24 rfl rfl 0 (by decide) (hts (.fieldLink RX4 9 "TurnedFloors$Reader" "bytes" "[I") f9_wsX4_isSame_474) (fun _ h9 => h9) rfl dX4_isSame_33 ?_
    obtain ⟨g3, h⟩ := dG_some h
    refine kz_topv (if_neg (dnz_ne g3)) ?_
    refine lv_aload_n hx hb dX4_isSame_36 rfl (lv_at hl 0 rfl) ?_
    refine va_get (D := D) (ci := 4) (v := .int (q.1 24 5)) (C := RX4) (T := TX4) (N := 11) hx hb hts u9_wsX4_isSame_X4 hown hK hP 24 rfl rfl 5 (by decide) (hts (.fieldLink RX4 30 "TurnedFloors$Reader" "start" "I") f9_wsX4_isSame_475) (fun _ h9 => h9) rfl dX4_isSame_37 ?_
    refine lv_iload hx hb dX4_isSame_40 (lv_at hl 4 rfl) ?_
    refine lv_iadd hx hb dX4_isSame_42 ?_
    refine lv_iload_n hx hb dX4_isSame_43 rfl (lv_at hl 2 rfl) ?_
    refine lv_isub hx hb dX4_isSame_44 ?_
    obtain ⟨g4, h⟩ := dG_some h
    refine va_iald hx hb hK hP 46 0 rfl rfl (dg_in g4) dX4_isSame_45 ?_
    obtain ⟨v5, ev5, h⟩ := dL_some h
    refine kz_topi v5 ev5 ?_
    refine lv_icmp_eq (tgt := 51) hx hb dX4_isSame_46 (by decide) (fun c9 => ?_) (fun c9 => ?_)
    · rw [if_pos c9] at h
      refine lv_iinc (v := x4 + 1) (lv' := [(4, .int (x4 + 1)), (0, .ref (ad 24)), (1, .ref (eo (1 + 8))), (2, .int x2), (3, .int x3)]) hx hb dX4_isSame_51 hl (k := 4) rfl rfl (by decide) rfl (fun ls hl => ?_)
      refine lv_goto (tgt := 20) hx hb dX4_isSame_54 (by decide) ?_
      exact hk20 _ _ _ _ _ _ _ h hP hD hS (lv_sub hl [1, 2, 3, 4, 0] rfl)
    · rw [if_neg c9] at h
      refine lv_iconst (v := 0) hx hb dX4_isSame_49 (by decide) ?_
      cases h
      exact kz_zret hx hb hr hlocks rfl hP hK hD hS dX4_isSame_50 ⟨rfl, rfl⟩
set_option maxHeartbeats 4000000 in
set_option maxRecDepth 100000 in
theorem WX4_isSame_s24_t8_20 {p : Program} {l : Launch} {e : Env} {s : State} {m : MethodId} {args : Array Value} {below : List Frame} {meth : Method} {c : Code} {D : va_G} {ty : Nat → ClassId} {eo : Nat → Nat} {A : Nat → Prop} {ad : Nat → Nat} {o1 : Int32} {o2 : dK} (C : dc_C p s m args meth c cX4_isSame (some .boolean) 5 RX4 wsX4_isSame D ty eo A)   (n : Nat) (q : dK) (x2 : Int32) (x3 : Int32) (x4 : Int32) (H : Heap) (locs : List Loc) (ls : Array Slot) (h : zX4_isSame_s24_t8_20  n q x2 x3 x4 = some (o1, o2)) (hP : va_P D vwCl (wF ty ad q) H) (hD : va_D A (wF ty ad q)) (hS : va_S A s.heap H locs) (hl : lv_has ls 5 [(0, .ref (ad 24)), (1, .ref (eo (1 + 8))), (2, .int x2), (3, .int x3), (4, .int x4)]) : W p l e ({ frames := 4, cells := 0, slots := 0, locals := 85 } : Room) s m args below meth c H locs 0 0 (MQ below (va_Qi (fun (r : Int32) (u : va_W) => o1 = r ∧ wF ty ad o2 = u) (kz_B D ty A) A) args s 0 0 A) (F0 m 20 ls []) := by
  exact dFix_W (F := fun k (a : dK × Int32 × Int32 × Int32) => zX4_isSame_s24_t8_20b  (fun q x2 x3 x4 => k (q, x2, x3, x4)) a.1 a.2.1 a.2.2.1 a.2.2.2) (o := (o1, o2)) (P := fun (a : dK × Int32 × Int32 × Int32) H locs ls => va_P D vwCl (wF ty ad a.1) H ∧ va_D A (wF ty ad a.1) ∧ va_S A s.heap H locs ∧ lv_has ls 5 [(0, .ref (ad 24)), (1, .ref (eo (1 + 8))), (2, .int a.2.1), (3, .int a.2.2.1), (4, .int a.2.2.2)]) (G := fun H locs ls => W p l e ({ frames := 4, cells := 0, slots := 0, locals := 85 } : Room) s m args below meth c H locs 0 0 (MQ below (va_Qi (fun (r : Int32) (u : va_W) => o1 = r ∧ wF ty ad o2 = u) (kz_B D ty A) A) args s 0 0 A) (F0 m 20 ls []))
    (fun k hk a H locs ls h hp => WX4_isSame_s24_t8_20b C  (fun q x2 x3 x4 H locs ls h h1 h2 h3 h4 => hk (q, x2, x3, x4) H locs ls h ⟨h1, h2, h3, h4⟩) a.1 a.2.1 a.2.2.1 a.2.2.2 H locs ls h hp.1 hp.2.1 hp.2.2.1 hp.2.2.2) n (q, x2, x3, x4) H locs ls h ⟨hP, hD, hS, hl⟩
set_option maxHeartbeats 4000000 in
set_option maxRecDepth 100000 in
theorem qX4_isSame_s24_t8 (l : Launch) (D : va_G) (ty : Nat → ClassId) (eo : Nat → Nat) (sz : Nat) (ad : Nat → Nat) (q : dK) (p2 : Int32) (p3 : Int32) (o1 : Int32) (o2 : dK) (h : zX4_isSame_s24_t8 q p2 p3 = some (o1, o2)) : Met l yX4_isSame wsX4_isSame ({ frames := 4, cells := 0, slots := 0, locals := 85 } : Room) (va_Pc [.ref (ad 24), .ref (eo (1 + 8)), .int p2, .int p3] (kz_pre D ty eo (wF ty ad q) sz)) (va_Qi (fun (r : Int32) (u : va_W) => o1 = r ∧ wF ty ad o2 = u) (kz_B D ty (va_A (wF ty ad q) sz)) (va_A (wF ty ad q) sz)) 0 0 (va_A (wF ty ad q) sz) := by
  refine Met.ofW (cc := cX4_isSame) (maxL := 5) (ret := (some .boolean)) (by decide) rfl ?_
  intro p e s m args below meth c s₁ B hml hv
  obtain ⟨rfl, hsz, hP, hK, hD0, hN, hE⟩ := hv
  have hx := B.exec
  have hb := B.bytes
  have hr := B.returns
  have hts := atoms_spec (ws := wsX4_isSame) B.pre
  have hown : s.vm.findClass RX4 = some m.cls := findClass_of_methodNamed B.named
  have hlocks := B.notSynchronized
  subst hsz
  have hD := hD0.self (sz := s.heap.size)
  generalize hAe : va_A (wF ty ad q) s.heap.size = A at hD hE ⊢
  have hA : ∀ q : Nat, s.heap.size ≤ q → A q := fun q h => by rw [← hAe]; exact Or.inr h
  clear hAe
  have hS : va_S A s.heap s.heap [] := va_S.rf
  have hl := lv_entry ([.ref (ad 24), .ref (eo (1 + 8)), .int p2, .int p3]) (n := 5) (Nat.le_of_ble_eq_true rfl)
  rw [lg_entry_eq]
  generalize (lg_sl ([.ref (ad 24), .ref (eo (1 + 8)), .int p2, .int p3]) ++ List.replicate (5 - (lg_sl ([.ref (ad 24), .ref (eo (1 + 8)), .int p2, .int p3])).length) Slot.unset).toArray = ls at hl ⊢
  have hl : lv_has ls 5 [(0, .ref (ad 24)), (1, .ref (eo (1 + 8))), (2, .int p2), (3, .int p3)] := hl
  have C : dc_C p s m _ meth c cX4_isSame (some .boolean) 5 RX4 wsX4_isSame D ty eo A := ⟨hx, hb, hr, hts, hown, hlocks, hml, hK, hN, hE, hA⟩
  unfold zX4_isSame_s24_t8 at h
  refine lv_iload_n hx hb dX4_isSame_0 rfl (lv_at hl 3 rfl) ?_
  refine lv_iload_n hx hb dX4_isSame_1 rfl (lv_at hl 2 rfl) ?_
  refine lv_isub hx hb dX4_isSame_2 ?_
  refine lv_aload_n hx hb dX4_isSame_3 rfl (lv_at hl 0 rfl) ?_
  refine va_get (D := D) (ci := 4) (v := .int (q.1 24 6)) (C := RX4) (T := TX4) (N := 11) hx hb hts u9_wsX4_isSame_X4 hown hK hP 24 rfl rfl 6 (by decide) (hts (.fieldLink RX4 33 "TurnedFloors$Reader" "stop" "I") f9_wsX4_isSame_476) (fun _ h9 => h9) rfl dX4_isSame_4 ?_
  refine lv_aload_n hx hb dX4_isSame_7 rfl (lv_at hl 0 rfl) ?_
  refine va_get (D := D) (ci := 4) (v := .int (q.1 24 5)) (C := RX4) (T := TX4) (N := 11) hx hb hts u9_wsX4_isSame_X4 hown hK hP 24 rfl rfl 5 (by decide) (hts (.fieldLink RX4 30 "TurnedFloors$Reader" "start" "I") f9_wsX4_isSame_475) (fun _ h9 => h9) rfl dX4_isSame_8 ?_
  refine lv_isub hx hb dX4_isSame_11 ?_
  refine lv_icmp_eq (tgt := 17) hx hb dX4_isSame_12 (by decide) (fun c9 => ?_) (fun c9 => ?_)
  · rw [if_pos c9] at h
    refine lv_iload_n hx hb dX4_isSame_17 rfl (lv_at hl 2 rfl) ?_
    refine lv_istore (lv' := [(4, .int p2), (0, .ref (ad 24)), (1, .ref (eo (1 + 8))), (2, .int p2), (3, .int p3)]) hx hb dX4_isSame_18 hl (by decide) rfl (fun ls hl => ?_)
    exact WX4_isSame_s24_t8_20 C  _ _ _ _ _ _ _ _ h hP hD hS (lv_sub hl [1, 2, 3, 4, 0] rfl)
  · rw [if_neg c9] at h
    refine lv_iconst (v := 0) hx hb dX4_isSame_15 (by decide) ?_
    cases h
    exact kz_zret hx hb hr hlocks rfl hP hK hD hS dX4_isSame_16 ⟨rfl, rfl⟩
