theorem u9_wsX7_emit_X7 : ∀ w ∈ u_ws RX7 TX7 8, w ∈ wsX7_emit := by
  first | exact fun w h => List.mem_cons_of_mem _ (List.mem_append_right _ h) | decide +kernel
theorem f9_wsX7_emit_498 : (Cond.fieldLink RX7 13 "TurnedFloors$Text" "length" "I") ∈ wsX7_emit := by decide +kernel
theorem f9_wsX7_emit_499 : (Cond.fieldLink RX7 32 "TurnedFloors$Text" "code" "[I") ∈ wsX7_emit := by decide +kernel
theorem u9_wsX4_readPlace_X4 : ∀ w ∈ u_ws RX4 TX4 11, w ∈ wsX4_readPlace := by
  first | exact fun w h => List.mem_cons_of_mem _ (List.mem_append_right _ h) | decide +kernel
theorem f9_wsX4_readPlace_501 : (Cond.fieldLink RX4 27 "TurnedFloors$Reader" "token" "I") ∈ wsX4_readPlace := by decide +kernel
theorem f9_wsX4_readPlace_502 : (Cond.fieldLink RX4 36 "TurnedFloors$Reader" "number" "I") ∈ wsX4_readPlace := by decide +kernel
theorem f9_wsX4_readPlace_503 : (Cond.fieldLink RX4 23 "TurnedFloors$Reader" "text" "LTurnedFloors$Text;") ∈ wsX4_readPlace := by decide +kernel
theorem u9_wsX4_readPart_X4 : ∀ w ∈ u_ws RX4 TX4 11, w ∈ wsX4_readPart := by
  first | exact fun w h => List.mem_cons_of_mem _ (List.mem_append_right _ h) | decide +kernel
theorem f9_wsX4_readPart_505 : (Cond.fieldLink RX4 23 "TurnedFloors$Reader" "text" "LTurnedFloors$Text;") ∈ wsX4_readPart := by decide +kernel
theorem f9_wsX4_readPart_506 : (Cond.fieldLink RX4 39 "TurnedFloors$Reader" "parts" "I") ∈ wsX4_readPart := by decide +kernel
theorem f9_wsX4_readPart_507 : (Cond.fieldLink RX4 36 "TurnedFloors$Reader" "number" "I") ∈ wsX4_readPart := by decide +kernel
theorem f9_wsX4_readPart_508 : (Cond.fieldLink RX4 19 "TurnedFloors$Reader" "ofOrders" "Z") ∈ wsX4_readPart := by decide +kernel
theorem f9_wsX4_readPart_509 : (Cond.fieldLink RX4 27 "TurnedFloors$Reader" "token" "I") ∈ wsX4_readPart := by decide +kernel
theorem u9_wsX4_readTerm_X4 : ∀ w ∈ u_ws RX4 TX4 11, w ∈ wsX4_readTerm := by
  first | exact fun w h => List.mem_cons_of_mem _ (List.mem_append_right _ h) | decide +kernel
theorem f9_wsX4_readTerm_511 : (Cond.fieldLink RX4 15 "TurnedFloors$Reader" "length" "I") ∈ wsX4_readTerm := by decide +kernel
theorem f9_wsX4_readTerm_512 : (Cond.fieldLink RX4 45 "TurnedFloors$Reader" "faultAt" "I") ∈ wsX4_readTerm := by decide +kernel
theorem f9_wsX4_readTerm_513 : (Cond.fieldLink RX4 23 "TurnedFloors$Reader" "text" "LTurnedFloors$Text;") ∈ wsX4_readTerm := by decide +kernel
set_option maxHeartbeats 4000000 in
set_option maxRecDepth 100000 in
theorem WX4_wordIn_s24_t3_62 {p : Program} {l : Launch} {e : Env} {s : State} {m : MethodId} {args : Array Value} {below : List Frame} {meth : Method} {c : Code} {D : va_G} {ty : Nat → ClassId} {eo : Nat → Nat} {A : Nat → Prop} {ad : Nat → Nat} {o1 : Int32} {o2 : dK} (C : dc_C p s m args meth c cX4_wordIn (some .int) 5 RX4 wsX4_wordIn D ty eo A)   (q : dK)  (H : Heap) (locs : List Loc) (ls : Array Slot) (h : zX4_wordIn_s24_t3_62  q = some (o1, o2)) (hP : va_P D vwCl (wF ty ad q) H) (hD : va_D A (wF ty ad q)) (hS : va_S A s.heap H locs) (hl : lv_has ls 5 []) : W p l e ({ frames := 5, cells := 0, slots := 0, locals := 109 } : Room) s m args below meth c H locs 0 0 (MQ below (va_Qi (fun (r : Int32) (u : va_W) => o1 = r ∧ wF ty ad o2 = u) (kz_B D ty A) A) args s 0 0 A) (F0 m 62 ls []) := by
  have C0 := C
  obtain ⟨hx, hb, hr, hts, hown, hlocks, hml, hK, hN, hE, hA⟩ := C
  unfold zX4_wordIn_s24_t3_62 at h
  refine lv_iconst (v := (-1)) hx hb dX4_wordIn_62 (by decide) ?_
  cases h
  exact kz_iret hx hb hr hlocks hP hK hD hS dX4_wordIn_63 ⟨rfl, rfl⟩
set_option maxHeartbeats 4000000 in
set_option maxRecDepth 100000 in
theorem WX4_wordIn_s24_t3_56 {p : Program} {l : Launch} {e : Env} {s : State} {m : MethodId} {args : Array Value} {below : List Frame} {meth : Method} {c : Code} {D : va_G} {ty : Nat → ClassId} {eo : Nat → Nat} {A : Nat → Prop} {ad : Nat → Nat} {o1 : Int32} {o2 : dK} (C : dc_C p s m args meth c cX4_wordIn (some .int) 5 RX4 wsX4_wordIn D ty eo A) {k7 : dK → Int32 → Int32 → Int32 → Option (Int32 × dK)} (hk7 : ∀ (q : dK) (x2 : Int32) (x3 : Int32) (x4 : Int32) (H : Heap) (locs : List Loc) (ls : Array Slot), k7 q x2 x3 x4 = some (o1, o2) → va_P D vwCl (wF ty ad q) H → va_D A (wF ty ad q) → va_S A s.heap H locs → lv_has ls 5 [(0, .ref (ad 24)), (1, .ref (eo (1 + 3))), (2, .int x2), (3, .int x3), (4, .int x4)] → W p l e ({ frames := 5, cells := 0, slots := 0, locals := 109 } : Room) s m args below meth c H locs 0 0 (MQ below (va_Qi (fun (r : Int32) (u : va_W) => o1 = r ∧ wF ty ad o2 = u) (kz_B D ty A) A) args s 0 0 A) (F0 m 7 ls [])) (q : dK) (x2 : Int32) (x3 : Int32) (x4 : Int32) (H : Heap) (locs : List Loc) (ls : Array Slot) (h : zX4_wordIn_s24_t3_56 k7 q x2 x3 x4 = some (o1, o2)) (hP : va_P D vwCl (wF ty ad q) H) (hD : va_D A (wF ty ad q)) (hS : va_S A s.heap H locs) (hl : lv_has ls 5 [(0, .ref (ad 24)), (1, .ref (eo (1 + 3))), (2, .int x2), (3, .int x3), (4, .int x4)]) : W p l e ({ frames := 5, cells := 0, slots := 0, locals := 109 } : Room) s m args below meth c H locs 0 0 (MQ below (va_Qi (fun (r : Int32) (u : va_W) => o1 = r ∧ wF ty ad o2 = u) (kz_B D ty A) A) args s 0 0 A) (F0 m 56 ls []) := by
  have C0 := C
  obtain ⟨hx, hb, hr, hts, hown, hlocks, hml, hK, hN, hE, hA⟩ := C
  unfold zX4_wordIn_s24_t3_56 at h
  refine lv_iinc (v := x4 + 1) (lv' := [(4, .int (x4 + 1)), (0, .ref (ad 24)), (1, .ref (eo (1 + 3))), (2, .int x2), (3, .int x3)]) hx hb dX4_wordIn_56 hl (k := 4) rfl rfl (by decide) rfl (fun ls hl => ?_)
  refine lv_goto (tgt := 7) hx hb dX4_wordIn_59 (by decide) ?_
  exact hk7 _ _ _ _ _ _ _ h hP hD hS (lv_sub hl [1, 2, 3, 4, 0] rfl)
set_option maxHeartbeats 4000000 in
set_option maxRecDepth 100000 in
theorem WX4_wordIn_s24_t3_7b {p : Program} {l : Launch} {e : Env} {s : State} {m : MethodId} {args : Array Value} {below : List Frame} {meth : Method} {c : Code} {D : va_G} {ty : Nat → ClassId} {eo : Nat → Nat} {A : Nat → Prop} {ad : Nat → Nat} {o1 : Int32} {o2 : dK} (C : dc_C p s m args meth c cX4_wordIn (some .int) 5 RX4 wsX4_wordIn D ty eo A) {k7 : dK → Int32 → Int32 → Int32 → Option (Int32 × dK)} (hk7 : ∀ (q : dK) (x2 : Int32) (x3 : Int32) (x4 : Int32) (H : Heap) (locs : List Loc) (ls : Array Slot), k7 q x2 x3 x4 = some (o1, o2) → va_P D vwCl (wF ty ad q) H → va_D A (wF ty ad q) → va_S A s.heap H locs → lv_has ls 5 [(0, .ref (ad 24)), (1, .ref (eo (1 + 3))), (2, .int x2), (3, .int x3), (4, .int x4)] → W p l e ({ frames := 5, cells := 0, slots := 0, locals := 109 } : Room) s m args below meth c H locs 0 0 (MQ below (va_Qi (fun (r : Int32) (u : va_W) => o1 = r ∧ wF ty ad o2 = u) (kz_B D ty A) A) args s 0 0 A) (F0 m 7 ls [])) (q : dK) (x2 : Int32) (x3 : Int32) (x4 : Int32) (H : Heap) (locs : List Loc) (ls : Array Slot) (h : zX4_wordIn_s24_t3_7b k7 q x2 x3 x4 = some (o1, o2)) (hP : va_P D vwCl (wF ty ad q) H) (hD : va_D A (wF ty ad q)) (hS : va_S A s.heap H locs) (hl : lv_has ls 5 [(0, .ref (ad 24)), (1, .ref (eo (1 + 3))), (2, .int x2), (3, .int x3), (4, .int x4)]) : W p l e ({ frames := 5, cells := 0, slots := 0, locals := 109 } : Room) s m args below meth c H locs 0 0 (MQ below (va_Qi (fun (r : Int32) (u : va_W) => o1 = r ∧ wF ty ad o2 = u) (kz_B D ty A) A) args s 0 0 A) (F0 m 7 ls []) := by
  have C0 := C
  obtain ⟨hx, hb, hr, hts, hown, hlocks, hml, hK, hN, hE, hA⟩ := C
  unfold zX4_wordIn_s24_t3_7b at h
  refine lv_iload hx hb dX4_wordIn_7 (lv_at hl 4 rfl) ?_
  refine lv_aload_n hx hb dX4_wordIn_9 rfl (lv_at hl 1 rfl) ?_
  refine dw_ks (va_runV (As := []) (rest := [.int x4]) ⟨hx, hb, hml, hown, hts⟩ (kcJ0le l D ty eo _ 3 (by decide)) (cwV 0 hts gX4_wordIn_J0_length_8abf5 rfl rfl rfl (by decide +kernel) ⟨Nat.le_of_ble_eq_true rfl, Nat.le_of_ble_eq_true rfl⟩) (kz_preT hK hN hE hP hD hS hA 3 (by decide) [] (by decide) rfl) rfl rfl hl.1 rfl (lv_room (Nat.le_of_ble_eq_true rfl)) dX4_wordIn_10 ⟨Nat.le_of_ble_eq_true rfl, Nat.le_of_ble_eq_true rfl⟩) hP hD hS hA (fun _ _ h9 => h9.2.symm) (fun r9 u9 H locs hw hp hd hs => ?_)
  obtain ⟨rfl, -⟩ := hw
  clear hP hD hS
  have hP := hp; have hD := hd; have hS := hs; clear hp hd hs
  refine kz_topi 47 (by decide +kernel) ?_
  refine lv_icmp_ge (tgt := 62) hx hb dX4_wordIn_13 (by decide) (fun c9 => ?_) (fun c9 => ?_)
  · rw [if_pos c9] at h
    exact WX4_wordIn_s24_t3_62 C0  _ _ _ _ h hP hD hS (lv_sub hl [] rfl)
  · rw [if_neg c9] at h
    refine lv_aload_n hx hb dX4_wordIn_16 rfl (lv_at hl 0 rfl) ?_
    refine va_get (D := D) (ci := 4) (v := .int (q.1 24 4)) (C := RX4) (T := TX4) (N := 11) hx hb hts u9_wsX4_wordIn_X4 hown hK hP 24 rfl rfl 4 (by decide) (hts (.fieldLink RX4 27 "TurnedFloors$Reader" "token" "I") f9_wsX4_wordIn_478) (fun _ h9 => h9) rfl dX4_wordIn_17 ?_
    refine lv_iconst (v := 1) hx hb dX4_wordIn_20 (by decide) ?_
    refine lv_icmp_ne (tgt := 62) hx hb dX4_wordIn_21 (by decide) (fun c9 => ?_) (fun c9 => ?_)
    · rw [if_neg c9] at h
      exact WX4_wordIn_s24_t3_62 C0  _ _ _ _ h hP hD hS (lv_sub hl [] rfl)
    · rw [if_pos c9] at h
      refine lv_aload_n hx hb dX4_wordIn_24 rfl (lv_at hl 1 rfl) ?_
      refine lv_iload hx hb dX4_wordIn_25 (lv_at hl 4 rfl) ?_
      obtain ⟨g1, h⟩ := dG_some h
      refine dw_ks (va_runV (As := [.int x4]) (rest := []) ⟨hx, hb, hml, hown, hts⟩ (kcJ0ch l D ty eo _ 3 (by decide) x4 (dg_in g1)) (cwV 1 hts gX4_wordIn_J0_charAt_5068e rfl rfl rfl (by decide +kernel) ⟨Nat.le_of_ble_eq_true rfl, Nat.le_of_ble_eq_true rfl⟩) (kz_preT hK hN hE hP hD hS hA 3 (by decide) [] (by decide) rfl) rfl rfl hl.1 rfl (lv_room (Nat.le_of_ble_eq_true rfl)) dX4_wordIn_27 ⟨Nat.le_of_ble_eq_true rfl, Nat.le_of_ble_eq_true rfl⟩) hP hD hS hA (fun _ _ h9 => h9.2.symm) (fun r9 u9 H locs hw hp hd hs => ?_)
      obtain ⟨rfl, -⟩ := hw
      clear hP hD hS
      have hP := hp; have hD := hd; have hS := hs; clear hp hd hs
      obtain ⟨v2, ev2, h⟩ := dL_some h
      refine kz_topi v2 ev2 ?_
      refine lv_bipush (v := 32) hx hb dX4_wordIn_30 (by decide) ?_
      refine lv_icmp_ne (tgt := 56) hx hb dX4_wordIn_32 (by decide) (fun c9 => ?_) (fun c9 => ?_)
      · rw [if_neg c9] at h
        exact WX4_wordIn_s24_t3_56 C0 hk7 _ _ _ _ _ _ _ h hP hD hS (lv_sub hl [0, 1, 2, 3, 4] rfl)
      · rw [if_pos c9] at h
        refine lv_aload_n hx hb dX4_wordIn_35 rfl (lv_at hl 0 rfl) ?_
        refine lv_aload_n hx hb dX4_wordIn_36 rfl (lv_at hl 1 rfl) ?_
        refine lv_iload_n hx hb dX4_wordIn_37 rfl (lv_at hl 3 rfl) ?_
        refine lv_iload hx hb dX4_wordIn_38 (lv_at hl 4 rfl) ?_
        obtain ⟨r3, q5, h4, h⟩ := dB_some h
        refine dw_ki (va_runV (As := [.ref (eo (1 + 3)), .int x3, .int x4]) (rest := []) ⟨hx, hb, hml, hown, hts⟩ (qX4_isSame_s24_t3 l D ty eo _ ad q x3 x4 r3 q5 h4) (cwV 3 hts gX4_wordIn_X4_isSame rfl rfl rfl (by decide +kernel) ⟨Nat.le_of_ble_eq_true rfl, Nat.le_of_ble_eq_true rfl⟩) (dw_preV (ci := 4) (q0 := 24) hK hN hE hP hD hS hA rfl rfl) rfl rfl hl.1 rfl (lv_room (Nat.le_of_ble_eq_true rfl)) dX4_wordIn_40 ⟨Nat.le_of_ble_eq_true rfl, Nat.le_of_ble_eq_true rfl⟩) hD hS hA (fun r9 u9 H locs hw hp hd hs => ?_)
        clear hP hD hS
        obtain ⟨rfl, rfl⟩ := hw
        have hP := hp; have hD := hd; have hS := hs; clear hp hd hs
        refine lv_if_eq (tgt := 48) hx hb dX4_wordIn_43 (by decide) (fun c9 => ?_) (fun c9 => ?_)
        · rw [if_pos c9] at h
          refine lv_iinc (v := x2 + 1) (lv' := [(2, .int (x2 + 1)), (0, .ref (ad 24)), (1, .ref (eo (1 + 3))), (3, .int x3), (4, .int x4)]) hx hb dX4_wordIn_48 hl (k := 2) rfl rfl (by decide) rfl (fun ls hl => ?_)
          refine lv_iload hx hb dX4_wordIn_51 (lv_at hl 4 rfl) ?_
          refine lv_iconst (v := 1) hx hb dX4_wordIn_53 (by decide) ?_
          refine lv_iadd hx hb dX4_wordIn_54 ?_
          refine lv_istore_n (lv' := [(3, .int (x4 + 1 : Int32)), (2, .int (x2 + 1)), (0, .ref (ad 24)), (1, .ref (eo (1 + 3))), (4, .int x4)]) hx hb dX4_wordIn_55 rfl hl (by decide) rfl (fun ls hl => ?_)
          exact WX4_wordIn_s24_t3_56 C0 hk7 _ _ _ _ _ _ _ h hP hD hS (lv_sub hl [2, 3, 1, 0, 4] rfl)
        · rw [if_neg c9] at h
          refine lv_iload_n hx hb dX4_wordIn_46 rfl (lv_at hl 2 rfl) ?_
          cases h
          exact kz_iret hx hb hr hlocks hP hK hD hS dX4_wordIn_47 ⟨rfl, rfl⟩
set_option maxHeartbeats 4000000 in
set_option maxRecDepth 100000 in
theorem WX4_wordIn_s24_t3_7 {p : Program} {l : Launch} {e : Env} {s : State} {m : MethodId} {args : Array Value} {below : List Frame} {meth : Method} {c : Code} {D : va_G} {ty : Nat → ClassId} {eo : Nat → Nat} {A : Nat → Prop} {ad : Nat → Nat} {o1 : Int32} {o2 : dK} (C : dc_C p s m args meth c cX4_wordIn (some .int) 5 RX4 wsX4_wordIn D ty eo A)   (n : Nat) (q : dK) (x2 : Int32) (x3 : Int32) (x4 : Int32) (H : Heap) (locs : List Loc) (ls : Array Slot) (h : zX4_wordIn_s24_t3_7  n q x2 x3 x4 = some (o1, o2)) (hP : va_P D vwCl (wF ty ad q) H) (hD : va_D A (wF ty ad q)) (hS : va_S A s.heap H locs) (hl : lv_has ls 5 [(0, .ref (ad 24)), (1, .ref (eo (1 + 3))), (2, .int x2), (3, .int x3), (4, .int x4)]) : W p l e ({ frames := 5, cells := 0, slots := 0, locals := 109 } : Room) s m args below meth c H locs 0 0 (MQ below (va_Qi (fun (r : Int32) (u : va_W) => o1 = r ∧ wF ty ad o2 = u) (kz_B D ty A) A) args s 0 0 A) (F0 m 7 ls []) := by
  exact dFix_W (F := fun k (a : dK × Int32 × Int32 × Int32) => zX4_wordIn_s24_t3_7b  (fun q x2 x3 x4 => k (q, x2, x3, x4)) a.1 a.2.1 a.2.2.1 a.2.2.2) (o := (o1, o2)) (P := fun (a : dK × Int32 × Int32 × Int32) H locs ls => va_P D vwCl (wF ty ad a.1) H ∧ va_D A (wF ty ad a.1) ∧ va_S A s.heap H locs ∧ lv_has ls 5 [(0, .ref (ad 24)), (1, .ref (eo (1 + 3))), (2, .int a.2.1), (3, .int a.2.2.1), (4, .int a.2.2.2)]) (G := fun H locs ls => W p l e ({ frames := 5, cells := 0, slots := 0, locals := 109 } : Room) s m args below meth c H locs 0 0 (MQ below (va_Qi (fun (r : Int32) (u : va_W) => o1 = r ∧ wF ty ad o2 = u) (kz_B D ty A) A) args s 0 0 A) (F0 m 7 ls []))
    (fun k hk a H locs ls h hp => WX4_wordIn_s24_t3_7b C  (fun q x2 x3 x4 H locs ls h h1 h2 h3 h4 => hk (q, x2, x3, x4) H locs ls h ⟨h1, h2, h3, h4⟩) a.1 a.2.1 a.2.2.1 a.2.2.2 H locs ls h hp.1 hp.2.1 hp.2.2.1 hp.2.2.2) n (q, x2, x3, x4) H locs ls h ⟨hP, hD, hS, hl⟩
set_option maxHeartbeats 4000000 in
set_option maxRecDepth 100000 in
theorem qX4_wordIn_s24_t3 (l : Launch) (D : va_G) (ty : Nat → ClassId) (eo : Nat → Nat) (sz : Nat) (ad : Nat → Nat) (q : dK)  (o1 : Int32) (o2 : dK) (h : zX4_wordIn_s24_t3 q = some (o1, o2)) : Met l yX4_wordIn wsX4_wordIn ({ frames := 5, cells := 0, slots := 0, locals := 109 } : Room) (va_Pc [.ref (ad 24), .ref (eo (1 + 3))] (kz_pre D ty eo (wF ty ad q) sz)) (va_Qi (fun (r : Int32) (u : va_W) => o1 = r ∧ wF ty ad o2 = u) (kz_B D ty (va_A (wF ty ad q) sz)) (va_A (wF ty ad q) sz)) 0 0 (va_A (wF ty ad q) sz) := by
  refine Met.ofW (cc := cX4_wordIn) (maxL := 5) (ret := (some .int)) (by decide) rfl ?_
  intro p e s m args below meth c s₁ B hml hv
  obtain ⟨rfl, hsz, hP, hK, hD0, hN, hE⟩ := hv
  have hx := B.exec
  have hb := B.bytes
  have hr := B.returns
  have hts := atoms_spec (ws := wsX4_wordIn) B.pre
  have hown : s.vm.findClass RX4 = some m.cls := findClass_of_methodNamed B.named
  have hlocks := B.notSynchronized
  subst hsz
  have hD := hD0.self (sz := s.heap.size)
  generalize hAe : va_A (wF ty ad q) s.heap.size = A at hD hE ⊢
  have hA : ∀ q : Nat, s.heap.size ≤ q → A q := fun q h => by rw [← hAe]; exact Or.inr h
  clear hAe
  have hS : va_S A s.heap s.heap [] := va_S.rf
  have hl := lv_entry ([.ref (ad 24), .ref (eo (1 + 3))]) (n := 5) (Nat.le_of_ble_eq_true rfl)
  rw [lg_entry_eq]
  generalize (lg_sl ([.ref (ad 24), .ref (eo (1 + 3))]) ++ List.replicate (5 - (lg_sl ([.ref (ad 24), .ref (eo (1 + 3))])).length) Slot.unset).toArray = ls at hl ⊢
  have hl : lv_has ls 5 [(0, .ref (ad 24)), (1, .ref (eo (1 + 3)))] := hl
  have C : dc_C p s m _ meth c cX4_wordIn (some .int) 5 RX4 wsX4_wordIn D ty eo A := ⟨hx, hb, hr, hts, hown, hlocks, hml, hK, hN, hE, hA⟩
  unfold zX4_wordIn_s24_t3 at h
  refine lv_iconst (v := 0) hx hb dX4_wordIn_0 (by decide) ?_
  refine lv_istore_n (lv' := [(2, .int 0), (0, .ref (ad 24)), (1, .ref (eo (1 + 3)))]) hx hb dX4_wordIn_1 rfl hl (by decide) rfl (fun ls hl => ?_)
  refine lv_iconst (v := 0) hx hb dX4_wordIn_2 (by decide) ?_
  refine lv_istore_n (lv' := [(3, .int 0), (2, .int 0), (0, .ref (ad 24)), (1, .ref (eo (1 + 3)))]) hx hb dX4_wordIn_3 rfl hl (by decide) rfl (fun ls hl => ?_)
  refine lv_iconst (v := 0) hx hb dX4_wordIn_4 (by decide) ?_
  refine lv_istore (lv' := [(4, .int 0), (3, .int 0), (2, .int 0), (0, .ref (ad 24)), (1, .ref (eo (1 + 3)))]) hx hb dX4_wordIn_5 hl (by decide) rfl (fun ls hl => ?_)
  exact WX4_wordIn_s24_t3_7 C  _ _ _ _ _ _ _ _ h hP hD hS (lv_sub hl [3, 4, 2, 1, 0] rfl)

set_option maxHeartbeats 4000000 in
set_option maxRecDepth 100000 in
theorem WX7_emit_s25_36 {p : Program} {l : Launch} {e : Env} {s : State} {m : MethodId} {args : Array Value} {below : List Frame} {meth : Method} {c : Code} {D : va_G} {ty : Nat → ClassId} {eo : Nat → Nat} {A : Nat → Prop} {ad : Nat → Nat} {o2 : dK} (C : dc_C p s m args meth c cX7_emit none 3 RX7 wsX7_emit D ty eo A)   (q : dK)  (H : Heap) (locs : List Loc) (ls : Array Slot) (h : zX7_emit_s25_36  q = some o2) (hP : va_P D vwCl (wF ty ad q) H) (hD : va_D A (wF ty ad q)) (hS : va_S A s.heap H locs) (hl : lv_has ls 3 []) : W p l e ({ frames := 0, cells := 0, slots := 0, locals := 0 } : Room) s m args below meth c H locs 0 0 (MQ below (va_Qv (fun (u : va_W) => wF ty ad o2 = u) (kz_B D ty A) A) args s 0 0 A) (F0 m 36 ls []) := by
  have C0 := C
  obtain ⟨hx, hb, hr, hts, hown, hlocks, hml, hK, hN, hE, hA⟩ := C
  unfold zX7_emit_s25_36 at h
  cases h
  exact kz_vret hx hb hr hlocks hP hK hD hS dX7_emit_36 rfl
set_option maxHeartbeats 4000000 in
set_option maxRecDepth 100000 in
theorem qX7_emit_s25 (l : Launch) (D : va_G) (ty : Nat → ClassId) (eo : Nat → Nat) (sz : Nat) (ad : Nat → Nat) (q : dK) (p1 : Int32) (p2 : Int32) (o2 : dK) (h : zX7_emit_s25 q p1 p2 = some o2) : Met l yX7_emit wsX7_emit ({ frames := 0, cells := 0, slots := 0, locals := 0 } : Room) (va_Pc [.ref (ad 25), .int p1, .int p2] (kz_pre D ty eo (wF ty ad q) sz)) (va_Qv (fun (u : va_W) => wF ty ad o2 = u) (kz_B D ty (va_A (wF ty ad q) sz)) (va_A (wF ty ad q) sz)) 0 0 (va_A (wF ty ad q) sz) := by
  refine Met.ofW (cc := cX7_emit) (maxL := 3) (ret := none) (by decide) rfl ?_
  intro p e s m args below meth c s₁ B hml hv
  obtain ⟨rfl, hsz, hP, hK, hD0, hN, hE⟩ := hv
  have hx := B.exec
  have hb := B.bytes
  have hr := B.returns
  have hts := atoms_spec (ws := wsX7_emit) B.pre
  have hown : s.vm.findClass RX7 = some m.cls := findClass_of_methodNamed B.named
  have hlocks := B.notSynchronized
  subst hsz
  have hD := hD0.self (sz := s.heap.size)
  generalize hAe : va_A (wF ty ad q) s.heap.size = A at hD hE ⊢
  have hA : ∀ q : Nat, s.heap.size ≤ q → A q := fun q h => by rw [← hAe]; exact Or.inr h
  clear hAe
  have hS : va_S A s.heap s.heap [] := va_S.rf
  have hl := lv_entry ([.ref (ad 25), .int p1, .int p2]) (n := 3) (Nat.le_of_ble_eq_true rfl)
  rw [lg_entry_eq]
  generalize (lg_sl ([.ref (ad 25), .int p1, .int p2]) ++ List.replicate (3 - (lg_sl ([.ref (ad 25), .int p1, .int p2])).length) Slot.unset).toArray = ls at hl ⊢
  have hl : lv_has ls 3 [(0, .ref (ad 25)), (1, .int p1), (2, .int p2)] := hl
  have C : dc_C p s m _ meth c cX7_emit none 3 RX7 wsX7_emit D ty eo A := ⟨hx, hb, hr, hts, hown, hlocks, hml, hK, hN, hE, hA⟩
  unfold zX7_emit_s25 at h
  refine lv_aload_n hx hb dX7_emit_0 rfl (lv_at hl 0 rfl) ?_
  refine va_get (D := D) (ci := 7) (v := .int (q.1 25 7)) (C := RX7) (T := TX7) (N := 8) hx hb hts u9_wsX7_emit_X7 hown hK hP 25 rfl rfl 7 (by decide) (hts (.fieldLink RX7 13 "TurnedFloors$Text" "length" "I") f9_wsX7_emit_498) (fun _ h9 => h9) rfl dX7_emit_1 ?_
  refine lv_aload_n hx hb dX7_emit_4 rfl (lv_at hl 0 rfl) ?_
  refine va_get (D := D) (ci := 7) (v := .ref (ad 31)) (C := RX7) (T := TX7) (N := 8) hx hb hts u9_wsX7_emit_X7 hown hK hP 25 rfl rfl 5 (by decide) (hts (.fieldLink RX7 32 "TurnedFloors$Text" "code" "[I") f9_wsX7_emit_499) (fun _ h9 => h9) rfl dX7_emit_5 ?_
  refine va_alen (v := 400) hx hb hK hP 31 0 rfl rfl rfl dX7_emit_8 ?_
  refine lv_icmp_ge (tgt := 36) hx hb dX7_emit_9 (by decide) (fun c9 => ?_) (fun c9 => ?_)
  · rw [if_pos c9] at h
    exact WX7_emit_s25_36 C  _ _ _ _ h hP hD hS (lv_sub hl [] rfl)
  · rw [if_neg c9] at h
    refine lv_aload_n hx hb dX7_emit_12 rfl (lv_at hl 0 rfl) ?_
    refine va_get (D := D) (ci := 7) (v := .ref (ad 31)) (C := RX7) (T := TX7) (N := 8) hx hb hts u9_wsX7_emit_X7 hown hK hP 25 rfl rfl 5 (by decide) (hts (.fieldLink RX7 32 "TurnedFloors$Text" "code" "[I") f9_wsX7_emit_499) (fun _ h9 => h9) rfl dX7_emit_13 ?_
    refine lv_aload_n hx hb dX7_emit_16 rfl (lv_at hl 0 rfl) ?_
    refine va_get (D := D) (ci := 7) (v := .int (q.1 25 7)) (C := RX7) (T := TX7) (N := 8) hx hb hts u9_wsX7_emit_X7 hown hK hP 25 rfl rfl 7 (by decide) (hts (.fieldLink RX7 13 "TurnedFloors$Text" "length" "I") f9_wsX7_emit_498) (fun _ h9 => h9) rfl dX7_emit_17 ?_
    refine lv_iload_n hx hb dX7_emit_20 rfl (lv_at hl 2 rfl) ?_
    refine lv_iconst (v := 4) hx hb dX7_emit_21 (by decide) ?_
    refine lv_ishl hx hb dX7_emit_22 ?_
    refine lv_iload_n hx hb dX7_emit_23 rfl (lv_at hl 1 rfl) ?_
    refine lv_ior hx hb dX7_emit_24 ?_
    obtain ⟨g1, h⟩ := dG_some h
    refine va_iast hx hb hK hP hD hS 31 0 rfl rfl (dg_in g1) dX7_emit_25 (fun H locs hp hd hs => ?_)
    obtain ⟨q2, eq2, h⟩ := dL_some h
    refine kz_re (w2 := wF ty ad q2) hp hd hs (by rw [← eq2]; exact wF_a31 ty ad q (Int32.toNatClampNeg (q.1 25 7)) ((p2 <<< ((4 : Int32) &&& 31) : Int32) ||| p1)) ?_
    clear hp hd hs hP hD hS
    intro hP hD hS
    refine lv_aload_n hx hb dX7_emit_26 rfl (lv_at hl 0 rfl) ?_
    refine lv_dup hx hb dX7_emit_27 rfl ?_
    refine va_get (D := D) (ci := 7) (v := .int (q2.1 25 7)) (C := RX7) (T := TX7) (N := 8) hx hb hts u9_wsX7_emit_X7 hown hK hP 25 rfl rfl 7 (by decide) (hts (.fieldLink RX7 13 "TurnedFloors$Text" "length" "I") f9_wsX7_emit_498) (fun _ h9 => h9) rfl dX7_emit_28 ?_
    refine lv_iconst (v := 1) hx hb dX7_emit_31 (by decide) ?_
    refine lv_iadd hx hb dX7_emit_32 ?_
    refine va_put (D := D) (ci := 7) (v := .int ((q2.1 25 7) + 1 : Int32)) (ty := .int) (C := RX7) (T := TX7) (N := 8) hx hb hts u9_wsX7_emit_X7 tyX7 tyX7_ok nmX7 hown hK hP hD hS 25 rfl rfl 7 (by decide) (hts (.fieldLink RX7 13 "TurnedFloors$Text" "length" "I") f9_wsX7_emit_498) (fun _ h9 => h9) rfl (by decide +kernel) rfl rfl (Nat.le_of_ble_eq_true rfl) dX7_emit_33 (fun H locs hp hd hs => ?_)
    obtain ⟨q3, eq3, h⟩ := dL_some h
    refine kz_re (w2 := wF ty ad q3) hp hd hs (by rw [← eq3]; exact wF_f25_7 ty ad q2 ((q2.1 25 7) + 1 : Int32)) ?_
    clear hp hd hs hP hD hS
    intro hP hD hS
    exact WX7_emit_s25_36 C  _ _ _ _ h hP hD hS (lv_sub hl [] rfl)

set_option maxHeartbeats 4000000 in
set_option maxRecDepth 100000 in
theorem WX4_readPlace_s24_17 {p : Program} {l : Launch} {e : Env} {s : State} {m : MethodId} {args : Array Value} {below : List Frame} {meth : Method} {c : Code} {D : va_G} {ty : Nat → ClassId} {eo : Nat → Nat} {A : Nat → Prop} {ad : Nat → Nat} {o2 : dK} (C : dc_C p s m args meth c cX4_readPlace none 2 RX4 wsX4_readPlace D ty eo A)   (q : dK)  (H : Heap) (locs : List Loc) (ls : Array Slot) (h : zX4_readPlace_s24_17  q = some o2) (hP : va_P D vwCl (wF ty ad q) H) (hD : va_D A (wF ty ad q)) (hS : va_S A s.heap H locs) (hl : lv_has ls 2 [(0, .ref (ad 24))]) : W p l e ({ frames := 2, cells := 0, slots := 0, locals := 42 } : Room) s m args below meth c H locs 0 0 (MQ below (va_Qv (fun (u : va_W) => wF ty ad o2 = u) (kz_B D ty A) A) args s 0 0 A) (F0 m 17 ls []) := by
  have C0 := C
  obtain ⟨hx, hb, hr, hts, hown, hlocks, hml, hK, hN, hE, hA⟩ := C
  unfold zX4_readPlace_s24_17 at h
  refine lv_aload_n hx hb dX4_readPlace_17 rfl (lv_at hl 0 rfl) ?_
  obtain ⟨q3, h2, h⟩ := dV_some h
  refine dw_kv (va_runV (As := []) (rest := []) ⟨hx, hb, hml, hown, hts⟩ (qX4_fail_s24 l D ty eo _ ad q  q3 h2) (cwV 0 hts gX4_readPlace_X4_fail rfl rfl rfl (by decide +kernel) ⟨Nat.le_of_ble_eq_true rfl, Nat.le_of_ble_eq_true rfl⟩) (dw_preV (ci := 4) (q0 := 24) hK hN hE hP hD hS hA rfl rfl) rfl rfl hl.1 rfl (lv_room (Nat.le_of_ble_eq_true rfl)) dX4_readPlace_18 ⟨Nat.le_of_ble_eq_true rfl, Nat.le_of_ble_eq_true rfl⟩) hD hS hA (fun u9 H locs hw hp hd hs => ?_)
  clear hP hD hS
  obtain rfl := hw
  have hP := hp; have hD := hd; have hS := hs; clear hp hd hs
  cases h
  exact kz_vret hx hb hr hlocks hP hK hD hS dX4_readPlace_21 rfl
set_option maxHeartbeats 4000000 in
set_option maxRecDepth 100000 in
theorem qX4_readPlace_s24 (l : Launch) (D : va_G) (ty : Nat → ClassId) (eo : Nat → Nat) (sz : Nat) (ad : Nat → Nat) (q : dK) (p1 : Int32) (o2 : dK) (h : zX4_readPlace_s24 q p1 = some o2) : Met l yX4_readPlace wsX4_readPlace ({ frames := 2, cells := 0, slots := 0, locals := 42 } : Room) (va_Pc [.ref (ad 24), .int p1] (kz_pre D ty eo (wF ty ad q) sz)) (va_Qv (fun (u : va_W) => wF ty ad o2 = u) (kz_B D ty (va_A (wF ty ad q) sz)) (va_A (wF ty ad q) sz)) 0 0 (va_A (wF ty ad q) sz) := by
  refine Met.ofW (cc := cX4_readPlace) (maxL := 2) (ret := none) (by decide) rfl ?_
  intro p e s m args below meth c s₁ B hml hv
  obtain ⟨rfl, hsz, hP, hK, hD0, hN, hE⟩ := hv
  have hx := B.exec
  have hb := B.bytes
  have hr := B.returns
  have hts := atoms_spec (ws := wsX4_readPlace) B.pre
  have hown : s.vm.findClass RX4 = some m.cls := findClass_of_methodNamed B.named
  have hlocks := B.notSynchronized
  subst hsz
  have hD := hD0.self (sz := s.heap.size)
  generalize hAe : va_A (wF ty ad q) s.heap.size = A at hD hE ⊢
  have hA : ∀ q : Nat, s.heap.size ≤ q → A q := fun q h => by rw [← hAe]; exact Or.inr h
  clear hAe
  have hS : va_S A s.heap s.heap [] := va_S.rf
  have hl := lv_entry ([.ref (ad 24), .int p1]) (n := 2) (Nat.le_of_ble_eq_true rfl)
  rw [lg_entry_eq]
  generalize (lg_sl ([.ref (ad 24), .int p1]) ++ List.replicate (2 - (lg_sl ([.ref (ad 24), .int p1])).length) Slot.unset).toArray = ls at hl ⊢
  have hl : lv_has ls 2 [(0, .ref (ad 24)), (1, .int p1)] := hl
  have C : dc_C p s m _ meth c cX4_readPlace none 2 RX4 wsX4_readPlace D ty eo A := ⟨hx, hb, hr, hts, hown, hlocks, hml, hK, hN, hE, hA⟩
  unfold zX4_readPlace_s24 at h
  refine lv_aload_n hx hb dX4_readPlace_0 rfl (lv_at hl 0 rfl) ?_
  refine va_get (D := D) (ci := 4) (v := .int (q.1 24 4)) (C := RX4) (T := TX4) (N := 11) hx hb hts u9_wsX4_readPlace_X4 hown hK hP 24 rfl rfl 4 (by decide) (hts (.fieldLink RX4 27 "TurnedFloors$Reader" "token" "I") f9_wsX4_readPlace_501) (fun _ h9 => h9) rfl dX4_readPlace_1 ?_
  refine lv_iconst (v := 2) hx hb dX4_readPlace_4 (by decide) ?_
  refine lv_icmp_ne (tgt := 17) hx hb dX4_readPlace_5 (by decide) (fun c9 => ?_) (fun c9 => ?_)
  · rw [if_neg c9] at h
    exact WX4_readPlace_s24_17 C  _ _ _ _ h hP hD hS (lv_sub hl [0] rfl)
  · rw [if_pos c9] at h
    refine lv_aload_n hx hb dX4_readPlace_8 rfl (lv_at hl 0 rfl) ?_
    refine va_get (D := D) (ci := 4) (v := .int (q.1 24 7)) (C := RX4) (T := TX4) (N := 11) hx hb hts u9_wsX4_readPlace_X4 hown hK hP 24 rfl rfl 7 (by decide) (hts (.fieldLink RX4 36 "TurnedFloors$Reader" "number" "I") f9_wsX4_readPlace_502) (fun _ h9 => h9) rfl dX4_readPlace_9 ?_
    refine lv_bipush (v := 6) hx hb dX4_readPlace_12 (by decide) ?_
    refine lv_icmp_lt (tgt := 22) hx hb dX4_readPlace_14 (by decide) (fun c9 => ?_) (fun c9 => ?_)
    · rw [if_pos c9] at h
      refine lv_aload_n hx hb dX4_readPlace_22 rfl (lv_at hl 0 rfl) ?_
      refine va_get (D := D) (ci := 4) (v := dN (ad 25) (q.1 24 3)) (C := RX4) (T := TX4) (N := 11) hx hb hts u9_wsX4_readPlace_X4 hown hK hP 24 rfl rfl 3 (by decide) (hts (.fieldLink RX4 23 "TurnedFloors$Reader" "text" "LTurnedFloors$Text;") f9_wsX4_readPlace_503) (fun _ h9 => h9) rfl dX4_readPlace_23 ?_
      obtain ⟨g1, h⟩ := dG_some h
      refine kz_topv (if_neg (dnz_ne g1)) ?_
      refine lv_iconst (v := 1) hx hb dX4_readPlace_26 (by decide) ?_
      refine lv_iload_n hx hb dX4_readPlace_27 rfl (lv_at hl 1 rfl) ?_
      refine lv_aload_n hx hb dX4_readPlace_28 rfl (lv_at hl 0 rfl) ?_
      refine va_get (D := D) (ci := 4) (v := .int (q.1 24 7)) (C := RX4) (T := TX4) (N := 11) hx hb hts u9_wsX4_readPlace_X4 hown hK hP 24 rfl rfl 7 (by decide) (hts (.fieldLink RX4 36 "TurnedFloors$Reader" "number" "I") f9_wsX4_readPlace_502) (fun _ h9 => h9) rfl dX4_readPlace_29 ?_
      refine lv_iadd hx hb dX4_readPlace_32 ?_
      obtain ⟨q4, h3, h⟩ := dV_some h
      refine dw_kv (va_runV (As := [.int 1, .int (p1 + (q.1 24 7))]) (rest := []) ⟨hx, hb, hml, hown, hts⟩ (qX7_emit_s25 l D ty eo _ ad q 1 (p1 + (q.1 24 7)) q4 h3) (cwV 2 hts gX4_readPlace_X7_emit rfl rfl rfl (by decide +kernel) ⟨Nat.le_of_ble_eq_true rfl, Nat.le_of_ble_eq_true rfl⟩) (dw_preV (ci := 7) (q0 := 25) hK hN hE hP hD hS hA rfl rfl) rfl rfl hl.1 rfl (lv_room (Nat.le_of_ble_eq_true rfl)) dX4_readPlace_33 ⟨Nat.le_of_ble_eq_true rfl, Nat.le_of_ble_eq_true rfl⟩) hD hS hA (fun u9 H locs hw hp hd hs => ?_)
      clear hP hD hS
      obtain rfl := hw
      have hP := hp; have hD := hd; have hS := hs; clear hp hd hs
      refine lv_aload_n hx hb dX4_readPlace_36 rfl (lv_at hl 0 rfl) ?_
      obtain ⟨q7, h6, h⟩ := dV_some h
      refine dw_kv (va_runV (As := []) (rest := []) ⟨hx, hb, hml, hown, hts⟩ (qX4_step_s24 l D ty eo _ ad q4  q7 h6) (cwV 0 hts gX4_readPlace_X4_step rfl rfl rfl (by decide +kernel) ⟨Nat.le_of_ble_eq_true rfl, Nat.le_of_ble_eq_true rfl⟩) (dw_preV (ci := 4) (q0 := 24) hK hN hE hP hD hS hA rfl rfl) rfl rfl hl.1 rfl (lv_room (Nat.le_of_ble_eq_true rfl)) dX4_readPlace_37 ⟨Nat.le_of_ble_eq_true rfl, Nat.le_of_ble_eq_true rfl⟩) hD hS hA (fun u9 H locs hw hp hd hs => ?_)
      clear hP hD hS
      obtain rfl := hw
      have hP := hp; have hD := hd; have hS := hs; clear hp hd hs
      cases h
      exact kz_vret hx hb hr hlocks hP hK hD hS dX4_readPlace_40 rfl
    · rw [if_neg c9] at h
      exact WX4_readPlace_s24_17 C  _ _ _ _ h hP hD hS (lv_sub hl [0] rfl)

set_option maxHeartbeats 4000000 in
set_option maxRecDepth 100000 in
theorem WX4_readPart_s24_177 {p : Program} {l : Launch} {e : Env} {s : State} {m : MethodId} {args : Array Value} {below : List Frame} {meth : Method} {c : Code} {D : va_G} {ty : Nat → ClassId} {eo : Nat → Nat} {A : Nat → Prop} {ad : Nat → Nat} {o2 : dK} {kS : dK → Option (dK)} {nS : Nat} (hkS : ∀ (sz : Nat) (q : dK)  (o2 : dK), kS q  = some o2 → Met l yX4_readSum wsX4_readSum ({ frames := 12 + 3 * nS, cells := 0, slots := 0, locals := 400 + 67 * nS } : Room) (va_Pc [.ref (ad 24)] (kz_pre D ty eo (wF ty ad q) sz)) (va_Qv (fun (u : va_W) => wF ty ad o2 = u) (kz_B D ty (va_A (wF ty ad q) sz)) (va_A (wF ty ad q) sz)) 0 0 (va_A (wF ty ad q) sz)) (C : dc_C p s m args meth c cX4_readPart none 4 RX4 wsX4_readPart D ty eo A)   (q : dK)  (H : Heap) (locs : List Loc) (ls : Array Slot) (h : zX4_readPart_s24_177 kS  q = some o2) (hP : va_P D vwCl (wF ty ad q) H) (hD : va_D A (wF ty ad q)) (hS : va_S A s.heap H locs) (hl : lv_has ls 4 []) : W p l e ({ frames := 12 + 3 * nS + 1, cells := 0, slots := 0, locals := 400 + 67 * nS + 22 } : Room) s m args below meth c H locs 0 0 (MQ below (va_Qv (fun (u : va_W) => wF ty ad o2 = u) (kz_B D ty A) A) args s 0 0 A) (F0 m 177 ls []) := by
  have C0 := C
  obtain ⟨hx, hb, hr, hts, hown, hlocks, hml, hK, hN, hE, hA⟩ := C
  unfold zX4_readPart_s24_177 at h
  cases h
  exact kz_vret hx hb hr hlocks hP hK hD hS dX4_readPart_177 rfl
set_option maxHeartbeats 4000000 in
set_option maxRecDepth 100000 in
theorem WX4_readPart_s24_168 {p : Program} {l : Launch} {e : Env} {s : State} {m : MethodId} {args : Array Value} {below : List Frame} {meth : Method} {c : Code} {D : va_G} {ty : Nat → ClassId} {eo : Nat → Nat} {A : Nat → Prop} {ad : Nat → Nat} {o2 : dK} {kS : dK → Option (dK)} {nS : Nat} (hkS : ∀ (sz : Nat) (q : dK)  (o2 : dK), kS q  = some o2 → Met l yX4_readSum wsX4_readSum ({ frames := 12 + 3 * nS, cells := 0, slots := 0, locals := 400 + 67 * nS } : Room) (va_Pc [.ref (ad 24)] (kz_pre D ty eo (wF ty ad q) sz)) (va_Qv (fun (u : va_W) => wF ty ad o2 = u) (kz_B D ty (va_A (wF ty ad q) sz)) (va_A (wF ty ad q) sz)) 0 0 (va_A (wF ty ad q) sz)) (C : dc_C p s m args meth c cX4_readPart none 4 RX4 wsX4_readPart D ty eo A)   (q : dK) (x1 : Int32) (H : Heap) (locs : List Loc) (ls : Array Slot) (h : zX4_readPart_s24_168 kS  q x1 = some o2) (hP : va_P D vwCl (wF ty ad q) H) (hD : va_D A (wF ty ad q)) (hS : va_S A s.heap H locs) (hl : lv_has ls 4 [(0, .ref (ad 24)), (1, .int x1)]) : W p l e ({ frames := 12 + 3 * nS + 1, cells := 0, slots := 0, locals := 400 + 67 * nS + 22 } : Room) s m args below meth c H locs 0 0 (MQ below (va_Qv (fun (u : va_W) => wF ty ad o2 = u) (kz_B D ty A) A) args s 0 0 A) (F0 m 168 ls []) := by
  have C0 := C
  obtain ⟨hx, hb, hr, hts, hown, hlocks, hml, hK, hN, hE, hA⟩ := C
  unfold zX4_readPart_s24_168 at h
  refine lv_aload_n hx hb dX4_readPart_168 rfl (lv_at hl 0 rfl) ?_
  refine va_get (D := D) (ci := 4) (v := dN (ad 25) (q.1 24 3)) (C := RX4) (T := TX4) (N := 11) hx hb hts u9_wsX4_readPart_X4 hown hK hP 24 rfl rfl 3 (by decide) (hts (.fieldLink RX4 23 "TurnedFloors$Reader" "text" "LTurnedFloors$Text;") f9_wsX4_readPart_505) (fun _ h9 => h9) rfl dX4_readPart_169 ?_
  obtain ⟨g1, h⟩ := dG_some h
  refine kz_topv (if_neg (dnz_ne g1)) ?_
  refine lv_iconst (v := 1) hx hb dX4_readPart_172 (by decide) ?_
  refine lv_iload_n hx hb dX4_readPart_173 rfl (lv_at hl 1 rfl) ?_
  obtain ⟨q4, h3, h⟩ := dV_some h
  refine dw_kv (va_runV (As := [.int 1, .int x1]) (rest := []) ⟨hx, hb, hml, hown, hts⟩ (qX7_emit_s25 l D ty eo _ ad q 1 x1 q4 h3) (cwV 2 hts gX4_readPart_X7_emit rfl rfl rfl (by decide +kernel) ⟨by dsimp only [headSpec]; omega, by dsimp only [headSpec]; omega⟩) (dw_preV (ci := 7) (q0 := 25) hK hN hE hP hD hS hA rfl rfl) rfl rfl hl.1 rfl (lv_room (Nat.le_of_ble_eq_true rfl)) dX4_readPart_174 ⟨Nat.le_of_ble_eq_true rfl, Nat.le_of_ble_eq_true rfl⟩) hD hS hA (fun u9 H locs hw hp hd hs => ?_)
  clear hP hD hS
  obtain rfl := hw
  have hP := hp; have hD := hd; have hS := hs; clear hp hd hs
  exact WX4_readPart_s24_177 hkS C0  _ _ _ _ h hP hD hS (lv_sub hl [] rfl)
set_option maxHeartbeats 4000000 in
set_option maxRecDepth 100000 in
theorem WX4_readPart_s24_162 {p : Program} {l : Launch} {e : Env} {s : State} {m : MethodId} {args : Array Value} {below : List Frame} {meth : Method} {c : Code} {D : va_G} {ty : Nat → ClassId} {eo : Nat → Nat} {A : Nat → Prop} {ad : Nat → Nat} {o2 : dK} {kS : dK → Option (dK)} {nS : Nat} (hkS : ∀ (sz : Nat) (q : dK)  (o2 : dK), kS q  = some o2 → Met l yX4_readSum wsX4_readSum ({ frames := 12 + 3 * nS, cells := 0, slots := 0, locals := 400 + 67 * nS } : Room) (va_Pc [.ref (ad 24)] (kz_pre D ty eo (wF ty ad q) sz)) (va_Qv (fun (u : va_W) => wF ty ad o2 = u) (kz_B D ty (va_A (wF ty ad q) sz)) (va_A (wF ty ad q) sz)) 0 0 (va_A (wF ty ad q) sz)) (C : dc_C p s m args meth c cX4_readPart none 4 RX4 wsX4_readPart D ty eo A)   (q : dK) (y0 : Int32) (H : Heap) (locs : List Loc) (ls : Array Slot) (h : zX4_readPart_s24_162 kS  q y0 = some o2) (hP : va_P D vwCl (wF ty ad q) H) (hD : va_D A (wF ty ad q)) (hS : va_S A s.heap H locs) (hl : lv_has ls 4 []) : W p l e ({ frames := 12 + 3 * nS + 1, cells := 0, slots := 0, locals := 400 + 67 * nS + 22 } : Room) s m args below meth c H locs 0 0 (MQ below (va_Qv (fun (u : va_W) => wF ty ad o2 = u) (kz_B D ty A) A) args s 0 0 A) (F0 m 162 ls [.int y0, .ref (ad 24)]) := by
  have C0 := C
  obtain ⟨hx, hb, hr, hts, hown, hlocks, hml, hK, hN, hE, hA⟩ := C
  unfold zX4_readPart_s24_162 at h
  obtain ⟨q3, h2, h⟩ := dV_some h
  refine dw_kv (va_runV (As := [.int y0]) (rest := []) ⟨hx, hb, hml, hown, hts⟩ (qX4_readPlace_s24 l D ty eo _ ad q y0 q3 h2) (cwV 1 hts gX4_readPart_X4_readPlace rfl rfl rfl (by decide +kernel) ⟨by dsimp only [headSpec]; omega, by dsimp only [headSpec]; omega⟩) (dw_preV (ci := 4) (q0 := 24) hK hN hE hP hD hS hA rfl rfl) rfl rfl hl.1 rfl (lv_room (Nat.le_of_ble_eq_true rfl)) dX4_readPart_162 ⟨Nat.le_of_ble_eq_true rfl, Nat.le_of_ble_eq_true rfl⟩) hD hS hA (fun u9 H locs hw hp hd hs => ?_)
  clear hP hD hS
  obtain rfl := hw
  have hP := hp; have hD := hd; have hS := hs; clear hp hd hs
  refine lv_goto (tgt := 177) hx hb dX4_readPart_165 (by decide) ?_
  exact WX4_readPart_s24_177 hkS C0  _ _ _ _ h hP hD hS (lv_sub hl [] rfl)
set_option maxHeartbeats 4000000 in
set_option maxRecDepth 100000 in
theorem WX4_readPart_s24_98 {p : Program} {l : Launch} {e : Env} {s : State} {m : MethodId} {args : Array Value} {below : List Frame} {meth : Method} {c : Code} {D : va_G} {ty : Nat → ClassId} {eo : Nat → Nat} {A : Nat → Prop} {ad : Nat → Nat} {o2 : dK} {kS : dK → Option (dK)} {nS : Nat} (hkS : ∀ (sz : Nat) (q : dK)  (o2 : dK), kS q  = some o2 → Met l yX4_readSum wsX4_readSum ({ frames := 12 + 3 * nS, cells := 0, slots := 0, locals := 400 + 67 * nS } : Room) (va_Pc [.ref (ad 24)] (kz_pre D ty eo (wF ty ad q) sz)) (va_Qv (fun (u : va_W) => wF ty ad o2 = u) (kz_B D ty (va_A (wF ty ad q) sz)) (va_A (wF ty ad q) sz)) 0 0 (va_A (wF ty ad q) sz)) (C : dc_C p s m args meth c cX4_readPart none 4 RX4 wsX4_readPart D ty eo A)   (q : dK)  (H : Heap) (locs : List Loc) (ls : Array Slot) (h : zX4_readPart_s24_98 kS  q = some o2) (hP : va_P D vwCl (wF ty ad q) H) (hD : va_D A (wF ty ad q)) (hS : va_S A s.heap H locs) (hl : lv_has ls 4 [(0, .ref (ad 24))]) : W p l e ({ frames := 12 + 3 * nS + 1, cells := 0, slots := 0, locals := 400 + 67 * nS + 22 } : Room) s m args below meth c H locs 0 0 (MQ below (va_Qv (fun (u : va_W) => wF ty ad o2 = u) (kz_B D ty A) A) args s 0 0 A) (F0 m 98 ls []) := by
  have C0 := C
  obtain ⟨hx, hb, hr, hts, hown, hlocks, hml, hK, hN, hE, hA⟩ := C
  unfold zX4_readPart_s24_98 at h
  refine lv_aload_n hx hb dX4_readPart_98 rfl (lv_at hl 0 rfl) ?_
  obtain ⟨q3, h2, h⟩ := dV_some h
  refine dw_kv (va_runV (As := []) (rest := []) ⟨hx, hb, hml, hown, hts⟩ (qX4_fail_s24 l D ty eo _ ad q  q3 h2) (cwV 0 hts gX4_readPart_X4_fail rfl rfl rfl (by decide +kernel) ⟨by dsimp only [headSpec]; omega, by dsimp only [headSpec]; omega⟩) (dw_preV (ci := 4) (q0 := 24) hK hN hE hP hD hS hA rfl rfl) rfl rfl hl.1 rfl (lv_room (Nat.le_of_ble_eq_true rfl)) dX4_readPart_99 ⟨Nat.le_of_ble_eq_true rfl, Nat.le_of_ble_eq_true rfl⟩) hD hS hA (fun u9 H locs hw hp hd hs => ?_)
  clear hP hD hS
  obtain rfl := hw
  have hP := hp; have hD := hd; have hS := hs; clear hp hd hs
  cases h
  exact kz_vret hx hb hr hlocks hP hK hD hS dX4_readPart_102 rfl
set_option maxHeartbeats 4000000 in
set_option maxRecDepth 100000 in
theorem WX4_readPart_s24_89 {p : Program} {l : Launch} {e : Env} {s : State} {m : MethodId} {args : Array Value} {below : List Frame} {meth : Method} {c : Code} {D : va_G} {ty : Nat → ClassId} {eo : Nat → Nat} {A : Nat → Prop} {ad : Nat → Nat} {o2 : dK} {kS : dK → Option (dK)} {nS : Nat} (hkS : ∀ (sz : Nat) (q : dK)  (o2 : dK), kS q  = some o2 → Met l yX4_readSum wsX4_readSum ({ frames := 12 + 3 * nS, cells := 0, slots := 0, locals := 400 + 67 * nS } : Room) (va_Pc [.ref (ad 24)] (kz_pre D ty eo (wF ty ad q) sz)) (va_Qv (fun (u : va_W) => wF ty ad o2 = u) (kz_B D ty (va_A (wF ty ad q) sz)) (va_A (wF ty ad q) sz)) 0 0 (va_A (wF ty ad q) sz)) (C : dc_C p s m args meth c cX4_readPart none 4 RX4 wsX4_readPart D ty eo A)   (q : dK) (x1 : Int32) (x2 : Int32) (H : Heap) (locs : List Loc) (ls : Array Slot) (h : zX4_readPart_s24_89 kS  q x1 x2 = some o2) (hP : va_P D vwCl (wF ty ad q) H) (hD : va_D A (wF ty ad q)) (hS : va_S A s.heap H locs) (hl : lv_has ls 4 [(0, .ref (ad 24)), (1, .int x1), (2, .int x2)]) : W p l e ({ frames := 12 + 3 * nS + 1, cells := 0, slots := 0, locals := 400 + 67 * nS + 22 } : Room) s m args below meth c H locs 0 0 (MQ below (va_Qv (fun (u : va_W) => wF ty ad o2 = u) (kz_B D ty A) A) args s 0 0 A) (F0 m 89 ls []) := by
  have C0 := C
  obtain ⟨hx, hb, hr, hts, hown, hlocks, hml, hK, hN, hE, hA⟩ := C
  unfold zX4_readPart_s24_89 at h
  refine lv_aload_n hx hb dX4_readPart_89 rfl (lv_at hl 0 rfl) ?_
  refine va_get (D := D) (ci := 4) (v := .int (q.1 24 8)) (C := RX4) (T := TX4) (N := 11) hx hb hts u9_wsX4_readPart_X4 hown hK hP 24 rfl rfl 8 (by decide) (hts (.fieldLink RX4 39 "TurnedFloors$Reader" "parts" "I") f9_wsX4_readPart_506) (fun _ h9 => h9) rfl dX4_readPart_90 ?_
  refine lv_bipush (v := 50) hx hb dX4_readPart_93 (by decide) ?_
  refine lv_icmp_lt (tgt := 103) hx hb dX4_readPart_95 (by decide) (fun c9 => ?_) (fun c9 => ?_)
  · rw [if_pos c9] at h
    refine lv_aload_n hx hb dX4_readPart_103 rfl (lv_at hl 0 rfl) ?_
    refine lv_dup hx hb dX4_readPart_104 rfl ?_
    refine va_get (D := D) (ci := 4) (v := .int (q.1 24 8)) (C := RX4) (T := TX4) (N := 11) hx hb hts u9_wsX4_readPart_X4 hown hK hP 24 rfl rfl 8 (by decide) (hts (.fieldLink RX4 39 "TurnedFloors$Reader" "parts" "I") f9_wsX4_readPart_506) (fun _ h9 => h9) rfl dX4_readPart_105 ?_
    refine lv_iconst (v := 1) hx hb dX4_readPart_108 (by decide) ?_
    refine lv_iadd hx hb dX4_readPart_109 ?_
    refine va_put (D := D) (ci := 4) (v := .int ((q.1 24 8) + 1 : Int32)) (ty := .int) (C := RX4) (T := TX4) (N := 11) hx hb hts u9_wsX4_readPart_X4 tyX4 tyX4_ok nmX4 hown hK hP hD hS 24 rfl rfl 8 (by decide) (hts (.fieldLink RX4 39 "TurnedFloors$Reader" "parts" "I") f9_wsX4_readPart_506) (fun _ h9 => h9) rfl (by decide +kernel) rfl rfl (Nat.le_of_ble_eq_true rfl) dX4_readPart_110 (fun H locs hp hd hs => ?_)
    obtain ⟨q1, eq1, h⟩ := dL_some h
    refine kz_re (w2 := wF ty ad q1) hp hd hs (by rw [← eq1]; exact wF_f24_8 ty ad q ((q.1 24 8) + 1 : Int32)) ?_
    clear hp hd hs hP hD hS
    intro hP hD hS
    refine lv_aload_n hx hb dX4_readPart_113 rfl (lv_at hl 0 rfl) ?_
    refine va_get (D := D) (ci := 4) (v := .int (q1.1 24 7)) (C := RX4) (T := TX4) (N := 11) hx hb hts u9_wsX4_readPart_X4 hown hK hP 24 rfl rfl 7 (by decide) (hts (.fieldLink RX4 36 "TurnedFloors$Reader" "number" "I") f9_wsX4_readPart_507) (fun _ h9 => h9) rfl dX4_readPart_114 ?_
    refine lv_istore_n (lv' := [(3, .int (q1.1 24 7)), (0, .ref (ad 24)), (1, .int x1), (2, .int x2)]) hx hb dX4_readPart_117 rfl hl (by decide) rfl (fun ls hl => ?_)
    refine lv_aload_n hx hb dX4_readPart_118 rfl (lv_at hl 1 rfl) ?_
    obtain ⟨q4, h3, h⟩ := dV_some h
    refine dw_kv (va_runV (As := []) (rest := []) ⟨hx, hb, hml, hown, hts⟩ (qX4_step_s24 l D ty eo _ ad q1  q4 h3) (cwV 0 hts gX4_readPart_X4_step rfl rfl rfl (by decide +kernel) ⟨by dsimp only [headSpec]; omega, by dsimp only [headSpec]; omega⟩) (dw_preV (ci := 4) (q0 := 24) hK hN hE hP hD hS hA rfl rfl) rfl rfl hl.1 rfl (lv_room (Nat.le_of_ble_eq_true rfl)) dX4_readPart_119 ⟨Nat.le_of_ble_eq_true rfl, Nat.le_of_ble_eq_true rfl⟩) hD hS hA (fun u9 H locs hw hp hd hs => ?_)
    clear hP hD hS
    obtain rfl := hw
    have hP := hp; have hD := hd; have hS := hs; clear hp hd hs
    refine lv_iload_n hx hb dX4_readPart_122 rfl (lv_at hl 3 rfl) ?_
    refine lv_if_eq (tgt := 138) hx hb dX4_readPart_123 (by decide) (fun c9 => ?_) (fun c9 => ?_)
    · rw [if_pos c9] at h
      refine lv_aload_n hx hb dX4_readPart_138 rfl (lv_at hl 1 rfl) ?_
      refine va_get (D := D) (ci := 4) (v := .int (q4.1 24 2)) (C := RX4) (T := TX4) (N := 11) hx hb hts u9_wsX4_readPart_X4 hown hK hP 24 rfl rfl 2 (by decide) (hts (.fieldLink RX4 19 "TurnedFloors$Reader" "ofOrders" "Z") f9_wsX4_readPart_508) (fun _ h9 => h9) rfl dX4_readPart_139 ?_
      refine lv_if_eq (tgt := 168) hx hb dX4_readPart_142 (by decide) (fun c9 => ?_) (fun c9 => ?_)
      · rw [if_pos c9] at h
        exact WX4_readPart_s24_168 hkS C0  _ _ _ _ _ h hP hD hS (lv_sub hl [1, 2] rfl)
      · rw [if_neg c9] at h
        refine lv_iload_n hx hb dX4_readPart_145 rfl (lv_at hl 2 rfl) ?_
        refine lv_iconst (v := 5) hx hb dX4_readPart_146 (by decide) ?_
        refine lv_icmp_lt (tgt := 168) hx hb dX4_readPart_147 (by decide) (fun c9 => ?_) (fun c9 => ?_)
        · rw [if_pos c9] at h
          exact WX4_readPart_s24_168 hkS C0  _ _ _ _ _ h hP hD hS (lv_sub hl [1, 2] rfl)
        · rw [if_neg c9] at h
          refine lv_aload_n hx hb dX4_readPart_150 rfl (lv_at hl 1 rfl) ?_
          refine lv_iload_n hx hb dX4_readPart_151 rfl (lv_at hl 2 rfl) ?_
          refine lv_iconst (v := 5) hx hb dX4_readPart_152 (by decide) ?_
          refine lv_icmp_ne (tgt := 160) hx hb dX4_readPart_153 (by decide) (fun c9 => ?_) (fun c9 => ?_)
          · rw [if_neg c9] at h
            refine lv_bipush (v := 11) hx hb dX4_readPart_160 (by decide) ?_
            exact WX4_readPart_s24_162 hkS C0  _ _ _ _ _ h hP hD hS (lv_sub hl [] rfl)
          · rw [if_pos c9] at h
            refine lv_iconst (v := 5) hx hb dX4_readPart_156 (by decide) ?_
            refine lv_goto (tgt := 162) hx hb dX4_readPart_157 (by decide) ?_
            exact WX4_readPart_s24_162 hkS C0  _ _ _ _ _ h hP hD hS (lv_sub hl [] rfl)
    · rw [if_neg c9] at h
      refine lv_aload_n hx hb dX4_readPart_126 rfl (lv_at hl 1 rfl) ?_
      refine va_get (D := D) (ci := 4) (v := dN (ad 25) (q4.1 24 3)) (C := RX4) (T := TX4) (N := 11) hx hb hts u9_wsX4_readPart_X4 hown hK hP 24 rfl rfl 3 (by decide) (hts (.fieldLink RX4 23 "TurnedFloors$Reader" "text" "LTurnedFloors$Text;") f9_wsX4_readPart_505) (fun _ h9 => h9) rfl dX4_readPart_127 ?_
      obtain ⟨g5, h⟩ := dG_some h
      refine kz_topv (if_neg (dnz_ne g5)) ?_
      refine lv_iconst (v := 0) hx hb dX4_readPart_130 (by decide) ?_
      refine lv_iload_n hx hb dX4_readPart_131 rfl (lv_at hl 0 rfl) ?_
      obtain ⟨q8, h7, h⟩ := dV_some h
      refine dw_kv (va_runV (As := [.int 0, .int (q1.1 24 7)]) (rest := []) ⟨hx, hb, hml, hown, hts⟩ (qX7_emit_s25 l D ty eo _ ad q4 0 (q1.1 24 7) q8 h7) (cwV 2 hts gX4_readPart_X7_emit rfl rfl rfl (by decide +kernel) ⟨by dsimp only [headSpec]; omega, by dsimp only [headSpec]; omega⟩) (dw_preV (ci := 7) (q0 := 25) hK hN hE hP hD hS hA rfl rfl) rfl rfl hl.1 rfl (lv_room (Nat.le_of_ble_eq_true rfl)) dX4_readPart_132 ⟨Nat.le_of_ble_eq_true rfl, Nat.le_of_ble_eq_true rfl⟩) hD hS hA (fun u9 H locs hw hp hd hs => ?_)
      clear hP hD hS
      obtain rfl := hw
      have hP := hp; have hD := hd; have hS := hs; clear hp hd hs
      refine lv_goto (tgt := 177) hx hb dX4_readPart_135 (by decide) ?_
      exact WX4_readPart_s24_177 hkS C0  _ _ _ _ h hP hD hS (lv_sub hl [] rfl)
  · rw [if_neg c9] at h
    exact WX4_readPart_s24_98 hkS C0  _ _ _ _ h hP hD hS (lv_sub hl [0] rfl)
set_option maxHeartbeats 4000000 in
set_option maxRecDepth 100000 in
theorem WX4_readPart_s24_79 {p : Program} {l : Launch} {e : Env} {s : State} {m : MethodId} {args : Array Value} {below : List Frame} {meth : Method} {c : Code} {D : va_G} {ty : Nat → ClassId} {eo : Nat → Nat} {A : Nat → Prop} {ad : Nat → Nat} {o2 : dK} {kS : dK → Option (dK)} {nS : Nat} (hkS : ∀ (sz : Nat) (q : dK)  (o2 : dK), kS q  = some o2 → Met l yX4_readSum wsX4_readSum ({ frames := 12 + 3 * nS, cells := 0, slots := 0, locals := 400 + 67 * nS } : Room) (va_Pc [.ref (ad 24)] (kz_pre D ty eo (wF ty ad q) sz)) (va_Qv (fun (u : va_W) => wF ty ad o2 = u) (kz_B D ty (va_A (wF ty ad q) sz)) (va_A (wF ty ad q) sz)) 0 0 (va_A (wF ty ad q) sz)) (C : dc_C p s m args meth c cX4_readPart none 4 RX4 wsX4_readPart D ty eo A)   (q : dK) (x1 : Int32) (y0 : Int32) (H : Heap) (locs : List Loc) (ls : Array Slot) (h : zX4_readPart_s24_79 kS  q x1 y0 = some o2) (hP : va_P D vwCl (wF ty ad q) H) (hD : va_D A (wF ty ad q)) (hS : va_S A s.heap H locs) (hl : lv_has ls 4 [(0, .ref (ad 24)), (1, .int x1)]) : W p l e ({ frames := 12 + 3 * nS + 1, cells := 0, slots := 0, locals := 400 + 67 * nS + 22 } : Room) s m args below meth c H locs 0 0 (MQ below (va_Qv (fun (u : va_W) => wF ty ad o2 = u) (kz_B D ty A) A) args s 0 0 A) (F0 m 79 ls [.int y0]) := by
  have C0 := C
  obtain ⟨hx, hb, hr, hts, hown, hlocks, hml, hK, hN, hE, hA⟩ := C
  unfold zX4_readPart_s24_79 at h
  refine lv_istore_n (lv' := [(2, .int y0), (0, .ref (ad 24)), (1, .int x1)]) hx hb dX4_readPart_79 rfl hl (by decide) rfl (fun ls hl => ?_)
  refine lv_iload_n hx hb dX4_readPart_80 rfl (lv_at hl 2 rfl) ?_
  refine lv_iconst (v := (-1)) hx hb dX4_readPart_81 (by decide) ?_
  refine lv_icmp_ne (tgt := 89) hx hb dX4_readPart_82 (by decide) (fun c9 => ?_) (fun c9 => ?_)
  · rw [if_neg c9] at h
    exact WX4_readPart_s24_89 hkS C0  _ _ _ _ _ _ h hP hD hS (lv_sub hl [1, 2, 0] rfl)
  · rw [if_pos c9] at h
    refine lv_iload_n hx hb dX4_readPart_85 rfl (lv_at hl 0 rfl) ?_
    refine lv_if_eq (tgt := 98) hx hb dX4_readPart_86 (by decide) (fun c9 => ?_) (fun c9 => ?_)
    · rw [if_pos c9] at h
      exact WX4_readPart_s24_98 hkS C0  _ _ _ _ h hP hD hS (lv_sub hl [1] rfl)
    · rw [if_neg c9] at h
      exact WX4_readPart_s24_89 hkS C0  _ _ _ _ _ _ h hP hD hS (lv_sub hl [1, 2, 0] rfl)
set_option maxHeartbeats 4000000 in
set_option maxRecDepth 100000 in
theorem WX4_readPart_s24_78 {p : Program} {l : Launch} {e : Env} {s : State} {m : MethodId} {args : Array Value} {below : List Frame} {meth : Method} {c : Code} {D : va_G} {ty : Nat → ClassId} {eo : Nat → Nat} {A : Nat → Prop} {ad : Nat → Nat} {o2 : dK} {kS : dK → Option (dK)} {nS : Nat} (hkS : ∀ (sz : Nat) (q : dK)  (o2 : dK), kS q  = some o2 → Met l yX4_readSum wsX4_readSum ({ frames := 12 + 3 * nS, cells := 0, slots := 0, locals := 400 + 67 * nS } : Room) (va_Pc [.ref (ad 24)] (kz_pre D ty eo (wF ty ad q) sz)) (va_Qv (fun (u : va_W) => wF ty ad o2 = u) (kz_B D ty (va_A (wF ty ad q) sz)) (va_A (wF ty ad q) sz)) 0 0 (va_A (wF ty ad q) sz)) (C : dc_C p s m args meth c cX4_readPart none 4 RX4 wsX4_readPart D ty eo A)   (q : dK) (x1 : Int32) (H : Heap) (locs : List Loc) (ls : Array Slot) (h : zX4_readPart_s24_78 kS  q x1 = some o2) (hP : va_P D vwCl (wF ty ad q) H) (hD : va_D A (wF ty ad q)) (hS : va_S A s.heap H locs) (hl : lv_has ls 4 [(0, .ref (ad 24)), (1, .int x1)]) : W p l e ({ frames := 12 + 3 * nS + 1, cells := 0, slots := 0, locals := 400 + 67 * nS + 22 } : Room) s m args below meth c H locs 0 0 (MQ below (va_Qv (fun (u : va_W) => wF ty ad o2 = u) (kz_B D ty A) A) args s 0 0 A) (F0 m 78 ls []) := by
  have C0 := C
  obtain ⟨hx, hb, hr, hts, hown, hlocks, hml, hK, hN, hE, hA⟩ := C
  unfold zX4_readPart_s24_78 at h
  refine lv_iconst (v := 0) hx hb dX4_readPart_78 (by decide) ?_
  exact WX4_readPart_s24_79 hkS C0  _ _ _ _ _ _ h hP hD hS (lv_sub hl [0, 1] rfl)
set_option maxHeartbeats 4000000 in
set_option maxRecDepth 100000 in
theorem WX4_readPart_s24_52 {p : Program} {l : Launch} {e : Env} {s : State} {m : MethodId} {args : Array Value} {below : List Frame} {meth : Method} {c : Code} {D : va_G} {ty : Nat → ClassId} {eo : Nat → Nat} {A : Nat → Prop} {ad : Nat → Nat} {o2 : dK} {kS : dK → Option (dK)} {nS : Nat} (hkS : ∀ (sz : Nat) (q : dK)  (o2 : dK), kS q  = some o2 → Met l yX4_readSum wsX4_readSum ({ frames := 12 + 3 * nS, cells := 0, slots := 0, locals := 400 + 67 * nS } : Room) (va_Pc [.ref (ad 24)] (kz_pre D ty eo (wF ty ad q) sz)) (va_Qv (fun (u : va_W) => wF ty ad o2 = u) (kz_B D ty (va_A (wF ty ad q) sz)) (va_A (wF ty ad q) sz)) 0 0 (va_A (wF ty ad q) sz)) (C : dc_C p s m args meth c cX4_readPart none 4 RX4 wsX4_readPart D ty eo A)   (q : dK)  (H : Heap) (locs : List Loc) (ls : Array Slot) (h : zX4_readPart_s24_52 kS  q = some o2) (hP : va_P D vwCl (wF ty ad q) H) (hD : va_D A (wF ty ad q)) (hS : va_S A s.heap H locs) (hl : lv_has ls 4 [(0, .ref (ad 24))]) : W p l e ({ frames := 12 + 3 * nS + 1, cells := 0, slots := 0, locals := 400 + 67 * nS + 22 } : Room) s m args below meth c H locs 0 0 (MQ below (va_Qv (fun (u : va_W) => wF ty ad o2 = u) (kz_B D ty A) A) args s 0 0 A) (F0 m 52 ls [.ref (eo (1 + 3)), .ref (ad 24)]) := by
  have C0 := C
  obtain ⟨hx, hb, hr, hts, hown, hlocks, hml, hK, hN, hE, hA⟩ := C
  unfold zX4_readPart_s24_52 at h
  obtain ⟨r1, q3, h2, h⟩ := dB_some h
  refine dw_ki (va_runV (As := [.ref (eo (1 + 3))]) (rest := []) ⟨hx, hb, hml, hown, hts⟩ (qX4_wordIn_s24_t3 l D ty eo _ ad q  r1 q3 h2) (cwV 1 hts gX4_readPart_X4_wordIn rfl rfl rfl (by decide +kernel) ⟨by dsimp only [headSpec]; omega, by dsimp only [headSpec]; omega⟩) (dw_preV (ci := 4) (q0 := 24) hK hN hE hP hD hS hA rfl rfl) rfl rfl hl.1 rfl (lv_room (Nat.le_of_ble_eq_true rfl)) dX4_readPart_52 ⟨Nat.le_of_ble_eq_true rfl, Nat.le_of_ble_eq_true rfl⟩) hD hS hA (fun r9 u9 H locs hw hp hd hs => ?_)
  clear hP hD hS
  obtain ⟨rfl, rfl⟩ := hw
  have hP := hp; have hD := hd; have hS := hs; clear hp hd hs
  refine lv_istore_n (lv' := [(1, .int r1), (0, .ref (ad 24))]) hx hb dX4_readPart_55 rfl hl (by decide) rfl (fun ls hl => ?_)
  refine lv_aload_n hx hb dX4_readPart_56 rfl (lv_at hl 1 rfl) ?_
  refine va_get (D := D) (ci := 4) (v := .int (q3.1 24 4)) (C := RX4) (T := TX4) (N := 11) hx hb hts u9_wsX4_readPart_X4 hown hK hP 24 rfl rfl 4 (by decide) (hts (.fieldLink RX4 27 "TurnedFloors$Reader" "token" "I") f9_wsX4_readPart_509) (fun _ h9 => h9) rfl dX4_readPart_57 ?_
  refine lv_iconst (v := 2) hx hb dX4_readPart_60 (by decide) ?_
  refine lv_icmp_ne (tgt := 78) hx hb dX4_readPart_61 (by decide) (fun c9 => ?_) (fun c9 => ?_)
  · rw [if_neg c9] at h
    exact WX4_readPart_s24_78 hkS C0  _ _ _ _ _ h hP hD hS (lv_sub hl [1, 0] rfl)
  · rw [if_pos c9] at h
    refine lv_aload_n hx hb dX4_readPart_64 rfl (lv_at hl 1 rfl) ?_
    refine va_get (D := D) (ci := 4) (v := .int (q3.1 24 7)) (C := RX4) (T := TX4) (N := 11) hx hb hts u9_wsX4_readPart_X4 hown hK hP 24 rfl rfl 7 (by decide) (hts (.fieldLink RX4 36 "TurnedFloors$Reader" "number" "I") f9_wsX4_readPart_507) (fun _ h9 => h9) rfl dX4_readPart_65 ?_
    refine lv_sipush (v := 1000) hx hb dX4_readPart_68 (by decide) ?_
    refine lv_icmp_gt (tgt := 78) hx hb dX4_readPart_71 (by decide) (fun c9 => ?_) (fun c9 => ?_)
    · rw [if_pos c9] at h
      exact WX4_readPart_s24_78 hkS C0  _ _ _ _ _ h hP hD hS (lv_sub hl [1, 0] rfl)
    · rw [if_neg c9] at h
      refine lv_iconst (v := 1) hx hb dX4_readPart_74 (by decide) ?_
      refine lv_goto (tgt := 79) hx hb dX4_readPart_75 (by decide) ?_
      exact WX4_readPart_s24_79 hkS C0  _ _ _ _ _ _ h hP hD hS (lv_sub hl [1, 0] rfl)
set_option maxHeartbeats 4000000 in
set_option maxRecDepth 100000 in
theorem WX4_readPart_s24_36 {p : Program} {l : Launch} {e : Env} {s : State} {m : MethodId} {args : Array Value} {below : List Frame} {meth : Method} {c : Code} {D : va_G} {ty : Nat → ClassId} {eo : Nat → Nat} {A : Nat → Prop} {ad : Nat → Nat} {o2 : dK} {kS : dK → Option (dK)} {nS : Nat} (hkS : ∀ (sz : Nat) (q : dK)  (o2 : dK), kS q  = some o2 → Met l yX4_readSum wsX4_readSum ({ frames := 12 + 3 * nS, cells := 0, slots := 0, locals := 400 + 67 * nS } : Room) (va_Pc [.ref (ad 24)] (kz_pre D ty eo (wF ty ad q) sz)) (va_Qv (fun (u : va_W) => wF ty ad o2 = u) (kz_B D ty (va_A (wF ty ad q) sz)) (va_A (wF ty ad q) sz)) 0 0 (va_A (wF ty ad q) sz)) (C : dc_C p s m args meth c cX4_readPart none 4 RX4 wsX4_readPart D ty eo A)   (q : dK)  (H : Heap) (locs : List Loc) (ls : Array Slot) (h : zX4_readPart_s24_36 kS  q = some o2) (hP : va_P D vwCl (wF ty ad q) H) (hD : va_D A (wF ty ad q)) (hS : va_S A s.heap H locs) (hl : lv_has ls 4 []) : W p l e ({ frames := 12 + 3 * nS + 1, cells := 0, slots := 0, locals := 400 + 67 * nS + 22 } : Room) s m args below meth c H locs 0 0 (MQ below (va_Qv (fun (u : va_W) => wF ty ad o2 = u) (kz_B D ty A) A) args s 0 0 A) (F0 m 36 ls []) := by
  have C0 := C
  obtain ⟨hx, hb, hr, hts, hown, hlocks, hml, hK, hN, hE, hA⟩ := C
  unfold zX4_readPart_s24_36 at h
  cases h
  exact kz_vret hx hb hr hlocks hP hK hD hS dX4_readPart_36 rfl
set_option maxHeartbeats 4000000 in
set_option maxRecDepth 100000 in
theorem qX4_readPart_s24 (l : Launch) (D : va_G) (ty : Nat → ClassId) (eo : Nat → Nat) (sz : Nat) (ad : Nat → Nat) (kS : dK → Option (dK)) (nS : Nat) (hkS : ∀ (sz : Nat) (q : dK)  (o2 : dK), kS q  = some o2 → Met l yX4_readSum wsX4_readSum ({ frames := 12 + 3 * nS, cells := 0, slots := 0, locals := 400 + 67 * nS } : Room) (va_Pc [.ref (ad 24)] (kz_pre D ty eo (wF ty ad q) sz)) (va_Qv (fun (u : va_W) => wF ty ad o2 = u) (kz_B D ty (va_A (wF ty ad q) sz)) (va_A (wF ty ad q) sz)) 0 0 (va_A (wF ty ad q) sz)) (q : dK)  (o2 : dK) (h : zX4_readPart_s24 kS q = some o2) : Met l yX4_readPart wsX4_readPart ({ frames := 12 + 3 * nS + 1, cells := 0, slots := 0, locals := 400 + 67 * nS + 22 } : Room) (va_Pc [.ref (ad 24)] (kz_pre D ty eo (wF ty ad q) sz)) (va_Qv (fun (u : va_W) => wF ty ad o2 = u) (kz_B D ty (va_A (wF ty ad q) sz)) (va_A (wF ty ad q) sz)) 0 0 (va_A (wF ty ad q) sz) := by
  refine Met.ofW (cc := cX4_readPart) (maxL := 4) (ret := none) (by decide) rfl ?_
  intro p e s m args below meth c s₁ B hml hv
  obtain ⟨rfl, hsz, hP, hK, hD0, hN, hE⟩ := hv
  have hx := B.exec
  have hb := B.bytes
  have hr := B.returns
  have hts := atoms_spec (ws := wsX4_readPart) B.pre
  have hown : s.vm.findClass RX4 = some m.cls := findClass_of_methodNamed B.named
  have hlocks := B.notSynchronized
  subst hsz
  have hD := hD0.self (sz := s.heap.size)
  generalize hAe : va_A (wF ty ad q) s.heap.size = A at hD hE ⊢
  have hA : ∀ q : Nat, s.heap.size ≤ q → A q := fun q h => by rw [← hAe]; exact Or.inr h
  clear hAe
  have hS : va_S A s.heap s.heap [] := va_S.rf
  have hl := lv_entry ([.ref (ad 24)]) (n := 4) (Nat.le_of_ble_eq_true rfl)
  rw [lg_entry_eq]
  generalize (lg_sl ([.ref (ad 24)]) ++ List.replicate (4 - (lg_sl ([.ref (ad 24)])).length) Slot.unset).toArray = ls at hl ⊢
  have hl : lv_has ls 4 [(0, .ref (ad 24))] := hl
  have C : dc_C p s m _ meth c cX4_readPart none 4 RX4 wsX4_readPart D ty eo A := ⟨hx, hb, hr, hts, hown, hlocks, hml, hK, hN, hE, hA⟩
  unfold zX4_readPart_s24 at h
  refine lv_aload_n hx hb dX4_readPart_0 rfl (lv_at hl 0 rfl) ?_
  refine lv_bipush (v := 91) hx hb dX4_readPart_1 (by decide) ?_
  obtain ⟨r1, q3, h2, h⟩ := dB_some h
  refine dw_ki (va_runV (As := [.int 91]) (rest := []) ⟨hx, hb, hml, hown, hts⟩ (qX4_isSign_s24 l D ty eo _ ad q 91 r1 q3 h2) (cwV 1 hts gX4_readPart_X4_isSign rfl rfl rfl (by decide +kernel) ⟨by dsimp only [headSpec]; omega, by dsimp only [headSpec]; omega⟩) (dw_preV (ci := 4) (q0 := 24) hK hN hE hP hD hS hA rfl rfl) rfl rfl hl.1 rfl (lv_room (Nat.le_of_ble_eq_true rfl)) dX4_readPart_3 ⟨Nat.le_of_ble_eq_true rfl, Nat.le_of_ble_eq_true rfl⟩) hD hS hA (fun r9 u9 H locs hw hp hd hs => ?_)
  clear hP hD hS
  obtain ⟨rfl, rfl⟩ := hw
  have hP := hp; have hD := hd; have hS := hs; clear hp hd hs
  refine lv_if_eq (tgt := 37) hx hb dX4_readPart_6 (by decide) (fun c9 => ?_) (fun c9 => ?_)
  · rw [if_pos c9] at h
    refine lv_aload_n hx hb dX4_readPart_37 rfl (lv_at hl 0 rfl) ?_
    refine lv_aload_n hx hb dX4_readPart_38 rfl (lv_at hl 0 rfl) ?_
    refine va_get (D := D) (ci := 4) (v := .int (q3.1 24 2)) (C := RX4) (T := TX4) (N := 11) hx hb hts (by decide +kernel) hown hK hP 24 rfl rfl 2 (by decide) (hts (.fieldLink RX4 19 "TurnedFloors$Reader" "ofOrders" "Z") (by decide +kernel)) (fun _ h9 => h9) rfl dX4_readPart_39 ?_
    refine lv_if_eq (tgt := 50) hx hb dX4_readPart_42 (by decide) (fun c9 => ?_) (fun c9 => ?_)
    · rw [if_pos c9] at h
      refine va_ldcS hx hb hown (hE.2.2.2.2.1 3 (by decide)) dX4_readPart_50 ?_
      exact WX4_readPart_s24_52 hkS C  _ _ _ _ h hP hD hS (lv_sub hl [0] rfl)
    · rw [if_neg c9] at h
      refine va_ldcS hx hb hown (hE.2.2.2.2.1 2 (by decide)) dX4_readPart_45 ?_
      refine lv_goto (tgt := 52) hx hb dX4_readPart_47 (by decide) ?_
      obtain ⟨r4, q6, h5, h⟩ := dB_some h
      refine dw_ki (va_runV (As := [.ref (eo (1 + 2))]) (rest := []) ⟨hx, hb, hml, hown, hts⟩ (qX4_wordIn_s24_t2 l D ty eo _ ad q3  r4 q6 h5) (cwV 1 hts gX4_readPart_X4_wordIn rfl rfl rfl (by decide +kernel) ⟨by dsimp only [headSpec]; omega, by dsimp only [headSpec]; omega⟩) (dw_preV (ci := 4) (q0 := 24) hK hN hE hP hD hS hA rfl rfl) rfl rfl hl.1 rfl (lv_room (Nat.le_of_ble_eq_true rfl)) dX4_readPart_52 ⟨Nat.le_of_ble_eq_true rfl, Nat.le_of_ble_eq_true rfl⟩) hD hS hA (fun r9 u9 H locs hw hp hd hs => ?_)
      clear hP hD hS
      obtain ⟨rfl, rfl⟩ := hw
      have hP := hp; have hD := hd; have hS := hs; clear hp hd hs
      refine lv_istore_n (lv' := [(1, .int r4), (0, .ref (ad 24))]) hx hb dX4_readPart_55 rfl hl (by decide) rfl (fun ls hl => ?_)
      refine lv_aload_n hx hb dX4_readPart_56 rfl (lv_at hl 1 rfl) ?_
      refine va_get (D := D) (ci := 4) (v := .int (q6.1 24 4)) (C := RX4) (T := TX4) (N := 11) hx hb hts (by decide +kernel) hown hK hP 24 rfl rfl 4 (by decide) (hts (.fieldLink RX4 27 "TurnedFloors$Reader" "token" "I") (by decide +kernel)) (fun _ h9 => h9) rfl dX4_readPart_57 ?_
      refine lv_iconst (v := 2) hx hb dX4_readPart_60 (by decide) ?_
      refine lv_icmp_ne (tgt := 78) hx hb dX4_readPart_61 (by decide) (fun c9 => ?_) (fun c9 => ?_)
      · rw [if_neg c9] at h
        exact WX4_readPart_s24_78 hkS C  _ _ _ _ _ h hP hD hS (lv_sub hl [1, 0] rfl)
      · rw [if_pos c9] at h
        refine lv_aload_n hx hb dX4_readPart_64 rfl (lv_at hl 1 rfl) ?_
        refine va_get (D := D) (ci := 4) (v := .int (q6.1 24 7)) (C := RX4) (T := TX4) (N := 11) hx hb hts (by decide +kernel) hown hK hP 24 rfl rfl 7 (by decide) (hts (.fieldLink RX4 36 "TurnedFloors$Reader" "number" "I") (by decide +kernel)) (fun _ h9 => h9) rfl dX4_readPart_65 ?_
        refine lv_sipush (v := 1000) hx hb dX4_readPart_68 (by decide) ?_
        refine lv_icmp_gt (tgt := 78) hx hb dX4_readPart_71 (by decide) (fun c9 => ?_) (fun c9 => ?_)
        · rw [if_pos c9] at h
          exact WX4_readPart_s24_78 hkS C  _ _ _ _ _ h hP hD hS (lv_sub hl [1, 0] rfl)
        · rw [if_neg c9] at h
          refine lv_iconst (v := 1) hx hb dX4_readPart_74 (by decide) ?_
          refine lv_goto (tgt := 79) hx hb dX4_readPart_75 (by decide) ?_
          exact WX4_readPart_s24_79 hkS C  _ _ _ _ _ _ h hP hD hS (lv_sub hl [1, 0] rfl)
  · rw [if_neg c9] at h
    refine lv_aload_n hx hb dX4_readPart_9 rfl (lv_at hl 0 rfl) ?_
    obtain ⟨r7, q9, h8, h⟩ := dB_some h
    refine dw_ki (va_runV (As := []) (rest := []) ⟨hx, hb, hml, hown, hts⟩ (qX4_openBracket_s24 l D ty eo _ ad q3  r7 q9 h8) (cwV 0 hts gX4_readPart_X4_openBracket rfl rfl rfl (by decide +kernel) ⟨by dsimp only [headSpec]; omega, by dsimp only [headSpec]; omega⟩) (dw_preV (ci := 4) (q0 := 24) hK hN hE hP hD hS hA rfl rfl) rfl rfl hl.1 rfl (lv_room (Nat.le_of_ble_eq_true rfl)) dX4_readPart_10 ⟨Nat.le_of_ble_eq_true rfl, Nat.le_of_ble_eq_true rfl⟩) hD hS hA (fun r9 u9 H locs hw hp hd hs => ?_)
    clear hP hD hS
    obtain ⟨rfl, rfl⟩ := hw
    have hP := hp; have hD := hd; have hS := hs; clear hp hd hs
    refine lv_if_eq (tgt := 36) hx hb dX4_readPart_13 (by decide) (fun c9 => ?_) (fun c9 => ?_)
    · rw [if_pos c9] at h
      exact WX4_readPart_s24_36 hkS C  _ _ _ _ h hP hD hS (lv_sub hl [] rfl)
    · rw [if_neg c9] at h
      refine lv_aload_n hx hb dX4_readPart_16 rfl (lv_at hl 0 rfl) ?_
      obtain ⟨q12, h11, h⟩ := dV_some h
      refine dw_kv (va_runV (As := []) (rest := []) ⟨hx, hb, hml, hown, hts⟩ (hkS _ q9  q12 h11) (cwV 0 hts gX4_readPart_X4_readSum rfl rfl rfl (by decide +kernel) ⟨by dsimp only [headSpec]; omega, by dsimp only [headSpec]; omega⟩) (dw_preV (ci := 4) (q0 := 24) hK hN hE hP hD hS hA rfl rfl) rfl rfl hl.1 rfl (lv_room (Nat.le_of_ble_eq_true rfl)) dX4_readPart_17 ⟨Nat.le_of_ble_eq_true rfl, Nat.le_of_ble_eq_true rfl⟩) hD hS hA (fun u9 H locs hw hp hd hs => ?_)
      clear hP hD hS
      obtain rfl := hw
      have hP := hp; have hD := hd; have hS := hs; clear hp hd hs
      refine lv_aload_n hx hb dX4_readPart_20 rfl (lv_at hl 0 rfl) ?_
      refine lv_dup hx hb dX4_readPart_21 rfl ?_
      refine va_get (D := D) (ci := 4) (v := .int (q12.1 24 9)) (C := RX4) (T := TX4) (N := 11) hx hb hts (by decide +kernel) hown hK hP 24 rfl rfl 9 (by decide) (hts (.fieldLink RX4 42 "TurnedFloors$Reader" "open" "I") (by decide +kernel)) (fun _ h9 => h9) rfl dX4_readPart_22 ?_
      refine lv_iconst (v := 1) hx hb dX4_readPart_25 (by decide) ?_
      refine lv_isub hx hb dX4_readPart_26 ?_
      refine va_put (D := D) (ci := 4) (v := .int ((q12.1 24 9) - 1 : Int32)) (ty := .int) (C := RX4) (T := TX4) (N := 11) hx hb hts (by decide +kernel) tyX4 tyX4_ok nmX4 hown hK hP hD hS 24 rfl rfl 9 (by decide) (hts (.fieldLink RX4 42 "TurnedFloors$Reader" "open" "I") (by decide +kernel)) (fun _ h9 => h9) rfl (by decide +kernel) rfl rfl (Nat.le_of_ble_eq_true rfl) dX4_readPart_27 (fun H locs hp hd hs => ?_)
      obtain ⟨q13, eq13, h⟩ := dL_some h
      refine kz_re (w2 := wF ty ad q13) hp hd hs (by rw [← eq13]; exact wF_f24_9 ty ad q12 ((q12.1 24 9) - 1 : Int32)) ?_
      clear hp hd hs hP hD hS
      intro hP hD hS
      refine lv_aload_n hx hb dX4_readPart_30 rfl (lv_at hl 0 rfl) ?_
      refine lv_bipush (v := 93) hx hb dX4_readPart_31 (by decide) ?_
      obtain ⟨q16, h15, h⟩ := dV_some h
      refine dw_kv (va_runV (As := [.int 93]) (rest := []) ⟨hx, hb, hml, hown, hts⟩ (qX4_expectSign_s24 l D ty eo _ ad q13 93 q16 h15) (cwV 1 hts gX4_readPart_X4_expectSign rfl rfl rfl (by decide +kernel) ⟨by dsimp only [headSpec]; omega, by dsimp only [headSpec]; omega⟩) (dw_preV (ci := 4) (q0 := 24) hK hN hE hP hD hS hA rfl rfl) rfl rfl hl.1 rfl (lv_room (Nat.le_of_ble_eq_true rfl)) dX4_readPart_33 ⟨Nat.le_of_ble_eq_true rfl, Nat.le_of_ble_eq_true rfl⟩) hD hS hA (fun u9 H locs hw hp hd hs => ?_)
      clear hP hD hS
      obtain rfl := hw
      have hP := hp; have hD := hd; have hS := hs; clear hp hd hs
      exact WX4_readPart_s24_36 hkS C  _ _ _ _ h hP hD hS (lv_sub hl [] rfl)

set_option maxHeartbeats 4000000 in
set_option maxRecDepth 100000 in
theorem WX4_signIn_s24_t4_2b {p : Program} {l : Launch} {e : Env} {s : State} {m : MethodId} {args : Array Value} {below : List Frame} {meth : Method} {c : Code} {D : va_G} {ty : Nat → ClassId} {eo : Nat → Nat} {A : Nat → Prop} {ad : Nat → Nat} {o1 : Int32} {o2 : dK} (C : dc_C p s m args meth c cX4_signIn (some .int) 4 RX4 wsX4_signIn D ty eo A) {k2 : dK → Int32 → Int32 → Option (Int32 × dK)} (hk2 : ∀ (q : dK) (x2 : Int32) (x3 : Int32) (H : Heap) (locs : List Loc) (ls : Array Slot), k2 q x2 x3 = some (o1, o2) → va_P D vwCl (wF ty ad q) H → va_D A (wF ty ad q) → va_S A s.heap H locs → lv_has ls 4 [(0, .ref (ad 24)), (1, .ref (eo (1 + 4))), (2, .int x2), (3, .int x3)] → W p l e ({ frames := 4, cells := 0, slots := 0, locals := 85 } : Room) s m args below meth c H locs 0 0 (MQ below (va_Qi (fun (r : Int32) (u : va_W) => o1 = r ∧ wF ty ad o2 = u) (kz_B D ty A) A) args s 0 0 A) (F0 m 2 ls [])) (q : dK) (x2 : Int32) (x3 : Int32) (H : Heap) (locs : List Loc) (ls : Array Slot) (h : zX4_signIn_s24_t4_2b k2 q x2 x3 = some (o1, o2)) (hP : va_P D vwCl (wF ty ad q) H) (hD : va_D A (wF ty ad q)) (hS : va_S A s.heap H locs) (hl : lv_has ls 4 [(0, .ref (ad 24)), (1, .ref (eo (1 + 4))), (2, .int x2), (3, .int x3)]) : W p l e ({ frames := 4, cells := 0, slots := 0, locals := 85 } : Room) s m args below meth c H locs 0 0 (MQ below (va_Qi (fun (r : Int32) (u : va_W) => o1 = r ∧ wF ty ad o2 = u) (kz_B D ty A) A) args s 0 0 A) (F0 m 2 ls []) := by
  have C0 := C
  obtain ⟨hx, hb, hr, hts, hown, hlocks, hml, hK, hN, hE, hA⟩ := C
  unfold zX4_signIn_s24_t4_2b at h
  refine lv_iload_n hx hb dX4_signIn_2 rfl (lv_at hl 3 rfl) ?_
  refine lv_aload_n hx hb dX4_signIn_3 rfl (lv_at hl 1 rfl) ?_
  refine dw_ks (va_runV (As := []) (rest := [.int x3]) ⟨hx, hb, hml, hown, hts⟩ (kcJ0le l D ty eo _ 4 (by decide)) (cwV 0 hts gX4_signIn_J0_length_8abf5 rfl rfl rfl (by decide +kernel) ⟨Nat.le_of_ble_eq_true rfl, Nat.le_of_ble_eq_true rfl⟩) (kz_preT hK hN hE hP hD hS hA 4 (by decide) [] (by decide) rfl) rfl rfl hl.1 rfl (lv_room (Nat.le_of_ble_eq_true rfl)) dX4_signIn_4 ⟨Nat.le_of_ble_eq_true rfl, Nat.le_of_ble_eq_true rfl⟩) hP hD hS hA (fun _ _ h9 => h9.2.symm) (fun r9 u9 H locs hw hp hd hs => ?_)
  obtain ⟨rfl, -⟩ := hw
  clear hP hD hS
  have hP := hp; have hD := hd; have hS := hs; clear hp hd hs
  refine kz_topi 3 (by decide +kernel) ?_
  refine lv_icmp_ge (tgt := 32) hx hb dX4_signIn_7 (by decide) (fun c9 => ?_) (fun c9 => ?_)
  · rw [if_pos c9] at h
    refine lv_iconst (v := (-1)) hx hb dX4_signIn_32 (by decide) ?_
    cases h
    exact kz_iret hx hb hr hlocks hP hK hD hS dX4_signIn_33 ⟨rfl, rfl⟩
  · rw [if_neg c9] at h
    refine lv_aload_n hx hb dX4_signIn_10 rfl (lv_at hl 0 rfl) ?_
    refine lv_aload_n hx hb dX4_signIn_11 rfl (lv_at hl 1 rfl) ?_
    refine lv_iload_n hx hb dX4_signIn_12 rfl (lv_at hl 3 rfl) ?_
    obtain ⟨g1, h⟩ := dG_some h
    refine dw_ks (va_runV (As := [.int x3]) (rest := [.ref (ad 24)]) ⟨hx, hb, hml, hown, hts⟩ (kcJ0ch l D ty eo _ 4 (by decide) x3 (dg_in g1)) (cwV 1 hts gX4_signIn_J0_charAt_5068e rfl rfl rfl (by decide +kernel) ⟨Nat.le_of_ble_eq_true rfl, Nat.le_of_ble_eq_true rfl⟩) (kz_preT hK hN hE hP hD hS hA 4 (by decide) [] (by decide) rfl) rfl rfl hl.1 rfl (lv_room (Nat.le_of_ble_eq_true rfl)) dX4_signIn_13 ⟨Nat.le_of_ble_eq_true rfl, Nat.le_of_ble_eq_true rfl⟩) hP hD hS hA (fun _ _ h9 => h9.2.symm) (fun r9 u9 H locs hw hp hd hs => ?_)
    obtain ⟨rfl, -⟩ := hw
    clear hP hD hS
    have hP := hp; have hD := hd; have hS := hs; clear hp hd hs
    obtain ⟨v2, ev2, h⟩ := dL_some h
    refine kz_topi v2 ev2 ?_
    obtain ⟨r3, q5, h4, h⟩ := dB_some h
    refine dw_ki (va_runV (As := [.int v2]) (rest := []) ⟨hx, hb, hml, hown, hts⟩ (qX4_isSign_s24 l D ty eo _ ad q v2 r3 q5 h4) (cwV 1 hts gX4_signIn_X4_isSign rfl rfl rfl (by decide +kernel) ⟨Nat.le_of_ble_eq_true rfl, Nat.le_of_ble_eq_true rfl⟩) (dw_preV (ci := 4) (q0 := 24) hK hN hE hP hD hS hA rfl rfl) rfl rfl hl.1 rfl (lv_room (Nat.le_of_ble_eq_true rfl)) dX4_signIn_16 ⟨Nat.le_of_ble_eq_true rfl, Nat.le_of_ble_eq_true rfl⟩) hD hS hA (fun r9 u9 H locs hw hp hd hs => ?_)
    clear hP hD hS
    obtain ⟨rfl, rfl⟩ := hw
    have hP := hp; have hD := hd; have hS := hs; clear hp hd hs
    refine lv_if_eq (tgt := 26) hx hb dX4_signIn_19 (by decide) (fun c9 => ?_) (fun c9 => ?_)
    · rw [if_pos c9] at h
      refine lv_iinc (v := x3 + 1) (lv' := [(3, .int (x3 + 1)), (0, .ref (ad 24)), (1, .ref (eo (1 + 4))), (2, .int x2)]) hx hb dX4_signIn_26 hl (k := 3) rfl rfl (by decide) rfl (fun ls hl => ?_)
      refine lv_goto (tgt := 2) hx hb dX4_signIn_29 (by decide) ?_
      exact hk2 _ _ _ _ _ _ h hP hD hS (lv_sub hl [1, 2, 3, 0] rfl)
    · rw [if_neg c9] at h
      refine lv_iload_n hx hb dX4_signIn_22 rfl (lv_at hl 2 rfl) ?_
      refine lv_iload_n hx hb dX4_signIn_23 rfl (lv_at hl 3 rfl) ?_
      refine lv_iadd hx hb dX4_signIn_24 ?_
      cases h
      exact kz_iret hx hb hr hlocks hP hK hD hS dX4_signIn_25 ⟨rfl, rfl⟩
set_option maxHeartbeats 4000000 in
set_option maxRecDepth 100000 in
theorem WX4_signIn_s24_t4_2 {p : Program} {l : Launch} {e : Env} {s : State} {m : MethodId} {args : Array Value} {below : List Frame} {meth : Method} {c : Code} {D : va_G} {ty : Nat → ClassId} {eo : Nat → Nat} {A : Nat → Prop} {ad : Nat → Nat} {o1 : Int32} {o2 : dK} (C : dc_C p s m args meth c cX4_signIn (some .int) 4 RX4 wsX4_signIn D ty eo A)   (n : Nat) (q : dK) (x2 : Int32) (x3 : Int32) (H : Heap) (locs : List Loc) (ls : Array Slot) (h : zX4_signIn_s24_t4_2  n q x2 x3 = some (o1, o2)) (hP : va_P D vwCl (wF ty ad q) H) (hD : va_D A (wF ty ad q)) (hS : va_S A s.heap H locs) (hl : lv_has ls 4 [(0, .ref (ad 24)), (1, .ref (eo (1 + 4))), (2, .int x2), (3, .int x3)]) : W p l e ({ frames := 4, cells := 0, slots := 0, locals := 85 } : Room) s m args below meth c H locs 0 0 (MQ below (va_Qi (fun (r : Int32) (u : va_W) => o1 = r ∧ wF ty ad o2 = u) (kz_B D ty A) A) args s 0 0 A) (F0 m 2 ls []) := by
  exact dFix_W (F := fun k (a : dK × Int32 × Int32) => zX4_signIn_s24_t4_2b  (fun q x2 x3 => k (q, x2, x3)) a.1 a.2.1 a.2.2) (o := (o1, o2)) (P := fun (a : dK × Int32 × Int32) H locs ls => va_P D vwCl (wF ty ad a.1) H ∧ va_D A (wF ty ad a.1) ∧ va_S A s.heap H locs ∧ lv_has ls 4 [(0, .ref (ad 24)), (1, .ref (eo (1 + 4))), (2, .int a.2.1), (3, .int a.2.2)]) (G := fun H locs ls => W p l e ({ frames := 4, cells := 0, slots := 0, locals := 85 } : Room) s m args below meth c H locs 0 0 (MQ below (va_Qi (fun (r : Int32) (u : va_W) => o1 = r ∧ wF ty ad o2 = u) (kz_B D ty A) A) args s 0 0 A) (F0 m 2 ls []))
    (fun k hk a H locs ls h hp => WX4_signIn_s24_t4_2b C  (fun q x2 x3 H locs ls h h1 h2 h3 h4 => hk (q, x2, x3) H locs ls h ⟨h1, h2, h3, h4⟩) a.1 a.2.1 a.2.2 H locs ls h hp.1 hp.2.1 hp.2.2.1 hp.2.2.2) n (q, x2, x3) H locs ls h ⟨hP, hD, hS, hl⟩
set_option maxHeartbeats 4000000 in
set_option maxRecDepth 100000 in
theorem qX4_signIn_s24_t4 (l : Launch) (D : va_G) (ty : Nat → ClassId) (eo : Nat → Nat) (sz : Nat) (ad : Nat → Nat) (q : dK) (p2 : Int32) (o1 : Int32) (o2 : dK) (h : zX4_signIn_s24_t4 q p2 = some (o1, o2)) : Met l yX4_signIn wsX4_signIn ({ frames := 4, cells := 0, slots := 0, locals := 85 } : Room) (va_Pc [.ref (ad 24), .ref (eo (1 + 4)), .int p2] (kz_pre D ty eo (wF ty ad q) sz)) (va_Qi (fun (r : Int32) (u : va_W) => o1 = r ∧ wF ty ad o2 = u) (kz_B D ty (va_A (wF ty ad q) sz)) (va_A (wF ty ad q) sz)) 0 0 (va_A (wF ty ad q) sz) := by
  refine Met.ofW (cc := cX4_signIn) (maxL := 4) (ret := (some .int)) (by decide) rfl ?_
  intro p e s m args below meth c s₁ B hml hv
  obtain ⟨rfl, hsz, hP, hK, hD0, hN, hE⟩ := hv
  have hx := B.exec
  have hb := B.bytes
  have hr := B.returns
  have hts := atoms_spec (ws := wsX4_signIn) B.pre
  have hown : s.vm.findClass RX4 = some m.cls := findClass_of_methodNamed B.named
  have hlocks := B.notSynchronized
  subst hsz
  have hD := hD0.self (sz := s.heap.size)
  generalize hAe : va_A (wF ty ad q) s.heap.size = A at hD hE ⊢
  have hA : ∀ q : Nat, s.heap.size ≤ q → A q := fun q h => by rw [← hAe]; exact Or.inr h
  clear hAe
  have hS : va_S A s.heap s.heap [] := va_S.rf
  have hl := lv_entry ([.ref (ad 24), .ref (eo (1 + 4)), .int p2]) (n := 4) (Nat.le_of_ble_eq_true rfl)
  rw [lg_entry_eq]
  generalize (lg_sl ([.ref (ad 24), .ref (eo (1 + 4)), .int p2]) ++ List.replicate (4 - (lg_sl ([.ref (ad 24), .ref (eo (1 + 4)), .int p2])).length) Slot.unset).toArray = ls at hl ⊢
  have hl : lv_has ls 4 [(0, .ref (ad 24)), (1, .ref (eo (1 + 4))), (2, .int p2)] := hl
  have C : dc_C p s m _ meth c cX4_signIn (some .int) 4 RX4 wsX4_signIn D ty eo A := ⟨hx, hb, hr, hts, hown, hlocks, hml, hK, hN, hE, hA⟩
  unfold zX4_signIn_s24_t4 at h
  refine lv_iconst (v := 0) hx hb dX4_signIn_0 (by decide) ?_
  refine lv_istore_n (lv' := [(3, .int 0), (0, .ref (ad 24)), (1, .ref (eo (1 + 4))), (2, .int p2)]) hx hb dX4_signIn_1 rfl hl (by decide) rfl (fun ls hl => ?_)
  exact WX4_signIn_s24_t4_2 C  _ _ _ _ _ _ _ h hP hD hS (lv_sub hl [1, 2, 3, 0] rfl)

set_option maxHeartbeats 4000000 in
set_option maxRecDepth 100000 in
theorem WX4_readTerm_s24_59 {p : Program} {l : Launch} {e : Env} {s : State} {m : MethodId} {args : Array Value} {below : List Frame} {meth : Method} {c : Code} {D : va_G} {ty : Nat → ClassId} {eo : Nat → Nat} {A : Nat → Prop} {ad : Nat → Nat} {o2 : dK} {kS : dK → Option (dK)} {nS : Nat} (hkS : ∀ (sz : Nat) (q : dK)  (o2 : dK), kS q  = some o2 → Met l yX4_readSum wsX4_readSum ({ frames := 12 + 3 * nS, cells := 0, slots := 0, locals := 400 + 67 * nS } : Room) (va_Pc [.ref (ad 24)] (kz_pre D ty eo (wF ty ad q) sz)) (va_Qv (fun (u : va_W) => wF ty ad o2 = u) (kz_B D ty (va_A (wF ty ad q) sz)) (va_A (wF ty ad q) sz)) 0 0 (va_A (wF ty ad q) sz)) (C : dc_C p s m args meth c cX4_readTerm none 3 RX4 wsX4_readTerm D ty eo A)   (q : dK)  (H : Heap) (locs : List Loc) (ls : Array Slot) (h : zX4_readTerm_s24_59 kS  q = some o2) (hP : va_P D vwCl (wF ty ad q) H) (hD : va_D A (wF ty ad q)) (hS : va_S A s.heap H locs) (hl : lv_has ls 3 []) : W p l e ({ frames := 12 + 3 * nS + 2, cells := 0, slots := 0, locals := 400 + 67 * nS + 45 } : Room) s m args below meth c H locs 0 0 (MQ below (va_Qv (fun (u : va_W) => wF ty ad o2 = u) (kz_B D ty A) A) args s 0 0 A) (F0 m 59 ls []) := by
  have C0 := C
  obtain ⟨hx, hb, hr, hts, hown, hlocks, hml, hK, hN, hE, hA⟩ := C
  unfold zX4_readTerm_s24_59 at h
  cases h
  exact kz_vret hx hb hr hlocks hP hK hD hS dX4_readTerm_59 rfl
set_option maxHeartbeats 4000000 in
set_option maxRecDepth 100000 in
theorem WX4_readTerm_s24_6b {p : Program} {l : Launch} {e : Env} {s : State} {m : MethodId} {args : Array Value} {below : List Frame} {meth : Method} {c : Code} {D : va_G} {ty : Nat → ClassId} {eo : Nat → Nat} {A : Nat → Prop} {ad : Nat → Nat} {o2 : dK} {kS : dK → Option (dK)} {nS : Nat} (hkS : ∀ (sz : Nat) (q : dK)  (o2 : dK), kS q  = some o2 → Met l yX4_readSum wsX4_readSum ({ frames := 12 + 3 * nS, cells := 0, slots := 0, locals := 400 + 67 * nS } : Room) (va_Pc [.ref (ad 24)] (kz_pre D ty eo (wF ty ad q) sz)) (va_Qv (fun (u : va_W) => wF ty ad o2 = u) (kz_B D ty (va_A (wF ty ad q) sz)) (va_A (wF ty ad q) sz)) 0 0 (va_A (wF ty ad q) sz)) (C : dc_C p s m args meth c cX4_readTerm none 3 RX4 wsX4_readTerm D ty eo A) {k6 : dK → Int32 → Option (dK)} (hk6 : ∀ (q : dK) (x1 : Int32) (H : Heap) (locs : List Loc) (ls : Array Slot), k6 q x1 = some o2 → va_P D vwCl (wF ty ad q) H → va_D A (wF ty ad q) → va_S A s.heap H locs → lv_has ls 3 [(0, .ref (ad 24)), (1, .int x1)] → W p l e ({ frames := 12 + 3 * nS + 2, cells := 0, slots := 0, locals := 400 + 67 * nS + 45 } : Room) s m args below meth c H locs 0 0 (MQ below (va_Qv (fun (u : va_W) => wF ty ad o2 = u) (kz_B D ty A) A) args s 0 0 A) (F0 m 6 ls [])) (q : dK) (x1 : Int32) (H : Heap) (locs : List Loc) (ls : Array Slot) (h : zX4_readTerm_s24_6b kS k6 q x1 = some o2) (hP : va_P D vwCl (wF ty ad q) H) (hD : va_D A (wF ty ad q)) (hS : va_S A s.heap H locs) (hl : lv_has ls 3 [(0, .ref (ad 24)), (1, .int x1)]) : W p l e ({ frames := 12 + 3 * nS + 2, cells := 0, slots := 0, locals := 400 + 67 * nS + 45 } : Room) s m args below meth c H locs 0 0 (MQ below (va_Qv (fun (u : va_W) => wF ty ad o2 = u) (kz_B D ty A) A) args s 0 0 A) (F0 m 6 ls []) := by
  have C0 := C
  obtain ⟨hx, hb, hr, hts, hown, hlocks, hml, hK, hN, hE, hA⟩ := C
  unfold zX4_readTerm_s24_6b at h
  refine lv_iload_n hx hb dX4_readTerm_6 rfl (lv_at hl 1 rfl) ?_
  refine lv_aload_n hx hb dX4_readTerm_7 rfl (lv_at hl 0 rfl) ?_
  refine va_get (D := D) (ci := 4) (v := .int (q.1 24 1)) (C := RX4) (T := TX4) (N := 11) hx hb hts u9_wsX4_readTerm_X4 hown hK hP 24 rfl rfl 1 (by decide) (hts (.fieldLink RX4 15 "TurnedFloors$Reader" "length" "I") f9_wsX4_readTerm_511) (fun _ h9 => h9) rfl dX4_readTerm_8 ?_
  refine lv_icmp_ge (tgt := 59) hx hb dX4_readTerm_11 (by decide) (fun c9 => ?_) (fun c9 => ?_)
  · rw [if_pos c9] at h
    exact WX4_readTerm_s24_59 hkS C0  _ _ _ _ h hP hD hS (lv_sub hl [] rfl)
  · rw [if_neg c9] at h
    refine lv_aload_n hx hb dX4_readTerm_14 rfl (lv_at hl 0 rfl) ?_
    refine va_get (D := D) (ci := 4) (v := .int (q.1 24 10)) (C := RX4) (T := TX4) (N := 11) hx hb hts u9_wsX4_readTerm_X4 hown hK hP 24 rfl rfl 10 (by decide) (hts (.fieldLink RX4 45 "TurnedFloors$Reader" "faultAt" "I") f9_wsX4_readTerm_512) (fun _ h9 => h9) rfl dX4_readTerm_15 ?_
    refine lv_iconst (v := (-1)) hx hb dX4_readTerm_18 (by decide) ?_
    refine lv_icmp_ne (tgt := 59) hx hb dX4_readTerm_19 (by decide) (fun c9 => ?_) (fun c9 => ?_)
    · rw [if_neg c9] at h
      exact WX4_readTerm_s24_59 hkS C0  _ _ _ _ h hP hD hS (lv_sub hl [] rfl)
    · rw [if_pos c9] at h
      refine lv_aload_n hx hb dX4_readTerm_22 rfl (lv_at hl 0 rfl) ?_
      refine va_ldcS hx hb hown (hE.2.2.2.2.1 4 (by decide)) dX4_readTerm_23 ?_
      refine lv_iconst (v := 4) hx hb dX4_readTerm_25 (by decide) ?_
      obtain ⟨r1, q3, h2, h⟩ := dB_some h
      refine dw_ki (va_runV (As := [.ref (eo (1 + 4)), .int 4]) (rest := []) ⟨hx, hb, hml, hown, hts⟩ (qX4_signIn_s24_t4 l D ty eo _ ad q 4 r1 q3 h2) (cwV 2 hts gX4_readTerm_X4_signIn rfl rfl rfl (by decide +kernel) ⟨by dsimp only [headSpec]; omega, by dsimp only [headSpec]; omega⟩) (dw_preV (ci := 4) (q0 := 24) hK hN hE hP hD hS hA rfl rfl) rfl rfl hl.1 rfl (lv_room (Nat.le_of_ble_eq_true rfl)) dX4_readTerm_26 ⟨Nat.le_of_ble_eq_true rfl, Nat.le_of_ble_eq_true rfl⟩) hD hS hA (fun r9 u9 H locs hw hp hd hs => ?_)
      clear hP hD hS
      obtain ⟨rfl, rfl⟩ := hw
      have hP := hp; have hD := hd; have hS := hs; clear hp hd hs
      refine lv_istore_n (lv' := [(2, .int r1), (0, .ref (ad 24)), (1, .int x1)]) hx hb dX4_readTerm_29 rfl hl (by decide) rfl (fun ls hl => ?_)
      refine lv_iload_n hx hb dX4_readTerm_30 rfl (lv_at hl 0 rfl) ?_
      refine lv_iconst (v := (-1)) hx hb dX4_readTerm_31 (by decide) ?_
      refine lv_icmp_ne (tgt := 36) hx hb dX4_readTerm_32 (by decide) (fun c9 => ?_) (fun c9 => ?_)
      · rw [if_neg c9] at h
        refine lv_aload_n hx hb dX4_readTerm_36 rfl (lv_at hl 1 rfl) ?_
        obtain ⟨q6, h5, h⟩ := dV_some h
        refine dw_kv (va_runV (As := []) (rest := []) ⟨hx, hb, hml, hown, hts⟩ (qX4_step_s24 l D ty eo _ ad q3  q6 h5) (cwV 0 hts gX4_readTerm_X4_step rfl rfl rfl (by decide +kernel) ⟨by dsimp only [headSpec]; omega, by dsimp only [headSpec]; omega⟩) (dw_preV (ci := 4) (q0 := 24) hK hN hE hP hD hS hA rfl rfl) rfl rfl hl.1 rfl (lv_room (Nat.le_of_ble_eq_true rfl)) dX4_readTerm_37 ⟨Nat.le_of_ble_eq_true rfl, Nat.le_of_ble_eq_true rfl⟩) hD hS hA (fun u9 H locs hw hp hd hs => ?_)
        clear hP hD hS
        obtain rfl := hw
        have hP := hp; have hD := hd; have hS := hs; clear hp hd hs
        refine lv_aload_n hx hb dX4_readTerm_40 rfl (lv_at hl 1 rfl) ?_
        obtain ⟨q9, h8, h⟩ := dV_some h
        refine dw_kv (va_runV (As := []) (rest := []) ⟨hx, hb, hml, hown, hts⟩ (qX4_readPart_s24 l D ty eo _ ad kS nS hkS q6  q9 h8) (cwV 0 hts gX4_readTerm_X4_readPart rfl rfl rfl (by decide +kernel) ⟨by dsimp only [headSpec]; omega, by dsimp only [headSpec]; omega⟩) (dw_preV (ci := 4) (q0 := 24) hK hN hE hP hD hS hA rfl rfl) rfl rfl hl.1 rfl (lv_room (Nat.le_of_ble_eq_true rfl)) dX4_readTerm_41 ⟨Nat.le_of_ble_eq_true rfl, Nat.le_of_ble_eq_true rfl⟩) hD hS hA (fun u9 H locs hw hp hd hs => ?_)
        clear hP hD hS
        obtain rfl := hw
        have hP := hp; have hD := hd; have hS := hs; clear hp hd hs
        refine lv_aload_n hx hb dX4_readTerm_44 rfl (lv_at hl 1 rfl) ?_
        refine va_get (D := D) (ci := 4) (v := dN (ad 25) (q9.1 24 3)) (C := RX4) (T := TX4) (N := 11) hx hb hts u9_wsX4_readTerm_X4 hown hK hP 24 rfl rfl 3 (by decide) (hts (.fieldLink RX4 23 "TurnedFloors$Reader" "text" "LTurnedFloors$Text;") f9_wsX4_readTerm_513) (fun _ h9 => h9) rfl dX4_readTerm_45 ?_
        obtain ⟨g10, h⟩ := dG_some h
        refine kz_topv (if_neg (dnz_ne g10)) ?_
        refine lv_iload_n hx hb dX4_readTerm_48 rfl (lv_at hl 0 rfl) ?_
        refine lv_iconst (v := 0) hx hb dX4_readTerm_49 (by decide) ?_
        obtain ⟨q13, h12, h⟩ := dV_some h
        refine dw_kv (va_runV (As := [.int r1, .int 0]) (rest := []) ⟨hx, hb, hml, hown, hts⟩ (qX7_emit_s25 l D ty eo _ ad q9 r1 0 q13 h12) (cwV 2 hts gX4_readTerm_X7_emit rfl rfl rfl (by decide +kernel) ⟨by dsimp only [headSpec]; omega, by dsimp only [headSpec]; omega⟩) (dw_preV (ci := 7) (q0 := 25) hK hN hE hP hD hS hA rfl rfl) rfl rfl hl.1 rfl (lv_room (Nat.le_of_ble_eq_true rfl)) dX4_readTerm_50 ⟨Nat.le_of_ble_eq_true rfl, Nat.le_of_ble_eq_true rfl⟩) hD hS hA (fun u9 H locs hw hp hd hs => ?_)
        clear hP hD hS
        obtain rfl := hw
        have hP := hp; have hD := hd; have hS := hs; clear hp hd hs
        refine lv_iinc (v := x1 + 1) (lv' := [(1, .int (x1 + 1)), (2, .int r1), (0, .ref (ad 24))]) hx hb dX4_readTerm_53 hl (k := 2) rfl rfl (by decide) rfl (fun ls hl => ?_)
        refine lv_goto (tgt := 6) hx hb dX4_readTerm_56 (by decide) ?_
        exact hk6 _ _ _ _ _ h hP hD hS (lv_sub hl [2, 0] rfl)
      · rw [if_pos c9] at h
        cases h
        exact kz_vret hx hb hr hlocks hP hK hD hS dX4_readTerm_35 rfl
set_option maxHeartbeats 4000000 in
set_option maxRecDepth 100000 in
theorem WX4_readTerm_s24_6 {p : Program} {l : Launch} {e : Env} {s : State} {m : MethodId} {args : Array Value} {below : List Frame} {meth : Method} {c : Code} {D : va_G} {ty : Nat → ClassId} {eo : Nat → Nat} {A : Nat → Prop} {ad : Nat → Nat} {o2 : dK} {kS : dK → Option (dK)} {nS : Nat} (hkS : ∀ (sz : Nat) (q : dK)  (o2 : dK), kS q  = some o2 → Met l yX4_readSum wsX4_readSum ({ frames := 12 + 3 * nS, cells := 0, slots := 0, locals := 400 + 67 * nS } : Room) (va_Pc [.ref (ad 24)] (kz_pre D ty eo (wF ty ad q) sz)) (va_Qv (fun (u : va_W) => wF ty ad o2 = u) (kz_B D ty (va_A (wF ty ad q) sz)) (va_A (wF ty ad q) sz)) 0 0 (va_A (wF ty ad q) sz)) (C : dc_C p s m args meth c cX4_readTerm none 3 RX4 wsX4_readTerm D ty eo A)   (n : Nat) (q : dK) (x1 : Int32) (H : Heap) (locs : List Loc) (ls : Array Slot) (h : zX4_readTerm_s24_6 kS  n q x1 = some o2) (hP : va_P D vwCl (wF ty ad q) H) (hD : va_D A (wF ty ad q)) (hS : va_S A s.heap H locs) (hl : lv_has ls 3 [(0, .ref (ad 24)), (1, .int x1)]) : W p l e ({ frames := 12 + 3 * nS + 2, cells := 0, slots := 0, locals := 400 + 67 * nS + 45 } : Room) s m args below meth c H locs 0 0 (MQ below (va_Qv (fun (u : va_W) => wF ty ad o2 = u) (kz_B D ty A) A) args s 0 0 A) (F0 m 6 ls []) := by
  exact dFix_W (F := fun k (a : dK × Int32) => zX4_readTerm_s24_6b kS  (fun q x1 => k (q, x1)) a.1 a.2) (o := o2) (P := fun (a : dK × Int32) H locs ls => va_P D vwCl (wF ty ad a.1) H ∧ va_D A (wF ty ad a.1) ∧ va_S A s.heap H locs ∧ lv_has ls 3 [(0, .ref (ad 24)), (1, .int a.2)]) (G := fun H locs ls => W p l e ({ frames := 12 + 3 * nS + 2, cells := 0, slots := 0, locals := 400 + 67 * nS + 45 } : Room) s m args below meth c H locs 0 0 (MQ below (va_Qv (fun (u : va_W) => wF ty ad o2 = u) (kz_B D ty A) A) args s 0 0 A) (F0 m 6 ls []))
    (fun k hk a H locs ls h hp => WX4_readTerm_s24_6b hkS C  (fun q x1 H locs ls h h1 h2 h3 h4 => hk (q, x1) H locs ls h ⟨h1, h2, h3, h4⟩) a.1 a.2 H locs ls h hp.1 hp.2.1 hp.2.2.1 hp.2.2.2) n (q, x1) H locs ls h ⟨hP, hD, hS, hl⟩
set_option maxHeartbeats 4000000 in
set_option maxRecDepth 100000 in
theorem qX4_readTerm_s24 (l : Launch) (D : va_G) (ty : Nat → ClassId) (eo : Nat → Nat) (sz : Nat) (ad : Nat → Nat) (kS : dK → Option (dK)) (nS : Nat) (hkS : ∀ (sz : Nat) (q : dK)  (o2 : dK), kS q  = some o2 → Met l yX4_readSum wsX4_readSum ({ frames := 12 + 3 * nS, cells := 0, slots := 0, locals := 400 + 67 * nS } : Room) (va_Pc [.ref (ad 24)] (kz_pre D ty eo (wF ty ad q) sz)) (va_Qv (fun (u : va_W) => wF ty ad o2 = u) (kz_B D ty (va_A (wF ty ad q) sz)) (va_A (wF ty ad q) sz)) 0 0 (va_A (wF ty ad q) sz)) (q : dK)  (o2 : dK) (h : zX4_readTerm_s24 kS q = some o2) : Met l yX4_readTerm wsX4_readTerm ({ frames := 12 + 3 * nS + 2, cells := 0, slots := 0, locals := 400 + 67 * nS + 45 } : Room) (va_Pc [.ref (ad 24)] (kz_pre D ty eo (wF ty ad q) sz)) (va_Qv (fun (u : va_W) => wF ty ad o2 = u) (kz_B D ty (va_A (wF ty ad q) sz)) (va_A (wF ty ad q) sz)) 0 0 (va_A (wF ty ad q) sz) := by
  refine Met.ofW (cc := cX4_readTerm) (maxL := 3) (ret := none) (by decide) rfl ?_
  intro p e s m args below meth c s₁ B hml hv
  obtain ⟨rfl, hsz, hP, hK, hD0, hN, hE⟩ := hv
  have hx := B.exec
  have hb := B.bytes
  have hr := B.returns
  have hts := atoms_spec (ws := wsX4_readTerm) B.pre
  have hown : s.vm.findClass RX4 = some m.cls := findClass_of_methodNamed B.named
  have hlocks := B.notSynchronized
  subst hsz
  have hD := hD0.self (sz := s.heap.size)
  generalize hAe : va_A (wF ty ad q) s.heap.size = A at hD hE ⊢
  have hA : ∀ q : Nat, s.heap.size ≤ q → A q := fun q h => by rw [← hAe]; exact Or.inr h
  clear hAe
  have hS : va_S A s.heap s.heap [] := va_S.rf
  have hl := lv_entry ([.ref (ad 24)]) (n := 3) (Nat.le_of_ble_eq_true rfl)
  rw [lg_entry_eq]
  generalize (lg_sl ([.ref (ad 24)]) ++ List.replicate (3 - (lg_sl ([.ref (ad 24)])).length) Slot.unset).toArray = ls at hl ⊢
  have hl : lv_has ls 3 [(0, .ref (ad 24))] := hl
  have C : dc_C p s m _ meth c cX4_readTerm none 3 RX4 wsX4_readTerm D ty eo A := ⟨hx, hb, hr, hts, hown, hlocks, hml, hK, hN, hE, hA⟩
  unfold zX4_readTerm_s24 at h
  refine lv_aload_n hx hb dX4_readTerm_0 rfl (lv_at hl 0 rfl) ?_
  obtain ⟨q3, h2, h⟩ := dV_some h
  refine dw_kv (va_runV (As := []) (rest := []) ⟨hx, hb, hml, hown, hts⟩ (qX4_readPart_s24 l D ty eo _ ad kS nS hkS q  q3 h2) (cwV 0 hts gX4_readTerm_X4_readPart rfl rfl rfl (by decide +kernel) ⟨by dsimp only [headSpec]; omega, by dsimp only [headSpec]; omega⟩) (dw_preV (ci := 4) (q0 := 24) hK hN hE hP hD hS hA rfl rfl) rfl rfl hl.1 rfl (lv_room (Nat.le_of_ble_eq_true rfl)) dX4_readTerm_1 ⟨Nat.le_of_ble_eq_true rfl, Nat.le_of_ble_eq_true rfl⟩) hD hS hA (fun u9 H locs hw hp hd hs => ?_)
  clear hP hD hS
  obtain rfl := hw
  have hP := hp; have hD := hd; have hS := hs; clear hp hd hs
  refine lv_iconst (v := 0) hx hb dX4_readTerm_4 (by decide) ?_
  refine lv_istore_n (lv' := [(1, .int 0), (0, .ref (ad 24))]) hx hb dX4_readTerm_5 rfl hl (by decide) rfl (fun ls hl => ?_)
  exact WX4_readTerm_s24_6 hkS C  _ _ _ _ _ _ h hP hD hS (lv_sub hl [1, 0] rfl)
