section
theorem u9_wsX4_readPlain_X4 : ∀ w ∈ u_ws RX4 TX4 11, w ∈ wsX4_readPlain := fun w h => List.mem_cons_of_mem _ (vW9_wsX40 w h)
theorem f9_wsX4_readPlain_533 : (Cond.fieldLink RX4 23 "TurnedFloors$Reader" "text" "LTurnedFloors$Text;") ∈ wsX4_readPlain := List.mem_cons_of_mem _ mvW9_166
theorem f9_wsX4_readPlain_534 : (Cond.fieldLink RX4 45 "TurnedFloors$Reader" "faultAt" "I") ∈ wsX4_readPlain := List.mem_cons_of_mem _ mvW9_170
theorem f9_wsX4_readPlain_535 : (Cond.fieldLink RX4 42 "TurnedFloors$Reader" "open" "I") ∈ wsX4_readPlain := List.mem_cons_of_mem _ mvW9_169
theorem f9_wsX4_readPlain_536 : (Cond.fieldLink RX4 15 "TurnedFloors$Reader" "length" "I") ∈ wsX4_readPlain := List.mem_cons_of_mem _ mvW9_164
theorem u9_wsX7_leapHere_X7 : ∀ w ∈ u_ws RX7 TX7 8, w ∈ wsX7_leapHere := fun w h => List.mem_cons_of_mem _ (vW9_wsX70 w h)
theorem f9_wsX7_leapHere_538 : (Cond.fieldLink RX7 13 "TurnedFloors$Text" "length" "I") ∈ wsX7_leapHere := List.mem_cons_of_mem _ mvW9_178
theorem f9_wsX7_leapHere_539 : (Cond.fieldLink RX7 32 "TurnedFloors$Text" "code" "[I") ∈ wsX7_leapHere := List.mem_cons_of_mem _ mvW9_281
theorem u9_wsX4_readBoth_X4 : ∀ w ∈ u_ws RX4 TX4 11, w ∈ wsX4_readBoth := fun w h => List.mem_cons_of_mem _ (vW9_wsX40 w h)
theorem u9_wsX4_readBoth_X7 : ∀ w ∈ u_ws RX7 TX7 8, w ∈ wsX4_readBoth := fun w h => List.mem_cons_of_mem _ (vW9_wsX70 w h)
theorem f9_wsX4_readBoth_542 : (Cond.fieldLink RX4 15 "TurnedFloors$Reader" "length" "I") ∈ wsX4_readBoth := List.mem_cons_of_mem _ mvW9_164
theorem f9_wsX4_readBoth_543 : (Cond.fieldLink RX4 45 "TurnedFloors$Reader" "faultAt" "I") ∈ wsX4_readBoth := List.mem_cons_of_mem _ mvW9_170
theorem f9_wsX4_readBoth_544 : (Cond.fieldLink RX4 23 "TurnedFloors$Reader" "text" "LTurnedFloors$Text;") ∈ wsX4_readBoth := List.mem_cons_of_mem _ mvW9_166
set_option maxHeartbeats 4000000 in
set_option maxRecDepth 100000 in
theorem WX4_isWord_s24_t8_26 {p : Program} {l : Launch} {e : Env} {s : State} {m : MethodId} {args : Array Value} {below : List Frame} {meth : Method} {c : Code} {D : va_G} {ty : Nat → ClassId} {eo : Nat → Nat} {A : Nat → Prop} {ad : Nat → Nat} {o1 : Int32} {o2 : dK} (C : dc_C p s m args meth c cX4_isWord (some .boolean) 2 RX4 wsX4_isWord D ty eo A)   (q : dK) (y0 : Int32) (H : Heap) (locs : List Loc) (ls : Array Slot) (h : zX4_isWord_s24_t8_26  q y0 = some (o1, o2)) (hP : va_P D vwCl (wF ty ad q) H) (hD : va_D A (wF ty ad q)) (hS : va_S A s.heap H locs) (hl : lv_has ls 2 []) : W p l e ({ frames := 5, cells := 0, slots := 0, locals := 109 } : Room) s m args below meth c H locs 0 0 (MQ below (va_Qi (fun (r : Int32) (u : va_W) => o1 = r ∧ wF ty ad o2 = u) (kz_B D ty A) A) args s 0 0 A) (F0 m 26 ls [.int y0]) := by
  have C0 := C
  obtain ⟨hx, hb, hr, hts, hown, hlocks, hml, hK, hN, hE, hA⟩ := C
  unfold zX4_isWord_s24_t8_26 at h
  obtain ⟨g1, h⟩ := dG_some h
  cases h
  exact kz_zret hx hb hr hlocks (dbl_nar g1) hP hK hD hS dX4_isWord_26 ⟨rfl, rfl⟩
set_option maxHeartbeats 4000000 in
set_option maxRecDepth 100000 in
theorem WX4_isWord_s24_t8_25 {p : Program} {l : Launch} {e : Env} {s : State} {m : MethodId} {args : Array Value} {below : List Frame} {meth : Method} {c : Code} {D : va_G} {ty : Nat → ClassId} {eo : Nat → Nat} {A : Nat → Prop} {ad : Nat → Nat} {o1 : Int32} {o2 : dK} (C : dc_C p s m args meth c cX4_isWord (some .boolean) 2 RX4 wsX4_isWord D ty eo A)   (q : dK)  (H : Heap) (locs : List Loc) (ls : Array Slot) (h : zX4_isWord_s24_t8_25  q = some (o1, o2)) (hP : va_P D vwCl (wF ty ad q) H) (hD : va_D A (wF ty ad q)) (hS : va_S A s.heap H locs) (hl : lv_has ls 2 []) : W p l e ({ frames := 5, cells := 0, slots := 0, locals := 109 } : Room) s m args below meth c H locs 0 0 (MQ below (va_Qi (fun (r : Int32) (u : va_W) => o1 = r ∧ wF ty ad o2 = u) (kz_B D ty A) A) args s 0 0 A) (F0 m 25 ls []) := by
  have C0 := C
  obtain ⟨hx, hb, hr, hts, hown, hlocks, hml, hK, hN, hE, hA⟩ := C
  unfold zX4_isWord_s24_t8_25 at h
  refine lv_iconst (v := 0) hx hb dX4_isWord_25 (by decide) ?_
  exact WX4_isWord_s24_t8_26 C0  _ _ _ _ _ h hP hD hS (lv_sub hl [] rfl)
set_option maxHeartbeats 4000000 in
set_option maxRecDepth 100000 in
theorem qX4_isWord_s24_t8 (l : Launch) (D : va_G) (ty : Nat → ClassId) (eo : Nat → Nat) (sz : Nat) (ad : Nat → Nat) (q : dK)  (o1 : Int32) (o2 : dK) (h : zX4_isWord_s24_t8 q = some (o1, o2)) : Met l yX4_isWord wsX4_isWord ({ frames := 5, cells := 0, slots := 0, locals := 109 } : Room) (va_Pc [.ref (ad 24), .ref (eo (1 + 8))] (kz_pre D ty eo (wF ty ad q) sz)) (va_Qi (fun (r : Int32) (u : va_W) => o1 = r ∧ wF ty ad o2 = u) (kz_B D ty (va_A (wF ty ad q) sz)) (va_A (wF ty ad q) sz)) 0 0 (va_A (wF ty ad q) sz) := by
  refine Met.ofW (cc := cX4_isWord) (maxL := 2) (ret := (some .boolean)) (by decide) rfl ?_
  intro p e s m args below meth c s₁ B hml hv
  obtain ⟨rfl, hsz, hP, hK, hD0, hN, hE⟩ := hv
  have hx := B.exec
  have hb := B.bytes
  have hr := B.returns
  have hts := atoms_spec (ws := wsX4_isWord) B.pre
  have hown : s.vm.findClass RX4 = some m.cls := findClass_of_methodNamed B.named
  have hlocks := B.notSynchronized
  subst hsz
  have hD := hD0.self (sz := s.heap.size)
  generalize hAe : va_A (wF ty ad q) s.heap.size = A at hD hE ⊢
  have hA : ∀ q : Nat, s.heap.size ≤ q → A q := fun q h => by rw [← hAe]; exact Or.inr h
  clear hAe
  have hS : va_S A s.heap s.heap [] := va_S.rf
  have hl := lv_entry ([.ref (ad 24), .ref (eo (1 + 8))]) (n := 2) (Nat.le_of_ble_eq_true rfl)
  rw [lg_entry_eq]
  generalize (lg_sl ([.ref (ad 24), .ref (eo (1 + 8))]) ++ List.replicate (2 - (lg_sl ([.ref (ad 24), .ref (eo (1 + 8))])).length) Slot.unset).toArray = ls at hl ⊢
  have hl : lv_has ls 2 [(0, .ref (ad 24)), (1, .ref (eo (1 + 8)))] := hl
  have C : dc_C p s m _ meth c cX4_isWord (some .boolean) 2 RX4 wsX4_isWord D ty eo A := ⟨hx, hb, hr, hts, hown, hlocks, hml, hK, hN, hE, hA⟩
  unfold zX4_isWord_s24_t8 at h
  refine lv_aload_n hx hb dX4_isWord_0 rfl (lv_at hl 0 rfl) ?_
  refine va_get (D := D) (ci := 4) (v := .int (q.1 24 4)) (C := RX4) (T := TX4) (N := 11) hx hb hts u9_wsX4_isWord_X4 hown hK hP 24 rfl rfl 4 (by decide) (hts (.fieldLink RX4 27 "TurnedFloors$Reader" "token" "I") f9_wsX4_isWord_524) (fun _ h9 => h9) rfl dX4_isWord_1 ?_
  refine lv_iconst (v := 1) hx hb dX4_isWord_4 (by decide) ?_
  refine lv_icmp_ne (tgt := 25) hx hb dX4_isWord_5 (by decide) (fun c9 => ?_) (fun c9 => ?_)
  · rw [if_neg c9] at h
    exact WX4_isWord_s24_t8_25 C  _ _ _ _ h hP hD hS (lv_sub hl [] rfl)
  · rw [if_pos c9] at h
    refine lv_aload_n hx hb dX4_isWord_8 rfl (lv_at hl 0 rfl) ?_
    refine lv_aload_n hx hb dX4_isWord_9 rfl (lv_at hl 1 rfl) ?_
    refine lv_iconst (v := 0) hx hb dX4_isWord_10 (by decide) ?_
    refine lv_aload_n hx hb dX4_isWord_11 rfl (lv_at hl 1 rfl) ?_
    refine dw_ks (va_runV (As := []) (rest := [.int 0, .ref (eo (1 + 8)), .ref (ad 24)]) ⟨hx, hb, hml, hown, hts⟩ (kcJ0le l D ty eo _ 8 (by decide)) (cwV 0 hts gX4_isWord_J0_length_8abf5 rfl rfl rfl hd_J0_length_8abf5_v ⟨Nat.le_of_ble_eq_true rfl, Nat.le_of_ble_eq_true rfl⟩) (kz_preT hK hN hE hP hD hS hA 8 (by decide) [] (by decide) rfl) rfl rfl hl.1 rfl (lv_room (Nat.le_of_ble_eq_true rfl)) dX4_isWord_12 ⟨Nat.le_of_ble_eq_true rfl, Nat.le_of_ble_eq_true rfl⟩) hP hD hS hA (fun _ _ h9 => h9.2.symm) (fun r9 u9 H locs hw hp hd hs => ?_)
    obtain ⟨rfl, -⟩ := hw
    clear hP hD hS
    have hP := hp; have hD := hd; have hS := hs; clear hp hd hs
    refine kz_topi 3 (by decide +kernel) ?_
    obtain ⟨r1, q3, h2, h⟩ := dB_some h
    refine dw_ki (va_runV (As := [.ref (eo (1 + 8)), .int 0, .int 3]) (rest := []) ⟨hx, hb, hml, hown, hts⟩ (qX4_isSame_s24_t8 l D ty eo _ ad q 0 3 r1 q3 h2) (cwV 3 hts gX4_isWord_X4_isSame rfl rfl rfl hd_X4_isSame_v ⟨Nat.le_of_ble_eq_true rfl, Nat.le_of_ble_eq_true rfl⟩) (pvF_4_24 hK hN hE hP hD hS hA) rfl rfl hl.1 rfl (lv_room (Nat.le_of_ble_eq_true rfl)) dX4_isWord_15 ⟨Nat.le_of_ble_eq_true rfl, Nat.le_of_ble_eq_true rfl⟩) hD hS hA (fun r9 u9 H locs hw hp hd hs => ?_)
    clear hP hD hS
    obtain ⟨rfl, rfl⟩ := hw
    have hP := hp; have hD := hd; have hS := hs; clear hp hd hs
    refine lv_if_eq (tgt := 25) hx hb dX4_isWord_18 (by decide) (fun c9 => ?_) (fun c9 => ?_)
    · rw [if_pos c9] at h
      exact WX4_isWord_s24_t8_25 C  _ _ _ _ h hP hD hS (lv_sub hl [] rfl)
    · rw [if_neg c9] at h
      refine lv_iconst (v := 1) hx hb dX4_isWord_21 (by decide) ?_
      refine lv_goto (tgt := 26) hx hb dX4_isWord_22 (by decide) ?_
      exact WX4_isWord_s24_t8_26 C  _ _ _ _ _ h hP hD hS (lv_sub hl [] rfl)

set_option maxHeartbeats 4000000 in
set_option maxRecDepth 100000 in
theorem WX4_signIn_s24_t9_2b {p : Program} {l : Launch} {e : Env} {s : State} {m : MethodId} {args : Array Value} {below : List Frame} {meth : Method} {c : Code} {D : va_G} {ty : Nat → ClassId} {eo : Nat → Nat} {A : Nat → Prop} {ad : Nat → Nat} {o1 : Int32} {o2 : dK} (C : dc_C p s m args meth c cX4_signIn (some .int) 4 RX4 wsX4_signIn D ty eo A) {k2 : dK → Int32 → Int32 → Option (Int32 × dK)} (hk2 : ∀ (q : dK) (x2 : Int32) (x3 : Int32) (H : Heap) (locs : List Loc) (ls : Array Slot), k2 q x2 x3 = some (o1, o2) → va_P D vwCl (wF ty ad q) H → va_D A (wF ty ad q) → va_S A s.heap H locs → lv_has ls 4 [(0, .ref (ad 24)), (1, .ref (eo (1 + 9))), (2, .int x2), (3, .int x3)] → W p l e ({ frames := 4, cells := 0, slots := 0, locals := 85 } : Room) s m args below meth c H locs 0 0 (MQ below (va_Qi (fun (r : Int32) (u : va_W) => o1 = r ∧ wF ty ad o2 = u) (kz_B D ty A) A) args s 0 0 A) (F0 m 2 ls [])) (q : dK) (x2 : Int32) (x3 : Int32) (H : Heap) (locs : List Loc) (ls : Array Slot) (h : zX4_signIn_s24_t9_2b k2 q x2 x3 = some (o1, o2)) (hP : va_P D vwCl (wF ty ad q) H) (hD : va_D A (wF ty ad q)) (hS : va_S A s.heap H locs) (hl : lv_has ls 4 [(0, .ref (ad 24)), (1, .ref (eo (1 + 9))), (2, .int x2), (3, .int x3)]) : W p l e ({ frames := 4, cells := 0, slots := 0, locals := 85 } : Room) s m args below meth c H locs 0 0 (MQ below (va_Qi (fun (r : Int32) (u : va_W) => o1 = r ∧ wF ty ad o2 = u) (kz_B D ty A) A) args s 0 0 A) (F0 m 2 ls []) := by
  have C0 := C
  obtain ⟨hx, hb, hr, hts, hown, hlocks, hml, hK, hN, hE, hA⟩ := C
  unfold zX4_signIn_s24_t9_2b at h
  refine lv_iload_n hx hb dX4_signIn_2 rfl (lv_at hl 3 rfl) ?_
  refine lv_aload_n hx hb dX4_signIn_3 rfl (lv_at hl 1 rfl) ?_
  refine dw_ks (va_runV (As := []) (rest := [.int x3]) ⟨hx, hb, hml, hown, hts⟩ (kcJ0le l D ty eo _ 9 (by decide)) (cwV 0 hts gX4_signIn_J0_length_8abf5 rfl rfl rfl hd_J0_length_8abf5_v ⟨Nat.le_of_ble_eq_true rfl, Nat.le_of_ble_eq_true rfl⟩) (kz_preT hK hN hE hP hD hS hA 9 (by decide) [] (by decide) rfl) rfl rfl hl.1 rfl (lv_room (Nat.le_of_ble_eq_true rfl)) dX4_signIn_4 ⟨Nat.le_of_ble_eq_true rfl, Nat.le_of_ble_eq_true rfl⟩) hP hD hS hA (fun _ _ h9 => h9.2.symm) (fun r9 u9 H locs hw hp hd hs => ?_)
  obtain ⟨rfl, -⟩ := hw
  clear hP hD hS
  have hP := hp; have hD := hd; have hS := hs; clear hp hd hs
  refine kz_topi 3 (by decide +kernel) ?_
  refine lv_icmp_ge (tgt := 32) hx hb dX4_signIn_7 (by decide) (fun c9 => ?_) (fun c9 => ?_)
  · rw [if_pos c9] at h
    refine lv_iconst (v := (-1)) hx hb dX4_signIn_32 (by decide) ?_
    cases h
    exact kz_iret hx hb hr hlocks hP hK hD hS dX4_signIn_33 ⟨rfl, rfl⟩
  · rw [if_neg c9] at h
    refine lv_aload_n hx hb dX4_signIn_10 rfl (lv_at hl 0 rfl) ?_
    refine lv_aload_n hx hb dX4_signIn_11 rfl (lv_at hl 1 rfl) ?_
    refine lv_iload_n hx hb dX4_signIn_12 rfl (lv_at hl 3 rfl) ?_
    obtain ⟨g1, h⟩ := dG_some h
    refine dw_ks (va_runV (As := [.int x3]) (rest := [.ref (ad 24)]) ⟨hx, hb, hml, hown, hts⟩ (kcJ0ch l D ty eo _ 9 (by decide) x3 (dg_in g1)) (cwV 1 hts gX4_signIn_J0_charAt_5068e rfl rfl rfl hd_J0_charAt_5068e_v ⟨Nat.le_of_ble_eq_true rfl, Nat.le_of_ble_eq_true rfl⟩) (kz_preT hK hN hE hP hD hS hA 9 (by decide) [] (by decide) rfl) rfl rfl hl.1 rfl (lv_room (Nat.le_of_ble_eq_true rfl)) dX4_signIn_13 ⟨Nat.le_of_ble_eq_true rfl, Nat.le_of_ble_eq_true rfl⟩) hP hD hS hA (fun _ _ h9 => h9.2.symm) (fun r9 u9 H locs hw hp hd hs => ?_)
    obtain ⟨rfl, -⟩ := hw
    clear hP hD hS
    have hP := hp; have hD := hd; have hS := hs; clear hp hd hs
    obtain ⟨v2, ev2, h⟩ := dL_some h
    refine kz_topi v2 ev2 ?_
    obtain ⟨r3, q5, h4, h⟩ := dB_some h
    refine dw_ki (va_runV (As := [.int v2]) (rest := []) ⟨hx, hb, hml, hown, hts⟩ (qX4_isSign_s24 l D ty eo _ ad q v2 r3 q5 h4) (cwV 1 hts gX4_signIn_X4_isSign rfl rfl rfl hd_X4_isSign_v ⟨Nat.le_of_ble_eq_true rfl, Nat.le_of_ble_eq_true rfl⟩) (pvF_4_24 hK hN hE hP hD hS hA) rfl rfl hl.1 rfl (lv_room (Nat.le_of_ble_eq_true rfl)) dX4_signIn_16 ⟨Nat.le_of_ble_eq_true rfl, Nat.le_of_ble_eq_true rfl⟩) hD hS hA (fun r9 u9 H locs hw hp hd hs => ?_)
    clear hP hD hS
    obtain ⟨rfl, rfl⟩ := hw
    have hP := hp; have hD := hd; have hS := hs; clear hp hd hs
    refine lv_if_eq (tgt := 26) hx hb dX4_signIn_19 (by decide) (fun c9 => ?_) (fun c9 => ?_)
    · rw [if_pos c9] at h
      refine lv_iinc (v := x3 + 1) (lv' := [(3, .int (x3 + 1)), (0, .ref (ad 24)), (1, .ref (eo (1 + 9))), (2, .int x2)]) hx hb dX4_signIn_26 hl (k := 3) rfl rfl (by decide) rfl (fun ls hl => ?_)
      refine lv_goto (tgt := 2) hx hb dX4_signIn_29 (by decide) ?_
      exact hk2 _ _ _ _ _ _ h hP hD hS (lv_sub hl [1, 2, 3, 0] rfl)
    · rw [if_neg c9] at h
      refine lv_iload_n hx hb dX4_signIn_22 rfl (lv_at hl 2 rfl) ?_
      refine lv_iload_n hx hb dX4_signIn_23 rfl (lv_at hl 3 rfl) ?_
      refine lv_iadd hx hb dX4_signIn_24 ?_
      cases h
      exact kz_iret hx hb hr hlocks hP hK hD hS dX4_signIn_25 ⟨rfl, rfl⟩
set_option maxHeartbeats 4000000 in
set_option maxRecDepth 100000 in
theorem WX4_signIn_s24_t9_2 {p : Program} {l : Launch} {e : Env} {s : State} {m : MethodId} {args : Array Value} {below : List Frame} {meth : Method} {c : Code} {D : va_G} {ty : Nat → ClassId} {eo : Nat → Nat} {A : Nat → Prop} {ad : Nat → Nat} {o1 : Int32} {o2 : dK} (C : dc_C p s m args meth c cX4_signIn (some .int) 4 RX4 wsX4_signIn D ty eo A)   (n : Nat) (q : dK) (x2 : Int32) (x3 : Int32) (H : Heap) (locs : List Loc) (ls : Array Slot) (h : zX4_signIn_s24_t9_2  n q x2 x3 = some (o1, o2)) (hP : va_P D vwCl (wF ty ad q) H) (hD : va_D A (wF ty ad q)) (hS : va_S A s.heap H locs) (hl : lv_has ls 4 [(0, .ref (ad 24)), (1, .ref (eo (1 + 9))), (2, .int x2), (3, .int x3)]) : W p l e ({ frames := 4, cells := 0, slots := 0, locals := 85 } : Room) s m args below meth c H locs 0 0 (MQ below (va_Qi (fun (r : Int32) (u : va_W) => o1 = r ∧ wF ty ad o2 = u) (kz_B D ty A) A) args s 0 0 A) (F0 m 2 ls []) := by
  exact dFix_W (F := fun k (a : dK × Int32 × Int32) => zX4_signIn_s24_t9_2b  (fun q x2 x3 => k (q, x2, x3)) a.1 a.2.1 a.2.2) (o := (o1, o2)) (P := fun (a : dK × Int32 × Int32) H locs ls => va_P D vwCl (wF ty ad a.1) H ∧ va_D A (wF ty ad a.1) ∧ va_S A s.heap H locs ∧ lv_has ls 4 [(0, .ref (ad 24)), (1, .ref (eo (1 + 9))), (2, .int a.2.1), (3, .int a.2.2)]) (G := fun H locs ls => W p l e ({ frames := 4, cells := 0, slots := 0, locals := 85 } : Room) s m args below meth c H locs 0 0 (MQ below (va_Qi (fun (r : Int32) (u : va_W) => o1 = r ∧ wF ty ad o2 = u) (kz_B D ty A) A) args s 0 0 A) (F0 m 2 ls []))
    (fun k hk a H locs ls h hp => WX4_signIn_s24_t9_2b C  (fun q x2 x3 H locs ls h h1 h2 h3 h4 => hk (q, x2, x3) H locs ls h ⟨h1, h2, h3, h4⟩) a.1 a.2.1 a.2.2 H locs ls h hp.1 hp.2.1 hp.2.2.1 hp.2.2.2) n (q, x2, x3) H locs ls h ⟨hP, hD, hS, hl⟩
set_option maxHeartbeats 4000000 in
set_option maxRecDepth 100000 in
theorem qX4_signIn_s24_t9 (l : Launch) (D : va_G) (ty : Nat → ClassId) (eo : Nat → Nat) (sz : Nat) (ad : Nat → Nat) (q : dK) (p2 : Int32) (o1 : Int32) (o2 : dK) (h : zX4_signIn_s24_t9 q p2 = some (o1, o2)) : Met l yX4_signIn wsX4_signIn ({ frames := 4, cells := 0, slots := 0, locals := 85 } : Room) (va_Pc [.ref (ad 24), .ref (eo (1 + 9)), .int p2] (kz_pre D ty eo (wF ty ad q) sz)) (va_Qi (fun (r : Int32) (u : va_W) => o1 = r ∧ wF ty ad o2 = u) (kz_B D ty (va_A (wF ty ad q) sz)) (va_A (wF ty ad q) sz)) 0 0 (va_A (wF ty ad q) sz) := by
  refine Met.ofW (cc := cX4_signIn) (maxL := 4) (ret := (some .int)) (by decide) rfl ?_
  intro p e s m args below meth c s₁ B hml hv
  obtain ⟨rfl, hsz, hP, hK, hD0, hN, hE⟩ := hv
  have hx := B.exec
  have hb := B.bytes
  have hr := B.returns
  have hts := atoms_spec (ws := wsX4_signIn) B.pre
  have hown : s.vm.findClass RX4 = some m.cls := findClass_of_methodNamed B.named
  have hlocks := B.notSynchronized
  subst hsz
  have hD := hD0.self (sz := s.heap.size)
  generalize hAe : va_A (wF ty ad q) s.heap.size = A at hD hE ⊢
  have hA : ∀ q : Nat, s.heap.size ≤ q → A q := fun q h => by rw [← hAe]; exact Or.inr h
  clear hAe
  have hS : va_S A s.heap s.heap [] := va_S.rf
  have hl := lv_entry ([.ref (ad 24), .ref (eo (1 + 9)), .int p2]) (n := 4) (Nat.le_of_ble_eq_true rfl)
  rw [lg_entry_eq]
  generalize (lg_sl ([.ref (ad 24), .ref (eo (1 + 9)), .int p2]) ++ List.replicate (4 - (lg_sl ([.ref (ad 24), .ref (eo (1 + 9)), .int p2])).length) Slot.unset).toArray = ls at hl ⊢
  have hl : lv_has ls 4 [(0, .ref (ad 24)), (1, .ref (eo (1 + 9))), (2, .int p2)] := hl
  have C : dc_C p s m _ meth c cX4_signIn (some .int) 4 RX4 wsX4_signIn D ty eo A := ⟨hx, hb, hr, hts, hown, hlocks, hml, hK, hN, hE, hA⟩
  unfold zX4_signIn_s24_t9 at h
  refine lv_iconst (v := 0) hx hb dX4_signIn_0 (by decide) ?_
  refine lv_istore_n (lv' := [(3, .int 0), (0, .ref (ad 24)), (1, .ref (eo (1 + 9))), (2, .int p2)]) hx hb dX4_signIn_1 rfl hl (by decide) rfl (fun ls hl => ?_)
  exact WX4_signIn_s24_t9_2 C  _ _ _ _ _ _ _ h hP hD hS (lv_sub hl [1, 2, 3, 0] rfl)

set_option maxHeartbeats 4000000 in
set_option maxRecDepth 100000 in
theorem WX4_readPlain_s24_142 {p : Program} {l : Launch} {e : Env} {s : State} {m : MethodId} {args : Array Value} {below : List Frame} {meth : Method} {c : Code} {D : va_G} {ty : Nat → ClassId} {eo : Nat → Nat} {A : Nat → Prop} {ad : Nat → Nat} {o2 : dK} {kT : dK → Option (dK)} {nT : Nat} (hkT : ∀ (sz : Nat) (q : dK)  (o2 : dK), kT q  = some o2 → Met l yX4_readTest wsX4_readTest ({ frames := 44 + 3 * nT, cells := 0, slots := 0, locals := 1130 + 66 * nT } : Room) (va_Pc [.ref (ad 24)] (kz_pre D ty eo (wF ty ad q) sz)) (va_Qv (fun (u : va_W) => wF ty ad o2 = u) (kz_B D ty (va_A (wF ty ad q) sz)) (va_A (wF ty ad q) sz)) 0 0 (va_A (wF ty ad q) sz)) (C : dc_C p s m args meth c cX4_readPlain none 3 RX4 wsX4_readPlain D ty eo A)   (q : dK)  (H : Heap) (locs : List Loc) (ls : Array Slot) (h : zX4_readPlain_s24_142 kT  q = some o2) (hP : va_P D vwCl (wF ty ad q) H) (hD : va_D A (wF ty ad q)) (hS : va_S A s.heap H locs) (hl : lv_has ls 3 []) : W p l e ({ frames := 44 + 3 * nT + 1, cells := 0, slots := 0, locals := 1130 + 66 * nT + 22 } : Room) s m args below meth c H locs 0 0 (MQ below (va_Qv (fun (u : va_W) => wF ty ad o2 = u) (kz_B D ty A) A) args s 0 0 A) (F0 m 142 ls []) := by
  have C0 := C
  obtain ⟨hx, hb, hr, hts, hown, hlocks, hml, hK, hN, hE, hA⟩ := C
  unfold zX4_readPlain_s24_142 at h
  cases h
  exact kz_vret hx hb hr hlocks hP hK hD hS dX4_readPlain_142 rfl
set_option maxHeartbeats 4000000 in
set_option maxRecDepth 100000 in
theorem WX4_readPlain_s24_128 {p : Program} {l : Launch} {e : Env} {s : State} {m : MethodId} {args : Array Value} {below : List Frame} {meth : Method} {c : Code} {D : va_G} {ty : Nat → ClassId} {eo : Nat → Nat} {A : Nat → Prop} {ad : Nat → Nat} {o2 : dK} {kT : dK → Option (dK)} {nT : Nat} (hkT : ∀ (sz : Nat) (q : dK)  (o2 : dK), kT q  = some o2 → Met l yX4_readTest wsX4_readTest ({ frames := 44 + 3 * nT, cells := 0, slots := 0, locals := 1130 + 66 * nT } : Room) (va_Pc [.ref (ad 24)] (kz_pre D ty eo (wF ty ad q) sz)) (va_Qv (fun (u : va_W) => wF ty ad o2 = u) (kz_B D ty (va_A (wF ty ad q) sz)) (va_A (wF ty ad q) sz)) 0 0 (va_A (wF ty ad q) sz)) (C : dc_C p s m args meth c cX4_readPlain none 3 RX4 wsX4_readPlain D ty eo A)   (q : dK) (x1 : Int32) (H : Heap) (locs : List Loc) (ls : Array Slot) (h : zX4_readPlain_s24_128 kT  q x1 = some o2) (hP : va_P D vwCl (wF ty ad q) H) (hD : va_D A (wF ty ad q)) (hS : va_S A s.heap H locs) (hl : lv_has ls 3 [(0, .ref (ad 24)), (1, .int x1)]) : W p l e ({ frames := 44 + 3 * nT + 1, cells := 0, slots := 0, locals := 1130 + 66 * nT + 22 } : Room) s m args below meth c H locs 0 0 (MQ below (va_Qv (fun (u : va_W) => wF ty ad o2 = u) (kz_B D ty A) A) args s 0 0 A) (F0 m 128 ls []) := by
  have C0 := C
  obtain ⟨hx, hb, hr, hts, hown, hlocks, hml, hK, hN, hE, hA⟩ := C
  unfold zX4_readPlain_s24_128 at h
  refine lv_iload_n hx hb dX4_readPlain_128 rfl (lv_at hl 1 rfl) ?_
  refine lv_if_eq (tgt := 142) hx hb dX4_readPlain_129 (by decide) (fun c9 => ?_) (fun c9 => ?_)
  · rw [if_pos c9] at h
    exact WX4_readPlain_s24_142 hkT C0  _ _ _ _ h hP hD hS (lv_sub hl [] rfl)
  · rw [if_neg c9] at h
    refine lv_aload_n hx hb dX4_readPlain_132 rfl (lv_at hl 0 rfl) ?_
    refine va_get (D := D) (ci := 4) (v := dN (ad 25) (q.1 24 3)) (C := RX4) (T := TX4) (N := 11) hx hb hts u9_wsX4_readPlain_X4 hown hK hP 24 rfl rfl 3 (by decide) (hts (.fieldLink RX4 23 "TurnedFloors$Reader" "text" "LTurnedFloors$Text;") f9_wsX4_readPlain_533) (fun _ h9 => h9) rfl dX4_readPlain_133 ?_
    obtain ⟨g1, h⟩ := dG_some h
    refine kz_topv (if_neg (dnz_ne g1)) ?_
    refine lv_bipush (v := 10) hx hb dX4_readPlain_136 (by decide) ?_
    refine lv_iconst (v := 0) hx hb dX4_readPlain_138 (by decide) ?_
    obtain ⟨q4, h3, h⟩ := dV_some h
    refine dw_kv (va_runV (As := [.int 10, .int 0]) (rest := []) ⟨hx, hb, hml, hown, hts⟩ (qX7_emit_s25 l D ty eo _ ad q 10 0 q4 h3) (cwV 2 hts gX4_readPlain_X7_emit rfl rfl rfl hd_X7_emit_v ⟨by dsimp only [headSpec]; omega, by dsimp only [headSpec]; omega⟩) (pvF_7_25 hK hN hE hP hD hS hA) rfl rfl hl.1 rfl (lv_room (Nat.le_of_ble_eq_true rfl)) dX4_readPlain_139 ⟨Nat.le_of_ble_eq_true rfl, Nat.le_of_ble_eq_true rfl⟩) hD hS hA (fun u9 H locs hw hp hd hs => ?_)
    clear hP hD hS
    obtain rfl := hw
    have hP := hp; have hD := hd; have hS := hs; clear hp hd hs
    exact WX4_readPlain_s24_142 hkT C0  _ _ _ _ h hP hD hS (lv_sub hl [] rfl)
set_option maxHeartbeats 4000000 in
set_option maxRecDepth 100000 in
theorem WX4_readPlain_s24_106 {p : Program} {l : Launch} {e : Env} {s : State} {m : MethodId} {args : Array Value} {below : List Frame} {meth : Method} {c : Code} {D : va_G} {ty : Nat → ClassId} {eo : Nat → Nat} {A : Nat → Prop} {ad : Nat → Nat} {o2 : dK} {kT : dK → Option (dK)} {nT : Nat} (hkT : ∀ (sz : Nat) (q : dK)  (o2 : dK), kT q  = some o2 → Met l yX4_readTest wsX4_readTest ({ frames := 44 + 3 * nT, cells := 0, slots := 0, locals := 1130 + 66 * nT } : Room) (va_Pc [.ref (ad 24)] (kz_pre D ty eo (wF ty ad q) sz)) (va_Qv (fun (u : va_W) => wF ty ad o2 = u) (kz_B D ty (va_A (wF ty ad q) sz)) (va_A (wF ty ad q) sz)) 0 0 (va_A (wF ty ad q) sz)) (C : dc_C p s m args meth c cX4_readPlain none 3 RX4 wsX4_readPlain D ty eo A)   (q : dK)  (H : Heap) (locs : List Loc) (ls : Array Slot) (h : zX4_readPlain_s24_106 kT  q = some o2) (hP : va_P D vwCl (wF ty ad q) H) (hD : va_D A (wF ty ad q)) (hS : va_S A s.heap H locs) (hl : lv_has ls 3 [(0, .ref (ad 24))]) : W p l e ({ frames := 44 + 3 * nT + 1, cells := 0, slots := 0, locals := 1130 + 66 * nT + 22 } : Room) s m args below meth c H locs 0 0 (MQ below (va_Qv (fun (u : va_W) => wF ty ad o2 = u) (kz_B D ty A) A) args s 0 0 A) (F0 m 106 ls []) := by
  have C0 := C
  obtain ⟨hx, hb, hr, hts, hown, hlocks, hml, hK, hN, hE, hA⟩ := C
  unfold zX4_readPlain_s24_106 at h
  refine lv_aload_n hx hb dX4_readPlain_106 rfl (lv_at hl 0 rfl) ?_
  obtain ⟨q3, h2, h⟩ := dV_some h
  refine dw_kv (va_runV (As := []) (rest := []) ⟨hx, hb, hml, hown, hts⟩ (qX4_fail_s24 l D ty eo _ ad q  q3 h2) (cwV 0 hts gX4_readPlain_X4_fail rfl rfl rfl hd_X4_fail_v ⟨by dsimp only [headSpec]; omega, by dsimp only [headSpec]; omega⟩) (pvF_4_24 hK hN hE hP hD hS hA) rfl rfl hl.1 rfl (lv_room (Nat.le_of_ble_eq_true rfl)) dX4_readPlain_107 ⟨Nat.le_of_ble_eq_true rfl, Nat.le_of_ble_eq_true rfl⟩) hD hS hA (fun u9 H locs hw hp hd hs => ?_)
  clear hP hD hS
  obtain rfl := hw
  have hP := hp; have hD := hd; have hS := hs; clear hp hd hs
  cases h
  exact kz_vret hx hb hr hlocks hP hK hD hS dX4_readPlain_110 rfl
set_option maxHeartbeats 4000000 in
set_option maxRecDepth 100000 in
theorem WX4_readPlain_s24_41 {p : Program} {l : Launch} {e : Env} {s : State} {m : MethodId} {args : Array Value} {below : List Frame} {meth : Method} {c : Code} {D : va_G} {ty : Nat → ClassId} {eo : Nat → Nat} {A : Nat → Prop} {ad : Nat → Nat} {o2 : dK} {kT : dK → Option (dK)} {nT : Nat} (hkT : ∀ (sz : Nat) (q : dK)  (o2 : dK), kT q  = some o2 → Met l yX4_readTest wsX4_readTest ({ frames := 44 + 3 * nT, cells := 0, slots := 0, locals := 1130 + 66 * nT } : Room) (va_Pc [.ref (ad 24)] (kz_pre D ty eo (wF ty ad q) sz)) (va_Qv (fun (u : va_W) => wF ty ad o2 = u) (kz_B D ty (va_A (wF ty ad q) sz)) (va_A (wF ty ad q) sz)) 0 0 (va_A (wF ty ad q) sz)) (C : dc_C p s m args meth c cX4_readPlain none 3 RX4 wsX4_readPlain D ty eo A)   (q : dK) (x1 : Int32) (H : Heap) (locs : List Loc) (ls : Array Slot) (h : zX4_readPlain_s24_41 kT  q x1 = some o2) (hP : va_P D vwCl (wF ty ad q) H) (hD : va_D A (wF ty ad q)) (hS : va_S A s.heap H locs) (hl : lv_has ls 3 [(0, .ref (ad 24)), (1, .int x1)]) : W p l e ({ frames := 44 + 3 * nT + 1, cells := 0, slots := 0, locals := 1130 + 66 * nT + 22 } : Room) s m args below meth c H locs 0 0 (MQ below (va_Qv (fun (u : va_W) => wF ty ad o2 = u) (kz_B D ty A) A) args s 0 0 A) (F0 m 41 ls []) := by
  have C0 := C
  obtain ⟨hx, hb, hr, hts, hown, hlocks, hml, hK, hN, hE, hA⟩ := C
  unfold zX4_readPlain_s24_41 at h
  refine lv_aload_n hx hb dX4_readPlain_41 rfl (lv_at hl 0 rfl) ?_
  refine lv_bipush (v := 40) hx hb dX4_readPlain_42 (by decide) ?_
  obtain ⟨r1, q3, h2, h⟩ := dB_some h
  refine dw_ki (va_runV (As := [.int 40]) (rest := []) ⟨hx, hb, hml, hown, hts⟩ (qX4_isSign_s24 l D ty eo _ ad q 40 r1 q3 h2) (cwV 1 hts gX4_readPlain_X4_isSign rfl rfl rfl hd_X4_isSign_v ⟨by dsimp only [headSpec]; omega, by dsimp only [headSpec]; omega⟩) (pvF_4_24 hK hN hE hP hD hS hA) rfl rfl hl.1 rfl (lv_room (Nat.le_of_ble_eq_true rfl)) dX4_readPlain_44 ⟨Nat.le_of_ble_eq_true rfl, Nat.le_of_ble_eq_true rfl⟩) hD hS hA (fun r9 u9 H locs hw hp hd hs => ?_)
  clear hP hD hS
  obtain ⟨rfl, rfl⟩ := hw
  have hP := hp; have hD := hd; have hS := hs; clear hp hd hs
  refine lv_if_eq (tgt := 80) hx hb dX4_readPlain_47 (by decide) (fun c9 => ?_) (fun c9 => ?_)
  · rw [if_pos c9] at h
    refine lv_aload_n hx hb dX4_readPlain_80 rfl (lv_at hl 0 rfl) ?_
    obtain ⟨q6, h5, h⟩ := dV_some h
    refine dw_kv (va_runV (As := []) (rest := []) ⟨hx, hb, hml, hown, hts⟩ (qX4_readSum_s24 l D ty eo _ ad 10 q3  q6 h5) (cwV 0 hts gX4_readPlain_X4_readSum rfl rfl rfl hd_X4_readSum_v ⟨by dsimp only [headSpec]; omega, by dsimp only [headSpec]; omega⟩) (pvF_4_24 hK hN hE hP hD hS hA) rfl rfl hl.1 rfl (lv_room (Nat.le_of_ble_eq_true rfl)) dX4_readPlain_81 ⟨Nat.le_of_ble_eq_true rfl, Nat.le_of_ble_eq_true rfl⟩) hD hS hA (fun u9 H locs hw hp hd hs => ?_)
    clear hP hD hS
    obtain rfl := hw
    have hP := hp; have hD := hd; have hS := hs; clear hp hd hs
    refine lv_aload_n hx hb dX4_readPlain_84 rfl (lv_at hl 0 rfl) ?_
    refine va_ldcS hx hb hown (hE.2.2.2.2.1 9 (by decide)) dX4_readPlain_85 ?_
    refine lv_bipush (v := 7) hx hb dX4_readPlain_87 (by decide) ?_
    obtain ⟨r7, q9, h8, h⟩ := dB_some h
    refine dw_ki (va_runV (As := [.ref (eo (1 + 9)), .int 7]) (rest := []) ⟨hx, hb, hml, hown, hts⟩ (qX4_signIn_s24_t9 l D ty eo _ ad q6 7 r7 q9 h8) (cwV 2 hts gX4_readPlain_X4_signIn rfl rfl rfl hd_X4_signIn_v ⟨by dsimp only [headSpec]; omega, by dsimp only [headSpec]; omega⟩) (pvF_4_24 hK hN hE hP hD hS hA) rfl rfl hl.1 rfl (lv_room (Nat.le_of_ble_eq_true rfl)) dX4_readPlain_89 ⟨Nat.le_of_ble_eq_true rfl, Nat.le_of_ble_eq_true rfl⟩) hD hS hA (fun r9 u9 H locs hw hp hd hs => ?_)
    clear hP hD hS
    obtain ⟨rfl, rfl⟩ := hw
    have hP := hp; have hD := hd; have hS := hs; clear hp hd hs
    refine lv_istore_n (lv' := [(2, .int r7), (0, .ref (ad 24)), (1, .int x1)]) hx hb dX4_readPlain_92 rfl hl (by decide) rfl (fun ls hl => ?_)
    refine lv_aload_n hx hb dX4_readPlain_93 rfl (lv_at hl 1 rfl) ?_
    refine va_get (D := D) (ci := 4) (v := .int (q9.1 24 10)) (C := RX4) (T := TX4) (N := 11) hx hb hts u9_wsX4_readPlain_X4 hown hK hP 24 rfl rfl 10 (by decide) (hts (.fieldLink RX4 45 "TurnedFloors$Reader" "faultAt" "I") f9_wsX4_readPlain_534) (fun _ h9 => h9) rfl dX4_readPlain_94 ?_
    refine lv_iconst (v := (-1)) hx hb dX4_readPlain_97 (by decide) ?_
    refine lv_icmp_ne (tgt := 106) hx hb dX4_readPlain_98 (by decide) (fun c9 => ?_) (fun c9 => ?_)
    · rw [if_neg c9] at h
      exact WX4_readPlain_s24_106 hkT C0  _ _ _ _ h hP hD hS (lv_sub hl [1] rfl)
    · rw [if_pos c9] at h
      refine lv_iload_n hx hb dX4_readPlain_101 rfl (lv_at hl 0 rfl) ?_
      refine lv_iconst (v := (-1)) hx hb dX4_readPlain_102 (by decide) ?_
      refine lv_icmp_ne (tgt := 111) hx hb dX4_readPlain_103 (by decide) (fun c9 => ?_) (fun c9 => ?_)
      · rw [if_neg c9] at h
        refine lv_aload_n hx hb dX4_readPlain_111 rfl (lv_at hl 1 rfl) ?_
        obtain ⟨q12, h11, h⟩ := dV_some h
        refine dw_kv (va_runV (As := []) (rest := []) ⟨hx, hb, hml, hown, hts⟩ (qX4_step_s24 l D ty eo _ ad q9  q12 h11) (cwV 0 hts gX4_readPlain_X4_step rfl rfl rfl hd_X4_step_v ⟨by dsimp only [headSpec]; omega, by dsimp only [headSpec]; omega⟩) (pvF_4_24 hK hN hE hP hD hS hA) rfl rfl hl.1 rfl (lv_room (Nat.le_of_ble_eq_true rfl)) dX4_readPlain_112 ⟨Nat.le_of_ble_eq_true rfl, Nat.le_of_ble_eq_true rfl⟩) hD hS hA (fun u9 H locs hw hp hd hs => ?_)
        clear hP hD hS
        obtain rfl := hw
        have hP := hp; have hD := hd; have hS := hs; clear hp hd hs
        refine lv_aload_n hx hb dX4_readPlain_115 rfl (lv_at hl 1 rfl) ?_
        obtain ⟨q15, h14, h⟩ := dV_some h
        refine dw_kv (va_runV (As := []) (rest := []) ⟨hx, hb, hml, hown, hts⟩ (qX4_readSum_s24 l D ty eo _ ad 10 q12  q15 h14) (cwV 0 hts gX4_readPlain_X4_readSum rfl rfl rfl hd_X4_readSum_v ⟨by dsimp only [headSpec]; omega, by dsimp only [headSpec]; omega⟩) (pvF_4_24 hK hN hE hP hD hS hA) rfl rfl hl.1 rfl (lv_room (Nat.le_of_ble_eq_true rfl)) dX4_readPlain_116 ⟨Nat.le_of_ble_eq_true rfl, Nat.le_of_ble_eq_true rfl⟩) hD hS hA (fun u9 H locs hw hp hd hs => ?_)
        clear hP hD hS
        obtain rfl := hw
        have hP := hp; have hD := hd; have hS := hs; clear hp hd hs
        refine lv_aload_n hx hb dX4_readPlain_119 rfl (lv_at hl 1 rfl) ?_
        refine va_get (D := D) (ci := 4) (v := dN (ad 25) (q15.1 24 3)) (C := RX4) (T := TX4) (N := 11) hx hb hts u9_wsX4_readPlain_X4 hown hK hP 24 rfl rfl 3 (by decide) (hts (.fieldLink RX4 23 "TurnedFloors$Reader" "text" "LTurnedFloors$Text;") f9_wsX4_readPlain_533) (fun _ h9 => h9) rfl dX4_readPlain_120 ?_
        obtain ⟨g16, h⟩ := dG_some h
        refine kz_topv (if_neg (dnz_ne g16)) ?_
        refine lv_iload_n hx hb dX4_readPlain_123 rfl (lv_at hl 0 rfl) ?_
        refine lv_iconst (v := 0) hx hb dX4_readPlain_124 (by decide) ?_
        obtain ⟨q19, h18, h⟩ := dV_some h
        refine dw_kv (va_runV (As := [.int r7, .int 0]) (rest := []) ⟨hx, hb, hml, hown, hts⟩ (qX7_emit_s25 l D ty eo _ ad q15 r7 0 q19 h18) (cwV 2 hts gX4_readPlain_X7_emit rfl rfl rfl hd_X7_emit_v ⟨by dsimp only [headSpec]; omega, by dsimp only [headSpec]; omega⟩) (pvF_7_25 hK hN hE hP hD hS hA) rfl rfl hl.1 rfl (lv_room (Nat.le_of_ble_eq_true rfl)) dX4_readPlain_125 ⟨Nat.le_of_ble_eq_true rfl, Nat.le_of_ble_eq_true rfl⟩) hD hS hA (fun u9 H locs hw hp hd hs => ?_)
        clear hP hD hS
        obtain rfl := hw
        have hP := hp; have hD := hd; have hS := hs; clear hp hd hs
        exact WX4_readPlain_s24_128 hkT C0  _ _ _ _ _ h hP hD hS (lv_sub hl [1, 2] rfl)
      · rw [if_pos c9] at h
        exact WX4_readPlain_s24_106 hkT C0  _ _ _ _ h hP hD hS (lv_sub hl [1] rfl)
  · rw [if_neg c9] at h
    refine lv_aload_n hx hb dX4_readPlain_50 rfl (lv_at hl 0 rfl) ?_
    obtain ⟨r20, q22, h21, h⟩ := dB_some h
    refine dw_ki (va_runV (As := []) (rest := []) ⟨hx, hb, hml, hown, hts⟩ (qX4_openBracket_s24 l D ty eo _ ad q3  r20 q22 h21) (cwV 0 hts gX4_readPlain_X4_openBracket rfl rfl rfl hd_X4_openBracket_v ⟨by dsimp only [headSpec]; omega, by dsimp only [headSpec]; omega⟩) (pvF_4_24 hK hN hE hP hD hS hA) rfl rfl hl.1 rfl (lv_room (Nat.le_of_ble_eq_true rfl)) dX4_readPlain_51 ⟨Nat.le_of_ble_eq_true rfl, Nat.le_of_ble_eq_true rfl⟩) hD hS hA (fun r9 u9 H locs hw hp hd hs => ?_)
    clear hP hD hS
    obtain ⟨rfl, rfl⟩ := hw
    have hP := hp; have hD := hd; have hS := hs; clear hp hd hs
    refine lv_if_eq (tgt := 128) hx hb dX4_readPlain_54 (by decide) (fun c9 => ?_) (fun c9 => ?_)
    · rw [if_pos c9] at h
      exact WX4_readPlain_s24_128 hkT C0  _ _ _ _ _ h hP hD hS (lv_sub hl [0, 1] rfl)
    · rw [if_neg c9] at h
      refine lv_aload_n hx hb dX4_readPlain_57 rfl (lv_at hl 0 rfl) ?_
      obtain ⟨q25, h24, h⟩ := dV_some h
      refine dw_kv (va_runV (As := []) (rest := []) ⟨hx, hb, hml, hown, hts⟩ (hkT _ q22  q25 h24) (cwV 0 hts gX4_readPlain_X4_readTest rfl rfl rfl hd_X4_readTest_v ⟨by dsimp only [headSpec]; omega, by dsimp only [headSpec]; omega⟩) (pvF_4_24 hK hN hE hP hD hS hA) rfl rfl hl.1 rfl (lv_room (Nat.le_of_ble_eq_true rfl)) dX4_readPlain_58 ⟨Nat.le_of_ble_eq_true rfl, Nat.le_of_ble_eq_true rfl⟩) hD hS hA (fun u9 H locs hw hp hd hs => ?_)
      clear hP hD hS
      obtain rfl := hw
      have hP := hp; have hD := hd; have hS := hs; clear hp hd hs
      refine lv_aload_n hx hb dX4_readPlain_61 rfl (lv_at hl 0 rfl) ?_
      refine lv_dup hx hb dX4_readPlain_62 rfl ?_
      refine va_get (D := D) (ci := 4) (v := .int (q25.1 24 9)) (C := RX4) (T := TX4) (N := 11) hx hb hts u9_wsX4_readPlain_X4 hown hK hP 24 rfl rfl 9 (by decide) (hts (.fieldLink RX4 42 "TurnedFloors$Reader" "open" "I") f9_wsX4_readPlain_535) (fun _ h9 => h9) rfl dX4_readPlain_63 ?_
      refine lv_iconst (v := 1) hx hb dX4_readPlain_66 (by decide) ?_
      refine lv_isub hx hb dX4_readPlain_67 ?_
      refine va_put (D := D) (ci := 4) (v := .int ((q25.1 24 9) - 1 : Int32)) (ty := .int) (C := RX4) (T := TX4) (N := 11) hx hb hts u9_wsX4_readPlain_X4 tyX4 tyX4_ok nmX4 hown hK hP hD hS 24 rfl rfl 9 (by decide) (hts (.fieldLink RX4 42 "TurnedFloors$Reader" "open" "I") f9_wsX4_readPlain_535) (fun _ h9 => h9) rfl (by decide +kernel) rfl rfl (Nat.le_of_ble_eq_true rfl) dX4_readPlain_68 (fun H locs hp hd hs => ?_)
      obtain ⟨q26, eq26, h⟩ := dL_some h
      refine kz_re (w2 := wF ty ad q26) hp hd hs (by rw [← eq26]; exact wF_f24_9 ty ad q25 ((q25.1 24 9) - 1 : Int32)) ?_
      clear hp hd hs hP hD hS
      intro hP hD hS
      refine lv_aload_n hx hb dX4_readPlain_71 rfl (lv_at hl 0 rfl) ?_
      refine lv_bipush (v := 41) hx hb dX4_readPlain_72 (by decide) ?_
      obtain ⟨q29, h28, h⟩ := dV_some h
      refine dw_kv (va_runV (As := [.int 41]) (rest := []) ⟨hx, hb, hml, hown, hts⟩ (qX4_expectSign_s24 l D ty eo _ ad q26 41 q29 h28) (cwV 1 hts gX4_readPlain_X4_expectSign rfl rfl rfl hd_X4_expectSign_v ⟨by dsimp only [headSpec]; omega, by dsimp only [headSpec]; omega⟩) (pvF_4_24 hK hN hE hP hD hS hA) rfl rfl hl.1 rfl (lv_room (Nat.le_of_ble_eq_true rfl)) dX4_readPlain_74 ⟨Nat.le_of_ble_eq_true rfl, Nat.le_of_ble_eq_true rfl⟩) hD hS hA (fun u9 H locs hw hp hd hs => ?_)
      clear hP hD hS
      obtain rfl := hw
      have hP := hp; have hD := hd; have hS := hs; clear hp hd hs
      refine lv_goto (tgt := 128) hx hb dX4_readPlain_77 (by decide) ?_
      exact WX4_readPlain_s24_128 hkT C0  _ _ _ _ _ h hP hD hS (lv_sub hl [0, 1] rfl)
set_option maxHeartbeats 4000000 in
set_option maxRecDepth 100000 in
theorem WX4_readPlain_s24_30 {p : Program} {l : Launch} {e : Env} {s : State} {m : MethodId} {args : Array Value} {below : List Frame} {meth : Method} {c : Code} {D : va_G} {ty : Nat → ClassId} {eo : Nat → Nat} {A : Nat → Prop} {ad : Nat → Nat} {o2 : dK} {kT : dK → Option (dK)} {nT : Nat} (hkT : ∀ (sz : Nat) (q : dK)  (o2 : dK), kT q  = some o2 → Met l yX4_readTest wsX4_readTest ({ frames := 44 + 3 * nT, cells := 0, slots := 0, locals := 1130 + 66 * nT } : Room) (va_Pc [.ref (ad 24)] (kz_pre D ty eo (wF ty ad q) sz)) (va_Qv (fun (u : va_W) => wF ty ad o2 = u) (kz_B D ty (va_A (wF ty ad q) sz)) (va_A (wF ty ad q) sz)) 0 0 (va_A (wF ty ad q) sz)) (C : dc_C p s m args meth c cX4_readPlain none 3 RX4 wsX4_readPlain D ty eo A) {k4 : dK → Int32 → Int32 → Option (dK)} (hk4 : ∀ (q : dK) (x1 : Int32) (x2 : Int32) (H : Heap) (locs : List Loc) (ls : Array Slot), k4 q x1 x2 = some o2 → va_P D vwCl (wF ty ad q) H → va_D A (wF ty ad q) → va_S A s.heap H locs → lv_has ls 3 [(0, .ref (ad 24)), (1, .int x1), (2, .int x2)] → W p l e ({ frames := 44 + 3 * nT + 1, cells := 0, slots := 0, locals := 1130 + 66 * nT + 22 } : Room) s m args below meth c H locs 0 0 (MQ below (va_Qv (fun (u : va_W) => wF ty ad o2 = u) (kz_B D ty A) A) args s 0 0 A) (F0 m 4 ls [])) (q : dK) (x2 : Int32) (y0 : Int32) (H : Heap) (locs : List Loc) (ls : Array Slot) (h : zX4_readPlain_s24_30 kT k4 q x2 y0 = some o2) (hP : va_P D vwCl (wF ty ad q) H) (hD : va_D A (wF ty ad q)) (hS : va_S A s.heap H locs) (hl : lv_has ls 3 [(0, .ref (ad 24)), (2, .int x2)]) : W p l e ({ frames := 44 + 3 * nT + 1, cells := 0, slots := 0, locals := 1130 + 66 * nT + 22 } : Room) s m args below meth c H locs 0 0 (MQ below (va_Qv (fun (u : va_W) => wF ty ad o2 = u) (kz_B D ty A) A) args s 0 0 A) (F0 m 30 ls [.int y0]) := by
  have C0 := C
  obtain ⟨hx, hb, hr, hts, hown, hlocks, hml, hK, hN, hE, hA⟩ := C
  unfold zX4_readPlain_s24_30 at h
  refine lv_istore_n (lv' := [(1, .int y0), (0, .ref (ad 24)), (2, .int x2)]) hx hb dX4_readPlain_30 rfl hl (by decide) rfl (fun ls hl => ?_)
  refine lv_aload_n hx hb dX4_readPlain_31 rfl (lv_at hl 1 rfl) ?_
  obtain ⟨q3, h2, h⟩ := dV_some h
  refine dw_kv (va_runV (As := []) (rest := []) ⟨hx, hb, hml, hown, hts⟩ (qX4_step_s24 l D ty eo _ ad q  q3 h2) (cwV 0 hts gX4_readPlain_X4_step rfl rfl rfl hd_X4_step_v ⟨by dsimp only [headSpec]; omega, by dsimp only [headSpec]; omega⟩) (pvF_4_24 hK hN hE hP hD hS hA) rfl rfl hl.1 rfl (lv_room (Nat.le_of_ble_eq_true rfl)) dX4_readPlain_32 ⟨Nat.le_of_ble_eq_true rfl, Nat.le_of_ble_eq_true rfl⟩) hD hS hA (fun u9 H locs hw hp hd hs => ?_)
  clear hP hD hS
  obtain rfl := hw
  have hP := hp; have hD := hd; have hS := hs; clear hp hd hs
  refine lv_iinc (v := x2 + 1) (lv' := [(2, .int (x2 + 1)), (1, .int y0), (0, .ref (ad 24))]) hx hb dX4_readPlain_35 hl (k := 2) rfl rfl (by decide) rfl (fun ls hl => ?_)
  refine lv_goto (tgt := 4) hx hb dX4_readPlain_38 (by decide) ?_
  exact hk4 _ _ _ _ _ _ h hP hD hS (lv_sub hl [2, 1, 0] rfl)
set_option maxHeartbeats 4000000 in
set_option maxRecDepth 100000 in
theorem WX4_readPlain_s24_4b {p : Program} {l : Launch} {e : Env} {s : State} {m : MethodId} {args : Array Value} {below : List Frame} {meth : Method} {c : Code} {D : va_G} {ty : Nat → ClassId} {eo : Nat → Nat} {A : Nat → Prop} {ad : Nat → Nat} {o2 : dK} {kT : dK → Option (dK)} {nT : Nat} (hkT : ∀ (sz : Nat) (q : dK)  (o2 : dK), kT q  = some o2 → Met l yX4_readTest wsX4_readTest ({ frames := 44 + 3 * nT, cells := 0, slots := 0, locals := 1130 + 66 * nT } : Room) (va_Pc [.ref (ad 24)] (kz_pre D ty eo (wF ty ad q) sz)) (va_Qv (fun (u : va_W) => wF ty ad o2 = u) (kz_B D ty (va_A (wF ty ad q) sz)) (va_A (wF ty ad q) sz)) 0 0 (va_A (wF ty ad q) sz)) (C : dc_C p s m args meth c cX4_readPlain none 3 RX4 wsX4_readPlain D ty eo A) {k4 : dK → Int32 → Int32 → Option (dK)} (hk4 : ∀ (q : dK) (x1 : Int32) (x2 : Int32) (H : Heap) (locs : List Loc) (ls : Array Slot), k4 q x1 x2 = some o2 → va_P D vwCl (wF ty ad q) H → va_D A (wF ty ad q) → va_S A s.heap H locs → lv_has ls 3 [(0, .ref (ad 24)), (1, .int x1), (2, .int x2)] → W p l e ({ frames := 44 + 3 * nT + 1, cells := 0, slots := 0, locals := 1130 + 66 * nT + 22 } : Room) s m args below meth c H locs 0 0 (MQ below (va_Qv (fun (u : va_W) => wF ty ad o2 = u) (kz_B D ty A) A) args s 0 0 A) (F0 m 4 ls [])) (q : dK) (x1 : Int32) (x2 : Int32) (H : Heap) (locs : List Loc) (ls : Array Slot) (h : zX4_readPlain_s24_4b kT k4 q x1 x2 = some o2) (hP : va_P D vwCl (wF ty ad q) H) (hD : va_D A (wF ty ad q)) (hS : va_S A s.heap H locs) (hl : lv_has ls 3 [(0, .ref (ad 24)), (1, .int x1), (2, .int x2)]) : W p l e ({ frames := 44 + 3 * nT + 1, cells := 0, slots := 0, locals := 1130 + 66 * nT + 22 } : Room) s m args below meth c H locs 0 0 (MQ below (va_Qv (fun (u : va_W) => wF ty ad o2 = u) (kz_B D ty A) A) args s 0 0 A) (F0 m 4 ls []) := by
  have C0 := C
  obtain ⟨hx, hb, hr, hts, hown, hlocks, hml, hK, hN, hE, hA⟩ := C
  unfold zX4_readPlain_s24_4b at h
  refine lv_iload_n hx hb dX4_readPlain_4 rfl (lv_at hl 2 rfl) ?_
  refine lv_aload_n hx hb dX4_readPlain_5 rfl (lv_at hl 0 rfl) ?_
  refine va_get (D := D) (ci := 4) (v := .int (q.1 24 1)) (C := RX4) (T := TX4) (N := 11) hx hb hts u9_wsX4_readPlain_X4 hown hK hP 24 rfl rfl 1 (by decide) (hts (.fieldLink RX4 15 "TurnedFloors$Reader" "length" "I") f9_wsX4_readPlain_536) (fun _ h9 => h9) rfl dX4_readPlain_6 ?_
  refine lv_icmp_ge (tgt := 41) hx hb dX4_readPlain_9 (by decide) (fun c9 => ?_) (fun c9 => ?_)
  · rw [if_pos c9] at h
    exact WX4_readPlain_s24_41 hkT C0  _ _ _ _ _ h hP hD hS (lv_sub hl [0, 1] rfl)
  · rw [if_neg c9] at h
    refine lv_aload_n hx hb dX4_readPlain_12 rfl (lv_at hl 0 rfl) ?_
    refine va_ldcS hx hb hown (hE.2.2.2.2.1 8 (by decide)) dX4_readPlain_13 ?_
    obtain ⟨r1, q3, h2, h⟩ := dB_some h
    refine dw_ki (va_runV (As := [.ref (eo (1 + 8))]) (rest := []) ⟨hx, hb, hml, hown, hts⟩ (qX4_isWord_s24_t8 l D ty eo _ ad q  r1 q3 h2) (cwV 1 hts gX4_readPlain_X4_isWord rfl rfl rfl hd_X4_isWord_v ⟨by dsimp only [headSpec]; omega, by dsimp only [headSpec]; omega⟩) (pvF_4_24 hK hN hE hP hD hS hA) rfl rfl hl.1 rfl (lv_room (Nat.le_of_ble_eq_true rfl)) dX4_readPlain_15 ⟨Nat.le_of_ble_eq_true rfl, Nat.le_of_ble_eq_true rfl⟩) hD hS hA (fun r9 u9 H locs hw hp hd hs => ?_)
    clear hP hD hS
    obtain ⟨rfl, rfl⟩ := hw
    have hP := hp; have hD := hd; have hS := hs; clear hp hd hs
    refine lv_if_eq (tgt := 41) hx hb dX4_readPlain_18 (by decide) (fun c9 => ?_) (fun c9 => ?_)
    · rw [if_pos c9] at h
      exact WX4_readPlain_s24_41 hkT C0  _ _ _ _ _ h hP hD hS (lv_sub hl [0, 1] rfl)
    · rw [if_neg c9] at h
      refine lv_iload_n hx hb dX4_readPlain_21 rfl (lv_at hl 1 rfl) ?_
      refine lv_if_ne (tgt := 29) hx hb dX4_readPlain_22 (by decide) (fun c9 => ?_) (fun c9 => ?_)
      · rw [if_neg c9] at h
        refine lv_iconst (v := 0) hx hb dX4_readPlain_29 (by decide) ?_
        exact WX4_readPlain_s24_30 hkT C0 hk4 _ _ _ _ _ _ h hP hD hS (lv_sub hl [0, 2] rfl)
      · rw [if_pos c9] at h
        refine lv_iconst (v := 1) hx hb dX4_readPlain_25 (by decide) ?_
        refine lv_goto (tgt := 30) hx hb dX4_readPlain_26 (by decide) ?_
        exact WX4_readPlain_s24_30 hkT C0 hk4 _ _ _ _ _ _ h hP hD hS (lv_sub hl [0, 2] rfl)
set_option maxHeartbeats 4000000 in
set_option maxRecDepth 100000 in
theorem WX4_readPlain_s24_4 {p : Program} {l : Launch} {e : Env} {s : State} {m : MethodId} {args : Array Value} {below : List Frame} {meth : Method} {c : Code} {D : va_G} {ty : Nat → ClassId} {eo : Nat → Nat} {A : Nat → Prop} {ad : Nat → Nat} {o2 : dK} {kT : dK → Option (dK)} {nT : Nat} (hkT : ∀ (sz : Nat) (q : dK)  (o2 : dK), kT q  = some o2 → Met l yX4_readTest wsX4_readTest ({ frames := 44 + 3 * nT, cells := 0, slots := 0, locals := 1130 + 66 * nT } : Room) (va_Pc [.ref (ad 24)] (kz_pre D ty eo (wF ty ad q) sz)) (va_Qv (fun (u : va_W) => wF ty ad o2 = u) (kz_B D ty (va_A (wF ty ad q) sz)) (va_A (wF ty ad q) sz)) 0 0 (va_A (wF ty ad q) sz)) (C : dc_C p s m args meth c cX4_readPlain none 3 RX4 wsX4_readPlain D ty eo A)   (n : Nat) (q : dK) (x1 : Int32) (x2 : Int32) (H : Heap) (locs : List Loc) (ls : Array Slot) (h : zX4_readPlain_s24_4 kT  n q x1 x2 = some o2) (hP : va_P D vwCl (wF ty ad q) H) (hD : va_D A (wF ty ad q)) (hS : va_S A s.heap H locs) (hl : lv_has ls 3 [(0, .ref (ad 24)), (1, .int x1), (2, .int x2)]) : W p l e ({ frames := 44 + 3 * nT + 1, cells := 0, slots := 0, locals := 1130 + 66 * nT + 22 } : Room) s m args below meth c H locs 0 0 (MQ below (va_Qv (fun (u : va_W) => wF ty ad o2 = u) (kz_B D ty A) A) args s 0 0 A) (F0 m 4 ls []) := by
  exact dFix_W (F := fun k (a : dK × Int32 × Int32) => zX4_readPlain_s24_4b kT  (fun q x1 x2 => k (q, x1, x2)) a.1 a.2.1 a.2.2) (o := o2) (P := fun (a : dK × Int32 × Int32) H locs ls => va_P D vwCl (wF ty ad a.1) H ∧ va_D A (wF ty ad a.1) ∧ va_S A s.heap H locs ∧ lv_has ls 3 [(0, .ref (ad 24)), (1, .int a.2.1), (2, .int a.2.2)]) (G := fun H locs ls => W p l e ({ frames := 44 + 3 * nT + 1, cells := 0, slots := 0, locals := 1130 + 66 * nT + 22 } : Room) s m args below meth c H locs 0 0 (MQ below (va_Qv (fun (u : va_W) => wF ty ad o2 = u) (kz_B D ty A) A) args s 0 0 A) (F0 m 4 ls []))
    (fun k hk a H locs ls h hp => WX4_readPlain_s24_4b hkT C  (fun q x1 x2 H locs ls h h1 h2 h3 h4 => hk (q, x1, x2) H locs ls h ⟨h1, h2, h3, h4⟩) a.1 a.2.1 a.2.2 H locs ls h hp.1 hp.2.1 hp.2.2.1 hp.2.2.2) n (q, x1, x2) H locs ls h ⟨hP, hD, hS, hl⟩
set_option maxHeartbeats 4000000 in
set_option maxRecDepth 100000 in
theorem qX4_readPlain_s24 (l : Launch) (D : va_G) (ty : Nat → ClassId) (eo : Nat → Nat) (sz : Nat) (ad : Nat → Nat) (kT : dK → Option (dK)) (nT : Nat) (hkT : ∀ (sz : Nat) (q : dK)  (o2 : dK), kT q  = some o2 → Met l yX4_readTest wsX4_readTest ({ frames := 44 + 3 * nT, cells := 0, slots := 0, locals := 1130 + 66 * nT } : Room) (va_Pc [.ref (ad 24)] (kz_pre D ty eo (wF ty ad q) sz)) (va_Qv (fun (u : va_W) => wF ty ad o2 = u) (kz_B D ty (va_A (wF ty ad q) sz)) (va_A (wF ty ad q) sz)) 0 0 (va_A (wF ty ad q) sz)) (q : dK)  (o2 : dK) (h : zX4_readPlain_s24 kT q = some o2) : Met l yX4_readPlain wsX4_readPlain ({ frames := 44 + 3 * nT + 1, cells := 0, slots := 0, locals := 1130 + 66 * nT + 22 } : Room) (va_Pc [.ref (ad 24)] (kz_pre D ty eo (wF ty ad q) sz)) (va_Qv (fun (u : va_W) => wF ty ad o2 = u) (kz_B D ty (va_A (wF ty ad q) sz)) (va_A (wF ty ad q) sz)) 0 0 (va_A (wF ty ad q) sz) := by
  refine Met.ofW (cc := cX4_readPlain) (maxL := 3) (ret := none) (by decide) rfl ?_
  intro p e s m args below meth c s₁ B hml hv
  obtain ⟨rfl, hsz, hP, hK, hD0, hN, hE⟩ := hv
  have hx := B.exec
  have hb := B.bytes
  have hr := B.returns
  have hts := atoms_spec (ws := wsX4_readPlain) B.pre
  have hown : s.vm.findClass RX4 = some m.cls := findClass_of_methodNamed B.named
  have hlocks := B.notSynchronized
  subst hsz
  have hD := hD0.self (sz := s.heap.size)
  generalize hAe : va_A (wF ty ad q) s.heap.size = A at hD hE ⊢
  have hA : ∀ q : Nat, s.heap.size ≤ q → A q := fun q h => by rw [← hAe]; exact Or.inr h
  clear hAe
  have hS : va_S A s.heap s.heap [] := va_S.rf
  have hl := lv_entry ([.ref (ad 24)]) (n := 3) (Nat.le_of_ble_eq_true rfl)
  rw [lg_entry_eq]
  generalize (lg_sl ([.ref (ad 24)]) ++ List.replicate (3 - (lg_sl ([.ref (ad 24)])).length) Slot.unset).toArray = ls at hl ⊢
  have hl : lv_has ls 3 [(0, .ref (ad 24))] := hl
  have C : dc_C p s m _ meth c cX4_readPlain none 3 RX4 wsX4_readPlain D ty eo A := ⟨hx, hb, hr, hts, hown, hlocks, hml, hK, hN, hE, hA⟩
  unfold zX4_readPlain_s24 at h
  refine lv_iconst (v := 0) hx hb dX4_readPlain_0 (by decide) ?_
  refine lv_istore_n (lv' := [(1, .int 0), (0, .ref (ad 24))]) hx hb dX4_readPlain_1 rfl hl (by decide) rfl (fun ls hl => ?_)
  refine lv_iconst (v := 0) hx hb dX4_readPlain_2 (by decide) ?_
  refine lv_istore_n (lv' := [(2, .int 0), (1, .int 0), (0, .ref (ad 24))]) hx hb dX4_readPlain_3 rfl hl (by decide) rfl (fun ls hl => ?_)
  exact WX4_readPlain_s24_4 hkT C  _ _ _ _ _ _ _ h hP hD hS (lv_sub hl [2, 1, 0] rfl)

set_option maxHeartbeats 4000000 in
set_option maxRecDepth 100000 in
theorem WX4_isSame_s24_t10_20b {p : Program} {l : Launch} {e : Env} {s : State} {m : MethodId} {args : Array Value} {below : List Frame} {meth : Method} {c : Code} {D : va_G} {ty : Nat → ClassId} {eo : Nat → Nat} {A : Nat → Prop} {ad : Nat → Nat} {o1 : Int32} {o2 : dK} (C : dc_C p s m args meth c cX4_isSame (some .boolean) 5 RX4 wsX4_isSame D ty eo A) {k20 : dK → Int32 → Int32 → Int32 → Option (Int32 × dK)} (hk20 : ∀ (q : dK) (x2 : Int32) (x3 : Int32) (x4 : Int32) (H : Heap) (locs : List Loc) (ls : Array Slot), k20 q x2 x3 x4 = some (o1, o2) → va_P D vwCl (wF ty ad q) H → va_D A (wF ty ad q) → va_S A s.heap H locs → lv_has ls 5 [(0, .ref (ad 24)), (1, .ref (eo (1 + 10))), (2, .int x2), (3, .int x3), (4, .int x4)] → W p l e ({ frames := 4, cells := 0, slots := 0, locals := 85 } : Room) s m args below meth c H locs 0 0 (MQ below (va_Qi (fun (r : Int32) (u : va_W) => o1 = r ∧ wF ty ad o2 = u) (kz_B D ty A) A) args s 0 0 A) (F0 m 20 ls [])) (q : dK) (x2 : Int32) (x3 : Int32) (x4 : Int32) (H : Heap) (locs : List Loc) (ls : Array Slot) (h : zX4_isSame_s24_t10_20b k20 q x2 x3 x4 = some (o1, o2)) (hP : va_P D vwCl (wF ty ad q) H) (hD : va_D A (wF ty ad q)) (hS : va_S A s.heap H locs) (hl : lv_has ls 5 [(0, .ref (ad 24)), (1, .ref (eo (1 + 10))), (2, .int x2), (3, .int x3), (4, .int x4)]) : W p l e ({ frames := 4, cells := 0, slots := 0, locals := 85 } : Room) s m args below meth c H locs 0 0 (MQ below (va_Qi (fun (r : Int32) (u : va_W) => o1 = r ∧ wF ty ad o2 = u) (kz_B D ty A) A) args s 0 0 A) (F0 m 20 ls []) := by
  have C0 := C
  obtain ⟨hx, hb, hr, hts, hown, hlocks, hml, hK, hN, hE, hA⟩ := C
  unfold zX4_isSame_s24_t10_20b at h
  refine lv_iload hx hb dX4_isSame_20 (lv_at hl 4 rfl) ?_
  refine lv_iload_n hx hb dX4_isSame_22 rfl (lv_at hl 3 rfl) ?_
  refine lv_icmp_ge (tgt := 57) hx hb dX4_isSame_23 (by decide) (fun c9 => ?_) (fun c9 => ?_)
  · rw [if_pos c9] at h
    refine lv_iconst (v := 1) hx hb dX4_isSame_57 (by decide) ?_
    cases h
    exact kz_zret hx hb hr hlocks rfl hP hK hD hS dX4_isSame_58 ⟨rfl, rfl⟩
  · rw [if_neg c9] at h
    refine lv_aload_n hx hb dX4_isSame_26 rfl (lv_at hl 1 rfl) ?_
    refine lv_iload hx hb dX4_isSame_27 (lv_at hl 4 rfl) ?_
    obtain ⟨g1, h⟩ := dG_some h
    refine dw_ks (va_runV (As := [.int x4]) (rest := []) ⟨hx, hb, hml, hown, hts⟩ (kcJ0ch l D ty eo _ 10 (by decide) x4 (dg_in g1)) (cwV 1 hts gX4_isSame_J0_charAt_5068e rfl rfl rfl hd_J0_charAt_5068e_v ⟨Nat.le_of_ble_eq_true rfl, Nat.le_of_ble_eq_true rfl⟩) (kz_preT hK hN hE hP hD hS hA 10 (by decide) [] (by decide) rfl) rfl rfl hl.1 rfl (lv_room (Nat.le_of_ble_eq_true rfl)) dX4_isSame_29 ⟨Nat.le_of_ble_eq_true rfl, Nat.le_of_ble_eq_true rfl⟩) hP hD hS hA (fun _ _ h9 => h9.2.symm) (fun r9 u9 H locs hw hp hd hs => ?_)
    obtain ⟨rfl, -⟩ := hw
    clear hP hD hS
    have hP := hp; have hD := hd; have hS := hs; clear hp hd hs
    obtain ⟨v2, ev2, h⟩ := dL_some h
    refine kz_topi v2 ev2 ?_
    refine lv_aload_n hx hb dX4_isSame_32 rfl (lv_at hl 0 rfl) ?_
    refine va_get (D := D) (ci := 4) (v := dN (ad 46) (q.1 24 0)) (C := RX4) (T := TX4) (N := 11) hx hb hts u9_wsX4_isSame_X4 hown hK hP 24 rfl rfl 0 (by decide) (hts (.fieldLink RX4 9 "TurnedFloors$Reader" "bytes" "[I") f9_wsX4_isSame_474) (fun _ h9 => h9) rfl dX4_isSame_33 ?_
    obtain ⟨g3, h⟩ := dG_some h
    refine kz_topv (if_neg (dnz_ne g3)) ?_
    refine lv_aload_n hx hb dX4_isSame_36 rfl (lv_at hl 0 rfl) ?_
    refine va_get (D := D) (ci := 4) (v := .int (q.1 24 5)) (C := RX4) (T := TX4) (N := 11) hx hb hts u9_wsX4_isSame_X4 hown hK hP 24 rfl rfl 5 (by decide) (hts (.fieldLink RX4 30 "TurnedFloors$Reader" "start" "I") f9_wsX4_isSame_475) (fun _ h9 => h9) rfl dX4_isSame_37 ?_
    refine lv_iload hx hb dX4_isSame_40 (lv_at hl 4 rfl) ?_
    refine lv_iadd hx hb dX4_isSame_42 ?_
    refine lv_iload_n hx hb dX4_isSame_43 rfl (lv_at hl 2 rfl) ?_
    refine lv_isub hx hb dX4_isSame_44 ?_
    obtain ⟨g4, h⟩ := dG_some h
    refine va_iald hx hb hK hP 46 0 rfl rfl (dg_in g4) dX4_isSame_45 ?_
    obtain ⟨v5, ev5, h⟩ := dL_some h
    refine kz_topi v5 ev5 ?_
    refine lv_icmp_eq (tgt := 51) hx hb dX4_isSame_46 (by decide) (fun c9 => ?_) (fun c9 => ?_)
    · rw [if_pos c9] at h
      refine lv_iinc (v := x4 + 1) (lv' := [(4, .int (x4 + 1)), (0, .ref (ad 24)), (1, .ref (eo (1 + 10))), (2, .int x2), (3, .int x3)]) hx hb dX4_isSame_51 hl (k := 4) rfl rfl (by decide) rfl (fun ls hl => ?_)
      refine lv_goto (tgt := 20) hx hb dX4_isSame_54 (by decide) ?_
      exact hk20 _ _ _ _ _ _ _ h hP hD hS (lv_sub hl [1, 2, 3, 4, 0] rfl)
    · rw [if_neg c9] at h
      refine lv_iconst (v := 0) hx hb dX4_isSame_49 (by decide) ?_
      cases h
      exact kz_zret hx hb hr hlocks rfl hP hK hD hS dX4_isSame_50 ⟨rfl, rfl⟩
set_option maxHeartbeats 4000000 in
set_option maxRecDepth 100000 in
theorem WX4_isSame_s24_t10_20 {p : Program} {l : Launch} {e : Env} {s : State} {m : MethodId} {args : Array Value} {below : List Frame} {meth : Method} {c : Code} {D : va_G} {ty : Nat → ClassId} {eo : Nat → Nat} {A : Nat → Prop} {ad : Nat → Nat} {o1 : Int32} {o2 : dK} (C : dc_C p s m args meth c cX4_isSame (some .boolean) 5 RX4 wsX4_isSame D ty eo A)   (n : Nat) (q : dK) (x2 : Int32) (x3 : Int32) (x4 : Int32) (H : Heap) (locs : List Loc) (ls : Array Slot) (h : zX4_isSame_s24_t10_20  n q x2 x3 x4 = some (o1, o2)) (hP : va_P D vwCl (wF ty ad q) H) (hD : va_D A (wF ty ad q)) (hS : va_S A s.heap H locs) (hl : lv_has ls 5 [(0, .ref (ad 24)), (1, .ref (eo (1 + 10))), (2, .int x2), (3, .int x3), (4, .int x4)]) : W p l e ({ frames := 4, cells := 0, slots := 0, locals := 85 } : Room) s m args below meth c H locs 0 0 (MQ below (va_Qi (fun (r : Int32) (u : va_W) => o1 = r ∧ wF ty ad o2 = u) (kz_B D ty A) A) args s 0 0 A) (F0 m 20 ls []) := by
  exact dFix_W (F := fun k (a : dK × Int32 × Int32 × Int32) => zX4_isSame_s24_t10_20b  (fun q x2 x3 x4 => k (q, x2, x3, x4)) a.1 a.2.1 a.2.2.1 a.2.2.2) (o := (o1, o2)) (P := fun (a : dK × Int32 × Int32 × Int32) H locs ls => va_P D vwCl (wF ty ad a.1) H ∧ va_D A (wF ty ad a.1) ∧ va_S A s.heap H locs ∧ lv_has ls 5 [(0, .ref (ad 24)), (1, .ref (eo (1 + 10))), (2, .int a.2.1), (3, .int a.2.2.1), (4, .int a.2.2.2)]) (G := fun H locs ls => W p l e ({ frames := 4, cells := 0, slots := 0, locals := 85 } : Room) s m args below meth c H locs 0 0 (MQ below (va_Qi (fun (r : Int32) (u : va_W) => o1 = r ∧ wF ty ad o2 = u) (kz_B D ty A) A) args s 0 0 A) (F0 m 20 ls []))
    (fun k hk a H locs ls h hp => WX4_isSame_s24_t10_20b C  (fun q x2 x3 x4 H locs ls h h1 h2 h3 h4 => hk (q, x2, x3, x4) H locs ls h ⟨h1, h2, h3, h4⟩) a.1 a.2.1 a.2.2.1 a.2.2.2 H locs ls h hp.1 hp.2.1 hp.2.2.1 hp.2.2.2) n (q, x2, x3, x4) H locs ls h ⟨hP, hD, hS, hl⟩
set_option maxHeartbeats 4000000 in
set_option maxRecDepth 100000 in
theorem qX4_isSame_s24_t10 (l : Launch) (D : va_G) (ty : Nat → ClassId) (eo : Nat → Nat) (sz : Nat) (ad : Nat → Nat) (q : dK) (p2 : Int32) (p3 : Int32) (o1 : Int32) (o2 : dK) (h : zX4_isSame_s24_t10 q p2 p3 = some (o1, o2)) : Met l yX4_isSame wsX4_isSame ({ frames := 4, cells := 0, slots := 0, locals := 85 } : Room) (va_Pc [.ref (ad 24), .ref (eo (1 + 10)), .int p2, .int p3] (kz_pre D ty eo (wF ty ad q) sz)) (va_Qi (fun (r : Int32) (u : va_W) => o1 = r ∧ wF ty ad o2 = u) (kz_B D ty (va_A (wF ty ad q) sz)) (va_A (wF ty ad q) sz)) 0 0 (va_A (wF ty ad q) sz) := by
  refine Met.ofW (cc := cX4_isSame) (maxL := 5) (ret := (some .boolean)) (by decide) rfl ?_
  intro p e s m args below meth c s₁ B hml hv
  obtain ⟨rfl, hsz, hP, hK, hD0, hN, hE⟩ := hv
  have hx := B.exec
  have hb := B.bytes
  have hr := B.returns
  have hts := atoms_spec (ws := wsX4_isSame) B.pre
  have hown : s.vm.findClass RX4 = some m.cls := findClass_of_methodNamed B.named
  have hlocks := B.notSynchronized
  subst hsz
  have hD := hD0.self (sz := s.heap.size)
  generalize hAe : va_A (wF ty ad q) s.heap.size = A at hD hE ⊢
  have hA : ∀ q : Nat, s.heap.size ≤ q → A q := fun q h => by rw [← hAe]; exact Or.inr h
  clear hAe
  have hS : va_S A s.heap s.heap [] := va_S.rf
  have hl := lv_entry ([.ref (ad 24), .ref (eo (1 + 10)), .int p2, .int p3]) (n := 5) (Nat.le_of_ble_eq_true rfl)
  rw [lg_entry_eq]
  generalize (lg_sl ([.ref (ad 24), .ref (eo (1 + 10)), .int p2, .int p3]) ++ List.replicate (5 - (lg_sl ([.ref (ad 24), .ref (eo (1 + 10)), .int p2, .int p3])).length) Slot.unset).toArray = ls at hl ⊢
  have hl : lv_has ls 5 [(0, .ref (ad 24)), (1, .ref (eo (1 + 10))), (2, .int p2), (3, .int p3)] := hl
  have C : dc_C p s m _ meth c cX4_isSame (some .boolean) 5 RX4 wsX4_isSame D ty eo A := ⟨hx, hb, hr, hts, hown, hlocks, hml, hK, hN, hE, hA⟩
  unfold zX4_isSame_s24_t10 at h
  refine lv_iload_n hx hb dX4_isSame_0 rfl (lv_at hl 3 rfl) ?_
  refine lv_iload_n hx hb dX4_isSame_1 rfl (lv_at hl 2 rfl) ?_
  refine lv_isub hx hb dX4_isSame_2 ?_
  refine lv_aload_n hx hb dX4_isSame_3 rfl (lv_at hl 0 rfl) ?_
  refine va_get (D := D) (ci := 4) (v := .int (q.1 24 6)) (C := RX4) (T := TX4) (N := 11) hx hb hts u9_wsX4_isSame_X4 hown hK hP 24 rfl rfl 6 (by decide) (hts (.fieldLink RX4 33 "TurnedFloors$Reader" "stop" "I") f9_wsX4_isSame_476) (fun _ h9 => h9) rfl dX4_isSame_4 ?_
  refine lv_aload_n hx hb dX4_isSame_7 rfl (lv_at hl 0 rfl) ?_
  refine va_get (D := D) (ci := 4) (v := .int (q.1 24 5)) (C := RX4) (T := TX4) (N := 11) hx hb hts u9_wsX4_isSame_X4 hown hK hP 24 rfl rfl 5 (by decide) (hts (.fieldLink RX4 30 "TurnedFloors$Reader" "start" "I") f9_wsX4_isSame_475) (fun _ h9 => h9) rfl dX4_isSame_8 ?_
  refine lv_isub hx hb dX4_isSame_11 ?_
  refine lv_icmp_eq (tgt := 17) hx hb dX4_isSame_12 (by decide) (fun c9 => ?_) (fun c9 => ?_)
  · rw [if_pos c9] at h
    refine lv_iload_n hx hb dX4_isSame_17 rfl (lv_at hl 2 rfl) ?_
    refine lv_istore (lv' := [(4, .int p2), (0, .ref (ad 24)), (1, .ref (eo (1 + 10))), (2, .int p2), (3, .int p3)]) hx hb dX4_isSame_18 hl (by decide) rfl (fun ls hl => ?_)
    exact WX4_isSame_s24_t10_20 C  _ _ _ _ _ _ _ _ h hP hD hS (lv_sub hl [1, 2, 3, 4, 0] rfl)
  · rw [if_neg c9] at h
    refine lv_iconst (v := 0) hx hb dX4_isSame_15 (by decide) ?_
    cases h
    exact kz_zret hx hb hr hlocks rfl hP hK hD hS dX4_isSame_16 ⟨rfl, rfl⟩

set_option maxHeartbeats 4000000 in
set_option maxRecDepth 100000 in
theorem WX4_isWord_s24_t10_26 {p : Program} {l : Launch} {e : Env} {s : State} {m : MethodId} {args : Array Value} {below : List Frame} {meth : Method} {c : Code} {D : va_G} {ty : Nat → ClassId} {eo : Nat → Nat} {A : Nat → Prop} {ad : Nat → Nat} {o1 : Int32} {o2 : dK} (C : dc_C p s m args meth c cX4_isWord (some .boolean) 2 RX4 wsX4_isWord D ty eo A)   (q : dK) (y0 : Int32) (H : Heap) (locs : List Loc) (ls : Array Slot) (h : zX4_isWord_s24_t10_26  q y0 = some (o1, o2)) (hP : va_P D vwCl (wF ty ad q) H) (hD : va_D A (wF ty ad q)) (hS : va_S A s.heap H locs) (hl : lv_has ls 2 []) : W p l e ({ frames := 5, cells := 0, slots := 0, locals := 109 } : Room) s m args below meth c H locs 0 0 (MQ below (va_Qi (fun (r : Int32) (u : va_W) => o1 = r ∧ wF ty ad o2 = u) (kz_B D ty A) A) args s 0 0 A) (F0 m 26 ls [.int y0]) := by
  have C0 := C
  obtain ⟨hx, hb, hr, hts, hown, hlocks, hml, hK, hN, hE, hA⟩ := C
  unfold zX4_isWord_s24_t10_26 at h
  obtain ⟨g1, h⟩ := dG_some h
  cases h
  exact kz_zret hx hb hr hlocks (dbl_nar g1) hP hK hD hS dX4_isWord_26 ⟨rfl, rfl⟩
set_option maxHeartbeats 4000000 in
set_option maxRecDepth 100000 in
theorem WX4_isWord_s24_t10_25 {p : Program} {l : Launch} {e : Env} {s : State} {m : MethodId} {args : Array Value} {below : List Frame} {meth : Method} {c : Code} {D : va_G} {ty : Nat → ClassId} {eo : Nat → Nat} {A : Nat → Prop} {ad : Nat → Nat} {o1 : Int32} {o2 : dK} (C : dc_C p s m args meth c cX4_isWord (some .boolean) 2 RX4 wsX4_isWord D ty eo A)   (q : dK)  (H : Heap) (locs : List Loc) (ls : Array Slot) (h : zX4_isWord_s24_t10_25  q = some (o1, o2)) (hP : va_P D vwCl (wF ty ad q) H) (hD : va_D A (wF ty ad q)) (hS : va_S A s.heap H locs) (hl : lv_has ls 2 []) : W p l e ({ frames := 5, cells := 0, slots := 0, locals := 109 } : Room) s m args below meth c H locs 0 0 (MQ below (va_Qi (fun (r : Int32) (u : va_W) => o1 = r ∧ wF ty ad o2 = u) (kz_B D ty A) A) args s 0 0 A) (F0 m 25 ls []) := by
  have C0 := C
  obtain ⟨hx, hb, hr, hts, hown, hlocks, hml, hK, hN, hE, hA⟩ := C
  unfold zX4_isWord_s24_t10_25 at h
  refine lv_iconst (v := 0) hx hb dX4_isWord_25 (by decide) ?_
  exact WX4_isWord_s24_t10_26 C0  _ _ _ _ _ h hP hD hS (lv_sub hl [] rfl)
set_option maxHeartbeats 4000000 in
set_option maxRecDepth 100000 in
theorem qX4_isWord_s24_t10 (l : Launch) (D : va_G) (ty : Nat → ClassId) (eo : Nat → Nat) (sz : Nat) (ad : Nat → Nat) (q : dK)  (o1 : Int32) (o2 : dK) (h : zX4_isWord_s24_t10 q = some (o1, o2)) : Met l yX4_isWord wsX4_isWord ({ frames := 5, cells := 0, slots := 0, locals := 109 } : Room) (va_Pc [.ref (ad 24), .ref (eo (1 + 10))] (kz_pre D ty eo (wF ty ad q) sz)) (va_Qi (fun (r : Int32) (u : va_W) => o1 = r ∧ wF ty ad o2 = u) (kz_B D ty (va_A (wF ty ad q) sz)) (va_A (wF ty ad q) sz)) 0 0 (va_A (wF ty ad q) sz) := by
  refine Met.ofW (cc := cX4_isWord) (maxL := 2) (ret := (some .boolean)) (by decide) rfl ?_
  intro p e s m args below meth c s₁ B hml hv
  obtain ⟨rfl, hsz, hP, hK, hD0, hN, hE⟩ := hv
  have hx := B.exec
  have hb := B.bytes
  have hr := B.returns
  have hts := atoms_spec (ws := wsX4_isWord) B.pre
  have hown : s.vm.findClass RX4 = some m.cls := findClass_of_methodNamed B.named
  have hlocks := B.notSynchronized
  subst hsz
  have hD := hD0.self (sz := s.heap.size)
  generalize hAe : va_A (wF ty ad q) s.heap.size = A at hD hE ⊢
  have hA : ∀ q : Nat, s.heap.size ≤ q → A q := fun q h => by rw [← hAe]; exact Or.inr h
  clear hAe
  have hS : va_S A s.heap s.heap [] := va_S.rf
  have hl := lv_entry ([.ref (ad 24), .ref (eo (1 + 10))]) (n := 2) (Nat.le_of_ble_eq_true rfl)
  rw [lg_entry_eq]
  generalize (lg_sl ([.ref (ad 24), .ref (eo (1 + 10))]) ++ List.replicate (2 - (lg_sl ([.ref (ad 24), .ref (eo (1 + 10))])).length) Slot.unset).toArray = ls at hl ⊢
  have hl : lv_has ls 2 [(0, .ref (ad 24)), (1, .ref (eo (1 + 10)))] := hl
  have C : dc_C p s m _ meth c cX4_isWord (some .boolean) 2 RX4 wsX4_isWord D ty eo A := ⟨hx, hb, hr, hts, hown, hlocks, hml, hK, hN, hE, hA⟩
  unfold zX4_isWord_s24_t10 at h
  refine lv_aload_n hx hb dX4_isWord_0 rfl (lv_at hl 0 rfl) ?_
  refine va_get (D := D) (ci := 4) (v := .int (q.1 24 4)) (C := RX4) (T := TX4) (N := 11) hx hb hts u9_wsX4_isWord_X4 hown hK hP 24 rfl rfl 4 (by decide) (hts (.fieldLink RX4 27 "TurnedFloors$Reader" "token" "I") f9_wsX4_isWord_524) (fun _ h9 => h9) rfl dX4_isWord_1 ?_
  refine lv_iconst (v := 1) hx hb dX4_isWord_4 (by decide) ?_
  refine lv_icmp_ne (tgt := 25) hx hb dX4_isWord_5 (by decide) (fun c9 => ?_) (fun c9 => ?_)
  · rw [if_neg c9] at h
    exact WX4_isWord_s24_t10_25 C  _ _ _ _ h hP hD hS (lv_sub hl [] rfl)
  · rw [if_pos c9] at h
    refine lv_aload_n hx hb dX4_isWord_8 rfl (lv_at hl 0 rfl) ?_
    refine lv_aload_n hx hb dX4_isWord_9 rfl (lv_at hl 1 rfl) ?_
    refine lv_iconst (v := 0) hx hb dX4_isWord_10 (by decide) ?_
    refine lv_aload_n hx hb dX4_isWord_11 rfl (lv_at hl 1 rfl) ?_
    refine dw_ks (va_runV (As := []) (rest := [.int 0, .ref (eo (1 + 10)), .ref (ad 24)]) ⟨hx, hb, hml, hown, hts⟩ (kcJ0le l D ty eo _ 10 (by decide)) (cwV 0 hts gX4_isWord_J0_length_8abf5 rfl rfl rfl hd_J0_length_8abf5_v ⟨Nat.le_of_ble_eq_true rfl, Nat.le_of_ble_eq_true rfl⟩) (kz_preT hK hN hE hP hD hS hA 10 (by decide) [] (by decide) rfl) rfl rfl hl.1 rfl (lv_room (Nat.le_of_ble_eq_true rfl)) dX4_isWord_12 ⟨Nat.le_of_ble_eq_true rfl, Nat.le_of_ble_eq_true rfl⟩) hP hD hS hA (fun _ _ h9 => h9.2.symm) (fun r9 u9 H locs hw hp hd hs => ?_)
    obtain ⟨rfl, -⟩ := hw
    clear hP hD hS
    have hP := hp; have hD := hd; have hS := hs; clear hp hd hs
    refine kz_topi 3 (by decide +kernel) ?_
    obtain ⟨r1, q3, h2, h⟩ := dB_some h
    refine dw_ki (va_runV (As := [.ref (eo (1 + 10)), .int 0, .int 3]) (rest := []) ⟨hx, hb, hml, hown, hts⟩ (qX4_isSame_s24_t10 l D ty eo _ ad q 0 3 r1 q3 h2) (cwV 3 hts gX4_isWord_X4_isSame rfl rfl rfl hd_X4_isSame_v ⟨Nat.le_of_ble_eq_true rfl, Nat.le_of_ble_eq_true rfl⟩) (pvF_4_24 hK hN hE hP hD hS hA) rfl rfl hl.1 rfl (lv_room (Nat.le_of_ble_eq_true rfl)) dX4_isWord_15 ⟨Nat.le_of_ble_eq_true rfl, Nat.le_of_ble_eq_true rfl⟩) hD hS hA (fun r9 u9 H locs hw hp hd hs => ?_)
    clear hP hD hS
    obtain ⟨rfl, rfl⟩ := hw
    have hP := hp; have hD := hd; have hS := hs; clear hp hd hs
    refine lv_if_eq (tgt := 25) hx hb dX4_isWord_18 (by decide) (fun c9 => ?_) (fun c9 => ?_)
    · rw [if_pos c9] at h
      exact WX4_isWord_s24_t10_25 C  _ _ _ _ h hP hD hS (lv_sub hl [] rfl)
    · rw [if_neg c9] at h
      refine lv_iconst (v := 1) hx hb dX4_isWord_21 (by decide) ?_
      refine lv_goto (tgt := 26) hx hb dX4_isWord_22 (by decide) ?_
      exact WX4_isWord_s24_t10_26 C  _ _ _ _ _ h hP hD hS (lv_sub hl [] rfl)

set_option maxHeartbeats 4000000 in
set_option maxRecDepth 100000 in
theorem WX7_leapHere_s25_26 {p : Program} {l : Launch} {e : Env} {s : State} {m : MethodId} {args : Array Value} {below : List Frame} {meth : Method} {c : Code} {D : va_G} {ty : Nat → ClassId} {eo : Nat → Nat} {A : Nat → Prop} {ad : Nat → Nat} {o2 : dK} (C : dc_C p s m args meth c cX7_leapHere none 3 RX7 wsX7_leapHere D ty eo A)   (q : dK)  (H : Heap) (locs : List Loc) (ls : Array Slot) (h : zX7_leapHere_s25_26  q = some o2) (hP : va_P D vwCl (wF ty ad q) H) (hD : va_D A (wF ty ad q)) (hS : va_S A s.heap H locs) (hl : lv_has ls 3 []) : W p l e ({ frames := 0, cells := 0, slots := 0, locals := 0 } : Room) s m args below meth c H locs 0 0 (MQ below (va_Qv (fun (u : va_W) => wF ty ad o2 = u) (kz_B D ty A) A) args s 0 0 A) (F0 m 26 ls []) := by
  have C0 := C
  obtain ⟨hx, hb, hr, hts, hown, hlocks, hml, hK, hN, hE, hA⟩ := C
  unfold zX7_leapHere_s25_26 at h
  cases h
  exact kz_vret hx hb hr hlocks hP hK hD hS dX7_leapHere_26 rfl
set_option maxHeartbeats 4000000 in
set_option maxRecDepth 100000 in
theorem qX7_leapHere_s25 (l : Launch) (D : va_G) (ty : Nat → ClassId) (eo : Nat → Nat) (sz : Nat) (ad : Nat → Nat) (q : dK) (p1 : Int32) (p2 : Int32) (o2 : dK) (h : zX7_leapHere_s25 q p1 p2 = some o2) : Met l yX7_leapHere wsX7_leapHere ({ frames := 0, cells := 0, slots := 0, locals := 0 } : Room) (va_Pc [.ref (ad 25), .int p1, .int p2] (kz_pre D ty eo (wF ty ad q) sz)) (va_Qv (fun (u : va_W) => wF ty ad o2 = u) (kz_B D ty (va_A (wF ty ad q) sz)) (va_A (wF ty ad q) sz)) 0 0 (va_A (wF ty ad q) sz) := by
  refine Met.ofW (cc := cX7_leapHere) (maxL := 3) (ret := none) (by decide) rfl ?_
  intro p e s m args below meth c s₁ B hml hv
  obtain ⟨rfl, hsz, hP, hK, hD0, hN, hE⟩ := hv
  have hx := B.exec
  have hb := B.bytes
  have hr := B.returns
  have hts := atoms_spec (ws := wsX7_leapHere) B.pre
  have hown : s.vm.findClass RX7 = some m.cls := findClass_of_methodNamed B.named
  have hlocks := B.notSynchronized
  subst hsz
  have hD := hD0.self (sz := s.heap.size)
  generalize hAe : va_A (wF ty ad q) s.heap.size = A at hD hE ⊢
  have hA : ∀ q : Nat, s.heap.size ≤ q → A q := fun q h => by rw [← hAe]; exact Or.inr h
  clear hAe
  have hS : va_S A s.heap s.heap [] := va_S.rf
  have hl := lv_entry ([.ref (ad 25), .int p1, .int p2]) (n := 3) (Nat.le_of_ble_eq_true rfl)
  rw [lg_entry_eq]
  generalize (lg_sl ([.ref (ad 25), .int p1, .int p2]) ++ List.replicate (3 - (lg_sl ([.ref (ad 25), .int p1, .int p2])).length) Slot.unset).toArray = ls at hl ⊢
  have hl : lv_has ls 3 [(0, .ref (ad 25)), (1, .int p1), (2, .int p2)] := hl
  have C : dc_C p s m _ meth c cX7_leapHere none 3 RX7 wsX7_leapHere D ty eo A := ⟨hx, hb, hr, hts, hown, hlocks, hml, hK, hN, hE, hA⟩
  unfold zX7_leapHere_s25 at h
  refine lv_iload_n hx hb dX7_leapHere_0 rfl (lv_at hl 2 rfl) ?_
  refine lv_if_lt (tgt := 26) hx hb dX7_leapHere_1 (by decide) (fun c9 => ?_) (fun c9 => ?_)
  · rw [if_pos c9] at h
    exact WX7_leapHere_s25_26 C  _ _ _ _ h hP hD hS (lv_sub hl [] rfl)
  · rw [if_neg c9] at h
    refine lv_iload_n hx hb dX7_leapHere_4 rfl (lv_at hl 2 rfl) ?_
    refine lv_aload_n hx hb dX7_leapHere_5 rfl (lv_at hl 0 rfl) ?_
    refine va_get (D := D) (ci := 7) (v := .int (q.1 25 7)) (C := RX7) (T := TX7) (N := 8) hx hb hts u9_wsX7_leapHere_X7 hown hK hP 25 rfl rfl 7 (by decide) (hts (.fieldLink RX7 13 "TurnedFloors$Text" "length" "I") f9_wsX7_leapHere_538) (fun _ h9 => h9) rfl dX7_leapHere_6 ?_
    refine lv_icmp_ge (tgt := 26) hx hb dX7_leapHere_9 (by decide) (fun c9 => ?_) (fun c9 => ?_)
    · rw [if_pos c9] at h
      exact WX7_leapHere_s25_26 C  _ _ _ _ h hP hD hS (lv_sub hl [] rfl)
    · rw [if_neg c9] at h
      refine lv_aload_n hx hb dX7_leapHere_12 rfl (lv_at hl 0 rfl) ?_
      refine va_get (D := D) (ci := 7) (v := .ref (ad 31)) (C := RX7) (T := TX7) (N := 8) hx hb hts u9_wsX7_leapHere_X7 hown hK hP 25 rfl rfl 5 (by decide) (hts (.fieldLink RX7 32 "TurnedFloors$Text" "code" "[I") f9_wsX7_leapHere_539) (fun _ h9 => h9) rfl dX7_leapHere_13 ?_
      refine lv_iload_n hx hb dX7_leapHere_16 rfl (lv_at hl 2 rfl) ?_
      refine lv_aload_n hx hb dX7_leapHere_17 rfl (lv_at hl 0 rfl) ?_
      refine va_get (D := D) (ci := 7) (v := .int (q.1 25 7)) (C := RX7) (T := TX7) (N := 8) hx hb hts u9_wsX7_leapHere_X7 hown hK hP 25 rfl rfl 7 (by decide) (hts (.fieldLink RX7 13 "TurnedFloors$Text" "length" "I") f9_wsX7_leapHere_538) (fun _ h9 => h9) rfl dX7_leapHere_18 ?_
      refine lv_iconst (v := 4) hx hb dX7_leapHere_21 (by decide) ?_
      refine lv_ishl hx hb dX7_leapHere_22 ?_
      refine lv_iload_n hx hb dX7_leapHere_23 rfl (lv_at hl 1 rfl) ?_
      refine lv_ior hx hb dX7_leapHere_24 ?_
      obtain ⟨g1, h⟩ := dG_some h
      refine va_iast hx hb hK hP hD hS 31 0 rfl rfl (dg_in g1) dX7_leapHere_25 (fun H locs hp hd hs => ?_)
      obtain ⟨q2, eq2, h⟩ := dL_some h
      refine kz_re (w2 := wF ty ad q2) hp hd hs (by rw [← eq2]; exact wF_a31 ty ad q (Int32.toNatClampNeg p2) (((q.1 25 7) <<< ((4 : Int32) &&& 31) : Int32) ||| p1)) ?_
      clear hp hd hs hP hD hS
      intro hP hD hS
      exact WX7_leapHere_s25_26 C  _ _ _ _ h hP hD hS (lv_sub hl [] rfl)

set_option maxHeartbeats 4000000 in
set_option maxRecDepth 100000 in
theorem WX4_readBoth_s24_73 {p : Program} {l : Launch} {e : Env} {s : State} {m : MethodId} {args : Array Value} {below : List Frame} {meth : Method} {c : Code} {D : va_G} {ty : Nat → ClassId} {eo : Nat → Nat} {A : Nat → Prop} {ad : Nat → Nat} {o2 : dK} {kT : dK → Option (dK)} {nT : Nat} (hkT : ∀ (sz : Nat) (q : dK)  (o2 : dK), kT q  = some o2 → Met l yX4_readTest wsX4_readTest ({ frames := 44 + 3 * nT, cells := 0, slots := 0, locals := 1130 + 66 * nT } : Room) (va_Pc [.ref (ad 24)] (kz_pre D ty eo (wF ty ad q) sz)) (va_Qv (fun (u : va_W) => wF ty ad o2 = u) (kz_B D ty (va_A (wF ty ad q) sz)) (va_A (wF ty ad q) sz)) 0 0 (va_A (wF ty ad q) sz)) (C : dc_C p s m args meth c cX4_readBoth none 3 RX4 wsX4_readBoth D ty eo A)   (q : dK)  (H : Heap) (locs : List Loc) (ls : Array Slot) (h : zX4_readBoth_s24_73 kT  q = some o2) (hP : va_P D vwCl (wF ty ad q) H) (hD : va_D A (wF ty ad q)) (hS : va_S A s.heap H locs) (hl : lv_has ls 3 []) : W p l e ({ frames := 44 + 3 * nT + 2, cells := 0, slots := 0, locals := 1130 + 66 * nT + 44 } : Room) s m args below meth c H locs 0 0 (MQ below (va_Qv (fun (u : va_W) => wF ty ad o2 = u) (kz_B D ty A) A) args s 0 0 A) (F0 m 73 ls []) := by
  have C0 := C
  obtain ⟨hx, hb, hr, hts, hown, hlocks, hml, hK, hN, hE, hA⟩ := C
  unfold zX4_readBoth_s24_73 at h
  cases h
  exact kz_vret hx hb hr hlocks hP hK hD hS dX4_readBoth_73 rfl
set_option maxHeartbeats 4000000 in
set_option maxRecDepth 100000 in
theorem WX4_readBoth_s24_6b {p : Program} {l : Launch} {e : Env} {s : State} {m : MethodId} {args : Array Value} {below : List Frame} {meth : Method} {c : Code} {D : va_G} {ty : Nat → ClassId} {eo : Nat → Nat} {A : Nat → Prop} {ad : Nat → Nat} {o2 : dK} {kT : dK → Option (dK)} {nT : Nat} (hkT : ∀ (sz : Nat) (q : dK)  (o2 : dK), kT q  = some o2 → Met l yX4_readTest wsX4_readTest ({ frames := 44 + 3 * nT, cells := 0, slots := 0, locals := 1130 + 66 * nT } : Room) (va_Pc [.ref (ad 24)] (kz_pre D ty eo (wF ty ad q) sz)) (va_Qv (fun (u : va_W) => wF ty ad o2 = u) (kz_B D ty (va_A (wF ty ad q) sz)) (va_A (wF ty ad q) sz)) 0 0 (va_A (wF ty ad q) sz)) (C : dc_C p s m args meth c cX4_readBoth none 3 RX4 wsX4_readBoth D ty eo A) {k6 : dK → Int32 → Option (dK)} (hk6 : ∀ (q : dK) (x1 : Int32) (H : Heap) (locs : List Loc) (ls : Array Slot), k6 q x1 = some o2 → va_P D vwCl (wF ty ad q) H → va_D A (wF ty ad q) → va_S A s.heap H locs → lv_has ls 3 [(0, .ref (ad 24)), (1, .int x1)] → W p l e ({ frames := 44 + 3 * nT + 2, cells := 0, slots := 0, locals := 1130 + 66 * nT + 44 } : Room) s m args below meth c H locs 0 0 (MQ below (va_Qv (fun (u : va_W) => wF ty ad o2 = u) (kz_B D ty A) A) args s 0 0 A) (F0 m 6 ls [])) (q : dK) (x1 : Int32) (H : Heap) (locs : List Loc) (ls : Array Slot) (h : zX4_readBoth_s24_6b kT k6 q x1 = some o2) (hP : va_P D vwCl (wF ty ad q) H) (hD : va_D A (wF ty ad q)) (hS : va_S A s.heap H locs) (hl : lv_has ls 3 [(0, .ref (ad 24)), (1, .int x1)]) : W p l e ({ frames := 44 + 3 * nT + 2, cells := 0, slots := 0, locals := 1130 + 66 * nT + 44 } : Room) s m args below meth c H locs 0 0 (MQ below (va_Qv (fun (u : va_W) => wF ty ad o2 = u) (kz_B D ty A) A) args s 0 0 A) (F0 m 6 ls []) := by
  have C0 := C
  obtain ⟨hx, hb, hr, hts, hown, hlocks, hml, hK, hN, hE, hA⟩ := C
  unfold zX4_readBoth_s24_6b at h
  refine lv_iload_n hx hb dX4_readBoth_6 rfl (lv_at hl 1 rfl) ?_
  refine lv_aload_n hx hb dX4_readBoth_7 rfl (lv_at hl 0 rfl) ?_
  refine va_get (D := D) (ci := 4) (v := .int (q.1 24 1)) (C := RX4) (T := TX4) (N := 11) hx hb hts u9_wsX4_readBoth_X4 hown hK hP 24 rfl rfl 1 (by decide) (hts (.fieldLink RX4 15 "TurnedFloors$Reader" "length" "I") f9_wsX4_readBoth_542) (fun _ h9 => h9) rfl dX4_readBoth_8 ?_
  refine lv_icmp_ge (tgt := 73) hx hb dX4_readBoth_11 (by decide) (fun c9 => ?_) (fun c9 => ?_)
  · rw [if_pos c9] at h
    exact WX4_readBoth_s24_73 hkT C0  _ _ _ _ h hP hD hS (lv_sub hl [] rfl)
  · rw [if_neg c9] at h
    refine lv_aload_n hx hb dX4_readBoth_14 rfl (lv_at hl 0 rfl) ?_
    refine va_get (D := D) (ci := 4) (v := .int (q.1 24 10)) (C := RX4) (T := TX4) (N := 11) hx hb hts u9_wsX4_readBoth_X4 hown hK hP 24 rfl rfl 10 (by decide) (hts (.fieldLink RX4 45 "TurnedFloors$Reader" "faultAt" "I") f9_wsX4_readBoth_543) (fun _ h9 => h9) rfl dX4_readBoth_15 ?_
    refine lv_iconst (v := (-1)) hx hb dX4_readBoth_18 (by decide) ?_
    refine lv_icmp_ne (tgt := 73) hx hb dX4_readBoth_19 (by decide) (fun c9 => ?_) (fun c9 => ?_)
    · rw [if_neg c9] at h
      exact WX4_readBoth_s24_73 hkT C0  _ _ _ _ h hP hD hS (lv_sub hl [] rfl)
    · rw [if_pos c9] at h
      refine lv_aload_n hx hb dX4_readBoth_22 rfl (lv_at hl 0 rfl) ?_
      refine va_ldcS hx hb hown (hE.2.2.2.2.1 10 (by decide)) dX4_readBoth_23 ?_
      obtain ⟨r1, q3, h2, h⟩ := dB_some h
      refine dw_ki (va_runV (As := [.ref (eo (1 + 10))]) (rest := []) ⟨hx, hb, hml, hown, hts⟩ (qX4_isWord_s24_t10 l D ty eo _ ad q  r1 q3 h2) (cwV 1 hts gX4_readBoth_X4_isWord rfl rfl rfl hd_X4_isWord_v ⟨by dsimp only [headSpec]; omega, by dsimp only [headSpec]; omega⟩) (pvF_4_24 hK hN hE hP hD hS hA) rfl rfl hl.1 rfl (lv_room (Nat.le_of_ble_eq_true rfl)) dX4_readBoth_25 ⟨Nat.le_of_ble_eq_true rfl, Nat.le_of_ble_eq_true rfl⟩) hD hS hA (fun r9 u9 H locs hw hp hd hs => ?_)
      clear hP hD hS
      obtain ⟨rfl, rfl⟩ := hw
      have hP := hp; have hD := hd; have hS := hs; clear hp hd hs
      refine lv_if_eq (tgt := 73) hx hb dX4_readBoth_28 (by decide) (fun c9 => ?_) (fun c9 => ?_)
      · rw [if_pos c9] at h
        exact WX4_readBoth_s24_73 hkT C0  _ _ _ _ h hP hD hS (lv_sub hl [] rfl)
      · rw [if_neg c9] at h
        refine lv_aload_n hx hb dX4_readBoth_31 rfl (lv_at hl 0 rfl) ?_
        refine va_get (D := D) (ci := 4) (v := dN (ad 25) (q3.1 24 3)) (C := RX4) (T := TX4) (N := 11) hx hb hts u9_wsX4_readBoth_X4 hown hK hP 24 rfl rfl 3 (by decide) (hts (.fieldLink RX4 23 "TurnedFloors$Reader" "text" "LTurnedFloors$Text;") f9_wsX4_readBoth_544) (fun _ h9 => h9) rfl dX4_readBoth_32 ?_
        obtain ⟨g4, h⟩ := dG_some h
        refine kz_topv (if_neg (dnz_ne g4)) ?_
        refine va_getN (D := D) (ci := 7) (v := .int (q3.1 25 7)) (C := RX7) (T := TX7) (N := 8) hx hb hts u9_wsX4_readBoth_X7 hown hK hP 25 rfl rfl 7 (by decide) (hN.use (.fieldLinkNest "TurnedFloors$Reader" 115 "TurnedFloors$Text" "length" "I" "TurnedFloors") nn9_16) (fun _ h9 => h9) rfl dX4_readBoth_35 ?_
        refine lv_istore_n (lv' := [(2, .int (q3.1 25 7)), (0, .ref (ad 24)), (1, .int x1)]) hx hb dX4_readBoth_38 rfl hl (by decide) rfl (fun ls hl => ?_)
        refine lv_aload_n hx hb dX4_readBoth_39 rfl (lv_at hl 1 rfl) ?_
        refine va_get (D := D) (ci := 4) (v := dN (ad 25) (q3.1 24 3)) (C := RX4) (T := TX4) (N := 11) hx hb hts u9_wsX4_readBoth_X4 hown hK hP 24 rfl rfl 3 (by decide) (hts (.fieldLink RX4 23 "TurnedFloors$Reader" "text" "LTurnedFloors$Text;") f9_wsX4_readBoth_544) (fun _ h9 => h9) rfl dX4_readBoth_40 ?_
        obtain ⟨g5, h⟩ := dG_some h
        refine kz_topv (if_neg (dnz_ne g5)) ?_
        refine lv_bipush (v := 11) hx hb dX4_readBoth_43 (by decide) ?_
        refine lv_iconst (v := 0) hx hb dX4_readBoth_45 (by decide) ?_
        obtain ⟨q8, h7, h⟩ := dV_some h
        refine dw_kv (va_runV (As := [.int 11, .int 0]) (rest := []) ⟨hx, hb, hml, hown, hts⟩ (qX7_emit_s25 l D ty eo _ ad q3 11 0 q8 h7) (cwV 2 hts gX4_readBoth_X7_emit rfl rfl rfl hd_X7_emit_v ⟨by dsimp only [headSpec]; omega, by dsimp only [headSpec]; omega⟩) (pvF_7_25 hK hN hE hP hD hS hA) rfl rfl hl.1 rfl (lv_room (Nat.le_of_ble_eq_true rfl)) dX4_readBoth_46 ⟨Nat.le_of_ble_eq_true rfl, Nat.le_of_ble_eq_true rfl⟩) hD hS hA (fun u9 H locs hw hp hd hs => ?_)
        clear hP hD hS
        obtain rfl := hw
        have hP := hp; have hD := hd; have hS := hs; clear hp hd hs
        refine lv_aload_n hx hb dX4_readBoth_49 rfl (lv_at hl 1 rfl) ?_
        obtain ⟨q11, h10, h⟩ := dV_some h
        refine dw_kv (va_runV (As := []) (rest := []) ⟨hx, hb, hml, hown, hts⟩ (qX4_step_s24 l D ty eo _ ad q8  q11 h10) (cwV 0 hts gX4_readBoth_X4_step rfl rfl rfl hd_X4_step_v ⟨by dsimp only [headSpec]; omega, by dsimp only [headSpec]; omega⟩) (pvF_4_24 hK hN hE hP hD hS hA) rfl rfl hl.1 rfl (lv_room (Nat.le_of_ble_eq_true rfl)) dX4_readBoth_50 ⟨Nat.le_of_ble_eq_true rfl, Nat.le_of_ble_eq_true rfl⟩) hD hS hA (fun u9 H locs hw hp hd hs => ?_)
        clear hP hD hS
        obtain rfl := hw
        have hP := hp; have hD := hd; have hS := hs; clear hp hd hs
        refine lv_aload_n hx hb dX4_readBoth_53 rfl (lv_at hl 1 rfl) ?_
        obtain ⟨q14, h13, h⟩ := dV_some h
        refine dw_kv (va_runV (As := []) (rest := []) ⟨hx, hb, hml, hown, hts⟩ (qX4_readPlain_s24 l D ty eo _ ad kT nT hkT q11  q14 h13) (cwV 0 hts gX4_readBoth_X4_readPlain rfl rfl rfl hd_X4_readPlain_v ⟨by dsimp only [headSpec]; omega, by dsimp only [headSpec]; omega⟩) (pvF_4_24 hK hN hE hP hD hS hA) rfl rfl hl.1 rfl (lv_room (Nat.le_of_ble_eq_true rfl)) dX4_readBoth_54 ⟨Nat.le_of_ble_eq_true rfl, Nat.le_of_ble_eq_true rfl⟩) hD hS hA (fun u9 H locs hw hp hd hs => ?_)
        clear hP hD hS
        obtain rfl := hw
        have hP := hp; have hD := hd; have hS := hs; clear hp hd hs
        refine lv_aload_n hx hb dX4_readBoth_57 rfl (lv_at hl 1 rfl) ?_
        refine va_get (D := D) (ci := 4) (v := dN (ad 25) (q14.1 24 3)) (C := RX4) (T := TX4) (N := 11) hx hb hts u9_wsX4_readBoth_X4 hown hK hP 24 rfl rfl 3 (by decide) (hts (.fieldLink RX4 23 "TurnedFloors$Reader" "text" "LTurnedFloors$Text;") f9_wsX4_readBoth_544) (fun _ h9 => h9) rfl dX4_readBoth_58 ?_
        obtain ⟨g15, h⟩ := dG_some h
        refine kz_topv (if_neg (dnz_ne g15)) ?_
        refine lv_bipush (v := 11) hx hb dX4_readBoth_61 (by decide) ?_
        refine lv_iload_n hx hb dX4_readBoth_63 rfl (lv_at hl 0 rfl) ?_
        obtain ⟨q18, h17, h⟩ := dV_some h
        refine dw_kv (va_runV (As := [.int 11, .int (q3.1 25 7)]) (rest := []) ⟨hx, hb, hml, hown, hts⟩ (qX7_leapHere_s25 l D ty eo _ ad q14 11 (q3.1 25 7) q18 h17) (cwV 2 hts gX4_readBoth_X7_leapHere rfl rfl rfl hd_X7_leapHere_v ⟨by dsimp only [headSpec]; omega, by dsimp only [headSpec]; omega⟩) (pvF_7_25 hK hN hE hP hD hS hA) rfl rfl hl.1 rfl (lv_room (Nat.le_of_ble_eq_true rfl)) dX4_readBoth_64 ⟨Nat.le_of_ble_eq_true rfl, Nat.le_of_ble_eq_true rfl⟩) hD hS hA (fun u9 H locs hw hp hd hs => ?_)
        clear hP hD hS
        obtain rfl := hw
        have hP := hp; have hD := hd; have hS := hs; clear hp hd hs
        refine lv_iinc (v := x1 + 1) (lv' := [(1, .int (x1 + 1)), (2, .int (q3.1 25 7)), (0, .ref (ad 24))]) hx hb dX4_readBoth_67 hl (k := 2) rfl rfl (by decide) rfl (fun ls hl => ?_)
        refine lv_goto (tgt := 6) hx hb dX4_readBoth_70 (by decide) ?_
        exact hk6 _ _ _ _ _ h hP hD hS (lv_sub hl [2, 0] rfl)
set_option maxHeartbeats 4000000 in
set_option maxRecDepth 100000 in
theorem WX4_readBoth_s24_6 {p : Program} {l : Launch} {e : Env} {s : State} {m : MethodId} {args : Array Value} {below : List Frame} {meth : Method} {c : Code} {D : va_G} {ty : Nat → ClassId} {eo : Nat → Nat} {A : Nat → Prop} {ad : Nat → Nat} {o2 : dK} {kT : dK → Option (dK)} {nT : Nat} (hkT : ∀ (sz : Nat) (q : dK)  (o2 : dK), kT q  = some o2 → Met l yX4_readTest wsX4_readTest ({ frames := 44 + 3 * nT, cells := 0, slots := 0, locals := 1130 + 66 * nT } : Room) (va_Pc [.ref (ad 24)] (kz_pre D ty eo (wF ty ad q) sz)) (va_Qv (fun (u : va_W) => wF ty ad o2 = u) (kz_B D ty (va_A (wF ty ad q) sz)) (va_A (wF ty ad q) sz)) 0 0 (va_A (wF ty ad q) sz)) (C : dc_C p s m args meth c cX4_readBoth none 3 RX4 wsX4_readBoth D ty eo A)   (n : Nat) (q : dK) (x1 : Int32) (H : Heap) (locs : List Loc) (ls : Array Slot) (h : zX4_readBoth_s24_6 kT  n q x1 = some o2) (hP : va_P D vwCl (wF ty ad q) H) (hD : va_D A (wF ty ad q)) (hS : va_S A s.heap H locs) (hl : lv_has ls 3 [(0, .ref (ad 24)), (1, .int x1)]) : W p l e ({ frames := 44 + 3 * nT + 2, cells := 0, slots := 0, locals := 1130 + 66 * nT + 44 } : Room) s m args below meth c H locs 0 0 (MQ below (va_Qv (fun (u : va_W) => wF ty ad o2 = u) (kz_B D ty A) A) args s 0 0 A) (F0 m 6 ls []) := by
  exact dFix_W (F := fun k (a : dK × Int32) => zX4_readBoth_s24_6b kT  (fun q x1 => k (q, x1)) a.1 a.2) (o := o2) (P := fun (a : dK × Int32) H locs ls => va_P D vwCl (wF ty ad a.1) H ∧ va_D A (wF ty ad a.1) ∧ va_S A s.heap H locs ∧ lv_has ls 3 [(0, .ref (ad 24)), (1, .int a.2)]) (G := fun H locs ls => W p l e ({ frames := 44 + 3 * nT + 2, cells := 0, slots := 0, locals := 1130 + 66 * nT + 44 } : Room) s m args below meth c H locs 0 0 (MQ below (va_Qv (fun (u : va_W) => wF ty ad o2 = u) (kz_B D ty A) A) args s 0 0 A) (F0 m 6 ls []))
    (fun k hk a H locs ls h hp => WX4_readBoth_s24_6b hkT C  (fun q x1 H locs ls h h1 h2 h3 h4 => hk (q, x1) H locs ls h ⟨h1, h2, h3, h4⟩) a.1 a.2 H locs ls h hp.1 hp.2.1 hp.2.2.1 hp.2.2.2) n (q, x1) H locs ls h ⟨hP, hD, hS, hl⟩
set_option maxHeartbeats 4000000 in
set_option maxRecDepth 100000 in
theorem qX4_readBoth_s24 (l : Launch) (D : va_G) (ty : Nat → ClassId) (eo : Nat → Nat) (sz : Nat) (ad : Nat → Nat) (kT : dK → Option (dK)) (nT : Nat) (hkT : ∀ (sz : Nat) (q : dK)  (o2 : dK), kT q  = some o2 → Met l yX4_readTest wsX4_readTest ({ frames := 44 + 3 * nT, cells := 0, slots := 0, locals := 1130 + 66 * nT } : Room) (va_Pc [.ref (ad 24)] (kz_pre D ty eo (wF ty ad q) sz)) (va_Qv (fun (u : va_W) => wF ty ad o2 = u) (kz_B D ty (va_A (wF ty ad q) sz)) (va_A (wF ty ad q) sz)) 0 0 (va_A (wF ty ad q) sz)) (q : dK)  (o2 : dK) (h : zX4_readBoth_s24 kT q = some o2) : Met l yX4_readBoth wsX4_readBoth ({ frames := 44 + 3 * nT + 2, cells := 0, slots := 0, locals := 1130 + 66 * nT + 44 } : Room) (va_Pc [.ref (ad 24)] (kz_pre D ty eo (wF ty ad q) sz)) (va_Qv (fun (u : va_W) => wF ty ad o2 = u) (kz_B D ty (va_A (wF ty ad q) sz)) (va_A (wF ty ad q) sz)) 0 0 (va_A (wF ty ad q) sz) := by
  refine Met.ofW (cc := cX4_readBoth) (maxL := 3) (ret := none) (by decide) rfl ?_
  intro p e s m args below meth c s₁ B hml hv
  obtain ⟨rfl, hsz, hP, hK, hD0, hN, hE⟩ := hv
  have hx := B.exec
  have hb := B.bytes
  have hr := B.returns
  have hts := atoms_spec (ws := wsX4_readBoth) B.pre
  have hown : s.vm.findClass RX4 = some m.cls := findClass_of_methodNamed B.named
  have hlocks := B.notSynchronized
  subst hsz
  have hD := hD0.self (sz := s.heap.size)
  generalize hAe : va_A (wF ty ad q) s.heap.size = A at hD hE ⊢
  have hA : ∀ q : Nat, s.heap.size ≤ q → A q := fun q h => by rw [← hAe]; exact Or.inr h
  clear hAe
  have hS : va_S A s.heap s.heap [] := va_S.rf
  have hl := lv_entry ([.ref (ad 24)]) (n := 3) (Nat.le_of_ble_eq_true rfl)
  rw [lg_entry_eq]
  generalize (lg_sl ([.ref (ad 24)]) ++ List.replicate (3 - (lg_sl ([.ref (ad 24)])).length) Slot.unset).toArray = ls at hl ⊢
  have hl : lv_has ls 3 [(0, .ref (ad 24))] := hl
  have C : dc_C p s m _ meth c cX4_readBoth none 3 RX4 wsX4_readBoth D ty eo A := ⟨hx, hb, hr, hts, hown, hlocks, hml, hK, hN, hE, hA⟩
  unfold zX4_readBoth_s24 at h
  refine lv_aload_n hx hb dX4_readBoth_0 rfl (lv_at hl 0 rfl) ?_
  obtain ⟨q3, h2, h⟩ := dV_some h
  refine dw_kv (va_runV (As := []) (rest := []) ⟨hx, hb, hml, hown, hts⟩ (qX4_readPlain_s24 l D ty eo _ ad kT nT hkT q  q3 h2) (cwV 0 hts gX4_readBoth_X4_readPlain rfl rfl rfl hd_X4_readPlain_v ⟨by dsimp only [headSpec]; omega, by dsimp only [headSpec]; omega⟩) (pvF_4_24 hK hN hE hP hD hS hA) rfl rfl hl.1 rfl (lv_room (Nat.le_of_ble_eq_true rfl)) dX4_readBoth_1 ⟨Nat.le_of_ble_eq_true rfl, Nat.le_of_ble_eq_true rfl⟩) hD hS hA (fun u9 H locs hw hp hd hs => ?_)
  clear hP hD hS
  obtain rfl := hw
  have hP := hp; have hD := hd; have hS := hs; clear hp hd hs
  refine lv_iconst (v := 0) hx hb dX4_readBoth_4 (by decide) ?_
  refine lv_istore_n (lv' := [(1, .int 0), (0, .ref (ad 24))]) hx hb dX4_readBoth_5 rfl hl (by decide) rfl (fun ls hl => ?_)
  exact WX4_readBoth_s24_6 hkT C  _ _ _ _ _ _ h hP hD hS (lv_sub hl [1, 0] rfl)
end
section
set_option maxRecDepth 20000 in
theorem ggX4_read_X7_clear : GoodIn wsX4_read wsX7_clear := wd_c vW9_ok mvW9_176
set_option maxRecDepth 20000 in
theorem gX4_read_X7_clear : GoodIn wsX4_read (wsV RX4 54 RX7 yX7_clear wsX7_clear) := goodIn_app (wd_l vW9_ok _ pvW9_35) ggX4_read_X7_clear
set_option maxRecDepth 20000 in
theorem ggX4_read_X4_step : GoodIn wsX4_read wsX4_step := wd_c vW9_ok mvW9_182
set_option maxRecDepth 20000 in
theorem gX4_read_X4_step : GoodIn wsX4_read (wsV RX4 59 RX4 yX4_step wsX4_step) := goodIn_app (wd_l vW9_ok _ pvW9_36) ggX4_read_X4_step
set_option maxRecDepth 20000 in
theorem ggX4_read_X4_fail : GoodIn wsX4_read wsX4_fail := wd_c vW9_ok mvW9_191
set_option maxRecDepth 20000 in
theorem gX4_read_X4_fail : GoodIn wsX4_read (wsV RX4 62 RX4 yX4_fail wsX4_fail) := goodIn_app (wd_l vW9_ok _ pvW9_37) ggX4_read_X4_fail
set_option maxRecDepth 20000 in
theorem ggX4_read_X4_readClause : GoodIn wsX4_read wsX4_readClause := wd_c vW9_ok mvW9_195
set_option maxRecDepth 20000 in
theorem gX4_read_X4_readClause : GoodIn wsX4_read (wsV RX4 65 RX4 yX4_readClause wsX4_readClause) := goodIn_app (wd_l vW9_ok _ pvW9_38) ggX4_read_X4_readClause
set_option maxRecDepth 20000 in
theorem ggX4_read_X4_expectSign : GoodIn wsX4_read wsX4_expectSign := wd_c vW9_ok mvW9_290
set_option maxRecDepth 20000 in
theorem gX4_read_X4_expectSign : GoodIn wsX4_read (wsV RX4 68 RX4 yX4_expectSign wsX4_expectSign) := goodIn_app (wd_l vW9_ok _ pvW9_39) ggX4_read_X4_expectSign
theorem da9_dX4_read_0 : (decode cX4_read 0 = .ok (.aload_n 0, 1)) ∧ (decode cX4_read 1 = .ok (.aload_n 1, 1)) ∧ (decode cX4_read 2 = .ok (.putfield 9, 3)) ∧ (decode cX4_read 5 = .ok (.aload_n 0, 1)) ∧ (decode cX4_read 6 = .ok (.iload_n 2, 1)) ∧ (decode cX4_read 7 = .ok (.aload_n 1, 1)) ∧ (decode cX4_read 8 = .ok (.arraylength, 1)) ∧ (decode cX4_read 9 = .ok (.invokestatic 48, 3)) ∧ (decode cX4_read 12 = .ok (.putfield 15, 3)) ∧ (decode cX4_read 15 = .ok (.aload_n 0, 1)) ∧ (decode cX4_read 16 = .ok (.iload_n 3, 1)) ∧ (decode cX4_read 17 = .ok (.putfield 19, 3)) ∧ (decode cX4_read 20 = .ok (.aload_n 0, 1)) ∧ (decode cX4_read 21 = .ok (.aload 4, 2)) ∧ (decode cX4_read 23 = .ok (.putfield 23, 3)) ∧ (decode cX4_read 26 = .ok (.aload_n 0, 1)) := by decide +kernel
theorem dX4_read_0 : decode cX4_read 0 = .ok (.aload_n 0, 1) := da9_dX4_read_0.1
theorem dX4_read_1 : decode cX4_read 1 = .ok (.aload_n 1, 1) := da9_dX4_read_0.2.1
theorem dX4_read_2 : decode cX4_read 2 = .ok (.putfield 9, 3) := da9_dX4_read_0.2.2.1
theorem dX4_read_5 : decode cX4_read 5 = .ok (.aload_n 0, 1) := da9_dX4_read_0.2.2.2.1
theorem dX4_read_6 : decode cX4_read 6 = .ok (.iload_n 2, 1) := da9_dX4_read_0.2.2.2.2.1
theorem dX4_read_7 : decode cX4_read 7 = .ok (.aload_n 1, 1) := da9_dX4_read_0.2.2.2.2.2.1
theorem dX4_read_8 : decode cX4_read 8 = .ok (.arraylength, 1) := da9_dX4_read_0.2.2.2.2.2.2.1
theorem dX4_read_9 : decode cX4_read 9 = .ok (.invokestatic 48, 3) := da9_dX4_read_0.2.2.2.2.2.2.2.1
theorem dX4_read_12 : decode cX4_read 12 = .ok (.putfield 15, 3) := da9_dX4_read_0.2.2.2.2.2.2.2.2.1
theorem dX4_read_15 : decode cX4_read 15 = .ok (.aload_n 0, 1) := da9_dX4_read_0.2.2.2.2.2.2.2.2.2.1
theorem dX4_read_16 : decode cX4_read 16 = .ok (.iload_n 3, 1) := da9_dX4_read_0.2.2.2.2.2.2.2.2.2.2.1
theorem dX4_read_17 : decode cX4_read 17 = .ok (.putfield 19, 3) := da9_dX4_read_0.2.2.2.2.2.2.2.2.2.2.2.1
theorem dX4_read_20 : decode cX4_read 20 = .ok (.aload_n 0, 1) := da9_dX4_read_0.2.2.2.2.2.2.2.2.2.2.2.2.1
theorem dX4_read_21 : decode cX4_read 21 = .ok (.aload 4, 2) := da9_dX4_read_0.2.2.2.2.2.2.2.2.2.2.2.2.2.1
theorem dX4_read_23 : decode cX4_read 23 = .ok (.putfield 23, 3) := da9_dX4_read_0.2.2.2.2.2.2.2.2.2.2.2.2.2.2.1
theorem dX4_read_26 : decode cX4_read 26 = .ok (.aload_n 0, 1) := da9_dX4_read_0.2.2.2.2.2.2.2.2.2.2.2.2.2.2.2
theorem da9_dX4_read_27 : (decode cX4_read 27 = .ok (.getfield 23, 3)) ∧ (decode cX4_read 30 = .ok (.invokevirtual 54, 3)) ∧ (decode cX4_read 33 = .ok (.aload_n 0, 1)) ∧ (decode cX4_read 34 = .ok (.iconst 0, 1)) ∧ (decode cX4_read 35 = .ok (.putfield 33, 3)) ∧ (decode cX4_read 38 = .ok (.aload_n 0, 1)) ∧ (decode cX4_read 39 = .ok (.iconst 0, 1)) ∧ (decode cX4_read 40 = .ok (.putfield 39, 3)) ∧ (decode cX4_read 43 = .ok (.aload_n 0, 1)) ∧ (decode cX4_read 44 = .ok (.iconst 0, 1)) ∧ (decode cX4_read 45 = .ok (.putfield 42, 3)) ∧ (decode cX4_read 48 = .ok (.aload_n 0, 1)) ∧ (decode cX4_read 49 = .ok (.iconst (-1), 1)) ∧ (decode cX4_read 50 = .ok (.putfield 45, 3)) ∧ (decode cX4_read 53 = .ok (.aload_n 0, 1)) ∧ (decode cX4_read 54 = .ok (.invokevirtual 59, 3)) := by decide +kernel
theorem dX4_read_27 : decode cX4_read 27 = .ok (.getfield 23, 3) := da9_dX4_read_27.1
theorem dX4_read_30 : decode cX4_read 30 = .ok (.invokevirtual 54, 3) := da9_dX4_read_27.2.1
theorem dX4_read_33 : decode cX4_read 33 = .ok (.aload_n 0, 1) := da9_dX4_read_27.2.2.1
theorem dX4_read_34 : decode cX4_read 34 = .ok (.iconst 0, 1) := da9_dX4_read_27.2.2.2.1
theorem dX4_read_35 : decode cX4_read 35 = .ok (.putfield 33, 3) := da9_dX4_read_27.2.2.2.2.1
theorem dX4_read_38 : decode cX4_read 38 = .ok (.aload_n 0, 1) := da9_dX4_read_27.2.2.2.2.2.1
theorem dX4_read_39 : decode cX4_read 39 = .ok (.iconst 0, 1) := da9_dX4_read_27.2.2.2.2.2.2.1
theorem dX4_read_40 : decode cX4_read 40 = .ok (.putfield 39, 3) := da9_dX4_read_27.2.2.2.2.2.2.2.1
theorem dX4_read_43 : decode cX4_read 43 = .ok (.aload_n 0, 1) := da9_dX4_read_27.2.2.2.2.2.2.2.2.1
theorem dX4_read_44 : decode cX4_read 44 = .ok (.iconst 0, 1) := da9_dX4_read_27.2.2.2.2.2.2.2.2.2.1
theorem dX4_read_45 : decode cX4_read 45 = .ok (.putfield 42, 3) := da9_dX4_read_27.2.2.2.2.2.2.2.2.2.2.1
theorem dX4_read_48 : decode cX4_read 48 = .ok (.aload_n 0, 1) := da9_dX4_read_27.2.2.2.2.2.2.2.2.2.2.2.1
theorem dX4_read_49 : decode cX4_read 49 = .ok (.iconst (-1), 1) := da9_dX4_read_27.2.2.2.2.2.2.2.2.2.2.2.2.1
theorem dX4_read_50 : decode cX4_read 50 = .ok (.putfield 45, 3) := da9_dX4_read_27.2.2.2.2.2.2.2.2.2.2.2.2.2.1
theorem dX4_read_53 : decode cX4_read 53 = .ok (.aload_n 0, 1) := da9_dX4_read_27.2.2.2.2.2.2.2.2.2.2.2.2.2.2.1
theorem dX4_read_54 : decode cX4_read 54 = .ok (.invokevirtual 59, 3) := da9_dX4_read_27.2.2.2.2.2.2.2.2.2.2.2.2.2.2.2
theorem da9_dX4_read_57 : (decode cX4_read 57 = .ok (.iconst 0, 1)) ∧ (decode cX4_read 58 = .ok (.istore 5, 2)) ∧ (decode cX4_read 60 = .ok (.iload 5, 2)) ∧ (decode cX4_read 62 = .ok (.bipush 12, 2)) ∧ (decode cX4_read 64 = .ok (.if_icmp .gt 58, 3)) ∧ (decode cX4_read 67 = .ok (.aload_n 0, 1)) ∧ (decode cX4_read 68 = .ok (.getfield 45, 3)) ∧ (decode cX4_read 71 = .ok (.iconst (-1), 1)) ∧ (decode cX4_read 72 = .ok (.if_icmp .ne 50, 3)) ∧ (decode cX4_read 75 = .ok (.iload 5, 2)) ∧ (decode cX4_read 77 = .ok (.bipush 12, 2)) ∧ (decode cX4_read 79 = .ok (.if_icmp .ne 10, 3)) ∧ (decode cX4_read 82 = .ok (.aload_n 0, 1)) ∧ (decode cX4_read 83 = .ok (.invokevirtual 62, 3)) ∧ (decode cX4_read 86 = .ok (.goto 7, 3)) ∧ (decode cX4_read 89 = .ok (.aload_n 0, 1)) := by decide +kernel
theorem dX4_read_57 : decode cX4_read 57 = .ok (.iconst 0, 1) := da9_dX4_read_57.1
theorem dX4_read_58 : decode cX4_read 58 = .ok (.istore 5, 2) := da9_dX4_read_57.2.1
theorem dX4_read_60 : decode cX4_read 60 = .ok (.iload 5, 2) := da9_dX4_read_57.2.2.1
theorem dX4_read_62 : decode cX4_read 62 = .ok (.bipush 12, 2) := da9_dX4_read_57.2.2.2.1
theorem dX4_read_64 : decode cX4_read 64 = .ok (.if_icmp .gt 58, 3) := da9_dX4_read_57.2.2.2.2.1
theorem dX4_read_67 : decode cX4_read 67 = .ok (.aload_n 0, 1) := da9_dX4_read_57.2.2.2.2.2.1
theorem dX4_read_68 : decode cX4_read 68 = .ok (.getfield 45, 3) := da9_dX4_read_57.2.2.2.2.2.2.1
theorem dX4_read_71 : decode cX4_read 71 = .ok (.iconst (-1), 1) := da9_dX4_read_57.2.2.2.2.2.2.2.1
theorem dX4_read_72 : decode cX4_read 72 = .ok (.if_icmp .ne 50, 3) := da9_dX4_read_57.2.2.2.2.2.2.2.2.1
theorem dX4_read_75 : decode cX4_read 75 = .ok (.iload 5, 2) := da9_dX4_read_57.2.2.2.2.2.2.2.2.2.1
theorem dX4_read_77 : decode cX4_read 77 = .ok (.bipush 12, 2) := da9_dX4_read_57.2.2.2.2.2.2.2.2.2.2.1
theorem dX4_read_79 : decode cX4_read 79 = .ok (.if_icmp .ne 10, 3) := da9_dX4_read_57.2.2.2.2.2.2.2.2.2.2.2.1
theorem dX4_read_82 : decode cX4_read 82 = .ok (.aload_n 0, 1) := da9_dX4_read_57.2.2.2.2.2.2.2.2.2.2.2.2.1
theorem dX4_read_83 : decode cX4_read 83 = .ok (.invokevirtual 62, 3) := da9_dX4_read_57.2.2.2.2.2.2.2.2.2.2.2.2.2.1
theorem dX4_read_86 : decode cX4_read 86 = .ok (.goto 7, 3) := da9_dX4_read_57.2.2.2.2.2.2.2.2.2.2.2.2.2.2.1
theorem dX4_read_89 : decode cX4_read 89 = .ok (.aload_n 0, 1) := da9_dX4_read_57.2.2.2.2.2.2.2.2.2.2.2.2.2.2.2
theorem da9_dX4_read_90 : (decode cX4_read 90 = .ok (.invokevirtual 65, 3)) ∧ (decode cX4_read 93 = .ok (.aload_n 0, 1)) ∧ (decode cX4_read 94 = .ok (.getfield 45, 3)) ∧ (decode cX4_read 97 = .ok (.iconst (-1), 1)) ∧ (decode cX4_read 98 = .ok (.if_icmp .ne 12, 3)) ∧ (decode cX4_read 101 = .ok (.aload_n 0, 1)) ∧ (decode cX4_read 102 = .ok (.getfield 27, 3)) ∧ (decode cX4_read 105 = .ok (.ifCond .ne 5, 3)) ∧ (decode cX4_read 108 = .ok (.iconst (-1), 1)) ∧ (decode cX4_read 109 = .ok (.ireturn, 1)) ∧ (decode cX4_read 110 = .ok (.aload_n 0, 1)) ∧ (decode cX4_read 111 = .ok (.bipush 59, 2)) ∧ (decode cX4_read 113 = .ok (.invokevirtual 68, 3)) ∧ (decode cX4_read 116 = .ok (.iinc 5 1, 3)) ∧ (decode cX4_read 119 = .ok (.goto (-59), 3)) ∧ (decode cX4_read 122 = .ok (.aload_n 0, 1)) := by decide +kernel
theorem dX4_read_90 : decode cX4_read 90 = .ok (.invokevirtual 65, 3) := da9_dX4_read_90.1
theorem dX4_read_93 : decode cX4_read 93 = .ok (.aload_n 0, 1) := da9_dX4_read_90.2.1
theorem dX4_read_94 : decode cX4_read 94 = .ok (.getfield 45, 3) := da9_dX4_read_90.2.2.1
theorem dX4_read_97 : decode cX4_read 97 = .ok (.iconst (-1), 1) := da9_dX4_read_90.2.2.2.1
theorem dX4_read_98 : decode cX4_read 98 = .ok (.if_icmp .ne 12, 3) := da9_dX4_read_90.2.2.2.2.1
theorem dX4_read_101 : decode cX4_read 101 = .ok (.aload_n 0, 1) := da9_dX4_read_90.2.2.2.2.2.1
theorem dX4_read_102 : decode cX4_read 102 = .ok (.getfield 27, 3) := da9_dX4_read_90.2.2.2.2.2.2.1
theorem dX4_read_105 : decode cX4_read 105 = .ok (.ifCond .ne 5, 3) := da9_dX4_read_90.2.2.2.2.2.2.2.1
theorem dX4_read_108 : decode cX4_read 108 = .ok (.iconst (-1), 1) := da9_dX4_read_90.2.2.2.2.2.2.2.2.1
theorem dX4_read_109 : decode cX4_read 109 = .ok (.ireturn, 1) := da9_dX4_read_90.2.2.2.2.2.2.2.2.2.1
theorem dX4_read_110 : decode cX4_read 110 = .ok (.aload_n 0, 1) := da9_dX4_read_90.2.2.2.2.2.2.2.2.2.2.1
theorem dX4_read_111 : decode cX4_read 111 = .ok (.bipush 59, 2) := da9_dX4_read_90.2.2.2.2.2.2.2.2.2.2.2.1
theorem dX4_read_113 : decode cX4_read 113 = .ok (.invokevirtual 68, 3) := da9_dX4_read_90.2.2.2.2.2.2.2.2.2.2.2.2.1
theorem dX4_read_116 : decode cX4_read 116 = .ok (.iinc 5 1, 3) := da9_dX4_read_90.2.2.2.2.2.2.2.2.2.2.2.2.2.1
theorem dX4_read_119 : decode cX4_read 119 = .ok (.goto (-59), 3) := da9_dX4_read_90.2.2.2.2.2.2.2.2.2.2.2.2.2.2.1
theorem dX4_read_122 : decode cX4_read 122 = .ok (.aload_n 0, 1) := da9_dX4_read_90.2.2.2.2.2.2.2.2.2.2.2.2.2.2.2
theorem da9_dX4_read_123 : (decode cX4_read 123 = .ok (.getfield 45, 3)) ∧ (decode cX4_read 126 = .ok (.ireturn, 1)) := by decide +kernel
theorem dX4_read_123 : decode cX4_read 123 = .ok (.getfield 45, 3) := da9_dX4_read_123.1
theorem dX4_read_126 : decode cX4_read 126 = .ok (.ireturn, 1) := da9_dX4_read_123.2
set_option maxRecDepth 20000 in
theorem ggX4_readClause_X4_wordIn : GoodIn wsX4_readClause wsX4_wordIn := wd_c vW9_ok mvW9_199
set_option maxRecDepth 20000 in
theorem gX4_readClause_X4_wordIn : GoodIn wsX4_readClause (wsV RX4 76 RX4 yX4_wordIn wsX4_wordIn) := goodIn_app (wd_l vW9_ok _ pvW9_40) ggX4_readClause_X4_wordIn
set_option maxRecDepth 20000 in
theorem ggX4_readClause_X4_fail : GoodIn wsX4_readClause wsX4_fail := wd_c vW9_ok mvW9_191
set_option maxRecDepth 20000 in
theorem gX4_readClause_X4_fail : GoodIn wsX4_readClause (wsV RX4 62 RX4 yX4_fail wsX4_fail) := goodIn_app (wd_l vW9_ok _ pvW9_37) ggX4_readClause_X4_fail
set_option maxRecDepth 20000 in
theorem ggX4_readClause_X7_beginClause : GoodIn wsX4_readClause wsX7_beginClause := wd_c vW9_ok mvW9_256
set_option maxRecDepth 20000 in
theorem gX4_readClause_X7_beginClause : GoodIn wsX4_readClause (wsV RX4 80 RX7 yX7_beginClause wsX7_beginClause) := goodIn_app (wd_l vW9_ok _ pvW9_41) ggX4_readClause_X7_beginClause
set_option maxRecDepth 20000 in
theorem ggX4_readClause_X4_step : GoodIn wsX4_readClause wsX4_step := wd_c vW9_ok mvW9_182
set_option maxRecDepth 20000 in
theorem gX4_readClause_X4_step : GoodIn wsX4_readClause (wsV RX4 59 RX4 yX4_step wsX4_step) := goodIn_app (wd_l vW9_ok _ pvW9_36) ggX4_readClause_X4_step
set_option maxRecDepth 20000 in
theorem ggX4_readClause_X4_readSum : GoodIn wsX4_readClause wsX4_readSum := wd_c vW9_ok mvW9_265
set_option maxRecDepth 20000 in
theorem gX4_readClause_X4_readSum : GoodIn wsX4_readClause (wsV RX4 84 RX4 yX4_readSum wsX4_readSum) := goodIn_app (wd_l vW9_ok _ pvW9_42) ggX4_readClause_X4_readSum
set_option maxRecDepth 20000 in
theorem ggX4_readClause_X7_endSum : GoodIn wsX4_readClause wsX7_endSum := wd_c vW9_ok mvW9_302
set_option maxRecDepth 20000 in
theorem gX4_readClause_X7_endSum : GoodIn wsX4_readClause (wsV RX4 87 RX7 yX7_endSum wsX7_endSum) := goodIn_app (wd_l vW9_ok _ pvW9_43) ggX4_readClause_X7_endSum
set_option maxRecDepth 20000 in
theorem ggX4_readClause_X4_isWord : GoodIn wsX4_readClause wsX4_isWord := wd_c vW9_ok mvW9_306
set_option maxRecDepth 20000 in
theorem gX4_readClause_X4_isWord : GoodIn wsX4_readClause (wsV RX4 92 RX4 yX4_isWord wsX4_isWord) := goodIn_app (wd_l vW9_ok _ pvW9_44) ggX4_readClause_X4_isWord
set_option maxRecDepth 20000 in
theorem ggX4_readClause_X4_readTimes : GoodIn wsX4_readClause wsX4_readTimes := wd_c vW9_ok mvW9_310
set_option maxRecDepth 20000 in
theorem gX4_readClause_X4_readTimes : GoodIn wsX4_readClause (wsV RX4 96 RX4 yX4_readTimes wsX4_readTimes) := goodIn_app (wd_l vW9_ok _ pvW9_45) ggX4_readClause_X4_readTimes
set_option maxRecDepth 20000 in
theorem ggX4_readClause_X4_readTest : GoodIn wsX4_readClause wsX4_readTest := wd_c vW9_ok mvW9_318
set_option maxRecDepth 20000 in
theorem gX4_readClause_X4_readTest : GoodIn wsX4_readClause (wsV RX4 101 RX4 yX4_readTest wsX4_readTest) := goodIn_app (wd_l vW9_ok _ pvW9_46) ggX4_readClause_X4_readTest
set_option maxRecDepth 20000 in
theorem ggX4_readClause_X7_endTest : GoodIn wsX4_readClause wsX7_endTest := wd_c vW9_ok mvW9_334
set_option maxRecDepth 20000 in
theorem gX4_readClause_X7_endTest : GoodIn wsX4_readClause (wsV RX4 104 RX7 yX7_endTest wsX7_endTest) := goodIn_app (wd_l vW9_ok _ pvW9_47) ggX4_readClause_X7_endTest
theorem da9_dX4_readClause_0 : (decode cX4_readClause 0 = .ok (.aload_n 0, 1)) ∧ (decode cX4_readClause 1 = .ok (.aload_n 0, 1)) ∧ (decode cX4_readClause 2 = .ok (.getfield 19, 3)) ∧ (decode cX4_readClause 5 = .ok (.ifCond .eq 8, 3)) ∧ (decode cX4_readClause 8 = .ok (.ldc 72, 2)) ∧ (decode cX4_readClause 10 = .ok (.goto 5, 3)) ∧ (decode cX4_readClause 13 = .ok (.ldc 74, 2)) ∧ (decode cX4_readClause 15 = .ok (.invokevirtual 76, 3)) ∧ (decode cX4_readClause 18 = .ok (.istore_n 1, 1)) ∧ (decode cX4_readClause 19 = .ok (.iload_n 1, 1)) ∧ (decode cX4_readClause 20 = .ok (.iconst (-1), 1)) ∧ (decode cX4_readClause 21 = .ok (.if_icmp .ne 8, 3)) ∧ (decode cX4_readClause 24 = .ok (.aload_n 0, 1)) ∧ (decode cX4_readClause 25 = .ok (.invokevirtual 62, 3)) ∧ (decode cX4_readClause 28 = .ok (.return_, 1)) ∧ (decode cX4_readClause 29 = .ok (.aload_n 0, 1)) := by decide +kernel
theorem dX4_readClause_0 : decode cX4_readClause 0 = .ok (.aload_n 0, 1) := da9_dX4_readClause_0.1
theorem dX4_readClause_1 : decode cX4_readClause 1 = .ok (.aload_n 0, 1) := da9_dX4_readClause_0.2.1
theorem dX4_readClause_2 : decode cX4_readClause 2 = .ok (.getfield 19, 3) := da9_dX4_readClause_0.2.2.1
theorem dX4_readClause_5 : decode cX4_readClause 5 = .ok (.ifCond .eq 8, 3) := da9_dX4_readClause_0.2.2.2.1
theorem dX4_readClause_8 : decode cX4_readClause 8 = .ok (.ldc 72, 2) := da9_dX4_readClause_0.2.2.2.2.1
theorem dX4_readClause_10 : decode cX4_readClause 10 = .ok (.goto 5, 3) := da9_dX4_readClause_0.2.2.2.2.2.1
theorem dX4_readClause_13 : decode cX4_readClause 13 = .ok (.ldc 74, 2) := da9_dX4_readClause_0.2.2.2.2.2.2.1
theorem dX4_readClause_15 : decode cX4_readClause 15 = .ok (.invokevirtual 76, 3) := da9_dX4_readClause_0.2.2.2.2.2.2.2.1
theorem dX4_readClause_18 : decode cX4_readClause 18 = .ok (.istore_n 1, 1) := da9_dX4_readClause_0.2.2.2.2.2.2.2.2.1
theorem dX4_readClause_19 : decode cX4_readClause 19 = .ok (.iload_n 1, 1) := da9_dX4_readClause_0.2.2.2.2.2.2.2.2.2.1
theorem dX4_readClause_20 : decode cX4_readClause 20 = .ok (.iconst (-1), 1) := da9_dX4_readClause_0.2.2.2.2.2.2.2.2.2.2.1
theorem dX4_readClause_21 : decode cX4_readClause 21 = .ok (.if_icmp .ne 8, 3) := da9_dX4_readClause_0.2.2.2.2.2.2.2.2.2.2.2.1
theorem dX4_readClause_24 : decode cX4_readClause 24 = .ok (.aload_n 0, 1) := da9_dX4_readClause_0.2.2.2.2.2.2.2.2.2.2.2.2.1
theorem dX4_readClause_25 : decode cX4_readClause 25 = .ok (.invokevirtual 62, 3) := da9_dX4_readClause_0.2.2.2.2.2.2.2.2.2.2.2.2.2.1
theorem dX4_readClause_28 : decode cX4_readClause 28 = .ok (.return_, 1) := da9_dX4_readClause_0.2.2.2.2.2.2.2.2.2.2.2.2.2.2.1
theorem dX4_readClause_29 : decode cX4_readClause 29 = .ok (.aload_n 0, 1) := da9_dX4_readClause_0.2.2.2.2.2.2.2.2.2.2.2.2.2.2.2
theorem da9_dX4_readClause_30 : (decode cX4_readClause 30 = .ok (.getfield 23, 3)) ∧ (decode cX4_readClause 33 = .ok (.iload_n 1, 1)) ∧ (decode cX4_readClause 34 = .ok (.invokevirtual 80, 3)) ∧ (decode cX4_readClause 37 = .ok (.aload_n 0, 1)) ∧ (decode cX4_readClause 38 = .ok (.invokevirtual 59, 3)) ∧ (decode cX4_readClause 41 = .ok (.aload_n 0, 1)) ∧ (decode cX4_readClause 42 = .ok (.getfield 19, 3)) ∧ (decode cX4_readClause 45 = .ok (.ifCond .eq 11, 3)) ∧ (decode cX4_readClause 48 = .ok (.iload_n 1, 1)) ∧ (decode cX4_readClause 49 = .ok (.iconst 3, 1)) ∧ (decode cX4_readClause 50 = .ok (.if_icmp .eq 21, 3)) ∧ (decode cX4_readClause 53 = .ok (.goto 7, 3)) ∧ (decode cX4_readClause 56 = .ok (.iload_n 1, 1)) ∧ (decode cX4_readClause 57 = .ok (.ifCond .ne 14, 3)) ∧ (decode cX4_readClause 60 = .ok (.aload_n 0, 1)) ∧ (decode cX4_readClause 61 = .ok (.invokevirtual 84, 3)) := by decide +kernel
theorem dX4_readClause_30 : decode cX4_readClause 30 = .ok (.getfield 23, 3) := da9_dX4_readClause_30.1
theorem dX4_readClause_33 : decode cX4_readClause 33 = .ok (.iload_n 1, 1) := da9_dX4_readClause_30.2.1
theorem dX4_readClause_34 : decode cX4_readClause 34 = .ok (.invokevirtual 80, 3) := da9_dX4_readClause_30.2.2.1
theorem dX4_readClause_37 : decode cX4_readClause 37 = .ok (.aload_n 0, 1) := da9_dX4_readClause_30.2.2.2.1
theorem dX4_readClause_38 : decode cX4_readClause 38 = .ok (.invokevirtual 59, 3) := da9_dX4_readClause_30.2.2.2.2.1
theorem dX4_readClause_41 : decode cX4_readClause 41 = .ok (.aload_n 0, 1) := da9_dX4_readClause_30.2.2.2.2.2.1
theorem dX4_readClause_42 : decode cX4_readClause 42 = .ok (.getfield 19, 3) := da9_dX4_readClause_30.2.2.2.2.2.2.1
theorem dX4_readClause_45 : decode cX4_readClause 45 = .ok (.ifCond .eq 11, 3) := da9_dX4_readClause_30.2.2.2.2.2.2.2.1
theorem dX4_readClause_48 : decode cX4_readClause 48 = .ok (.iload_n 1, 1) := da9_dX4_readClause_30.2.2.2.2.2.2.2.2.1
theorem dX4_readClause_49 : decode cX4_readClause 49 = .ok (.iconst 3, 1) := da9_dX4_readClause_30.2.2.2.2.2.2.2.2.2.1
theorem dX4_readClause_50 : decode cX4_readClause 50 = .ok (.if_icmp .eq 21, 3) := da9_dX4_readClause_30.2.2.2.2.2.2.2.2.2.2.1
theorem dX4_readClause_53 : decode cX4_readClause 53 = .ok (.goto 7, 3) := da9_dX4_readClause_30.2.2.2.2.2.2.2.2.2.2.2.1
theorem dX4_readClause_56 : decode cX4_readClause 56 = .ok (.iload_n 1, 1) := da9_dX4_readClause_30.2.2.2.2.2.2.2.2.2.2.2.2.1
theorem dX4_readClause_57 : decode cX4_readClause 57 = .ok (.ifCond .ne 14, 3) := da9_dX4_readClause_30.2.2.2.2.2.2.2.2.2.2.2.2.2.1
theorem dX4_readClause_60 : decode cX4_readClause 60 = .ok (.aload_n 0, 1) := da9_dX4_readClause_30.2.2.2.2.2.2.2.2.2.2.2.2.2.2.1
theorem dX4_readClause_61 : decode cX4_readClause 61 = .ok (.invokevirtual 84, 3) := da9_dX4_readClause_30.2.2.2.2.2.2.2.2.2.2.2.2.2.2.2
theorem da9_dX4_readClause_64 : (decode cX4_readClause 64 = .ok (.aload_n 0, 1)) ∧ (decode cX4_readClause 65 = .ok (.getfield 23, 3)) ∧ (decode cX4_readClause 68 = .ok (.invokevirtual 87, 3)) ∧ (decode cX4_readClause 71 = .ok (.aload_n 0, 1)) ∧ (decode cX4_readClause 72 = .ok (.getfield 19, 3)) ∧ (decode cX4_readClause 75 = .ok (.ifCond .eq 28, 3)) ∧ (decode cX4_readClause 78 = .ok (.aload_n 0, 1)) ∧ (decode cX4_readClause 79 = .ok (.getfield 45, 3)) ∧ (decode cX4_readClause 82 = .ok (.iconst (-1), 1)) ∧ (decode cX4_readClause 83 = .ok (.if_icmp .ne 20, 3)) ∧ (decode cX4_readClause 86 = .ok (.aload_n 0, 1)) ∧ (decode cX4_readClause 87 = .ok (.ldc 90, 2)) ∧ (decode cX4_readClause 89 = .ok (.invokevirtual 92, 3)) ∧ (decode cX4_readClause 92 = .ok (.ifCond .eq 11, 3)) ∧ (decode cX4_readClause 95 = .ok (.aload_n 0, 1)) ∧ (decode cX4_readClause 96 = .ok (.invokevirtual 59, 3)) := by decide +kernel
theorem dX4_readClause_64 : decode cX4_readClause 64 = .ok (.aload_n 0, 1) := da9_dX4_readClause_64.1
theorem dX4_readClause_65 : decode cX4_readClause 65 = .ok (.getfield 23, 3) := da9_dX4_readClause_64.2.1
theorem dX4_readClause_68 : decode cX4_readClause 68 = .ok (.invokevirtual 87, 3) := da9_dX4_readClause_64.2.2.1
theorem dX4_readClause_71 : decode cX4_readClause 71 = .ok (.aload_n 0, 1) := da9_dX4_readClause_64.2.2.2.1
theorem dX4_readClause_72 : decode cX4_readClause 72 = .ok (.getfield 19, 3) := da9_dX4_readClause_64.2.2.2.2.1
theorem dX4_readClause_75 : decode cX4_readClause 75 = .ok (.ifCond .eq 28, 3) := da9_dX4_readClause_64.2.2.2.2.2.1
theorem dX4_readClause_78 : decode cX4_readClause 78 = .ok (.aload_n 0, 1) := da9_dX4_readClause_64.2.2.2.2.2.2.1
theorem dX4_readClause_79 : decode cX4_readClause 79 = .ok (.getfield 45, 3) := da9_dX4_readClause_64.2.2.2.2.2.2.2.1
theorem dX4_readClause_82 : decode cX4_readClause 82 = .ok (.iconst (-1), 1) := da9_dX4_readClause_64.2.2.2.2.2.2.2.2.1
theorem dX4_readClause_83 : decode cX4_readClause 83 = .ok (.if_icmp .ne 20, 3) := da9_dX4_readClause_64.2.2.2.2.2.2.2.2.2.1
theorem dX4_readClause_86 : decode cX4_readClause 86 = .ok (.aload_n 0, 1) := da9_dX4_readClause_64.2.2.2.2.2.2.2.2.2.2.1
theorem dX4_readClause_87 : decode cX4_readClause 87 = .ok (.ldc 90, 2) := da9_dX4_readClause_64.2.2.2.2.2.2.2.2.2.2.2.1
theorem dX4_readClause_89 : decode cX4_readClause 89 = .ok (.invokevirtual 92, 3) := da9_dX4_readClause_64.2.2.2.2.2.2.2.2.2.2.2.2.1
theorem dX4_readClause_92 : decode cX4_readClause 92 = .ok (.ifCond .eq 11, 3) := da9_dX4_readClause_64.2.2.2.2.2.2.2.2.2.2.2.2.2.1
theorem dX4_readClause_95 : decode cX4_readClause 95 = .ok (.aload_n 0, 1) := da9_dX4_readClause_64.2.2.2.2.2.2.2.2.2.2.2.2.2.2.1
theorem dX4_readClause_96 : decode cX4_readClause 96 = .ok (.invokevirtual 59, 3) := da9_dX4_readClause_64.2.2.2.2.2.2.2.2.2.2.2.2.2.2.2
theorem da9_dX4_readClause_99 : (decode cX4_readClause 99 = .ok (.aload_n 0, 1)) ∧ (decode cX4_readClause 100 = .ok (.invokevirtual 96, 3)) ∧ (decode cX4_readClause 103 = .ok (.aload_n 0, 1)) ∧ (decode cX4_readClause 104 = .ok (.getfield 45, 3)) ∧ (decode cX4_readClause 107 = .ok (.iconst (-1), 1)) ∧ (decode cX4_readClause 108 = .ok (.if_icmp .ne 27, 3)) ∧ (decode cX4_readClause 111 = .ok (.aload_n 0, 1)) ∧ (decode cX4_readClause 112 = .ok (.ldc 99, 2)) ∧ (decode cX4_readClause 114 = .ok (.invokevirtual 92, 3)) ∧ (decode cX4_readClause 117 = .ok (.ifCond .eq 18, 3)) ∧ (decode cX4_readClause 120 = .ok (.aload_n 0, 1)) ∧ (decode cX4_readClause 121 = .ok (.invokevirtual 59, 3)) ∧ (decode cX4_readClause 124 = .ok (.aload_n 0, 1)) ∧ (decode cX4_readClause 125 = .ok (.invokevirtual 101, 3)) ∧ (decode cX4_readClause 128 = .ok (.aload_n 0, 1)) ∧ (decode cX4_readClause 129 = .ok (.getfield 23, 3)) := by decide +kernel
theorem dX4_readClause_99 : decode cX4_readClause 99 = .ok (.aload_n 0, 1) := da9_dX4_readClause_99.1
theorem dX4_readClause_100 : decode cX4_readClause 100 = .ok (.invokevirtual 96, 3) := da9_dX4_readClause_99.2.1
theorem dX4_readClause_103 : decode cX4_readClause 103 = .ok (.aload_n 0, 1) := da9_dX4_readClause_99.2.2.1
theorem dX4_readClause_104 : decode cX4_readClause 104 = .ok (.getfield 45, 3) := da9_dX4_readClause_99.2.2.2.1
theorem dX4_readClause_107 : decode cX4_readClause 107 = .ok (.iconst (-1), 1) := da9_dX4_readClause_99.2.2.2.2.1
theorem dX4_readClause_108 : decode cX4_readClause 108 = .ok (.if_icmp .ne 27, 3) := da9_dX4_readClause_99.2.2.2.2.2.1
theorem dX4_readClause_111 : decode cX4_readClause 111 = .ok (.aload_n 0, 1) := da9_dX4_readClause_99.2.2.2.2.2.2.1
theorem dX4_readClause_112 : decode cX4_readClause 112 = .ok (.ldc 99, 2) := da9_dX4_readClause_99.2.2.2.2.2.2.2.1
theorem dX4_readClause_114 : decode cX4_readClause 114 = .ok (.invokevirtual 92, 3) := da9_dX4_readClause_99.2.2.2.2.2.2.2.2.1
theorem dX4_readClause_117 : decode cX4_readClause 117 = .ok (.ifCond .eq 18, 3) := da9_dX4_readClause_99.2.2.2.2.2.2.2.2.2.1
theorem dX4_readClause_120 : decode cX4_readClause 120 = .ok (.aload_n 0, 1) := da9_dX4_readClause_99.2.2.2.2.2.2.2.2.2.2.1
theorem dX4_readClause_121 : decode cX4_readClause 121 = .ok (.invokevirtual 59, 3) := da9_dX4_readClause_99.2.2.2.2.2.2.2.2.2.2.2.1
theorem dX4_readClause_124 : decode cX4_readClause 124 = .ok (.aload_n 0, 1) := da9_dX4_readClause_99.2.2.2.2.2.2.2.2.2.2.2.2.1
theorem dX4_readClause_125 : decode cX4_readClause 125 = .ok (.invokevirtual 101, 3) := da9_dX4_readClause_99.2.2.2.2.2.2.2.2.2.2.2.2.2.1
theorem dX4_readClause_128 : decode cX4_readClause 128 = .ok (.aload_n 0, 1) := da9_dX4_readClause_99.2.2.2.2.2.2.2.2.2.2.2.2.2.2.1
theorem dX4_readClause_129 : decode cX4_readClause 129 = .ok (.getfield 23, 3) := da9_dX4_readClause_99.2.2.2.2.2.2.2.2.2.2.2.2.2.2.2
theorem da9_dX4_readClause_132 : (decode cX4_readClause 132 = .ok (.invokevirtual 104, 3)) ∧ (decode cX4_readClause 135 = .ok (.return_, 1)) := by decide +kernel
theorem dX4_readClause_132 : decode cX4_readClause 132 = .ok (.invokevirtual 104, 3) := da9_dX4_readClause_132.1
theorem dX4_readClause_135 : decode cX4_readClause 135 = .ok (.return_, 1) := da9_dX4_readClause_132.2
set_option maxRecDepth 20000 in
theorem ggX4_readTest_X4_readBoth : GoodIn wsX4_readTest wsX4_readBoth := wd_c vW9_ok mvW9_326
set_option maxRecDepth 20000 in
theorem gX4_readTest_X4_readBoth : GoodIn wsX4_readTest (wsV RX4 110 RX4 yX4_readBoth wsX4_readBoth) := goodIn_app (wd_l vW9_ok _ pvW9_49) ggX4_readTest_X4_readBoth
set_option maxRecDepth 20000 in
theorem ggX4_readTest_X4_isWord : GoodIn wsX4_readTest wsX4_isWord := wd_c vW9_ok mvW9_306
set_option maxRecDepth 20000 in
theorem gX4_readTest_X4_isWord : GoodIn wsX4_readTest (wsV RX4 92 RX4 yX4_isWord wsX4_isWord) := goodIn_app (wd_l vW9_ok _ pvW9_44) ggX4_readTest_X4_isWord
set_option maxRecDepth 20000 in
theorem ggX4_readTest_X7_emit : GoodIn wsX4_readTest wsX7_emit := wd_c vW9_ok mvW9_280
set_option maxRecDepth 20000 in
theorem gX4_readTest_X7_emit : GoodIn wsX4_readTest (wsV RX4 116 RX7 yX7_emit wsX7_emit) := goodIn_app (wd_l vW9_ok _ pvW9_50) ggX4_readTest_X7_emit
set_option maxRecDepth 20000 in
theorem ggX4_readTest_X4_step : GoodIn wsX4_readTest wsX4_step := wd_c vW9_ok mvW9_182
set_option maxRecDepth 20000 in
theorem gX4_readTest_X4_step : GoodIn wsX4_readTest (wsV RX4 59 RX4 yX4_step wsX4_step) := goodIn_app (wd_l vW9_ok _ pvW9_36) ggX4_readTest_X4_step
set_option maxRecDepth 20000 in
theorem ggX4_readTest_X7_leapHere : GoodIn wsX4_readTest wsX7_leapHere := wd_c vW9_ok mvW9_325
set_option maxRecDepth 20000 in
theorem gX4_readTest_X7_leapHere : GoodIn wsX4_readTest (wsV RX4 120 RX7 yX7_leapHere wsX7_leapHere) := goodIn_app (wd_l vW9_ok _ pvW9_51) ggX4_readTest_X7_leapHere
theorem da9_dX4_readTest_0 : (decode cX4_readTest 0 = .ok (.aload_n 0, 1)) ∧ (decode cX4_readTest 1 = .ok (.invokevirtual 110, 3)) ∧ (decode cX4_readTest 4 = .ok (.iconst 0, 1)) ∧ (decode cX4_readTest 5 = .ok (.istore_n 1, 1)) ∧ (decode cX4_readTest 6 = .ok (.iload_n 1, 1)) ∧ (decode cX4_readTest 7 = .ok (.aload_n 0, 1)) ∧ (decode cX4_readTest 8 = .ok (.getfield 15, 3)) ∧ (decode cX4_readTest 11 = .ok (.if_icmp .ge 62, 3)) ∧ (decode cX4_readTest 14 = .ok (.aload_n 0, 1)) ∧ (decode cX4_readTest 15 = .ok (.getfield 45, 3)) ∧ (decode cX4_readTest 18 = .ok (.iconst (-1), 1)) ∧ (decode cX4_readTest 19 = .ok (.if_icmp .ne 54, 3)) ∧ (decode cX4_readTest 22 = .ok (.aload_n 0, 1)) ∧ (decode cX4_readTest 23 = .ok (.ldc 113, 2)) ∧ (decode cX4_readTest 25 = .ok (.invokevirtual 92, 3)) ∧ (decode cX4_readTest 28 = .ok (.ifCond .eq 45, 3)) := by decide +kernel
theorem dX4_readTest_0 : decode cX4_readTest 0 = .ok (.aload_n 0, 1) := da9_dX4_readTest_0.1
theorem dX4_readTest_1 : decode cX4_readTest 1 = .ok (.invokevirtual 110, 3) := da9_dX4_readTest_0.2.1
theorem dX4_readTest_4 : decode cX4_readTest 4 = .ok (.iconst 0, 1) := da9_dX4_readTest_0.2.2.1
theorem dX4_readTest_5 : decode cX4_readTest 5 = .ok (.istore_n 1, 1) := da9_dX4_readTest_0.2.2.2.1
theorem dX4_readTest_6 : decode cX4_readTest 6 = .ok (.iload_n 1, 1) := da9_dX4_readTest_0.2.2.2.2.1
theorem dX4_readTest_7 : decode cX4_readTest 7 = .ok (.aload_n 0, 1) := da9_dX4_readTest_0.2.2.2.2.2.1
theorem dX4_readTest_8 : decode cX4_readTest 8 = .ok (.getfield 15, 3) := da9_dX4_readTest_0.2.2.2.2.2.2.1
theorem dX4_readTest_11 : decode cX4_readTest 11 = .ok (.if_icmp .ge 62, 3) := da9_dX4_readTest_0.2.2.2.2.2.2.2.1
theorem dX4_readTest_14 : decode cX4_readTest 14 = .ok (.aload_n 0, 1) := da9_dX4_readTest_0.2.2.2.2.2.2.2.2.1
theorem dX4_readTest_15 : decode cX4_readTest 15 = .ok (.getfield 45, 3) := da9_dX4_readTest_0.2.2.2.2.2.2.2.2.2.1
theorem dX4_readTest_18 : decode cX4_readTest 18 = .ok (.iconst (-1), 1) := da9_dX4_readTest_0.2.2.2.2.2.2.2.2.2.2.1
theorem dX4_readTest_19 : decode cX4_readTest 19 = .ok (.if_icmp .ne 54, 3) := da9_dX4_readTest_0.2.2.2.2.2.2.2.2.2.2.2.1
theorem dX4_readTest_22 : decode cX4_readTest 22 = .ok (.aload_n 0, 1) := da9_dX4_readTest_0.2.2.2.2.2.2.2.2.2.2.2.2.1
theorem dX4_readTest_23 : decode cX4_readTest 23 = .ok (.ldc 113, 2) := da9_dX4_readTest_0.2.2.2.2.2.2.2.2.2.2.2.2.2.1
theorem dX4_readTest_25 : decode cX4_readTest 25 = .ok (.invokevirtual 92, 3) := da9_dX4_readTest_0.2.2.2.2.2.2.2.2.2.2.2.2.2.2.1
theorem dX4_readTest_28 : decode cX4_readTest 28 = .ok (.ifCond .eq 45, 3) := da9_dX4_readTest_0.2.2.2.2.2.2.2.2.2.2.2.2.2.2.2
theorem da9_dX4_readTest_31 : (decode cX4_readTest 31 = .ok (.aload_n 0, 1)) ∧ (decode cX4_readTest 32 = .ok (.getfield 23, 3)) ∧ (decode cX4_readTest 35 = .ok (.getfield 115, 3)) ∧ (decode cX4_readTest 38 = .ok (.istore_n 2, 1)) ∧ (decode cX4_readTest 39 = .ok (.aload_n 0, 1)) ∧ (decode cX4_readTest 40 = .ok (.getfield 23, 3)) ∧ (decode cX4_readTest 43 = .ok (.bipush 12, 2)) ∧ (decode cX4_readTest 45 = .ok (.iconst 0, 1)) ∧ (decode cX4_readTest 46 = .ok (.invokevirtual 116, 3)) ∧ (decode cX4_readTest 49 = .ok (.aload_n 0, 1)) ∧ (decode cX4_readTest 50 = .ok (.invokevirtual 59, 3)) ∧ (decode cX4_readTest 53 = .ok (.aload_n 0, 1)) ∧ (decode cX4_readTest 54 = .ok (.invokevirtual 110, 3)) ∧ (decode cX4_readTest 57 = .ok (.aload_n 0, 1)) ∧ (decode cX4_readTest 58 = .ok (.getfield 23, 3)) ∧ (decode cX4_readTest 61 = .ok (.bipush 12, 2)) := by decide +kernel
theorem dX4_readTest_31 : decode cX4_readTest 31 = .ok (.aload_n 0, 1) := da9_dX4_readTest_31.1
theorem dX4_readTest_32 : decode cX4_readTest 32 = .ok (.getfield 23, 3) := da9_dX4_readTest_31.2.1
theorem dX4_readTest_35 : decode cX4_readTest 35 = .ok (.getfield 115, 3) := da9_dX4_readTest_31.2.2.1
theorem dX4_readTest_38 : decode cX4_readTest 38 = .ok (.istore_n 2, 1) := da9_dX4_readTest_31.2.2.2.1
theorem dX4_readTest_39 : decode cX4_readTest 39 = .ok (.aload_n 0, 1) := da9_dX4_readTest_31.2.2.2.2.1
theorem dX4_readTest_40 : decode cX4_readTest 40 = .ok (.getfield 23, 3) := da9_dX4_readTest_31.2.2.2.2.2.1
theorem dX4_readTest_43 : decode cX4_readTest 43 = .ok (.bipush 12, 2) := da9_dX4_readTest_31.2.2.2.2.2.2.1
theorem dX4_readTest_45 : decode cX4_readTest 45 = .ok (.iconst 0, 1) := da9_dX4_readTest_31.2.2.2.2.2.2.2.1
theorem dX4_readTest_46 : decode cX4_readTest 46 = .ok (.invokevirtual 116, 3) := da9_dX4_readTest_31.2.2.2.2.2.2.2.2.1
theorem dX4_readTest_49 : decode cX4_readTest 49 = .ok (.aload_n 0, 1) := da9_dX4_readTest_31.2.2.2.2.2.2.2.2.2.1
theorem dX4_readTest_50 : decode cX4_readTest 50 = .ok (.invokevirtual 59, 3) := da9_dX4_readTest_31.2.2.2.2.2.2.2.2.2.2.1
theorem dX4_readTest_53 : decode cX4_readTest 53 = .ok (.aload_n 0, 1) := da9_dX4_readTest_31.2.2.2.2.2.2.2.2.2.2.2.1
theorem dX4_readTest_54 : decode cX4_readTest 54 = .ok (.invokevirtual 110, 3) := da9_dX4_readTest_31.2.2.2.2.2.2.2.2.2.2.2.2.1
theorem dX4_readTest_57 : decode cX4_readTest 57 = .ok (.aload_n 0, 1) := da9_dX4_readTest_31.2.2.2.2.2.2.2.2.2.2.2.2.2.1
theorem dX4_readTest_58 : decode cX4_readTest 58 = .ok (.getfield 23, 3) := da9_dX4_readTest_31.2.2.2.2.2.2.2.2.2.2.2.2.2.2.1
theorem dX4_readTest_61 : decode cX4_readTest 61 = .ok (.bipush 12, 2) := da9_dX4_readTest_31.2.2.2.2.2.2.2.2.2.2.2.2.2.2.2
theorem da9_dX4_readTest_63 : (decode cX4_readTest 63 = .ok (.iload_n 2, 1)) ∧ (decode cX4_readTest 64 = .ok (.invokevirtual 120, 3)) ∧ (decode cX4_readTest 67 = .ok (.iinc 1 1, 3)) ∧ (decode cX4_readTest 70 = .ok (.goto (-64), 3)) ∧ (decode cX4_readTest 73 = .ok (.return_, 1)) := by decide +kernel
theorem dX4_readTest_63 : decode cX4_readTest 63 = .ok (.iload_n 2, 1) := da9_dX4_readTest_63.1
theorem dX4_readTest_64 : decode cX4_readTest 64 = .ok (.invokevirtual 120, 3) := da9_dX4_readTest_63.2.1
theorem dX4_readTest_67 : decode cX4_readTest 67 = .ok (.iinc 1 1, 3) := da9_dX4_readTest_63.2.2.1
theorem dX4_readTest_70 : decode cX4_readTest 70 = .ok (.goto (-64), 3) := da9_dX4_readTest_63.2.2.2.1
theorem dX4_readTest_73 : decode cX4_readTest 73 = .ok (.return_, 1) := da9_dX4_readTest_63.2.2.2.2
theorem da9_dX7_endTest_0 : (decode cX7_endTest 0 = .ok (.aload_n 0, 1)) ∧ (decode cX7_endTest 1 = .ok (.getfield 7, 3)) ∧ (decode cX7_endTest 4 = .ok (.ifCond .le 18, 3)) ∧ (decode cX7_endTest 7 = .ok (.aload_n 0, 1)) ∧ (decode cX7_endTest 8 = .ok (.getfield 29, 3)) ∧ (decode cX7_endTest 11 = .ok (.aload_n 0, 1)) ∧ (decode cX7_endTest 12 = .ok (.getfield 7, 3)) ∧ (decode cX7_endTest 15 = .ok (.iconst 1, 1)) ∧ (decode cX7_endTest 16 = .ok (.isub, 1)) ∧ (decode cX7_endTest 17 = .ok (.aload_n 0, 1)) ∧ (decode cX7_endTest 18 = .ok (.getfield 13, 3)) ∧ (decode cX7_endTest 21 = .ok (.iastore, 1)) ∧ (decode cX7_endTest 22 = .ok (.return_, 1)) := by decide +kernel
theorem dX7_endTest_0 : decode cX7_endTest 0 = .ok (.aload_n 0, 1) := da9_dX7_endTest_0.1
theorem dX7_endTest_1 : decode cX7_endTest 1 = .ok (.getfield 7, 3) := da9_dX7_endTest_0.2.1
theorem dX7_endTest_4 : decode cX7_endTest 4 = .ok (.ifCond .le 18, 3) := da9_dX7_endTest_0.2.2.1
theorem dX7_endTest_7 : decode cX7_endTest 7 = .ok (.aload_n 0, 1) := da9_dX7_endTest_0.2.2.2.1
theorem dX7_endTest_8 : decode cX7_endTest 8 = .ok (.getfield 29, 3) := da9_dX7_endTest_0.2.2.2.2.1
theorem dX7_endTest_11 : decode cX7_endTest 11 = .ok (.aload_n 0, 1) := da9_dX7_endTest_0.2.2.2.2.2.1
theorem dX7_endTest_12 : decode cX7_endTest 12 = .ok (.getfield 7, 3) := da9_dX7_endTest_0.2.2.2.2.2.2.1
theorem dX7_endTest_15 : decode cX7_endTest 15 = .ok (.iconst 1, 1) := da9_dX7_endTest_0.2.2.2.2.2.2.2.1
theorem dX7_endTest_16 : decode cX7_endTest 16 = .ok (.isub, 1) := da9_dX7_endTest_0.2.2.2.2.2.2.2.2.1
theorem dX7_endTest_17 : decode cX7_endTest 17 = .ok (.aload_n 0, 1) := da9_dX7_endTest_0.2.2.2.2.2.2.2.2.2.1
theorem dX7_endTest_18 : decode cX7_endTest 18 = .ok (.getfield 13, 3) := da9_dX7_endTest_0.2.2.2.2.2.2.2.2.2.2.1
theorem dX7_endTest_21 : decode cX7_endTest 21 = .ok (.iastore, 1) := da9_dX7_endTest_0.2.2.2.2.2.2.2.2.2.2.2.1
theorem dX7_endTest_22 : decode cX7_endTest 22 = .ok (.return_, 1) := da9_dX7_endTest_0.2.2.2.2.2.2.2.2.2.2.2.2
end
section
theorem u9_wsX4_readTest_X4 : ∀ w ∈ u_ws RX4 TX4 11, w ∈ wsX4_readTest := fun w h => List.mem_cons_of_mem _ (vW9_wsX40 w h)
theorem u9_wsX4_readTest_X7 : ∀ w ∈ u_ws RX7 TX7 8, w ∈ wsX4_readTest := fun w h => List.mem_cons_of_mem _ (vW9_wsX70 w h)
theorem f9_wsX4_readTest_547 : (Cond.fieldLink RX4 15 "TurnedFloors$Reader" "length" "I") ∈ wsX4_readTest := List.mem_cons_of_mem _ mvW9_164
theorem f9_wsX4_readTest_548 : (Cond.fieldLink RX4 45 "TurnedFloors$Reader" "faultAt" "I") ∈ wsX4_readTest := List.mem_cons_of_mem _ mvW9_170
theorem f9_wsX4_readTest_549 : (Cond.fieldLink RX4 23 "TurnedFloors$Reader" "text" "LTurnedFloors$Text;") ∈ wsX4_readTest := List.mem_cons_of_mem _ mvW9_166
theorem u9_wsX7_endTest_X7 : ∀ w ∈ u_ws RX7 TX7 8, w ∈ wsX7_endTest := fun w h => List.mem_cons_of_mem _ (vW9_wsX70 w h)
theorem f9_wsX7_endTest_551 : (Cond.fieldLink RX7 7 "TurnedFloors$Text" "clauses" "I") ∈ wsX7_endTest := List.mem_cons_of_mem _ mvW9_177
theorem f9_wsX7_endTest_552 : (Cond.fieldLink RX7 29 "TurnedFloors$Text" "testTo" "[I") ∈ wsX7_endTest := List.mem_cons_of_mem _ mvW9_261
theorem f9_wsX7_endTest_553 : (Cond.fieldLink RX7 13 "TurnedFloors$Text" "length" "I") ∈ wsX7_endTest := List.mem_cons_of_mem _ mvW9_178
theorem u9_wsX4_readClause_X4 : ∀ w ∈ u_ws RX4 TX4 11, w ∈ wsX4_readClause := fun w h => List.mem_cons_of_mem _ (vW9_wsX40 w h)
theorem f9_wsX4_readClause_555 : (Cond.fieldLink RX4 45 "TurnedFloors$Reader" "faultAt" "I") ∈ wsX4_readClause := List.mem_cons_of_mem _ mvW9_170
theorem f9_wsX4_readClause_556 : (Cond.fieldLink RX4 23 "TurnedFloors$Reader" "text" "LTurnedFloors$Text;") ∈ wsX4_readClause := List.mem_cons_of_mem _ mvW9_166
theorem f9_wsX4_readClause_557 : (Cond.fieldLink RX4 19 "TurnedFloors$Reader" "ofOrders" "Z") ∈ wsX4_readClause := List.mem_cons_of_mem _ mvW9_165
theorem u9_wsX4_read_X4 : ∀ w ∈ u_ws RX4 TX4 11, w ∈ wsX4_read := fun w h => List.mem_cons_of_mem _ (vW9_wsX40 w h)
theorem f9_wsX4_read_559 : (Cond.fieldLink RX4 45 "TurnedFloors$Reader" "faultAt" "I") ∈ wsX4_read := List.mem_cons_of_mem _ mvW9_170
theorem f9_wsX4_read_560 : (Cond.fieldLink RX4 27 "TurnedFloors$Reader" "token" "I") ∈ wsX4_read := List.mem_cons_of_mem _ mvW9_171
theorem f9_wsX4_read_561 : (Cond.fieldLink RX4 9 "TurnedFloors$Reader" "bytes" "[I") ∈ wsX4_read := List.mem_cons_of_mem _ mvW9_162
theorem f9_wsX4_read_562 : (Cond.methodLink RX4 48 Lib.Math.min.name) ∈ wsX4_read := List.mem_cons_of_mem _ mvW9_163
theorem f9_wsX4_read_563 : (Cond.static Lib.Math.min.name) ∈ wsX4_read := List.mem_cons_of_mem _ mvW9_86
theorem f9_wsX4_read_564 : (Cond.initialized "java/lang/Math") ∈ wsX4_read := List.mem_cons_of_mem _ mvW9_87
theorem f9_wsX4_read_565 : (Cond.code Lib.Math.min.name Lib.Math.min.code 2 (some .int)) ∈ wsX4_read := List.mem_cons_of_mem _ mvW9_88
theorem f9_wsX4_read_566 : (Cond.fieldLink RX4 15 "TurnedFloors$Reader" "length" "I") ∈ wsX4_read := List.mem_cons_of_mem _ mvW9_164
theorem f9_wsX4_read_567 : (Cond.fieldLink RX4 19 "TurnedFloors$Reader" "ofOrders" "Z") ∈ wsX4_read := List.mem_cons_of_mem _ mvW9_165
theorem f9_wsX4_read_568 : (Cond.fieldLink RX4 23 "TurnedFloors$Reader" "text" "LTurnedFloors$Text;") ∈ wsX4_read := List.mem_cons_of_mem _ mvW9_166
theorem f9_wsX4_read_569 : (Cond.fieldLink RX4 33 "TurnedFloors$Reader" "stop" "I") ∈ wsX4_read := List.mem_cons_of_mem _ mvW9_167
theorem f9_wsX4_read_570 : (Cond.fieldLink RX4 39 "TurnedFloors$Reader" "parts" "I") ∈ wsX4_read := List.mem_cons_of_mem _ mvW9_168
theorem f9_wsX4_read_571 : (Cond.fieldLink RX4 42 "TurnedFloors$Reader" "open" "I") ∈ wsX4_read := List.mem_cons_of_mem _ mvW9_169
set_option maxHeartbeats 4000000 in
set_option maxRecDepth 100000 in
theorem WX4_isSame_s24_t11_20b {p : Program} {l : Launch} {e : Env} {s : State} {m : MethodId} {args : Array Value} {below : List Frame} {meth : Method} {c : Code} {D : va_G} {ty : Nat → ClassId} {eo : Nat → Nat} {A : Nat → Prop} {ad : Nat → Nat} {o1 : Int32} {o2 : dK} (C : dc_C p s m args meth c cX4_isSame (some .boolean) 5 RX4 wsX4_isSame D ty eo A) {k20 : dK → Int32 → Int32 → Int32 → Option (Int32 × dK)} (hk20 : ∀ (q : dK) (x2 : Int32) (x3 : Int32) (x4 : Int32) (H : Heap) (locs : List Loc) (ls : Array Slot), k20 q x2 x3 x4 = some (o1, o2) → va_P D vwCl (wF ty ad q) H → va_D A (wF ty ad q) → va_S A s.heap H locs → lv_has ls 5 [(0, .ref (ad 24)), (1, .ref (eo (1 + 11))), (2, .int x2), (3, .int x3), (4, .int x4)] → W p l e ({ frames := 4, cells := 0, slots := 0, locals := 85 } : Room) s m args below meth c H locs 0 0 (MQ below (va_Qi (fun (r : Int32) (u : va_W) => o1 = r ∧ wF ty ad o2 = u) (kz_B D ty A) A) args s 0 0 A) (F0 m 20 ls [])) (q : dK) (x2 : Int32) (x3 : Int32) (x4 : Int32) (H : Heap) (locs : List Loc) (ls : Array Slot) (h : zX4_isSame_s24_t11_20b k20 q x2 x3 x4 = some (o1, o2)) (hP : va_P D vwCl (wF ty ad q) H) (hD : va_D A (wF ty ad q)) (hS : va_S A s.heap H locs) (hl : lv_has ls 5 [(0, .ref (ad 24)), (1, .ref (eo (1 + 11))), (2, .int x2), (3, .int x3), (4, .int x4)]) : W p l e ({ frames := 4, cells := 0, slots := 0, locals := 85 } : Room) s m args below meth c H locs 0 0 (MQ below (va_Qi (fun (r : Int32) (u : va_W) => o1 = r ∧ wF ty ad o2 = u) (kz_B D ty A) A) args s 0 0 A) (F0 m 20 ls []) := by
  have C0 := C
  obtain ⟨hx, hb, hr, hts, hown, hlocks, hml, hK, hN, hE, hA⟩ := C
  unfold zX4_isSame_s24_t11_20b at h
  refine lv_iload hx hb dX4_isSame_20 (lv_at hl 4 rfl) ?_
  refine lv_iload_n hx hb dX4_isSame_22 rfl (lv_at hl 3 rfl) ?_
  refine lv_icmp_ge (tgt := 57) hx hb dX4_isSame_23 (by decide) (fun c9 => ?_) (fun c9 => ?_)
  · rw [if_pos c9] at h
    refine lv_iconst (v := 1) hx hb dX4_isSame_57 (by decide) ?_
    cases h
    exact kz_zret hx hb hr hlocks rfl hP hK hD hS dX4_isSame_58 ⟨rfl, rfl⟩
  · rw [if_neg c9] at h
    refine lv_aload_n hx hb dX4_isSame_26 rfl (lv_at hl 1 rfl) ?_
    refine lv_iload hx hb dX4_isSame_27 (lv_at hl 4 rfl) ?_
    obtain ⟨g1, h⟩ := dG_some h
    refine dw_ks (va_runV (As := [.int x4]) (rest := []) ⟨hx, hb, hml, hown, hts⟩ (kcJ0ch l D ty eo _ 11 (by decide) x4 (dg_in g1)) (cwV 1 hts gX4_isSame_J0_charAt_5068e rfl rfl rfl hd_J0_charAt_5068e_v ⟨Nat.le_of_ble_eq_true rfl, Nat.le_of_ble_eq_true rfl⟩) (kz_preT hK hN hE hP hD hS hA 11 (by decide) [] (by decide) rfl) rfl rfl hl.1 rfl (lv_room (Nat.le_of_ble_eq_true rfl)) dX4_isSame_29 ⟨Nat.le_of_ble_eq_true rfl, Nat.le_of_ble_eq_true rfl⟩) hP hD hS hA (fun _ _ h9 => h9.2.symm) (fun r9 u9 H locs hw hp hd hs => ?_)
    obtain ⟨rfl, -⟩ := hw
    clear hP hD hS
    have hP := hp; have hD := hd; have hS := hs; clear hp hd hs
    obtain ⟨v2, ev2, h⟩ := dL_some h
    refine kz_topi v2 ev2 ?_
    refine lv_aload_n hx hb dX4_isSame_32 rfl (lv_at hl 0 rfl) ?_
    refine va_get (D := D) (ci := 4) (v := dN (ad 46) (q.1 24 0)) (C := RX4) (T := TX4) (N := 11) hx hb hts u9_wsX4_isSame_X4 hown hK hP 24 rfl rfl 0 (by decide) (hts (.fieldLink RX4 9 "TurnedFloors$Reader" "bytes" "[I") f9_wsX4_isSame_474) (fun _ h9 => h9) rfl dX4_isSame_33 ?_
    obtain ⟨g3, h⟩ := dG_some h
    refine kz_topv (if_neg (dnz_ne g3)) ?_
    refine lv_aload_n hx hb dX4_isSame_36 rfl (lv_at hl 0 rfl) ?_
    refine va_get (D := D) (ci := 4) (v := .int (q.1 24 5)) (C := RX4) (T := TX4) (N := 11) hx hb hts u9_wsX4_isSame_X4 hown hK hP 24 rfl rfl 5 (by decide) (hts (.fieldLink RX4 30 "TurnedFloors$Reader" "start" "I") f9_wsX4_isSame_475) (fun _ h9 => h9) rfl dX4_isSame_37 ?_
    refine lv_iload hx hb dX4_isSame_40 (lv_at hl 4 rfl) ?_
    refine lv_iadd hx hb dX4_isSame_42 ?_
    refine lv_iload_n hx hb dX4_isSame_43 rfl (lv_at hl 2 rfl) ?_
    refine lv_isub hx hb dX4_isSame_44 ?_
    obtain ⟨g4, h⟩ := dG_some h
    refine va_iald hx hb hK hP 46 0 rfl rfl (dg_in g4) dX4_isSame_45 ?_
    obtain ⟨v5, ev5, h⟩ := dL_some h
    refine kz_topi v5 ev5 ?_
    refine lv_icmp_eq (tgt := 51) hx hb dX4_isSame_46 (by decide) (fun c9 => ?_) (fun c9 => ?_)
    · rw [if_pos c9] at h
      refine lv_iinc (v := x4 + 1) (lv' := [(4, .int (x4 + 1)), (0, .ref (ad 24)), (1, .ref (eo (1 + 11))), (2, .int x2), (3, .int x3)]) hx hb dX4_isSame_51 hl (k := 4) rfl rfl (by decide) rfl (fun ls hl => ?_)
      refine lv_goto (tgt := 20) hx hb dX4_isSame_54 (by decide) ?_
      exact hk20 _ _ _ _ _ _ _ h hP hD hS (lv_sub hl [1, 2, 3, 4, 0] rfl)
    · rw [if_neg c9] at h
      refine lv_iconst (v := 0) hx hb dX4_isSame_49 (by decide) ?_
      cases h
      exact kz_zret hx hb hr hlocks rfl hP hK hD hS dX4_isSame_50 ⟨rfl, rfl⟩
set_option maxHeartbeats 4000000 in
set_option maxRecDepth 100000 in
theorem WX4_isSame_s24_t11_20 {p : Program} {l : Launch} {e : Env} {s : State} {m : MethodId} {args : Array Value} {below : List Frame} {meth : Method} {c : Code} {D : va_G} {ty : Nat → ClassId} {eo : Nat → Nat} {A : Nat → Prop} {ad : Nat → Nat} {o1 : Int32} {o2 : dK} (C : dc_C p s m args meth c cX4_isSame (some .boolean) 5 RX4 wsX4_isSame D ty eo A)   (n : Nat) (q : dK) (x2 : Int32) (x3 : Int32) (x4 : Int32) (H : Heap) (locs : List Loc) (ls : Array Slot) (h : zX4_isSame_s24_t11_20  n q x2 x3 x4 = some (o1, o2)) (hP : va_P D vwCl (wF ty ad q) H) (hD : va_D A (wF ty ad q)) (hS : va_S A s.heap H locs) (hl : lv_has ls 5 [(0, .ref (ad 24)), (1, .ref (eo (1 + 11))), (2, .int x2), (3, .int x3), (4, .int x4)]) : W p l e ({ frames := 4, cells := 0, slots := 0, locals := 85 } : Room) s m args below meth c H locs 0 0 (MQ below (va_Qi (fun (r : Int32) (u : va_W) => o1 = r ∧ wF ty ad o2 = u) (kz_B D ty A) A) args s 0 0 A) (F0 m 20 ls []) := by
  exact dFix_W (F := fun k (a : dK × Int32 × Int32 × Int32) => zX4_isSame_s24_t11_20b  (fun q x2 x3 x4 => k (q, x2, x3, x4)) a.1 a.2.1 a.2.2.1 a.2.2.2) (o := (o1, o2)) (P := fun (a : dK × Int32 × Int32 × Int32) H locs ls => va_P D vwCl (wF ty ad a.1) H ∧ va_D A (wF ty ad a.1) ∧ va_S A s.heap H locs ∧ lv_has ls 5 [(0, .ref (ad 24)), (1, .ref (eo (1 + 11))), (2, .int a.2.1), (3, .int a.2.2.1), (4, .int a.2.2.2)]) (G := fun H locs ls => W p l e ({ frames := 4, cells := 0, slots := 0, locals := 85 } : Room) s m args below meth c H locs 0 0 (MQ below (va_Qi (fun (r : Int32) (u : va_W) => o1 = r ∧ wF ty ad o2 = u) (kz_B D ty A) A) args s 0 0 A) (F0 m 20 ls []))
    (fun k hk a H locs ls h hp => WX4_isSame_s24_t11_20b C  (fun q x2 x3 x4 H locs ls h h1 h2 h3 h4 => hk (q, x2, x3, x4) H locs ls h ⟨h1, h2, h3, h4⟩) a.1 a.2.1 a.2.2.1 a.2.2.2 H locs ls h hp.1 hp.2.1 hp.2.2.1 hp.2.2.2) n (q, x2, x3, x4) H locs ls h ⟨hP, hD, hS, hl⟩
set_option maxHeartbeats 4000000 in
set_option maxRecDepth 100000 in
theorem qX4_isSame_s24_t11 (l : Launch) (D : va_G) (ty : Nat → ClassId) (eo : Nat → Nat) (sz : Nat) (ad : Nat → Nat) (q : dK) (p2 : Int32) (p3 : Int32) (o1 : Int32) (o2 : dK) (h : zX4_isSame_s24_t11 q p2 p3 = some (o1, o2)) : Met l yX4_isSame wsX4_isSame ({ frames := 4, cells := 0, slots := 0, locals := 85 } : Room) (va_Pc [.ref (ad 24), .ref (eo (1 + 11)), .int p2, .int p3] (kz_pre D ty eo (wF ty ad q) sz)) (va_Qi (fun (r : Int32) (u : va_W) => o1 = r ∧ wF ty ad o2 = u) (kz_B D ty (va_A (wF ty ad q) sz)) (va_A (wF ty ad q) sz)) 0 0 (va_A (wF ty ad q) sz) := by
  refine Met.ofW (cc := cX4_isSame) (maxL := 5) (ret := (some .boolean)) (by decide) rfl ?_
  intro p e s m args below meth c s₁ B hml hv
  obtain ⟨rfl, hsz, hP, hK, hD0, hN, hE⟩ := hv
  have hx := B.exec
  have hb := B.bytes
  have hr := B.returns
  have hts := atoms_spec (ws := wsX4_isSame) B.pre
  have hown : s.vm.findClass RX4 = some m.cls := findClass_of_methodNamed B.named
  have hlocks := B.notSynchronized
  subst hsz
  have hD := hD0.self (sz := s.heap.size)
  generalize hAe : va_A (wF ty ad q) s.heap.size = A at hD hE ⊢
  have hA : ∀ q : Nat, s.heap.size ≤ q → A q := fun q h => by rw [← hAe]; exact Or.inr h
  clear hAe
  have hS : va_S A s.heap s.heap [] := va_S.rf
  have hl := lv_entry ([.ref (ad 24), .ref (eo (1 + 11)), .int p2, .int p3]) (n := 5) (Nat.le_of_ble_eq_true rfl)
  rw [lg_entry_eq]
  generalize (lg_sl ([.ref (ad 24), .ref (eo (1 + 11)), .int p2, .int p3]) ++ List.replicate (5 - (lg_sl ([.ref (ad 24), .ref (eo (1 + 11)), .int p2, .int p3])).length) Slot.unset).toArray = ls at hl ⊢
  have hl : lv_has ls 5 [(0, .ref (ad 24)), (1, .ref (eo (1 + 11))), (2, .int p2), (3, .int p3)] := hl
  have C : dc_C p s m _ meth c cX4_isSame (some .boolean) 5 RX4 wsX4_isSame D ty eo A := ⟨hx, hb, hr, hts, hown, hlocks, hml, hK, hN, hE, hA⟩
  unfold zX4_isSame_s24_t11 at h
  refine lv_iload_n hx hb dX4_isSame_0 rfl (lv_at hl 3 rfl) ?_
  refine lv_iload_n hx hb dX4_isSame_1 rfl (lv_at hl 2 rfl) ?_
  refine lv_isub hx hb dX4_isSame_2 ?_
  refine lv_aload_n hx hb dX4_isSame_3 rfl (lv_at hl 0 rfl) ?_
  refine va_get (D := D) (ci := 4) (v := .int (q.1 24 6)) (C := RX4) (T := TX4) (N := 11) hx hb hts u9_wsX4_isSame_X4 hown hK hP 24 rfl rfl 6 (by decide) (hts (.fieldLink RX4 33 "TurnedFloors$Reader" "stop" "I") f9_wsX4_isSame_476) (fun _ h9 => h9) rfl dX4_isSame_4 ?_
  refine lv_aload_n hx hb dX4_isSame_7 rfl (lv_at hl 0 rfl) ?_
  refine va_get (D := D) (ci := 4) (v := .int (q.1 24 5)) (C := RX4) (T := TX4) (N := 11) hx hb hts u9_wsX4_isSame_X4 hown hK hP 24 rfl rfl 5 (by decide) (hts (.fieldLink RX4 30 "TurnedFloors$Reader" "start" "I") f9_wsX4_isSame_475) (fun _ h9 => h9) rfl dX4_isSame_8 ?_
  refine lv_isub hx hb dX4_isSame_11 ?_
  refine lv_icmp_eq (tgt := 17) hx hb dX4_isSame_12 (by decide) (fun c9 => ?_) (fun c9 => ?_)
  · rw [if_pos c9] at h
    refine lv_iload_n hx hb dX4_isSame_17 rfl (lv_at hl 2 rfl) ?_
    refine lv_istore (lv' := [(4, .int p2), (0, .ref (ad 24)), (1, .ref (eo (1 + 11))), (2, .int p2), (3, .int p3)]) hx hb dX4_isSame_18 hl (by decide) rfl (fun ls hl => ?_)
    exact WX4_isSame_s24_t11_20 C  _ _ _ _ _ _ _ _ h hP hD hS (lv_sub hl [1, 2, 3, 4, 0] rfl)
  · rw [if_neg c9] at h
    refine lv_iconst (v := 0) hx hb dX4_isSame_15 (by decide) ?_
    cases h
    exact kz_zret hx hb hr hlocks rfl hP hK hD hS dX4_isSame_16 ⟨rfl, rfl⟩

set_option maxHeartbeats 4000000 in
set_option maxRecDepth 100000 in
theorem WX4_isWord_s24_t11_26 {p : Program} {l : Launch} {e : Env} {s : State} {m : MethodId} {args : Array Value} {below : List Frame} {meth : Method} {c : Code} {D : va_G} {ty : Nat → ClassId} {eo : Nat → Nat} {A : Nat → Prop} {ad : Nat → Nat} {o1 : Int32} {o2 : dK} (C : dc_C p s m args meth c cX4_isWord (some .boolean) 2 RX4 wsX4_isWord D ty eo A)   (q : dK) (y0 : Int32) (H : Heap) (locs : List Loc) (ls : Array Slot) (h : zX4_isWord_s24_t11_26  q y0 = some (o1, o2)) (hP : va_P D vwCl (wF ty ad q) H) (hD : va_D A (wF ty ad q)) (hS : va_S A s.heap H locs) (hl : lv_has ls 2 []) : W p l e ({ frames := 5, cells := 0, slots := 0, locals := 109 } : Room) s m args below meth c H locs 0 0 (MQ below (va_Qi (fun (r : Int32) (u : va_W) => o1 = r ∧ wF ty ad o2 = u) (kz_B D ty A) A) args s 0 0 A) (F0 m 26 ls [.int y0]) := by
  have C0 := C
  obtain ⟨hx, hb, hr, hts, hown, hlocks, hml, hK, hN, hE, hA⟩ := C
  unfold zX4_isWord_s24_t11_26 at h
  obtain ⟨g1, h⟩ := dG_some h
  cases h
  exact kz_zret hx hb hr hlocks (dbl_nar g1) hP hK hD hS dX4_isWord_26 ⟨rfl, rfl⟩
set_option maxHeartbeats 4000000 in
set_option maxRecDepth 100000 in
theorem WX4_isWord_s24_t11_25 {p : Program} {l : Launch} {e : Env} {s : State} {m : MethodId} {args : Array Value} {below : List Frame} {meth : Method} {c : Code} {D : va_G} {ty : Nat → ClassId} {eo : Nat → Nat} {A : Nat → Prop} {ad : Nat → Nat} {o1 : Int32} {o2 : dK} (C : dc_C p s m args meth c cX4_isWord (some .boolean) 2 RX4 wsX4_isWord D ty eo A)   (q : dK)  (H : Heap) (locs : List Loc) (ls : Array Slot) (h : zX4_isWord_s24_t11_25  q = some (o1, o2)) (hP : va_P D vwCl (wF ty ad q) H) (hD : va_D A (wF ty ad q)) (hS : va_S A s.heap H locs) (hl : lv_has ls 2 []) : W p l e ({ frames := 5, cells := 0, slots := 0, locals := 109 } : Room) s m args below meth c H locs 0 0 (MQ below (va_Qi (fun (r : Int32) (u : va_W) => o1 = r ∧ wF ty ad o2 = u) (kz_B D ty A) A) args s 0 0 A) (F0 m 25 ls []) := by
  have C0 := C
  obtain ⟨hx, hb, hr, hts, hown, hlocks, hml, hK, hN, hE, hA⟩ := C
  unfold zX4_isWord_s24_t11_25 at h
  refine lv_iconst (v := 0) hx hb dX4_isWord_25 (by decide) ?_
  exact WX4_isWord_s24_t11_26 C0  _ _ _ _ _ h hP hD hS (lv_sub hl [] rfl)
set_option maxHeartbeats 4000000 in
set_option maxRecDepth 100000 in
theorem qX4_isWord_s24_t11 (l : Launch) (D : va_G) (ty : Nat → ClassId) (eo : Nat → Nat) (sz : Nat) (ad : Nat → Nat) (q : dK)  (o1 : Int32) (o2 : dK) (h : zX4_isWord_s24_t11 q = some (o1, o2)) : Met l yX4_isWord wsX4_isWord ({ frames := 5, cells := 0, slots := 0, locals := 109 } : Room) (va_Pc [.ref (ad 24), .ref (eo (1 + 11))] (kz_pre D ty eo (wF ty ad q) sz)) (va_Qi (fun (r : Int32) (u : va_W) => o1 = r ∧ wF ty ad o2 = u) (kz_B D ty (va_A (wF ty ad q) sz)) (va_A (wF ty ad q) sz)) 0 0 (va_A (wF ty ad q) sz) := by
  refine Met.ofW (cc := cX4_isWord) (maxL := 2) (ret := (some .boolean)) (by decide) rfl ?_
  intro p e s m args below meth c s₁ B hml hv
  obtain ⟨rfl, hsz, hP, hK, hD0, hN, hE⟩ := hv
  have hx := B.exec
  have hb := B.bytes
  have hr := B.returns
  have hts := atoms_spec (ws := wsX4_isWord) B.pre
  have hown : s.vm.findClass RX4 = some m.cls := findClass_of_methodNamed B.named
  have hlocks := B.notSynchronized
  subst hsz
  have hD := hD0.self (sz := s.heap.size)
  generalize hAe : va_A (wF ty ad q) s.heap.size = A at hD hE ⊢
  have hA : ∀ q : Nat, s.heap.size ≤ q → A q := fun q h => by rw [← hAe]; exact Or.inr h
  clear hAe
  have hS : va_S A s.heap s.heap [] := va_S.rf
  have hl := lv_entry ([.ref (ad 24), .ref (eo (1 + 11))]) (n := 2) (Nat.le_of_ble_eq_true rfl)
  rw [lg_entry_eq]
  generalize (lg_sl ([.ref (ad 24), .ref (eo (1 + 11))]) ++ List.replicate (2 - (lg_sl ([.ref (ad 24), .ref (eo (1 + 11))])).length) Slot.unset).toArray = ls at hl ⊢
  have hl : lv_has ls 2 [(0, .ref (ad 24)), (1, .ref (eo (1 + 11)))] := hl
  have C : dc_C p s m _ meth c cX4_isWord (some .boolean) 2 RX4 wsX4_isWord D ty eo A := ⟨hx, hb, hr, hts, hown, hlocks, hml, hK, hN, hE, hA⟩
  unfold zX4_isWord_s24_t11 at h
  refine lv_aload_n hx hb dX4_isWord_0 rfl (lv_at hl 0 rfl) ?_
  refine va_get (D := D) (ci := 4) (v := .int (q.1 24 4)) (C := RX4) (T := TX4) (N := 11) hx hb hts u9_wsX4_isWord_X4 hown hK hP 24 rfl rfl 4 (by decide) (hts (.fieldLink RX4 27 "TurnedFloors$Reader" "token" "I") f9_wsX4_isWord_524) (fun _ h9 => h9) rfl dX4_isWord_1 ?_
  refine lv_iconst (v := 1) hx hb dX4_isWord_4 (by decide) ?_
  refine lv_icmp_ne (tgt := 25) hx hb dX4_isWord_5 (by decide) (fun c9 => ?_) (fun c9 => ?_)
  · rw [if_neg c9] at h
    exact WX4_isWord_s24_t11_25 C  _ _ _ _ h hP hD hS (lv_sub hl [] rfl)
  · rw [if_pos c9] at h
    refine lv_aload_n hx hb dX4_isWord_8 rfl (lv_at hl 0 rfl) ?_
    refine lv_aload_n hx hb dX4_isWord_9 rfl (lv_at hl 1 rfl) ?_
    refine lv_iconst (v := 0) hx hb dX4_isWord_10 (by decide) ?_
    refine lv_aload_n hx hb dX4_isWord_11 rfl (lv_at hl 1 rfl) ?_
    refine dw_ks (va_runV (As := []) (rest := [.int 0, .ref (eo (1 + 11)), .ref (ad 24)]) ⟨hx, hb, hml, hown, hts⟩ (kcJ0le l D ty eo _ 11 (by decide)) (cwV 0 hts gX4_isWord_J0_length_8abf5 rfl rfl rfl hd_J0_length_8abf5_v ⟨Nat.le_of_ble_eq_true rfl, Nat.le_of_ble_eq_true rfl⟩) (kz_preT hK hN hE hP hD hS hA 11 (by decide) [] (by decide) rfl) rfl rfl hl.1 rfl (lv_room (Nat.le_of_ble_eq_true rfl)) dX4_isWord_12 ⟨Nat.le_of_ble_eq_true rfl, Nat.le_of_ble_eq_true rfl⟩) hP hD hS hA (fun _ _ h9 => h9.2.symm) (fun r9 u9 H locs hw hp hd hs => ?_)
    obtain ⟨rfl, -⟩ := hw
    clear hP hD hS
    have hP := hp; have hD := hd; have hS := hs; clear hp hd hs
    refine kz_topi 2 (by decide +kernel) ?_
    obtain ⟨r1, q3, h2, h⟩ := dB_some h
    refine dw_ki (va_runV (As := [.ref (eo (1 + 11)), .int 0, .int 2]) (rest := []) ⟨hx, hb, hml, hown, hts⟩ (qX4_isSame_s24_t11 l D ty eo _ ad q 0 2 r1 q3 h2) (cwV 3 hts gX4_isWord_X4_isSame rfl rfl rfl hd_X4_isSame_v ⟨Nat.le_of_ble_eq_true rfl, Nat.le_of_ble_eq_true rfl⟩) (pvF_4_24 hK hN hE hP hD hS hA) rfl rfl hl.1 rfl (lv_room (Nat.le_of_ble_eq_true rfl)) dX4_isWord_15 ⟨Nat.le_of_ble_eq_true rfl, Nat.le_of_ble_eq_true rfl⟩) hD hS hA (fun r9 u9 H locs hw hp hd hs => ?_)
    clear hP hD hS
    obtain ⟨rfl, rfl⟩ := hw
    have hP := hp; have hD := hd; have hS := hs; clear hp hd hs
    refine lv_if_eq (tgt := 25) hx hb dX4_isWord_18 (by decide) (fun c9 => ?_) (fun c9 => ?_)
    · rw [if_pos c9] at h
      exact WX4_isWord_s24_t11_25 C  _ _ _ _ h hP hD hS (lv_sub hl [] rfl)
    · rw [if_neg c9] at h
      refine lv_iconst (v := 1) hx hb dX4_isWord_21 (by decide) ?_
      refine lv_goto (tgt := 26) hx hb dX4_isWord_22 (by decide) ?_
      exact WX4_isWord_s24_t11_26 C  _ _ _ _ _ h hP hD hS (lv_sub hl [] rfl)

set_option maxHeartbeats 4000000 in
set_option maxRecDepth 100000 in
theorem WX4_readTest_s24_73 {p : Program} {l : Launch} {e : Env} {s : State} {m : MethodId} {args : Array Value} {below : List Frame} {meth : Method} {c : Code} {D : va_G} {ty : Nat → ClassId} {eo : Nat → Nat} {A : Nat → Prop} {ad : Nat → Nat} {o2 : dK} {kT : dK → Option (dK)} {nT : Nat} (hkT : ∀ (sz : Nat) (q : dK)  (o2 : dK), kT q  = some o2 → Met l yX4_readTest wsX4_readTest ({ frames := 44 + 3 * nT, cells := 0, slots := 0, locals := 1130 + 66 * nT } : Room) (va_Pc [.ref (ad 24)] (kz_pre D ty eo (wF ty ad q) sz)) (va_Qv (fun (u : va_W) => wF ty ad o2 = u) (kz_B D ty (va_A (wF ty ad q) sz)) (va_A (wF ty ad q) sz)) 0 0 (va_A (wF ty ad q) sz)) (C : dc_C p s m args meth c cX4_readTest none 3 RX4 wsX4_readTest D ty eo A)   (q : dK)  (H : Heap) (locs : List Loc) (ls : Array Slot) (h : zX4_readTest_s24_73 kT  q = some o2) (hP : va_P D vwCl (wF ty ad q) H) (hD : va_D A (wF ty ad q)) (hS : va_S A s.heap H locs) (hl : lv_has ls 3 []) : W p l e ({ frames := 44 + 3 * nT + 3, cells := 0, slots := 0, locals := 1130 + 66 * nT + 66 } : Room) s m args below meth c H locs 0 0 (MQ below (va_Qv (fun (u : va_W) => wF ty ad o2 = u) (kz_B D ty A) A) args s 0 0 A) (F0 m 73 ls []) := by
  have C0 := C
  obtain ⟨hx, hb, hr, hts, hown, hlocks, hml, hK, hN, hE, hA⟩ := C
  unfold zX4_readTest_s24_73 at h
  cases h
  exact kz_vret hx hb hr hlocks hP hK hD hS dX4_readTest_73 rfl
set_option maxHeartbeats 4000000 in
set_option maxRecDepth 100000 in
theorem WX4_readTest_s24_6b {p : Program} {l : Launch} {e : Env} {s : State} {m : MethodId} {args : Array Value} {below : List Frame} {meth : Method} {c : Code} {D : va_G} {ty : Nat → ClassId} {eo : Nat → Nat} {A : Nat → Prop} {ad : Nat → Nat} {o2 : dK} {kT : dK → Option (dK)} {nT : Nat} (hkT : ∀ (sz : Nat) (q : dK)  (o2 : dK), kT q  = some o2 → Met l yX4_readTest wsX4_readTest ({ frames := 44 + 3 * nT, cells := 0, slots := 0, locals := 1130 + 66 * nT } : Room) (va_Pc [.ref (ad 24)] (kz_pre D ty eo (wF ty ad q) sz)) (va_Qv (fun (u : va_W) => wF ty ad o2 = u) (kz_B D ty (va_A (wF ty ad q) sz)) (va_A (wF ty ad q) sz)) 0 0 (va_A (wF ty ad q) sz)) (C : dc_C p s m args meth c cX4_readTest none 3 RX4 wsX4_readTest D ty eo A) {k6 : dK → Int32 → Option (dK)} (hk6 : ∀ (q : dK) (x1 : Int32) (H : Heap) (locs : List Loc) (ls : Array Slot), k6 q x1 = some o2 → va_P D vwCl (wF ty ad q) H → va_D A (wF ty ad q) → va_S A s.heap H locs → lv_has ls 3 [(0, .ref (ad 24)), (1, .int x1)] → W p l e ({ frames := 44 + 3 * nT + 3, cells := 0, slots := 0, locals := 1130 + 66 * nT + 66 } : Room) s m args below meth c H locs 0 0 (MQ below (va_Qv (fun (u : va_W) => wF ty ad o2 = u) (kz_B D ty A) A) args s 0 0 A) (F0 m 6 ls [])) (q : dK) (x1 : Int32) (H : Heap) (locs : List Loc) (ls : Array Slot) (h : zX4_readTest_s24_6b kT k6 q x1 = some o2) (hP : va_P D vwCl (wF ty ad q) H) (hD : va_D A (wF ty ad q)) (hS : va_S A s.heap H locs) (hl : lv_has ls 3 [(0, .ref (ad 24)), (1, .int x1)]) : W p l e ({ frames := 44 + 3 * nT + 3, cells := 0, slots := 0, locals := 1130 + 66 * nT + 66 } : Room) s m args below meth c H locs 0 0 (MQ below (va_Qv (fun (u : va_W) => wF ty ad o2 = u) (kz_B D ty A) A) args s 0 0 A) (F0 m 6 ls []) := by
  have C0 := C
  obtain ⟨hx, hb, hr, hts, hown, hlocks, hml, hK, hN, hE, hA⟩ := C
  unfold zX4_readTest_s24_6b at h
  refine lv_iload_n hx hb dX4_readTest_6 rfl (lv_at hl 1 rfl) ?_
  refine lv_aload_n hx hb dX4_readTest_7 rfl (lv_at hl 0 rfl) ?_
  refine va_get (D := D) (ci := 4) (v := .int (q.1 24 1)) (C := RX4) (T := TX4) (N := 11) hx hb hts u9_wsX4_readTest_X4 hown hK hP 24 rfl rfl 1 (by decide) (hts (.fieldLink RX4 15 "TurnedFloors$Reader" "length" "I") f9_wsX4_readTest_547) (fun _ h9 => h9) rfl dX4_readTest_8 ?_
  refine lv_icmp_ge (tgt := 73) hx hb dX4_readTest_11 (by decide) (fun c9 => ?_) (fun c9 => ?_)
  · rw [if_pos c9] at h
    exact WX4_readTest_s24_73 hkT C0  _ _ _ _ h hP hD hS (lv_sub hl [] rfl)
  · rw [if_neg c9] at h
    refine lv_aload_n hx hb dX4_readTest_14 rfl (lv_at hl 0 rfl) ?_
    refine va_get (D := D) (ci := 4) (v := .int (q.1 24 10)) (C := RX4) (T := TX4) (N := 11) hx hb hts u9_wsX4_readTest_X4 hown hK hP 24 rfl rfl 10 (by decide) (hts (.fieldLink RX4 45 "TurnedFloors$Reader" "faultAt" "I") f9_wsX4_readTest_548) (fun _ h9 => h9) rfl dX4_readTest_15 ?_
    refine lv_iconst (v := (-1)) hx hb dX4_readTest_18 (by decide) ?_
    refine lv_icmp_ne (tgt := 73) hx hb dX4_readTest_19 (by decide) (fun c9 => ?_) (fun c9 => ?_)
    · rw [if_neg c9] at h
      exact WX4_readTest_s24_73 hkT C0  _ _ _ _ h hP hD hS (lv_sub hl [] rfl)
    · rw [if_pos c9] at h
      refine lv_aload_n hx hb dX4_readTest_22 rfl (lv_at hl 0 rfl) ?_
      refine va_ldcS hx hb hown (hE.2.2.2.2.1 11 (by decide)) dX4_readTest_23 ?_
      obtain ⟨r1, q3, h2, h⟩ := dB_some h
      refine dw_ki (va_runV (As := [.ref (eo (1 + 11))]) (rest := []) ⟨hx, hb, hml, hown, hts⟩ (qX4_isWord_s24_t11 l D ty eo _ ad q  r1 q3 h2) (cwV 1 hts gX4_readTest_X4_isWord rfl rfl rfl hd_X4_isWord_v ⟨by dsimp only [headSpec]; omega, by dsimp only [headSpec]; omega⟩) (pvF_4_24 hK hN hE hP hD hS hA) rfl rfl hl.1 rfl (lv_room (Nat.le_of_ble_eq_true rfl)) dX4_readTest_25 ⟨Nat.le_of_ble_eq_true rfl, Nat.le_of_ble_eq_true rfl⟩) hD hS hA (fun r9 u9 H locs hw hp hd hs => ?_)
      clear hP hD hS
      obtain ⟨rfl, rfl⟩ := hw
      have hP := hp; have hD := hd; have hS := hs; clear hp hd hs
      refine lv_if_eq (tgt := 73) hx hb dX4_readTest_28 (by decide) (fun c9 => ?_) (fun c9 => ?_)
      · rw [if_pos c9] at h
        exact WX4_readTest_s24_73 hkT C0  _ _ _ _ h hP hD hS (lv_sub hl [] rfl)
      · rw [if_neg c9] at h
        refine lv_aload_n hx hb dX4_readTest_31 rfl (lv_at hl 0 rfl) ?_
        refine va_get (D := D) (ci := 4) (v := dN (ad 25) (q3.1 24 3)) (C := RX4) (T := TX4) (N := 11) hx hb hts u9_wsX4_readTest_X4 hown hK hP 24 rfl rfl 3 (by decide) (hts (.fieldLink RX4 23 "TurnedFloors$Reader" "text" "LTurnedFloors$Text;") f9_wsX4_readTest_549) (fun _ h9 => h9) rfl dX4_readTest_32 ?_
        obtain ⟨g4, h⟩ := dG_some h
        refine kz_topv (if_neg (dnz_ne g4)) ?_
        refine va_getN (D := D) (ci := 7) (v := .int (q3.1 25 7)) (C := RX7) (T := TX7) (N := 8) hx hb hts u9_wsX4_readTest_X7 hown hK hP 25 rfl rfl 7 (by decide) (hN.use (.fieldLinkNest "TurnedFloors$Reader" 115 "TurnedFloors$Text" "length" "I" "TurnedFloors") nn9_16) (fun _ h9 => h9) rfl dX4_readTest_35 ?_
        refine lv_istore_n (lv' := [(2, .int (q3.1 25 7)), (0, .ref (ad 24)), (1, .int x1)]) hx hb dX4_readTest_38 rfl hl (by decide) rfl (fun ls hl => ?_)
        refine lv_aload_n hx hb dX4_readTest_39 rfl (lv_at hl 1 rfl) ?_
        refine va_get (D := D) (ci := 4) (v := dN (ad 25) (q3.1 24 3)) (C := RX4) (T := TX4) (N := 11) hx hb hts u9_wsX4_readTest_X4 hown hK hP 24 rfl rfl 3 (by decide) (hts (.fieldLink RX4 23 "TurnedFloors$Reader" "text" "LTurnedFloors$Text;") f9_wsX4_readTest_549) (fun _ h9 => h9) rfl dX4_readTest_40 ?_
        obtain ⟨g5, h⟩ := dG_some h
        refine kz_topv (if_neg (dnz_ne g5)) ?_
        refine lv_bipush (v := 12) hx hb dX4_readTest_43 (by decide) ?_
        refine lv_iconst (v := 0) hx hb dX4_readTest_45 (by decide) ?_
        obtain ⟨q8, h7, h⟩ := dV_some h
        refine dw_kv (va_runV (As := [.int 12, .int 0]) (rest := []) ⟨hx, hb, hml, hown, hts⟩ (qX7_emit_s25 l D ty eo _ ad q3 12 0 q8 h7) (cwV 2 hts gX4_readTest_X7_emit rfl rfl rfl hd_X7_emit_v ⟨by dsimp only [headSpec]; omega, by dsimp only [headSpec]; omega⟩) (pvF_7_25 hK hN hE hP hD hS hA) rfl rfl hl.1 rfl (lv_room (Nat.le_of_ble_eq_true rfl)) dX4_readTest_46 ⟨Nat.le_of_ble_eq_true rfl, Nat.le_of_ble_eq_true rfl⟩) hD hS hA (fun u9 H locs hw hp hd hs => ?_)
        clear hP hD hS
        obtain rfl := hw
        have hP := hp; have hD := hd; have hS := hs; clear hp hd hs
        refine lv_aload_n hx hb dX4_readTest_49 rfl (lv_at hl 1 rfl) ?_
        obtain ⟨q11, h10, h⟩ := dV_some h
        refine dw_kv (va_runV (As := []) (rest := []) ⟨hx, hb, hml, hown, hts⟩ (qX4_step_s24 l D ty eo _ ad q8  q11 h10) (cwV 0 hts gX4_readTest_X4_step rfl rfl rfl hd_X4_step_v ⟨by dsimp only [headSpec]; omega, by dsimp only [headSpec]; omega⟩) (pvF_4_24 hK hN hE hP hD hS hA) rfl rfl hl.1 rfl (lv_room (Nat.le_of_ble_eq_true rfl)) dX4_readTest_50 ⟨Nat.le_of_ble_eq_true rfl, Nat.le_of_ble_eq_true rfl⟩) hD hS hA (fun u9 H locs hw hp hd hs => ?_)
        clear hP hD hS
        obtain rfl := hw
        have hP := hp; have hD := hd; have hS := hs; clear hp hd hs
        refine lv_aload_n hx hb dX4_readTest_53 rfl (lv_at hl 1 rfl) ?_
        obtain ⟨q14, h13, h⟩ := dV_some h
        refine dw_kv (va_runV (As := []) (rest := []) ⟨hx, hb, hml, hown, hts⟩ (qX4_readBoth_s24 l D ty eo _ ad kT nT hkT q11  q14 h13) (cwV 0 hts gX4_readTest_X4_readBoth rfl rfl rfl hd_X4_readBoth_v ⟨by dsimp only [headSpec]; omega, by dsimp only [headSpec]; omega⟩) (pvF_4_24 hK hN hE hP hD hS hA) rfl rfl hl.1 rfl (lv_room (Nat.le_of_ble_eq_true rfl)) dX4_readTest_54 ⟨Nat.le_of_ble_eq_true rfl, Nat.le_of_ble_eq_true rfl⟩) hD hS hA (fun u9 H locs hw hp hd hs => ?_)
        clear hP hD hS
        obtain rfl := hw
        have hP := hp; have hD := hd; have hS := hs; clear hp hd hs
        refine lv_aload_n hx hb dX4_readTest_57 rfl (lv_at hl 1 rfl) ?_
        refine va_get (D := D) (ci := 4) (v := dN (ad 25) (q14.1 24 3)) (C := RX4) (T := TX4) (N := 11) hx hb hts u9_wsX4_readTest_X4 hown hK hP 24 rfl rfl 3 (by decide) (hts (.fieldLink RX4 23 "TurnedFloors$Reader" "text" "LTurnedFloors$Text;") f9_wsX4_readTest_549) (fun _ h9 => h9) rfl dX4_readTest_58 ?_
        obtain ⟨g15, h⟩ := dG_some h
        refine kz_topv (if_neg (dnz_ne g15)) ?_
        refine lv_bipush (v := 12) hx hb dX4_readTest_61 (by decide) ?_
        refine lv_iload_n hx hb dX4_readTest_63 rfl (lv_at hl 0 rfl) ?_
        obtain ⟨q18, h17, h⟩ := dV_some h
        refine dw_kv (va_runV (As := [.int 12, .int (q3.1 25 7)]) (rest := []) ⟨hx, hb, hml, hown, hts⟩ (qX7_leapHere_s25 l D ty eo _ ad q14 12 (q3.1 25 7) q18 h17) (cwV 2 hts gX4_readTest_X7_leapHere rfl rfl rfl hd_X7_leapHere_v ⟨by dsimp only [headSpec]; omega, by dsimp only [headSpec]; omega⟩) (pvF_7_25 hK hN hE hP hD hS hA) rfl rfl hl.1 rfl (lv_room (Nat.le_of_ble_eq_true rfl)) dX4_readTest_64 ⟨Nat.le_of_ble_eq_true rfl, Nat.le_of_ble_eq_true rfl⟩) hD hS hA (fun u9 H locs hw hp hd hs => ?_)
        clear hP hD hS
        obtain rfl := hw
        have hP := hp; have hD := hd; have hS := hs; clear hp hd hs
        refine lv_iinc (v := x1 + 1) (lv' := [(1, .int (x1 + 1)), (2, .int (q3.1 25 7)), (0, .ref (ad 24))]) hx hb dX4_readTest_67 hl (k := 2) rfl rfl (by decide) rfl (fun ls hl => ?_)
        refine lv_goto (tgt := 6) hx hb dX4_readTest_70 (by decide) ?_
        exact hk6 _ _ _ _ _ h hP hD hS (lv_sub hl [2, 0] rfl)
set_option maxHeartbeats 4000000 in
set_option maxRecDepth 100000 in
theorem WX4_readTest_s24_6 {p : Program} {l : Launch} {e : Env} {s : State} {m : MethodId} {args : Array Value} {below : List Frame} {meth : Method} {c : Code} {D : va_G} {ty : Nat → ClassId} {eo : Nat → Nat} {A : Nat → Prop} {ad : Nat → Nat} {o2 : dK} {kT : dK → Option (dK)} {nT : Nat} (hkT : ∀ (sz : Nat) (q : dK)  (o2 : dK), kT q  = some o2 → Met l yX4_readTest wsX4_readTest ({ frames := 44 + 3 * nT, cells := 0, slots := 0, locals := 1130 + 66 * nT } : Room) (va_Pc [.ref (ad 24)] (kz_pre D ty eo (wF ty ad q) sz)) (va_Qv (fun (u : va_W) => wF ty ad o2 = u) (kz_B D ty (va_A (wF ty ad q) sz)) (va_A (wF ty ad q) sz)) 0 0 (va_A (wF ty ad q) sz)) (C : dc_C p s m args meth c cX4_readTest none 3 RX4 wsX4_readTest D ty eo A)   (n : Nat) (q : dK) (x1 : Int32) (H : Heap) (locs : List Loc) (ls : Array Slot) (h : zX4_readTest_s24_6 kT  n q x1 = some o2) (hP : va_P D vwCl (wF ty ad q) H) (hD : va_D A (wF ty ad q)) (hS : va_S A s.heap H locs) (hl : lv_has ls 3 [(0, .ref (ad 24)), (1, .int x1)]) : W p l e ({ frames := 44 + 3 * nT + 3, cells := 0, slots := 0, locals := 1130 + 66 * nT + 66 } : Room) s m args below meth c H locs 0 0 (MQ below (va_Qv (fun (u : va_W) => wF ty ad o2 = u) (kz_B D ty A) A) args s 0 0 A) (F0 m 6 ls []) := by
  exact dFix_W (F := fun k (a : dK × Int32) => zX4_readTest_s24_6b kT  (fun q x1 => k (q, x1)) a.1 a.2) (o := o2) (P := fun (a : dK × Int32) H locs ls => va_P D vwCl (wF ty ad a.1) H ∧ va_D A (wF ty ad a.1) ∧ va_S A s.heap H locs ∧ lv_has ls 3 [(0, .ref (ad 24)), (1, .int a.2)]) (G := fun H locs ls => W p l e ({ frames := 44 + 3 * nT + 3, cells := 0, slots := 0, locals := 1130 + 66 * nT + 66 } : Room) s m args below meth c H locs 0 0 (MQ below (va_Qv (fun (u : va_W) => wF ty ad o2 = u) (kz_B D ty A) A) args s 0 0 A) (F0 m 6 ls []))
    (fun k hk a H locs ls h hp => WX4_readTest_s24_6b hkT C  (fun q x1 H locs ls h h1 h2 h3 h4 => hk (q, x1) H locs ls h ⟨h1, h2, h3, h4⟩) a.1 a.2 H locs ls h hp.1 hp.2.1 hp.2.2.1 hp.2.2.2) n (q, x1) H locs ls h ⟨hP, hD, hS, hl⟩
set_option maxHeartbeats 4000000 in
set_option maxRecDepth 100000 in
theorem qX4_readTest_s24_o (l : Launch) (D : va_G) (ty : Nat → ClassId) (eo : Nat → Nat) (sz : Nat) (ad : Nat → Nat) (kT : dK → Option (dK)) (nT : Nat) (hkT : ∀ (sz : Nat) (q : dK)  (o2 : dK), kT q  = some o2 → Met l yX4_readTest wsX4_readTest ({ frames := 44 + 3 * nT, cells := 0, slots := 0, locals := 1130 + 66 * nT } : Room) (va_Pc [.ref (ad 24)] (kz_pre D ty eo (wF ty ad q) sz)) (va_Qv (fun (u : va_W) => wF ty ad o2 = u) (kz_B D ty (va_A (wF ty ad q) sz)) (va_A (wF ty ad q) sz)) 0 0 (va_A (wF ty ad q) sz)) (q : dK)  (o2 : dK) (h : zX4_readTest_s24_o kT q = some o2) : Met l yX4_readTest wsX4_readTest ({ frames := 44 + 3 * nT + 3, cells := 0, slots := 0, locals := 1130 + 66 * nT + 66 } : Room) (va_Pc [.ref (ad 24)] (kz_pre D ty eo (wF ty ad q) sz)) (va_Qv (fun (u : va_W) => wF ty ad o2 = u) (kz_B D ty (va_A (wF ty ad q) sz)) (va_A (wF ty ad q) sz)) 0 0 (va_A (wF ty ad q) sz) := by
  refine Met.ofW (cc := cX4_readTest) (maxL := 3) (ret := none) (by decide) rfl ?_
  intro p e s m args below meth c s₁ B hml hv
  obtain ⟨rfl, hsz, hP, hK, hD0, hN, hE⟩ := hv
  have hx := B.exec
  have hb := B.bytes
  have hr := B.returns
  have hts := atoms_spec (ws := wsX4_readTest) B.pre
  have hown : s.vm.findClass RX4 = some m.cls := findClass_of_methodNamed B.named
  have hlocks := B.notSynchronized
  subst hsz
  have hD := hD0.self (sz := s.heap.size)
  generalize hAe : va_A (wF ty ad q) s.heap.size = A at hD hE ⊢
  have hA : ∀ q : Nat, s.heap.size ≤ q → A q := fun q h => by rw [← hAe]; exact Or.inr h
  clear hAe
  have hS : va_S A s.heap s.heap [] := va_S.rf
  have hl := lv_entry ([.ref (ad 24)]) (n := 3) (Nat.le_of_ble_eq_true rfl)
  rw [lg_entry_eq]
  generalize (lg_sl ([.ref (ad 24)]) ++ List.replicate (3 - (lg_sl ([.ref (ad 24)])).length) Slot.unset).toArray = ls at hl ⊢
  have hl : lv_has ls 3 [(0, .ref (ad 24))] := hl
  have C : dc_C p s m _ meth c cX4_readTest none 3 RX4 wsX4_readTest D ty eo A := ⟨hx, hb, hr, hts, hown, hlocks, hml, hK, hN, hE, hA⟩
  unfold zX4_readTest_s24_o at h
  refine lv_aload_n hx hb dX4_readTest_0 rfl (lv_at hl 0 rfl) ?_
  obtain ⟨q3, h2, h⟩ := dV_some h
  refine dw_kv (va_runV (As := []) (rest := []) ⟨hx, hb, hml, hown, hts⟩ (qX4_readBoth_s24 l D ty eo _ ad kT nT hkT q  q3 h2) (cwV 0 hts gX4_readTest_X4_readBoth rfl rfl rfl hd_X4_readBoth_v ⟨by dsimp only [headSpec]; omega, by dsimp only [headSpec]; omega⟩) (pvF_4_24 hK hN hE hP hD hS hA) rfl rfl hl.1 rfl (lv_room (Nat.le_of_ble_eq_true rfl)) dX4_readTest_1 ⟨Nat.le_of_ble_eq_true rfl, Nat.le_of_ble_eq_true rfl⟩) hD hS hA (fun u9 H locs hw hp hd hs => ?_)
  clear hP hD hS
  obtain rfl := hw
  have hP := hp; have hD := hd; have hS := hs; clear hp hd hs
  refine lv_iconst (v := 0) hx hb dX4_readTest_4 (by decide) ?_
  refine lv_istore_n (lv' := [(1, .int 0), (0, .ref (ad 24))]) hx hb dX4_readTest_5 rfl hl (by decide) rfl (fun ls hl => ?_)
  exact WX4_readTest_s24_6 hkT C  _ _ _ _ _ _ h hP hD hS (lv_sub hl [1, 0] rfl)
set_option maxHeartbeats 4000000 in
set_option maxRecDepth 100000 in
theorem qX4_readTest_s24 (l : Launch) (D : va_G) (ty : Nat → ClassId) (eo : Nat → Nat) (sz : Nat) (ad : Nat → Nat) (n : Nat) : ∀ (q : dK)  (o2 : dK), zX4_readTest_s24 n q  = some o2 → Met l yX4_readTest wsX4_readTest ({ frames := 44 + 3 * n, cells := 0, slots := 0, locals := 1130 + 66 * n } : Room) (va_Pc [.ref (ad 24)] (kz_pre D ty eo (wF ty ad q) sz)) (va_Qv (fun (u : va_W) => wF ty ad o2 = u) (kz_B D ty (va_A (wF ty ad q) sz)) (va_A (wF ty ad q) sz)) 0 0 (va_A (wF ty ad q) sz) := by
  induction n generalizing sz with
  | zero => intro q  o2 h; cases h
  | succ n ih =>
    intro q  o2 h
    have h2 := qX4_readTest_s24_o l D ty eo sz ad (zX4_readTest_s24 n) n (fun sz q  o2 h => ih sz q  o2 h) q  o2 h
    have e : ({ frames := 44 + 3 * n + 3, cells := 0, slots := 0, locals := 1130 + 66 * n + 66 } : Room) = ({ frames := 44 + 3 * (n + 1), cells := 0, slots := 0, locals := 1130 + 66 * (n + 1) } : Room) := by congr 1 <;> omega
    rw [← e]
    exact h2

set_option maxHeartbeats 4000000 in
set_option maxRecDepth 100000 in
theorem WX7_endTest_s25_22 {p : Program} {l : Launch} {e : Env} {s : State} {m : MethodId} {args : Array Value} {below : List Frame} {meth : Method} {c : Code} {D : va_G} {ty : Nat → ClassId} {eo : Nat → Nat} {A : Nat → Prop} {ad : Nat → Nat} {o2 : dK} (C : dc_C p s m args meth c cX7_endTest none 1 RX7 wsX7_endTest D ty eo A)   (q : dK)  (H : Heap) (locs : List Loc) (ls : Array Slot) (h : zX7_endTest_s25_22  q = some o2) (hP : va_P D vwCl (wF ty ad q) H) (hD : va_D A (wF ty ad q)) (hS : va_S A s.heap H locs) (hl : lv_has ls 1 []) : W p l e ({ frames := 0, cells := 0, slots := 0, locals := 0 } : Room) s m args below meth c H locs 0 0 (MQ below (va_Qv (fun (u : va_W) => wF ty ad o2 = u) (kz_B D ty A) A) args s 0 0 A) (F0 m 22 ls []) := by
  have C0 := C
  obtain ⟨hx, hb, hr, hts, hown, hlocks, hml, hK, hN, hE, hA⟩ := C
  unfold zX7_endTest_s25_22 at h
  cases h
  exact kz_vret hx hb hr hlocks hP hK hD hS dX7_endTest_22 rfl
set_option maxHeartbeats 4000000 in
set_option maxRecDepth 100000 in
theorem qX7_endTest_s25 (l : Launch) (D : va_G) (ty : Nat → ClassId) (eo : Nat → Nat) (sz : Nat) (ad : Nat → Nat) (q : dK)  (o2 : dK) (h : zX7_endTest_s25 q = some o2) : Met l yX7_endTest wsX7_endTest ({ frames := 0, cells := 0, slots := 0, locals := 0 } : Room) (va_Pc [.ref (ad 25)] (kz_pre D ty eo (wF ty ad q) sz)) (va_Qv (fun (u : va_W) => wF ty ad o2 = u) (kz_B D ty (va_A (wF ty ad q) sz)) (va_A (wF ty ad q) sz)) 0 0 (va_A (wF ty ad q) sz) := by
  refine Met.ofW (cc := cX7_endTest) (maxL := 1) (ret := none) (by decide) rfl ?_
  intro p e s m args below meth c s₁ B hml hv
  obtain ⟨rfl, hsz, hP, hK, hD0, hN, hE⟩ := hv
  have hx := B.exec
  have hb := B.bytes
  have hr := B.returns
  have hts := atoms_spec (ws := wsX7_endTest) B.pre
  have hown : s.vm.findClass RX7 = some m.cls := findClass_of_methodNamed B.named
  have hlocks := B.notSynchronized
  subst hsz
  have hD := hD0.self (sz := s.heap.size)
  generalize hAe : va_A (wF ty ad q) s.heap.size = A at hD hE ⊢
  have hA : ∀ q : Nat, s.heap.size ≤ q → A q := fun q h => by rw [← hAe]; exact Or.inr h
  clear hAe
  have hS : va_S A s.heap s.heap [] := va_S.rf
  have hl := lv_entry ([.ref (ad 25)]) (n := 1) (Nat.le_of_ble_eq_true rfl)
  rw [lg_entry_eq]
  generalize (lg_sl ([.ref (ad 25)]) ++ List.replicate (1 - (lg_sl ([.ref (ad 25)])).length) Slot.unset).toArray = ls at hl ⊢
  have hl : lv_has ls 1 [(0, .ref (ad 25))] := hl
  have C : dc_C p s m _ meth c cX7_endTest none 1 RX7 wsX7_endTest D ty eo A := ⟨hx, hb, hr, hts, hown, hlocks, hml, hK, hN, hE, hA⟩
  unfold zX7_endTest_s25 at h
  refine lv_aload_n hx hb dX7_endTest_0 rfl (lv_at hl 0 rfl) ?_
  refine va_get (D := D) (ci := 7) (v := .int (q.1 25 6)) (C := RX7) (T := TX7) (N := 8) hx hb hts u9_wsX7_endTest_X7 hown hK hP 25 rfl rfl 6 (by decide) (hts (.fieldLink RX7 7 "TurnedFloors$Text" "clauses" "I") f9_wsX7_endTest_551) (fun _ h9 => h9) rfl dX7_endTest_1 ?_
  refine lv_if_le (tgt := 22) hx hb dX7_endTest_4 (by decide) (fun c9 => ?_) (fun c9 => ?_)
  · rw [if_pos c9] at h
    exact WX7_endTest_s25_22 C  _ _ _ _ h hP hD hS (lv_sub hl [] rfl)
  · rw [if_neg c9] at h
    refine lv_aload_n hx hb dX7_endTest_7 rfl (lv_at hl 0 rfl) ?_
    refine va_get (D := D) (ci := 7) (v := .ref (ad 30)) (C := RX7) (T := TX7) (N := 8) hx hb hts u9_wsX7_endTest_X7 hown hK hP 25 rfl rfl 4 (by decide) (hts (.fieldLink RX7 29 "TurnedFloors$Text" "testTo" "[I") f9_wsX7_endTest_552) (fun _ h9 => h9) rfl dX7_endTest_8 ?_
    refine lv_aload_n hx hb dX7_endTest_11 rfl (lv_at hl 0 rfl) ?_
    refine va_get (D := D) (ci := 7) (v := .int (q.1 25 6)) (C := RX7) (T := TX7) (N := 8) hx hb hts u9_wsX7_endTest_X7 hown hK hP 25 rfl rfl 6 (by decide) (hts (.fieldLink RX7 7 "TurnedFloors$Text" "clauses" "I") f9_wsX7_endTest_551) (fun _ h9 => h9) rfl dX7_endTest_12 ?_
    refine lv_iconst (v := 1) hx hb dX7_endTest_15 (by decide) ?_
    refine lv_isub hx hb dX7_endTest_16 ?_
    refine lv_aload_n hx hb dX7_endTest_17 rfl (lv_at hl 0 rfl) ?_
    refine va_get (D := D) (ci := 7) (v := .int (q.1 25 7)) (C := RX7) (T := TX7) (N := 8) hx hb hts u9_wsX7_endTest_X7 hown hK hP 25 rfl rfl 7 (by decide) (hts (.fieldLink RX7 13 "TurnedFloors$Text" "length" "I") f9_wsX7_endTest_553) (fun _ h9 => h9) rfl dX7_endTest_18 ?_
    obtain ⟨g1, h⟩ := dG_some h
    refine va_iast hx hb hK hP hD hS 30 0 rfl rfl (dg_in g1) dX7_endTest_21 (fun H locs hp hd hs => ?_)
    obtain ⟨q2, eq2, h⟩ := dL_some h
    refine kz_re (w2 := wF ty ad q2) hp hd hs (by rw [← eq2]; exact wF_a30 ty ad q (Int32.toNatClampNeg ((q.1 25 6) - 1 : Int32)) (q.1 25 7)) ?_
    clear hp hd hs hP hD hS
    intro hP hD hS
    exact WX7_endTest_s25_22 C  _ _ _ _ h hP hD hS (lv_sub hl [] rfl)

set_option maxHeartbeats 4000000 in
set_option maxRecDepth 100000 in
theorem WX4_readClause_s24_135 {p : Program} {l : Launch} {e : Env} {s : State} {m : MethodId} {args : Array Value} {below : List Frame} {meth : Method} {c : Code} {D : va_G} {ty : Nat → ClassId} {eo : Nat → Nat} {A : Nat → Prop} {ad : Nat → Nat} {o2 : dK} (C : dc_C p s m args meth c cX4_readClause none 2 RX4 wsX4_readClause D ty eo A)   (q : dK)  (H : Heap) (locs : List Loc) (ls : Array Slot) (h : zX4_readClause_s24_135  q = some o2) (hP : va_P D vwCl (wF ty ad q) H) (hD : va_D A (wF ty ad q)) (hS : va_S A s.heap H locs) (hl : lv_has ls 2 []) : W p l e ({ frames := 75, cells := 0, slots := 0, locals := 1812 } : Room) s m args below meth c H locs 0 0 (MQ below (va_Qv (fun (u : va_W) => wF ty ad o2 = u) (kz_B D ty A) A) args s 0 0 A) (F0 m 135 ls []) := by
  have C0 := C
  obtain ⟨hx, hb, hr, hts, hown, hlocks, hml, hK, hN, hE, hA⟩ := C
  unfold zX4_readClause_s24_135 at h
  cases h
  exact kz_vret hx hb hr hlocks hP hK hD hS dX4_readClause_135 rfl
set_option maxHeartbeats 4000000 in
set_option maxRecDepth 100000 in
theorem WX4_readClause_s24_103 {p : Program} {l : Launch} {e : Env} {s : State} {m : MethodId} {args : Array Value} {below : List Frame} {meth : Method} {c : Code} {D : va_G} {ty : Nat → ClassId} {eo : Nat → Nat} {A : Nat → Prop} {ad : Nat → Nat} {o2 : dK} (C : dc_C p s m args meth c cX4_readClause none 2 RX4 wsX4_readClause D ty eo A)   (q : dK)  (H : Heap) (locs : List Loc) (ls : Array Slot) (h : zX4_readClause_s24_103  q = some o2) (hP : va_P D vwCl (wF ty ad q) H) (hD : va_D A (wF ty ad q)) (hS : va_S A s.heap H locs) (hl : lv_has ls 2 [(0, .ref (ad 24))]) : W p l e ({ frames := 75, cells := 0, slots := 0, locals := 1812 } : Room) s m args below meth c H locs 0 0 (MQ below (va_Qv (fun (u : va_W) => wF ty ad o2 = u) (kz_B D ty A) A) args s 0 0 A) (F0 m 103 ls []) := by
  have C0 := C
  obtain ⟨hx, hb, hr, hts, hown, hlocks, hml, hK, hN, hE, hA⟩ := C
  unfold zX4_readClause_s24_103 at h
  refine lv_aload_n hx hb dX4_readClause_103 rfl (lv_at hl 0 rfl) ?_
  refine va_get (D := D) (ci := 4) (v := .int (q.1 24 10)) (C := RX4) (T := TX4) (N := 11) hx hb hts u9_wsX4_readClause_X4 hown hK hP 24 rfl rfl 10 (by decide) (hts (.fieldLink RX4 45 "TurnedFloors$Reader" "faultAt" "I") f9_wsX4_readClause_555) (fun _ h9 => h9) rfl dX4_readClause_104 ?_
  refine lv_iconst (v := (-1)) hx hb dX4_readClause_107 (by decide) ?_
  refine lv_icmp_ne (tgt := 135) hx hb dX4_readClause_108 (by decide) (fun c9 => ?_) (fun c9 => ?_)
  · rw [if_neg c9] at h
    exact WX4_readClause_s24_135 C0  _ _ _ _ h hP hD hS (lv_sub hl [] rfl)
  · rw [if_pos c9] at h
    refine lv_aload_n hx hb dX4_readClause_111 rfl (lv_at hl 0 rfl) ?_
    refine va_ldcS hx hb hown (hE.2.2.2.2.1 7 (by decide)) dX4_readClause_112 ?_
    obtain ⟨r1, q3, h2, h⟩ := dB_some h
    refine dw_ki (va_runV (As := [.ref (eo (1 + 7))]) (rest := []) ⟨hx, hb, hml, hown, hts⟩ (qX4_isWord_s24_t7 l D ty eo _ ad q  r1 q3 h2) (cwV 1 hts gX4_readClause_X4_isWord rfl rfl rfl hd_X4_isWord_v ⟨Nat.le_of_ble_eq_true rfl, Nat.le_of_ble_eq_true rfl⟩) (pvF_4_24 hK hN hE hP hD hS hA) rfl rfl hl.1 rfl (lv_room (Nat.le_of_ble_eq_true rfl)) dX4_readClause_114 ⟨Nat.le_of_ble_eq_true rfl, Nat.le_of_ble_eq_true rfl⟩) hD hS hA (fun r9 u9 H locs hw hp hd hs => ?_)
    clear hP hD hS
    obtain ⟨rfl, rfl⟩ := hw
    have hP := hp; have hD := hd; have hS := hs; clear hp hd hs
    refine lv_if_eq (tgt := 135) hx hb dX4_readClause_117 (by decide) (fun c9 => ?_) (fun c9 => ?_)
    · rw [if_pos c9] at h
      exact WX4_readClause_s24_135 C0  _ _ _ _ h hP hD hS (lv_sub hl [] rfl)
    · rw [if_neg c9] at h
      refine lv_aload_n hx hb dX4_readClause_120 rfl (lv_at hl 0 rfl) ?_
      obtain ⟨q6, h5, h⟩ := dV_some h
      refine dw_kv (va_runV (As := []) (rest := []) ⟨hx, hb, hml, hown, hts⟩ (qX4_step_s24 l D ty eo _ ad q3  q6 h5) (cwV 0 hts gX4_readClause_X4_step rfl rfl rfl hd_X4_step_v ⟨Nat.le_of_ble_eq_true rfl, Nat.le_of_ble_eq_true rfl⟩) (pvF_4_24 hK hN hE hP hD hS hA) rfl rfl hl.1 rfl (lv_room (Nat.le_of_ble_eq_true rfl)) dX4_readClause_121 ⟨Nat.le_of_ble_eq_true rfl, Nat.le_of_ble_eq_true rfl⟩) hD hS hA (fun u9 H locs hw hp hd hs => ?_)
      clear hP hD hS
      obtain rfl := hw
      have hP := hp; have hD := hd; have hS := hs; clear hp hd hs
      refine lv_aload_n hx hb dX4_readClause_124 rfl (lv_at hl 0 rfl) ?_
      obtain ⟨q9, h8, h⟩ := dV_some h
      refine dw_kv (va_runV (As := []) (rest := []) ⟨hx, hb, hml, hown, hts⟩ (qX4_readTest_s24 l D ty eo _ ad 10 q6  q9 h8) (cwV 0 hts gX4_readClause_X4_readTest rfl rfl rfl hd_X4_readTest_v ⟨Nat.le_of_ble_eq_true rfl, Nat.le_of_ble_eq_true rfl⟩) (pvF_4_24 hK hN hE hP hD hS hA) rfl rfl hl.1 rfl (lv_room (Nat.le_of_ble_eq_true rfl)) dX4_readClause_125 ⟨Nat.le_of_ble_eq_true rfl, Nat.le_of_ble_eq_true rfl⟩) hD hS hA (fun u9 H locs hw hp hd hs => ?_)
      clear hP hD hS
      obtain rfl := hw
      have hP := hp; have hD := hd; have hS := hs; clear hp hd hs
      refine lv_aload_n hx hb dX4_readClause_128 rfl (lv_at hl 0 rfl) ?_
      refine va_get (D := D) (ci := 4) (v := dN (ad 25) (q9.1 24 3)) (C := RX4) (T := TX4) (N := 11) hx hb hts u9_wsX4_readClause_X4 hown hK hP 24 rfl rfl 3 (by decide) (hts (.fieldLink RX4 23 "TurnedFloors$Reader" "text" "LTurnedFloors$Text;") f9_wsX4_readClause_556) (fun _ h9 => h9) rfl dX4_readClause_129 ?_
      obtain ⟨g10, h⟩ := dG_some h
      refine kz_topv (if_neg (dnz_ne g10)) ?_
      obtain ⟨q13, h12, h⟩ := dV_some h
      refine dw_kv (va_runV (As := []) (rest := []) ⟨hx, hb, hml, hown, hts⟩ (qX7_endTest_s25 l D ty eo _ ad q9  q13 h12) (cwV 0 hts gX4_readClause_X7_endTest rfl rfl rfl hd_X7_endTest_v ⟨Nat.le_of_ble_eq_true rfl, Nat.le_of_ble_eq_true rfl⟩) (pvF_7_25 hK hN hE hP hD hS hA) rfl rfl hl.1 rfl (lv_room (Nat.le_of_ble_eq_true rfl)) dX4_readClause_132 ⟨Nat.le_of_ble_eq_true rfl, Nat.le_of_ble_eq_true rfl⟩) hD hS hA (fun u9 H locs hw hp hd hs => ?_)
      clear hP hD hS
      obtain rfl := hw
      have hP := hp; have hD := hd; have hS := hs; clear hp hd hs
      exact WX4_readClause_s24_135 C0  _ _ _ _ h hP hD hS (lv_sub hl [] rfl)
set_option maxHeartbeats 4000000 in
set_option maxRecDepth 100000 in
theorem WX4_readClause_s24_71 {p : Program} {l : Launch} {e : Env} {s : State} {m : MethodId} {args : Array Value} {below : List Frame} {meth : Method} {c : Code} {D : va_G} {ty : Nat → ClassId} {eo : Nat → Nat} {A : Nat → Prop} {ad : Nat → Nat} {o2 : dK} (C : dc_C p s m args meth c cX4_readClause none 2 RX4 wsX4_readClause D ty eo A)   (q : dK)  (H : Heap) (locs : List Loc) (ls : Array Slot) (h : zX4_readClause_s24_71  q = some o2) (hP : va_P D vwCl (wF ty ad q) H) (hD : va_D A (wF ty ad q)) (hS : va_S A s.heap H locs) (hl : lv_has ls 2 [(0, .ref (ad 24))]) : W p l e ({ frames := 75, cells := 0, slots := 0, locals := 1812 } : Room) s m args below meth c H locs 0 0 (MQ below (va_Qv (fun (u : va_W) => wF ty ad o2 = u) (kz_B D ty A) A) args s 0 0 A) (F0 m 71 ls []) := by
  have C0 := C
  obtain ⟨hx, hb, hr, hts, hown, hlocks, hml, hK, hN, hE, hA⟩ := C
  unfold zX4_readClause_s24_71 at h
  refine lv_aload_n hx hb dX4_readClause_71 rfl (lv_at hl 0 rfl) ?_
  refine va_get (D := D) (ci := 4) (v := .int (q.1 24 2)) (C := RX4) (T := TX4) (N := 11) hx hb hts u9_wsX4_readClause_X4 hown hK hP 24 rfl rfl 2 (by decide) (hts (.fieldLink RX4 19 "TurnedFloors$Reader" "ofOrders" "Z") f9_wsX4_readClause_557) (fun _ h9 => h9) rfl dX4_readClause_72 ?_
  refine lv_if_eq (tgt := 103) hx hb dX4_readClause_75 (by decide) (fun c9 => ?_) (fun c9 => ?_)
  · rw [if_pos c9] at h
    exact WX4_readClause_s24_103 C0  _ _ _ _ h hP hD hS (lv_sub hl [0] rfl)
  · rw [if_neg c9] at h
    refine lv_aload_n hx hb dX4_readClause_78 rfl (lv_at hl 0 rfl) ?_
    refine va_get (D := D) (ci := 4) (v := .int (q.1 24 10)) (C := RX4) (T := TX4) (N := 11) hx hb hts u9_wsX4_readClause_X4 hown hK hP 24 rfl rfl 10 (by decide) (hts (.fieldLink RX4 45 "TurnedFloors$Reader" "faultAt" "I") f9_wsX4_readClause_555) (fun _ h9 => h9) rfl dX4_readClause_79 ?_
    refine lv_iconst (v := (-1)) hx hb dX4_readClause_82 (by decide) ?_
    refine lv_icmp_ne (tgt := 103) hx hb dX4_readClause_83 (by decide) (fun c9 => ?_) (fun c9 => ?_)
    · rw [if_neg c9] at h
      exact WX4_readClause_s24_103 C0  _ _ _ _ h hP hD hS (lv_sub hl [0] rfl)
    · rw [if_pos c9] at h
      refine lv_aload_n hx hb dX4_readClause_86 rfl (lv_at hl 0 rfl) ?_
      refine va_ldcS hx hb hown (hE.2.2.2.2.1 6 (by decide)) dX4_readClause_87 ?_
      obtain ⟨r1, q3, h2, h⟩ := dB_some h
      refine dw_ki (va_runV (As := [.ref (eo (1 + 6))]) (rest := []) ⟨hx, hb, hml, hown, hts⟩ (qX4_isWord_s24_t6 l D ty eo _ ad q  r1 q3 h2) (cwV 1 hts gX4_readClause_X4_isWord rfl rfl rfl hd_X4_isWord_v ⟨Nat.le_of_ble_eq_true rfl, Nat.le_of_ble_eq_true rfl⟩) (pvF_4_24 hK hN hE hP hD hS hA) rfl rfl hl.1 rfl (lv_room (Nat.le_of_ble_eq_true rfl)) dX4_readClause_89 ⟨Nat.le_of_ble_eq_true rfl, Nat.le_of_ble_eq_true rfl⟩) hD hS hA (fun r9 u9 H locs hw hp hd hs => ?_)
      clear hP hD hS
      obtain ⟨rfl, rfl⟩ := hw
      have hP := hp; have hD := hd; have hS := hs; clear hp hd hs
      refine lv_if_eq (tgt := 103) hx hb dX4_readClause_92 (by decide) (fun c9 => ?_) (fun c9 => ?_)
      · rw [if_pos c9] at h
        exact WX4_readClause_s24_103 C0  _ _ _ _ h hP hD hS (lv_sub hl [0] rfl)
      · rw [if_neg c9] at h
        refine lv_aload_n hx hb dX4_readClause_95 rfl (lv_at hl 0 rfl) ?_
        obtain ⟨q6, h5, h⟩ := dV_some h
        refine dw_kv (va_runV (As := []) (rest := []) ⟨hx, hb, hml, hown, hts⟩ (qX4_step_s24 l D ty eo _ ad q3  q6 h5) (cwV 0 hts gX4_readClause_X4_step rfl rfl rfl hd_X4_step_v ⟨Nat.le_of_ble_eq_true rfl, Nat.le_of_ble_eq_true rfl⟩) (pvF_4_24 hK hN hE hP hD hS hA) rfl rfl hl.1 rfl (lv_room (Nat.le_of_ble_eq_true rfl)) dX4_readClause_96 ⟨Nat.le_of_ble_eq_true rfl, Nat.le_of_ble_eq_true rfl⟩) hD hS hA (fun u9 H locs hw hp hd hs => ?_)
        clear hP hD hS
        obtain rfl := hw
        have hP := hp; have hD := hd; have hS := hs; clear hp hd hs
        refine lv_aload_n hx hb dX4_readClause_99 rfl (lv_at hl 0 rfl) ?_
        obtain ⟨q9, h8, h⟩ := dV_some h
        refine dw_kv (va_runV (As := []) (rest := []) ⟨hx, hb, hml, hown, hts⟩ (qX4_readTimes_s24 l D ty eo _ ad q6  q9 h8) (cwV 0 hts gX4_readClause_X4_readTimes rfl rfl rfl hd_X4_readTimes_v ⟨Nat.le_of_ble_eq_true rfl, Nat.le_of_ble_eq_true rfl⟩) (pvF_4_24 hK hN hE hP hD hS hA) rfl rfl hl.1 rfl (lv_room (Nat.le_of_ble_eq_true rfl)) dX4_readClause_100 ⟨Nat.le_of_ble_eq_true rfl, Nat.le_of_ble_eq_true rfl⟩) hD hS hA (fun u9 H locs hw hp hd hs => ?_)
        clear hP hD hS
        obtain rfl := hw
        have hP := hp; have hD := hd; have hS := hs; clear hp hd hs
        exact WX4_readClause_s24_103 C0  _ _ _ _ h hP hD hS (lv_sub hl [0] rfl)
set_option maxHeartbeats 4000000 in
set_option maxRecDepth 100000 in
theorem WX4_readClause_s24_60 {p : Program} {l : Launch} {e : Env} {s : State} {m : MethodId} {args : Array Value} {below : List Frame} {meth : Method} {c : Code} {D : va_G} {ty : Nat → ClassId} {eo : Nat → Nat} {A : Nat → Prop} {ad : Nat → Nat} {o2 : dK} (C : dc_C p s m args meth c cX4_readClause none 2 RX4 wsX4_readClause D ty eo A)   (q : dK)  (H : Heap) (locs : List Loc) (ls : Array Slot) (h : zX4_readClause_s24_60  q = some o2) (hP : va_P D vwCl (wF ty ad q) H) (hD : va_D A (wF ty ad q)) (hS : va_S A s.heap H locs) (hl : lv_has ls 2 [(0, .ref (ad 24))]) : W p l e ({ frames := 75, cells := 0, slots := 0, locals := 1812 } : Room) s m args below meth c H locs 0 0 (MQ below (va_Qv (fun (u : va_W) => wF ty ad o2 = u) (kz_B D ty A) A) args s 0 0 A) (F0 m 60 ls []) := by
  have C0 := C
  obtain ⟨hx, hb, hr, hts, hown, hlocks, hml, hK, hN, hE, hA⟩ := C
  unfold zX4_readClause_s24_60 at h
  refine lv_aload_n hx hb dX4_readClause_60 rfl (lv_at hl 0 rfl) ?_
  obtain ⟨q3, h2, h⟩ := dV_some h
  refine dw_kv (va_runV (As := []) (rest := []) ⟨hx, hb, hml, hown, hts⟩ (qX4_readSum_s24 l D ty eo _ ad 10 q  q3 h2) (cwV 0 hts gX4_readClause_X4_readSum rfl rfl rfl hd_X4_readSum_v ⟨Nat.le_of_ble_eq_true rfl, Nat.le_of_ble_eq_true rfl⟩) (pvF_4_24 hK hN hE hP hD hS hA) rfl rfl hl.1 rfl (lv_room (Nat.le_of_ble_eq_true rfl)) dX4_readClause_61 ⟨Nat.le_of_ble_eq_true rfl, Nat.le_of_ble_eq_true rfl⟩) hD hS hA (fun u9 H locs hw hp hd hs => ?_)
  clear hP hD hS
  obtain rfl := hw
  have hP := hp; have hD := hd; have hS := hs; clear hp hd hs
  refine lv_aload_n hx hb dX4_readClause_64 rfl (lv_at hl 0 rfl) ?_
  refine va_get (D := D) (ci := 4) (v := dN (ad 25) (q3.1 24 3)) (C := RX4) (T := TX4) (N := 11) hx hb hts u9_wsX4_readClause_X4 hown hK hP 24 rfl rfl 3 (by decide) (hts (.fieldLink RX4 23 "TurnedFloors$Reader" "text" "LTurnedFloors$Text;") f9_wsX4_readClause_556) (fun _ h9 => h9) rfl dX4_readClause_65 ?_
  obtain ⟨g4, h⟩ := dG_some h
  refine kz_topv (if_neg (dnz_ne g4)) ?_
  obtain ⟨q7, h6, h⟩ := dV_some h
  refine dw_kv (va_runV (As := []) (rest := []) ⟨hx, hb, hml, hown, hts⟩ (qX7_endSum_s25 l D ty eo _ ad q3  q7 h6) (cwV 0 hts gX4_readClause_X7_endSum rfl rfl rfl hd_X7_endSum_v ⟨Nat.le_of_ble_eq_true rfl, Nat.le_of_ble_eq_true rfl⟩) (pvF_7_25 hK hN hE hP hD hS hA) rfl rfl hl.1 rfl (lv_room (Nat.le_of_ble_eq_true rfl)) dX4_readClause_68 ⟨Nat.le_of_ble_eq_true rfl, Nat.le_of_ble_eq_true rfl⟩) hD hS hA (fun u9 H locs hw hp hd hs => ?_)
  clear hP hD hS
  obtain rfl := hw
  have hP := hp; have hD := hd; have hS := hs; clear hp hd hs
  exact WX4_readClause_s24_71 C0  _ _ _ _ h hP hD hS (lv_sub hl [0] rfl)
set_option maxHeartbeats 4000000 in
set_option maxRecDepth 100000 in
theorem WX4_readClause_s24_15 {p : Program} {l : Launch} {e : Env} {s : State} {m : MethodId} {args : Array Value} {below : List Frame} {meth : Method} {c : Code} {D : va_G} {ty : Nat → ClassId} {eo : Nat → Nat} {A : Nat → Prop} {ad : Nat → Nat} {o2 : dK} (C : dc_C p s m args meth c cX4_readClause none 2 RX4 wsX4_readClause D ty eo A)   (q : dK)  (H : Heap) (locs : List Loc) (ls : Array Slot) (h : zX4_readClause_s24_15  q = some o2) (hP : va_P D vwCl (wF ty ad q) H) (hD : va_D A (wF ty ad q)) (hS : va_S A s.heap H locs) (hl : lv_has ls 2 [(0, .ref (ad 24))]) : W p l e ({ frames := 75, cells := 0, slots := 0, locals := 1812 } : Room) s m args below meth c H locs 0 0 (MQ below (va_Qv (fun (u : va_W) => wF ty ad o2 = u) (kz_B D ty A) A) args s 0 0 A) (F0 m 15 ls [.ref (eo (1 + 1)), .ref (ad 24)]) := by
  have C0 := C
  obtain ⟨hx, hb, hr, hts, hown, hlocks, hml, hK, hN, hE, hA⟩ := C
  unfold zX4_readClause_s24_15 at h
  obtain ⟨r1, q3, h2, h⟩ := dB_some h
  refine dw_ki (va_runV (As := [.ref (eo (1 + 1))]) (rest := []) ⟨hx, hb, hml, hown, hts⟩ (qX4_wordIn_s24_t1 l D ty eo _ ad q  r1 q3 h2) (cwV 1 hts gX4_readClause_X4_wordIn rfl rfl rfl hd_X4_wordIn_v ⟨Nat.le_of_ble_eq_true rfl, Nat.le_of_ble_eq_true rfl⟩) (pvF_4_24 hK hN hE hP hD hS hA) rfl rfl hl.1 rfl (lv_room (Nat.le_of_ble_eq_true rfl)) dX4_readClause_15 ⟨Nat.le_of_ble_eq_true rfl, Nat.le_of_ble_eq_true rfl⟩) hD hS hA (fun r9 u9 H locs hw hp hd hs => ?_)
  clear hP hD hS
  obtain ⟨rfl, rfl⟩ := hw
  have hP := hp; have hD := hd; have hS := hs; clear hp hd hs
  refine lv_istore_n (lv' := [(1, .int r1), (0, .ref (ad 24))]) hx hb dX4_readClause_18 rfl hl (by decide) rfl (fun ls hl => ?_)
  refine lv_iload_n hx hb dX4_readClause_19 rfl (lv_at hl 0 rfl) ?_
  refine lv_iconst (v := (-1)) hx hb dX4_readClause_20 (by decide) ?_
  refine lv_icmp_ne (tgt := 29) hx hb dX4_readClause_21 (by decide) (fun c9 => ?_) (fun c9 => ?_)
  · rw [if_neg c9] at h
    refine lv_aload_n hx hb dX4_readClause_29 rfl (lv_at hl 1 rfl) ?_
    refine va_get (D := D) (ci := 4) (v := dN (ad 25) (q3.1 24 3)) (C := RX4) (T := TX4) (N := 11) hx hb hts u9_wsX4_readClause_X4 hown hK hP 24 rfl rfl 3 (by decide) (hts (.fieldLink RX4 23 "TurnedFloors$Reader" "text" "LTurnedFloors$Text;") f9_wsX4_readClause_556) (fun _ h9 => h9) rfl dX4_readClause_30 ?_
    obtain ⟨g4, h⟩ := dG_some h
    refine kz_topv (if_neg (dnz_ne g4)) ?_
    refine lv_iload_n hx hb dX4_readClause_33 rfl (lv_at hl 0 rfl) ?_
    obtain ⟨q7, h6, h⟩ := dV_some h
    refine dw_kv (va_runV (As := [.int r1]) (rest := []) ⟨hx, hb, hml, hown, hts⟩ (qX7_beginClause_s25 l D ty eo _ ad q3 r1 q7 h6) (cwV 1 hts gX4_readClause_X7_beginClause rfl rfl rfl hd_X7_beginClause_v ⟨Nat.le_of_ble_eq_true rfl, Nat.le_of_ble_eq_true rfl⟩) (pvF_7_25 hK hN hE hP hD hS hA) rfl rfl hl.1 rfl (lv_room (Nat.le_of_ble_eq_true rfl)) dX4_readClause_34 ⟨Nat.le_of_ble_eq_true rfl, Nat.le_of_ble_eq_true rfl⟩) hD hS hA (fun u9 H locs hw hp hd hs => ?_)
    clear hP hD hS
    obtain rfl := hw
    have hP := hp; have hD := hd; have hS := hs; clear hp hd hs
    refine lv_aload_n hx hb dX4_readClause_37 rfl (lv_at hl 1 rfl) ?_
    obtain ⟨q10, h9, h⟩ := dV_some h
    refine dw_kv (va_runV (As := []) (rest := []) ⟨hx, hb, hml, hown, hts⟩ (qX4_step_s24 l D ty eo _ ad q7  q10 h9) (cwV 0 hts gX4_readClause_X4_step rfl rfl rfl hd_X4_step_v ⟨Nat.le_of_ble_eq_true rfl, Nat.le_of_ble_eq_true rfl⟩) (pvF_4_24 hK hN hE hP hD hS hA) rfl rfl hl.1 rfl (lv_room (Nat.le_of_ble_eq_true rfl)) dX4_readClause_38 ⟨Nat.le_of_ble_eq_true rfl, Nat.le_of_ble_eq_true rfl⟩) hD hS hA (fun u9 H locs hw hp hd hs => ?_)
    clear hP hD hS
    obtain rfl := hw
    have hP := hp; have hD := hd; have hS := hs; clear hp hd hs
    refine lv_aload_n hx hb dX4_readClause_41 rfl (lv_at hl 1 rfl) ?_
    refine va_get (D := D) (ci := 4) (v := .int (q10.1 24 2)) (C := RX4) (T := TX4) (N := 11) hx hb hts u9_wsX4_readClause_X4 hown hK hP 24 rfl rfl 2 (by decide) (hts (.fieldLink RX4 19 "TurnedFloors$Reader" "ofOrders" "Z") f9_wsX4_readClause_557) (fun _ h9 => h9) rfl dX4_readClause_42 ?_
    refine lv_if_eq (tgt := 56) hx hb dX4_readClause_45 (by decide) (fun c9 => ?_) (fun c9 => ?_)
    · rw [if_pos c9] at h
      refine lv_iload_n hx hb dX4_readClause_56 rfl (lv_at hl 0 rfl) ?_
      refine lv_if_ne (tgt := 71) hx hb dX4_readClause_57 (by decide) (fun c9 => ?_) (fun c9 => ?_)
      · rw [if_neg c9] at h
        exact WX4_readClause_s24_71 C0  _ _ _ _ h hP hD hS (lv_sub hl [1] rfl)
      · rw [if_pos c9] at h
        exact WX4_readClause_s24_60 C0  _ _ _ _ h hP hD hS (lv_sub hl [1] rfl)
    · rw [if_neg c9] at h
      refine lv_iload_n hx hb dX4_readClause_48 rfl (lv_at hl 0 rfl) ?_
      refine lv_iconst (v := 3) hx hb dX4_readClause_49 (by decide) ?_
      refine lv_icmp_eq (tgt := 71) hx hb dX4_readClause_50 (by decide) (fun c9 => ?_) (fun c9 => ?_)
      · rw [if_pos c9] at h
        exact WX4_readClause_s24_71 C0  _ _ _ _ h hP hD hS (lv_sub hl [1] rfl)
      · rw [if_neg c9] at h
        refine lv_goto (tgt := 60) hx hb dX4_readClause_53 (by decide) ?_
        exact WX4_readClause_s24_60 C0  _ _ _ _ h hP hD hS (lv_sub hl [1] rfl)
  · rw [if_pos c9] at h
    refine lv_aload_n hx hb dX4_readClause_24 rfl (lv_at hl 1 rfl) ?_
    obtain ⟨q13, h12, h⟩ := dV_some h
    refine dw_kv (va_runV (As := []) (rest := []) ⟨hx, hb, hml, hown, hts⟩ (qX4_fail_s24 l D ty eo _ ad q3  q13 h12) (cwV 0 hts gX4_readClause_X4_fail rfl rfl rfl hd_X4_fail_v ⟨Nat.le_of_ble_eq_true rfl, Nat.le_of_ble_eq_true rfl⟩) (pvF_4_24 hK hN hE hP hD hS hA) rfl rfl hl.1 rfl (lv_room (Nat.le_of_ble_eq_true rfl)) dX4_readClause_25 ⟨Nat.le_of_ble_eq_true rfl, Nat.le_of_ble_eq_true rfl⟩) hD hS hA (fun u9 H locs hw hp hd hs => ?_)
    clear hP hD hS
    obtain rfl := hw
    have hP := hp; have hD := hd; have hS := hs; clear hp hd hs
    cases h
    exact kz_vret hx hb hr hlocks hP hK hD hS dX4_readClause_28 rfl
set_option maxHeartbeats 4000000 in
set_option maxRecDepth 100000 in
theorem qX4_readClause_s24 (l : Launch) (D : va_G) (ty : Nat → ClassId) (eo : Nat → Nat) (sz : Nat) (ad : Nat → Nat) (q : dK)  (o2 : dK) (h : zX4_readClause_s24 q = some o2) : Met l yX4_readClause wsX4_readClause ({ frames := 75, cells := 0, slots := 0, locals := 1812 } : Room) (va_Pc [.ref (ad 24)] (kz_pre D ty eo (wF ty ad q) sz)) (va_Qv (fun (u : va_W) => wF ty ad o2 = u) (kz_B D ty (va_A (wF ty ad q) sz)) (va_A (wF ty ad q) sz)) 0 0 (va_A (wF ty ad q) sz) := by
  refine Met.ofW (cc := cX4_readClause) (maxL := 2) (ret := none) (by decide) rfl ?_
  intro p e s m args below meth c s₁ B hml hv
  obtain ⟨rfl, hsz, hP, hK, hD0, hN, hE⟩ := hv
  have hx := B.exec
  have hb := B.bytes
  have hr := B.returns
  have hts := atoms_spec (ws := wsX4_readClause) B.pre
  have hown : s.vm.findClass RX4 = some m.cls := findClass_of_methodNamed B.named
  have hlocks := B.notSynchronized
  subst hsz
  have hD := hD0.self (sz := s.heap.size)
  generalize hAe : va_A (wF ty ad q) s.heap.size = A at hD hE ⊢
  have hA : ∀ q : Nat, s.heap.size ≤ q → A q := fun q h => by rw [← hAe]; exact Or.inr h
  clear hAe
  have hS : va_S A s.heap s.heap [] := va_S.rf
  have hl := lv_entry ([.ref (ad 24)]) (n := 2) (Nat.le_of_ble_eq_true rfl)
  rw [lg_entry_eq]
  generalize (lg_sl ([.ref (ad 24)]) ++ List.replicate (2 - (lg_sl ([.ref (ad 24)])).length) Slot.unset).toArray = ls at hl ⊢
  have hl : lv_has ls 2 [(0, .ref (ad 24))] := hl
  have C : dc_C p s m _ meth c cX4_readClause none 2 RX4 wsX4_readClause D ty eo A := ⟨hx, hb, hr, hts, hown, hlocks, hml, hK, hN, hE, hA⟩
  unfold zX4_readClause_s24 at h
  refine lv_aload_n hx hb dX4_readClause_0 rfl (lv_at hl 0 rfl) ?_
  refine lv_aload_n hx hb dX4_readClause_1 rfl (lv_at hl 0 rfl) ?_
  refine va_get (D := D) (ci := 4) (v := .int (q.1 24 2)) (C := RX4) (T := TX4) (N := 11) hx hb hts u9_wsX4_readClause_X4 hown hK hP 24 rfl rfl 2 (by decide) (hts (.fieldLink RX4 19 "TurnedFloors$Reader" "ofOrders" "Z") f9_wsX4_readClause_557) (fun _ h9 => h9) rfl dX4_readClause_2 ?_
  refine lv_if_eq (tgt := 13) hx hb dX4_readClause_5 (by decide) (fun c9 => ?_) (fun c9 => ?_)
  · rw [if_pos c9] at h
    refine va_ldcS hx hb hown (hE.2.2.2.2.1 1 (by decide)) dX4_readClause_13 ?_
    exact WX4_readClause_s24_15 C  _ _ _ _ h hP hD hS (lv_sub hl [0] rfl)
  · rw [if_neg c9] at h
    refine va_ldcS hx hb hown (hE.2.2.2.2.1 0 (by decide)) dX4_readClause_8 ?_
    refine lv_goto (tgt := 15) hx hb dX4_readClause_10 (by decide) ?_
    obtain ⟨r1, q3, h2, h⟩ := dB_some h
    refine dw_ki (va_runV (As := [.ref (eo (1 + 0))]) (rest := []) ⟨hx, hb, hml, hown, hts⟩ (qX4_wordIn_s24_t0 l D ty eo _ ad q  r1 q3 h2) (cwV 1 hts gX4_readClause_X4_wordIn rfl rfl rfl hd_X4_wordIn_v ⟨Nat.le_of_ble_eq_true rfl, Nat.le_of_ble_eq_true rfl⟩) (pvF_4_24 hK hN hE hP hD hS hA) rfl rfl hl.1 rfl (lv_room (Nat.le_of_ble_eq_true rfl)) dX4_readClause_15 ⟨Nat.le_of_ble_eq_true rfl, Nat.le_of_ble_eq_true rfl⟩) hD hS hA (fun r9 u9 H locs hw hp hd hs => ?_)
    clear hP hD hS
    obtain ⟨rfl, rfl⟩ := hw
    have hP := hp; have hD := hd; have hS := hs; clear hp hd hs
    refine lv_istore_n (lv' := [(1, .int r1), (0, .ref (ad 24))]) hx hb dX4_readClause_18 rfl hl (by decide) rfl (fun ls hl => ?_)
    refine lv_iload_n hx hb dX4_readClause_19 rfl (lv_at hl 0 rfl) ?_
    refine lv_iconst (v := (-1)) hx hb dX4_readClause_20 (by decide) ?_
    refine lv_icmp_ne (tgt := 29) hx hb dX4_readClause_21 (by decide) (fun c9 => ?_) (fun c9 => ?_)
    · rw [if_neg c9] at h
      refine lv_aload_n hx hb dX4_readClause_29 rfl (lv_at hl 1 rfl) ?_
      refine va_get (D := D) (ci := 4) (v := dN (ad 25) (q3.1 24 3)) (C := RX4) (T := TX4) (N := 11) hx hb hts u9_wsX4_readClause_X4 hown hK hP 24 rfl rfl 3 (by decide) (hts (.fieldLink RX4 23 "TurnedFloors$Reader" "text" "LTurnedFloors$Text;") f9_wsX4_readClause_556) (fun _ h9 => h9) rfl dX4_readClause_30 ?_
      obtain ⟨g4, h⟩ := dG_some h
      refine kz_topv (if_neg (dnz_ne g4)) ?_
      refine lv_iload_n hx hb dX4_readClause_33 rfl (lv_at hl 0 rfl) ?_
      obtain ⟨q7, h6, h⟩ := dV_some h
      refine dw_kv (va_runV (As := [.int r1]) (rest := []) ⟨hx, hb, hml, hown, hts⟩ (qX7_beginClause_s25 l D ty eo _ ad q3 r1 q7 h6) (cwV 1 hts gX4_readClause_X7_beginClause rfl rfl rfl hd_X7_beginClause_v ⟨Nat.le_of_ble_eq_true rfl, Nat.le_of_ble_eq_true rfl⟩) (pvF_7_25 hK hN hE hP hD hS hA) rfl rfl hl.1 rfl (lv_room (Nat.le_of_ble_eq_true rfl)) dX4_readClause_34 ⟨Nat.le_of_ble_eq_true rfl, Nat.le_of_ble_eq_true rfl⟩) hD hS hA (fun u9 H locs hw hp hd hs => ?_)
      clear hP hD hS
      obtain rfl := hw
      have hP := hp; have hD := hd; have hS := hs; clear hp hd hs
      refine lv_aload_n hx hb dX4_readClause_37 rfl (lv_at hl 1 rfl) ?_
      obtain ⟨q10, h9, h⟩ := dV_some h
      refine dw_kv (va_runV (As := []) (rest := []) ⟨hx, hb, hml, hown, hts⟩ (qX4_step_s24 l D ty eo _ ad q7  q10 h9) (cwV 0 hts gX4_readClause_X4_step rfl rfl rfl hd_X4_step_v ⟨Nat.le_of_ble_eq_true rfl, Nat.le_of_ble_eq_true rfl⟩) (pvF_4_24 hK hN hE hP hD hS hA) rfl rfl hl.1 rfl (lv_room (Nat.le_of_ble_eq_true rfl)) dX4_readClause_38 ⟨Nat.le_of_ble_eq_true rfl, Nat.le_of_ble_eq_true rfl⟩) hD hS hA (fun u9 H locs hw hp hd hs => ?_)
      clear hP hD hS
      obtain rfl := hw
      have hP := hp; have hD := hd; have hS := hs; clear hp hd hs
      refine lv_aload_n hx hb dX4_readClause_41 rfl (lv_at hl 1 rfl) ?_
      refine va_get (D := D) (ci := 4) (v := .int (q10.1 24 2)) (C := RX4) (T := TX4) (N := 11) hx hb hts u9_wsX4_readClause_X4 hown hK hP 24 rfl rfl 2 (by decide) (hts (.fieldLink RX4 19 "TurnedFloors$Reader" "ofOrders" "Z") f9_wsX4_readClause_557) (fun _ h9 => h9) rfl dX4_readClause_42 ?_
      refine lv_if_eq (tgt := 56) hx hb dX4_readClause_45 (by decide) (fun c9 => ?_) (fun c9 => ?_)
      · rw [if_pos c9] at h
        refine lv_iload_n hx hb dX4_readClause_56 rfl (lv_at hl 0 rfl) ?_
        refine lv_if_ne (tgt := 71) hx hb dX4_readClause_57 (by decide) (fun c9 => ?_) (fun c9 => ?_)
        · rw [if_neg c9] at h
          exact WX4_readClause_s24_71 C  _ _ _ _ h hP hD hS (lv_sub hl [1] rfl)
        · rw [if_pos c9] at h
          exact WX4_readClause_s24_60 C  _ _ _ _ h hP hD hS (lv_sub hl [1] rfl)
      · rw [if_neg c9] at h
        refine lv_iload_n hx hb dX4_readClause_48 rfl (lv_at hl 0 rfl) ?_
        refine lv_iconst (v := 3) hx hb dX4_readClause_49 (by decide) ?_
        refine lv_icmp_eq (tgt := 71) hx hb dX4_readClause_50 (by decide) (fun c9 => ?_) (fun c9 => ?_)
        · rw [if_pos c9] at h
          exact WX4_readClause_s24_71 C  _ _ _ _ h hP hD hS (lv_sub hl [1] rfl)
        · rw [if_neg c9] at h
          refine lv_goto (tgt := 60) hx hb dX4_readClause_53 (by decide) ?_
          exact WX4_readClause_s24_60 C  _ _ _ _ h hP hD hS (lv_sub hl [1] rfl)
    · rw [if_pos c9] at h
      refine lv_aload_n hx hb dX4_readClause_24 rfl (lv_at hl 1 rfl) ?_
      obtain ⟨q13, h12, h⟩ := dV_some h
      refine dw_kv (va_runV (As := []) (rest := []) ⟨hx, hb, hml, hown, hts⟩ (qX4_fail_s24 l D ty eo _ ad q3  q13 h12) (cwV 0 hts gX4_readClause_X4_fail rfl rfl rfl hd_X4_fail_v ⟨Nat.le_of_ble_eq_true rfl, Nat.le_of_ble_eq_true rfl⟩) (pvF_4_24 hK hN hE hP hD hS hA) rfl rfl hl.1 rfl (lv_room (Nat.le_of_ble_eq_true rfl)) dX4_readClause_25 ⟨Nat.le_of_ble_eq_true rfl, Nat.le_of_ble_eq_true rfl⟩) hD hS hA (fun u9 H locs hw hp hd hs => ?_)
      clear hP hD hS
      obtain rfl := hw
      have hP := hp; have hD := hd; have hS := hs; clear hp hd hs
      cases h
      exact kz_vret hx hb hr hlocks hP hK hD hS dX4_readClause_28 rfl

set_option maxHeartbeats 4000000 in
set_option maxRecDepth 100000 in
theorem WX4_read_s24_s46_s25_122 {p : Program} {l : Launch} {e : Env} {s : State} {m : MethodId} {args : Array Value} {below : List Frame} {meth : Method} {c : Code} {D : va_G} {ty : Nat → ClassId} {eo : Nat → Nat} {A : Nat → Prop} {ad : Nat → Nat} {o1 : Int32} {o2 : dK} (C : dc_C p s m args meth c cX4_read (some .int) 6 RX4 wsX4_read D ty eo A)   (q : dK)  (H : Heap) (locs : List Loc) (ls : Array Slot) (h : zX4_read_s24_s46_s25_122  q = some (o1, o2)) (hP : va_P D vwCl (wF ty ad q) H) (hD : va_D A (wF ty ad q)) (hS : va_S A s.heap H locs) (hl : lv_has ls 6 [(0, .ref (ad 24))]) : W p l e ({ frames := 76, cells := 0, slots := 0, locals := 1833 } : Room) s m args below meth c H locs 0 0 (MQ below (va_Qi (fun (r : Int32) (u : va_W) => o1 = r ∧ wF ty ad o2 = u) (kz_B D ty A) A) args s 0 0 A) (F0 m 122 ls []) := by
  have C0 := C
  obtain ⟨hx, hb, hr, hts, hown, hlocks, hml, hK, hN, hE, hA⟩ := C
  unfold zX4_read_s24_s46_s25_122 at h
  refine lv_aload_n hx hb dX4_read_122 rfl (lv_at hl 0 rfl) ?_
  refine va_get (D := D) (ci := 4) (v := .int (q.1 24 10)) (C := RX4) (T := TX4) (N := 11) hx hb hts u9_wsX4_read_X4 hown hK hP 24 rfl rfl 10 (by decide) (hts (.fieldLink RX4 45 "TurnedFloors$Reader" "faultAt" "I") f9_wsX4_read_559) (fun _ h9 => h9) rfl dX4_read_123 ?_
  cases h
  exact kz_iret hx hb hr hlocks hP hK hD hS dX4_read_126 ⟨rfl, rfl⟩
set_option maxHeartbeats 4000000 in
set_option maxRecDepth 100000 in
theorem WX4_read_s24_s46_s25_110 {p : Program} {l : Launch} {e : Env} {s : State} {m : MethodId} {args : Array Value} {below : List Frame} {meth : Method} {c : Code} {D : va_G} {ty : Nat → ClassId} {eo : Nat → Nat} {A : Nat → Prop} {ad : Nat → Nat} {o1 : Int32} {o2 : dK} (C : dc_C p s m args meth c cX4_read (some .int) 6 RX4 wsX4_read D ty eo A) {k60 : dK → Int32 → Option (Int32 × dK)} (hk60 : ∀ (q : dK) (x5 : Int32) (H : Heap) (locs : List Loc) (ls : Array Slot), k60 q x5 = some (o1, o2) → va_P D vwCl (wF ty ad q) H → va_D A (wF ty ad q) → va_S A s.heap H locs → lv_has ls 6 [(0, .ref (ad 24)), (5, .int x5)] → W p l e ({ frames := 76, cells := 0, slots := 0, locals := 1833 } : Room) s m args below meth c H locs 0 0 (MQ below (va_Qi (fun (r : Int32) (u : va_W) => o1 = r ∧ wF ty ad o2 = u) (kz_B D ty A) A) args s 0 0 A) (F0 m 60 ls [])) (q : dK) (x5 : Int32) (H : Heap) (locs : List Loc) (ls : Array Slot) (h : zX4_read_s24_s46_s25_110 k60 q x5 = some (o1, o2)) (hP : va_P D vwCl (wF ty ad q) H) (hD : va_D A (wF ty ad q)) (hS : va_S A s.heap H locs) (hl : lv_has ls 6 [(0, .ref (ad 24)), (5, .int x5)]) : W p l e ({ frames := 76, cells := 0, slots := 0, locals := 1833 } : Room) s m args below meth c H locs 0 0 (MQ below (va_Qi (fun (r : Int32) (u : va_W) => o1 = r ∧ wF ty ad o2 = u) (kz_B D ty A) A) args s 0 0 A) (F0 m 110 ls []) := by
  have C0 := C
  obtain ⟨hx, hb, hr, hts, hown, hlocks, hml, hK, hN, hE, hA⟩ := C
  unfold zX4_read_s24_s46_s25_110 at h
  refine lv_aload_n hx hb dX4_read_110 rfl (lv_at hl 0 rfl) ?_
  refine lv_bipush (v := 59) hx hb dX4_read_111 (by decide) ?_
  obtain ⟨q3, h2, h⟩ := dV_some h
  refine dw_kv (va_runV (As := [.int 59]) (rest := []) ⟨hx, hb, hml, hown, hts⟩ (qX4_expectSign_s24 l D ty eo _ ad q 59 q3 h2) (cwV 1 hts gX4_read_X4_expectSign rfl rfl rfl hd_X4_expectSign_v ⟨Nat.le_of_ble_eq_true rfl, Nat.le_of_ble_eq_true rfl⟩) (pvF_4_24 hK hN hE hP hD hS hA) rfl rfl hl.1 rfl (lv_room (Nat.le_of_ble_eq_true rfl)) dX4_read_113 ⟨Nat.le_of_ble_eq_true rfl, Nat.le_of_ble_eq_true rfl⟩) hD hS hA (fun u9 H locs hw hp hd hs => ?_)
  clear hP hD hS
  obtain rfl := hw
  have hP := hp; have hD := hd; have hS := hs; clear hp hd hs
  refine lv_iinc (v := x5 + 1) (lv' := [(5, .int (x5 + 1)), (0, .ref (ad 24))]) hx hb dX4_read_116 hl (k := 1) rfl rfl (by decide) rfl (fun ls hl => ?_)
  refine lv_goto (tgt := 60) hx hb dX4_read_119 (by decide) ?_
  exact hk60 _ _ _ _ _ h hP hD hS (lv_sub hl [1, 0] rfl)
set_option maxHeartbeats 4000000 in
set_option maxRecDepth 100000 in
theorem WX4_read_s24_s46_s25_93 {p : Program} {l : Launch} {e : Env} {s : State} {m : MethodId} {args : Array Value} {below : List Frame} {meth : Method} {c : Code} {D : va_G} {ty : Nat → ClassId} {eo : Nat → Nat} {A : Nat → Prop} {ad : Nat → Nat} {o1 : Int32} {o2 : dK} (C : dc_C p s m args meth c cX4_read (some .int) 6 RX4 wsX4_read D ty eo A) {k60 : dK → Int32 → Option (Int32 × dK)} (hk60 : ∀ (q : dK) (x5 : Int32) (H : Heap) (locs : List Loc) (ls : Array Slot), k60 q x5 = some (o1, o2) → va_P D vwCl (wF ty ad q) H → va_D A (wF ty ad q) → va_S A s.heap H locs → lv_has ls 6 [(0, .ref (ad 24)), (5, .int x5)] → W p l e ({ frames := 76, cells := 0, slots := 0, locals := 1833 } : Room) s m args below meth c H locs 0 0 (MQ below (va_Qi (fun (r : Int32) (u : va_W) => o1 = r ∧ wF ty ad o2 = u) (kz_B D ty A) A) args s 0 0 A) (F0 m 60 ls [])) (q : dK) (x5 : Int32) (H : Heap) (locs : List Loc) (ls : Array Slot) (h : zX4_read_s24_s46_s25_93 k60 q x5 = some (o1, o2)) (hP : va_P D vwCl (wF ty ad q) H) (hD : va_D A (wF ty ad q)) (hS : va_S A s.heap H locs) (hl : lv_has ls 6 [(0, .ref (ad 24)), (5, .int x5)]) : W p l e ({ frames := 76, cells := 0, slots := 0, locals := 1833 } : Room) s m args below meth c H locs 0 0 (MQ below (va_Qi (fun (r : Int32) (u : va_W) => o1 = r ∧ wF ty ad o2 = u) (kz_B D ty A) A) args s 0 0 A) (F0 m 93 ls []) := by
  have C0 := C
  obtain ⟨hx, hb, hr, hts, hown, hlocks, hml, hK, hN, hE, hA⟩ := C
  unfold zX4_read_s24_s46_s25_93 at h
  refine lv_aload_n hx hb dX4_read_93 rfl (lv_at hl 0 rfl) ?_
  refine va_get (D := D) (ci := 4) (v := .int (q.1 24 10)) (C := RX4) (T := TX4) (N := 11) hx hb hts u9_wsX4_read_X4 hown hK hP 24 rfl rfl 10 (by decide) (hts (.fieldLink RX4 45 "TurnedFloors$Reader" "faultAt" "I") f9_wsX4_read_559) (fun _ h9 => h9) rfl dX4_read_94 ?_
  refine lv_iconst (v := (-1)) hx hb dX4_read_97 (by decide) ?_
  refine lv_icmp_ne (tgt := 110) hx hb dX4_read_98 (by decide) (fun c9 => ?_) (fun c9 => ?_)
  · rw [if_neg c9] at h
    exact WX4_read_s24_s46_s25_110 C0 hk60 _ _ _ _ _ h hP hD hS (lv_sub hl [0, 1] rfl)
  · rw [if_pos c9] at h
    refine lv_aload_n hx hb dX4_read_101 rfl (lv_at hl 0 rfl) ?_
    refine va_get (D := D) (ci := 4) (v := .int (q.1 24 4)) (C := RX4) (T := TX4) (N := 11) hx hb hts u9_wsX4_read_X4 hown hK hP 24 rfl rfl 4 (by decide) (hts (.fieldLink RX4 27 "TurnedFloors$Reader" "token" "I") f9_wsX4_read_560) (fun _ h9 => h9) rfl dX4_read_102 ?_
    refine lv_if_ne (tgt := 110) hx hb dX4_read_105 (by decide) (fun c9 => ?_) (fun c9 => ?_)
    · rw [if_neg c9] at h
      exact WX4_read_s24_s46_s25_110 C0 hk60 _ _ _ _ _ h hP hD hS (lv_sub hl [0, 1] rfl)
    · rw [if_pos c9] at h
      refine lv_iconst (v := (-1)) hx hb dX4_read_108 (by decide) ?_
      cases h
      exact kz_iret hx hb hr hlocks hP hK hD hS dX4_read_109 ⟨rfl, rfl⟩
set_option maxHeartbeats 4000000 in
set_option maxRecDepth 100000 in
theorem WX4_read_s24_s46_s25_60b {p : Program} {l : Launch} {e : Env} {s : State} {m : MethodId} {args : Array Value} {below : List Frame} {meth : Method} {c : Code} {D : va_G} {ty : Nat → ClassId} {eo : Nat → Nat} {A : Nat → Prop} {ad : Nat → Nat} {o1 : Int32} {o2 : dK} (C : dc_C p s m args meth c cX4_read (some .int) 6 RX4 wsX4_read D ty eo A) {k60 : dK → Int32 → Option (Int32 × dK)} (hk60 : ∀ (q : dK) (x5 : Int32) (H : Heap) (locs : List Loc) (ls : Array Slot), k60 q x5 = some (o1, o2) → va_P D vwCl (wF ty ad q) H → va_D A (wF ty ad q) → va_S A s.heap H locs → lv_has ls 6 [(0, .ref (ad 24)), (5, .int x5)] → W p l e ({ frames := 76, cells := 0, slots := 0, locals := 1833 } : Room) s m args below meth c H locs 0 0 (MQ below (va_Qi (fun (r : Int32) (u : va_W) => o1 = r ∧ wF ty ad o2 = u) (kz_B D ty A) A) args s 0 0 A) (F0 m 60 ls [])) (q : dK) (x5 : Int32) (H : Heap) (locs : List Loc) (ls : Array Slot) (h : zX4_read_s24_s46_s25_60b k60 q x5 = some (o1, o2)) (hP : va_P D vwCl (wF ty ad q) H) (hD : va_D A (wF ty ad q)) (hS : va_S A s.heap H locs) (hl : lv_has ls 6 [(0, .ref (ad 24)), (5, .int x5)]) : W p l e ({ frames := 76, cells := 0, slots := 0, locals := 1833 } : Room) s m args below meth c H locs 0 0 (MQ below (va_Qi (fun (r : Int32) (u : va_W) => o1 = r ∧ wF ty ad o2 = u) (kz_B D ty A) A) args s 0 0 A) (F0 m 60 ls []) := by
  have C0 := C
  obtain ⟨hx, hb, hr, hts, hown, hlocks, hml, hK, hN, hE, hA⟩ := C
  unfold zX4_read_s24_s46_s25_60b at h
  refine lv_iload hx hb dX4_read_60 (lv_at hl 1 rfl) ?_
  refine lv_bipush (v := 12) hx hb dX4_read_62 (by decide) ?_
  refine lv_icmp_gt (tgt := 122) hx hb dX4_read_64 (by decide) (fun c9 => ?_) (fun c9 => ?_)
  · rw [if_pos c9] at h
    exact WX4_read_s24_s46_s25_122 C0  _ _ _ _ h hP hD hS (lv_sub hl [0] rfl)
  · rw [if_neg c9] at h
    refine lv_aload_n hx hb dX4_read_67 rfl (lv_at hl 0 rfl) ?_
    refine va_get (D := D) (ci := 4) (v := .int (q.1 24 10)) (C := RX4) (T := TX4) (N := 11) hx hb hts u9_wsX4_read_X4 hown hK hP 24 rfl rfl 10 (by decide) (hts (.fieldLink RX4 45 "TurnedFloors$Reader" "faultAt" "I") f9_wsX4_read_559) (fun _ h9 => h9) rfl dX4_read_68 ?_
    refine lv_iconst (v := (-1)) hx hb dX4_read_71 (by decide) ?_
    refine lv_icmp_ne (tgt := 122) hx hb dX4_read_72 (by decide) (fun c9 => ?_) (fun c9 => ?_)
    · rw [if_neg c9] at h
      exact WX4_read_s24_s46_s25_122 C0  _ _ _ _ h hP hD hS (lv_sub hl [0] rfl)
    · rw [if_pos c9] at h
      refine lv_iload hx hb dX4_read_75 (lv_at hl 1 rfl) ?_
      refine lv_bipush (v := 12) hx hb dX4_read_77 (by decide) ?_
      refine lv_icmp_ne (tgt := 89) hx hb dX4_read_79 (by decide) (fun c9 => ?_) (fun c9 => ?_)
      · rw [if_neg c9] at h
        refine lv_aload_n hx hb dX4_read_89 rfl (lv_at hl 0 rfl) ?_
        obtain ⟨q3, h2, h⟩ := dV_some h
        refine dw_kv (va_runV (As := []) (rest := []) ⟨hx, hb, hml, hown, hts⟩ (qX4_readClause_s24 l D ty eo _ ad q  q3 h2) (cwV 0 hts gX4_read_X4_readClause rfl rfl rfl hd_X4_readClause_v ⟨Nat.le_of_ble_eq_true rfl, Nat.le_of_ble_eq_true rfl⟩) (pvF_4_24 hK hN hE hP hD hS hA) rfl rfl hl.1 rfl (lv_room (Nat.le_of_ble_eq_true rfl)) dX4_read_90 ⟨Nat.le_of_ble_eq_true rfl, Nat.le_of_ble_eq_true rfl⟩) hD hS hA (fun u9 H locs hw hp hd hs => ?_)
        clear hP hD hS
        obtain rfl := hw
        have hP := hp; have hD := hd; have hS := hs; clear hp hd hs
        exact WX4_read_s24_s46_s25_93 C0 hk60 _ _ _ _ _ h hP hD hS (lv_sub hl [0, 1] rfl)
      · rw [if_pos c9] at h
        refine lv_aload_n hx hb dX4_read_82 rfl (lv_at hl 0 rfl) ?_
        obtain ⟨q6, h5, h⟩ := dV_some h
        refine dw_kv (va_runV (As := []) (rest := []) ⟨hx, hb, hml, hown, hts⟩ (qX4_fail_s24 l D ty eo _ ad q  q6 h5) (cwV 0 hts gX4_read_X4_fail rfl rfl rfl hd_X4_fail_v ⟨Nat.le_of_ble_eq_true rfl, Nat.le_of_ble_eq_true rfl⟩) (pvF_4_24 hK hN hE hP hD hS hA) rfl rfl hl.1 rfl (lv_room (Nat.le_of_ble_eq_true rfl)) dX4_read_83 ⟨Nat.le_of_ble_eq_true rfl, Nat.le_of_ble_eq_true rfl⟩) hD hS hA (fun u9 H locs hw hp hd hs => ?_)
        clear hP hD hS
        obtain rfl := hw
        have hP := hp; have hD := hd; have hS := hs; clear hp hd hs
        refine lv_goto (tgt := 93) hx hb dX4_read_86 (by decide) ?_
        exact WX4_read_s24_s46_s25_93 C0 hk60 _ _ _ _ _ h hP hD hS (lv_sub hl [0, 1] rfl)
set_option maxHeartbeats 4000000 in
set_option maxRecDepth 100000 in
theorem WX4_read_s24_s46_s25_60 {p : Program} {l : Launch} {e : Env} {s : State} {m : MethodId} {args : Array Value} {below : List Frame} {meth : Method} {c : Code} {D : va_G} {ty : Nat → ClassId} {eo : Nat → Nat} {A : Nat → Prop} {ad : Nat → Nat} {o1 : Int32} {o2 : dK} (C : dc_C p s m args meth c cX4_read (some .int) 6 RX4 wsX4_read D ty eo A)   (n : Nat) (q : dK) (x5 : Int32) (H : Heap) (locs : List Loc) (ls : Array Slot) (h : zX4_read_s24_s46_s25_60  n q x5 = some (o1, o2)) (hP : va_P D vwCl (wF ty ad q) H) (hD : va_D A (wF ty ad q)) (hS : va_S A s.heap H locs) (hl : lv_has ls 6 [(0, .ref (ad 24)), (5, .int x5)]) : W p l e ({ frames := 76, cells := 0, slots := 0, locals := 1833 } : Room) s m args below meth c H locs 0 0 (MQ below (va_Qi (fun (r : Int32) (u : va_W) => o1 = r ∧ wF ty ad o2 = u) (kz_B D ty A) A) args s 0 0 A) (F0 m 60 ls []) := by
  exact dFix_W (F := fun k (a : dK × Int32) => zX4_read_s24_s46_s25_60b  (fun q x5 => k (q, x5)) a.1 a.2) (o := (o1, o2)) (P := fun (a : dK × Int32) H locs ls => va_P D vwCl (wF ty ad a.1) H ∧ va_D A (wF ty ad a.1) ∧ va_S A s.heap H locs ∧ lv_has ls 6 [(0, .ref (ad 24)), (5, .int a.2)]) (G := fun H locs ls => W p l e ({ frames := 76, cells := 0, slots := 0, locals := 1833 } : Room) s m args below meth c H locs 0 0 (MQ below (va_Qi (fun (r : Int32) (u : va_W) => o1 = r ∧ wF ty ad o2 = u) (kz_B D ty A) A) args s 0 0 A) (F0 m 60 ls []))
    (fun k hk a H locs ls h hp => WX4_read_s24_s46_s25_60b C  (fun q x5 H locs ls h h1 h2 h3 h4 => hk (q, x5) H locs ls h ⟨h1, h2, h3, h4⟩) a.1 a.2 H locs ls h hp.1 hp.2.1 hp.2.2.1 hp.2.2.2) n (q, x5) H locs ls h ⟨hP, hD, hS, hl⟩
set_option maxHeartbeats 4000000 in
set_option maxRecDepth 100000 in
theorem qX4_read_s24_s46_s25 (l : Launch) (D : va_G) (ty : Nat → ClassId) (eo : Nat → Nat) (sz : Nat) (ad : Nat → Nat) (q : dK) (p2 : Int32) (p3 : Int32) (o1 : Int32) (o2 : dK) (h : zX4_read_s24_s46_s25 q p2 p3 = some (o1, o2)) : Met l yX4_read wsX4_read ({ frames := 76, cells := 0, slots := 0, locals := 1833 } : Room) (va_Pc [.ref (ad 24), .ref (ad 46), .int p2, .int p3, .ref (ad 25)] (kz_pre D ty eo (wF ty ad q) sz)) (va_Qi (fun (r : Int32) (u : va_W) => o1 = r ∧ wF ty ad o2 = u) (kz_B D ty (va_A (wF ty ad q) sz)) (va_A (wF ty ad q) sz)) 0 0 (va_A (wF ty ad q) sz) := by
  refine Met.ofW (cc := cX4_read) (maxL := 6) (ret := (some .int)) (by decide) rfl ?_
  intro p e s m args below meth c s₁ B hml hv
  obtain ⟨rfl, hsz, hP, hK, hD0, hN, hE⟩ := hv
  have hx := B.exec
  have hb := B.bytes
  have hr := B.returns
  have hts := atoms_spec (ws := wsX4_read) B.pre
  have hown : s.vm.findClass RX4 = some m.cls := findClass_of_methodNamed B.named
  have hlocks := B.notSynchronized
  subst hsz
  have hD := hD0.self (sz := s.heap.size)
  generalize hAe : va_A (wF ty ad q) s.heap.size = A at hD hE ⊢
  have hA : ∀ q : Nat, s.heap.size ≤ q → A q := fun q h => by rw [← hAe]; exact Or.inr h
  clear hAe
  have hS : va_S A s.heap s.heap [] := va_S.rf
  have hl := lv_entry ([.ref (ad 24), .ref (ad 46), .int p2, .int p3, .ref (ad 25)]) (n := 6) (Nat.le_of_ble_eq_true rfl)
  rw [lg_entry_eq]
  generalize (lg_sl ([.ref (ad 24), .ref (ad 46), .int p2, .int p3, .ref (ad 25)]) ++ List.replicate (6 - (lg_sl ([.ref (ad 24), .ref (ad 46), .int p2, .int p3, .ref (ad 25)])).length) Slot.unset).toArray = ls at hl ⊢
  have hl : lv_has ls 6 [(0, .ref (ad 24)), (1, .ref (ad 46)), (2, .int p2), (3, .int p3), (4, .ref (ad 25))] := hl
  have C : dc_C p s m _ meth c cX4_read (some .int) 6 RX4 wsX4_read D ty eo A := ⟨hx, hb, hr, hts, hown, hlocks, hml, hK, hN, hE, hA⟩
  unfold zX4_read_s24_s46_s25 at h
  refine lv_aload_n hx hb dX4_read_0 rfl (lv_at hl 0 rfl) ?_
  refine lv_aload_n hx hb dX4_read_1 rfl (lv_at hl 1 rfl) ?_
  refine va_put (D := D) (ci := 4) (v := .ref (ad 46)) (ty := .array .int) (C := RX4) (T := TX4) (N := 11) hx hb hts u9_wsX4_read_X4 tyX4 tyX4_ok nmX4 hown hK hP hD hS 24 rfl rfl 0 (by decide) (hts (.fieldLink RX4 9 "TurnedFloors$Reader" "bytes" "[I") f9_wsX4_read_561) (fun _ h9 => h9) rfl (by decide +kernel) rfl rfl (Nat.le_of_ble_eq_true rfl) dX4_read_2 (fun H locs hp hd hs => ?_)
  obtain ⟨q1, eq1, h⟩ := dL_some h
  refine kz_re (w2 := wF ty ad q1) hp hd hs (by rw [← eq1]; exact wF_f24_0 ty ad q 1) ?_
  clear hp hd hs hP hD hS
  intro hP hD hS
  refine lv_aload_n hx hb dX4_read_5 rfl (lv_at hl 0 rfl) ?_
  refine lv_iload_n hx hb dX4_read_6 rfl (lv_at hl 2 rfl) ?_
  refine lv_aload_n hx hb dX4_read_7 rfl (lv_at hl 1 rfl) ?_
  refine va_alen (v := 400) hx hb hK hP 46 0 rfl rfl rfl dX4_read_8 ?_
  refine va_mmin hx hb (hml.trans hl.1.symm) hown (hts (.methodLink RX4 48 Lib.Math.min.name) f9_wsX4_read_562) (hts (.static Lib.Math.min.name) f9_wsX4_read_563) (hts (.initialized "java/lang/Math") f9_wsX4_read_564) (hts (.code Lib.Math.min.name Lib.Math.min.code 2 (some .int)) f9_wsX4_read_565) (Nat.le_of_ble_eq_true rfl) (Nat.le_of_ble_eq_true rfl) (Nat.le_of_ble_eq_true rfl) (Nat.le_of_ble_eq_true rfl) dX4_read_9 ?_
  refine kz_topi (mnI p2 400) rfl ?_
  refine va_put (D := D) (ci := 4) (v := .int (mnI p2 400)) (ty := .int) (C := RX4) (T := TX4) (N := 11) hx hb hts u9_wsX4_read_X4 tyX4 tyX4_ok nmX4 hown hK hP hD hS 24 rfl rfl 1 (by decide) (hts (.fieldLink RX4 15 "TurnedFloors$Reader" "length" "I") f9_wsX4_read_566) (fun _ h9 => h9) rfl (by decide +kernel) rfl rfl (Nat.le_of_ble_eq_true rfl) dX4_read_12 (fun H locs hp hd hs => ?_)
  obtain ⟨q2, eq2, h⟩ := dL_some h
  refine kz_re (w2 := wF ty ad q2) hp hd hs (by rw [← eq2]; exact wF_f24_1 ty ad q1 (mnI p2 400)) ?_
  clear hp hd hs hP hD hS
  intro hP hD hS
  refine lv_aload_n hx hb dX4_read_15 rfl (lv_at hl 0 rfl) ?_
  refine lv_iload_n hx hb dX4_read_16 rfl (lv_at hl 3 rfl) ?_
  obtain ⟨g3, h⟩ := dG_some h
  refine va_put (D := D) (ci := 4) (v := .int p3) (ty := .boolean) (C := RX4) (T := TX4) (N := 11) hx hb hts u9_wsX4_read_X4 tyX4 tyX4_ok nmX4 hown hK hP hD hS 24 rfl rfl 2 (by decide) (hts (.fieldLink RX4 19 "TurnedFloors$Reader" "ofOrders" "Z") f9_wsX4_read_567) (fun _ h9 => h9) rfl (by decide +kernel) (dbl_nar g3) (dbl_fit g3) (Nat.le_of_ble_eq_true rfl) dX4_read_17 (fun H locs hp hd hs => ?_)
  obtain ⟨q4, eq4, h⟩ := dL_some h
  refine kz_re (w2 := wF ty ad q4) hp hd hs (by rw [← eq4]; exact wF_f24_2 ty ad q2 p3) ?_
  clear hp hd hs hP hD hS
  intro hP hD hS
  refine lv_aload_n hx hb dX4_read_20 rfl (lv_at hl 0 rfl) ?_
  refine lv_aload hx hb dX4_read_21 (lv_at hl 4 rfl) ?_
  refine va_put (D := D) (ci := 4) (v := .ref (ad 25)) (ty := .object "TurnedFloors$Text") (C := RX4) (T := TX4) (N := 11) hx hb hts u9_wsX4_read_X4 tyX4 tyX4_ok nmX4 hown hK hP hD hS 24 rfl rfl 3 (by decide) (hts (.fieldLink RX4 23 "TurnedFloors$Reader" "text" "LTurnedFloors$Text;") f9_wsX4_read_568) (fun _ h9 => h9) rfl (by decide +kernel) rfl rfl (Nat.le_of_ble_eq_true rfl) dX4_read_23 (fun H locs hp hd hs => ?_)
  obtain ⟨q5, eq5, h⟩ := dL_some h
  refine kz_re (w2 := wF ty ad q5) hp hd hs (by rw [← eq5]; exact wF_f24_3 ty ad q4 1) ?_
  clear hp hd hs hP hD hS
  intro hP hD hS
  refine lv_aload_n hx hb dX4_read_26 rfl (lv_at hl 0 rfl) ?_
  refine va_get (D := D) (ci := 4) (v := dN (ad 25) (q5.1 24 3)) (C := RX4) (T := TX4) (N := 11) hx hb hts u9_wsX4_read_X4 hown hK hP 24 rfl rfl 3 (by decide) (hts (.fieldLink RX4 23 "TurnedFloors$Reader" "text" "LTurnedFloors$Text;") f9_wsX4_read_568) (fun _ h9 => h9) rfl dX4_read_27 ?_
  obtain ⟨g6, h⟩ := dG_some h
  refine kz_topv (if_neg (dnz_ne g6)) ?_
  obtain ⟨q9, h8, h⟩ := dV_some h
  refine dw_kv (va_runV (As := []) (rest := []) ⟨hx, hb, hml, hown, hts⟩ (qX7_clear_s25 l D ty eo _ ad q5  q9 h8) (cwV 0 hts gX4_read_X7_clear rfl rfl rfl hd_X7_clear_v ⟨Nat.le_of_ble_eq_true rfl, Nat.le_of_ble_eq_true rfl⟩) (pvF_7_25 hK hN hE hP hD hS hA) rfl rfl hl.1 rfl (lv_room (Nat.le_of_ble_eq_true rfl)) dX4_read_30 ⟨Nat.le_of_ble_eq_true rfl, Nat.le_of_ble_eq_true rfl⟩) hD hS hA (fun u9 H locs hw hp hd hs => ?_)
  clear hP hD hS
  obtain rfl := hw
  have hP := hp; have hD := hd; have hS := hs; clear hp hd hs
  refine lv_aload_n hx hb dX4_read_33 rfl (lv_at hl 0 rfl) ?_
  refine lv_iconst (v := 0) hx hb dX4_read_34 (by decide) ?_
  refine va_put (D := D) (ci := 4) (v := .int 0) (ty := .int) (C := RX4) (T := TX4) (N := 11) hx hb hts u9_wsX4_read_X4 tyX4 tyX4_ok nmX4 hown hK hP hD hS 24 rfl rfl 6 (by decide) (hts (.fieldLink RX4 33 "TurnedFloors$Reader" "stop" "I") f9_wsX4_read_569) (fun _ h9 => h9) rfl (by decide +kernel) rfl rfl (Nat.le_of_ble_eq_true rfl) dX4_read_35 (fun H locs hp hd hs => ?_)
  obtain ⟨q10, eq10, h⟩ := dL_some h
  refine kz_re (w2 := wF ty ad q10) hp hd hs (by rw [← eq10]; exact wF_f24_6 ty ad q9 0) ?_
  clear hp hd hs hP hD hS
  intro hP hD hS
  refine lv_aload_n hx hb dX4_read_38 rfl (lv_at hl 0 rfl) ?_
  refine lv_iconst (v := 0) hx hb dX4_read_39 (by decide) ?_
  refine va_put (D := D) (ci := 4) (v := .int 0) (ty := .int) (C := RX4) (T := TX4) (N := 11) hx hb hts u9_wsX4_read_X4 tyX4 tyX4_ok nmX4 hown hK hP hD hS 24 rfl rfl 8 (by decide) (hts (.fieldLink RX4 39 "TurnedFloors$Reader" "parts" "I") f9_wsX4_read_570) (fun _ h9 => h9) rfl (by decide +kernel) rfl rfl (Nat.le_of_ble_eq_true rfl) dX4_read_40 (fun H locs hp hd hs => ?_)
  obtain ⟨q11, eq11, h⟩ := dL_some h
  refine kz_re (w2 := wF ty ad q11) hp hd hs (by rw [← eq11]; exact wF_f24_8 ty ad q10 0) ?_
  clear hp hd hs hP hD hS
  intro hP hD hS
  refine lv_aload_n hx hb dX4_read_43 rfl (lv_at hl 0 rfl) ?_
  refine lv_iconst (v := 0) hx hb dX4_read_44 (by decide) ?_
  refine va_put (D := D) (ci := 4) (v := .int 0) (ty := .int) (C := RX4) (T := TX4) (N := 11) hx hb hts u9_wsX4_read_X4 tyX4 tyX4_ok nmX4 hown hK hP hD hS 24 rfl rfl 9 (by decide) (hts (.fieldLink RX4 42 "TurnedFloors$Reader" "open" "I") f9_wsX4_read_571) (fun _ h9 => h9) rfl (by decide +kernel) rfl rfl (Nat.le_of_ble_eq_true rfl) dX4_read_45 (fun H locs hp hd hs => ?_)
  obtain ⟨q12, eq12, h⟩ := dL_some h
  refine kz_re (w2 := wF ty ad q12) hp hd hs (by rw [← eq12]; exact wF_f24_9 ty ad q11 0) ?_
  clear hp hd hs hP hD hS
  intro hP hD hS
  refine lv_aload_n hx hb dX4_read_48 rfl (lv_at hl 0 rfl) ?_
  refine lv_iconst (v := (-1)) hx hb dX4_read_49 (by decide) ?_
  refine va_put (D := D) (ci := 4) (v := .int (-1)) (ty := .int) (C := RX4) (T := TX4) (N := 11) hx hb hts u9_wsX4_read_X4 tyX4 tyX4_ok nmX4 hown hK hP hD hS 24 rfl rfl 10 (by decide) (hts (.fieldLink RX4 45 "TurnedFloors$Reader" "faultAt" "I") f9_wsX4_read_559) (fun _ h9 => h9) rfl (by decide +kernel) rfl rfl (Nat.le_of_ble_eq_true rfl) dX4_read_50 (fun H locs hp hd hs => ?_)
  obtain ⟨q13, eq13, h⟩ := dL_some h
  refine kz_re (w2 := wF ty ad q13) hp hd hs (by rw [← eq13]; exact wF_f24_10 ty ad q12 (-1)) ?_
  clear hp hd hs hP hD hS
  intro hP hD hS
  refine lv_aload_n hx hb dX4_read_53 rfl (lv_at hl 0 rfl) ?_
  obtain ⟨q16, h15, h⟩ := dV_some h
  refine dw_kv (va_runV (As := []) (rest := []) ⟨hx, hb, hml, hown, hts⟩ (qX4_step_s24 l D ty eo _ ad q13  q16 h15) (cwV 0 hts gX4_read_X4_step rfl rfl rfl hd_X4_step_v ⟨Nat.le_of_ble_eq_true rfl, Nat.le_of_ble_eq_true rfl⟩) (pvF_4_24 hK hN hE hP hD hS hA) rfl rfl hl.1 rfl (lv_room (Nat.le_of_ble_eq_true rfl)) dX4_read_54 ⟨Nat.le_of_ble_eq_true rfl, Nat.le_of_ble_eq_true rfl⟩) hD hS hA (fun u9 H locs hw hp hd hs => ?_)
  clear hP hD hS
  obtain rfl := hw
  have hP := hp; have hD := hd; have hS := hs; clear hp hd hs
  refine lv_iconst (v := 0) hx hb dX4_read_57 (by decide) ?_
  refine lv_istore (lv' := [(5, .int 0), (0, .ref (ad 24)), (1, .ref (ad 46)), (2, .int p2), (3, .int p3), (4, .ref (ad 25))]) hx hb dX4_read_58 hl (by decide) rfl (fun ls hl => ?_)
  exact WX4_read_s24_s46_s25_60 C  _ _ _ _ _ _ h hP hD hS (lv_sub hl [1, 0] rfl)
end
section
theorem da9_dX0_mark_0 : (decode cX0_mark 0 = .ok (.aload_n 0, 1)) ∧ (decode cX0_mark 1 = .ok (.getfield 9, 3)) ∧ (decode cX0_mark 4 = .ok (.iconst 0, 1)) ∧ (decode cX0_mark 5 = .ok (.aload_n 0, 1)) ∧ (decode cX0_mark 6 = .ok (.getfield 23, 3)) ∧ (decode cX0_mark 9 = .ok (.iconst 0, 1)) ∧ (decode cX0_mark 10 = .ok (.bipush 16, 2)) ∧ (decode cX0_mark 12 = .ok (.invokestatic 32, 3)) ∧ (decode cX0_mark 15 = .ok (.aload_n 0, 1)) ∧ (decode cX0_mark 16 = .ok (.getfield 15, 3)) ∧ (decode cX0_mark 19 = .ok (.iconst 0, 1)) ∧ (decode cX0_mark 20 = .ok (.aload_n 0, 1)) ∧ (decode cX0_mark 21 = .ok (.getfield 26, 3)) ∧ (decode cX0_mark 24 = .ok (.iconst 0, 1)) ∧ (decode cX0_mark 25 = .ok (.bipush 16, 2)) ∧ (decode cX0_mark 27 = .ok (.invokestatic 32, 3)) := by decide +kernel
theorem dX0_mark_0 : decode cX0_mark 0 = .ok (.aload_n 0, 1) := da9_dX0_mark_0.1
theorem dX0_mark_1 : decode cX0_mark 1 = .ok (.getfield 9, 3) := da9_dX0_mark_0.2.1
theorem dX0_mark_4 : decode cX0_mark 4 = .ok (.iconst 0, 1) := da9_dX0_mark_0.2.2.1
theorem dX0_mark_5 : decode cX0_mark 5 = .ok (.aload_n 0, 1) := da9_dX0_mark_0.2.2.2.1
theorem dX0_mark_6 : decode cX0_mark 6 = .ok (.getfield 23, 3) := da9_dX0_mark_0.2.2.2.2.1
theorem dX0_mark_9 : decode cX0_mark 9 = .ok (.iconst 0, 1) := da9_dX0_mark_0.2.2.2.2.2.1
theorem dX0_mark_10 : decode cX0_mark 10 = .ok (.bipush 16, 2) := da9_dX0_mark_0.2.2.2.2.2.2.1
theorem dX0_mark_12 : decode cX0_mark 12 = .ok (.invokestatic 32, 3) := da9_dX0_mark_0.2.2.2.2.2.2.2.1
theorem dX0_mark_15 : decode cX0_mark 15 = .ok (.aload_n 0, 1) := da9_dX0_mark_0.2.2.2.2.2.2.2.2.1
theorem dX0_mark_16 : decode cX0_mark 16 = .ok (.getfield 15, 3) := da9_dX0_mark_0.2.2.2.2.2.2.2.2.2.1
theorem dX0_mark_19 : decode cX0_mark 19 = .ok (.iconst 0, 1) := da9_dX0_mark_0.2.2.2.2.2.2.2.2.2.2.1
theorem dX0_mark_20 : decode cX0_mark 20 = .ok (.aload_n 0, 1) := da9_dX0_mark_0.2.2.2.2.2.2.2.2.2.2.2.1
theorem dX0_mark_21 : decode cX0_mark 21 = .ok (.getfield 26, 3) := da9_dX0_mark_0.2.2.2.2.2.2.2.2.2.2.2.2.1
theorem dX0_mark_24 : decode cX0_mark 24 = .ok (.iconst 0, 1) := da9_dX0_mark_0.2.2.2.2.2.2.2.2.2.2.2.2.2.1
theorem dX0_mark_25 : decode cX0_mark 25 = .ok (.bipush 16, 2) := da9_dX0_mark_0.2.2.2.2.2.2.2.2.2.2.2.2.2.2.1
theorem dX0_mark_27 : decode cX0_mark 27 = .ok (.invokestatic 32, 3) := da9_dX0_mark_0.2.2.2.2.2.2.2.2.2.2.2.2.2.2.2
theorem da9_dX0_mark_30 : (decode cX0_mark 30 = .ok (.aload_n 0, 1)) ∧ (decode cX0_mark 31 = .ok (.aload_n 0, 1)) ∧ (decode cX0_mark 32 = .ok (.getfield 19, 3)) ∧ (decode cX0_mark 35 = .ok (.putfield 29, 3)) ∧ (decode cX0_mark 38 = .ok (.return_, 1)) := by decide +kernel
theorem dX0_mark_30 : decode cX0_mark 30 = .ok (.aload_n 0, 1) := da9_dX0_mark_30.1
theorem dX0_mark_31 : decode cX0_mark 31 = .ok (.aload_n 0, 1) := da9_dX0_mark_30.2.1
theorem dX0_mark_32 : decode cX0_mark 32 = .ok (.getfield 19, 3) := da9_dX0_mark_30.2.2.1
theorem dX0_mark_35 : decode cX0_mark 35 = .ok (.putfield 29, 3) := da9_dX0_mark_30.2.2.2.1
theorem dX0_mark_38 : decode cX0_mark 38 = .ok (.return_, 1) := da9_dX0_mark_30.2.2.2.2
set_option maxRecDepth 20000 in
theorem ggX7_copyOfIt_X7_init : GoodIn wsX7_copyOfIt wsX7_init := wd_l vW9_ok _ (List.forall_mem_cons.mpr ⟨mvW9_347, (List.forall_mem_append.mpr ⟨(List.forall_mem_cons.mpr ⟨mvW9_348, (List.forall_mem_cons.mpr ⟨mvW9_349, (List.forall_mem_cons.mpr ⟨mvW9_350, (List.forall_mem_cons.mpr ⟨mvW9_177, (List.forall_mem_cons.mpr ⟨mvW9_178, (List.forall_mem_cons.mpr ⟨mvW9_351, (List.forall_mem_cons.mpr ⟨mvW9_257, (List.forall_mem_cons.mpr ⟨mvW9_258, (List.forall_mem_cons.mpr ⟨mvW9_259, (List.forall_mem_cons.mpr ⟨mvW9_260, (List.forall_mem_cons.mpr ⟨mvW9_261, (List.forall_mem_cons.mpr ⟨mvW9_281, (fun _ h => absurd h List.not_mem_nil)⟩)⟩)⟩)⟩)⟩)⟩)⟩)⟩)⟩)⟩)⟩)⟩), vW9_wsX70⟩)⟩)
set_option maxRecDepth 20000 in
theorem gX7_copyOfIt_X7_init : GoodIn wsX7_copyOfIt (wsX7_init) := ggX7_copyOfIt_X7_init
theorem da9_dX7_copyOfIt_0 : (decode cX7_copyOfIt 0 = .ok (.new 8, 3)) ∧ (decode cX7_copyOfIt 3 = .ok (.dup, 1)) ∧ (decode cX7_copyOfIt 4 = .ok (.aload_n 0, 1)) ∧ (decode cX7_copyOfIt 5 = .ok (.getfield 7, 3)) ∧ (decode cX7_copyOfIt 8 = .ok (.aload_n 0, 1)) ∧ (decode cX7_copyOfIt 9 = .ok (.getfield 13, 3)) ∧ (decode cX7_copyOfIt 12 = .ok (.invokespecial 35, 3)) ∧ (decode cX7_copyOfIt 15 = .ok (.astore_n 1, 1)) ∧ (decode cX7_copyOfIt 16 = .ok (.aload_n 1, 1)) ∧ (decode cX7_copyOfIt 17 = .ok (.aload_n 0, 1)) ∧ (decode cX7_copyOfIt 18 = .ok (.getfield 7, 3)) ∧ (decode cX7_copyOfIt 21 = .ok (.putfield 7, 3)) ∧ (decode cX7_copyOfIt 24 = .ok (.aload_n 1, 1)) ∧ (decode cX7_copyOfIt 25 = .ok (.aload_n 0, 1)) ∧ (decode cX7_copyOfIt 26 = .ok (.getfield 13, 3)) ∧ (decode cX7_copyOfIt 29 = .ok (.putfield 13, 3)) := by decide +kernel
theorem dX7_copyOfIt_0 : decode cX7_copyOfIt 0 = .ok (.new 8, 3) := da9_dX7_copyOfIt_0.1
theorem dX7_copyOfIt_3 : decode cX7_copyOfIt 3 = .ok (.dup, 1) := da9_dX7_copyOfIt_0.2.1
theorem dX7_copyOfIt_4 : decode cX7_copyOfIt 4 = .ok (.aload_n 0, 1) := da9_dX7_copyOfIt_0.2.2.1
theorem dX7_copyOfIt_5 : decode cX7_copyOfIt 5 = .ok (.getfield 7, 3) := da9_dX7_copyOfIt_0.2.2.2.1
theorem dX7_copyOfIt_8 : decode cX7_copyOfIt 8 = .ok (.aload_n 0, 1) := da9_dX7_copyOfIt_0.2.2.2.2.1
theorem dX7_copyOfIt_9 : decode cX7_copyOfIt 9 = .ok (.getfield 13, 3) := da9_dX7_copyOfIt_0.2.2.2.2.2.1
theorem dX7_copyOfIt_12 : decode cX7_copyOfIt 12 = .ok (.invokespecial 35, 3) := da9_dX7_copyOfIt_0.2.2.2.2.2.2.1
theorem dX7_copyOfIt_15 : decode cX7_copyOfIt 15 = .ok (.astore_n 1, 1) := da9_dX7_copyOfIt_0.2.2.2.2.2.2.2.1
theorem dX7_copyOfIt_16 : decode cX7_copyOfIt 16 = .ok (.aload_n 1, 1) := da9_dX7_copyOfIt_0.2.2.2.2.2.2.2.2.1
theorem dX7_copyOfIt_17 : decode cX7_copyOfIt 17 = .ok (.aload_n 0, 1) := da9_dX7_copyOfIt_0.2.2.2.2.2.2.2.2.2.1
theorem dX7_copyOfIt_18 : decode cX7_copyOfIt 18 = .ok (.getfield 7, 3) := da9_dX7_copyOfIt_0.2.2.2.2.2.2.2.2.2.2.1
theorem dX7_copyOfIt_21 : decode cX7_copyOfIt 21 = .ok (.putfield 7, 3) := da9_dX7_copyOfIt_0.2.2.2.2.2.2.2.2.2.2.2.1
theorem dX7_copyOfIt_24 : decode cX7_copyOfIt 24 = .ok (.aload_n 1, 1) := da9_dX7_copyOfIt_0.2.2.2.2.2.2.2.2.2.2.2.2.1
theorem dX7_copyOfIt_25 : decode cX7_copyOfIt 25 = .ok (.aload_n 0, 1) := da9_dX7_copyOfIt_0.2.2.2.2.2.2.2.2.2.2.2.2.2.1
theorem dX7_copyOfIt_26 : decode cX7_copyOfIt 26 = .ok (.getfield 13, 3) := da9_dX7_copyOfIt_0.2.2.2.2.2.2.2.2.2.2.2.2.2.2.1
theorem dX7_copyOfIt_29 : decode cX7_copyOfIt 29 = .ok (.putfield 13, 3) := da9_dX7_copyOfIt_0.2.2.2.2.2.2.2.2.2.2.2.2.2.2.2
theorem da9_dX7_copyOfIt_32 : (decode cX7_copyOfIt 32 = .ok (.iconst 0, 1)) ∧ (decode cX7_copyOfIt 33 = .ok (.istore_n 2, 1)) ∧ (decode cX7_copyOfIt 34 = .ok (.iload_n 2, 1)) ∧ (decode cX7_copyOfIt 35 = .ok (.aload_n 0, 1)) ∧ (decode cX7_copyOfIt 36 = .ok (.getfield 7, 3)) ∧ (decode cX7_copyOfIt 39 = .ok (.if_icmp .ge 69, 3)) ∧ (decode cX7_copyOfIt 42 = .ok (.aload_n 1, 1)) ∧ (decode cX7_copyOfIt 43 = .ok (.getfield 16, 3)) ∧ (decode cX7_copyOfIt 46 = .ok (.iload_n 2, 1)) ∧ (decode cX7_copyOfIt 47 = .ok (.aload_n 0, 1)) ∧ (decode cX7_copyOfIt 48 = .ok (.getfield 16, 3)) ∧ (decode cX7_copyOfIt 51 = .ok (.iload_n 2, 1)) ∧ (decode cX7_copyOfIt 52 = .ok (.iaload, 1)) ∧ (decode cX7_copyOfIt 53 = .ok (.iastore, 1)) ∧ (decode cX7_copyOfIt 54 = .ok (.aload_n 1, 1)) ∧ (decode cX7_copyOfIt 55 = .ok (.getfield 20, 3)) := by decide +kernel
theorem dX7_copyOfIt_32 : decode cX7_copyOfIt 32 = .ok (.iconst 0, 1) := da9_dX7_copyOfIt_32.1
theorem dX7_copyOfIt_33 : decode cX7_copyOfIt 33 = .ok (.istore_n 2, 1) := da9_dX7_copyOfIt_32.2.1
theorem dX7_copyOfIt_34 : decode cX7_copyOfIt 34 = .ok (.iload_n 2, 1) := da9_dX7_copyOfIt_32.2.2.1
theorem dX7_copyOfIt_35 : decode cX7_copyOfIt 35 = .ok (.aload_n 0, 1) := da9_dX7_copyOfIt_32.2.2.2.1
theorem dX7_copyOfIt_36 : decode cX7_copyOfIt 36 = .ok (.getfield 7, 3) := da9_dX7_copyOfIt_32.2.2.2.2.1
theorem dX7_copyOfIt_39 : decode cX7_copyOfIt 39 = .ok (.if_icmp .ge 69, 3) := da9_dX7_copyOfIt_32.2.2.2.2.2.1
theorem dX7_copyOfIt_42 : decode cX7_copyOfIt 42 = .ok (.aload_n 1, 1) := da9_dX7_copyOfIt_32.2.2.2.2.2.2.1
theorem dX7_copyOfIt_43 : decode cX7_copyOfIt 43 = .ok (.getfield 16, 3) := da9_dX7_copyOfIt_32.2.2.2.2.2.2.2.1
theorem dX7_copyOfIt_46 : decode cX7_copyOfIt 46 = .ok (.iload_n 2, 1) := da9_dX7_copyOfIt_32.2.2.2.2.2.2.2.2.1
theorem dX7_copyOfIt_47 : decode cX7_copyOfIt 47 = .ok (.aload_n 0, 1) := da9_dX7_copyOfIt_32.2.2.2.2.2.2.2.2.2.1
theorem dX7_copyOfIt_48 : decode cX7_copyOfIt 48 = .ok (.getfield 16, 3) := da9_dX7_copyOfIt_32.2.2.2.2.2.2.2.2.2.2.1
theorem dX7_copyOfIt_51 : decode cX7_copyOfIt 51 = .ok (.iload_n 2, 1) := da9_dX7_copyOfIt_32.2.2.2.2.2.2.2.2.2.2.2.1
theorem dX7_copyOfIt_52 : decode cX7_copyOfIt 52 = .ok (.iaload, 1) := da9_dX7_copyOfIt_32.2.2.2.2.2.2.2.2.2.2.2.2.1
theorem dX7_copyOfIt_53 : decode cX7_copyOfIt 53 = .ok (.iastore, 1) := da9_dX7_copyOfIt_32.2.2.2.2.2.2.2.2.2.2.2.2.2.1
theorem dX7_copyOfIt_54 : decode cX7_copyOfIt 54 = .ok (.aload_n 1, 1) := da9_dX7_copyOfIt_32.2.2.2.2.2.2.2.2.2.2.2.2.2.2.1
theorem dX7_copyOfIt_55 : decode cX7_copyOfIt 55 = .ok (.getfield 20, 3) := da9_dX7_copyOfIt_32.2.2.2.2.2.2.2.2.2.2.2.2.2.2.2
theorem da9_dX7_copyOfIt_58 : (decode cX7_copyOfIt 58 = .ok (.iload_n 2, 1)) ∧ (decode cX7_copyOfIt 59 = .ok (.aload_n 0, 1)) ∧ (decode cX7_copyOfIt 60 = .ok (.getfield 20, 3)) ∧ (decode cX7_copyOfIt 63 = .ok (.iload_n 2, 1)) ∧ (decode cX7_copyOfIt 64 = .ok (.iaload, 1)) ∧ (decode cX7_copyOfIt 65 = .ok (.iastore, 1)) ∧ (decode cX7_copyOfIt 66 = .ok (.aload_n 1, 1)) ∧ (decode cX7_copyOfIt 67 = .ok (.getfield 23, 3)) ∧ (decode cX7_copyOfIt 70 = .ok (.iload_n 2, 1)) ∧ (decode cX7_copyOfIt 71 = .ok (.aload_n 0, 1)) ∧ (decode cX7_copyOfIt 72 = .ok (.getfield 23, 3)) ∧ (decode cX7_copyOfIt 75 = .ok (.iload_n 2, 1)) ∧ (decode cX7_copyOfIt 76 = .ok (.iaload, 1)) ∧ (decode cX7_copyOfIt 77 = .ok (.iastore, 1)) ∧ (decode cX7_copyOfIt 78 = .ok (.aload_n 1, 1)) ∧ (decode cX7_copyOfIt 79 = .ok (.getfield 26, 3)) := by decide +kernel
theorem dX7_copyOfIt_58 : decode cX7_copyOfIt 58 = .ok (.iload_n 2, 1) := da9_dX7_copyOfIt_58.1
theorem dX7_copyOfIt_59 : decode cX7_copyOfIt 59 = .ok (.aload_n 0, 1) := da9_dX7_copyOfIt_58.2.1
theorem dX7_copyOfIt_60 : decode cX7_copyOfIt 60 = .ok (.getfield 20, 3) := da9_dX7_copyOfIt_58.2.2.1
theorem dX7_copyOfIt_63 : decode cX7_copyOfIt 63 = .ok (.iload_n 2, 1) := da9_dX7_copyOfIt_58.2.2.2.1
theorem dX7_copyOfIt_64 : decode cX7_copyOfIt 64 = .ok (.iaload, 1) := da9_dX7_copyOfIt_58.2.2.2.2.1
theorem dX7_copyOfIt_65 : decode cX7_copyOfIt 65 = .ok (.iastore, 1) := da9_dX7_copyOfIt_58.2.2.2.2.2.1
theorem dX7_copyOfIt_66 : decode cX7_copyOfIt 66 = .ok (.aload_n 1, 1) := da9_dX7_copyOfIt_58.2.2.2.2.2.2.1
theorem dX7_copyOfIt_67 : decode cX7_copyOfIt 67 = .ok (.getfield 23, 3) := da9_dX7_copyOfIt_58.2.2.2.2.2.2.2.1
theorem dX7_copyOfIt_70 : decode cX7_copyOfIt 70 = .ok (.iload_n 2, 1) := da9_dX7_copyOfIt_58.2.2.2.2.2.2.2.2.1
theorem dX7_copyOfIt_71 : decode cX7_copyOfIt 71 = .ok (.aload_n 0, 1) := da9_dX7_copyOfIt_58.2.2.2.2.2.2.2.2.2.1
theorem dX7_copyOfIt_72 : decode cX7_copyOfIt 72 = .ok (.getfield 23, 3) := da9_dX7_copyOfIt_58.2.2.2.2.2.2.2.2.2.2.1
theorem dX7_copyOfIt_75 : decode cX7_copyOfIt 75 = .ok (.iload_n 2, 1) := da9_dX7_copyOfIt_58.2.2.2.2.2.2.2.2.2.2.2.1
theorem dX7_copyOfIt_76 : decode cX7_copyOfIt 76 = .ok (.iaload, 1) := da9_dX7_copyOfIt_58.2.2.2.2.2.2.2.2.2.2.2.2.1
theorem dX7_copyOfIt_77 : decode cX7_copyOfIt 77 = .ok (.iastore, 1) := da9_dX7_copyOfIt_58.2.2.2.2.2.2.2.2.2.2.2.2.2.1
theorem dX7_copyOfIt_78 : decode cX7_copyOfIt 78 = .ok (.aload_n 1, 1) := da9_dX7_copyOfIt_58.2.2.2.2.2.2.2.2.2.2.2.2.2.2.1
theorem dX7_copyOfIt_79 : decode cX7_copyOfIt 79 = .ok (.getfield 26, 3) := da9_dX7_copyOfIt_58.2.2.2.2.2.2.2.2.2.2.2.2.2.2.2
theorem da9_dX7_copyOfIt_82 : (decode cX7_copyOfIt 82 = .ok (.iload_n 2, 1)) ∧ (decode cX7_copyOfIt 83 = .ok (.aload_n 0, 1)) ∧ (decode cX7_copyOfIt 84 = .ok (.getfield 26, 3)) ∧ (decode cX7_copyOfIt 87 = .ok (.iload_n 2, 1)) ∧ (decode cX7_copyOfIt 88 = .ok (.iaload, 1)) ∧ (decode cX7_copyOfIt 89 = .ok (.iastore, 1)) ∧ (decode cX7_copyOfIt 90 = .ok (.aload_n 1, 1)) ∧ (decode cX7_copyOfIt 91 = .ok (.getfield 29, 3)) ∧ (decode cX7_copyOfIt 94 = .ok (.iload_n 2, 1)) ∧ (decode cX7_copyOfIt 95 = .ok (.aload_n 0, 1)) ∧ (decode cX7_copyOfIt 96 = .ok (.getfield 29, 3)) ∧ (decode cX7_copyOfIt 99 = .ok (.iload_n 2, 1)) ∧ (decode cX7_copyOfIt 100 = .ok (.iaload, 1)) ∧ (decode cX7_copyOfIt 101 = .ok (.iastore, 1)) ∧ (decode cX7_copyOfIt 102 = .ok (.iinc 2 1, 3)) ∧ (decode cX7_copyOfIt 105 = .ok (.goto (-71), 3)) := by decide +kernel
theorem dX7_copyOfIt_82 : decode cX7_copyOfIt 82 = .ok (.iload_n 2, 1) := da9_dX7_copyOfIt_82.1
theorem dX7_copyOfIt_83 : decode cX7_copyOfIt 83 = .ok (.aload_n 0, 1) := da9_dX7_copyOfIt_82.2.1
theorem dX7_copyOfIt_84 : decode cX7_copyOfIt 84 = .ok (.getfield 26, 3) := da9_dX7_copyOfIt_82.2.2.1
theorem dX7_copyOfIt_87 : decode cX7_copyOfIt 87 = .ok (.iload_n 2, 1) := da9_dX7_copyOfIt_82.2.2.2.1
theorem dX7_copyOfIt_88 : decode cX7_copyOfIt 88 = .ok (.iaload, 1) := da9_dX7_copyOfIt_82.2.2.2.2.1
theorem dX7_copyOfIt_89 : decode cX7_copyOfIt 89 = .ok (.iastore, 1) := da9_dX7_copyOfIt_82.2.2.2.2.2.1
theorem dX7_copyOfIt_90 : decode cX7_copyOfIt 90 = .ok (.aload_n 1, 1) := da9_dX7_copyOfIt_82.2.2.2.2.2.2.1
theorem dX7_copyOfIt_91 : decode cX7_copyOfIt 91 = .ok (.getfield 29, 3) := da9_dX7_copyOfIt_82.2.2.2.2.2.2.2.1
theorem dX7_copyOfIt_94 : decode cX7_copyOfIt 94 = .ok (.iload_n 2, 1) := da9_dX7_copyOfIt_82.2.2.2.2.2.2.2.2.1
theorem dX7_copyOfIt_95 : decode cX7_copyOfIt 95 = .ok (.aload_n 0, 1) := da9_dX7_copyOfIt_82.2.2.2.2.2.2.2.2.2.1
theorem dX7_copyOfIt_96 : decode cX7_copyOfIt 96 = .ok (.getfield 29, 3) := da9_dX7_copyOfIt_82.2.2.2.2.2.2.2.2.2.2.1
theorem dX7_copyOfIt_99 : decode cX7_copyOfIt 99 = .ok (.iload_n 2, 1) := da9_dX7_copyOfIt_82.2.2.2.2.2.2.2.2.2.2.2.1
theorem dX7_copyOfIt_100 : decode cX7_copyOfIt 100 = .ok (.iaload, 1) := da9_dX7_copyOfIt_82.2.2.2.2.2.2.2.2.2.2.2.2.1
theorem dX7_copyOfIt_101 : decode cX7_copyOfIt 101 = .ok (.iastore, 1) := da9_dX7_copyOfIt_82.2.2.2.2.2.2.2.2.2.2.2.2.2.1
theorem dX7_copyOfIt_102 : decode cX7_copyOfIt 102 = .ok (.iinc 2 1, 3) := da9_dX7_copyOfIt_82.2.2.2.2.2.2.2.2.2.2.2.2.2.2.1
theorem dX7_copyOfIt_105 : decode cX7_copyOfIt 105 = .ok (.goto (-71), 3) := da9_dX7_copyOfIt_82.2.2.2.2.2.2.2.2.2.2.2.2.2.2.2
theorem da9_dX7_copyOfIt_108 : (decode cX7_copyOfIt 108 = .ok (.aload_n 0, 1)) ∧ (decode cX7_copyOfIt 109 = .ok (.getfield 32, 3)) ∧ (decode cX7_copyOfIt 112 = .ok (.iconst 0, 1)) ∧ (decode cX7_copyOfIt 113 = .ok (.aload_n 1, 1)) ∧ (decode cX7_copyOfIt 114 = .ok (.getfield 32, 3)) ∧ (decode cX7_copyOfIt 117 = .ok (.iconst 0, 1)) ∧ (decode cX7_copyOfIt 118 = .ok (.aload_n 0, 1)) ∧ (decode cX7_copyOfIt 119 = .ok (.getfield 13, 3)) ∧ (decode cX7_copyOfIt 122 = .ok (.invokestatic 38, 3)) ∧ (decode cX7_copyOfIt 125 = .ok (.aload_n 1, 1)) ∧ (decode cX7_copyOfIt 126 = .ok (.areturn, 1)) := by decide +kernel
theorem dX7_copyOfIt_108 : decode cX7_copyOfIt 108 = .ok (.aload_n 0, 1) := da9_dX7_copyOfIt_108.1
theorem dX7_copyOfIt_109 : decode cX7_copyOfIt 109 = .ok (.getfield 32, 3) := da9_dX7_copyOfIt_108.2.1
theorem dX7_copyOfIt_112 : decode cX7_copyOfIt 112 = .ok (.iconst 0, 1) := da9_dX7_copyOfIt_108.2.2.1
theorem dX7_copyOfIt_113 : decode cX7_copyOfIt 113 = .ok (.aload_n 1, 1) := da9_dX7_copyOfIt_108.2.2.2.1
theorem dX7_copyOfIt_114 : decode cX7_copyOfIt 114 = .ok (.getfield 32, 3) := da9_dX7_copyOfIt_108.2.2.2.2.1
theorem dX7_copyOfIt_117 : decode cX7_copyOfIt 117 = .ok (.iconst 0, 1) := da9_dX7_copyOfIt_108.2.2.2.2.2.1
theorem dX7_copyOfIt_118 : decode cX7_copyOfIt 118 = .ok (.aload_n 0, 1) := da9_dX7_copyOfIt_108.2.2.2.2.2.2.1
theorem dX7_copyOfIt_119 : decode cX7_copyOfIt 119 = .ok (.getfield 13, 3) := da9_dX7_copyOfIt_108.2.2.2.2.2.2.2.1
theorem dX7_copyOfIt_122 : decode cX7_copyOfIt 122 = .ok (.invokestatic 38, 3) := da9_dX7_copyOfIt_108.2.2.2.2.2.2.2.2.1
theorem dX7_copyOfIt_125 : decode cX7_copyOfIt 125 = .ok (.aload_n 1, 1) := da9_dX7_copyOfIt_108.2.2.2.2.2.2.2.2.2.1
theorem dX7_copyOfIt_126 : decode cX7_copyOfIt 126 = .ok (.areturn, 1) := da9_dX7_copyOfIt_108.2.2.2.2.2.2.2.2.2.2
theorem da9_dX8_pack_0 : (decode cX8_pack 0 = .ok (.aload_n 0, 1)) ∧ (decode cX8_pack 1 = .ok (.getfield 18, 3)) ∧ (decode cX8_pack 4 = .ok (.i2l, 1)) ∧ (decode cX8_pack 5 = .ok (.lstore_n 1, 1)) ∧ (decode cX8_pack 6 = .ok (.iconst 0, 1)) ∧ (decode cX8_pack 7 = .ok (.istore_n 3, 1)) ∧ (decode cX8_pack 8 = .ok (.iload_n 3, 1)) ∧ (decode cX8_pack 9 = .ok (.bipush 6, 2)) ∧ (decode cX8_pack 11 = .ok (.if_icmp .ge 31, 3)) ∧ (decode cX8_pack 14 = .ok (.lload_n 1, 1)) ∧ (decode cX8_pack 15 = .ok (.iconst 4, 1)) ∧ (decode cX8_pack 16 = .ok (.lshl, 1)) ∧ (decode cX8_pack 17 = .ok (.aload_n 0, 1)) ∧ (decode cX8_pack 18 = .ok (.getfield 9, 3)) ∧ (decode cX8_pack 21 = .ok (.iload_n 3, 1)) ∧ (decode cX8_pack 22 = .ok (.iaload, 1)) := by decide +kernel
theorem dX8_pack_0 : decode cX8_pack 0 = .ok (.aload_n 0, 1) := da9_dX8_pack_0.1
theorem dX8_pack_1 : decode cX8_pack 1 = .ok (.getfield 18, 3) := da9_dX8_pack_0.2.1
theorem dX8_pack_4 : decode cX8_pack 4 = .ok (.i2l, 1) := da9_dX8_pack_0.2.2.1
theorem dX8_pack_5 : decode cX8_pack 5 = .ok (.lstore_n 1, 1) := da9_dX8_pack_0.2.2.2.1
theorem dX8_pack_6 : decode cX8_pack 6 = .ok (.iconst 0, 1) := da9_dX8_pack_0.2.2.2.2.1
theorem dX8_pack_7 : decode cX8_pack 7 = .ok (.istore_n 3, 1) := da9_dX8_pack_0.2.2.2.2.2.1
theorem dX8_pack_8 : decode cX8_pack 8 = .ok (.iload_n 3, 1) := da9_dX8_pack_0.2.2.2.2.2.2.1
theorem dX8_pack_9 : decode cX8_pack 9 = .ok (.bipush 6, 2) := da9_dX8_pack_0.2.2.2.2.2.2.2.1
theorem dX8_pack_11 : decode cX8_pack 11 = .ok (.if_icmp .ge 31, 3) := da9_dX8_pack_0.2.2.2.2.2.2.2.2.1
theorem dX8_pack_14 : decode cX8_pack 14 = .ok (.lload_n 1, 1) := da9_dX8_pack_0.2.2.2.2.2.2.2.2.2.1
theorem dX8_pack_15 : decode cX8_pack 15 = .ok (.iconst 4, 1) := da9_dX8_pack_0.2.2.2.2.2.2.2.2.2.2.1
theorem dX8_pack_16 : decode cX8_pack 16 = .ok (.lshl, 1) := da9_dX8_pack_0.2.2.2.2.2.2.2.2.2.2.2.1
theorem dX8_pack_17 : decode cX8_pack 17 = .ok (.aload_n 0, 1) := da9_dX8_pack_0.2.2.2.2.2.2.2.2.2.2.2.2.1
theorem dX8_pack_18 : decode cX8_pack 18 = .ok (.getfield 9, 3) := da9_dX8_pack_0.2.2.2.2.2.2.2.2.2.2.2.2.2.1
theorem dX8_pack_21 : decode cX8_pack 21 = .ok (.iload_n 3, 1) := da9_dX8_pack_0.2.2.2.2.2.2.2.2.2.2.2.2.2.2.1
theorem dX8_pack_22 : decode cX8_pack 22 = .ok (.iaload, 1) := da9_dX8_pack_0.2.2.2.2.2.2.2.2.2.2.2.2.2.2.2
theorem da9_dX8_pack_23 : (decode cX8_pack 23 = .ok (.iconst 1, 1)) ∧ (decode cX8_pack 24 = .ok (.ishl, 1)) ∧ (decode cX8_pack 25 = .ok (.i2l, 1)) ∧ (decode cX8_pack 26 = .ok (.lor, 1)) ∧ (decode cX8_pack 27 = .ok (.aload_n 0, 1)) ∧ (decode cX8_pack 28 = .ok (.getfield 15, 3)) ∧ (decode cX8_pack 31 = .ok (.iload_n 3, 1)) ∧ (decode cX8_pack 32 = .ok (.iaload, 1)) ∧ (decode cX8_pack 33 = .ok (.i2l, 1)) ∧ (decode cX8_pack 34 = .ok (.lor, 1)) ∧ (decode cX8_pack 35 = .ok (.lstore_n 1, 1)) ∧ (decode cX8_pack 36 = .ok (.iinc 3 1, 3)) ∧ (decode cX8_pack 39 = .ok (.goto (-31), 3)) ∧ (decode cX8_pack 42 = .ok (.lload_n 1, 1)) ∧ (decode cX8_pack 43 = .ok (.bipush 14, 2)) ∧ (decode cX8_pack 45 = .ok (.lshl, 1)) := by decide +kernel
theorem dX8_pack_23 : decode cX8_pack 23 = .ok (.iconst 1, 1) := da9_dX8_pack_23.1
theorem dX8_pack_24 : decode cX8_pack 24 = .ok (.ishl, 1) := da9_dX8_pack_23.2.1
theorem dX8_pack_25 : decode cX8_pack 25 = .ok (.i2l, 1) := da9_dX8_pack_23.2.2.1
theorem dX8_pack_26 : decode cX8_pack 26 = .ok (.lor, 1) := da9_dX8_pack_23.2.2.2.1
theorem dX8_pack_27 : decode cX8_pack 27 = .ok (.aload_n 0, 1) := da9_dX8_pack_23.2.2.2.2.1
theorem dX8_pack_28 : decode cX8_pack 28 = .ok (.getfield 15, 3) := da9_dX8_pack_23.2.2.2.2.2.1
theorem dX8_pack_31 : decode cX8_pack 31 = .ok (.iload_n 3, 1) := da9_dX8_pack_23.2.2.2.2.2.2.1
theorem dX8_pack_32 : decode cX8_pack 32 = .ok (.iaload, 1) := da9_dX8_pack_23.2.2.2.2.2.2.2.1
theorem dX8_pack_33 : decode cX8_pack 33 = .ok (.i2l, 1) := da9_dX8_pack_23.2.2.2.2.2.2.2.2.1
theorem dX8_pack_34 : decode cX8_pack 34 = .ok (.lor, 1) := da9_dX8_pack_23.2.2.2.2.2.2.2.2.2.1
theorem dX8_pack_35 : decode cX8_pack 35 = .ok (.lstore_n 1, 1) := da9_dX8_pack_23.2.2.2.2.2.2.2.2.2.2.1
theorem dX8_pack_36 : decode cX8_pack 36 = .ok (.iinc 3 1, 3) := da9_dX8_pack_23.2.2.2.2.2.2.2.2.2.2.2.1
theorem dX8_pack_39 : decode cX8_pack 39 = .ok (.goto (-31), 3) := da9_dX8_pack_23.2.2.2.2.2.2.2.2.2.2.2.2.1
theorem dX8_pack_42 : decode cX8_pack 42 = .ok (.lload_n 1, 1) := da9_dX8_pack_23.2.2.2.2.2.2.2.2.2.2.2.2.2.1
theorem dX8_pack_43 : decode cX8_pack 43 = .ok (.bipush 14, 2) := da9_dX8_pack_23.2.2.2.2.2.2.2.2.2.2.2.2.2.2.1
theorem dX8_pack_45 : decode cX8_pack 45 = .ok (.lshl, 1) := da9_dX8_pack_23.2.2.2.2.2.2.2.2.2.2.2.2.2.2.2
theorem da9_dX8_pack_46 : (decode cX8_pack 46 = .ok (.aload_n 0, 1)) ∧ (decode cX8_pack 47 = .ok (.getfield 22, 3)) ∧ (decode cX8_pack 50 = .ok (.i2l, 1)) ∧ (decode cX8_pack 51 = .ok (.lor, 1)) ∧ (decode cX8_pack 52 = .ok (.bipush 10, 2)) ∧ (decode cX8_pack 54 = .ok (.lshl, 1)) ∧ (decode cX8_pack 55 = .ok (.aload_n 0, 1)) ∧ (decode cX8_pack 56 = .ok (.getfield 25, 3)) ∧ (decode cX8_pack 59 = .ok (.i2l, 1)) ∧ (decode cX8_pack 60 = .ok (.lor, 1)) ∧ (decode cX8_pack 61 = .ok (.lreturn, 1)) := by decide +kernel
theorem dX8_pack_46 : decode cX8_pack 46 = .ok (.aload_n 0, 1) := da9_dX8_pack_46.1
theorem dX8_pack_47 : decode cX8_pack 47 = .ok (.getfield 22, 3) := da9_dX8_pack_46.2.1
theorem dX8_pack_50 : decode cX8_pack 50 = .ok (.i2l, 1) := da9_dX8_pack_46.2.2.1
theorem dX8_pack_51 : decode cX8_pack 51 = .ok (.lor, 1) := da9_dX8_pack_46.2.2.2.1
theorem dX8_pack_52 : decode cX8_pack 52 = .ok (.bipush 10, 2) := da9_dX8_pack_46.2.2.2.2.1
theorem dX8_pack_54 : decode cX8_pack 54 = .ok (.lshl, 1) := da9_dX8_pack_46.2.2.2.2.2.1
theorem dX8_pack_55 : decode cX8_pack 55 = .ok (.aload_n 0, 1) := da9_dX8_pack_46.2.2.2.2.2.2.1
theorem dX8_pack_56 : decode cX8_pack 56 = .ok (.getfield 25, 3) := da9_dX8_pack_46.2.2.2.2.2.2.2.1
theorem dX8_pack_59 : decode cX8_pack 59 = .ok (.i2l, 1) := da9_dX8_pack_46.2.2.2.2.2.2.2.2.1
theorem dX8_pack_60 : decode cX8_pack 60 = .ok (.lor, 1) := da9_dX8_pack_46.2.2.2.2.2.2.2.2.2.1
theorem dX8_pack_61 : decode cX8_pack 61 = .ok (.lreturn, 1) := da9_dX8_pack_46.2.2.2.2.2.2.2.2.2.2
set_option maxRecDepth 20000 in
theorem ggX8_gapCount_X8_anyBetween : GoodIn wsX8_gapCount wsX8_anyBetween := wd_c vW9_ok mvW9_392
set_option maxRecDepth 20000 in
theorem gX8_gapCount_X8_anyBetween : GoodIn wsX8_gapCount (wsV RX8 91 RX8 yX8_anyBetween wsX8_anyBetween) := goodIn_app (wd_l vW9_ok _ pvW9_87) ggX8_gapCount_X8_anyBetween
set_option maxRecDepth 20000 in
theorem ggX8_gapCount_X9_bit : GoodIn wsX8_gapCount wsX9_bit := wd_c vW9_ok mvW9_97
set_option maxRecDepth 20000 in
theorem gX8_gapCount_X9_bit_n79 : GoodIn wsX8_gapCount (wsX9_bit) := ggX8_gapCount_X9_bit
theorem da9_dX8_gapCount_0 : (decode cX8_gapCount 0 = .ok (.iconst 0, 1)) ∧ (decode cX8_gapCount 1 = .ok (.istore_n 1, 1)) ∧ (decode cX8_gapCount 2 = .ok (.iconst 0, 1)) ∧ (decode cX8_gapCount 3 = .ok (.istore_n 2, 1)) ∧ (decode cX8_gapCount 4 = .ok (.iload_n 2, 1)) ∧ (decode cX8_gapCount 5 = .ok (.iconst 1, 1)) ∧ (decode cX8_gapCount 6 = .ok (.iadd, 1)) ∧ (decode cX8_gapCount 7 = .ok (.aload_n 0, 1)) ∧ (decode cX8_gapCount 8 = .ok (.getfield 18, 3)) ∧ (decode cX8_gapCount 11 = .ok (.if_icmp .ge 53, 3)) ∧ (decode cX8_gapCount 14 = .ok (.iload_n 1, 1)) ∧ (decode cX8_gapCount 15 = .ok (.aload_n 0, 1)) ∧ (decode cX8_gapCount 16 = .ok (.aload_n 0, 1)) ∧ (decode cX8_gapCount 17 = .ok (.getfield 9, 3)) ∧ (decode cX8_gapCount 20 = .ok (.iload_n 2, 1)) ∧ (decode cX8_gapCount 21 = .ok (.iaload, 1)) := by decide +kernel
theorem dX8_gapCount_0 : decode cX8_gapCount 0 = .ok (.iconst 0, 1) := da9_dX8_gapCount_0.1
theorem dX8_gapCount_1 : decode cX8_gapCount 1 = .ok (.istore_n 1, 1) := da9_dX8_gapCount_0.2.1
theorem dX8_gapCount_2 : decode cX8_gapCount 2 = .ok (.iconst 0, 1) := da9_dX8_gapCount_0.2.2.1
theorem dX8_gapCount_3 : decode cX8_gapCount 3 = .ok (.istore_n 2, 1) := da9_dX8_gapCount_0.2.2.2.1
theorem dX8_gapCount_4 : decode cX8_gapCount 4 = .ok (.iload_n 2, 1) := da9_dX8_gapCount_0.2.2.2.2.1
theorem dX8_gapCount_5 : decode cX8_gapCount 5 = .ok (.iconst 1, 1) := da9_dX8_gapCount_0.2.2.2.2.2.1
theorem dX8_gapCount_6 : decode cX8_gapCount 6 = .ok (.iadd, 1) := da9_dX8_gapCount_0.2.2.2.2.2.2.1
theorem dX8_gapCount_7 : decode cX8_gapCount 7 = .ok (.aload_n 0, 1) := da9_dX8_gapCount_0.2.2.2.2.2.2.2.1
theorem dX8_gapCount_8 : decode cX8_gapCount 8 = .ok (.getfield 18, 3) := da9_dX8_gapCount_0.2.2.2.2.2.2.2.2.1
theorem dX8_gapCount_11 : decode cX8_gapCount 11 = .ok (.if_icmp .ge 53, 3) := da9_dX8_gapCount_0.2.2.2.2.2.2.2.2.2.1
theorem dX8_gapCount_14 : decode cX8_gapCount 14 = .ok (.iload_n 1, 1) := da9_dX8_gapCount_0.2.2.2.2.2.2.2.2.2.2.1
theorem dX8_gapCount_15 : decode cX8_gapCount 15 = .ok (.aload_n 0, 1) := da9_dX8_gapCount_0.2.2.2.2.2.2.2.2.2.2.2.1
theorem dX8_gapCount_16 : decode cX8_gapCount 16 = .ok (.aload_n 0, 1) := da9_dX8_gapCount_0.2.2.2.2.2.2.2.2.2.2.2.2.1
theorem dX8_gapCount_17 : decode cX8_gapCount 17 = .ok (.getfield 9, 3) := da9_dX8_gapCount_0.2.2.2.2.2.2.2.2.2.2.2.2.2.1
theorem dX8_gapCount_20 : decode cX8_gapCount 20 = .ok (.iload_n 2, 1) := da9_dX8_gapCount_0.2.2.2.2.2.2.2.2.2.2.2.2.2.2.1
theorem dX8_gapCount_21 : decode cX8_gapCount 21 = .ok (.iaload, 1) := da9_dX8_gapCount_0.2.2.2.2.2.2.2.2.2.2.2.2.2.2.2
theorem da9_dX8_gapCount_22 : (decode cX8_gapCount 22 = .ok (.aload_n 0, 1)) ∧ (decode cX8_gapCount 23 = .ok (.getfield 9, 3)) ∧ (decode cX8_gapCount 26 = .ok (.iload_n 2, 1)) ∧ (decode cX8_gapCount 27 = .ok (.iconst 1, 1)) ∧ (decode cX8_gapCount 28 = .ok (.iadd, 1)) ∧ (decode cX8_gapCount 29 = .ok (.iaload, 1)) ∧ (decode cX8_gapCount 30 = .ok (.invokestatic 41, 3)) ∧ (decode cX8_gapCount 33 = .ok (.aload_n 0, 1)) ∧ (decode cX8_gapCount 34 = .ok (.getfield 9, 3)) ∧ (decode cX8_gapCount 37 = .ok (.iload_n 2, 1)) ∧ (decode cX8_gapCount 38 = .ok (.iaload, 1)) ∧ (decode cX8_gapCount 39 = .ok (.aload_n 0, 1)) ∧ (decode cX8_gapCount 40 = .ok (.getfield 9, 3)) ∧ (decode cX8_gapCount 43 = .ok (.iload_n 2, 1)) ∧ (decode cX8_gapCount 44 = .ok (.iconst 1, 1)) ∧ (decode cX8_gapCount 45 = .ok (.iadd, 1)) := by decide +kernel
theorem dX8_gapCount_22 : decode cX8_gapCount 22 = .ok (.aload_n 0, 1) := da9_dX8_gapCount_22.1
theorem dX8_gapCount_23 : decode cX8_gapCount 23 = .ok (.getfield 9, 3) := da9_dX8_gapCount_22.2.1
theorem dX8_gapCount_26 : decode cX8_gapCount 26 = .ok (.iload_n 2, 1) := da9_dX8_gapCount_22.2.2.1
theorem dX8_gapCount_27 : decode cX8_gapCount 27 = .ok (.iconst 1, 1) := da9_dX8_gapCount_22.2.2.2.1
theorem dX8_gapCount_28 : decode cX8_gapCount 28 = .ok (.iadd, 1) := da9_dX8_gapCount_22.2.2.2.2.1
theorem dX8_gapCount_29 : decode cX8_gapCount 29 = .ok (.iaload, 1) := da9_dX8_gapCount_22.2.2.2.2.2.1
theorem dX8_gapCount_30 : decode cX8_gapCount 30 = .ok (.invokestatic 41, 3) := da9_dX8_gapCount_22.2.2.2.2.2.2.1
theorem dX8_gapCount_33 : decode cX8_gapCount 33 = .ok (.aload_n 0, 1) := da9_dX8_gapCount_22.2.2.2.2.2.2.2.1
theorem dX8_gapCount_34 : decode cX8_gapCount 34 = .ok (.getfield 9, 3) := da9_dX8_gapCount_22.2.2.2.2.2.2.2.2.1
theorem dX8_gapCount_37 : decode cX8_gapCount 37 = .ok (.iload_n 2, 1) := da9_dX8_gapCount_22.2.2.2.2.2.2.2.2.2.1
theorem dX8_gapCount_38 : decode cX8_gapCount 38 = .ok (.iaload, 1) := da9_dX8_gapCount_22.2.2.2.2.2.2.2.2.2.2.1
theorem dX8_gapCount_39 : decode cX8_gapCount 39 = .ok (.aload_n 0, 1) := da9_dX8_gapCount_22.2.2.2.2.2.2.2.2.2.2.2.1
theorem dX8_gapCount_40 : decode cX8_gapCount 40 = .ok (.getfield 9, 3) := da9_dX8_gapCount_22.2.2.2.2.2.2.2.2.2.2.2.2.1
theorem dX8_gapCount_43 : decode cX8_gapCount 43 = .ok (.iload_n 2, 1) := da9_dX8_gapCount_22.2.2.2.2.2.2.2.2.2.2.2.2.2.1
theorem dX8_gapCount_44 : decode cX8_gapCount 44 = .ok (.iconst 1, 1) := da9_dX8_gapCount_22.2.2.2.2.2.2.2.2.2.2.2.2.2.2.1
theorem dX8_gapCount_45 : decode cX8_gapCount 45 = .ok (.iadd, 1) := da9_dX8_gapCount_22.2.2.2.2.2.2.2.2.2.2.2.2.2.2.2
theorem da9_dX8_gapCount_46 : (decode cX8_gapCount 46 = .ok (.iaload, 1)) ∧ (decode cX8_gapCount 47 = .ok (.invokestatic 88, 3)) ∧ (decode cX8_gapCount 50 = .ok (.invokevirtual 91, 3)) ∧ (decode cX8_gapCount 53 = .ok (.invokestatic 79, 3)) ∧ (decode cX8_gapCount 56 = .ok (.iadd, 1)) ∧ (decode cX8_gapCount 57 = .ok (.istore_n 1, 1)) ∧ (decode cX8_gapCount 58 = .ok (.iinc 2 1, 3)) ∧ (decode cX8_gapCount 61 = .ok (.goto (-57), 3)) ∧ (decode cX8_gapCount 64 = .ok (.aload_n 0, 1)) ∧ (decode cX8_gapCount 65 = .ok (.getfield 18, 3)) ∧ (decode cX8_gapCount 68 = .ok (.ifCond .ne 7, 3)) ∧ (decode cX8_gapCount 71 = .ok (.iconst 0, 1)) ∧ (decode cX8_gapCount 72 = .ok (.goto 25, 3)) ∧ (decode cX8_gapCount 75 = .ok (.iload_n 1, 1)) ∧ (decode cX8_gapCount 76 = .ok (.aload_n 0, 1)) ∧ (decode cX8_gapCount 77 = .ok (.aload_n 0, 1)) := by decide +kernel
theorem dX8_gapCount_46 : decode cX8_gapCount 46 = .ok (.iaload, 1) := da9_dX8_gapCount_46.1
theorem dX8_gapCount_47 : decode cX8_gapCount 47 = .ok (.invokestatic 88, 3) := da9_dX8_gapCount_46.2.1
theorem dX8_gapCount_50 : decode cX8_gapCount 50 = .ok (.invokevirtual 91, 3) := da9_dX8_gapCount_46.2.2.1
theorem dX8_gapCount_53 : decode cX8_gapCount 53 = .ok (.invokestatic 79, 3) := da9_dX8_gapCount_46.2.2.2.1
theorem dX8_gapCount_56 : decode cX8_gapCount 56 = .ok (.iadd, 1) := da9_dX8_gapCount_46.2.2.2.2.1
theorem dX8_gapCount_57 : decode cX8_gapCount 57 = .ok (.istore_n 1, 1) := da9_dX8_gapCount_46.2.2.2.2.2.1
theorem dX8_gapCount_58 : decode cX8_gapCount 58 = .ok (.iinc 2 1, 3) := da9_dX8_gapCount_46.2.2.2.2.2.2.1
theorem dX8_gapCount_61 : decode cX8_gapCount 61 = .ok (.goto (-57), 3) := da9_dX8_gapCount_46.2.2.2.2.2.2.2.1
theorem dX8_gapCount_64 : decode cX8_gapCount 64 = .ok (.aload_n 0, 1) := da9_dX8_gapCount_46.2.2.2.2.2.2.2.2.1
theorem dX8_gapCount_65 : decode cX8_gapCount 65 = .ok (.getfield 18, 3) := da9_dX8_gapCount_46.2.2.2.2.2.2.2.2.2.1
theorem dX8_gapCount_68 : decode cX8_gapCount 68 = .ok (.ifCond .ne 7, 3) := da9_dX8_gapCount_46.2.2.2.2.2.2.2.2.2.2.1
theorem dX8_gapCount_71 : decode cX8_gapCount 71 = .ok (.iconst 0, 1) := da9_dX8_gapCount_46.2.2.2.2.2.2.2.2.2.2.2.1
theorem dX8_gapCount_72 : decode cX8_gapCount 72 = .ok (.goto 25, 3) := da9_dX8_gapCount_46.2.2.2.2.2.2.2.2.2.2.2.2.1
theorem dX8_gapCount_75 : decode cX8_gapCount 75 = .ok (.iload_n 1, 1) := da9_dX8_gapCount_46.2.2.2.2.2.2.2.2.2.2.2.2.2.1
theorem dX8_gapCount_76 : decode cX8_gapCount 76 = .ok (.aload_n 0, 1) := da9_dX8_gapCount_46.2.2.2.2.2.2.2.2.2.2.2.2.2.2.1
theorem dX8_gapCount_77 : decode cX8_gapCount 77 = .ok (.aload_n 0, 1) := da9_dX8_gapCount_46.2.2.2.2.2.2.2.2.2.2.2.2.2.2.2
theorem da9_dX8_gapCount_78 : (decode cX8_gapCount 78 = .ok (.getfield 9, 3)) ∧ (decode cX8_gapCount 81 = .ok (.aload_n 0, 1)) ∧ (decode cX8_gapCount 82 = .ok (.getfield 18, 3)) ∧ (decode cX8_gapCount 85 = .ok (.iconst 1, 1)) ∧ (decode cX8_gapCount 86 = .ok (.isub, 1)) ∧ (decode cX8_gapCount 87 = .ok (.iaload, 1)) ∧ (decode cX8_gapCount 88 = .ok (.bipush 6, 2)) ∧ (decode cX8_gapCount 90 = .ok (.invokevirtual 91, 3)) ∧ (decode cX8_gapCount 93 = .ok (.invokestatic 79, 3)) ∧ (decode cX8_gapCount 96 = .ok (.iadd, 1)) ∧ (decode cX8_gapCount 97 = .ok (.ireturn, 1)) := by decide +kernel
theorem dX8_gapCount_78 : decode cX8_gapCount 78 = .ok (.getfield 9, 3) := da9_dX8_gapCount_78.1
theorem dX8_gapCount_81 : decode cX8_gapCount 81 = .ok (.aload_n 0, 1) := da9_dX8_gapCount_78.2.1
theorem dX8_gapCount_82 : decode cX8_gapCount 82 = .ok (.getfield 18, 3) := da9_dX8_gapCount_78.2.2.1
theorem dX8_gapCount_85 : decode cX8_gapCount 85 = .ok (.iconst 1, 1) := da9_dX8_gapCount_78.2.2.2.1
theorem dX8_gapCount_86 : decode cX8_gapCount 86 = .ok (.isub, 1) := da9_dX8_gapCount_78.2.2.2.2.1
theorem dX8_gapCount_87 : decode cX8_gapCount 87 = .ok (.iaload, 1) := da9_dX8_gapCount_78.2.2.2.2.2.1
theorem dX8_gapCount_88 : decode cX8_gapCount 88 = .ok (.bipush 6, 2) := da9_dX8_gapCount_78.2.2.2.2.2.2.1
theorem dX8_gapCount_90 : decode cX8_gapCount 90 = .ok (.invokevirtual 91, 3) := da9_dX8_gapCount_78.2.2.2.2.2.2.2.1
theorem dX8_gapCount_93 : decode cX8_gapCount 93 = .ok (.invokestatic 79, 3) := da9_dX8_gapCount_78.2.2.2.2.2.2.2.2.1
theorem dX8_gapCount_96 : decode cX8_gapCount 96 = .ok (.iadd, 1) := da9_dX8_gapCount_78.2.2.2.2.2.2.2.2.2.1
theorem dX8_gapCount_97 : decode cX8_gapCount 97 = .ok (.ireturn, 1) := da9_dX8_gapCount_78.2.2.2.2.2.2.2.2.2.2
theorem da9_dX8_anyBetween_0 : (decode cX8_anyBetween 0 = .ok (.iconst 0, 1)) ∧ (decode cX8_anyBetween 1 = .ok (.istore_n 3, 1)) ∧ (decode cX8_anyBetween 2 = .ok (.iload_n 3, 1)) ∧ (decode cX8_anyBetween 3 = .ok (.aload_n 0, 1)) ∧ (decode cX8_anyBetween 4 = .ok (.getfield 18, 3)) ∧ (decode cX8_anyBetween 7 = .ok (.if_icmp .ge 31, 3)) ∧ (decode cX8_anyBetween 10 = .ok (.aload_n 0, 1)) ∧ (decode cX8_anyBetween 11 = .ok (.getfield 9, 3)) ∧ (decode cX8_anyBetween 14 = .ok (.iload_n 3, 1)) ∧ (decode cX8_anyBetween 15 = .ok (.iaload, 1)) ∧ (decode cX8_anyBetween 16 = .ok (.iload_n 1, 1)) ∧ (decode cX8_anyBetween 17 = .ok (.if_icmp .le 15, 3)) ∧ (decode cX8_anyBetween 20 = .ok (.aload_n 0, 1)) ∧ (decode cX8_anyBetween 21 = .ok (.getfield 9, 3)) ∧ (decode cX8_anyBetween 24 = .ok (.iload_n 3, 1)) ∧ (decode cX8_anyBetween 25 = .ok (.iaload, 1)) := by decide +kernel
theorem dX8_anyBetween_0 : decode cX8_anyBetween 0 = .ok (.iconst 0, 1) := da9_dX8_anyBetween_0.1
theorem dX8_anyBetween_1 : decode cX8_anyBetween 1 = .ok (.istore_n 3, 1) := da9_dX8_anyBetween_0.2.1
theorem dX8_anyBetween_2 : decode cX8_anyBetween 2 = .ok (.iload_n 3, 1) := da9_dX8_anyBetween_0.2.2.1
theorem dX8_anyBetween_3 : decode cX8_anyBetween 3 = .ok (.aload_n 0, 1) := da9_dX8_anyBetween_0.2.2.2.1
theorem dX8_anyBetween_4 : decode cX8_anyBetween 4 = .ok (.getfield 18, 3) := da9_dX8_anyBetween_0.2.2.2.2.1
theorem dX8_anyBetween_7 : decode cX8_anyBetween 7 = .ok (.if_icmp .ge 31, 3) := da9_dX8_anyBetween_0.2.2.2.2.2.1
theorem dX8_anyBetween_10 : decode cX8_anyBetween 10 = .ok (.aload_n 0, 1) := da9_dX8_anyBetween_0.2.2.2.2.2.2.1
theorem dX8_anyBetween_11 : decode cX8_anyBetween 11 = .ok (.getfield 9, 3) := da9_dX8_anyBetween_0.2.2.2.2.2.2.2.1
theorem dX8_anyBetween_14 : decode cX8_anyBetween 14 = .ok (.iload_n 3, 1) := da9_dX8_anyBetween_0.2.2.2.2.2.2.2.2.1
theorem dX8_anyBetween_15 : decode cX8_anyBetween 15 = .ok (.iaload, 1) := da9_dX8_anyBetween_0.2.2.2.2.2.2.2.2.2.1
theorem dX8_anyBetween_16 : decode cX8_anyBetween 16 = .ok (.iload_n 1, 1) := da9_dX8_anyBetween_0.2.2.2.2.2.2.2.2.2.2.1
theorem dX8_anyBetween_17 : decode cX8_anyBetween 17 = .ok (.if_icmp .le 15, 3) := da9_dX8_anyBetween_0.2.2.2.2.2.2.2.2.2.2.2.1
theorem dX8_anyBetween_20 : decode cX8_anyBetween 20 = .ok (.aload_n 0, 1) := da9_dX8_anyBetween_0.2.2.2.2.2.2.2.2.2.2.2.2.1
theorem dX8_anyBetween_21 : decode cX8_anyBetween 21 = .ok (.getfield 9, 3) := da9_dX8_anyBetween_0.2.2.2.2.2.2.2.2.2.2.2.2.2.1
theorem dX8_anyBetween_24 : decode cX8_anyBetween 24 = .ok (.iload_n 3, 1) := da9_dX8_anyBetween_0.2.2.2.2.2.2.2.2.2.2.2.2.2.2.1
theorem dX8_anyBetween_25 : decode cX8_anyBetween 25 = .ok (.iaload, 1) := da9_dX8_anyBetween_0.2.2.2.2.2.2.2.2.2.2.2.2.2.2.2
theorem da9_dX8_anyBetween_26 : (decode cX8_anyBetween 26 = .ok (.iload_n 2, 1)) ∧ (decode cX8_anyBetween 27 = .ok (.if_icmp .ge 5, 3)) ∧ (decode cX8_anyBetween 30 = .ok (.iconst 1, 1)) ∧ (decode cX8_anyBetween 31 = .ok (.ireturn, 1)) ∧ (decode cX8_anyBetween 32 = .ok (.iinc 3 1, 3)) ∧ (decode cX8_anyBetween 35 = .ok (.goto (-33), 3)) ∧ (decode cX8_anyBetween 38 = .ok (.iconst 0, 1)) ∧ (decode cX8_anyBetween 39 = .ok (.ireturn, 1)) := by decide +kernel
theorem dX8_anyBetween_26 : decode cX8_anyBetween 26 = .ok (.iload_n 2, 1) := da9_dX8_anyBetween_26.1
theorem dX8_anyBetween_27 : decode cX8_anyBetween 27 = .ok (.if_icmp .ge 5, 3) := da9_dX8_anyBetween_26.2.1
theorem dX8_anyBetween_30 : decode cX8_anyBetween 30 = .ok (.iconst 1, 1) := da9_dX8_anyBetween_26.2.2.1
theorem dX8_anyBetween_31 : decode cX8_anyBetween 31 = .ok (.ireturn, 1) := da9_dX8_anyBetween_26.2.2.2.1
theorem dX8_anyBetween_32 : decode cX8_anyBetween 32 = .ok (.iinc 3 1, 3) := da9_dX8_anyBetween_26.2.2.2.2.1
theorem dX8_anyBetween_35 : decode cX8_anyBetween 35 = .ok (.goto (-33), 3) := da9_dX8_anyBetween_26.2.2.2.2.2.1
theorem dX8_anyBetween_38 : decode cX8_anyBetween 38 = .ok (.iconst 0, 1) := da9_dX8_anyBetween_26.2.2.2.2.2.2.1
theorem dX8_anyBetween_39 : decode cX8_anyBetween 39 = .ok (.ireturn, 1) := da9_dX8_anyBetween_26.2.2.2.2.2.2.2
set_option maxRecDepth 20000 in
theorem ggX9_law_X9_refuse : GoodIn wsX9_law wsX9_refuse := wd_c vW9_ok mvW9_12
set_option maxRecDepth 20000 in
theorem gX9_law_X9_refuse : GoodIn wsX9_law (wsV RX9 118 RX9 yX9_refuse wsX9_refuse) := goodIn_app (wd_l vW9_ok _ pvW9_91) ggX9_law_X9_refuse
set_option maxRecDepth 20000 in
theorem ggX9_law_X4_read : GoodIn wsX9_law wsX4_read := wd_c vW9_ok mvW9_161
set_option maxRecDepth 20000 in
theorem gX9_law_X4_read : GoodIn wsX9_law (wsV RX9 186 RX4 yX4_read wsX4_read) := goodIn_app (wd_l vW9_ok _ pvW9_108) ggX9_law_X4_read
set_option maxRecDepth 20000 in
theorem ggX9_law_X7_copyOfIt : GoodIn wsX9_law wsX7_copyOfIt := wd_c vW9_ok mvW9_338
set_option maxRecDepth 20000 in
theorem gX9_law_X7_copyOfIt : GoodIn wsX9_law (wsV RX9 194 RX7 yX7_copyOfIt wsX7_copyOfIt) := goodIn_app (wd_l vW9_ok _ pvW9_109) ggX9_law_X7_copyOfIt
set_option maxRecDepth 20000 in
theorem ggX9_law_X9_accept : GoodIn wsX9_law wsX9_accept := wd_c vW9_ok mvW9_36
set_option maxRecDepth 20000 in
theorem gX9_law_X9_accept : GoodIn wsX9_law (wsV RX9 138 RX9 yX9_accept wsX9_accept) := goodIn_app (wd_l vW9_ok _ pvW9_95) ggX9_law_X9_accept
theorem da9_dX9_law_0 : (decode cX9_law 0 = .ok (.aload_n 0, 1)) ∧ (decode cX9_law 1 = .ok (.getfield 88, 3)) ∧ (decode cX9_law 4 = .ok (.istore_n 1, 1)) ∧ (decode cX9_law 5 = .ok (.aload_n 0, 1)) ∧ (decode cX9_law 6 = .ok (.iconst 0, 1)) ∧ (decode cX9_law 7 = .ok (.putfield 88, 3)) ∧ (decode cX9_law 10 = .ok (.aload_n 0, 1)) ∧ (decode cX9_law 11 = .ok (.getfield 10, 3)) ∧ (decode cX9_law 14 = .ok (.getfield 183, 3)) ∧ (decode cX9_law 17 = .ok (.bipush 6, 2)) ∧ (decode cX9_law 19 = .ok (.if_icmp .lt 10, 3)) ∧ (decode cX9_law 22 = .ok (.aload_n 0, 1)) ∧ (decode cX9_law 23 = .ok (.bipush (-5), 2)) ∧ (decode cX9_law 25 = .ok (.invokevirtual 118, 3)) ∧ (decode cX9_law 28 = .ok (.ireturn, 1)) ∧ (decode cX9_law 29 = .ok (.aload_n 0, 1)) := by decide +kernel
theorem dX9_law_0 : decode cX9_law 0 = .ok (.aload_n 0, 1) := da9_dX9_law_0.1
theorem dX9_law_1 : decode cX9_law 1 = .ok (.getfield 88, 3) := da9_dX9_law_0.2.1
theorem dX9_law_4 : decode cX9_law 4 = .ok (.istore_n 1, 1) := da9_dX9_law_0.2.2.1
theorem dX9_law_5 : decode cX9_law 5 = .ok (.aload_n 0, 1) := da9_dX9_law_0.2.2.2.1
theorem dX9_law_6 : decode cX9_law 6 = .ok (.iconst 0, 1) := da9_dX9_law_0.2.2.2.2.1
theorem dX9_law_7 : decode cX9_law 7 = .ok (.putfield 88, 3) := da9_dX9_law_0.2.2.2.2.2.1
theorem dX9_law_10 : decode cX9_law 10 = .ok (.aload_n 0, 1) := da9_dX9_law_0.2.2.2.2.2.2.1
theorem dX9_law_11 : decode cX9_law 11 = .ok (.getfield 10, 3) := da9_dX9_law_0.2.2.2.2.2.2.2.1
theorem dX9_law_14 : decode cX9_law 14 = .ok (.getfield 183, 3) := da9_dX9_law_0.2.2.2.2.2.2.2.2.1
theorem dX9_law_17 : decode cX9_law 17 = .ok (.bipush 6, 2) := da9_dX9_law_0.2.2.2.2.2.2.2.2.2.1
theorem dX9_law_19 : decode cX9_law 19 = .ok (.if_icmp .lt 10, 3) := da9_dX9_law_0.2.2.2.2.2.2.2.2.2.2.1
theorem dX9_law_22 : decode cX9_law 22 = .ok (.aload_n 0, 1) := da9_dX9_law_0.2.2.2.2.2.2.2.2.2.2.2.1
theorem dX9_law_23 : decode cX9_law 23 = .ok (.bipush (-5), 2) := da9_dX9_law_0.2.2.2.2.2.2.2.2.2.2.2.2.1
theorem dX9_law_25 : decode cX9_law 25 = .ok (.invokevirtual 118, 3) := da9_dX9_law_0.2.2.2.2.2.2.2.2.2.2.2.2.2.1
theorem dX9_law_28 : decode cX9_law 28 = .ok (.ireturn, 1) := da9_dX9_law_0.2.2.2.2.2.2.2.2.2.2.2.2.2.2.1
theorem dX9_law_29 : decode cX9_law 29 = .ok (.aload_n 0, 1) := da9_dX9_law_0.2.2.2.2.2.2.2.2.2.2.2.2.2.2.2
theorem da9_dX9_law_30 : (decode cX9_law 30 = .ok (.aload_n 0, 1)) ∧ (decode cX9_law 31 = .ok (.getfield 64, 3)) ∧ (decode cX9_law 34 = .ok (.aload_n 0, 1)) ∧ (decode cX9_law 35 = .ok (.getfield 84, 3)) ∧ (decode cX9_law 38 = .ok (.iload_n 1, 1)) ∧ (decode cX9_law 39 = .ok (.iconst 0, 1)) ∧ (decode cX9_law 40 = .ok (.aload_n 0, 1)) ∧ (decode cX9_law 41 = .ok (.getfield 73, 3)) ∧ (decode cX9_law 44 = .ok (.invokevirtual 186, 3)) ∧ (decode cX9_law 47 = .ok (.putfield 92, 3)) ∧ (decode cX9_law 50 = .ok (.aload_n 0, 1)) ∧ (decode cX9_law 51 = .ok (.getfield 92, 3)) ∧ (decode cX9_law 54 = .ok (.iconst (-1), 1)) ∧ (decode cX9_law 55 = .ok (.if_icmp .eq 10, 3)) ∧ (decode cX9_law 58 = .ok (.aload_n 0, 1)) ∧ (decode cX9_law 59 = .ok (.bipush (-6), 2)) := by decide +kernel
theorem dX9_law_30 : decode cX9_law 30 = .ok (.aload_n 0, 1) := da9_dX9_law_30.1
theorem dX9_law_31 : decode cX9_law 31 = .ok (.getfield 64, 3) := da9_dX9_law_30.2.1
theorem dX9_law_34 : decode cX9_law 34 = .ok (.aload_n 0, 1) := da9_dX9_law_30.2.2.1
theorem dX9_law_35 : decode cX9_law 35 = .ok (.getfield 84, 3) := da9_dX9_law_30.2.2.2.1
theorem dX9_law_38 : decode cX9_law 38 = .ok (.iload_n 1, 1) := da9_dX9_law_30.2.2.2.2.1
theorem dX9_law_39 : decode cX9_law 39 = .ok (.iconst 0, 1) := da9_dX9_law_30.2.2.2.2.2.1
theorem dX9_law_40 : decode cX9_law 40 = .ok (.aload_n 0, 1) := da9_dX9_law_30.2.2.2.2.2.2.1
theorem dX9_law_41 : decode cX9_law 41 = .ok (.getfield 73, 3) := da9_dX9_law_30.2.2.2.2.2.2.2.1
theorem dX9_law_44 : decode cX9_law 44 = .ok (.invokevirtual 186, 3) := da9_dX9_law_30.2.2.2.2.2.2.2.2.1
theorem dX9_law_47 : decode cX9_law 47 = .ok (.putfield 92, 3) := da9_dX9_law_30.2.2.2.2.2.2.2.2.2.1
theorem dX9_law_50 : decode cX9_law 50 = .ok (.aload_n 0, 1) := da9_dX9_law_30.2.2.2.2.2.2.2.2.2.2.1
theorem dX9_law_51 : decode cX9_law 51 = .ok (.getfield 92, 3) := da9_dX9_law_30.2.2.2.2.2.2.2.2.2.2.2.1
theorem dX9_law_54 : decode cX9_law 54 = .ok (.iconst (-1), 1) := da9_dX9_law_30.2.2.2.2.2.2.2.2.2.2.2.2.1
theorem dX9_law_55 : decode cX9_law 55 = .ok (.if_icmp .eq 10, 3) := da9_dX9_law_30.2.2.2.2.2.2.2.2.2.2.2.2.2.1
theorem dX9_law_58 : decode cX9_law 58 = .ok (.aload_n 0, 1) := da9_dX9_law_30.2.2.2.2.2.2.2.2.2.2.2.2.2.2.1
theorem dX9_law_59 : decode cX9_law 59 = .ok (.bipush (-6), 2) := da9_dX9_law_30.2.2.2.2.2.2.2.2.2.2.2.2.2.2.2
theorem da9_dX9_law_61 : (decode cX9_law 61 = .ok (.invokevirtual 118, 3)) ∧ (decode cX9_law 64 = .ok (.ireturn, 1)) ∧ (decode cX9_law 65 = .ok (.aload_n 0, 1)) ∧ (decode cX9_law 66 = .ok (.getfield 10, 3)) ∧ (decode cX9_law 69 = .ok (.getfield 190, 3)) ∧ (decode cX9_law 72 = .ok (.aload_n 0, 1)) ∧ (decode cX9_law 73 = .ok (.getfield 10, 3)) ∧ (decode cX9_law 76 = .ok (.getfield 183, 3)) ∧ (decode cX9_law 79 = .ok (.aload_n 0, 1)) ∧ (decode cX9_law 80 = .ok (.getfield 73, 3)) ∧ (decode cX9_law 83 = .ok (.invokevirtual 194, 3)) ∧ (decode cX9_law 86 = .ok (.aastore, 1)) ∧ (decode cX9_law 87 = .ok (.aload_n 0, 1)) ∧ (decode cX9_law 88 = .ok (.getfield 10, 3)) ∧ (decode cX9_law 91 = .ok (.dup, 1)) ∧ (decode cX9_law 92 = .ok (.getfield 183, 3)) := by decide +kernel
theorem dX9_law_61 : decode cX9_law 61 = .ok (.invokevirtual 118, 3) := da9_dX9_law_61.1
theorem dX9_law_64 : decode cX9_law 64 = .ok (.ireturn, 1) := da9_dX9_law_61.2.1
theorem dX9_law_65 : decode cX9_law 65 = .ok (.aload_n 0, 1) := da9_dX9_law_61.2.2.1
theorem dX9_law_66 : decode cX9_law 66 = .ok (.getfield 10, 3) := da9_dX9_law_61.2.2.2.1
theorem dX9_law_69 : decode cX9_law 69 = .ok (.getfield 190, 3) := da9_dX9_law_61.2.2.2.2.1
theorem dX9_law_72 : decode cX9_law 72 = .ok (.aload_n 0, 1) := da9_dX9_law_61.2.2.2.2.2.1
theorem dX9_law_73 : decode cX9_law 73 = .ok (.getfield 10, 3) := da9_dX9_law_61.2.2.2.2.2.2.1
theorem dX9_law_76 : decode cX9_law 76 = .ok (.getfield 183, 3) := da9_dX9_law_61.2.2.2.2.2.2.2.1
theorem dX9_law_79 : decode cX9_law 79 = .ok (.aload_n 0, 1) := da9_dX9_law_61.2.2.2.2.2.2.2.2.1
theorem dX9_law_80 : decode cX9_law 80 = .ok (.getfield 73, 3) := da9_dX9_law_61.2.2.2.2.2.2.2.2.2.1
theorem dX9_law_83 : decode cX9_law 83 = .ok (.invokevirtual 194, 3) := da9_dX9_law_61.2.2.2.2.2.2.2.2.2.2.1
theorem dX9_law_86 : decode cX9_law 86 = .ok (.aastore, 1) := da9_dX9_law_61.2.2.2.2.2.2.2.2.2.2.2.1
theorem dX9_law_87 : decode cX9_law 87 = .ok (.aload_n 0, 1) := da9_dX9_law_61.2.2.2.2.2.2.2.2.2.2.2.2.1
theorem dX9_law_88 : decode cX9_law 88 = .ok (.getfield 10, 3) := da9_dX9_law_61.2.2.2.2.2.2.2.2.2.2.2.2.2.1
theorem dX9_law_91 : decode cX9_law 91 = .ok (.dup, 1) := da9_dX9_law_61.2.2.2.2.2.2.2.2.2.2.2.2.2.2.1
theorem dX9_law_92 : decode cX9_law 92 = .ok (.getfield 183, 3) := da9_dX9_law_61.2.2.2.2.2.2.2.2.2.2.2.2.2.2.2
theorem da9_dX9_law_95 : (decode cX9_law 95 = .ok (.iconst 1, 1)) ∧ (decode cX9_law 96 = .ok (.iadd, 1)) ∧ (decode cX9_law 97 = .ok (.putfield 183, 3)) ∧ (decode cX9_law 100 = .ok (.aload_n 0, 1)) ∧ (decode cX9_law 101 = .ok (.aload_n 0, 1)) ∧ (decode cX9_law 102 = .ok (.getfield 10, 3)) ∧ (decode cX9_law 105 = .ok (.getfield 183, 3)) ∧ (decode cX9_law 108 = .ok (.iconst 1, 1)) ∧ (decode cX9_law 109 = .ok (.isub, 1)) ∧ (decode cX9_law 110 = .ok (.invokevirtual 138, 3)) ∧ (decode cX9_law 113 = .ok (.ireturn, 1)) := by decide +kernel
theorem dX9_law_95 : decode cX9_law 95 = .ok (.iconst 1, 1) := da9_dX9_law_95.1
theorem dX9_law_96 : decode cX9_law 96 = .ok (.iadd, 1) := da9_dX9_law_95.2.1
theorem dX9_law_97 : decode cX9_law 97 = .ok (.putfield 183, 3) := da9_dX9_law_95.2.2.1
theorem dX9_law_100 : decode cX9_law 100 = .ok (.aload_n 0, 1) := da9_dX9_law_95.2.2.2.1
theorem dX9_law_101 : decode cX9_law 101 = .ok (.aload_n 0, 1) := da9_dX9_law_95.2.2.2.2.1
theorem dX9_law_102 : decode cX9_law 102 = .ok (.getfield 10, 3) := da9_dX9_law_95.2.2.2.2.2.1
theorem dX9_law_105 : decode cX9_law 105 = .ok (.getfield 183, 3) := da9_dX9_law_95.2.2.2.2.2.2.1
theorem dX9_law_108 : decode cX9_law 108 = .ok (.iconst 1, 1) := da9_dX9_law_95.2.2.2.2.2.2.2.1
theorem dX9_law_109 : decode cX9_law 109 = .ok (.isub, 1) := da9_dX9_law_95.2.2.2.2.2.2.2.2.1
theorem dX9_law_110 : decode cX9_law 110 = .ok (.invokevirtual 138, 3) := da9_dX9_law_95.2.2.2.2.2.2.2.2.2.1
theorem dX9_law_113 : decode cX9_law 113 = .ok (.ireturn, 1) := da9_dX9_law_95.2.2.2.2.2.2.2.2.2.2
end
