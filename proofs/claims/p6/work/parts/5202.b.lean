theorem u9_wsX1_anyHolds_X1 : ∀ w ∈ u_ws RX1 TX1 3, w ∈ wsX1_anyHolds := by
  first | exact fun w h => List.mem_cons_of_mem _ (List.mem_append_right _ h) | decide +kernel
theorem u9_wsX1_anyHolds_X7 : ∀ w ∈ u_ws RX7 TX7 8, w ∈ wsX1_anyHolds := by
  first | exact fun w h => List.mem_cons_of_mem _ (List.mem_append_right _ h) | decide +kernel
theorem f9_wsX1_anyHolds_395 : (Cond.fieldLink RX1 15 "TurnedFloors$Judge" "law" "LTurnedFloors$Text;") ∈ wsX1_anyHolds := by decide +kernel
theorem f9_wsX1_anyHolds_396 : (Cond.fieldLink RX1 19 "TurnedFloors$Judge" "machine" "LTurnedFloors$Machine;") ∈ wsX1_anyHolds := by decide +kernel
theorem f9_wsX1_anyHolds_397 : (Cond.fieldLink RX1 11 "TurnedFloors$Judge" "words" "[I") ∈ wsX1_anyHolds := by decide +kernel
theorem u9_wsX1_tips_X8 : ∀ w ∈ u_ws RX8 TX8 5, w ∈ wsX1_tips := by
  first | exact fun w h => List.mem_cons_of_mem _ (List.mem_append_right _ h) | decide +kernel
theorem u9_wsX1_tips_X1 : ∀ w ∈ u_ws RX1 TX1 3, w ∈ wsX1_tips := by
  first | exact fun w h => List.mem_cons_of_mem _ (List.mem_append_right _ h) | decide +kernel
theorem f9_wsX1_tips_400 : (Cond.fieldLink RX1 11 "TurnedFloors$Judge" "words" "[I") ∈ wsX1_tips := by decide +kernel
theorem u9_wsX9_at_X9 : ∀ w ∈ u_ws RX9 TX9 19, w ∈ wsX9_at := by
  first | exact fun w h => List.mem_cons_of_mem _ (List.mem_append_right _ h) | decide +kernel
theorem u9_wsX9_at_X6 : ∀ w ∈ u_ws RX6 TX6 10, w ∈ wsX9_at := by
  first | exact fun w h => List.mem_cons_of_mem _ (List.mem_append_right _ h) | decide +kernel
theorem f9_wsX9_at_403 : (Cond.fieldLink RX9 10 "TurnedFloors" "state" "LTurnedFloors$State;") ∈ wsX9_at := by decide +kernel
theorem u9_wsX1_setGrip_X1 : ∀ w ∈ u_ws RX1 TX1 3, w ∈ wsX1_setGrip := by
  first | exact fun w h => List.mem_cons_of_mem _ (List.mem_append_right _ h) | decide +kernel
theorem f9_wsX1_setGrip_405 : (Cond.fieldLink RX1 11 "TurnedFloors$Judge" "words" "[I") ∈ wsX1_setGrip := by decide +kernel
theorem u9_wsX1_setTurn_X8 : ∀ w ∈ u_ws RX8 TX8 5, w ∈ wsX1_setTurn := by
  first | exact fun w h => List.mem_cons_of_mem _ (List.mem_append_right _ h) | decide +kernel
theorem u9_wsX1_pay_X1 : ∀ w ∈ u_ws RX1 TX1 3, w ∈ wsX1_pay := by
  first | exact fun w h => List.mem_cons_of_mem _ (List.mem_append_right _ h) | decide +kernel
theorem u9_wsX1_pay_X7 : ∀ w ∈ u_ws RX7 TX7 8, w ∈ wsX1_pay := by
  first | exact fun w h => List.mem_cons_of_mem _ (List.mem_append_right _ h) | decide +kernel
theorem u9_wsX1_pay_X2 : ∀ w ∈ u_ws RX2 TX2 2, w ∈ wsX1_pay := by
  first | exact fun w h => List.mem_cons_of_mem _ (List.mem_append_right _ h) | decide +kernel
theorem f9_wsX1_pay_410 : (Cond.fieldLink RX1 11 "TurnedFloors$Judge" "words" "[I") ∈ wsX1_pay := by decide +kernel
theorem f9_wsX1_pay_411 : (Cond.fieldLink RX1 15 "TurnedFloors$Judge" "law" "LTurnedFloors$Text;") ∈ wsX1_pay := by decide +kernel
theorem f9_wsX1_pay_412 : (Cond.fieldLink RX1 19 "TurnedFloors$Judge" "machine" "LTurnedFloors$Machine;") ∈ wsX1_pay := by decide +kernel
theorem f9_wsX1_pay_413 : (Cond.methodLink RX1 92 Lib.Math.min.name) ∈ wsX1_pay := by decide +kernel
theorem f9_wsX1_pay_414 : (Cond.static Lib.Math.min.name) ∈ wsX1_pay := by decide +kernel
theorem f9_wsX1_pay_415 : (Cond.initialized "java/lang/Math") ∈ wsX1_pay := by decide +kernel
theorem f9_wsX1_pay_416 : (Cond.code Lib.Math.min.name Lib.Math.min.code 2 (some .int)) ∈ wsX1_pay := by decide +kernel
theorem f9_wsX1_pay_417 : (Cond.methodLink RX1 97 Lib.Math.max.name) ∈ wsX1_pay := by decide +kernel
theorem f9_wsX1_pay_418 : (Cond.static Lib.Math.max.name) ∈ wsX1_pay := by decide +kernel
theorem f9_wsX1_pay_419 : (Cond.code Lib.Math.max.name Lib.Math.max.code 2 (some .int)) ∈ wsX1_pay := by decide +kernel
set_option maxHeartbeats 4000000 in
set_option maxRecDepth 100000 in
theorem WX1_anyHolds_s20_74 {p : Program} {l : Launch} {e : Env} {s : State} {m : MethodId} {args : Array Value} {below : List Frame} {meth : Method} {c : Code} {D : va_G} {ty : Nat → ClassId} {eo : Nat → Nat} {A : Nat → Prop} {ad : Nat → Nat} {o1 : Int32} {o2 : dK} (C : dc_C p s m args meth c cX1_anyHolds (some .boolean) 3 RX1 wsX1_anyHolds D ty eo A) {k11 : dK → Int32 → Int32 → Option (Int32 × dK)} (hk11 : ∀ (q : dK) (x1 : Int32) (x2 : Int32) (H : Heap) (locs : List Loc) (ls : Array Slot), k11 q x1 x2 = some (o1, o2) → va_P D vwCl (wF ty ad q) H → va_D A (wF ty ad q) → va_S A s.heap H locs → lv_has ls 3 [(0, .ref (ad 20)), (1, .int x1), (2, .int x2)] → W p l e ({ frames := 2, cells := 0, slots := 0, locals := 59 } : Room) s m args below meth c H locs 0 0 (MQ below (va_Qi (fun (r : Int32) (u : va_W) => o1 = r ∧ wF ty ad o2 = u) (kz_B D ty A) A) args s 0 0 A) (F0 m 11 ls [])) (q : dK) (x1 : Int32) (x2 : Int32) (H : Heap) (locs : List Loc) (ls : Array Slot) (h : zX1_anyHolds_s20_74 k11 q x1 x2 = some (o1, o2)) (hP : va_P D vwCl (wF ty ad q) H) (hD : va_D A (wF ty ad q)) (hS : va_S A s.heap H locs) (hl : lv_has ls 3 [(0, .ref (ad 20)), (1, .int x1), (2, .int x2)]) : W p l e ({ frames := 2, cells := 0, slots := 0, locals := 59 } : Room) s m args below meth c H locs 0 0 (MQ below (va_Qi (fun (r : Int32) (u : va_W) => o1 = r ∧ wF ty ad o2 = u) (kz_B D ty A) A) args s 0 0 A) (F0 m 74 ls []) := by
  have C0 := C
  obtain ⟨hx, hb, hr, hts, hown, hlocks, hml, hK, hN, hE, hA⟩ := C
  unfold zX1_anyHolds_s20_74 at h
  refine lv_iinc (v := x2 + 1) (lv' := [(2, .int (x2 + 1)), (0, .ref (ad 20)), (1, .int x1)]) hx hb dX1_anyHolds_74 hl (k := 2) rfl rfl (by decide) rfl (fun ls hl => ?_)
  refine lv_goto (tgt := 11) hx hb dX1_anyHolds_77 (by decide) ?_
  exact hk11 _ _ _ _ _ _ h hP hD hS (lv_sub hl [1, 2, 0] rfl)
set_option maxHeartbeats 4000000 in
set_option maxRecDepth 100000 in
theorem WX1_anyHolds_s20_11b {p : Program} {l : Launch} {e : Env} {s : State} {m : MethodId} {args : Array Value} {below : List Frame} {meth : Method} {c : Code} {D : va_G} {ty : Nat → ClassId} {eo : Nat → Nat} {A : Nat → Prop} {ad : Nat → Nat} {o1 : Int32} {o2 : dK} (C : dc_C p s m args meth c cX1_anyHolds (some .boolean) 3 RX1 wsX1_anyHolds D ty eo A) {k11 : dK → Int32 → Int32 → Option (Int32 × dK)} (hk11 : ∀ (q : dK) (x1 : Int32) (x2 : Int32) (H : Heap) (locs : List Loc) (ls : Array Slot), k11 q x1 x2 = some (o1, o2) → va_P D vwCl (wF ty ad q) H → va_D A (wF ty ad q) → va_S A s.heap H locs → lv_has ls 3 [(0, .ref (ad 20)), (1, .int x1), (2, .int x2)] → W p l e ({ frames := 2, cells := 0, slots := 0, locals := 59 } : Room) s m args below meth c H locs 0 0 (MQ below (va_Qi (fun (r : Int32) (u : va_W) => o1 = r ∧ wF ty ad o2 = u) (kz_B D ty A) A) args s 0 0 A) (F0 m 11 ls [])) (q : dK) (x1 : Int32) (x2 : Int32) (H : Heap) (locs : List Loc) (ls : Array Slot) (h : zX1_anyHolds_s20_11b k11 q x1 x2 = some (o1, o2)) (hP : va_P D vwCl (wF ty ad q) H) (hD : va_D A (wF ty ad q)) (hS : va_S A s.heap H locs) (hl : lv_has ls 3 [(0, .ref (ad 20)), (1, .int x1), (2, .int x2)]) : W p l e ({ frames := 2, cells := 0, slots := 0, locals := 59 } : Room) s m args below meth c H locs 0 0 (MQ below (va_Qi (fun (r : Int32) (u : va_W) => o1 = r ∧ wF ty ad o2 = u) (kz_B D ty A) A) args s 0 0 A) (F0 m 11 ls []) := by
  have C0 := C
  obtain ⟨hx, hb, hr, hts, hown, hlocks, hml, hK, hN, hE, hA⟩ := C
  unfold zX1_anyHolds_s20_11b at h
  refine lv_iload_n hx hb dX1_anyHolds_11 rfl (lv_at hl 2 rfl) ?_
  refine lv_aload_n hx hb dX1_anyHolds_12 rfl (lv_at hl 0 rfl) ?_
  refine va_get (D := D) (ci := 1) (v := dLw ad (q.1 20 2)) (C := RX1) (T := TX1) (N := 3) hx hb hts u9_wsX1_anyHolds_X1 hown hK hP 20 rfl rfl 2 (by decide) (hts (.fieldLink RX1 15 "TurnedFloors$Judge" "law" "LTurnedFloors$Text;") f9_wsX1_anyHolds_395) (fun _ h9 => h9) rfl dX1_anyHolds_13 ?_
  obtain ⟨g1, h⟩ := dG_some h
  refine kz_topv (if_neg (dlg_ne g1)) ?_
  obtain ⟨g2, h⟩ := dG_some h
  refine va_getN (D := D) (ci := 7) (v := .int ((dTx q (q.1 20 2)).1)) (C := RX7) (T := TX7) (N := 8) hx hb hts u9_wsX1_anyHolds_X7 hown hK hP _ (lw_o g2) rfl 6 (by decide) (hN.use (.fieldLinkNest "TurnedFloors$Judge" 65 "TurnedFloors$Text" "clauses" "I" "TurnedFloors") (by decide +kernel)) (fun _ h9 => h9) rfl dX1_anyHolds_16 ?_
  refine lv_icmp_ge (tgt := 80) hx hb dX1_anyHolds_19 (by decide) (fun c9 => ?_) (fun c9 => ?_)
  · rw [if_pos c9] at h
    refine lv_iconst (v := 0) hx hb dX1_anyHolds_80 (by decide) ?_
    cases h
    exact kz_zret hx hb hr hlocks rfl hP hK hD hS dX1_anyHolds_81 ⟨rfl, rfl⟩
  · rw [if_neg c9] at h
    refine lv_aload_n hx hb dX1_anyHolds_22 rfl (lv_at hl 0 rfl) ?_
    refine va_get (D := D) (ci := 1) (v := dLw ad (q.1 20 2)) (C := RX1) (T := TX1) (N := 3) hx hb hts u9_wsX1_anyHolds_X1 hown hK hP 20 rfl rfl 2 (by decide) (hts (.fieldLink RX1 15 "TurnedFloors$Judge" "law" "LTurnedFloors$Text;") f9_wsX1_anyHolds_395) (fun _ h9 => h9) rfl dX1_anyHolds_23 ?_
    obtain ⟨g3, h⟩ := dG_some h
    refine kz_topv (if_neg (dlg_ne g3)) ?_
    obtain ⟨g4, h⟩ := dG_some h
    refine va_getN (D := D) (ci := 7) (v := .ref (ad (63 + 7 * dLi (q.1 20 2) + 1))) (C := RX7) (T := TX7) (N := 8) hx hb hts u9_wsX1_anyHolds_X7 hown hK hP _ (lw_o g4) rfl 0 (by decide) (hN.use (.fieldLinkNest "TurnedFloors$Judge" 70 "TurnedFloors$Text" "kind" "[I" "TurnedFloors") (by decide +kernel)) (fun _ h9 => h9) rfl dX1_anyHolds_26 ?_
    refine lv_iload_n hx hb dX1_anyHolds_29 rfl (lv_at hl 2 rfl) ?_
    obtain ⟨g5, h⟩ := dG_some h
    obtain ⟨g6, h⟩ := dG_some h
    refine va_iald hx hb hK hP _ 0 (lw_a1 g5) rfl (dg_in g6) dX1_anyHolds_30 ?_
    obtain ⟨v7, ev7, h⟩ := dL_some h
    refine kz_topi v7 ev7 ?_
    refine lv_iload_n hx hb dX1_anyHolds_31 rfl (lv_at hl 1 rfl) ?_
    refine lv_icmp_ne (tgt := 74) hx hb dX1_anyHolds_32 (by decide) (fun c9 => ?_) (fun c9 => ?_)
    · rw [if_neg c9] at h
      exact WX1_anyHolds_s20_74 C0 hk11 _ _ _ _ _ _ h hP hD hS (lv_sub hl [0, 1, 2] rfl)
    · rw [if_pos c9] at h
      refine lv_aload_n hx hb dX1_anyHolds_35 rfl (lv_at hl 0 rfl) ?_
      refine va_get (D := D) (ci := 1) (v := .ref (ad 18)) (C := RX1) (T := TX1) (N := 3) hx hb hts u9_wsX1_anyHolds_X1 hown hK hP 20 rfl rfl 0 (by decide) (hts (.fieldLink RX1 19 "TurnedFloors$Judge" "machine" "LTurnedFloors$Machine;") f9_wsX1_anyHolds_396) (fun _ h9 => h9) rfl dX1_anyHolds_36 ?_
      refine lv_aload_n hx hb dX1_anyHolds_39 rfl (lv_at hl 0 rfl) ?_
      refine va_get (D := D) (ci := 1) (v := dLw ad (q.1 20 2)) (C := RX1) (T := TX1) (N := 3) hx hb hts u9_wsX1_anyHolds_X1 hown hK hP 20 rfl rfl 2 (by decide) (hts (.fieldLink RX1 15 "TurnedFloors$Judge" "law" "LTurnedFloors$Text;") f9_wsX1_anyHolds_395) (fun _ h9 => h9) rfl dX1_anyHolds_40 ?_
      obtain ⟨g8, h⟩ := dG_some h
      refine kz_topv (if_neg (dlg_ne g8)) ?_
      refine lv_aload_n hx hb dX1_anyHolds_43 rfl (lv_at hl 0 rfl) ?_
      refine va_get (D := D) (ci := 1) (v := dLw ad (q.1 20 2)) (C := RX1) (T := TX1) (N := 3) hx hb hts u9_wsX1_anyHolds_X1 hown hK hP 20 rfl rfl 2 (by decide) (hts (.fieldLink RX1 15 "TurnedFloors$Judge" "law" "LTurnedFloors$Text;") f9_wsX1_anyHolds_395) (fun _ h9 => h9) rfl dX1_anyHolds_44 ?_
      obtain ⟨g9, h⟩ := dG_some h
      refine kz_topv (if_neg (dlg_ne g9)) ?_
      obtain ⟨g10, h⟩ := dG_some h
      refine va_getN (D := D) (ci := 7) (v := .ref (ad (63 + 7 * dLi (q.1 20 2) + 4))) (C := RX7) (T := TX7) (N := 8) hx hb hts u9_wsX1_anyHolds_X7 hown hK hP _ (lw_o g10) rfl 3 (by decide) (hN.use (.fieldLinkNest "TurnedFloors$Judge" 73 "TurnedFloors$Text" "testFrom" "[I" "TurnedFloors") (by decide +kernel)) (fun _ h9 => h9) rfl dX1_anyHolds_47 ?_
      refine lv_iload_n hx hb dX1_anyHolds_50 rfl (lv_at hl 2 rfl) ?_
      obtain ⟨g11, h⟩ := dG_some h
      obtain ⟨g12, h⟩ := dG_some h
      refine va_iald hx hb hK hP _ 0 (lw_a4 g11) rfl (dg_in g12) dX1_anyHolds_51 ?_
      obtain ⟨v13, ev13, h⟩ := dL_some h
      refine kz_topi v13 ev13 ?_
      refine lv_aload_n hx hb dX1_anyHolds_52 rfl (lv_at hl 0 rfl) ?_
      refine va_get (D := D) (ci := 1) (v := dLw ad (q.1 20 2)) (C := RX1) (T := TX1) (N := 3) hx hb hts u9_wsX1_anyHolds_X1 hown hK hP 20 rfl rfl 2 (by decide) (hts (.fieldLink RX1 15 "TurnedFloors$Judge" "law" "LTurnedFloors$Text;") f9_wsX1_anyHolds_395) (fun _ h9 => h9) rfl dX1_anyHolds_53 ?_
      obtain ⟨g14, h⟩ := dG_some h
      refine kz_topv (if_neg (dlg_ne g14)) ?_
      obtain ⟨g15, h⟩ := dG_some h
      refine va_getN (D := D) (ci := 7) (v := .ref (ad (63 + 7 * dLi (q.1 20 2) + 5))) (C := RX7) (T := TX7) (N := 8) hx hb hts u9_wsX1_anyHolds_X7 hown hK hP _ (lw_o g15) rfl 4 (by decide) (hN.use (.fieldLinkNest "TurnedFloors$Judge" 76 "TurnedFloors$Text" "testTo" "[I" "TurnedFloors") (by decide +kernel)) (fun _ h9 => h9) rfl dX1_anyHolds_56 ?_
      refine lv_iload_n hx hb dX1_anyHolds_59 rfl (lv_at hl 2 rfl) ?_
      obtain ⟨g16, h⟩ := dG_some h
      obtain ⟨g17, h⟩ := dG_some h
      refine va_iald hx hb hK hP _ 0 (lw_a5 g16) rfl (dg_in g17) dX1_anyHolds_60 ?_
      obtain ⟨v18, ev18, h⟩ := dL_some h
      refine kz_topi v18 ev18 ?_
      refine lv_aload_n hx hb dX1_anyHolds_61 rfl (lv_at hl 0 rfl) ?_
      refine va_get (D := D) (ci := 1) (v := .ref (ad 21)) (C := RX1) (T := TX1) (N := 3) hx hb hts u9_wsX1_anyHolds_X1 hown hK hP 20 rfl rfl 1 (by decide) (hts (.fieldLink RX1 11 "TurnedFloors$Judge" "words" "[I") f9_wsX1_anyHolds_397) (fun _ h9 => h9) rfl dX1_anyHolds_62 ?_
      obtain ⟨r19, q21, h20, h⟩ := dB_some h
      refine dw_ki (va_runV (As := [.ref (ad (63 + 7 * dLi (q.1 20 2))), .int v13, .int v18, .ref (ad 21)]) (rest := []) ⟨hx, hb, hml, hown, hts⟩ (qX2_valueOf_s18_l_s21 l D ty eo _ ad q (q.1 20 2) v13 v18 r19 q21 h20) (cwV 4 hts gX1_anyHolds_X2_valueOf rfl rfl rfl (by decide +kernel) ⟨Nat.le_of_ble_eq_true rfl, Nat.le_of_ble_eq_true rfl⟩) (dw_preV (ci := 2) (q0 := 18) hK hN hE hP hD hS hA rfl rfl) rfl rfl hl.1 rfl (lv_room (Nat.le_of_ble_eq_true rfl)) dX1_anyHolds_65 ⟨Nat.le_of_ble_eq_true rfl, Nat.le_of_ble_eq_true rfl⟩) hD hS hA (fun r9 u9 H locs hw hp hd hs => ?_)
      clear hP hD hS
      obtain ⟨rfl, rfl⟩ := hw
      have hP := hp; have hD := hd; have hS := hs; clear hp hd hs
      refine lv_iconst (v := 1) hx hb dX1_anyHolds_68 (by decide) ?_
      refine lv_icmp_ne (tgt := 74) hx hb dX1_anyHolds_69 (by decide) (fun c9 => ?_) (fun c9 => ?_)
      · rw [if_neg c9] at h
        exact WX1_anyHolds_s20_74 C0 hk11 _ _ _ _ _ _ h hP hD hS (lv_sub hl [0, 1, 2] rfl)
      · rw [if_pos c9] at h
        refine lv_iconst (v := 1) hx hb dX1_anyHolds_72 (by decide) ?_
        cases h
        exact kz_zret hx hb hr hlocks rfl hP hK hD hS dX1_anyHolds_73 ⟨rfl, rfl⟩
set_option maxHeartbeats 4000000 in
set_option maxRecDepth 100000 in
theorem WX1_anyHolds_s20_11 {p : Program} {l : Launch} {e : Env} {s : State} {m : MethodId} {args : Array Value} {below : List Frame} {meth : Method} {c : Code} {D : va_G} {ty : Nat → ClassId} {eo : Nat → Nat} {A : Nat → Prop} {ad : Nat → Nat} {o1 : Int32} {o2 : dK} (C : dc_C p s m args meth c cX1_anyHolds (some .boolean) 3 RX1 wsX1_anyHolds D ty eo A)   (n : Nat) (q : dK) (x1 : Int32) (x2 : Int32) (H : Heap) (locs : List Loc) (ls : Array Slot) (h : zX1_anyHolds_s20_11  n q x1 x2 = some (o1, o2)) (hP : va_P D vwCl (wF ty ad q) H) (hD : va_D A (wF ty ad q)) (hS : va_S A s.heap H locs) (hl : lv_has ls 3 [(0, .ref (ad 20)), (1, .int x1), (2, .int x2)]) : W p l e ({ frames := 2, cells := 0, slots := 0, locals := 59 } : Room) s m args below meth c H locs 0 0 (MQ below (va_Qi (fun (r : Int32) (u : va_W) => o1 = r ∧ wF ty ad o2 = u) (kz_B D ty A) A) args s 0 0 A) (F0 m 11 ls []) := by
  exact dFix_W (F := fun k (a : dK × Int32 × Int32) => zX1_anyHolds_s20_11b  (fun q x1 x2 => k (q, x1, x2)) a.1 a.2.1 a.2.2) (o := (o1, o2)) (P := fun (a : dK × Int32 × Int32) H locs ls => va_P D vwCl (wF ty ad a.1) H ∧ va_D A (wF ty ad a.1) ∧ va_S A s.heap H locs ∧ lv_has ls 3 [(0, .ref (ad 20)), (1, .int a.2.1), (2, .int a.2.2)]) (G := fun H locs ls => W p l e ({ frames := 2, cells := 0, slots := 0, locals := 59 } : Room) s m args below meth c H locs 0 0 (MQ below (va_Qi (fun (r : Int32) (u : va_W) => o1 = r ∧ wF ty ad o2 = u) (kz_B D ty A) A) args s 0 0 A) (F0 m 11 ls []))
    (fun k hk a H locs ls h hp => WX1_anyHolds_s20_11b C  (fun q x1 x2 H locs ls h h1 h2 h3 h4 => hk (q, x1, x2) H locs ls h ⟨h1, h2, h3, h4⟩) a.1 a.2.1 a.2.2 H locs ls h hp.1 hp.2.1 hp.2.2.1 hp.2.2.2) n (q, x1, x2) H locs ls h ⟨hP, hD, hS, hl⟩
set_option maxHeartbeats 4000000 in
set_option maxRecDepth 100000 in
theorem qX1_anyHolds_s20 (l : Launch) (D : va_G) (ty : Nat → ClassId) (eo : Nat → Nat) (sz : Nat) (ad : Nat → Nat) (q : dK) (p1 : Int32) (o1 : Int32) (o2 : dK) (h : zX1_anyHolds_s20 q p1 = some (o1, o2)) : Met l yX1_anyHolds wsX1_anyHolds ({ frames := 2, cells := 0, slots := 0, locals := 59 } : Room) (va_Pc [.ref (ad 20), .int p1] (kz_pre D ty eo (wF ty ad q) sz)) (va_Qi (fun (r : Int32) (u : va_W) => o1 = r ∧ wF ty ad o2 = u) (kz_B D ty (va_A (wF ty ad q) sz)) (va_A (wF ty ad q) sz)) 0 0 (va_A (wF ty ad q) sz) := by
  refine Met.ofW (cc := cX1_anyHolds) (maxL := 3) (ret := (some .boolean)) (by decide) rfl ?_
  intro p e s m args below meth c s₁ B hml hv
  obtain ⟨rfl, hsz, hP, hK, hD0, hN, hE⟩ := hv
  have hx := B.exec
  have hb := B.bytes
  have hr := B.returns
  have hts := atoms_spec (ws := wsX1_anyHolds) B.pre
  have hown : s.vm.findClass RX1 = some m.cls := findClass_of_methodNamed B.named
  have hlocks := B.notSynchronized
  subst hsz
  have hD := hD0.self (sz := s.heap.size)
  generalize hAe : va_A (wF ty ad q) s.heap.size = A at hD hE ⊢
  have hA : ∀ q : Nat, s.heap.size ≤ q → A q := fun q h => by rw [← hAe]; exact Or.inr h
  clear hAe
  have hS : va_S A s.heap s.heap [] := va_S.rf
  have hl := lv_entry ([.ref (ad 20), .int p1]) (n := 3) (Nat.le_of_ble_eq_true rfl)
  rw [lg_entry_eq]
  generalize (lg_sl ([.ref (ad 20), .int p1]) ++ List.replicate (3 - (lg_sl ([.ref (ad 20), .int p1])).length) Slot.unset).toArray = ls at hl ⊢
  have hl : lv_has ls 3 [(0, .ref (ad 20)), (1, .int p1)] := hl
  have C : dc_C p s m _ meth c cX1_anyHolds (some .boolean) 3 RX1 wsX1_anyHolds D ty eo A := ⟨hx, hb, hr, hts, hown, hlocks, hml, hK, hN, hE, hA⟩
  unfold zX1_anyHolds_s20 at h
  refine lv_aload_n hx hb dX1_anyHolds_0 rfl (lv_at hl 0 rfl) ?_
  refine va_get (D := D) (ci := 1) (v := dLw ad (q.1 20 2)) (C := RX1) (T := TX1) (N := 3) hx hb hts u9_wsX1_anyHolds_X1 hown hK hP 20 rfl rfl 2 (by decide) (hts (.fieldLink RX1 15 "TurnedFloors$Judge" "law" "LTurnedFloors$Text;") f9_wsX1_anyHolds_395) (fun _ h9 => h9) rfl dX1_anyHolds_1 ?_
  by_cases c1 : (q.1 20 2) = 0
  · rw [if_pos c1] at h
    refine kz_topv (if_pos c1) ?_
    refine lv_ifnonnullN hx hb dX1_anyHolds_4 ?_
    refine lv_iconst (v := 0) hx hb dX1_anyHolds_7 (by decide) ?_
    cases h
    exact kz_zret hx hb hr hlocks rfl hP hK hD hS dX1_anyHolds_8 ⟨rfl, rfl⟩
  · rw [if_neg c1] at h
    refine kz_topv (if_neg c1) ?_
    refine lv_ifnonnull (tgt := 9) hx hb dX1_anyHolds_4 (by decide) ?_
    refine lv_iconst (v := 0) hx hb dX1_anyHolds_9 (by decide) ?_
    refine lv_istore_n (lv' := [(2, .int 0), (0, .ref (ad 20)), (1, .int p1)]) hx hb dX1_anyHolds_10 rfl hl (by decide) rfl (fun ls hl => ?_)
    exact WX1_anyHolds_s20_11 C  _ _ _ _ _ _ _ h hP hD hS (lv_sub hl [1, 2, 0] rfl)

set_option maxHeartbeats 4000000 in
set_option maxRecDepth 100000 in
theorem qX1_tips_s20_s2 (l : Launch) (D : va_G) (ty : Nat → ClassId) (eo : Nat → Nat) (sz : Nat) (ad : Nat → Nat) (q : dK) (p2 : Int32) (o1 : Int32) (o2 : dK) (h : zX1_tips_s20_s2 q p2 = some (o1, o2)) : Met l yX1_tips wsX1_tips ({ frames := 3, cells := 0, slots := 0, locals := 81 } : Room) (va_Pc [.ref (ad 20), .ref (ad 2), .int p2] (kz_pre D ty eo (wF ty ad q) sz)) (va_Qi (fun (r : Int32) (u : va_W) => o1 = r ∧ wF ty ad o2 = u) (kz_B D ty (va_A (wF ty ad q) sz)) (va_A (wF ty ad q) sz)) 0 0 (va_A (wF ty ad q) sz) := by
  refine Met.ofW (cc := cX1_tips) (maxL := 3) (ret := (some .boolean)) (by decide) rfl ?_
  intro p e s m args below meth c s₁ B hml hv
  obtain ⟨rfl, hsz, hP, hK, hD0, hN, hE⟩ := hv
  have hx := B.exec
  have hb := B.bytes
  have hr := B.returns
  have hts := atoms_spec (ws := wsX1_tips) B.pre
  have hown : s.vm.findClass RX1 = some m.cls := findClass_of_methodNamed B.named
  have hlocks := B.notSynchronized
  subst hsz
  have hD := hD0.self (sz := s.heap.size)
  generalize hAe : va_A (wF ty ad q) s.heap.size = A at hD hE ⊢
  have hA : ∀ q : Nat, s.heap.size ≤ q → A q := fun q h => by rw [← hAe]; exact Or.inr h
  clear hAe
  have hS : va_S A s.heap s.heap [] := va_S.rf
  have hl := lv_entry ([.ref (ad 20), .ref (ad 2), .int p2]) (n := 3) (Nat.le_of_ble_eq_true rfl)
  rw [lg_entry_eq]
  generalize (lg_sl ([.ref (ad 20), .ref (ad 2), .int p2]) ++ List.replicate (3 - (lg_sl ([.ref (ad 20), .ref (ad 2), .int p2])).length) Slot.unset).toArray = ls at hl ⊢
  have hl : lv_has ls 3 [(0, .ref (ad 20)), (1, .ref (ad 2)), (2, .int p2)] := hl
  have C : dc_C p s m _ meth c cX1_tips (some .boolean) 3 RX1 wsX1_tips D ty eo A := ⟨hx, hb, hr, hts, hown, hlocks, hml, hK, hN, hE, hA⟩
  unfold zX1_tips_s20_s2 at h
  refine lv_aload_n hx hb dX1_tips_0 rfl (lv_at hl 1 rfl) ?_
  refine lv_iload_n hx hb dX1_tips_1 rfl (lv_at hl 2 rfl) ?_
  obtain ⟨r1, q3, h2, h⟩ := dB_some h
  refine dw_ki (va_runV (As := [.int p2]) (rest := []) ⟨hx, hb, hml, hown, hts⟩ (qX8_isFloor_s2 l D ty eo _ ad q p2 r1 q3 h2) (cwV 1 hts gX1_tips_X8_isFloor rfl rfl rfl (by decide +kernel) ⟨Nat.le_of_ble_eq_true rfl, Nat.le_of_ble_eq_true rfl⟩) (dw_preV (ci := 8) (q0 := 2) hK hN hE hP hD hS hA rfl rfl) rfl rfl hl.1 rfl (lv_room (Nat.le_of_ble_eq_true rfl)) dX1_tips_2 ⟨Nat.le_of_ble_eq_true rfl, Nat.le_of_ble_eq_true rfl⟩) hD hS hA (fun r9 u9 H locs hw hp hd hs => ?_)
  clear hP hD hS
  obtain ⟨rfl, rfl⟩ := hw
  have hP := hp; have hD := hd; have hS := hs; clear hp hd hs
  refine lv_if_ne (tgt := 10) hx hb dX1_tips_5 (by decide) (fun c9 => ?_) (fun c9 => ?_)
  · rw [if_neg c9] at h
    refine lv_aload_n hx hb dX1_tips_10 rfl (lv_at hl 0 rfl) ?_
    refine lv_aload_n hx hb dX1_tips_11 rfl (lv_at hl 1 rfl) ?_
    refine va_getN (D := D) (ci := 8) (v := .int (q3.1 2 2)) (C := RX8) (T := TX8) (N := 5) hx hb hts u9_wsX1_tips_X8 hown hK hP 2 rfl rfl 2 (by decide) (hN.use (.fieldLinkNest "TurnedFloors$Judge" 40 "TurnedFloors$Tower" "floors" "I" "TurnedFloors") (by decide +kernel)) (fun _ h9 => h9) rfl dX1_tips_12 ?_
    refine lv_aload_n hx hb dX1_tips_15 rfl (lv_at hl 1 rfl) ?_
    refine va_getN (D := D) (ci := 8) (v := .int (q3.1 2 4)) (C := RX8) (T := TX8) (N := 5) hx hb hts u9_wsX1_tips_X8 hown hK hP 2 rfl rfl 4 (by decide) (hN.use (.fieldLinkNest "TurnedFloors$Judge" 44 "TurnedFloors$Tower" "year" "I" "TurnedFloors") (by decide +kernel)) (fun _ h9 => h9) rfl dX1_tips_16 ?_
    obtain ⟨q6, h5, h⟩ := dV_some h
    refine dw_kv (va_runV (As := [.int (q3.1 2 2), .int (q3.1 2 4)]) (rest := []) ⟨hx, hb, hml, hown, hts⟩ (qX1_setCommon_s20 l D ty eo _ ad q3 (q3.1 2 2) (q3.1 2 4) q6 h5) (cwV 2 hts gX1_tips_X1_setCommon rfl rfl rfl (by decide +kernel) ⟨Nat.le_of_ble_eq_true rfl, Nat.le_of_ble_eq_true rfl⟩) (dw_preV (ci := 1) (q0 := 20) hK hN hE hP hD hS hA rfl rfl) rfl rfl hl.1 rfl (lv_room (Nat.le_of_ble_eq_true rfl)) dX1_tips_19 ⟨Nat.le_of_ble_eq_true rfl, Nat.le_of_ble_eq_true rfl⟩) hD hS hA (fun u9 H locs hw hp hd hs => ?_)
    clear hP hD hS
    obtain rfl := hw
    have hP := hp; have hD := hd; have hS := hs; clear hp hd hs
    refine lv_aload_n hx hb dX1_tips_22 rfl (lv_at hl 0 rfl) ?_
    refine va_get (D := D) (ci := 1) (v := .ref (ad 21)) (C := RX1) (T := TX1) (N := 3) hx hb hts u9_wsX1_tips_X1 hown hK hP 20 rfl rfl 1 (by decide) (hts (.fieldLink RX1 11 "TurnedFloors$Judge" "words" "[I") f9_wsX1_tips_400) (fun _ h9 => h9) rfl dX1_tips_23 ?_
    refine lv_iconst (v := 0) hx hb dX1_tips_26 (by decide) ?_
    refine lv_iconst (v := (-1)) hx hb dX1_tips_27 (by decide) ?_
    refine va_iast hx hb hK hP hD hS 21 0 rfl rfl (by simp only [vp_in]; decide) dX1_tips_28 (fun H locs hp hd hs => ?_)
    obtain ⟨q7, eq7, h⟩ := dL_some h
    refine kz_re (w2 := wF ty ad q7) hp hd hs (by rw [(by decide +kernel : Int32.toNatClampNeg 0 = 0), ← eq7]; exact wF_a21 ty ad q6 0 (-1)) ?_
    clear hp hd hs hP hD hS
    intro hP hD hS
    refine lv_aload_n hx hb dX1_tips_29 rfl (lv_at hl 0 rfl) ?_
    refine va_get (D := D) (ci := 1) (v := .ref (ad 21)) (C := RX1) (T := TX1) (N := 3) hx hb hts u9_wsX1_tips_X1 hown hK hP 20 rfl rfl 1 (by decide) (hts (.fieldLink RX1 11 "TurnedFloors$Judge" "words" "[I") f9_wsX1_tips_400) (fun _ h9 => h9) rfl dX1_tips_30 ?_
    refine lv_iconst (v := 1) hx hb dX1_tips_33 (by decide) ?_
    refine lv_iconst (v := (-1)) hx hb dX1_tips_34 (by decide) ?_
    refine va_iast hx hb hK hP hD hS 21 0 rfl rfl (by simp only [vp_in]; decide) dX1_tips_35 (fun H locs hp hd hs => ?_)
    obtain ⟨q8, eq8, h⟩ := dL_some h
    refine kz_re (w2 := wF ty ad q8) hp hd hs (by rw [(by decide +kernel : Int32.toNatClampNeg 1 = 1), ← eq8]; exact wF_a21 ty ad q7 1 (-1)) ?_
    clear hp hd hs hP hD hS
    intro hP hD hS
    refine lv_aload_n hx hb dX1_tips_36 rfl (lv_at hl 0 rfl) ?_
    refine va_get (D := D) (ci := 1) (v := .ref (ad 21)) (C := RX1) (T := TX1) (N := 3) hx hb hts u9_wsX1_tips_X1 hown hK hP 20 rfl rfl 1 (by decide) (hts (.fieldLink RX1 11 "TurnedFloors$Judge" "words" "[I") f9_wsX1_tips_400) (fun _ h9 => h9) rfl dX1_tips_37 ?_
    refine lv_iconst (v := 2) hx hb dX1_tips_40 (by decide) ?_
    refine lv_iconst (v := (-1)) hx hb dX1_tips_41 (by decide) ?_
    refine va_iast hx hb hK hP hD hS 21 0 rfl rfl (by simp only [vp_in]; decide) dX1_tips_42 (fun H locs hp hd hs => ?_)
    obtain ⟨q9, eq9, h⟩ := dL_some h
    refine kz_re (w2 := wF ty ad q9) hp hd hs (by rw [(by decide +kernel : Int32.toNatClampNeg 2 = 2), ← eq9]; exact wF_a21 ty ad q8 2 (-1)) ?_
    clear hp hd hs hP hD hS
    intro hP hD hS
    refine lv_aload_n hx hb dX1_tips_43 rfl (lv_at hl 0 rfl) ?_
    refine va_get (D := D) (ci := 1) (v := .ref (ad 21)) (C := RX1) (T := TX1) (N := 3) hx hb hts u9_wsX1_tips_X1 hown hK hP 20 rfl rfl 1 (by decide) (hts (.fieldLink RX1 11 "TurnedFloors$Judge" "words" "[I") f9_wsX1_tips_400) (fun _ h9 => h9) rfl dX1_tips_44 ?_
    refine lv_iconst (v := 3) hx hb dX1_tips_47 (by decide) ?_
    refine lv_aload_n hx hb dX1_tips_48 rfl (lv_at hl 1 rfl) ?_
    refine va_getN (D := D) (ci := 8) (v := .ref (ad 4)) (C := RX8) (T := TX8) (N := 5) hx hb hts u9_wsX1_tips_X8 hown hK hP 2 rfl rfl 1 (by decide) (hN.use (.fieldLinkNest "TurnedFloors$Judge" 51 "TurnedFloors$Tower" "head" "[I" "TurnedFloors") (by decide +kernel)) (fun _ h9 => h9) rfl dX1_tips_49 ?_
    refine lv_iload_n hx hb dX1_tips_52 rfl (lv_at hl 2 rfl) ?_
    obtain ⟨g10, h⟩ := dG_some h
    refine va_iald hx hb hK hP 4 0 rfl rfl (dg_in g10) dX1_tips_53 ?_
    obtain ⟨v11, ev11, h⟩ := dL_some h
    refine kz_topi v11 ev11 ?_
    refine va_iast hx hb hK hP hD hS 21 0 rfl rfl (by simp only [vp_in]; decide) dX1_tips_54 (fun H locs hp hd hs => ?_)
    obtain ⟨q12, eq12, h⟩ := dL_some h
    refine kz_re (w2 := wF ty ad q12) hp hd hs (by rw [(by decide +kernel : Int32.toNatClampNeg 3 = 3), ← eq12]; exact wF_a21 ty ad q9 3 v11) ?_
    clear hp hd hs hP hD hS
    intro hP hD hS
    refine lv_aload_n hx hb dX1_tips_55 rfl (lv_at hl 0 rfl) ?_
    refine va_get (D := D) (ci := 1) (v := .ref (ad 21)) (C := RX1) (T := TX1) (N := 3) hx hb hts u9_wsX1_tips_X1 hown hK hP 20 rfl rfl 1 (by decide) (hts (.fieldLink RX1 11 "TurnedFloors$Judge" "words" "[I") f9_wsX1_tips_400) (fun _ h9 => h9) rfl dX1_tips_56 ?_
    refine lv_iconst (v := 5) hx hb dX1_tips_59 (by decide) ?_
    refine lv_aload_n hx hb dX1_tips_60 rfl (lv_at hl 1 rfl) ?_
    refine va_getN (D := D) (ci := 8) (v := .ref (ad 3)) (C := RX8) (T := TX8) (N := 5) hx hb hts u9_wsX1_tips_X8 hown hK hP 2 rfl rfl 0 (by decide) (hN.use (.fieldLinkNest "TurnedFloors$Judge" 54 "TurnedFloors$Tower" "rank" "[I" "TurnedFloors") (by decide +kernel)) (fun _ h9 => h9) rfl dX1_tips_61 ?_
    refine lv_iload_n hx hb dX1_tips_64 rfl (lv_at hl 2 rfl) ?_
    obtain ⟨g13, h⟩ := dG_some h
    refine va_iald hx hb hK hP 3 0 rfl rfl (dg_in g13) dX1_tips_65 ?_
    obtain ⟨v14, ev14, h⟩ := dL_some h
    refine kz_topi v14 ev14 ?_
    refine va_iast hx hb hK hP hD hS 21 0 rfl rfl (by simp only [vp_in]; decide) dX1_tips_66 (fun H locs hp hd hs => ?_)
    obtain ⟨q15, eq15, h⟩ := dL_some h
    refine kz_re (w2 := wF ty ad q15) hp hd hs (by rw [(by decide +kernel : Int32.toNatClampNeg 5 = 5), ← eq15]; exact wF_a21 ty ad q12 5 v14) ?_
    clear hp hd hs hP hD hS
    intro hP hD hS
    refine lv_aload_n hx hb dX1_tips_67 rfl (lv_at hl 0 rfl) ?_
    refine va_get (D := D) (ci := 1) (v := .ref (ad 21)) (C := RX1) (T := TX1) (N := 3) hx hb hts u9_wsX1_tips_X1 hown hK hP 20 rfl rfl 1 (by decide) (hts (.fieldLink RX1 11 "TurnedFloors$Judge" "words" "[I") f9_wsX1_tips_400) (fun _ h9 => h9) rfl dX1_tips_68 ?_
    refine lv_bipush (v := 6) hx hb dX1_tips_71 (by decide) ?_
    refine lv_iload_n hx hb dX1_tips_73 rfl (lv_at hl 2 rfl) ?_
    refine va_iast hx hb hK hP hD hS 21 0 rfl rfl (by simp only [vp_in]; decide) dX1_tips_74 (fun H locs hp hd hs => ?_)
    obtain ⟨q16, eq16, h⟩ := dL_some h
    refine kz_re (w2 := wF ty ad q16) hp hd hs (by rw [(by decide +kernel : Int32.toNatClampNeg 6 = 6), ← eq16]; exact wF_a21 ty ad q15 6 p2) ?_
    clear hp hd hs hP hD hS
    intro hP hD hS
    refine lv_aload_n hx hb dX1_tips_75 rfl (lv_at hl 0 rfl) ?_
    refine lv_iconst (v := 2) hx hb dX1_tips_76 (by decide) ?_
    obtain ⟨r17, q19, h18, h⟩ := dB_some h
    refine dw_ki (va_runV (As := [.int 2]) (rest := []) ⟨hx, hb, hml, hown, hts⟩ (qX1_anyHolds_s20 l D ty eo _ ad q16 2 r17 q19 h18) (cwV 1 hts gX1_tips_X1_anyHolds rfl rfl rfl (by decide +kernel) ⟨Nat.le_of_ble_eq_true rfl, Nat.le_of_ble_eq_true rfl⟩) (dw_preV (ci := 1) (q0 := 20) hK hN hE hP hD hS hA rfl rfl) rfl rfl hl.1 rfl (lv_room (Nat.le_of_ble_eq_true rfl)) dX1_tips_77 ⟨Nat.le_of_ble_eq_true rfl, Nat.le_of_ble_eq_true rfl⟩) hD hS hA (fun r9 u9 H locs hw hp hd hs => ?_)
    clear hP hD hS
    obtain ⟨rfl, rfl⟩ := hw
    have hP := hp; have hD := hd; have hS := hs; clear hp hd hs
    obtain ⟨g20, h⟩ := dG_some h
    cases h
    exact kz_zret hx hb hr hlocks (dbl_nar g20) hP hK hD hS dX1_tips_80 ⟨rfl, rfl⟩
  · rw [if_pos c9] at h
    refine lv_iconst (v := 0) hx hb dX1_tips_8 (by decide) ?_
    cases h
    exact kz_zret hx hb hr hlocks rfl hP hK hD hS dX1_tips_9 ⟨rfl, rfl⟩

set_option maxHeartbeats 4000000 in
set_option maxRecDepth 100000 in
theorem WX9_bit_9 {p : Program} {l : Launch} {e : Env} {s : State} {m : MethodId} {args : Array Value} {below : List Frame} {meth : Method} {c : Code} {D : va_G} {ty : Nat → ClassId} {eo : Nat → Nat} {A : Nat → Prop} {o1 : Int32} (C : dc_C p s m args meth c cX9_bit (some .int) 1 RX9 wsX9_bit D ty eo A)   (y0 : Int32) (H : Heap) (locs : List Loc) (ls : Array Slot) (h : zX9_bit_9  y0 = some o1) (hP : va_P D vwCl (([] : va_W)) H) (hD : va_D A (([] : va_W))) (hS : va_S A s.heap H locs) (hl : lv_has ls 1 []) : W p l e ({ frames := 0, cells := 0, slots := 0, locals := 0 } : Room) s m args below meth c H locs 0 0 (MQ below (va_Qi (fun (r : Int32) (u : va_W) => o1 = r ∧ ([] : va_W) = u) (kz_B D ty A) A) args s 0 0 A) (F0 m 9 ls [.int y0]) := by
  have C0 := C
  obtain ⟨hx, hb, hr, hts, hown, hlocks, hml, hK, hN, hE, hA⟩ := C
  unfold zX9_bit_9 at h
  cases h
  exact kz_iret hx hb hr hlocks hP hK hD hS dX9_bit_9 ⟨rfl, rfl⟩
set_option maxHeartbeats 4000000 in
set_option maxRecDepth 100000 in
theorem qX9_bit (l : Launch) (D : va_G) (ty : Nat → ClassId) (eo : Nat → Nat) (sz : Nat) (p1 : Int32) (o1 : Int32) (h : zX9_bit p1 = some o1) : Met l yX9_bit wsX9_bit ({ frames := 0, cells := 0, slots := 0, locals := 0 } : Room) (va_Pc [.int p1] (kz_pre D ty eo (([] : va_W)) sz)) (va_Qi (fun (r : Int32) (u : va_W) => o1 = r ∧ ([] : va_W) = u) (kz_B D ty (va_A (([] : va_W)) sz)) (va_A (([] : va_W)) sz)) 0 0 (va_A (([] : va_W)) sz) := by
  refine Met.ofW (cc := cX9_bit) (maxL := 1) (ret := (some .int)) (by decide) rfl ?_
  intro p e s m args below meth c s₁ B hml hv
  obtain ⟨rfl, hsz, hP, hK, hD0, hN, hE⟩ := hv
  have hx := B.exec
  have hb := B.bytes
  have hr := B.returns
  have hts := atoms_spec (ws := wsX9_bit) B.pre
  have hown : s.vm.findClass RX9 = some m.cls := findClass_of_methodNamed B.named
  have hlocks := B.notSynchronized
  subst hsz
  have hD := hD0.self (sz := s.heap.size)
  generalize hAe : va_A (([] : va_W)) s.heap.size = A at hD hE ⊢
  have hA : ∀ q : Nat, s.heap.size ≤ q → A q := fun q h => by rw [← hAe]; exact Or.inr h
  clear hAe
  have hS : va_S A s.heap s.heap [] := va_S.rf
  have hl := lv_entry ([.int p1]) (n := 1) (Nat.le_of_ble_eq_true rfl)
  rw [lg_entry_eq]
  generalize (lg_sl ([.int p1]) ++ List.replicate (1 - (lg_sl ([.int p1])).length) Slot.unset).toArray = ls at hl ⊢
  have hl : lv_has ls 1 [(0, .int p1)] := hl
  have C : dc_C p s m _ meth c cX9_bit (some .int) 1 RX9 wsX9_bit D ty eo A := ⟨hx, hb, hr, hts, hown, hlocks, hml, hK, hN, hE, hA⟩
  unfold zX9_bit at h
  refine lv_iload_n hx hb dX9_bit_0 rfl (lv_at hl 0 rfl) ?_
  refine lv_if_eq (tgt := 8) hx hb dX9_bit_1 (by decide) (fun c9 => ?_) (fun c9 => ?_)
  · rw [if_pos c9] at h
    refine lv_iconst (v := 0) hx hb dX9_bit_8 (by decide) ?_
    exact WX9_bit_9 C  _ _ _ _ h hP hD hS (lv_sub hl [] rfl)
  · rw [if_neg c9] at h
    refine lv_iconst (v := 1) hx hb dX9_bit_4 (by decide) ?_
    refine lv_goto (tgt := 9) hx hb dX9_bit_5 (by decide) ?_
    exact WX9_bit_9 C  _ _ _ _ h hP hD hS (lv_sub hl [] rfl)

set_option maxHeartbeats 4000000 in
set_option maxRecDepth 100000 in
theorem WX9_at_s0_41 {p : Program} {l : Launch} {e : Env} {s : State} {m : MethodId} {args : Array Value} {below : List Frame} {meth : Method} {c : Code} {D : va_G} {ty : Nat → ClassId} {eo : Nat → Nat} {A : Nat → Prop} {ad : Nat → Nat} {o1 : Int32} {o2 : dK} (C : dc_C p s m args meth c cX9_at (some .int) 3 RX9 wsX9_at D ty eo A)   (q : dK) (y0 : Int32) (H : Heap) (locs : List Loc) (ls : Array Slot) (h : zX9_at_s0_41  q y0 = some (o1, o2)) (hP : va_P D vwCl (wF ty ad q) H) (hD : va_D A (wF ty ad q)) (hS : va_S A s.heap H locs) (hl : lv_has ls 3 []) : W p l e ({ frames := 4, cells := 0, slots := 0, locals := 103 } : Room) s m args below meth c H locs 0 0 (MQ below (va_Qi (fun (r : Int32) (u : va_W) => o1 = r ∧ wF ty ad o2 = u) (kz_B D ty A) A) args s 0 0 A) (F0 m 41 ls [.int y0]) := by
  have C0 := C
  obtain ⟨hx, hb, hr, hts, hown, hlocks, hml, hK, hN, hE, hA⟩ := C
  unfold zX9_at_s0_41 at h
  cases h
  exact kz_iret hx hb hr hlocks hP hK hD hS dX9_at_41 ⟨rfl, rfl⟩
set_option maxHeartbeats 4000000 in
set_option maxRecDepth 100000 in
theorem qX9_at_s0 (l : Launch) (D : va_G) (ty : Nat → ClassId) (eo : Nat → Nat) (sz : Nat) (ad : Nat → Nat) (q : dK) (p1 : Int32) (p2 : Int32) (o1 : Int32) (o2 : dK) (h : zX9_at_s0 q p1 p2 = some (o1, o2)) : Met l yX9_at wsX9_at ({ frames := 4, cells := 0, slots := 0, locals := 103 } : Room) (va_Pc [.ref (ad 0), .int p1, .int p2] (kz_pre D ty eo (wF ty ad q) sz)) (va_Qi (fun (r : Int32) (u : va_W) => o1 = r ∧ wF ty ad o2 = u) (kz_B D ty (va_A (wF ty ad q) sz)) (va_A (wF ty ad q) sz)) 0 0 (va_A (wF ty ad q) sz) := by
  refine Met.ofW (cc := cX9_at) (maxL := 3) (ret := (some .int)) (by decide) rfl ?_
  intro p e s m args below meth c s₁ B hml hv
  obtain ⟨rfl, hsz, hP, hK, hD0, hN, hE⟩ := hv
  have hx := B.exec
  have hb := B.bytes
  have hr := B.returns
  have hts := atoms_spec (ws := wsX9_at) B.pre
  have hown : s.vm.findClass RX9 = some m.cls := findClass_of_methodNamed B.named
  have hlocks := B.notSynchronized
  subst hsz
  have hD := hD0.self (sz := s.heap.size)
  generalize hAe : va_A (wF ty ad q) s.heap.size = A at hD hE ⊢
  have hA : ∀ q : Nat, s.heap.size ≤ q → A q := fun q h => by rw [← hAe]; exact Or.inr h
  clear hAe
  have hS : va_S A s.heap s.heap [] := va_S.rf
  have hl := lv_entry ([.ref (ad 0), .int p1, .int p2]) (n := 3) (Nat.le_of_ble_eq_true rfl)
  rw [lg_entry_eq]
  generalize (lg_sl ([.ref (ad 0), .int p1, .int p2]) ++ List.replicate (3 - (lg_sl ([.ref (ad 0), .int p1, .int p2])).length) Slot.unset).toArray = ls at hl ⊢
  have hl : lv_has ls 3 [(0, .ref (ad 0)), (1, .int p1), (2, .int p2)] := hl
  have C : dc_C p s m _ meth c cX9_at (some .int) 3 RX9 wsX9_at D ty eo A := ⟨hx, hb, hr, hts, hown, hlocks, hml, hK, hN, hE, hA⟩
  unfold zX9_at_s0 at h
  refine lv_iload_n hx hb dX9_at_0 rfl (lv_at hl 2 rfl) ?_
  refine lv_iconst (v := 2) hx hb dX9_at_1 (by decide) ?_
  refine lv_icmp_ne (tgt := 42) hx hb dX9_at_2 (by decide) (fun c9 => ?_) (fun c9 => ?_)
  · rw [if_neg c9] at h
    refine lv_aload_n hx hb dX9_at_42 rfl (lv_at hl 0 rfl) ?_
    refine va_get (D := D) (ci := 9) (v := .ref (ad 1)) (C := RX9) (T := TX9) (N := 19) hx hb hts u9_wsX9_at_X9 hown hK hP 0 rfl rfl 0 (by decide) (hts (.fieldLink RX9 10 "TurnedFloors" "state" "LTurnedFloors$State;") f9_wsX9_at_403) (fun _ h9 => h9) rfl dX9_at_43 ?_
    refine va_getN (D := D) (ci := 6) (v := .ref (ad 2)) (C := RX6) (T := TX6) (N := 10) hx hb hts u9_wsX9_at_X6 hown hK hP 1 rfl rfl 0 (by decide) (hN.use (.fieldLinkNest "TurnedFloors" 122 "TurnedFloors$State" "tower" "LTurnedFloors$Tower;" "TurnedFloors") (by decide +kernel)) (fun _ h9 => h9) rfl dX9_at_46 ?_
    refine lv_iload_n hx hb dX9_at_49 rfl (lv_at hl 1 rfl) ?_
    refine lv_iload_n hx hb dX9_at_50 rfl (lv_at hl 2 rfl) ?_
    obtain ⟨r1, q3, h2, h⟩ := dB_some h
    refine dw_ki (va_runV (As := [.int p1, .int p2]) (rest := []) ⟨hx, hb, hml, hown, hts⟩ (qX8_tell_s2 l D ty eo _ ad q p1 p2 r1 q3 h2) (cwV 2 hts gX9_at_X8_tell rfl rfl rfl (by decide +kernel) ⟨Nat.le_of_ble_eq_true rfl, Nat.le_of_ble_eq_true rfl⟩) (dw_preV (ci := 8) (q0 := 2) hK hN hE hP hD hS hA rfl rfl) rfl rfl hl.1 rfl (lv_room (Nat.le_of_ble_eq_true rfl)) dX9_at_51 ⟨Nat.le_of_ble_eq_true rfl, Nat.le_of_ble_eq_true rfl⟩) hD hS hA (fun r9 u9 H locs hw hp hd hs => ?_)
    clear hP hD hS
    obtain ⟨rfl, rfl⟩ := hw
    have hP := hp; have hD := hd; have hS := hs; clear hp hd hs
    cases h
    exact kz_iret hx hb hr hlocks hP hK hD hS dX9_at_54 ⟨rfl, rfl⟩
  · rw [if_pos c9] at h
    refine lv_aload_n hx hb dX9_at_5 rfl (lv_at hl 0 rfl) ?_
    refine va_get (D := D) (ci := 9) (v := .ref (ad 1)) (C := RX9) (T := TX9) (N := 19) hx hb hts u9_wsX9_at_X9 hown hK hP 0 rfl rfl 0 (by decide) (hts (.fieldLink RX9 10 "TurnedFloors" "state" "LTurnedFloors$State;") f9_wsX9_at_403) (fun _ h9 => h9) rfl dX9_at_6 ?_
    refine va_getN (D := D) (ci := 6) (v := .ref (ad 2)) (C := RX6) (T := TX6) (N := 10) hx hb hts u9_wsX9_at_X6 hown hK hP 1 rfl rfl 0 (by decide) (hN.use (.fieldLinkNest "TurnedFloors" 122 "TurnedFloors$State" "tower" "LTurnedFloors$Tower;" "TurnedFloors") (by decide +kernel)) (fun _ h9 => h9) rfl dX9_at_9 ?_
    refine lv_iload_n hx hb dX9_at_12 rfl (lv_at hl 1 rfl) ?_
    obtain ⟨r4, q6, h5, h⟩ := dB_some h
    refine dw_ki (va_runV (As := [.int p1]) (rest := []) ⟨hx, hb, hml, hown, hts⟩ (qX8_isFloor_s2 l D ty eo _ ad q p1 r4 q6 h5) (cwV 1 hts gX9_at_X8_isFloor rfl rfl rfl (by decide +kernel) ⟨Nat.le_of_ble_eq_true rfl, Nat.le_of_ble_eq_true rfl⟩) (dw_preV (ci := 8) (q0 := 2) hK hN hE hP hD hS hA rfl rfl) rfl rfl hl.1 rfl (lv_room (Nat.le_of_ble_eq_true rfl)) dX9_at_13 ⟨Nat.le_of_ble_eq_true rfl, Nat.le_of_ble_eq_true rfl⟩) hD hS hA (fun r9 u9 H locs hw hp hd hs => ?_)
    clear hP hD hS
    obtain ⟨rfl, rfl⟩ := hw
    have hP := hp; have hD := hd; have hS := hs; clear hp hd hs
    refine lv_if_eq (tgt := 40) hx hb dX9_at_16 (by decide) (fun c9 => ?_) (fun c9 => ?_)
    · rw [if_pos c9] at h
      refine lv_iconst (v := (-1)) hx hb dX9_at_40 (by decide) ?_
      exact WX9_at_s0_41 C  _ _ _ _ _ h hP hD hS (lv_sub hl [] rfl)
    · rw [if_neg c9] at h
      refine lv_aload_n hx hb dX9_at_19 rfl (lv_at hl 0 rfl) ?_
      obtain ⟨q9, h8, h⟩ := dV_some h
      refine dw_kq (va_runV (As := []) (rest := []) ⟨hx, hb, hml, hown, hts⟩ (qX9_seated_s0 l D ty eo _ ad q6  q9 h8) (cwV 0 hts gX9_at_X9_seated rfl rfl rfl (by decide +kernel) ⟨Nat.le_of_ble_eq_true rfl, Nat.le_of_ble_eq_true rfl⟩) (dw_preV (ci := 9) (q0 := 0) hK hN hE hP hD hS hA rfl rfl) rfl rfl hl.1 rfl (lv_room (Nat.le_of_ble_eq_true rfl)) dX9_at_20 ⟨Nat.le_of_ble_eq_true rfl, Nat.le_of_ble_eq_true rfl⟩) hP hD hS hA (fun r9 u9 H locs hw hp hd hs => ?_)
      clear hP hD hS
      obtain ⟨rfl, rfl⟩ := hw
      have hP := hp; have hD := hd; have hS := hs; clear hp hd hs
      refine lv_aload_n hx hb dX9_at_23 rfl (lv_at hl 0 rfl) ?_
      refine va_get (D := D) (ci := 9) (v := .ref (ad 1)) (C := RX9) (T := TX9) (N := 19) hx hb hts u9_wsX9_at_X9 hown hK hP 0 rfl rfl 0 (by decide) (hts (.fieldLink RX9 10 "TurnedFloors" "state" "LTurnedFloors$State;") f9_wsX9_at_403) (fun _ h9 => h9) rfl dX9_at_24 ?_
      refine va_getN (D := D) (ci := 6) (v := .ref (ad 2)) (C := RX6) (T := TX6) (N := 10) hx hb hts u9_wsX9_at_X6 hown hK hP 1 rfl rfl 0 (by decide) (hN.use (.fieldLinkNest "TurnedFloors" 122 "TurnedFloors$State" "tower" "LTurnedFloors$Tower;" "TurnedFloors") (by decide +kernel)) (fun _ h9 => h9) rfl dX9_at_27 ?_
      refine lv_iload_n hx hb dX9_at_30 rfl (lv_at hl 1 rfl) ?_
      obtain ⟨r10, q12, h11, h⟩ := dB_some h
      refine dw_ki (va_runV (As := [.ref (ad 2), .int p1]) (rest := []) ⟨hx, hb, hml, hown, hts⟩ (qX1_tips_s20_s2 l D ty eo _ ad q9 p1 r10 q12 h11) (cwV 2 hts gX9_at_X1_tips rfl rfl rfl (by decide +kernel) ⟨Nat.le_of_ble_eq_true rfl, Nat.le_of_ble_eq_true rfl⟩) (dw_preV (ci := 1) (q0 := 20) hK hN hE hP hD hS hA rfl rfl) rfl rfl hl.1 rfl (lv_room (Nat.le_of_ble_eq_true rfl)) dX9_at_31 ⟨Nat.le_of_ble_eq_true rfl, Nat.le_of_ble_eq_true rfl⟩) hD hS hA (fun r9 u9 H locs hw hp hd hs => ?_)
      clear hP hD hS
      obtain ⟨rfl, rfl⟩ := hw
      have hP := hp; have hD := hd; have hS := hs; clear hp hd hs
      obtain ⟨r13, h14, h⟩ := dV_some h
      refine dw_ks (va_runS (As := [.int r10]) (rest := []) ⟨hx, hb, hml, hown, hts⟩ (qX9_bit l D ty eo _ r10 _ h14) (va_cwS 1 hts gX9_at_X9_bit rfl rfl rfl (by decide +kernel) ⟨Nat.le_of_ble_eq_true rfl, Nat.le_of_ble_eq_true rfl⟩) (kz_preS hK hN hE hP hD hS hA [] (by decide) rfl) rfl rfl hl.1 rfl (lv_room (Nat.le_of_ble_eq_true rfl)) dX9_at_34 ⟨Nat.le_of_ble_eq_true rfl, Nat.le_of_ble_eq_true rfl⟩) hP hD hS hA (fun _ _ h9 => h9.2.symm) (fun r9 u9 H locs hw hp hd hs => ?_)
      obtain ⟨rfl, -⟩ := hw
      clear hP hD hS
      have hP := hp; have hD := hd; have hS := hs; clear hp hd hs
      refine lv_goto (tgt := 41) hx hb dX9_at_37 (by decide) ?_
      exact WX9_at_s0_41 C  _ _ _ _ _ h hP hD hS (lv_sub hl [] rfl)

set_option maxHeartbeats 4000000 in
set_option maxRecDepth 100000 in
theorem qX1_setGrip_s20 (l : Launch) (D : va_G) (ty : Nat → ClassId) (eo : Nat → Nat) (sz : Nat) (ad : Nat → Nat) (q : dK) (p1 : Int32) (p2 : Int32) (p3 : Int32) (p4 : Int32) (o2 : dK) (h : zX1_setGrip_s20 q p1 p2 p3 p4 = some o2) : Met l yX1_setGrip wsX1_setGrip ({ frames := 0, cells := 0, slots := 0, locals := 0 } : Room) (va_Pc [.ref (ad 20), .int p1, .int p2, .int p3, .int p4] (kz_pre D ty eo (wF ty ad q) sz)) (va_Qv (fun (u : va_W) => wF ty ad o2 = u) (kz_B D ty (va_A (wF ty ad q) sz)) (va_A (wF ty ad q) sz)) 0 0 (va_A (wF ty ad q) sz) := by
  refine Met.ofW (cc := cX1_setGrip) (maxL := 5) (ret := none) (by decide) rfl ?_
  intro p e s m args below meth c s₁ B hml hv
  obtain ⟨rfl, hsz, hP, hK, hD0, hN, hE⟩ := hv
  have hx := B.exec
  have hb := B.bytes
  have hr := B.returns
  have hts := atoms_spec (ws := wsX1_setGrip) B.pre
  have hown : s.vm.findClass RX1 = some m.cls := findClass_of_methodNamed B.named
  have hlocks := B.notSynchronized
  subst hsz
  have hD := hD0.self (sz := s.heap.size)
  generalize hAe : va_A (wF ty ad q) s.heap.size = A at hD hE ⊢
  have hA : ∀ q : Nat, s.heap.size ≤ q → A q := fun q h => by rw [← hAe]; exact Or.inr h
  clear hAe
  have hS : va_S A s.heap s.heap [] := va_S.rf
  have hl := lv_entry ([.ref (ad 20), .int p1, .int p2, .int p3, .int p4]) (n := 5) (Nat.le_of_ble_eq_true rfl)
  rw [lg_entry_eq]
  generalize (lg_sl ([.ref (ad 20), .int p1, .int p2, .int p3, .int p4]) ++ List.replicate (5 - (lg_sl ([.ref (ad 20), .int p1, .int p2, .int p3, .int p4])).length) Slot.unset).toArray = ls at hl ⊢
  have hl : lv_has ls 5 [(0, .ref (ad 20)), (1, .int p1), (2, .int p2), (3, .int p3), (4, .int p4)] := hl
  have C : dc_C p s m _ meth c cX1_setGrip none 5 RX1 wsX1_setGrip D ty eo A := ⟨hx, hb, hr, hts, hown, hlocks, hml, hK, hN, hE, hA⟩
  unfold zX1_setGrip_s20 at h
  refine lv_aload_n hx hb dX1_setGrip_0 rfl (lv_at hl 0 rfl) ?_
  refine va_get (D := D) (ci := 1) (v := .ref (ad 21)) (C := RX1) (T := TX1) (N := 3) hx hb hts u9_wsX1_setGrip_X1 hown hK hP 20 rfl rfl 1 (by decide) (hts (.fieldLink RX1 11 "TurnedFloors$Judge" "words" "[I") f9_wsX1_setGrip_405) (fun _ h9 => h9) rfl dX1_setGrip_1 ?_
  refine lv_iconst (v := 0) hx hb dX1_setGrip_4 (by decide) ?_
  refine lv_iload_n hx hb dX1_setGrip_5 rfl (lv_at hl 1 rfl) ?_
  refine va_iast hx hb hK hP hD hS 21 0 rfl rfl (by simp only [vp_in]; decide) dX1_setGrip_6 (fun H locs hp hd hs => ?_)
  obtain ⟨q1, eq1, h⟩ := dL_some h
  refine kz_re (w2 := wF ty ad q1) hp hd hs (by rw [(by decide +kernel : Int32.toNatClampNeg 0 = 0), ← eq1]; exact wF_a21 ty ad q 0 p1) ?_
  clear hp hd hs hP hD hS
  intro hP hD hS
  refine lv_aload_n hx hb dX1_setGrip_7 rfl (lv_at hl 0 rfl) ?_
  refine va_get (D := D) (ci := 1) (v := .ref (ad 21)) (C := RX1) (T := TX1) (N := 3) hx hb hts u9_wsX1_setGrip_X1 hown hK hP 20 rfl rfl 1 (by decide) (hts (.fieldLink RX1 11 "TurnedFloors$Judge" "words" "[I") f9_wsX1_setGrip_405) (fun _ h9 => h9) rfl dX1_setGrip_8 ?_
  refine lv_iconst (v := 1) hx hb dX1_setGrip_11 (by decide) ?_
  refine lv_iload_n hx hb dX1_setGrip_12 rfl (lv_at hl 2 rfl) ?_
  refine va_iast hx hb hK hP hD hS 21 0 rfl rfl (by simp only [vp_in]; decide) dX1_setGrip_13 (fun H locs hp hd hs => ?_)
  obtain ⟨q2, eq2, h⟩ := dL_some h
  refine kz_re (w2 := wF ty ad q2) hp hd hs (by rw [(by decide +kernel : Int32.toNatClampNeg 1 = 1), ← eq2]; exact wF_a21 ty ad q1 1 p2) ?_
  clear hp hd hs hP hD hS
  intro hP hD hS
  refine lv_aload_n hx hb dX1_setGrip_14 rfl (lv_at hl 0 rfl) ?_
  refine va_get (D := D) (ci := 1) (v := .ref (ad 21)) (C := RX1) (T := TX1) (N := 3) hx hb hts u9_wsX1_setGrip_X1 hown hK hP 20 rfl rfl 1 (by decide) (hts (.fieldLink RX1 11 "TurnedFloors$Judge" "words" "[I") f9_wsX1_setGrip_405) (fun _ h9 => h9) rfl dX1_setGrip_15 ?_
  refine lv_iconst (v := 2) hx hb dX1_setGrip_18 (by decide) ?_
  refine lv_iload_n hx hb dX1_setGrip_19 rfl (lv_at hl 3 rfl) ?_
  refine va_iast hx hb hK hP hD hS 21 0 rfl rfl (by simp only [vp_in]; decide) dX1_setGrip_20 (fun H locs hp hd hs => ?_)
  obtain ⟨q3, eq3, h⟩ := dL_some h
  refine kz_re (w2 := wF ty ad q3) hp hd hs (by rw [(by decide +kernel : Int32.toNatClampNeg 2 = 2), ← eq3]; exact wF_a21 ty ad q2 2 p3) ?_
  clear hp hd hs hP hD hS
  intro hP hD hS
  refine lv_aload_n hx hb dX1_setGrip_21 rfl (lv_at hl 0 rfl) ?_
  refine va_get (D := D) (ci := 1) (v := .ref (ad 21)) (C := RX1) (T := TX1) (N := 3) hx hb hts u9_wsX1_setGrip_X1 hown hK hP 20 rfl rfl 1 (by decide) (hts (.fieldLink RX1 11 "TurnedFloors$Judge" "words" "[I") f9_wsX1_setGrip_405) (fun _ h9 => h9) rfl dX1_setGrip_22 ?_
  refine lv_iconst (v := 3) hx hb dX1_setGrip_25 (by decide) ?_
  refine lv_iload hx hb dX1_setGrip_26 (lv_at hl 4 rfl) ?_
  refine va_iast hx hb hK hP hD hS 21 0 rfl rfl (by simp only [vp_in]; decide) dX1_setGrip_28 (fun H locs hp hd hs => ?_)
  obtain ⟨q4, eq4, h⟩ := dL_some h
  refine kz_re (w2 := wF ty ad q4) hp hd hs (by rw [(by decide +kernel : Int32.toNatClampNeg 3 = 3), ← eq4]; exact wF_a21 ty ad q3 3 p4) ?_
  clear hp hd hs hP hD hS
  intro hP hD hS
  refine lv_aload_n hx hb dX1_setGrip_29 rfl (lv_at hl 0 rfl) ?_
  refine va_get (D := D) (ci := 1) (v := .ref (ad 21)) (C := RX1) (T := TX1) (N := 3) hx hb hts u9_wsX1_setGrip_X1 hown hK hP 20 rfl rfl 1 (by decide) (hts (.fieldLink RX1 11 "TurnedFloors$Judge" "words" "[I") f9_wsX1_setGrip_405) (fun _ h9 => h9) rfl dX1_setGrip_30 ?_
  refine lv_iconst (v := 5) hx hb dX1_setGrip_33 (by decide) ?_
  refine lv_iconst (v := (-1)) hx hb dX1_setGrip_34 (by decide) ?_
  refine va_iast hx hb hK hP hD hS 21 0 rfl rfl (by simp only [vp_in]; decide) dX1_setGrip_35 (fun H locs hp hd hs => ?_)
  obtain ⟨q5, eq5, h⟩ := dL_some h
  refine kz_re (w2 := wF ty ad q5) hp hd hs (by rw [(by decide +kernel : Int32.toNatClampNeg 5 = 5), ← eq5]; exact wF_a21 ty ad q4 5 (-1)) ?_
  clear hp hd hs hP hD hS
  intro hP hD hS
  refine lv_aload_n hx hb dX1_setGrip_36 rfl (lv_at hl 0 rfl) ?_
  refine va_get (D := D) (ci := 1) (v := .ref (ad 21)) (C := RX1) (T := TX1) (N := 3) hx hb hts u9_wsX1_setGrip_X1 hown hK hP 20 rfl rfl 1 (by decide) (hts (.fieldLink RX1 11 "TurnedFloors$Judge" "words" "[I") f9_wsX1_setGrip_405) (fun _ h9 => h9) rfl dX1_setGrip_37 ?_
  refine lv_bipush (v := 6) hx hb dX1_setGrip_40 (by decide) ?_
  refine lv_iconst (v := (-1)) hx hb dX1_setGrip_42 (by decide) ?_
  refine va_iast hx hb hK hP hD hS 21 0 rfl rfl (by simp only [vp_in]; decide) dX1_setGrip_43 (fun H locs hp hd hs => ?_)
  obtain ⟨q6, eq6, h⟩ := dL_some h
  refine kz_re (w2 := wF ty ad q6) hp hd hs (by rw [(by decide +kernel : Int32.toNatClampNeg 6 = 6), ← eq6]; exact wF_a21 ty ad q5 6 (-1)) ?_
  clear hp hd hs hP hD hS
  intro hP hD hS
  cases h
  exact kz_vret hx hb hr hlocks hP hK hD hS dX1_setGrip_44 rfl

set_option maxHeartbeats 4000000 in
set_option maxRecDepth 100000 in
theorem qX1_setTurn_s20_s2 (l : Launch) (D : va_G) (ty : Nat → ClassId) (eo : Nat → Nat) (sz : Nat) (ad : Nat → Nat) (q : dK) (p2 : Int32) (o2 : dK) (h : zX1_setTurn_s20_s2 q p2 = some o2) : Met l yX1_setTurn wsX1_setTurn ({ frames := 2, cells := 0, slots := 0, locals := 43 } : Room) (va_Pc [.ref (ad 20), .ref (ad 2), .int p2] (kz_pre D ty eo (wF ty ad q) sz)) (va_Qv (fun (u : va_W) => wF ty ad o2 = u) (kz_B D ty (va_A (wF ty ad q) sz)) (va_A (wF ty ad q) sz)) 0 0 (va_A (wF ty ad q) sz) := by
  refine Met.ofW (cc := cX1_setTurn) (maxL := 3) (ret := none) (by decide) rfl ?_
  intro p e s m args below meth c s₁ B hml hv
  obtain ⟨rfl, hsz, hP, hK, hD0, hN, hE⟩ := hv
  have hx := B.exec
  have hb := B.bytes
  have hr := B.returns
  have hts := atoms_spec (ws := wsX1_setTurn) B.pre
  have hown : s.vm.findClass RX1 = some m.cls := findClass_of_methodNamed B.named
  have hlocks := B.notSynchronized
  subst hsz
  have hD := hD0.self (sz := s.heap.size)
  generalize hAe : va_A (wF ty ad q) s.heap.size = A at hD hE ⊢
  have hA : ∀ q : Nat, s.heap.size ≤ q → A q := fun q h => by rw [← hAe]; exact Or.inr h
  clear hAe
  have hS : va_S A s.heap s.heap [] := va_S.rf
  have hl := lv_entry ([.ref (ad 20), .ref (ad 2), .int p2]) (n := 3) (Nat.le_of_ble_eq_true rfl)
  rw [lg_entry_eq]
  generalize (lg_sl ([.ref (ad 20), .ref (ad 2), .int p2]) ++ List.replicate (3 - (lg_sl ([.ref (ad 20), .ref (ad 2), .int p2])).length) Slot.unset).toArray = ls at hl ⊢
  have hl : lv_has ls 3 [(0, .ref (ad 20)), (1, .ref (ad 2)), (2, .int p2)] := hl
  have C : dc_C p s m _ meth c cX1_setTurn none 3 RX1 wsX1_setTurn D ty eo A := ⟨hx, hb, hr, hts, hown, hlocks, hml, hK, hN, hE, hA⟩
  unfold zX1_setTurn_s20_s2 at h
  refine lv_aload_n hx hb dX1_setTurn_0 rfl (lv_at hl 0 rfl) ?_
  refine lv_aload_n hx hb dX1_setTurn_1 rfl (lv_at hl 1 rfl) ?_
  refine va_getN (D := D) (ci := 8) (v := .int (q.1 2 2)) (C := RX8) (T := TX8) (N := 5) hx hb hts u9_wsX1_setTurn_X8 hown hK hP 2 rfl rfl 2 (by decide) (hN.use (.fieldLinkNest "TurnedFloors$Judge" 40 "TurnedFloors$Tower" "floors" "I" "TurnedFloors") (by decide +kernel)) (fun _ h9 => h9) rfl dX1_setTurn_2 ?_
  refine lv_aload_n hx hb dX1_setTurn_5 rfl (lv_at hl 1 rfl) ?_
  refine va_getN (D := D) (ci := 8) (v := .int (q.1 2 4)) (C := RX8) (T := TX8) (N := 5) hx hb hts u9_wsX1_setTurn_X8 hown hK hP 2 rfl rfl 4 (by decide) (hN.use (.fieldLinkNest "TurnedFloors$Judge" 44 "TurnedFloors$Tower" "year" "I" "TurnedFloors") (by decide +kernel)) (fun _ h9 => h9) rfl dX1_setTurn_6 ?_
  obtain ⟨q3, h2, h⟩ := dV_some h
  refine dw_kv (va_runV (As := [.int (q.1 2 2), .int (q.1 2 4)]) (rest := []) ⟨hx, hb, hml, hown, hts⟩ (qX1_setCommon_s20 l D ty eo _ ad q (q.1 2 2) (q.1 2 4) q3 h2) (cwV 2 hts gX1_setTurn_X1_setCommon rfl rfl rfl (by decide +kernel) ⟨Nat.le_of_ble_eq_true rfl, Nat.le_of_ble_eq_true rfl⟩) (dw_preV (ci := 1) (q0 := 20) hK hN hE hP hD hS hA rfl rfl) rfl rfl hl.1 rfl (lv_room (Nat.le_of_ble_eq_true rfl)) dX1_setTurn_9 ⟨Nat.le_of_ble_eq_true rfl, Nat.le_of_ble_eq_true rfl⟩) hD hS hA (fun u9 H locs hw hp hd hs => ?_)
  clear hP hD hS
  obtain rfl := hw
  have hP := hp; have hD := hd; have hS := hs; clear hp hd hs
  refine lv_aload_n hx hb dX1_setTurn_12 rfl (lv_at hl 0 rfl) ?_
  refine lv_iload_n hx hb dX1_setTurn_13 rfl (lv_at hl 2 rfl) ?_
  refine lv_aload_n hx hb dX1_setTurn_14 rfl (lv_at hl 1 rfl) ?_
  refine lv_iconst (v := 0) hx hb dX1_setTurn_15 (by decide) ?_
  refine lv_iconst (v := 0) hx hb dX1_setTurn_16 (by decide) ?_
  obtain ⟨r4, q6, h5, h⟩ := dB_some h
  refine dw_ki (va_runV (As := [.int 0, .int 0]) (rest := [.int p2, .ref (ad 20)]) ⟨hx, hb, hml, hown, hts⟩ (qX8_tell_s2 l D ty eo _ ad q3 0 0 r4 q6 h5) (cwV 2 hts gX1_setTurn_X8_tell rfl rfl rfl (by decide +kernel) ⟨Nat.le_of_ble_eq_true rfl, Nat.le_of_ble_eq_true rfl⟩) (dw_preV (ci := 8) (q0 := 2) hK hN hE hP hD hS hA rfl rfl) rfl rfl hl.1 rfl (lv_room (Nat.le_of_ble_eq_true rfl)) dX1_setTurn_17 ⟨Nat.le_of_ble_eq_true rfl, Nat.le_of_ble_eq_true rfl⟩) hD hS hA (fun r9 u9 H locs hw hp hd hs => ?_)
  clear hP hD hS
  obtain ⟨rfl, rfl⟩ := hw
  have hP := hp; have hD := hd; have hS := hs; clear hp hd hs
  refine lv_aload_n hx hb dX1_setTurn_20 rfl (lv_at hl 1 rfl) ?_
  refine lv_iload_n hx hb dX1_setTurn_21 rfl (lv_at hl 2 rfl) ?_
  refine lv_iconst (v := 0) hx hb dX1_setTurn_22 (by decide) ?_
  obtain ⟨r7, q9, h8, h⟩ := dB_some h
  refine dw_ki (va_runV (As := [.int p2, .int 0]) (rest := [.int r4, .int p2, .ref (ad 20)]) ⟨hx, hb, hml, hown, hts⟩ (qX8_tell_s2 l D ty eo _ ad q6 p2 0 r7 q9 h8) (cwV 2 hts gX1_setTurn_X8_tell rfl rfl rfl (by decide +kernel) ⟨Nat.le_of_ble_eq_true rfl, Nat.le_of_ble_eq_true rfl⟩) (dw_preV (ci := 8) (q0 := 2) hK hN hE hP hD hS hA rfl rfl) rfl rfl hl.1 rfl (lv_room (Nat.le_of_ble_eq_true rfl)) dX1_setTurn_23 ⟨Nat.le_of_ble_eq_true rfl, Nat.le_of_ble_eq_true rfl⟩) hD hS hA (fun r9 u9 H locs hw hp hd hs => ?_)
  clear hP hD hS
  obtain ⟨rfl, rfl⟩ := hw
  have hP := hp; have hD := hd; have hS := hs; clear hp hd hs
  refine lv_aload_n hx hb dX1_setTurn_26 rfl (lv_at hl 1 rfl) ?_
  refine lv_iconst (v := 0) hx hb dX1_setTurn_27 (by decide) ?_
  refine lv_iconst (v := 1) hx hb dX1_setTurn_28 (by decide) ?_
  obtain ⟨r10, q12, h11, h⟩ := dB_some h
  refine dw_ki (va_runV (As := [.int 0, .int 1]) (rest := [.int r7, .int r4, .int p2, .ref (ad 20)]) ⟨hx, hb, hml, hown, hts⟩ (qX8_tell_s2 l D ty eo _ ad q9 0 1 r10 q12 h11) (cwV 2 hts gX1_setTurn_X8_tell rfl rfl rfl (by decide +kernel) ⟨Nat.le_of_ble_eq_true rfl, Nat.le_of_ble_eq_true rfl⟩) (dw_preV (ci := 8) (q0 := 2) hK hN hE hP hD hS hA rfl rfl) rfl rfl hl.1 rfl (lv_room (Nat.le_of_ble_eq_true rfl)) dX1_setTurn_29 ⟨Nat.le_of_ble_eq_true rfl, Nat.le_of_ble_eq_true rfl⟩) hD hS hA (fun r9 u9 H locs hw hp hd hs => ?_)
  clear hP hD hS
  obtain ⟨rfl, rfl⟩ := hw
  have hP := hp; have hD := hd; have hS := hs; clear hp hd hs
  obtain ⟨q15, h14, h⟩ := dV_some h
  refine dw_kv (va_runV (As := [.int p2, .int r4, .int r7, .int r10]) (rest := []) ⟨hx, hb, hml, hown, hts⟩ (qX1_setGrip_s20 l D ty eo _ ad q12 p2 r4 r7 r10 q15 h14) (cwV 4 hts gX1_setTurn_X1_setGrip rfl rfl rfl (by decide +kernel) ⟨Nat.le_of_ble_eq_true rfl, Nat.le_of_ble_eq_true rfl⟩) (dw_preV (ci := 1) (q0 := 20) hK hN hE hP hD hS hA rfl rfl) rfl rfl hl.1 rfl (lv_room (Nat.le_of_ble_eq_true rfl)) dX1_setTurn_32 ⟨Nat.le_of_ble_eq_true rfl, Nat.le_of_ble_eq_true rfl⟩) hD hS hA (fun u9 H locs hw hp hd hs => ?_)
  clear hP hD hS
  obtain rfl := hw
  have hP := hp; have hD := hd; have hS := hs; clear hp hd hs
  cases h
  exact kz_vret hx hb hr hlocks hP hK hD hS dX1_setTurn_35 rfl

set_option maxHeartbeats 4000000 in
set_option maxRecDepth 100000 in
theorem qX1_bars_s20_s2 (l : Launch) (D : va_G) (ty : Nat → ClassId) (eo : Nat → Nat) (sz : Nat) (ad : Nat → Nat) (q : dK) (p2 : Int32) (o1 : Int32) (o2 : dK) (h : zX1_bars_s20_s2 q p2 = some (o1, o2)) : Met l yX1_bars wsX1_bars ({ frames := 3, cells := 0, slots := 0, locals := 81 } : Room) (va_Pc [.ref (ad 20), .ref (ad 2), .int p2] (kz_pre D ty eo (wF ty ad q) sz)) (va_Qi (fun (r : Int32) (u : va_W) => o1 = r ∧ wF ty ad o2 = u) (kz_B D ty (va_A (wF ty ad q) sz)) (va_A (wF ty ad q) sz)) 0 0 (va_A (wF ty ad q) sz) := by
  refine Met.ofW (cc := cX1_bars) (maxL := 3) (ret := (some .boolean)) (by decide) rfl ?_
  intro p e s m args below meth c s₁ B hml hv
  obtain ⟨rfl, hsz, hP, hK, hD0, hN, hE⟩ := hv
  have hx := B.exec
  have hb := B.bytes
  have hr := B.returns
  have hts := atoms_spec (ws := wsX1_bars) B.pre
  have hown : s.vm.findClass RX1 = some m.cls := findClass_of_methodNamed B.named
  have hlocks := B.notSynchronized
  subst hsz
  have hD := hD0.self (sz := s.heap.size)
  generalize hAe : va_A (wF ty ad q) s.heap.size = A at hD hE ⊢
  have hA : ∀ q : Nat, s.heap.size ≤ q → A q := fun q h => by rw [← hAe]; exact Or.inr h
  clear hAe
  have hS : va_S A s.heap s.heap [] := va_S.rf
  have hl := lv_entry ([.ref (ad 20), .ref (ad 2), .int p2]) (n := 3) (Nat.le_of_ble_eq_true rfl)
  rw [lg_entry_eq]
  generalize (lg_sl ([.ref (ad 20), .ref (ad 2), .int p2]) ++ List.replicate (3 - (lg_sl ([.ref (ad 20), .ref (ad 2), .int p2])).length) Slot.unset).toArray = ls at hl ⊢
  have hl : lv_has ls 3 [(0, .ref (ad 20)), (1, .ref (ad 2)), (2, .int p2)] := hl
  have C : dc_C p s m _ meth c cX1_bars (some .boolean) 3 RX1 wsX1_bars D ty eo A := ⟨hx, hb, hr, hts, hown, hlocks, hml, hK, hN, hE, hA⟩
  unfold zX1_bars_s20_s2 at h
  refine lv_aload_n hx hb dX1_bars_0 rfl (lv_at hl 0 rfl) ?_
  refine lv_aload_n hx hb dX1_bars_1 rfl (lv_at hl 1 rfl) ?_
  refine lv_iload_n hx hb dX1_bars_2 rfl (lv_at hl 2 rfl) ?_
  obtain ⟨q3, h2, h⟩ := dV_some h
  refine dw_kv (va_runV (As := [.ref (ad 2), .int p2]) (rest := []) ⟨hx, hb, hml, hown, hts⟩ (qX1_setTurn_s20_s2 l D ty eo _ ad q p2 q3 h2) (cwV 2 hts gX1_bars_X1_setTurn rfl rfl rfl (by decide +kernel) ⟨Nat.le_of_ble_eq_true rfl, Nat.le_of_ble_eq_true rfl⟩) (dw_preV (ci := 1) (q0 := 20) hK hN hE hP hD hS hA rfl rfl) rfl rfl hl.1 rfl (lv_room (Nat.le_of_ble_eq_true rfl)) dX1_bars_3 ⟨Nat.le_of_ble_eq_true rfl, Nat.le_of_ble_eq_true rfl⟩) hD hS hA (fun u9 H locs hw hp hd hs => ?_)
  clear hP hD hS
  obtain rfl := hw
  have hP := hp; have hD := hd; have hS := hs; clear hp hd hs
  refine lv_aload_n hx hb dX1_bars_6 rfl (lv_at hl 0 rfl) ?_
  refine lv_iconst (v := 1) hx hb dX1_bars_7 (by decide) ?_
  obtain ⟨r4, q6, h5, h⟩ := dB_some h
  refine dw_ki (va_runV (As := [.int 1]) (rest := []) ⟨hx, hb, hml, hown, hts⟩ (qX1_anyHolds_s20 l D ty eo _ ad q3 1 r4 q6 h5) (cwV 1 hts gX1_bars_X1_anyHolds rfl rfl rfl (by decide +kernel) ⟨Nat.le_of_ble_eq_true rfl, Nat.le_of_ble_eq_true rfl⟩) (dw_preV (ci := 1) (q0 := 20) hK hN hE hP hD hS hA rfl rfl) rfl rfl hl.1 rfl (lv_room (Nat.le_of_ble_eq_true rfl)) dX1_bars_8 ⟨Nat.le_of_ble_eq_true rfl, Nat.le_of_ble_eq_true rfl⟩) hD hS hA (fun r9 u9 H locs hw hp hd hs => ?_)
  clear hP hD hS
  obtain ⟨rfl, rfl⟩ := hw
  have hP := hp; have hD := hd; have hS := hs; clear hp hd hs
  obtain ⟨g7, h⟩ := dG_some h
  cases h
  exact kz_zret hx hb hr hlocks (dbl_nar g7) hP hK hD hS dX1_bars_11 ⟨rfl, rfl⟩

set_option maxHeartbeats 4000000 in
set_option maxRecDepth 100000 in
theorem WX1_pay_s20_132 {p : Program} {l : Launch} {e : Env} {s : State} {m : MethodId} {args : Array Value} {below : List Frame} {meth : Method} {c : Code} {D : va_G} {ty : Nat → ClassId} {eo : Nat → Nat} {A : Nat → Prop} {ad : Nat → Nat} {o1 : Int32} {o2 : dK} (C : dc_C p s m args meth c cX1_pay (some .int) 3 RX1 wsX1_pay D ty eo A) {k24 : dK → Int32 → Option (Int32 × dK)} (hk24 : ∀ (q : dK) (x1 : Int32) (H : Heap) (locs : List Loc) (ls : Array Slot), k24 q x1 = some (o1, o2) → va_P D vwCl (wF ty ad q) H → va_D A (wF ty ad q) → va_S A s.heap H locs → lv_has ls 3 [(0, .ref (ad 20)), (1, .int x1)] → W p l e ({ frames := 2, cells := 0, slots := 0, locals := 59 } : Room) s m args below meth c H locs 0 0 (MQ below (va_Qi (fun (r : Int32) (u : va_W) => o1 = r ∧ wF ty ad o2 = u) (kz_B D ty A) A) args s 0 0 A) (F0 m 24 ls [])) (q : dK) (x1 : Int32) (H : Heap) (locs : List Loc) (ls : Array Slot) (h : zX1_pay_s20_132 k24 q x1 = some (o1, o2)) (hP : va_P D vwCl (wF ty ad q) H) (hD : va_D A (wF ty ad q)) (hS : va_S A s.heap H locs) (hl : lv_has ls 3 [(0, .ref (ad 20)), (1, .int x1)]) : W p l e ({ frames := 2, cells := 0, slots := 0, locals := 59 } : Room) s m args below meth c H locs 0 0 (MQ below (va_Qi (fun (r : Int32) (u : va_W) => o1 = r ∧ wF ty ad o2 = u) (kz_B D ty A) A) args s 0 0 A) (F0 m 132 ls []) := by
  have C0 := C
  obtain ⟨hx, hb, hr, hts, hown, hlocks, hml, hK, hN, hE, hA⟩ := C
  unfold zX1_pay_s20_132 at h
  refine lv_iinc (v := x1 + (-1)) (lv' := [(1, .int (x1 + (-1))), (0, .ref (ad 20))]) hx hb dX1_pay_132 hl (k := 1) rfl rfl (by decide) rfl (fun ls hl => ?_)
  refine lv_goto (tgt := 24) hx hb dX1_pay_135 (by decide) ?_
  exact hk24 _ _ _ _ _ h hP hD hS (lv_sub hl [1, 0] rfl)
set_option maxHeartbeats 4000000 in
set_option maxRecDepth 100000 in
theorem WX1_pay_s20_24b {p : Program} {l : Launch} {e : Env} {s : State} {m : MethodId} {args : Array Value} {below : List Frame} {meth : Method} {c : Code} {D : va_G} {ty : Nat → ClassId} {eo : Nat → Nat} {A : Nat → Prop} {ad : Nat → Nat} {o1 : Int32} {o2 : dK} (C : dc_C p s m args meth c cX1_pay (some .int) 3 RX1 wsX1_pay D ty eo A) {k24 : dK → Int32 → Option (Int32 × dK)} (hk24 : ∀ (q : dK) (x1 : Int32) (H : Heap) (locs : List Loc) (ls : Array Slot), k24 q x1 = some (o1, o2) → va_P D vwCl (wF ty ad q) H → va_D A (wF ty ad q) → va_S A s.heap H locs → lv_has ls 3 [(0, .ref (ad 20)), (1, .int x1)] → W p l e ({ frames := 2, cells := 0, slots := 0, locals := 59 } : Room) s m args below meth c H locs 0 0 (MQ below (va_Qi (fun (r : Int32) (u : va_W) => o1 = r ∧ wF ty ad o2 = u) (kz_B D ty A) A) args s 0 0 A) (F0 m 24 ls [])) (q : dK) (x1 : Int32) (H : Heap) (locs : List Loc) (ls : Array Slot) (h : zX1_pay_s20_24b k24 q x1 = some (o1, o2)) (hP : va_P D vwCl (wF ty ad q) H) (hD : va_D A (wF ty ad q)) (hS : va_S A s.heap H locs) (hl : lv_has ls 3 [(0, .ref (ad 20)), (1, .int x1)]) : W p l e ({ frames := 2, cells := 0, slots := 0, locals := 59 } : Room) s m args below meth c H locs 0 0 (MQ below (va_Qi (fun (r : Int32) (u : va_W) => o1 = r ∧ wF ty ad o2 = u) (kz_B D ty A) A) args s 0 0 A) (F0 m 24 ls []) := by
  have C0 := C
  obtain ⟨hx, hb, hr, hts, hown, hlocks, hml, hK, hN, hE, hA⟩ := C
  unfold zX1_pay_s20_24b at h
  refine lv_iload_n hx hb dX1_pay_24 rfl (lv_at hl 1 rfl) ?_
  refine lv_if_lt (tgt := 138) hx hb dX1_pay_25 (by decide) (fun c9 => ?_) (fun c9 => ?_)
  · rw [if_pos c9] at h
    refine lv_aload_n hx hb dX1_pay_138 rfl (lv_at hl 0 rfl) ?_
    refine va_get (D := D) (ci := 1) (v := .ref (ad 21)) (C := RX1) (T := TX1) (N := 3) hx hb hts u9_wsX1_pay_X1 hown hK hP 20 rfl rfl 1 (by decide) (hts (.fieldLink RX1 11 "TurnedFloors$Judge" "words" "[I") f9_wsX1_pay_410) (fun _ h9 => h9) rfl dX1_pay_139 ?_
    refine lv_iconst (v := 0) hx hb dX1_pay_142 (by decide) ?_
    refine va_iald hx hb hK hP 21 0 rfl rfl (by simp only [vp_in]; decide) dX1_pay_143 ?_
    refine kz_topi (q.1 21 0) (congrArg (q.1 21) (by decide +kernel : Int32.toNatClampNeg 0 = 0)) ?_
    cases h
    exact kz_iret hx hb hr hlocks hP hK hD hS dX1_pay_144 ⟨rfl, rfl⟩
  · rw [if_neg c9] at h
    refine lv_aload_n hx hb dX1_pay_28 rfl (lv_at hl 0 rfl) ?_
    refine va_get (D := D) (ci := 1) (v := dLw ad (q.1 20 2)) (C := RX1) (T := TX1) (N := 3) hx hb hts u9_wsX1_pay_X1 hown hK hP 20 rfl rfl 2 (by decide) (hts (.fieldLink RX1 15 "TurnedFloors$Judge" "law" "LTurnedFloors$Text;") f9_wsX1_pay_411) (fun _ h9 => h9) rfl dX1_pay_29 ?_
    obtain ⟨g1, h⟩ := dG_some h
    refine kz_topv (if_neg (dlg_ne g1)) ?_
    obtain ⟨g2, h⟩ := dG_some h
    refine va_getN (D := D) (ci := 7) (v := .ref (ad (63 + 7 * dLi (q.1 20 2) + 1))) (C := RX7) (T := TX7) (N := 8) hx hb hts u9_wsX1_pay_X7 hown hK hP _ (lw_o g2) rfl 0 (by decide) (hN.use (.fieldLinkNest "TurnedFloors$Judge" 70 "TurnedFloors$Text" "kind" "[I" "TurnedFloors") (by decide +kernel)) (fun _ h9 => h9) rfl dX1_pay_32 ?_
    refine lv_iload_n hx hb dX1_pay_35 rfl (lv_at hl 1 rfl) ?_
    obtain ⟨g3, h⟩ := dG_some h
    obtain ⟨g4, h⟩ := dG_some h
    refine va_iald hx hb hK hP _ 0 (lw_a1 g3) rfl (dg_in g4) dX1_pay_36 ?_
    obtain ⟨v5, ev5, h⟩ := dL_some h
    refine kz_topi v5 ev5 ?_
    refine lv_if_ne (tgt := 132) hx hb dX1_pay_37 (by decide) (fun c9 => ?_) (fun c9 => ?_)
    · rw [if_neg c9] at h
      exact WX1_pay_s20_132 C0 hk24 _ _ _ _ _ h hP hD hS (lv_sub hl [0, 1] rfl)
    · rw [if_pos c9] at h
      refine lv_aload_n hx hb dX1_pay_40 rfl (lv_at hl 0 rfl) ?_
      refine va_get (D := D) (ci := 1) (v := .ref (ad 18)) (C := RX1) (T := TX1) (N := 3) hx hb hts u9_wsX1_pay_X1 hown hK hP 20 rfl rfl 0 (by decide) (hts (.fieldLink RX1 19 "TurnedFloors$Judge" "machine" "LTurnedFloors$Machine;") f9_wsX1_pay_412) (fun _ h9 => h9) rfl dX1_pay_41 ?_
      refine lv_aload_n hx hb dX1_pay_44 rfl (lv_at hl 0 rfl) ?_
      refine va_get (D := D) (ci := 1) (v := dLw ad (q.1 20 2)) (C := RX1) (T := TX1) (N := 3) hx hb hts u9_wsX1_pay_X1 hown hK hP 20 rfl rfl 2 (by decide) (hts (.fieldLink RX1 15 "TurnedFloors$Judge" "law" "LTurnedFloors$Text;") f9_wsX1_pay_411) (fun _ h9 => h9) rfl dX1_pay_45 ?_
      obtain ⟨g6, h⟩ := dG_some h
      refine kz_topv (if_neg (dlg_ne g6)) ?_
      refine lv_aload_n hx hb dX1_pay_48 rfl (lv_at hl 0 rfl) ?_
      refine va_get (D := D) (ci := 1) (v := dLw ad (q.1 20 2)) (C := RX1) (T := TX1) (N := 3) hx hb hts u9_wsX1_pay_X1 hown hK hP 20 rfl rfl 2 (by decide) (hts (.fieldLink RX1 15 "TurnedFloors$Judge" "law" "LTurnedFloors$Text;") f9_wsX1_pay_411) (fun _ h9 => h9) rfl dX1_pay_49 ?_
      obtain ⟨g7, h⟩ := dG_some h
      refine kz_topv (if_neg (dlg_ne g7)) ?_
      obtain ⟨g8, h⟩ := dG_some h
      refine va_getN (D := D) (ci := 7) (v := .ref (ad (63 + 7 * dLi (q.1 20 2) + 4))) (C := RX7) (T := TX7) (N := 8) hx hb hts u9_wsX1_pay_X7 hown hK hP _ (lw_o g8) rfl 3 (by decide) (hN.use (.fieldLinkNest "TurnedFloors$Judge" 73 "TurnedFloors$Text" "testFrom" "[I" "TurnedFloors") (by decide +kernel)) (fun _ h9 => h9) rfl dX1_pay_52 ?_
      refine lv_iload_n hx hb dX1_pay_55 rfl (lv_at hl 1 rfl) ?_
      obtain ⟨g9, h⟩ := dG_some h
      obtain ⟨g10, h⟩ := dG_some h
      refine va_iald hx hb hK hP _ 0 (lw_a4 g9) rfl (dg_in g10) dX1_pay_56 ?_
      obtain ⟨v11, ev11, h⟩ := dL_some h
      refine kz_topi v11 ev11 ?_
      refine lv_aload_n hx hb dX1_pay_57 rfl (lv_at hl 0 rfl) ?_
      refine va_get (D := D) (ci := 1) (v := dLw ad (q.1 20 2)) (C := RX1) (T := TX1) (N := 3) hx hb hts u9_wsX1_pay_X1 hown hK hP 20 rfl rfl 2 (by decide) (hts (.fieldLink RX1 15 "TurnedFloors$Judge" "law" "LTurnedFloors$Text;") f9_wsX1_pay_411) (fun _ h9 => h9) rfl dX1_pay_58 ?_
      obtain ⟨g12, h⟩ := dG_some h
      refine kz_topv (if_neg (dlg_ne g12)) ?_
      obtain ⟨g13, h⟩ := dG_some h
      refine va_getN (D := D) (ci := 7) (v := .ref (ad (63 + 7 * dLi (q.1 20 2) + 5))) (C := RX7) (T := TX7) (N := 8) hx hb hts u9_wsX1_pay_X7 hown hK hP _ (lw_o g13) rfl 4 (by decide) (hN.use (.fieldLinkNest "TurnedFloors$Judge" 76 "TurnedFloors$Text" "testTo" "[I" "TurnedFloors") (by decide +kernel)) (fun _ h9 => h9) rfl dX1_pay_61 ?_
      refine lv_iload_n hx hb dX1_pay_64 rfl (lv_at hl 1 rfl) ?_
      obtain ⟨g14, h⟩ := dG_some h
      obtain ⟨g15, h⟩ := dG_some h
      refine va_iald hx hb hK hP _ 0 (lw_a5 g14) rfl (dg_in g15) dX1_pay_65 ?_
      obtain ⟨v16, ev16, h⟩ := dL_some h
      refine kz_topi v16 ev16 ?_
      refine lv_aload_n hx hb dX1_pay_66 rfl (lv_at hl 0 rfl) ?_
      refine va_get (D := D) (ci := 1) (v := .ref (ad 21)) (C := RX1) (T := TX1) (N := 3) hx hb hts u9_wsX1_pay_X1 hown hK hP 20 rfl rfl 1 (by decide) (hts (.fieldLink RX1 11 "TurnedFloors$Judge" "words" "[I") f9_wsX1_pay_410) (fun _ h9 => h9) rfl dX1_pay_67 ?_
      obtain ⟨r17, q19, h18, h⟩ := dB_some h
      refine dw_ki (va_runV (As := [.ref (ad (63 + 7 * dLi (q.1 20 2))), .int v11, .int v16, .ref (ad 21)]) (rest := []) ⟨hx, hb, hml, hown, hts⟩ (qX2_valueOf_s18_l_s21 l D ty eo _ ad q (q.1 20 2) v11 v16 r17 q19 h18) (cwV 4 hts gX1_pay_X2_valueOf rfl rfl rfl (by decide +kernel) ⟨Nat.le_of_ble_eq_true rfl, Nat.le_of_ble_eq_true rfl⟩) (dw_preV (ci := 2) (q0 := 18) hK hN hE hP hD hS hA rfl rfl) rfl rfl hl.1 rfl (lv_room (Nat.le_of_ble_eq_true rfl)) dX1_pay_70 ⟨Nat.le_of_ble_eq_true rfl, Nat.le_of_ble_eq_true rfl⟩) hD hS hA (fun r9 u9 H locs hw hp hd hs => ?_)
      clear hP hD hS
      obtain ⟨rfl, rfl⟩ := hw
      have hP := hp; have hD := hd; have hS := hs; clear hp hd hs
      refine lv_iconst (v := 1) hx hb dX1_pay_73 (by decide) ?_
      refine lv_icmp_ne (tgt := 132) hx hb dX1_pay_74 (by decide) (fun c9 => ?_) (fun c9 => ?_)
      · rw [if_neg c9] at h
        exact WX1_pay_s20_132 C0 hk24 _ _ _ _ _ h hP hD hS (lv_sub hl [0, 1] rfl)
      · rw [if_pos c9] at h
        refine lv_aload_n hx hb dX1_pay_77 rfl (lv_at hl 0 rfl) ?_
        refine va_get (D := D) (ci := 1) (v := .ref (ad 18)) (C := RX1) (T := TX1) (N := 3) hx hb hts u9_wsX1_pay_X1 hown hK hP 20 rfl rfl 0 (by decide) (hts (.fieldLink RX1 19 "TurnedFloors$Judge" "machine" "LTurnedFloors$Machine;") f9_wsX1_pay_412) (fun _ h9 => h9) rfl dX1_pay_78 ?_
        refine lv_aload_n hx hb dX1_pay_81 rfl (lv_at hl 0 rfl) ?_
        refine va_get (D := D) (ci := 1) (v := dLw ad (q19.1 20 2)) (C := RX1) (T := TX1) (N := 3) hx hb hts u9_wsX1_pay_X1 hown hK hP 20 rfl rfl 2 (by decide) (hts (.fieldLink RX1 15 "TurnedFloors$Judge" "law" "LTurnedFloors$Text;") f9_wsX1_pay_411) (fun _ h9 => h9) rfl dX1_pay_82 ?_
        obtain ⟨g20, h⟩ := dG_some h
        refine kz_topv (if_neg (dlg_ne g20)) ?_
        refine lv_aload_n hx hb dX1_pay_85 rfl (lv_at hl 0 rfl) ?_
        refine va_get (D := D) (ci := 1) (v := dLw ad (q19.1 20 2)) (C := RX1) (T := TX1) (N := 3) hx hb hts u9_wsX1_pay_X1 hown hK hP 20 rfl rfl 2 (by decide) (hts (.fieldLink RX1 15 "TurnedFloors$Judge" "law" "LTurnedFloors$Text;") f9_wsX1_pay_411) (fun _ h9 => h9) rfl dX1_pay_86 ?_
        obtain ⟨g21, h⟩ := dG_some h
        refine kz_topv (if_neg (dlg_ne g21)) ?_
        obtain ⟨g22, h⟩ := dG_some h
        refine va_getN (D := D) (ci := 7) (v := .ref (ad (63 + 7 * dLi (q19.1 20 2) + 3))) (C := RX7) (T := TX7) (N := 8) hx hb hts u9_wsX1_pay_X7 hown hK hP _ (lw_o g22) rfl 2 (by decide) (hN.use (.fieldLinkNest "TurnedFloors$Judge" 85 "TurnedFloors$Text" "sumFrom" "[I" "TurnedFloors") (by decide +kernel)) (fun _ h9 => h9) rfl dX1_pay_89 ?_
        refine lv_iload_n hx hb dX1_pay_92 rfl (lv_at hl 1 rfl) ?_
        obtain ⟨g23, h⟩ := dG_some h
        obtain ⟨g24, h⟩ := dG_some h
        refine va_iald hx hb hK hP _ 0 (lw_a3 g23) rfl (dg_in g24) dX1_pay_93 ?_
        obtain ⟨v25, ev25, h⟩ := dL_some h
        refine kz_topi v25 ev25 ?_
        refine lv_aload_n hx hb dX1_pay_94 rfl (lv_at hl 0 rfl) ?_
        refine va_get (D := D) (ci := 1) (v := dLw ad (q19.1 20 2)) (C := RX1) (T := TX1) (N := 3) hx hb hts u9_wsX1_pay_X1 hown hK hP 20 rfl rfl 2 (by decide) (hts (.fieldLink RX1 15 "TurnedFloors$Judge" "law" "LTurnedFloors$Text;") f9_wsX1_pay_411) (fun _ h9 => h9) rfl dX1_pay_95 ?_
        obtain ⟨g26, h⟩ := dG_some h
        refine kz_topv (if_neg (dlg_ne g26)) ?_
        obtain ⟨g27, h⟩ := dG_some h
        refine va_getN (D := D) (ci := 7) (v := .ref (ad (63 + 7 * dLi (q19.1 20 2) + 4))) (C := RX7) (T := TX7) (N := 8) hx hb hts u9_wsX1_pay_X7 hown hK hP _ (lw_o g27) rfl 3 (by decide) (hN.use (.fieldLinkNest "TurnedFloors$Judge" 73 "TurnedFloors$Text" "testFrom" "[I" "TurnedFloors") (by decide +kernel)) (fun _ h9 => h9) rfl dX1_pay_98 ?_
        refine lv_iload_n hx hb dX1_pay_101 rfl (lv_at hl 1 rfl) ?_
        obtain ⟨g28, h⟩ := dG_some h
        obtain ⟨g29, h⟩ := dG_some h
        refine va_iald hx hb hK hP _ 0 (lw_a4 g28) rfl (dg_in g29) dX1_pay_102 ?_
        obtain ⟨v30, ev30, h⟩ := dL_some h
        refine kz_topi v30 ev30 ?_
        refine lv_aload_n hx hb dX1_pay_103 rfl (lv_at hl 0 rfl) ?_
        refine va_get (D := D) (ci := 1) (v := .ref (ad 21)) (C := RX1) (T := TX1) (N := 3) hx hb hts u9_wsX1_pay_X1 hown hK hP 20 rfl rfl 1 (by decide) (hts (.fieldLink RX1 11 "TurnedFloors$Judge" "words" "[I") f9_wsX1_pay_410) (fun _ h9 => h9) rfl dX1_pay_104 ?_
        obtain ⟨r31, q33, h32, h⟩ := dB_some h
        refine dw_ki (va_runV (As := [.ref (ad (63 + 7 * dLi (q19.1 20 2))), .int v25, .int v30, .ref (ad 21)]) (rest := []) ⟨hx, hb, hml, hown, hts⟩ (qX2_valueOf_s18_l_s21 l D ty eo _ ad q19 (q19.1 20 2) v25 v30 r31 q33 h32) (cwV 4 hts gX1_pay_X2_valueOf rfl rfl rfl (by decide +kernel) ⟨Nat.le_of_ble_eq_true rfl, Nat.le_of_ble_eq_true rfl⟩) (dw_preV (ci := 2) (q0 := 18) hK hN hE hP hD hS hA rfl rfl) rfl rfl hl.1 rfl (lv_room (Nat.le_of_ble_eq_true rfl)) dX1_pay_107 ⟨Nat.le_of_ble_eq_true rfl, Nat.le_of_ble_eq_true rfl⟩) hD hS hA (fun r9 u9 H locs hw hp hd hs => ?_)
        clear hP hD hS
        obtain ⟨rfl, rfl⟩ := hw
        have hP := hp; have hD := hd; have hS := hs; clear hp hd hs
        refine lv_istore_n (lv' := [(2, .int r31), (0, .ref (ad 20)), (1, .int x1)]) hx hb dX1_pay_110 rfl hl (by decide) rfl (fun ls hl => ?_)
        refine lv_aload_n hx hb dX1_pay_111 rfl (lv_at hl 1 rfl) ?_
        refine va_get (D := D) (ci := 1) (v := .ref (ad 18)) (C := RX1) (T := TX1) (N := 3) hx hb hts u9_wsX1_pay_X1 hown hK hP 20 rfl rfl 0 (by decide) (hts (.fieldLink RX1 19 "TurnedFloors$Judge" "machine" "LTurnedFloors$Machine;") f9_wsX1_pay_412) (fun _ h9 => h9) rfl dX1_pay_112 ?_
        refine va_getN (D := D) (ci := 2) (v := .int (q33.1 18 1)) (C := RX2) (T := TX2) (N := 2) hx hb hts u9_wsX1_pay_X2 hown hK hP 18 rfl rfl 1 (by decide) (hN.use (.fieldLinkNest "TurnedFloors$Judge" 88 "TurnedFloors$Machine" "broken" "Z" "TurnedFloors") (by decide +kernel)) (fun _ h9 => h9) rfl dX1_pay_115 ?_
        refine lv_if_ne (tgt := 132) hx hb dX1_pay_118 (by decide) (fun c9 => ?_) (fun c9 => ?_)
        · rw [if_neg c9] at h
          exact WX1_pay_s20_132 C0 hk24 _ _ _ _ _ h hP hD hS (lv_sub hl [1, 2] rfl)
        · rw [if_pos c9] at h
          refine lv_iconst (v := 0) hx hb dX1_pay_121 (by decide) ?_
          refine lv_bipush (v := 99) hx hb dX1_pay_122 (by decide) ?_
          refine lv_iload_n hx hb dX1_pay_124 rfl (lv_at hl 0 rfl) ?_
          refine va_mmin hx hb (hml.trans hl.1.symm) hown (hts (.methodLink RX1 92 Lib.Math.min.name) f9_wsX1_pay_413) (hts (.static Lib.Math.min.name) f9_wsX1_pay_414) (hts (.initialized "java/lang/Math") f9_wsX1_pay_415) (hts (.code Lib.Math.min.name Lib.Math.min.code 2 (some .int)) f9_wsX1_pay_416) (Nat.le_of_ble_eq_true rfl) (Nat.le_of_ble_eq_true rfl) (Nat.le_of_ble_eq_true rfl) (Nat.le_of_ble_eq_true rfl) dX1_pay_125 ?_
          refine kz_topi (mnI 99 r31) rfl ?_
          refine va_mmax hx hb (hml.trans hl.1.symm) hown (hts (.methodLink RX1 97 Lib.Math.max.name) f9_wsX1_pay_417) (hts (.static Lib.Math.max.name) f9_wsX1_pay_418) (hts (.initialized "java/lang/Math") f9_wsX1_pay_415) (hts (.code Lib.Math.max.name Lib.Math.max.code 2 (some .int)) f9_wsX1_pay_419) (Nat.le_of_ble_eq_true rfl) (Nat.le_of_ble_eq_true rfl) (Nat.le_of_ble_eq_true rfl) (Nat.le_of_ble_eq_true rfl) dX1_pay_128 ?_
          refine kz_topi (mxI 0 (mnI 99 r31)) rfl ?_
          cases h
          exact kz_iret hx hb hr hlocks hP hK hD hS dX1_pay_131 ⟨rfl, rfl⟩
set_option maxHeartbeats 4000000 in
set_option maxRecDepth 100000 in
theorem WX1_pay_s20_24 {p : Program} {l : Launch} {e : Env} {s : State} {m : MethodId} {args : Array Value} {below : List Frame} {meth : Method} {c : Code} {D : va_G} {ty : Nat → ClassId} {eo : Nat → Nat} {A : Nat → Prop} {ad : Nat → Nat} {o1 : Int32} {o2 : dK} (C : dc_C p s m args meth c cX1_pay (some .int) 3 RX1 wsX1_pay D ty eo A)   (n : Nat) (q : dK) (x1 : Int32) (H : Heap) (locs : List Loc) (ls : Array Slot) (h : zX1_pay_s20_24  n q x1 = some (o1, o2)) (hP : va_P D vwCl (wF ty ad q) H) (hD : va_D A (wF ty ad q)) (hS : va_S A s.heap H locs) (hl : lv_has ls 3 [(0, .ref (ad 20)), (1, .int x1)]) : W p l e ({ frames := 2, cells := 0, slots := 0, locals := 59 } : Room) s m args below meth c H locs 0 0 (MQ below (va_Qi (fun (r : Int32) (u : va_W) => o1 = r ∧ wF ty ad o2 = u) (kz_B D ty A) A) args s 0 0 A) (F0 m 24 ls []) := by
  exact dFix_W (F := fun k (a : dK × Int32) => zX1_pay_s20_24b  (fun q x1 => k (q, x1)) a.1 a.2) (o := (o1, o2)) (P := fun (a : dK × Int32) H locs ls => va_P D vwCl (wF ty ad a.1) H ∧ va_D A (wF ty ad a.1) ∧ va_S A s.heap H locs ∧ lv_has ls 3 [(0, .ref (ad 20)), (1, .int a.2)]) (G := fun H locs ls => W p l e ({ frames := 2, cells := 0, slots := 0, locals := 59 } : Room) s m args below meth c H locs 0 0 (MQ below (va_Qi (fun (r : Int32) (u : va_W) => o1 = r ∧ wF ty ad o2 = u) (kz_B D ty A) A) args s 0 0 A) (F0 m 24 ls []))
    (fun k hk a H locs ls h hp => WX1_pay_s20_24b C  (fun q x1 H locs ls h h1 h2 h3 h4 => hk (q, x1) H locs ls h ⟨h1, h2, h3, h4⟩) a.1 a.2 H locs ls h hp.1 hp.2.1 hp.2.2.1 hp.2.2.2) n (q, x1) H locs ls h ⟨hP, hD, hS, hl⟩
set_option maxHeartbeats 4000000 in
set_option maxRecDepth 100000 in
theorem qX1_pay_s20 (l : Launch) (D : va_G) (ty : Nat → ClassId) (eo : Nat → Nat) (sz : Nat) (ad : Nat → Nat) (q : dK)  (o1 : Int32) (o2 : dK) (h : zX1_pay_s20 q = some (o1, o2)) : Met l yX1_pay wsX1_pay ({ frames := 2, cells := 0, slots := 0, locals := 59 } : Room) (va_Pc [.ref (ad 20)] (kz_pre D ty eo (wF ty ad q) sz)) (va_Qi (fun (r : Int32) (u : va_W) => o1 = r ∧ wF ty ad o2 = u) (kz_B D ty (va_A (wF ty ad q) sz)) (va_A (wF ty ad q) sz)) 0 0 (va_A (wF ty ad q) sz) := by
  refine Met.ofW (cc := cX1_pay) (maxL := 3) (ret := (some .int)) (by decide) rfl ?_
  intro p e s m args below meth c s₁ B hml hv
  obtain ⟨rfl, hsz, hP, hK, hD0, hN, hE⟩ := hv
  have hx := B.exec
  have hb := B.bytes
  have hr := B.returns
  have hts := atoms_spec (ws := wsX1_pay) B.pre
  have hown : s.vm.findClass RX1 = some m.cls := findClass_of_methodNamed B.named
  have hlocks := B.notSynchronized
  subst hsz
  have hD := hD0.self (sz := s.heap.size)
  generalize hAe : va_A (wF ty ad q) s.heap.size = A at hD hE ⊢
  have hA : ∀ q : Nat, s.heap.size ≤ q → A q := fun q h => by rw [← hAe]; exact Or.inr h
  clear hAe
  have hS : va_S A s.heap s.heap [] := va_S.rf
  have hl := lv_entry ([.ref (ad 20)]) (n := 3) (Nat.le_of_ble_eq_true rfl)
  rw [lg_entry_eq]
  generalize (lg_sl ([.ref (ad 20)]) ++ List.replicate (3 - (lg_sl ([.ref (ad 20)])).length) Slot.unset).toArray = ls at hl ⊢
  have hl : lv_has ls 3 [(0, .ref (ad 20))] := hl
  have C : dc_C p s m _ meth c cX1_pay (some .int) 3 RX1 wsX1_pay D ty eo A := ⟨hx, hb, hr, hts, hown, hlocks, hml, hK, hN, hE, hA⟩
  unfold zX1_pay_s20 at h
  refine lv_aload_n hx hb dX1_pay_0 rfl (lv_at hl 0 rfl) ?_
  refine va_get (D := D) (ci := 1) (v := dLw ad (q.1 20 2)) (C := RX1) (T := TX1) (N := 3) hx hb hts u9_wsX1_pay_X1 hown hK hP 20 rfl rfl 2 (by decide) (hts (.fieldLink RX1 15 "TurnedFloors$Judge" "law" "LTurnedFloors$Text;") f9_wsX1_pay_411) (fun _ h9 => h9) rfl dX1_pay_1 ?_
  by_cases c1 : (q.1 20 2) = 0
  · rw [if_pos c1] at h
    refine kz_topv (if_pos c1) ?_
    refine lv_ifnonnullN hx hb dX1_pay_4 ?_
    refine lv_aload_n hx hb dX1_pay_7 rfl (lv_at hl 0 rfl) ?_
    refine va_get (D := D) (ci := 1) (v := .ref (ad 21)) (C := RX1) (T := TX1) (N := 3) hx hb hts u9_wsX1_pay_X1 hown hK hP 20 rfl rfl 1 (by decide) (hts (.fieldLink RX1 11 "TurnedFloors$Judge" "words" "[I") f9_wsX1_pay_410) (fun _ h9 => h9) rfl dX1_pay_8 ?_
    refine lv_iconst (v := 0) hx hb dX1_pay_11 (by decide) ?_
    refine va_iald hx hb hK hP 21 0 rfl rfl (by simp only [vp_in]; decide) dX1_pay_12 ?_
    refine kz_topi (q.1 21 0) (congrArg (q.1 21) (by decide +kernel : Int32.toNatClampNeg 0 = 0)) ?_
    cases h
    exact kz_iret hx hb hr hlocks hP hK hD hS dX1_pay_13 ⟨rfl, rfl⟩
  · rw [if_neg c1] at h
    refine kz_topv (if_neg c1) ?_
    refine lv_ifnonnull (tgt := 14) hx hb dX1_pay_4 (by decide) ?_
    refine lv_aload_n hx hb dX1_pay_14 rfl (lv_at hl 0 rfl) ?_
    refine va_get (D := D) (ci := 1) (v := dLw ad (q.1 20 2)) (C := RX1) (T := TX1) (N := 3) hx hb hts u9_wsX1_pay_X1 hown hK hP 20 rfl rfl 2 (by decide) (hts (.fieldLink RX1 15 "TurnedFloors$Judge" "law" "LTurnedFloors$Text;") f9_wsX1_pay_411) (fun _ h9 => h9) rfl dX1_pay_15 ?_
    obtain ⟨g2, h⟩ := dG_some h
    refine kz_topv (if_neg (dlg_ne g2)) ?_
    obtain ⟨g3, h⟩ := dG_some h
    refine va_getN (D := D) (ci := 7) (v := .int ((dTx q (q.1 20 2)).1)) (C := RX7) (T := TX7) (N := 8) hx hb hts u9_wsX1_pay_X7 hown hK hP _ (lw_o g3) rfl 6 (by decide) (hN.use (.fieldLinkNest "TurnedFloors$Judge" 65 "TurnedFloors$Text" "clauses" "I" "TurnedFloors") (by decide +kernel)) (fun _ h9 => h9) rfl dX1_pay_18 ?_
    refine lv_iconst (v := 1) hx hb dX1_pay_21 (by decide) ?_
    refine lv_isub hx hb dX1_pay_22 ?_
    refine lv_istore_n (lv' := [(1, .int (((dTx q (q.1 20 2)).1) - 1 : Int32)), (0, .ref (ad 20))]) hx hb dX1_pay_23 rfl hl (by decide) rfl (fun ls hl => ?_)
    exact WX1_pay_s20_24 C  _ _ _ _ _ _ h hP hD hS (lv_sub hl [1, 0] rfl)

set_option maxHeartbeats 4000000 in
set_option maxRecDepth 100000 in
theorem qX1_payOf_s20_s2 (l : Launch) (D : va_G) (ty : Nat → ClassId) (eo : Nat → Nat) (sz : Nat) (ad : Nat → Nat) (q : dK) (p2 : Int32) (o1 : Int32) (o2 : dK) (h : zX1_payOf_s20_s2 q p2 = some (o1, o2)) : Met l yX1_payOf wsX1_payOf ({ frames := 3, cells := 0, slots := 0, locals := 81 } : Room) (va_Pc [.ref (ad 20), .ref (ad 2), .int p2] (kz_pre D ty eo (wF ty ad q) sz)) (va_Qi (fun (r : Int32) (u : va_W) => o1 = r ∧ wF ty ad o2 = u) (kz_B D ty (va_A (wF ty ad q) sz)) (va_A (wF ty ad q) sz)) 0 0 (va_A (wF ty ad q) sz) := by
  refine Met.ofW (cc := cX1_payOf) (maxL := 3) (ret := (some .int)) (by decide) rfl ?_
  intro p e s m args below meth c s₁ B hml hv
  obtain ⟨rfl, hsz, hP, hK, hD0, hN, hE⟩ := hv
  have hx := B.exec
  have hb := B.bytes
  have hr := B.returns
  have hts := atoms_spec (ws := wsX1_payOf) B.pre
  have hown : s.vm.findClass RX1 = some m.cls := findClass_of_methodNamed B.named
  have hlocks := B.notSynchronized
  subst hsz
  have hD := hD0.self (sz := s.heap.size)
  generalize hAe : va_A (wF ty ad q) s.heap.size = A at hD hE ⊢
  have hA : ∀ q : Nat, s.heap.size ≤ q → A q := fun q h => by rw [← hAe]; exact Or.inr h
  clear hAe
  have hS : va_S A s.heap s.heap [] := va_S.rf
  have hl := lv_entry ([.ref (ad 20), .ref (ad 2), .int p2]) (n := 3) (Nat.le_of_ble_eq_true rfl)
  rw [lg_entry_eq]
  generalize (lg_sl ([.ref (ad 20), .ref (ad 2), .int p2]) ++ List.replicate (3 - (lg_sl ([.ref (ad 20), .ref (ad 2), .int p2])).length) Slot.unset).toArray = ls at hl ⊢
  have hl : lv_has ls 3 [(0, .ref (ad 20)), (1, .ref (ad 2)), (2, .int p2)] := hl
  have C : dc_C p s m _ meth c cX1_payOf (some .int) 3 RX1 wsX1_payOf D ty eo A := ⟨hx, hb, hr, hts, hown, hlocks, hml, hK, hN, hE, hA⟩
  unfold zX1_payOf_s20_s2 at h
  refine lv_aload_n hx hb dX1_payOf_0 rfl (lv_at hl 0 rfl) ?_
  refine lv_aload_n hx hb dX1_payOf_1 rfl (lv_at hl 1 rfl) ?_
  refine lv_iload_n hx hb dX1_payOf_2 rfl (lv_at hl 2 rfl) ?_
  obtain ⟨q3, h2, h⟩ := dV_some h
  refine dw_kv (va_runV (As := [.ref (ad 2), .int p2]) (rest := []) ⟨hx, hb, hml, hown, hts⟩ (qX1_setTurn_s20_s2 l D ty eo _ ad q p2 q3 h2) (cwV 2 hts gX1_payOf_X1_setTurn rfl rfl rfl (by decide +kernel) ⟨Nat.le_of_ble_eq_true rfl, Nat.le_of_ble_eq_true rfl⟩) (dw_preV (ci := 1) (q0 := 20) hK hN hE hP hD hS hA rfl rfl) rfl rfl hl.1 rfl (lv_room (Nat.le_of_ble_eq_true rfl)) dX1_payOf_3 ⟨Nat.le_of_ble_eq_true rfl, Nat.le_of_ble_eq_true rfl⟩) hD hS hA (fun u9 H locs hw hp hd hs => ?_)
  clear hP hD hS
  obtain rfl := hw
  have hP := hp; have hD := hd; have hS := hs; clear hp hd hs
  refine lv_aload_n hx hb dX1_payOf_6 rfl (lv_at hl 0 rfl) ?_
  obtain ⟨r4, q6, h5, h⟩ := dB_some h
  refine dw_ki (va_runV (As := []) (rest := []) ⟨hx, hb, hml, hown, hts⟩ (qX1_pay_s20 l D ty eo _ ad q3  r4 q6 h5) (cwV 0 hts gX1_payOf_X1_pay rfl rfl rfl (by decide +kernel) ⟨Nat.le_of_ble_eq_true rfl, Nat.le_of_ble_eq_true rfl⟩) (dw_preV (ci := 1) (q0 := 20) hK hN hE hP hD hS hA rfl rfl) rfl rfl hl.1 rfl (lv_room (Nat.le_of_ble_eq_true rfl)) dX1_payOf_7 ⟨Nat.le_of_ble_eq_true rfl, Nat.le_of_ble_eq_true rfl⟩) hD hS hA (fun r9 u9 H locs hw hp hd hs => ?_)
  clear hP hD hS
  obtain ⟨rfl, rfl⟩ := hw
  have hP := hp; have hD := hd; have hS := hs; clear hp hd hs
  cases h
  exact kz_iret hx hb hr hlocks hP hK hD hS dX1_payOf_10 ⟨rfl, rfl⟩
