theorem u9_wsX9_years_X9 : ∀ w ∈ u_ws RX9 TX9 19, w ∈ wsX9_years := by
  first | exact fun w h => List.mem_cons_of_mem _ (List.mem_append_right _ h) | decide +kernel
theorem u9_wsX9_years_X8 : ∀ w ∈ u_ws RX8 TX8 5, w ∈ wsX9_years := by
  first | exact fun w h => List.mem_cons_of_mem _ (List.mem_append_right _ h) | decide +kernel
theorem u9_wsX9_years_X6 : ∀ w ∈ u_ws RX6 TX6 10, w ∈ wsX9_years := by
  first | exact fun w h => List.mem_cons_of_mem _ (List.mem_append_right _ h) | decide +kernel
theorem f9_wsX9_years_937 : (Cond.fieldLink RX9 34 "TurnedFloors" "drawnTower" "LTurnedFloors$Tower;") ∈ wsX9_years := by decide +kernel
theorem f9_wsX9_years_938 : (Cond.fieldLink RX9 10 "TurnedFloors" "state" "LTurnedFloors$State;") ∈ wsX9_years := by decide +kernel
theorem f9_wsX9_years_939 : (Cond.fieldLink RX9 50 "TurnedFloors" "judge" "LTurnedFloors$Judge;") ∈ wsX9_years := by decide +kernel
theorem f9_wsX9_years_940 : (Cond.constant RX9 317 1000000) ∈ wsX9_years := by decide +kernel
theorem u9_wsX9_drawn_X9 : ∀ w ∈ u_ws RX9 TX9 19, w ∈ wsX9_drawn := by
  first | exact fun w h => List.mem_cons_of_mem _ (List.mem_append_right _ h) | decide +kernel
theorem f9_wsX9_drawn_942 : (Cond.fieldLink RX9 34 "TurnedFloors" "drawnTower" "LTurnedFloors$Tower;") ∈ wsX9_drawn := by decide +kernel
set_option maxHeartbeats 4000000 in
set_option maxRecDepth 100000 in
theorem qX1_tips_s20_s15 (l : Launch) (D : va_G) (ty : Nat → ClassId) (eo : Nat → Nat) (sz : Nat) (ad : Nat → Nat) (q : dK) (p2 : Int32) (o1 : Int32) (o2 : dK) (h : zX1_tips_s20_s15 q p2 = some (o1, o2)) : Met l yX1_tips wsX1_tips ({ frames := 3, cells := 0, slots := 0, locals := 81 } : Room) (va_Pc [.ref (ad 20), .ref (ad 15), .int p2] (kz_pre D ty eo (wF ty ad q) sz)) (va_Qi (fun (r : Int32) (u : va_W) => o1 = r ∧ wF ty ad o2 = u) (kz_B D ty (va_A (wF ty ad q) sz)) (va_A (wF ty ad q) sz)) 0 0 (va_A (wF ty ad q) sz) := by
  refine Met.ofW (cc := cX1_tips) (maxL := 3) (ret := (some .boolean)) (by decide) rfl ?_
  intro p e s m args below meth c s₁ B hml hv
  obtain ⟨rfl, hsz, hP, hK, hD0, hN, hE⟩ := hv
  have hx := B.exec
  have hb := B.bytes
  have hr := B.returns
  have hts := atoms_spec (ws := wsX1_tips) B.pre
  have hown : s.vm.findClass RX1 = some m.cls := findClass_of_methodNamed B.named
  have hlocks := B.notSynchronized
  subst hsz
  have hD := hD0.self (sz := s.heap.size)
  generalize hAe : va_A (wF ty ad q) s.heap.size = A at hD hE ⊢
  have hA : ∀ q : Nat, s.heap.size ≤ q → A q := fun q h => by rw [← hAe]; exact Or.inr h
  clear hAe
  have hS : va_S A s.heap s.heap [] := va_S.rf
  have hl := lv_entry ([.ref (ad 20), .ref (ad 15), .int p2]) (n := 3) (Nat.le_of_ble_eq_true rfl)
  rw [lg_entry_eq]
  generalize (lg_sl ([.ref (ad 20), .ref (ad 15), .int p2]) ++ List.replicate (3 - (lg_sl ([.ref (ad 20), .ref (ad 15), .int p2])).length) Slot.unset).toArray = ls at hl ⊢
  have hl : lv_has ls 3 [(0, .ref (ad 20)), (1, .ref (ad 15)), (2, .int p2)] := hl
  have C : dc_C p s m _ meth c cX1_tips (some .boolean) 3 RX1 wsX1_tips D ty eo A := ⟨hx, hb, hr, hts, hown, hlocks, hml, hK, hN, hE, hA⟩
  unfold zX1_tips_s20_s15 at h
  refine lv_aload_n hx hb dX1_tips_0 rfl (lv_at hl 1 rfl) ?_
  refine lv_iload_n hx hb dX1_tips_1 rfl (lv_at hl 2 rfl) ?_
  obtain ⟨r1, q3, h2, h⟩ := dB_some h
  refine dw_ki (va_runV (As := [.int p2]) (rest := []) ⟨hx, hb, hml, hown, hts⟩ (qX8_isFloor_s15 l D ty eo _ ad q p2 r1 q3 h2) (cwV 1 hts gX1_tips_X8_isFloor rfl rfl rfl (by decide +kernel) ⟨Nat.le_of_ble_eq_true rfl, Nat.le_of_ble_eq_true rfl⟩) (dw_preV (ci := 8) (q0 := 15) hK hN hE hP hD hS hA rfl rfl) rfl rfl hl.1 rfl (lv_room (Nat.le_of_ble_eq_true rfl)) dX1_tips_2 ⟨Nat.le_of_ble_eq_true rfl, Nat.le_of_ble_eq_true rfl⟩) hD hS hA (fun r9 u9 H locs hw hp hd hs => ?_)
  clear hP hD hS
  obtain ⟨rfl, rfl⟩ := hw
  have hP := hp; have hD := hd; have hS := hs; clear hp hd hs
  refine lv_if_ne (tgt := 10) hx hb dX1_tips_5 (by decide) (fun c9 => ?_) (fun c9 => ?_)
  · rw [if_neg c9] at h
    refine lv_aload_n hx hb dX1_tips_10 rfl (lv_at hl 0 rfl) ?_
    refine lv_aload_n hx hb dX1_tips_11 rfl (lv_at hl 1 rfl) ?_
    refine va_getN (D := D) (ci := 8) (v := .int (q3.1 15 2)) (C := RX8) (T := TX8) (N := 5) hx hb hts u9_wsX1_tips_X8 hown hK hP 15 rfl rfl 2 (by decide) (hN.use (.fieldLinkNest "TurnedFloors$Judge" 40 "TurnedFloors$Tower" "floors" "I" "TurnedFloors") (by decide +kernel)) (fun _ h9 => h9) rfl dX1_tips_12 ?_
    refine lv_aload_n hx hb dX1_tips_15 rfl (lv_at hl 1 rfl) ?_
    refine va_getN (D := D) (ci := 8) (v := .int (q3.1 15 4)) (C := RX8) (T := TX8) (N := 5) hx hb hts u9_wsX1_tips_X8 hown hK hP 15 rfl rfl 4 (by decide) (hN.use (.fieldLinkNest "TurnedFloors$Judge" 44 "TurnedFloors$Tower" "year" "I" "TurnedFloors") (by decide +kernel)) (fun _ h9 => h9) rfl dX1_tips_16 ?_
    obtain ⟨q6, h5, h⟩ := dV_some h
    refine dw_kv (va_runV (As := [.int (q3.1 15 2), .int (q3.1 15 4)]) (rest := []) ⟨hx, hb, hml, hown, hts⟩ (qX1_setCommon_s20 l D ty eo _ ad q3 (q3.1 15 2) (q3.1 15 4) q6 h5) (cwV 2 hts gX1_tips_X1_setCommon rfl rfl rfl (by decide +kernel) ⟨Nat.le_of_ble_eq_true rfl, Nat.le_of_ble_eq_true rfl⟩) (dw_preV (ci := 1) (q0 := 20) hK hN hE hP hD hS hA rfl rfl) rfl rfl hl.1 rfl (lv_room (Nat.le_of_ble_eq_true rfl)) dX1_tips_19 ⟨Nat.le_of_ble_eq_true rfl, Nat.le_of_ble_eq_true rfl⟩) hD hS hA (fun u9 H locs hw hp hd hs => ?_)
    clear hP hD hS
    obtain rfl := hw
    have hP := hp; have hD := hd; have hS := hs; clear hp hd hs
    refine lv_aload_n hx hb dX1_tips_22 rfl (lv_at hl 0 rfl) ?_
    refine va_get (D := D) (ci := 1) (v := .ref (ad 21)) (C := RX1) (T := TX1) (N := 3) hx hb hts u9_wsX1_tips_X1 hown hK hP 20 rfl rfl 1 (by decide) (hts (.fieldLink RX1 11 "TurnedFloors$Judge" "words" "[I") f9_wsX1_tips_400) (fun _ h9 => h9) rfl dX1_tips_23 ?_
    refine lv_iconst (v := 0) hx hb dX1_tips_26 (by decide) ?_
    refine lv_iconst (v := (-1)) hx hb dX1_tips_27 (by decide) ?_
    refine va_iast hx hb hK hP hD hS 21 0 rfl rfl (by simp only [vp_in]; decide) dX1_tips_28 (fun H locs hp hd hs => ?_)
    obtain ⟨q7, eq7, h⟩ := dL_some h
    refine kz_re (w2 := wF ty ad q7) hp hd hs (by rw [(by decide +kernel : Int32.toNatClampNeg 0 = 0), ← eq7]; exact wF_a21 ty ad q6 0 (-1)) ?_
    clear hp hd hs hP hD hS
    intro hP hD hS
    refine lv_aload_n hx hb dX1_tips_29 rfl (lv_at hl 0 rfl) ?_
    refine va_get (D := D) (ci := 1) (v := .ref (ad 21)) (C := RX1) (T := TX1) (N := 3) hx hb hts u9_wsX1_tips_X1 hown hK hP 20 rfl rfl 1 (by decide) (hts (.fieldLink RX1 11 "TurnedFloors$Judge" "words" "[I") f9_wsX1_tips_400) (fun _ h9 => h9) rfl dX1_tips_30 ?_
    refine lv_iconst (v := 1) hx hb dX1_tips_33 (by decide) ?_
    refine lv_iconst (v := (-1)) hx hb dX1_tips_34 (by decide) ?_
    refine va_iast hx hb hK hP hD hS 21 0 rfl rfl (by simp only [vp_in]; decide) dX1_tips_35 (fun H locs hp hd hs => ?_)
    obtain ⟨q8, eq8, h⟩ := dL_some h
    refine kz_re (w2 := wF ty ad q8) hp hd hs (by rw [(by decide +kernel : Int32.toNatClampNeg 1 = 1), ← eq8]; exact wF_a21 ty ad q7 1 (-1)) ?_
    clear hp hd hs hP hD hS
    intro hP hD hS
    refine lv_aload_n hx hb dX1_tips_36 rfl (lv_at hl 0 rfl) ?_
    refine va_get (D := D) (ci := 1) (v := .ref (ad 21)) (C := RX1) (T := TX1) (N := 3) hx hb hts u9_wsX1_tips_X1 hown hK hP 20 rfl rfl 1 (by decide) (hts (.fieldLink RX1 11 "TurnedFloors$Judge" "words" "[I") f9_wsX1_tips_400) (fun _ h9 => h9) rfl dX1_tips_37 ?_
    refine lv_iconst (v := 2) hx hb dX1_tips_40 (by decide) ?_
    refine lv_iconst (v := (-1)) hx hb dX1_tips_41 (by decide) ?_
    refine va_iast hx hb hK hP hD hS 21 0 rfl rfl (by simp only [vp_in]; decide) dX1_tips_42 (fun H locs hp hd hs => ?_)
    obtain ⟨q9, eq9, h⟩ := dL_some h
    refine kz_re (w2 := wF ty ad q9) hp hd hs (by rw [(by decide +kernel : Int32.toNatClampNeg 2 = 2), ← eq9]; exact wF_a21 ty ad q8 2 (-1)) ?_
    clear hp hd hs hP hD hS
    intro hP hD hS
    refine lv_aload_n hx hb dX1_tips_43 rfl (lv_at hl 0 rfl) ?_
    refine va_get (D := D) (ci := 1) (v := .ref (ad 21)) (C := RX1) (T := TX1) (N := 3) hx hb hts u9_wsX1_tips_X1 hown hK hP 20 rfl rfl 1 (by decide) (hts (.fieldLink RX1 11 "TurnedFloors$Judge" "words" "[I") f9_wsX1_tips_400) (fun _ h9 => h9) rfl dX1_tips_44 ?_
    refine lv_iconst (v := 3) hx hb dX1_tips_47 (by decide) ?_
    refine lv_aload_n hx hb dX1_tips_48 rfl (lv_at hl 1 rfl) ?_
    refine va_getN (D := D) (ci := 8) (v := .ref (ad 17)) (C := RX8) (T := TX8) (N := 5) hx hb hts u9_wsX1_tips_X8 hown hK hP 15 rfl rfl 1 (by decide) (hN.use (.fieldLinkNest "TurnedFloors$Judge" 51 "TurnedFloors$Tower" "head" "[I" "TurnedFloors") (by decide +kernel)) (fun _ h9 => h9) rfl dX1_tips_49 ?_
    refine lv_iload_n hx hb dX1_tips_52 rfl (lv_at hl 2 rfl) ?_
    obtain ⟨g10, h⟩ := dG_some h
    refine va_iald hx hb hK hP 17 0 rfl rfl (dg_in g10) dX1_tips_53 ?_
    obtain ⟨v11, ev11, h⟩ := dL_some h
    refine kz_topi v11 ev11 ?_
    refine va_iast hx hb hK hP hD hS 21 0 rfl rfl (by simp only [vp_in]; decide) dX1_tips_54 (fun H locs hp hd hs => ?_)
    obtain ⟨q12, eq12, h⟩ := dL_some h
    refine kz_re (w2 := wF ty ad q12) hp hd hs (by rw [(by decide +kernel : Int32.toNatClampNeg 3 = 3), ← eq12]; exact wF_a21 ty ad q9 3 v11) ?_
    clear hp hd hs hP hD hS
    intro hP hD hS
    refine lv_aload_n hx hb dX1_tips_55 rfl (lv_at hl 0 rfl) ?_
    refine va_get (D := D) (ci := 1) (v := .ref (ad 21)) (C := RX1) (T := TX1) (N := 3) hx hb hts u9_wsX1_tips_X1 hown hK hP 20 rfl rfl 1 (by decide) (hts (.fieldLink RX1 11 "TurnedFloors$Judge" "words" "[I") f9_wsX1_tips_400) (fun _ h9 => h9) rfl dX1_tips_56 ?_
    refine lv_iconst (v := 5) hx hb dX1_tips_59 (by decide) ?_
    refine lv_aload_n hx hb dX1_tips_60 rfl (lv_at hl 1 rfl) ?_
    refine va_getN (D := D) (ci := 8) (v := .ref (ad 16)) (C := RX8) (T := TX8) (N := 5) hx hb hts u9_wsX1_tips_X8 hown hK hP 15 rfl rfl 0 (by decide) (hN.use (.fieldLinkNest "TurnedFloors$Judge" 54 "TurnedFloors$Tower" "rank" "[I" "TurnedFloors") (by decide +kernel)) (fun _ h9 => h9) rfl dX1_tips_61 ?_
    refine lv_iload_n hx hb dX1_tips_64 rfl (lv_at hl 2 rfl) ?_
    obtain ⟨g13, h⟩ := dG_some h
    refine va_iald hx hb hK hP 16 0 rfl rfl (dg_in g13) dX1_tips_65 ?_
    obtain ⟨v14, ev14, h⟩ := dL_some h
    refine kz_topi v14 ev14 ?_
    refine va_iast hx hb hK hP hD hS 21 0 rfl rfl (by simp only [vp_in]; decide) dX1_tips_66 (fun H locs hp hd hs => ?_)
    obtain ⟨q15, eq15, h⟩ := dL_some h
    refine kz_re (w2 := wF ty ad q15) hp hd hs (by rw [(by decide +kernel : Int32.toNatClampNeg 5 = 5), ← eq15]; exact wF_a21 ty ad q12 5 v14) ?_
    clear hp hd hs hP hD hS
    intro hP hD hS
    refine lv_aload_n hx hb dX1_tips_67 rfl (lv_at hl 0 rfl) ?_
    refine va_get (D := D) (ci := 1) (v := .ref (ad 21)) (C := RX1) (T := TX1) (N := 3) hx hb hts u9_wsX1_tips_X1 hown hK hP 20 rfl rfl 1 (by decide) (hts (.fieldLink RX1 11 "TurnedFloors$Judge" "words" "[I") f9_wsX1_tips_400) (fun _ h9 => h9) rfl dX1_tips_68 ?_
    refine lv_bipush (v := 6) hx hb dX1_tips_71 (by decide) ?_
    refine lv_iload_n hx hb dX1_tips_73 rfl (lv_at hl 2 rfl) ?_
    refine va_iast hx hb hK hP hD hS 21 0 rfl rfl (by simp only [vp_in]; decide) dX1_tips_74 (fun H locs hp hd hs => ?_)
    obtain ⟨q16, eq16, h⟩ := dL_some h
    refine kz_re (w2 := wF ty ad q16) hp hd hs (by rw [(by decide +kernel : Int32.toNatClampNeg 6 = 6), ← eq16]; exact wF_a21 ty ad q15 6 p2) ?_
    clear hp hd hs hP hD hS
    intro hP hD hS
    refine lv_aload_n hx hb dX1_tips_75 rfl (lv_at hl 0 rfl) ?_
    refine lv_iconst (v := 2) hx hb dX1_tips_76 (by decide) ?_
    obtain ⟨r17, q19, h18, h⟩ := dB_some h
    refine dw_ki (va_runV (As := [.int 2]) (rest := []) ⟨hx, hb, hml, hown, hts⟩ (qX1_anyHolds_s20 l D ty eo _ ad q16 2 r17 q19 h18) (cwV 1 hts gX1_tips_X1_anyHolds rfl rfl rfl (by decide +kernel) ⟨Nat.le_of_ble_eq_true rfl, Nat.le_of_ble_eq_true rfl⟩) (dw_preV (ci := 1) (q0 := 20) hK hN hE hP hD hS hA rfl rfl) rfl rfl hl.1 rfl (lv_room (Nat.le_of_ble_eq_true rfl)) dX1_tips_77 ⟨Nat.le_of_ble_eq_true rfl, Nat.le_of_ble_eq_true rfl⟩) hD hS hA (fun r9 u9 H locs hw hp hd hs => ?_)
    clear hP hD hS
    obtain ⟨rfl, rfl⟩ := hw
    have hP := hp; have hD := hd; have hS := hs; clear hp hd hs
    obtain ⟨g20, h⟩ := dG_some h
    cases h
    exact kz_zret hx hb hr hlocks (dbl_nar g20) hP hK hD hS dX1_tips_80 ⟨rfl, rfl⟩
  · rw [if_pos c9] at h
    refine lv_iconst (v := 0) hx hb dX1_tips_8 (by decide) ?_
    cases h
    exact kz_zret hx hb hr hlocks rfl hP hK hD hS dX1_tips_9 ⟨rfl, rfl⟩

set_option maxHeartbeats 4000000 in
set_option maxRecDepth 100000 in
theorem WX8_passYear_s15_s20_47b {p : Program} {l : Launch} {e : Env} {s : State} {m : MethodId} {args : Array Value} {below : List Frame} {meth : Method} {c : Code} {D : va_G} {ty : Nat → ClassId} {eo : Nat → Nat} {A : Nat → Prop} {ad : Nat → Nat} {o1 : Int32} {o2 : dK} (C : dc_C p s m args meth c cX8_passYear (some .int) 4 RX8 wsX8_passYear D ty eo A) {k47 : dK → Int32 → Int32 → Option (Int32 × dK)} (hk47 : ∀ (q : dK) (x2 : Int32) (x3 : Int32) (H : Heap) (locs : List Loc) (ls : Array Slot), k47 q x2 x3 = some (o1, o2) → va_P D vwCl (wF ty ad q) H → va_D A (wF ty ad q) → va_S A s.heap H locs → lv_has ls 4 [(0, .ref (ad 15)), (2, .int x2), (3, .int x3)] → W p l e ({ frames := 4, cells := 0, slots := 0, locals := 103 } : Room) s m args below meth c H locs 0 0 (MQ below (va_Qi (fun (r : Int32) (u : va_W) => o1 = r ∧ wF ty ad o2 = u) (kz_B D ty A) A) args s 0 0 A) (F0 m 47 ls [])) (q : dK) (x2 : Int32) (x3 : Int32) (H : Heap) (locs : List Loc) (ls : Array Slot) (h : zX8_passYear_s15_s20_47b k47 q x2 x3 = some (o1, o2)) (hP : va_P D vwCl (wF ty ad q) H) (hD : va_D A (wF ty ad q)) (hS : va_S A s.heap H locs) (hl : lv_has ls 4 [(0, .ref (ad 15)), (2, .int x2), (3, .int x3)]) : W p l e ({ frames := 4, cells := 0, slots := 0, locals := 103 } : Room) s m args below meth c H locs 0 0 (MQ below (va_Qi (fun (r : Int32) (u : va_W) => o1 = r ∧ wF ty ad o2 = u) (kz_B D ty A) A) args s 0 0 A) (F0 m 47 ls []) := by
  have C0 := C
  obtain ⟨hx, hb, hr, hts, hown, hlocks, hml, hK, hN, hE, hA⟩ := C
  unfold zX8_passYear_s15_s20_47b at h
  refine lv_iload_n hx hb dX8_passYear_47 rfl (lv_at hl 2 rfl) ?_
  refine lv_aload_n hx hb dX8_passYear_48 rfl (lv_at hl 0 rfl) ?_
  refine va_get (D := D) (ci := 8) (v := .int (q.1 15 2)) (C := RX8) (T := TX8) (N := 5) hx hb hts u9_wsX8_passYear_X8 hown hK hP 15 rfl rfl 2 (by decide) (hts (.fieldLink RX8 18 "TurnedFloors$Tower" "floors" "I") f9_wsX8_passYear_643) (fun _ h9 => h9) rfl dX8_passYear_49 ?_
  refine lv_icmp_ge (tgt := 75) hx hb dX8_passYear_52 (by decide) (fun c9 => ?_) (fun c9 => ?_)
  · rw [if_pos c9] at h
    refine lv_aload_n hx hb dX8_passYear_75 rfl (lv_at hl 0 rfl) ?_
    refine lv_dup hx hb dX8_passYear_76 rfl ?_
    refine va_get (D := D) (ci := 8) (v := .int (q.1 15 4)) (C := RX8) (T := TX8) (N := 5) hx hb hts u9_wsX8_passYear_X8 hown hK hP 15 rfl rfl 4 (by decide) (hts (.fieldLink RX8 25 "TurnedFloors$Tower" "year" "I") f9_wsX8_passYear_644) (fun _ h9 => h9) rfl dX8_passYear_77 ?_
    refine lv_iconst (v := 1) hx hb dX8_passYear_80 (by decide) ?_
    refine lv_iadd hx hb dX8_passYear_81 ?_
    refine va_put (D := D) (ci := 8) (v := .int ((q.1 15 4) + 1 : Int32)) (ty := .int) (C := RX8) (T := TX8) (N := 5) hx hb hts u9_wsX8_passYear_X8 tyX8 tyX8_ok nmX8 hown hK hP hD hS 15 rfl rfl 4 (by decide) (hts (.fieldLink RX8 25 "TurnedFloors$Tower" "year" "I") f9_wsX8_passYear_644) (fun _ h9 => h9) rfl (by decide +kernel) rfl rfl (Nat.le_of_ble_eq_true rfl) dX8_passYear_82 (fun H locs hp hd hs => ?_)
    obtain ⟨q1, eq1, h⟩ := dL_some h
    refine kz_re (w2 := wF ty ad q1) hp hd hs (by rw [← eq1]; exact wF_f15_4 ty ad q ((q.1 15 4) + 1 : Int32)) ?_
    clear hp hd hs hP hD hS
    intro hP hD hS
    refine lv_iload_n hx hb dX8_passYear_85 rfl (lv_at hl 1 rfl) ?_
    obtain ⟨r2, h3, h⟩ := dV_some h
    refine dw_ks (va_runS (As := [.int x2]) (rest := []) ⟨hx, hb, hml, hown, hts⟩ (qJ6_bitCount_0f7a4 l D ty eo _ x2 _ h3) (va_cwS 1 hts gX8_passYear_J6_bitCount_0f7a4 rfl rfl rfl (by decide +kernel) ⟨Nat.le_of_ble_eq_true rfl, Nat.le_of_ble_eq_true rfl⟩) (kz_preS hK hN hE hP hD hS hA [] (by decide) rfl) rfl rfl hl.1 rfl (lv_room (Nat.le_of_ble_eq_true rfl)) dX8_passYear_86 ⟨Nat.le_of_ble_eq_true rfl, Nat.le_of_ble_eq_true rfl⟩) hP hD hS hA (fun _ _ h9 => h9.2.symm) (fun r9 u9 H locs hw hp hd hs => ?_)
    obtain ⟨rfl, -⟩ := hw
    clear hP hD hS
    have hP := hp; have hD := hd; have hS := hs; clear hp hd hs
    cases h
    exact kz_iret hx hb hr hlocks hP hK hD hS dX8_passYear_89 ⟨rfl, rfl⟩
  · rw [if_neg c9] at h
    refine lv_aload_n hx hb dX8_passYear_55 rfl (lv_at hl 0 rfl) ?_
    refine va_get (D := D) (ci := 8) (v := .ref (ad 17)) (C := RX8) (T := TX8) (N := 5) hx hb hts u9_wsX8_passYear_X8 hown hK hP 15 rfl rfl 1 (by decide) (hts (.fieldLink RX8 15 "TurnedFloors$Tower" "head" "[I") f9_wsX8_passYear_645) (fun _ h9 => h9) rfl dX8_passYear_56 ?_
    refine lv_iload_n hx hb dX8_passYear_59 rfl (lv_at hl 2 rfl) ?_
    refine lv_dup2_11 hx hb dX8_passYear_60 rfl rfl ?_
    obtain ⟨g4, h⟩ := dG_some h
    refine va_iald hx hb hK hP 17 0 rfl rfl (dg_in g4) dX8_passYear_61 ?_
    obtain ⟨v5, ev5, h⟩ := dL_some h
    refine kz_topi v5 ev5 ?_
    refine lv_iload_n hx hb dX8_passYear_62 rfl (lv_at hl 1 rfl) ?_
    refine lv_iload_n hx hb dX8_passYear_63 rfl (lv_at hl 2 rfl) ?_
    refine lv_ishr hx hb dX8_passYear_64 ?_
    refine lv_iconst (v := 1) hx hb dX8_passYear_65 (by decide) ?_
    refine lv_iand hx hb dX8_passYear_66 ?_
    refine lv_ixor hx hb dX8_passYear_67 ?_
    obtain ⟨g6, h⟩ := dG_some h
    refine va_iast hx hb hK hP hD hS 17 0 rfl rfl (dg_in g6) dX8_passYear_68 (fun H locs hp hd hs => ?_)
    obtain ⟨q7, eq7, h⟩ := dL_some h
    refine kz_re (w2 := wF ty ad q7) hp hd hs (by rw [← eq7]; exact wF_a17 ty ad q (Int32.toNatClampNeg x3) (v5 ^^^ ((x2 >>> ((x3 : Int32) &&& 31)) &&& 1 : Int32))) ?_
    clear hp hd hs hP hD hS
    intro hP hD hS
    refine lv_iinc (v := x3 + 1) (lv' := [(3, .int (x3 + 1)), (0, .ref (ad 15)), (2, .int x2)]) hx hb dX8_passYear_69 hl (k := 2) rfl rfl (by decide) rfl (fun ls hl => ?_)
    refine lv_goto (tgt := 47) hx hb dX8_passYear_72 (by decide) ?_
    exact hk47 _ _ _ _ _ _ h hP hD hS (lv_sub hl [1, 2, 0] rfl)
set_option maxHeartbeats 4000000 in
set_option maxRecDepth 100000 in
theorem WX8_passYear_s15_s20_47 {p : Program} {l : Launch} {e : Env} {s : State} {m : MethodId} {args : Array Value} {below : List Frame} {meth : Method} {c : Code} {D : va_G} {ty : Nat → ClassId} {eo : Nat → Nat} {A : Nat → Prop} {ad : Nat → Nat} {o1 : Int32} {o2 : dK} (C : dc_C p s m args meth c cX8_passYear (some .int) 4 RX8 wsX8_passYear D ty eo A)   (n : Nat) (q : dK) (x2 : Int32) (x3 : Int32) (H : Heap) (locs : List Loc) (ls : Array Slot) (h : zX8_passYear_s15_s20_47  n q x2 x3 = some (o1, o2)) (hP : va_P D vwCl (wF ty ad q) H) (hD : va_D A (wF ty ad q)) (hS : va_S A s.heap H locs) (hl : lv_has ls 4 [(0, .ref (ad 15)), (2, .int x2), (3, .int x3)]) : W p l e ({ frames := 4, cells := 0, slots := 0, locals := 103 } : Room) s m args below meth c H locs 0 0 (MQ below (va_Qi (fun (r : Int32) (u : va_W) => o1 = r ∧ wF ty ad o2 = u) (kz_B D ty A) A) args s 0 0 A) (F0 m 47 ls []) := by
  exact dFix_W (F := fun k (a : dK × Int32 × Int32) => zX8_passYear_s15_s20_47b  (fun q x2 x3 => k (q, x2, x3)) a.1 a.2.1 a.2.2) (o := (o1, o2)) (P := fun (a : dK × Int32 × Int32) H locs ls => va_P D vwCl (wF ty ad a.1) H ∧ va_D A (wF ty ad a.1) ∧ va_S A s.heap H locs ∧ lv_has ls 4 [(0, .ref (ad 15)), (2, .int a.2.1), (3, .int a.2.2)]) (G := fun H locs ls => W p l e ({ frames := 4, cells := 0, slots := 0, locals := 103 } : Room) s m args below meth c H locs 0 0 (MQ below (va_Qi (fun (r : Int32) (u : va_W) => o1 = r ∧ wF ty ad o2 = u) (kz_B D ty A) A) args s 0 0 A) (F0 m 47 ls []))
    (fun k hk a H locs ls h hp => WX8_passYear_s15_s20_47b C  (fun q x2 x3 H locs ls h h1 h2 h3 h4 => hk (q, x2, x3) H locs ls h ⟨h1, h2, h3, h4⟩) a.1 a.2.1 a.2.2 H locs ls h hp.1 hp.2.1 hp.2.2.1 hp.2.2.2) n (q, x2, x3) H locs ls h ⟨hP, hD, hS, hl⟩
set_option maxHeartbeats 4000000 in
set_option maxRecDepth 100000 in
theorem WX8_passYear_s15_s20_17b {p : Program} {l : Launch} {e : Env} {s : State} {m : MethodId} {args : Array Value} {below : List Frame} {meth : Method} {c : Code} {D : va_G} {ty : Nat → ClassId} {eo : Nat → Nat} {A : Nat → Prop} {ad : Nat → Nat} {o1 : Int32} {o2 : dK} (C : dc_C p s m args meth c cX8_passYear (some .int) 4 RX8 wsX8_passYear D ty eo A) {k17 : dK → Int32 → Int32 → Option (Int32 × dK)} (hk17 : ∀ (q : dK) (x2 : Int32) (x3 : Int32) (H : Heap) (locs : List Loc) (ls : Array Slot), k17 q x2 x3 = some (o1, o2) → va_P D vwCl (wF ty ad q) H → va_D A (wF ty ad q) → va_S A s.heap H locs → lv_has ls 4 [(0, .ref (ad 15)), (1, .ref (ad 20)), (2, .int x2), (3, .int x3)] → W p l e ({ frames := 4, cells := 0, slots := 0, locals := 103 } : Room) s m args below meth c H locs 0 0 (MQ below (va_Qi (fun (r : Int32) (u : va_W) => o1 = r ∧ wF ty ad o2 = u) (kz_B D ty A) A) args s 0 0 A) (F0 m 17 ls [])) (q : dK) (x2 : Int32) (x3 : Int32) (H : Heap) (locs : List Loc) (ls : Array Slot) (h : zX8_passYear_s15_s20_17b k17 q x2 x3 = some (o1, o2)) (hP : va_P D vwCl (wF ty ad q) H) (hD : va_D A (wF ty ad q)) (hS : va_S A s.heap H locs) (hl : lv_has ls 4 [(0, .ref (ad 15)), (1, .ref (ad 20)), (2, .int x2), (3, .int x3)]) : W p l e ({ frames := 4, cells := 0, slots := 0, locals := 103 } : Room) s m args below meth c H locs 0 0 (MQ below (va_Qi (fun (r : Int32) (u : va_W) => o1 = r ∧ wF ty ad o2 = u) (kz_B D ty A) A) args s 0 0 A) (F0 m 17 ls []) := by
  have C0 := C
  obtain ⟨hx, hb, hr, hts, hown, hlocks, hml, hK, hN, hE, hA⟩ := C
  unfold zX8_passYear_s15_s20_17b at h
  refine lv_iload_n hx hb dX8_passYear_17 rfl (lv_at hl 3 rfl) ?_
  refine lv_aload_n hx hb dX8_passYear_18 rfl (lv_at hl 0 rfl) ?_
  refine va_get (D := D) (ci := 8) (v := .int (q.1 15 2)) (C := RX8) (T := TX8) (N := 5) hx hb hts u9_wsX8_passYear_X8 hown hK hP 15 rfl rfl 2 (by decide) (hts (.fieldLink RX8 18 "TurnedFloors$Tower" "floors" "I") f9_wsX8_passYear_643) (fun _ h9 => h9) rfl dX8_passYear_19 ?_
  refine lv_icmp_ge (tgt := 45) hx hb dX8_passYear_22 (by decide) (fun c9 => ?_) (fun c9 => ?_)
  · rw [if_pos c9] at h
    refine lv_iconst (v := 0) hx hb dX8_passYear_45 (by decide) ?_
    refine lv_istore_n (lv' := [(3, .int 0), (0, .ref (ad 15)), (1, .ref (ad 20)), (2, .int x2)]) hx hb dX8_passYear_46 rfl hl (by decide) rfl (fun ls hl => ?_)
    exact WX8_passYear_s15_s20_47 C0  _ _ _ _ _ _ _ h hP hD hS (lv_sub hl [1, 3, 0] rfl)
  · rw [if_neg c9] at h
    refine lv_iload_n hx hb dX8_passYear_25 rfl (lv_at hl 2 rfl) ?_
    refine lv_aload_n hx hb dX8_passYear_26 rfl (lv_at hl 1 rfl) ?_
    refine lv_aload_n hx hb dX8_passYear_27 rfl (lv_at hl 0 rfl) ?_
    refine lv_iload_n hx hb dX8_passYear_28 rfl (lv_at hl 3 rfl) ?_
    obtain ⟨r1, q3, h2, h⟩ := dB_some h
    refine dw_ki (va_runV (As := [.ref (ad 15), .int x3]) (rest := [.int x2]) ⟨hx, hb, hml, hown, hts⟩ (qX1_tips_s20_s15 l D ty eo _ ad q x3 r1 q3 h2) (cwV 2 hts gX8_passYear_X1_tips rfl rfl rfl (by decide +kernel) ⟨Nat.le_of_ble_eq_true rfl, Nat.le_of_ble_eq_true rfl⟩) (dw_preV (ci := 1) (q0 := 20) hK hN hE hP hD hS hA rfl rfl) rfl rfl hl.1 rfl (lv_room (Nat.le_of_ble_eq_true rfl)) dX8_passYear_29 ⟨Nat.le_of_ble_eq_true rfl, Nat.le_of_ble_eq_true rfl⟩) hD hS hA (fun r9 u9 H locs hw hp hd hs => ?_)
    clear hP hD hS
    obtain ⟨rfl, rfl⟩ := hw
    have hP := hp; have hD := hd; have hS := hs; clear hp hd hs
    obtain ⟨r4, h5, h⟩ := dV_some h
    refine dw_ks (va_runSN (As := [.int r1]) (rest := [.int x2]) ⟨hx, hb, hml, hown, hts⟩ (qX9_bit l D ty eo _ r1 _ h5) ⟨va_cnB 1 hts gX8_passYear_X9_bit_n79 rfl rfl rfl (hN.1 _ (by decide +kernel : (.methodLinkNest "TurnedFloors$Tower" 79 yX9_bit "TurnedFloors" : Cond) ∈ kzN1)) (hts (.initialized RX9) f9_wsX8_passYear_646) (by decide +kernel) ⟨Nat.le_of_ble_eq_true rfl, Nat.le_of_ble_eq_true rfl⟩, hts (.static yX9_bit) (by decide +kernel), trivial⟩ (kz_preS hK hN hE hP hD hS hA [] (by decide) rfl) rfl rfl hl.1 rfl (lv_room (Nat.le_of_ble_eq_true rfl)) dX8_passYear_32 ⟨Nat.le_of_ble_eq_true rfl, Nat.le_of_ble_eq_true rfl⟩) hP hD hS hA (fun _ _ h9 => h9.2.symm) (fun r9 u9 H locs hw hp hd hs => ?_)
    obtain ⟨rfl, -⟩ := hw
    clear hP hD hS
    have hP := hp; have hD := hd; have hS := hs; clear hp hd hs
    refine lv_iload_n hx hb dX8_passYear_35 rfl (lv_at hl 3 rfl) ?_
    refine lv_ishl hx hb dX8_passYear_36 ?_
    refine lv_ior hx hb dX8_passYear_37 ?_
    refine lv_istore_n (lv' := [(2, .int (x2 ||| (r4 <<< ((x3 : Int32) &&& 31)))), (0, .ref (ad 15)), (1, .ref (ad 20)), (3, .int x3)]) hx hb dX8_passYear_38 rfl hl (by decide) rfl (fun ls hl => ?_)
    refine lv_iinc (v := x3 + 1) (lv' := [(3, .int (x3 + 1)), (2, .int (x2 ||| (r4 <<< ((x3 : Int32) &&& 31)))), (0, .ref (ad 15)), (1, .ref (ad 20))]) hx hb dX8_passYear_39 hl (k := 3) rfl rfl (by decide) rfl (fun ls hl => ?_)
    refine lv_goto (tgt := 17) hx hb dX8_passYear_42 (by decide) ?_
    exact hk17 _ _ _ _ _ _ h hP hD hS (lv_sub hl [2, 3, 1, 0] rfl)
set_option maxHeartbeats 4000000 in
set_option maxRecDepth 100000 in
theorem WX8_passYear_s15_s20_17 {p : Program} {l : Launch} {e : Env} {s : State} {m : MethodId} {args : Array Value} {below : List Frame} {meth : Method} {c : Code} {D : va_G} {ty : Nat → ClassId} {eo : Nat → Nat} {A : Nat → Prop} {ad : Nat → Nat} {o1 : Int32} {o2 : dK} (C : dc_C p s m args meth c cX8_passYear (some .int) 4 RX8 wsX8_passYear D ty eo A)   (n : Nat) (q : dK) (x2 : Int32) (x3 : Int32) (H : Heap) (locs : List Loc) (ls : Array Slot) (h : zX8_passYear_s15_s20_17  n q x2 x3 = some (o1, o2)) (hP : va_P D vwCl (wF ty ad q) H) (hD : va_D A (wF ty ad q)) (hS : va_S A s.heap H locs) (hl : lv_has ls 4 [(0, .ref (ad 15)), (1, .ref (ad 20)), (2, .int x2), (3, .int x3)]) : W p l e ({ frames := 4, cells := 0, slots := 0, locals := 103 } : Room) s m args below meth c H locs 0 0 (MQ below (va_Qi (fun (r : Int32) (u : va_W) => o1 = r ∧ wF ty ad o2 = u) (kz_B D ty A) A) args s 0 0 A) (F0 m 17 ls []) := by
  exact dFix_W (F := fun k (a : dK × Int32 × Int32) => zX8_passYear_s15_s20_17b  (fun q x2 x3 => k (q, x2, x3)) a.1 a.2.1 a.2.2) (o := (o1, o2)) (P := fun (a : dK × Int32 × Int32) H locs ls => va_P D vwCl (wF ty ad a.1) H ∧ va_D A (wF ty ad a.1) ∧ va_S A s.heap H locs ∧ lv_has ls 4 [(0, .ref (ad 15)), (1, .ref (ad 20)), (2, .int a.2.1), (3, .int a.2.2)]) (G := fun H locs ls => W p l e ({ frames := 4, cells := 0, slots := 0, locals := 103 } : Room) s m args below meth c H locs 0 0 (MQ below (va_Qi (fun (r : Int32) (u : va_W) => o1 = r ∧ wF ty ad o2 = u) (kz_B D ty A) A) args s 0 0 A) (F0 m 17 ls []))
    (fun k hk a H locs ls h hp => WX8_passYear_s15_s20_17b C  (fun q x2 x3 H locs ls h h1 h2 h3 h4 => hk (q, x2, x3) H locs ls h ⟨h1, h2, h3, h4⟩) a.1 a.2.1 a.2.2 H locs ls h hp.1 hp.2.1 hp.2.2.1 hp.2.2.2) n (q, x2, x3) H locs ls h ⟨hP, hD, hS, hl⟩
set_option maxHeartbeats 4000000 in
set_option maxRecDepth 100000 in
theorem qX8_passYear_s15_s20 (l : Launch) (D : va_G) (ty : Nat → ClassId) (eo : Nat → Nat) (sz : Nat) (ad : Nat → Nat) (q : dK)  (o1 : Int32) (o2 : dK) (h : zX8_passYear_s15_s20 q = some (o1, o2)) : Met l yX8_passYear wsX8_passYear ({ frames := 4, cells := 0, slots := 0, locals := 103 } : Room) (va_Pc [.ref (ad 15), .ref (ad 20)] (kz_pre D ty eo (wF ty ad q) sz)) (va_Qi (fun (r : Int32) (u : va_W) => o1 = r ∧ wF ty ad o2 = u) (kz_B D ty (va_A (wF ty ad q) sz)) (va_A (wF ty ad q) sz)) 0 0 (va_A (wF ty ad q) sz) := by
  refine Met.ofW (cc := cX8_passYear) (maxL := 4) (ret := (some .int)) (by decide) rfl ?_
  intro p e s m args below meth c s₁ B hml hv
  obtain ⟨rfl, hsz, hP, hK, hD0, hN, hE⟩ := hv
  have hx := B.exec
  have hb := B.bytes
  have hr := B.returns
  have hts := atoms_spec (ws := wsX8_passYear) B.pre
  have hown : s.vm.findClass RX8 = some m.cls := findClass_of_methodNamed B.named
  have hlocks := B.notSynchronized
  subst hsz
  have hD := hD0.self (sz := s.heap.size)
  generalize hAe : va_A (wF ty ad q) s.heap.size = A at hD hE ⊢
  have hA : ∀ q : Nat, s.heap.size ≤ q → A q := fun q h => by rw [← hAe]; exact Or.inr h
  clear hAe
  have hS : va_S A s.heap s.heap [] := va_S.rf
  have hl := lv_entry ([.ref (ad 15), .ref (ad 20)]) (n := 4) (Nat.le_of_ble_eq_true rfl)
  rw [lg_entry_eq]
  generalize (lg_sl ([.ref (ad 15), .ref (ad 20)]) ++ List.replicate (4 - (lg_sl ([.ref (ad 15), .ref (ad 20)])).length) Slot.unset).toArray = ls at hl ⊢
  have hl : lv_has ls 4 [(0, .ref (ad 15)), (1, .ref (ad 20))] := hl
  have C : dc_C p s m _ meth c cX8_passYear (some .int) 4 RX8 wsX8_passYear D ty eo A := ⟨hx, hb, hr, hts, hown, hlocks, hml, hK, hN, hE, hA⟩
  unfold zX8_passYear_s15_s20 at h
  refine lv_aload_n hx hb dX8_passYear_0 rfl (lv_at hl 0 rfl) ?_
  refine va_get (D := D) (ci := 8) (v := .int (q.1 15 4)) (C := RX8) (T := TX8) (N := 5) hx hb hts u9_wsX8_passYear_X8 hown hK hP 15 rfl rfl 4 (by decide) (hts (.fieldLink RX8 25 "TurnedFloors$Tower" "year" "I") f9_wsX8_passYear_644) (fun _ h9 => h9) rfl dX8_passYear_1 ?_
  refine lv_sipush (v := 999) hx hb dX8_passYear_4 (by decide) ?_
  refine lv_icmp_lt (tgt := 13) hx hb dX8_passYear_7 (by decide) (fun c9 => ?_) (fun c9 => ?_)
  · rw [if_pos c9] at h
    refine lv_iconst (v := 0) hx hb dX8_passYear_13 (by decide) ?_
    refine lv_istore_n (lv' := [(2, .int 0), (0, .ref (ad 15)), (1, .ref (ad 20))]) hx hb dX8_passYear_14 rfl hl (by decide) rfl (fun ls hl => ?_)
    refine lv_iconst (v := 0) hx hb dX8_passYear_15 (by decide) ?_
    refine lv_istore_n (lv' := [(3, .int 0), (2, .int 0), (0, .ref (ad 15)), (1, .ref (ad 20))]) hx hb dX8_passYear_16 rfl hl (by decide) rfl (fun ls hl => ?_)
    exact WX8_passYear_s15_s20_17 C  _ _ _ _ _ _ _ h hP hD hS (lv_sub hl [2, 3, 1, 0] rfl)
  · rw [if_neg c9] at h
    refine lv_bipush (v := (-3)) hx hb dX8_passYear_10 (by decide) ?_
    cases h
    exact kz_iret hx hb hr hlocks hP hK hD hS dX8_passYear_12 ⟨rfl, rfl⟩

set_option maxHeartbeats 4000000 in
set_option maxRecDepth 100000 in
theorem qX8_act_s15_s20 (l : Launch) (D : va_G) (ty : Nat → ClassId) (eo : Nat → Nat) (sz : Nat) (ad : Nat → Nat) (q : dK) (p1 : Int32) (p2 : Int32) (o1 : Int32) (o2 : dK) (h : zX8_act_s15_s20 q p1 p2 = some (o1, o2)) : Met l yX8_act wsX8_act ({ frames := 5, cells := 0, slots := 0, locals := 128 } : Room) (va_Pc [.ref (ad 15), .int p1, .int p2, .ref (ad 20)] (kz_pre D ty eo (wF ty ad q) sz)) (va_Qi (fun (r : Int32) (u : va_W) => o1 = r ∧ wF ty ad o2 = u) (kz_B D ty (va_A (wF ty ad q) sz)) (va_A (wF ty ad q) sz)) 0 0 (va_A (wF ty ad q) sz) := by
  refine Met.ofW (cc := cX8_act) (maxL := 4) (ret := (some .int)) (by decide) rfl ?_
  intro p e s m args below meth c s₁ B hml hv
  obtain ⟨rfl, hsz, hP, hK, hD0, hN, hE⟩ := hv
  have hx := B.exec
  have hb := B.bytes
  have hr := B.returns
  have hts := atoms_spec (ws := wsX8_act) B.pre
  have hown : s.vm.findClass RX8 = some m.cls := findClass_of_methodNamed B.named
  have hlocks := B.notSynchronized
  subst hsz
  have hD := hD0.self (sz := s.heap.size)
  generalize hAe : va_A (wF ty ad q) s.heap.size = A at hD hE ⊢
  have hA : ∀ q : Nat, s.heap.size ≤ q → A q := fun q h => by rw [← hAe]; exact Or.inr h
  clear hAe
  have hS : va_S A s.heap s.heap [] := va_S.rf
  have hl := lv_entry ([.ref (ad 15), .int p1, .int p2, .ref (ad 20)]) (n := 4) (Nat.le_of_ble_eq_true rfl)
  rw [lg_entry_eq]
  generalize (lg_sl ([.ref (ad 15), .int p1, .int p2, .ref (ad 20)]) ++ List.replicate (4 - (lg_sl ([.ref (ad 15), .int p1, .int p2, .ref (ad 20)])).length) Slot.unset).toArray = ls at hl ⊢
  have hl : lv_has ls 4 [(0, .ref (ad 15)), (1, .int p1), (2, .int p2), (3, .ref (ad 20))] := hl
  have C : dc_C p s m _ meth c cX8_act (some .int) 4 RX8 wsX8_act D ty eo A := ⟨hx, hb, hr, hts, hown, hlocks, hml, hK, hN, hE, hA⟩
  unfold zX8_act_s15_s20 at h
  refine lv_iload_n hx hb dX8_act_0 rfl (lv_at hl 1 rfl) ?_
  by_cases c1 : p1 = 0
  · rw [if_pos c1] at h
    refine lv_tableIn (off := 31) (tgt := 32) hx hb dX8_act_1 (by rw [c1]; decide) (by rw [c1]; decide) (by rw [c1]; decide) (by decide) ?_
    refine lv_aload_n hx hb dX8_act_32 rfl (lv_at hl 0 rfl) ?_
    refine lv_iload_n hx hb dX8_act_33 rfl (lv_at hl 2 rfl) ?_
    refine lv_aload_n hx hb dX8_act_34 rfl (lv_at hl 3 rfl) ?_
    obtain ⟨r2, q4, h3, h⟩ := dB_some h
    refine dw_ki (va_runV (As := [.int p2, .ref (ad 20)]) (rest := []) ⟨hx, hb, hml, hown, hts⟩ (qX8_turnTop_s15_s20 l D ty eo _ ad q p2 r2 q4 h3) (cwV 2 hts gX8_act_X8_turnTop rfl rfl rfl (by decide +kernel) ⟨Nat.le_of_ble_eq_true rfl, Nat.le_of_ble_eq_true rfl⟩) (dw_preV (ci := 8) (q0 := 15) hK hN hE hP hD hS hA rfl rfl) rfl rfl hl.1 rfl (lv_room (Nat.le_of_ble_eq_true rfl)) dX8_act_35 ⟨Nat.le_of_ble_eq_true rfl, Nat.le_of_ble_eq_true rfl⟩) hD hS hA (fun r9 u9 H locs hw hp hd hs => ?_)
    clear hP hD hS
    obtain ⟨rfl, rfl⟩ := hw
    have hP := hp; have hD := hd; have hS := hs; clear hp hd hs
    cases h
    exact kz_iret hx hb hr hlocks hP hK hD hS dX8_act_38 ⟨rfl, rfl⟩
  rw [if_neg c1] at h
  by_cases c5 : p1 = 1
  · rw [if_pos c5] at h
    refine lv_tableIn (off := 38) (tgt := 39) hx hb dX8_act_1 (by rw [c5]; decide) (by rw [c5]; decide) (by rw [c5]; decide) (by decide) ?_
    refine lv_aload_n hx hb dX8_act_39 rfl (lv_at hl 0 rfl) ?_
    refine lv_iload_n hx hb dX8_act_40 rfl (lv_at hl 2 rfl) ?_
    obtain ⟨r6, q8, h7, h⟩ := dB_some h
    refine dw_ki (va_runV (As := [.int p2]) (rest := []) ⟨hx, hb, hml, hown, hts⟩ (qX8_rightAt_s15 l D ty eo _ ad q p2 r6 q8 h7) (cwV 1 hts gX8_act_X8_rightAt rfl rfl rfl (by decide +kernel) ⟨Nat.le_of_ble_eq_true rfl, Nat.le_of_ble_eq_true rfl⟩) (dw_preV (ci := 8) (q0 := 15) hK hN hE hP hD hS hA rfl rfl) rfl rfl hl.1 rfl (lv_room (Nat.le_of_ble_eq_true rfl)) dX8_act_41 ⟨Nat.le_of_ble_eq_true rfl, Nat.le_of_ble_eq_true rfl⟩) hD hS hA (fun r9 u9 H locs hw hp hd hs => ?_)
    clear hP hD hS
    obtain ⟨rfl, rfl⟩ := hw
    have hP := hp; have hD := hd; have hS := hs; clear hp hd hs
    cases h
    exact kz_iret hx hb hr hlocks hP hK hD hS dX8_act_44 ⟨rfl, rfl⟩
  rw [if_neg c5] at h
  by_cases c9 : p1 = 2
  · rw [if_pos c9] at h
    refine lv_tableIn (off := 44) (tgt := 45) hx hb dX8_act_1 (by rw [c9]; decide) (by rw [c9]; decide) (by rw [c9]; decide) (by decide) ?_
    refine lv_aload_n hx hb dX8_act_45 rfl (lv_at hl 0 rfl) ?_
    refine lv_iload_n hx hb dX8_act_46 rfl (lv_at hl 2 rfl) ?_
    obtain ⟨r10, q12, h11, h⟩ := dB_some h
    refine dw_ki (va_runV (As := [.int p2]) (rest := []) ⟨hx, hb, hml, hown, hts⟩ (qX8_swapAt_s15 l D ty eo _ ad q p2 r10 q12 h11) (cwV 1 hts gX8_act_X8_swapAt rfl rfl rfl (by decide +kernel) ⟨Nat.le_of_ble_eq_true rfl, Nat.le_of_ble_eq_true rfl⟩) (dw_preV (ci := 8) (q0 := 15) hK hN hE hP hD hS hA rfl rfl) rfl rfl hl.1 rfl (lv_room (Nat.le_of_ble_eq_true rfl)) dX8_act_47 ⟨Nat.le_of_ble_eq_true rfl, Nat.le_of_ble_eq_true rfl⟩) hD hS hA (fun r9 u9 H locs hw hp hd hs => ?_)
    clear hP hD hS
    obtain ⟨rfl, rfl⟩ := hw
    have hP := hp; have hD := hd; have hS := hs; clear hp hd hs
    cases h
    exact kz_iret hx hb hr hlocks hP hK hD hS dX8_act_50 ⟨rfl, rfl⟩
  rw [if_neg c9] at h
  by_cases c13 : p1 = 3
  · rw [if_pos c13] at h
    refine lv_tableIn (off := 50) (tgt := 51) hx hb dX8_act_1 (by rw [c13]; decide) (by rw [c13]; decide) (by rw [c13]; decide) (by decide) ?_
    refine lv_aload_n hx hb dX8_act_51 rfl (lv_at hl 0 rfl) ?_
    refine lv_aload_n hx hb dX8_act_52 rfl (lv_at hl 3 rfl) ?_
    obtain ⟨r14, q16, h15, h⟩ := dB_some h
    refine dw_ki (va_runV (As := [.ref (ad 20)]) (rest := []) ⟨hx, hb, hml, hown, hts⟩ (qX8_passYear_s15_s20 l D ty eo _ ad q  r14 q16 h15) (cwV 1 hts gX8_act_X8_passYear rfl rfl rfl (by decide +kernel) ⟨Nat.le_of_ble_eq_true rfl, Nat.le_of_ble_eq_true rfl⟩) (dw_preV (ci := 8) (q0 := 15) hK hN hE hP hD hS hA rfl rfl) rfl rfl hl.1 rfl (lv_room (Nat.le_of_ble_eq_true rfl)) dX8_act_53 ⟨Nat.le_of_ble_eq_true rfl, Nat.le_of_ble_eq_true rfl⟩) hD hS hA (fun r9 u9 H locs hw hp hd hs => ?_)
    clear hP hD hS
    obtain ⟨rfl, rfl⟩ := hw
    have hP := hp; have hD := hd; have hS := hs; clear hp hd hs
    cases h
    exact kz_iret hx hb hr hlocks hP hK hD hS dX8_act_56 ⟨rfl, rfl⟩
  rw [if_neg c13] at h
  refine lv_tableOut (tgt := 57) hx hb dX8_act_1 (by simp only [← Int32.toInt_inj, Int32.reduceToInt] at c1 c5 c9 c13; omega) (by decide) ?_
  refine lv_bipush (v := (-3)) hx hb dX8_act_57 (by decide) ?_
  cases h
  exact kz_iret hx hb hr hlocks hP hK hD hS dX8_act_59 ⟨rfl, rfl⟩

set_option maxHeartbeats 4000000 in
set_option maxRecDepth 100000 in
theorem WX9_years_s0_172 {p : Program} {l : Launch} {e : Env} {s : State} {m : MethodId} {args : Array Value} {below : List Frame} {meth : Method} {c : Code} {D : va_G} {ty : Nat → ClassId} {eo : Nat → Nat} {A : Nat → Prop} {ad : Nat → Nat} {o1 : Int32} {o2 : dK} (C : dc_C p s m args meth c cX9_years (some .int) 6 RX9 wsX9_years D ty eo A)   (q : dK)  (H : Heap) (locs : List Loc) (ls : Array Slot) (h : zX9_years_s0_172  q = some (o1, o2)) (hP : va_P D vwCl (wF ty ad q) H) (hD : va_D A (wF ty ad q)) (hS : va_S A s.heap H locs) (hl : lv_has ls 6 [(0, .ref (ad 0))]) : W p l e ({ frames := 6, cells := 0, slots := 0, locals := 151 } : Room) s m args below meth c H locs 0 0 (MQ below (va_Qi (fun (r : Int32) (u : va_W) => o1 = r ∧ wF ty ad o2 = u) (kz_B D ty A) A) args s 0 0 A) (F0 m 172 ls []) := by
  have C0 := C
  obtain ⟨hx, hb, hr, hts, hown, hlocks, hml, hK, hN, hE, hA⟩ := C
  unfold zX9_years_s0_172 at h
  refine lv_aload_n hx hb dX9_years_172 rfl (lv_at hl 0 rfl) ?_
  refine lv_aload_n hx hb dX9_years_173 rfl (lv_at hl 0 rfl) ?_
  refine va_get (D := D) (ci := 9) (v := .ref (ad 15)) (C := RX9) (T := TX9) (N := 19) hx hb hts u9_wsX9_years_X9 hown hK hP 0 rfl rfl 4 (by decide) (hts (.fieldLink RX9 34 "TurnedFloors" "drawnTower" "LTurnedFloors$Tower;") f9_wsX9_years_937) (fun _ h9 => h9) rfl dX9_years_174 ?_
  refine va_getN (D := D) (ci := 8) (v := .int (q.1 15 3)) (C := RX8) (T := TX8) (N := 5) hx hb hts u9_wsX9_years_X8 hown hK hP 15 rfl rfl 3 (by decide) (hN.use (.fieldLinkNest "TurnedFloors" 329 "TurnedFloors$Tower" "paid" "I" "TurnedFloors") (by decide +kernel)) (fun _ h9 => h9) rfl dX9_years_177 ?_
  refine lv_aload_n hx hb dX9_years_180 rfl (lv_at hl 0 rfl) ?_
  refine va_get (D := D) (ci := 9) (v := .ref (ad 1)) (C := RX9) (T := TX9) (N := 19) hx hb hts u9_wsX9_years_X9 hown hK hP 0 rfl rfl 0 (by decide) (hts (.fieldLink RX9 10 "TurnedFloors" "state" "LTurnedFloors$State;") f9_wsX9_years_938) (fun _ h9 => h9) rfl dX9_years_181 ?_
  refine va_getN (D := D) (ci := 6) (v := .ref (ad 2)) (C := RX6) (T := TX6) (N := 10) hx hb hts u9_wsX9_years_X6 hown hK hP 1 rfl rfl 0 (by decide) (hN.use (.fieldLinkNest "TurnedFloors" 122 "TurnedFloors$State" "tower" "LTurnedFloors$Tower;" "TurnedFloors") (by decide +kernel)) (fun _ h9 => h9) rfl dX9_years_184 ?_
  refine va_getN (D := D) (ci := 8) (v := .int (q.1 2 3)) (C := RX8) (T := TX8) (N := 5) hx hb hts u9_wsX9_years_X8 hown hK hP 2 rfl rfl 3 (by decide) (hN.use (.fieldLinkNest "TurnedFloors" 329 "TurnedFloors$Tower" "paid" "I" "TurnedFloors") (by decide +kernel)) (fun _ h9 => h9) rfl dX9_years_187 ?_
  refine lv_isub hx hb dX9_years_190 ?_
  obtain ⟨r1, q3, h2, h⟩ := dB_some h
  refine dw_ki (va_runV (As := [.int ((q.1 15 3) - (q.1 2 3))]) (rest := []) ⟨hx, hb, hml, hown, hts⟩ (qX9_accept_s0 l D ty eo _ ad q ((q.1 15 3) - (q.1 2 3)) r1 q3 h2) (cwV 1 hts gX9_years_X9_accept rfl rfl rfl (by decide +kernel) ⟨Nat.le_of_ble_eq_true rfl, Nat.le_of_ble_eq_true rfl⟩) (dw_preV (ci := 9) (q0 := 0) hK hN hE hP hD hS hA rfl rfl) rfl rfl hl.1 rfl (lv_room (Nat.le_of_ble_eq_true rfl)) dX9_years_191 ⟨Nat.le_of_ble_eq_true rfl, Nat.le_of_ble_eq_true rfl⟩) hD hS hA (fun r9 u9 H locs hw hp hd hs => ?_)
  clear hP hD hS
  obtain ⟨rfl, rfl⟩ := hw
  have hP := hp; have hD := hd; have hS := hs; clear hp hd hs
  cases h
  exact kz_iret hx hb hr hlocks hP hK hD hS dX9_years_194 ⟨rfl, rfl⟩
set_option maxHeartbeats 4000000 in
set_option maxRecDepth 100000 in
theorem WX9_years_s0_152 {p : Program} {l : Launch} {e : Env} {s : State} {m : MethodId} {args : Array Value} {below : List Frame} {meth : Method} {c : Code} {D : va_G} {ty : Nat → ClassId} {eo : Nat → Nat} {A : Nat → Prop} {ad : Nat → Nat} {o1 : Int32} {o2 : dK} (C : dc_C p s m args meth c cX9_years (some .int) 6 RX9 wsX9_years D ty eo A) {k75 : dK → Int32 → Int32 → Int32 → Option (Int32 × dK)} (hk75 : ∀ (q : dK) (x2 : Int32) (x3 : Int32) (x4 : Int32) (H : Heap) (locs : List Loc) (ls : Array Slot), k75 q x2 x3 x4 = some (o1, o2) → va_P D vwCl (wF ty ad q) H → va_D A (wF ty ad q) → va_S A s.heap H locs → lv_has ls 6 [(0, .ref (ad 0)), (2, .int x2), (3, .int x3), (4, .int x4)] → W p l e ({ frames := 6, cells := 0, slots := 0, locals := 151 } : Room) s m args below meth c H locs 0 0 (MQ below (va_Qi (fun (r : Int32) (u : va_W) => o1 = r ∧ wF ty ad o2 = u) (kz_B D ty A) A) args s 0 0 A) (F0 m 75 ls [])) (q : dK) (x2 : Int32) (x3 : Int32) (x4 : Int32) (H : Heap) (locs : List Loc) (ls : Array Slot) (h : zX9_years_s0_152 k75 q x2 x3 x4 = some (o1, o2)) (hP : va_P D vwCl (wF ty ad q) H) (hD : va_D A (wF ty ad q)) (hS : va_S A s.heap H locs) (hl : lv_has ls 6 [(0, .ref (ad 0)), (2, .int x2), (3, .int x3), (4, .int x4)]) : W p l e ({ frames := 6, cells := 0, slots := 0, locals := 151 } : Room) s m args below meth c H locs 0 0 (MQ below (va_Qi (fun (r : Int32) (u : va_W) => o1 = r ∧ wF ty ad o2 = u) (kz_B D ty A) A) args s 0 0 A) (F0 m 152 ls []) := by
  have C0 := C
  obtain ⟨hx, hb, hr, hts, hown, hlocks, hml, hK, hN, hE, hA⟩ := C
  unfold zX9_years_s0_152 at h
  refine lv_aload_n hx hb dX9_years_152 rfl (lv_at hl 0 rfl) ?_
  refine va_get (D := D) (ci := 9) (v := .ref (ad 15)) (C := RX9) (T := TX9) (N := 19) hx hb hts u9_wsX9_years_X9 hown hK hP 0 rfl rfl 4 (by decide) (hts (.fieldLink RX9 34 "TurnedFloors" "drawnTower" "LTurnedFloors$Tower;") f9_wsX9_years_937) (fun _ h9 => h9) rfl dX9_years_153 ?_
  refine lv_iconst (v := 3) hx hb dX9_years_156 (by decide) ?_
  refine lv_iconst (v := 0) hx hb dX9_years_157 (by decide) ?_
  refine lv_aload_n hx hb dX9_years_158 rfl (lv_at hl 0 rfl) ?_
  refine va_get (D := D) (ci := 9) (v := .ref (ad 20)) (C := RX9) (T := TX9) (N := 19) hx hb hts u9_wsX9_years_X9 hown hK hP 0 rfl rfl 6 (by decide) (hts (.fieldLink RX9 50 "TurnedFloors" "judge" "LTurnedFloors$Judge;") f9_wsX9_years_939) (fun _ h9 => h9) rfl dX9_years_159 ?_
  obtain ⟨r1, q3, h2, h⟩ := dB_some h
  refine dw_ki (va_runV (As := [.int 3, .int 0, .ref (ad 20)]) (rest := []) ⟨hx, hb, hml, hown, hts⟩ (qX8_act_s15_s20 l D ty eo _ ad q 3 0 r1 q3 h2) (cwV 3 hts gX9_years_X8_act rfl rfl rfl (by decide +kernel) ⟨Nat.le_of_ble_eq_true rfl, Nat.le_of_ble_eq_true rfl⟩) (dw_preV (ci := 8) (q0 := 15) hK hN hE hP hD hS hA rfl rfl) rfl rfl hl.1 rfl (lv_room (Nat.le_of_ble_eq_true rfl)) dX9_years_162 ⟨Nat.le_of_ble_eq_true rfl, Nat.le_of_ble_eq_true rfl⟩) hD hS hA (fun r9 u9 H locs hw hp hd hs => ?_)
  clear hP hD hS
  obtain ⟨rfl, rfl⟩ := hw
  have hP := hp; have hD := hd; have hS := hs; clear hp hd hs
  refine lv_pop hx hb dX9_years_165 rfl ?_
  refine lv_iinc (v := x4 + 1) (lv' := [(4, .int (x4 + 1)), (0, .ref (ad 0)), (2, .int x2), (3, .int x3)]) hx hb dX9_years_166 hl (k := 3) rfl rfl (by decide) rfl (fun ls hl => ?_)
  refine lv_goto (tgt := 75) hx hb dX9_years_169 (by decide) ?_
  exact hk75 _ _ _ _ _ _ _ h hP hD hS (lv_sub hl [1, 2, 3, 0] rfl)
set_option maxHeartbeats 4000000 in
set_option maxRecDepth 100000 in
theorem WX9_years_s0_75b {p : Program} {l : Launch} {e : Env} {s : State} {m : MethodId} {args : Array Value} {below : List Frame} {meth : Method} {c : Code} {D : va_G} {ty : Nat → ClassId} {eo : Nat → Nat} {A : Nat → Prop} {ad : Nat → Nat} {o1 : Int32} {o2 : dK} (C : dc_C p s m args meth c cX9_years (some .int) 6 RX9 wsX9_years D ty eo A) {k75 : dK → Int32 → Int32 → Int32 → Option (Int32 × dK)} (hk75 : ∀ (q : dK) (x2 : Int32) (x3 : Int32) (x4 : Int32) (H : Heap) (locs : List Loc) (ls : Array Slot), k75 q x2 x3 x4 = some (o1, o2) → va_P D vwCl (wF ty ad q) H → va_D A (wF ty ad q) → va_S A s.heap H locs → lv_has ls 6 [(0, .ref (ad 0)), (2, .int x2), (3, .int x3), (4, .int x4)] → W p l e ({ frames := 6, cells := 0, slots := 0, locals := 151 } : Room) s m args below meth c H locs 0 0 (MQ below (va_Qi (fun (r : Int32) (u : va_W) => o1 = r ∧ wF ty ad o2 = u) (kz_B D ty A) A) args s 0 0 A) (F0 m 75 ls [])) (q : dK) (x2 : Int32) (x3 : Int32) (x4 : Int32) (H : Heap) (locs : List Loc) (ls : Array Slot) (h : zX9_years_s0_75b k75 q x2 x3 x4 = some (o1, o2)) (hP : va_P D vwCl (wF ty ad q) H) (hD : va_D A (wF ty ad q)) (hS : va_S A s.heap H locs) (hl : lv_has ls 6 [(0, .ref (ad 0)), (2, .int x2), (3, .int x3), (4, .int x4)]) : W p l e ({ frames := 6, cells := 0, slots := 0, locals := 151 } : Room) s m args below meth c H locs 0 0 (MQ below (va_Qi (fun (r : Int32) (u : va_W) => o1 = r ∧ wF ty ad o2 = u) (kz_B D ty A) A) args s 0 0 A) (F0 m 75 ls []) := by
  have C0 := C
  obtain ⟨hx, hb, hr, hts, hown, hlocks, hml, hK, hN, hE, hA⟩ := C
  unfold zX9_years_s0_75b at h
  refine lv_iload hx hb dX9_years_75 (lv_at hl 3 rfl) ?_
  refine lv_iload_n hx hb dX9_years_77 rfl (lv_at hl 1 rfl) ?_
  refine lv_icmp_ge (tgt := 172) hx hb dX9_years_78 (by decide) (fun c9 => ?_) (fun c9 => ?_)
  · rw [if_pos c9] at h
    exact WX9_years_s0_172 C0  _ _ _ _ h hP hD hS (lv_sub hl [0] rfl)
  · rw [if_neg c9] at h
    refine lv_aload_n hx hb dX9_years_81 rfl (lv_at hl 0 rfl) ?_
    refine va_get (D := D) (ci := 9) (v := .ref (ad 15)) (C := RX9) (T := TX9) (N := 19) hx hb hts u9_wsX9_years_X9 hown hK hP 0 rfl rfl 4 (by decide) (hts (.fieldLink RX9 34 "TurnedFloors" "drawnTower" "LTurnedFloors$Tower;") f9_wsX9_years_937) (fun _ h9 => h9) rfl dX9_years_82 ?_
    refine va_getN (D := D) (ci := 8) (v := .int (q.1 15 4)) (C := RX8) (T := TX8) (N := 5) hx hb hts u9_wsX9_years_X8 hown hK hP 15 rfl rfl 4 (by decide) (hN.use (.fieldLinkNest "TurnedFloors" 240 "TurnedFloors$Tower" "year" "I" "TurnedFloors") (by decide +kernel)) (fun _ h9 => h9) rfl dX9_years_85 ?_
    refine lv_sipush (v := 999) hx hb dX9_years_88 (by decide) ?_
    refine lv_icmp_ge (tgt := 172) hx hb dX9_years_91 (by decide) (fun c9 => ?_) (fun c9 => ?_)
    · rw [if_pos c9] at h
      exact WX9_years_s0_172 C0  _ _ _ _ h hP hD hS (lv_sub hl [0] rfl)
    · rw [if_neg c9] at h
      refine lv_iload_n hx hb dX9_years_94 rfl (lv_at hl 2 rfl) ?_
      obtain ⟨r1, h2, h⟩ := dV_some h
      refine dw_ks (va_runS (As := [.int x3]) (rest := []) ⟨hx, hb, hml, hown, hts⟩ (qX9_nextDraw l D ty eo _ x3 _ h2) (va_cwS 1 hts gX9_years_X9_nextDraw rfl rfl rfl (by decide +kernel) ⟨Nat.le_of_ble_eq_true rfl, Nat.le_of_ble_eq_true rfl⟩) (kz_preS hK hN hE hP hD hS hA [] (by decide) rfl) rfl rfl hl.1 rfl (lv_room (Nat.le_of_ble_eq_true rfl)) dX9_years_95 ⟨Nat.le_of_ble_eq_true rfl, Nat.le_of_ble_eq_true rfl⟩) hP hD hS hA (fun _ _ h9 => h9.2.symm) (fun r9 u9 H locs hw hp hd hs => ?_)
      obtain ⟨rfl, -⟩ := hw
      clear hP hD hS
      have hP := hp; have hD := hd; have hS := hs; clear hp hd hs
      refine lv_istore_n (lv' := [(3, .int r1), (0, .ref (ad 0)), (2, .int x2), (4, .int x4)]) hx hb dX9_years_98 rfl hl (by decide) rfl (fun ls hl => ?_)
      refine lv_iload_n hx hb dX9_years_99 rfl (lv_at hl 0 rfl) ?_
      refine lv_bipush (v := 6) hx hb dX9_years_100 (by decide) ?_
      refine lv_irem hx hb dX9_years_102 (by decide) ?_
      refine lv_istore (lv' := [(5, .int (r1 - r1 / 6 * 6 : Int32)), (3, .int r1), (0, .ref (ad 0)), (2, .int x2), (4, .int x4)]) hx hb dX9_years_103 hl (by decide) rfl (fun ls hl => ?_)
      refine lv_iload_n hx hb dX9_years_105 rfl (lv_at hl 1 rfl) ?_
      obtain ⟨r3, h4, h⟩ := dV_some h
      refine dw_ks (va_runS (As := [.int r1]) (rest := []) ⟨hx, hb, hml, hown, hts⟩ (qX9_nextDraw l D ty eo _ r1 _ h4) (va_cwS 1 hts gX9_years_X9_nextDraw rfl rfl rfl (by decide +kernel) ⟨Nat.le_of_ble_eq_true rfl, Nat.le_of_ble_eq_true rfl⟩) (kz_preS hK hN hE hP hD hS hA [] (by decide) rfl) rfl rfl hl.1 rfl (lv_room (Nat.le_of_ble_eq_true rfl)) dX9_years_106 ⟨Nat.le_of_ble_eq_true rfl, Nat.le_of_ble_eq_true rfl⟩) hP hD hS hA (fun _ _ h9 => h9.2.symm) (fun r9 u9 H locs hw hp hd hs => ?_)
      obtain ⟨rfl, -⟩ := hw
      clear hP hD hS
      have hP := hp; have hD := hd; have hS := hs; clear hp hd hs
      refine lv_istore_n (lv' := [(3, .int r3), (5, .int (r1 - r1 / 6 * 6 : Int32)), (0, .ref (ad 0)), (2, .int x2), (4, .int x4)]) hx hb dX9_years_109 rfl hl (by decide) rfl (fun ls hl => ?_)
      refine lv_iload_n hx hb dX9_years_110 rfl (lv_at hl 0 rfl) ?_
      refine lv_iconst (v := 3) hx hb dX9_years_111 (by decide) ?_
      refine lv_irem hx hb dX9_years_112 (by decide) ?_
      refine lv_iconst (v := 2) hx hb dX9_years_113 (by decide) ?_
      refine lv_icmp_ne (tgt := 135) hx hb dX9_years_114 (by decide) (fun c9 => ?_) (fun c9 => ?_)
      · rw [if_neg c9] at h
        refine lv_aload_n hx hb dX9_years_135 rfl (lv_at hl 2 rfl) ?_
        refine va_get (D := D) (ci := 9) (v := .ref (ad 15)) (C := RX9) (T := TX9) (N := 19) hx hb hts u9_wsX9_years_X9 hown hK hP 0 rfl rfl 4 (by decide) (hts (.fieldLink RX9 34 "TurnedFloors" "drawnTower" "LTurnedFloors$Tower;") f9_wsX9_years_937) (fun _ h9 => h9) rfl dX9_years_136 ?_
        refine lv_iconst (v := 0) hx hb dX9_years_139 (by decide) ?_
        refine lv_iload hx hb dX9_years_140 (lv_at hl 1 rfl) ?_
        refine lv_iconst (v := 1) hx hb dX9_years_142 (by decide) ?_
        refine lv_iadd hx hb dX9_years_143 ?_
        refine lv_aload_n hx hb dX9_years_144 rfl (lv_at hl 2 rfl) ?_
        refine va_get (D := D) (ci := 9) (v := .ref (ad 20)) (C := RX9) (T := TX9) (N := 19) hx hb hts u9_wsX9_years_X9 hown hK hP 0 rfl rfl 6 (by decide) (hts (.fieldLink RX9 50 "TurnedFloors" "judge" "LTurnedFloors$Judge;") f9_wsX9_years_939) (fun _ h9 => h9) rfl dX9_years_145 ?_
        obtain ⟨r5, q7, h6, h⟩ := dB_some h
        refine dw_ki (va_runV (As := [.int 0, .int ((r1 - r1 / 6 * 6 : Int32) + 1 : Int32), .ref (ad 20)]) (rest := []) ⟨hx, hb, hml, hown, hts⟩ (qX8_act_s15_s20 l D ty eo _ ad q 0 ((r1 - r1 / 6 * 6 : Int32) + 1 : Int32) r5 q7 h6) (cwV 3 hts gX9_years_X8_act rfl rfl rfl (by decide +kernel) ⟨Nat.le_of_ble_eq_true rfl, Nat.le_of_ble_eq_true rfl⟩) (dw_preV (ci := 8) (q0 := 15) hK hN hE hP hD hS hA rfl rfl) rfl rfl hl.1 rfl (lv_room (Nat.le_of_ble_eq_true rfl)) dX9_years_148 ⟨Nat.le_of_ble_eq_true rfl, Nat.le_of_ble_eq_true rfl⟩) hD hS hA (fun r9 u9 H locs hw hp hd hs => ?_)
        clear hP hD hS
        obtain ⟨rfl, rfl⟩ := hw
        have hP := hp; have hD := hd; have hS := hs; clear hp hd hs
        refine lv_pop hx hb dX9_years_151 rfl ?_
        exact WX9_years_s0_152 C0 hk75 _ _ _ _ _ _ _ h hP hD hS (lv_sub hl [2, 3, 0, 4] rfl)
      · rw [if_pos c9] at h
        refine lv_aload_n hx hb dX9_years_117 rfl (lv_at hl 2 rfl) ?_
        refine va_get (D := D) (ci := 9) (v := .ref (ad 15)) (C := RX9) (T := TX9) (N := 19) hx hb hts u9_wsX9_years_X9 hown hK hP 0 rfl rfl 4 (by decide) (hts (.fieldLink RX9 34 "TurnedFloors" "drawnTower" "LTurnedFloors$Tower;") f9_wsX9_years_937) (fun _ h9 => h9) rfl dX9_years_118 ?_
        refine lv_iconst (v := 1) hx hb dX9_years_121 (by decide) ?_
        refine lv_iload hx hb dX9_years_122 (lv_at hl 1 rfl) ?_
        refine lv_aload_n hx hb dX9_years_124 rfl (lv_at hl 2 rfl) ?_
        refine va_get (D := D) (ci := 9) (v := .ref (ad 20)) (C := RX9) (T := TX9) (N := 19) hx hb hts u9_wsX9_years_X9 hown hK hP 0 rfl rfl 6 (by decide) (hts (.fieldLink RX9 50 "TurnedFloors" "judge" "LTurnedFloors$Judge;") f9_wsX9_years_939) (fun _ h9 => h9) rfl dX9_years_125 ?_
        obtain ⟨r8, q10, h9, h⟩ := dB_some h
        refine dw_ki (va_runV (As := [.int 1, .int (r1 - r1 / 6 * 6 : Int32), .ref (ad 20)]) (rest := []) ⟨hx, hb, hml, hown, hts⟩ (qX8_act_s15_s20 l D ty eo _ ad q 1 (r1 - r1 / 6 * 6 : Int32) r8 q10 h9) (cwV 3 hts gX9_years_X8_act rfl rfl rfl (by decide +kernel) ⟨Nat.le_of_ble_eq_true rfl, Nat.le_of_ble_eq_true rfl⟩) (dw_preV (ci := 8) (q0 := 15) hK hN hE hP hD hS hA rfl rfl) rfl rfl hl.1 rfl (lv_room (Nat.le_of_ble_eq_true rfl)) dX9_years_128 ⟨Nat.le_of_ble_eq_true rfl, Nat.le_of_ble_eq_true rfl⟩) hD hS hA (fun r9 u9 H locs hw hp hd hs => ?_)
        clear hP hD hS
        obtain ⟨rfl, rfl⟩ := hw
        have hP := hp; have hD := hd; have hS := hs; clear hp hd hs
        refine lv_pop hx hb dX9_years_131 rfl ?_
        refine lv_goto (tgt := 152) hx hb dX9_years_132 (by decide) ?_
        exact WX9_years_s0_152 C0 hk75 _ _ _ _ _ _ _ h hP hD hS (lv_sub hl [2, 3, 0, 4] rfl)
set_option maxHeartbeats 4000000 in
set_option maxRecDepth 100000 in
theorem WX9_years_s0_75 {p : Program} {l : Launch} {e : Env} {s : State} {m : MethodId} {args : Array Value} {below : List Frame} {meth : Method} {c : Code} {D : va_G} {ty : Nat → ClassId} {eo : Nat → Nat} {A : Nat → Prop} {ad : Nat → Nat} {o1 : Int32} {o2 : dK} (C : dc_C p s m args meth c cX9_years (some .int) 6 RX9 wsX9_years D ty eo A)   (n : Nat) (q : dK) (x2 : Int32) (x3 : Int32) (x4 : Int32) (H : Heap) (locs : List Loc) (ls : Array Slot) (h : zX9_years_s0_75  n q x2 x3 x4 = some (o1, o2)) (hP : va_P D vwCl (wF ty ad q) H) (hD : va_D A (wF ty ad q)) (hS : va_S A s.heap H locs) (hl : lv_has ls 6 [(0, .ref (ad 0)), (2, .int x2), (3, .int x3), (4, .int x4)]) : W p l e ({ frames := 6, cells := 0, slots := 0, locals := 151 } : Room) s m args below meth c H locs 0 0 (MQ below (va_Qi (fun (r : Int32) (u : va_W) => o1 = r ∧ wF ty ad o2 = u) (kz_B D ty A) A) args s 0 0 A) (F0 m 75 ls []) := by
  exact dFix_W (F := fun k (a : dK × Int32 × Int32 × Int32) => zX9_years_s0_75b  (fun q x2 x3 x4 => k (q, x2, x3, x4)) a.1 a.2.1 a.2.2.1 a.2.2.2) (o := (o1, o2)) (P := fun (a : dK × Int32 × Int32 × Int32) H locs ls => va_P D vwCl (wF ty ad a.1) H ∧ va_D A (wF ty ad a.1) ∧ va_S A s.heap H locs ∧ lv_has ls 6 [(0, .ref (ad 0)), (2, .int a.2.1), (3, .int a.2.2.1), (4, .int a.2.2.2)]) (G := fun H locs ls => W p l e ({ frames := 6, cells := 0, slots := 0, locals := 151 } : Room) s m args below meth c H locs 0 0 (MQ below (va_Qi (fun (r : Int32) (u : va_W) => o1 = r ∧ wF ty ad o2 = u) (kz_B D ty A) A) args s 0 0 A) (F0 m 75 ls []))
    (fun k hk a H locs ls h hp => WX9_years_s0_75b C  (fun q x2 x3 x4 H locs ls h h1 h2 h3 h4 => hk (q, x2, x3, x4) H locs ls h ⟨h1, h2, h3, h4⟩) a.1 a.2.1 a.2.2.1 a.2.2.2 H locs ls h hp.1 hp.2.1 hp.2.2.1 hp.2.2.2) n (q, x2, x3, x4) H locs ls h ⟨hP, hD, hS, hl⟩
set_option maxHeartbeats 4000000 in
set_option maxRecDepth 100000 in
theorem WX9_years_s0_22 {p : Program} {l : Launch} {e : Env} {s : State} {m : MethodId} {args : Array Value} {below : List Frame} {meth : Method} {c : Code} {D : va_G} {ty : Nat → ClassId} {eo : Nat → Nat} {A : Nat → Prop} {ad : Nat → Nat} {o1 : Int32} {o2 : dK} (C : dc_C p s m args meth c cX9_years (some .int) 6 RX9 wsX9_years D ty eo A)   (q : dK)  (H : Heap) (locs : List Loc) (ls : Array Slot) (h : zX9_years_s0_22  q = some (o1, o2)) (hP : va_P D vwCl (wF ty ad q) H) (hD : va_D A (wF ty ad q)) (hS : va_S A s.heap H locs) (hl : lv_has ls 6 [(0, .ref (ad 0))]) : W p l e ({ frames := 6, cells := 0, slots := 0, locals := 151 } : Room) s m args below meth c H locs 0 0 (MQ below (va_Qi (fun (r : Int32) (u : va_W) => o1 = r ∧ wF ty ad o2 = u) (kz_B D ty A) A) args s 0 0 A) (F0 m 22 ls []) := by
  have C0 := C
  obtain ⟨hx, hb, hr, hts, hown, hlocks, hml, hK, hN, hE, hA⟩ := C
  unfold zX9_years_s0_22 at h
  refine lv_aload_n hx hb dX9_years_22 rfl (lv_at hl 0 rfl) ?_
  refine lv_iconst (v := (-1)) hx hb dX9_years_23 (by decide) ?_
  obtain ⟨r1, q3, h2, h⟩ := dB_some h
  refine dw_ki (va_runV (As := [.int (-1)]) (rest := []) ⟨hx, hb, hml, hown, hts⟩ (qX9_refuse_s0 l D ty eo _ ad q (-1) r1 q3 h2) (cwV 1 hts gX9_years_X9_refuse rfl rfl rfl (by decide +kernel) ⟨Nat.le_of_ble_eq_true rfl, Nat.le_of_ble_eq_true rfl⟩) (dw_preV (ci := 9) (q0 := 0) hK hN hE hP hD hS hA rfl rfl) rfl rfl hl.1 rfl (lv_room (Nat.le_of_ble_eq_true rfl)) dX9_years_24 ⟨Nat.le_of_ble_eq_true rfl, Nat.le_of_ble_eq_true rfl⟩) hD hS hA (fun r9 u9 H locs hw hp hd hs => ?_)
  clear hP hD hS
  obtain ⟨rfl, rfl⟩ := hw
  have hP := hp; have hD := hd; have hS := hs; clear hp hd hs
  cases h
  exact kz_iret hx hb hr hlocks hP hK hD hS dX9_years_27 ⟨rfl, rfl⟩
set_option maxHeartbeats 4000000 in
set_option maxRecDepth 100000 in
theorem qX9_years_s0 (l : Launch) (D : va_G) (ty : Nat → ClassId) (eo : Nat → Nat) (sz : Nat) (ad : Nat → Nat) (q : dK) (p1 : Int32) (p2 : Int32) (o1 : Int32) (o2 : dK) (h : zX9_years_s0 q p1 p2 = some (o1, o2)) : Met l yX9_years wsX9_years ({ frames := 6, cells := 0, slots := 0, locals := 151 } : Room) (va_Pc [.ref (ad 0), .int p1, .int p2] (kz_pre D ty eo (wF ty ad q) sz)) (va_Qi (fun (r : Int32) (u : va_W) => o1 = r ∧ wF ty ad o2 = u) (kz_B D ty (va_A (wF ty ad q) sz)) (va_A (wF ty ad q) sz)) 0 0 (va_A (wF ty ad q) sz) := by
  refine Met.ofW (cc := cX9_years) (maxL := 6) (ret := (some .int)) (by decide) rfl ?_
  intro p e s m args below meth c s₁ B hml hv
  obtain ⟨rfl, hsz, hP, hK, hD0, hN, hE⟩ := hv
  have hx := B.exec
  have hb := B.bytes
  have hr := B.returns
  have hts := atoms_spec (ws := wsX9_years) B.pre
  have hown : s.vm.findClass RX9 = some m.cls := findClass_of_methodNamed B.named
  have hlocks := B.notSynchronized
  subst hsz
  have hD := hD0.self (sz := s.heap.size)
  generalize hAe : va_A (wF ty ad q) s.heap.size = A at hD hE ⊢
  have hA : ∀ q : Nat, s.heap.size ≤ q → A q := fun q h => by rw [← hAe]; exact Or.inr h
  clear hAe
  have hS : va_S A s.heap s.heap [] := va_S.rf
  have hl := lv_entry ([.ref (ad 0), .int p1, .int p2]) (n := 6) (Nat.le_of_ble_eq_true rfl)
  rw [lg_entry_eq]
  generalize (lg_sl ([.ref (ad 0), .int p1, .int p2]) ++ List.replicate (6 - (lg_sl ([.ref (ad 0), .int p1, .int p2])).length) Slot.unset).toArray = ls at hl ⊢
  have hl : lv_has ls 6 [(0, .ref (ad 0)), (1, .int p1), (2, .int p2)] := hl
  have C : dc_C p s m _ meth c cX9_years (some .int) 6 RX9 wsX9_years D ty eo A := ⟨hx, hb, hr, hts, hown, hlocks, hml, hK, hN, hE, hA⟩
  unfold zX9_years_s0 at h
  refine lv_iload_n hx hb dX9_years_0 rfl (lv_at hl 1 rfl) ?_
  refine lv_if_lt (tgt := 22) hx hb dX9_years_1 (by decide) (fun c9 => ?_) (fun c9 => ?_)
  · rw [if_pos c9] at h
    exact WX9_years_s0_22 C  _ _ _ _ h hP hD hS (lv_sub hl [0] rfl)
  · rw [if_neg c9] at h
    refine lv_iload_n hx hb dX9_years_4 rfl (lv_at hl 1 rfl) ?_
    refine lv_ldcw (v := 1000000) hx hb hown (hts (.constant RX9 317 1000000) f9_wsX9_years_940) dX9_years_5 ?_
    refine lv_icmp_gt (tgt := 22) hx hb dX9_years_8 (by decide) (fun c9 => ?_) (fun c9 => ?_)
    · rw [if_pos c9] at h
      exact WX9_years_s0_22 C  _ _ _ _ h hP hD hS (lv_sub hl [0] rfl)
    · rw [if_neg c9] at h
      refine lv_iload_n hx hb dX9_years_11 rfl (lv_at hl 2 rfl) ?_
      refine lv_iconst (v := 1) hx hb dX9_years_12 (by decide) ?_
      refine lv_icmp_lt (tgt := 22) hx hb dX9_years_13 (by decide) (fun c9 => ?_) (fun c9 => ?_)
      · rw [if_pos c9] at h
        exact WX9_years_s0_22 C  _ _ _ _ h hP hD hS (lv_sub hl [0] rfl)
      · rw [if_neg c9] at h
        refine lv_iload_n hx hb dX9_years_16 rfl (lv_at hl 2 rfl) ?_
        refine lv_bipush (v := 60) hx hb dX9_years_17 (by decide) ?_
        refine lv_icmp_le (tgt := 28) hx hb dX9_years_19 (by decide) (fun c9 => ?_) (fun c9 => ?_)
        · rw [if_pos c9] at h
          refine lv_aload_n hx hb dX9_years_28 rfl (lv_at hl 0 rfl) ?_
          refine va_get (D := D) (ci := 9) (v := .ref (ad 1)) (C := RX9) (T := TX9) (N := 19) hx hb hts u9_wsX9_years_X9 hown hK hP 0 rfl rfl 0 (by decide) (hts (.fieldLink RX9 10 "TurnedFloors" "state" "LTurnedFloors$State;") f9_wsX9_years_938) (fun _ h9 => h9) rfl dX9_years_29 ?_
          refine va_getN (D := D) (ci := 6) (v := .ref (ad 2)) (C := RX6) (T := TX6) (N := 10) hx hb hts u9_wsX9_years_X6 hown hK hP 1 rfl rfl 0 (by decide) (hN.use (.fieldLinkNest "TurnedFloors" 122 "TurnedFloors$State" "tower" "LTurnedFloors$Tower;" "TurnedFloors") (by decide +kernel)) (fun _ h9 => h9) rfl dX9_years_32 ?_
          refine va_getN (D := D) (ci := 8) (v := .int (q.1 2 2)) (C := RX8) (T := TX8) (N := 5) hx hb hts u9_wsX9_years_X8 hown hK hP 2 rfl rfl 2 (by decide) (hN.use (.fieldLinkNest "TurnedFloors" 135 "TurnedFloors$Tower" "floors" "I" "TurnedFloors") (by decide +kernel)) (fun _ h9 => h9) rfl dX9_years_35 ?_
          refine lv_if_ne (tgt := 48) hx hb dX9_years_38 (by decide) (fun c9 => ?_) (fun c9 => ?_)
          · rw [if_neg c9] at h
            refine lv_aload_n hx hb dX9_years_48 rfl (lv_at hl 0 rfl) ?_
            refine va_get (D := D) (ci := 9) (v := .ref (ad 15)) (C := RX9) (T := TX9) (N := 19) hx hb hts u9_wsX9_years_X9 hown hK hP 0 rfl rfl 4 (by decide) (hts (.fieldLink RX9 34 "TurnedFloors" "drawnTower" "LTurnedFloors$Tower;") f9_wsX9_years_937) (fun _ h9 => h9) rfl dX9_years_49 ?_
            refine lv_aload_n hx hb dX9_years_52 rfl (lv_at hl 0 rfl) ?_
            refine va_get (D := D) (ci := 9) (v := .ref (ad 1)) (C := RX9) (T := TX9) (N := 19) hx hb hts u9_wsX9_years_X9 hown hK hP 0 rfl rfl 0 (by decide) (hts (.fieldLink RX9 10 "TurnedFloors" "state" "LTurnedFloors$State;") f9_wsX9_years_938) (fun _ h9 => h9) rfl dX9_years_53 ?_
            refine va_getN (D := D) (ci := 6) (v := .ref (ad 2)) (C := RX6) (T := TX6) (N := 10) hx hb hts u9_wsX9_years_X6 hown hK hP 1 rfl rfl 0 (by decide) (hN.use (.fieldLinkNest "TurnedFloors" 122 "TurnedFloors$State" "tower" "LTurnedFloors$Tower;" "TurnedFloors") (by decide +kernel)) (fun _ h9 => h9) rfl dX9_years_56 ?_
            obtain ⟨r1, q3, h2, h⟩ := dB_some h
            refine dw_kl (va_runV (As := []) (rest := [.ref (ad 15)]) ⟨hx, hb, hml, hown, hts⟩ (qX8_pack_s2 l D ty eo _ ad q  r1 q3 h2) (cwV 0 hts gX9_years_X8_pack rfl rfl rfl (by decide +kernel) ⟨Nat.le_of_ble_eq_true rfl, Nat.le_of_ble_eq_true rfl⟩) (dw_preV (ci := 8) (q0 := 2) hK hN hE hP hD hS hA rfl rfl) rfl rfl hl.1 rfl (lv_room (Nat.le_of_ble_eq_true rfl)) dX9_years_59 ⟨Nat.le_of_ble_eq_true rfl, Nat.le_of_ble_eq_true rfl⟩) hD hS hA (fun r9 u9 H locs hw hp hd hs => ?_)
            clear hP hD hS
            obtain ⟨rfl, rfl⟩ := hw
            have hP := hp; have hD := hd; have hS := hs; clear hp hd hs
            obtain ⟨q6, h5, h⟩ := dV_some h
            refine dw_kv (va_runV (As := [.long r1]) (rest := []) ⟨hx, hb, hml, hown, hts⟩ (qX8_unpack_s15 l D ty eo _ ad q3 r1 q6 h5) (cwV 1 hts gX9_years_X8_unpack rfl rfl rfl (by decide +kernel) ⟨Nat.le_of_ble_eq_true rfl, Nat.le_of_ble_eq_true rfl⟩) (dw_preV (ci := 8) (q0 := 15) hK hN hE hP hD hS hA rfl rfl) rfl rfl hl.1 rfl (lv_room (Nat.le_of_ble_eq_true rfl)) dX9_years_62 ⟨Nat.le_of_ble_eq_true rfl, Nat.le_of_ble_eq_true rfl⟩) hD hS hA (fun u9 H locs hw hp hd hs => ?_)
            clear hP hD hS
            obtain rfl := hw
            have hP := hp; have hD := hd; have hS := hs; clear hp hd hs
            refine lv_aload_n hx hb dX9_years_65 rfl (lv_at hl 0 rfl) ?_
            obtain ⟨q9, h8, h⟩ := dV_some h
            refine dw_kq (va_runV (As := []) (rest := []) ⟨hx, hb, hml, hown, hts⟩ (qX9_seated_s0 l D ty eo _ ad q6  q9 h8) (cwV 0 hts gX9_years_X9_seated rfl rfl rfl (by decide +kernel) ⟨Nat.le_of_ble_eq_true rfl, Nat.le_of_ble_eq_true rfl⟩) (dw_preV (ci := 9) (q0 := 0) hK hN hE hP hD hS hA rfl rfl) rfl rfl hl.1 rfl (lv_room (Nat.le_of_ble_eq_true rfl)) dX9_years_66 ⟨Nat.le_of_ble_eq_true rfl, Nat.le_of_ble_eq_true rfl⟩) hP hD hS hA (fun r9 u9 H locs hw hp hd hs => ?_)
            clear hP hD hS
            obtain ⟨rfl, rfl⟩ := hw
            have hP := hp; have hD := hd; have hS := hs; clear hp hd hs
            refine lv_pop hx hb dX9_years_69 rfl ?_
            refine lv_iload_n hx hb dX9_years_70 rfl (lv_at hl 1 rfl) ?_
            refine lv_istore_n (lv' := [(3, .int p1), (0, .ref (ad 0)), (1, .int p1), (2, .int p2)]) hx hb dX9_years_71 rfl hl (by decide) rfl (fun ls hl => ?_)
            refine lv_iconst (v := 0) hx hb dX9_years_72 (by decide) ?_
            refine lv_istore (lv' := [(4, .int 0), (3, .int p1), (0, .ref (ad 0)), (1, .int p1), (2, .int p2)]) hx hb dX9_years_73 hl (by decide) rfl (fun ls hl => ?_)
            exact WX9_years_s0_75 C  _ _ _ _ _ _ _ _ h hP hD hS (lv_sub hl [2, 4, 1, 0] rfl)
          · rw [if_pos c9] at h
            refine lv_aload_n hx hb dX9_years_41 rfl (lv_at hl 0 rfl) ?_
            refine lv_bipush (v := (-3)) hx hb dX9_years_42 (by decide) ?_
            obtain ⟨r10, q12, h11, h⟩ := dB_some h
            refine dw_ki (va_runV (As := [.int (-3)]) (rest := []) ⟨hx, hb, hml, hown, hts⟩ (qX9_refuse_s0 l D ty eo _ ad q (-3) r10 q12 h11) (cwV 1 hts gX9_years_X9_refuse rfl rfl rfl (by decide +kernel) ⟨Nat.le_of_ble_eq_true rfl, Nat.le_of_ble_eq_true rfl⟩) (dw_preV (ci := 9) (q0 := 0) hK hN hE hP hD hS hA rfl rfl) rfl rfl hl.1 rfl (lv_room (Nat.le_of_ble_eq_true rfl)) dX9_years_44 ⟨Nat.le_of_ble_eq_true rfl, Nat.le_of_ble_eq_true rfl⟩) hD hS hA (fun r9 u9 H locs hw hp hd hs => ?_)
            clear hP hD hS
            obtain ⟨rfl, rfl⟩ := hw
            have hP := hp; have hD := hd; have hS := hs; clear hp hd hs
            cases h
            exact kz_iret hx hb hr hlocks hP hK hD hS dX9_years_47 ⟨rfl, rfl⟩
        · rw [if_neg c9] at h
          exact WX9_years_s0_22 C  _ _ _ _ h hP hD hS (lv_sub hl [0] rfl)

set_option maxHeartbeats 4000000 in
set_option maxRecDepth 100000 in
theorem qX9_drawn_s0 (l : Launch) (D : va_G) (ty : Nat → ClassId) (eo : Nat → Nat) (sz : Nat) (ad : Nat → Nat) (q : dK) (p1 : Int32) (p2 : Int32) (o1 : Int32) (o2 : dK) (h : zX9_drawn_s0 q p1 p2 = some (o1, o2)) : Met l yX9_drawn wsX9_drawn ({ frames := 2, cells := 0, slots := 0, locals := 43 } : Room) (va_Pc [.ref (ad 0), .int p1, .int p2] (kz_pre D ty eo (wF ty ad q) sz)) (va_Qi (fun (r : Int32) (u : va_W) => o1 = r ∧ wF ty ad o2 = u) (kz_B D ty (va_A (wF ty ad q) sz)) (va_A (wF ty ad q) sz)) 0 0 (va_A (wF ty ad q) sz) := by
  refine Met.ofW (cc := cX9_drawn) (maxL := 3) (ret := (some .int)) (by decide) rfl ?_
  intro p e s m args below meth c s₁ B hml hv
  obtain ⟨rfl, hsz, hP, hK, hD0, hN, hE⟩ := hv
  have hx := B.exec
  have hb := B.bytes
  have hr := B.returns
  have hts := atoms_spec (ws := wsX9_drawn) B.pre
  have hown : s.vm.findClass RX9 = some m.cls := findClass_of_methodNamed B.named
  have hlocks := B.notSynchronized
  subst hsz
  have hD := hD0.self (sz := s.heap.size)
  generalize hAe : va_A (wF ty ad q) s.heap.size = A at hD hE ⊢
  have hA : ∀ q : Nat, s.heap.size ≤ q → A q := fun q h => by rw [← hAe]; exact Or.inr h
  clear hAe
  have hS : va_S A s.heap s.heap [] := va_S.rf
  have hl := lv_entry ([.ref (ad 0), .int p1, .int p2]) (n := 3) (Nat.le_of_ble_eq_true rfl)
  rw [lg_entry_eq]
  generalize (lg_sl ([.ref (ad 0), .int p1, .int p2]) ++ List.replicate (3 - (lg_sl ([.ref (ad 0), .int p1, .int p2])).length) Slot.unset).toArray = ls at hl ⊢
  have hl : lv_has ls 3 [(0, .ref (ad 0)), (1, .int p1), (2, .int p2)] := hl
  have C : dc_C p s m _ meth c cX9_drawn (some .int) 3 RX9 wsX9_drawn D ty eo A := ⟨hx, hb, hr, hts, hown, hlocks, hml, hK, hN, hE, hA⟩
  unfold zX9_drawn_s0 at h
  refine lv_aload_n hx hb dX9_drawn_0 rfl (lv_at hl 0 rfl) ?_
  refine va_get (D := D) (ci := 9) (v := .ref (ad 15)) (C := RX9) (T := TX9) (N := 19) hx hb hts u9_wsX9_drawn_X9 hown hK hP 0 rfl rfl 4 (by decide) (hts (.fieldLink RX9 34 "TurnedFloors" "drawnTower" "LTurnedFloors$Tower;") f9_wsX9_drawn_942) (fun _ h9 => h9) rfl dX9_drawn_1 ?_
  refine lv_iload_n hx hb dX9_drawn_4 rfl (lv_at hl 1 rfl) ?_
  refine lv_iload_n hx hb dX9_drawn_5 rfl (lv_at hl 2 rfl) ?_
  obtain ⟨r1, q3, h2, h⟩ := dB_some h
  refine dw_ki (va_runV (As := [.int p1, .int p2]) (rest := []) ⟨hx, hb, hml, hown, hts⟩ (qX8_tell_s15 l D ty eo _ ad q p1 p2 r1 q3 h2) (cwV 2 hts gX9_drawn_X8_tell rfl rfl rfl (by decide +kernel) ⟨Nat.le_of_ble_eq_true rfl, Nat.le_of_ble_eq_true rfl⟩) (dw_preV (ci := 8) (q0 := 15) hK hN hE hP hD hS hA rfl rfl) rfl rfl hl.1 rfl (lv_room (Nat.le_of_ble_eq_true rfl)) dX9_drawn_6 ⟨Nat.le_of_ble_eq_true rfl, Nat.le_of_ble_eq_true rfl⟩) hD hS hA (fun r9 u9 H locs hw hp hd hs => ?_)
  clear hP hD hS
  obtain ⟨rfl, rfl⟩ := hw
  have hP := hp; have hD := hd; have hS := hs; clear hp hd hs
  cases h
  exact kz_iret hx hb hr hlocks hP hK hD hS dX9_drawn_9 ⟨rfl, rfl⟩

set_option maxHeartbeats 4000000 in
set_option maxRecDepth 100000 in
theorem WX9_isImage_14 {p : Program} {l : Launch} {e : Env} {s : State} {m : MethodId} {args : Array Value} {below : List Frame} {meth : Method} {c : Code} {D : va_G} {ty : Nat → ClassId} {eo : Nat → Nat} {A : Nat → Prop} {o1 : Int32} (C : dc_C p s m args meth c cX9_isImage (some .boolean) 1 RX9 wsX9_isImage D ty eo A)   (y0 : Int32) (H : Heap) (locs : List Loc) (ls : Array Slot) (h : zX9_isImage_14  y0 = some o1) (hP : va_P D vwCl (([] : va_W)) H) (hD : va_D A (([] : va_W))) (hS : va_S A s.heap H locs) (hl : lv_has ls 1 []) : W p l e ({ frames := 0, cells := 0, slots := 0, locals := 0 } : Room) s m args below meth c H locs 0 0 (MQ below (va_Qi (fun (r : Int32) (u : va_W) => o1 = r ∧ ([] : va_W) = u) (kz_B D ty A) A) args s 0 0 A) (F0 m 14 ls [.int y0]) := by
  have C0 := C
  obtain ⟨hx, hb, hr, hts, hown, hlocks, hml, hK, hN, hE, hA⟩ := C
  unfold zX9_isImage_14 at h
  obtain ⟨g1, h⟩ := dG_some h
  cases h
  exact kz_zret hx hb hr hlocks (dbl_nar g1) hP hK hD hS dX9_isImage_14 ⟨rfl, rfl⟩
set_option maxHeartbeats 4000000 in
set_option maxRecDepth 100000 in
theorem WX9_isImage_13 {p : Program} {l : Launch} {e : Env} {s : State} {m : MethodId} {args : Array Value} {below : List Frame} {meth : Method} {c : Code} {D : va_G} {ty : Nat → ClassId} {eo : Nat → Nat} {A : Nat → Prop} {o1 : Int32} (C : dc_C p s m args meth c cX9_isImage (some .boolean) 1 RX9 wsX9_isImage D ty eo A)    (H : Heap) (locs : List Loc) (ls : Array Slot) (h : zX9_isImage_13   = some o1) (hP : va_P D vwCl (([] : va_W)) H) (hD : va_D A (([] : va_W))) (hS : va_S A s.heap H locs) (hl : lv_has ls 1 []) : W p l e ({ frames := 0, cells := 0, slots := 0, locals := 0 } : Room) s m args below meth c H locs 0 0 (MQ below (va_Qi (fun (r : Int32) (u : va_W) => o1 = r ∧ ([] : va_W) = u) (kz_B D ty A) A) args s 0 0 A) (F0 m 13 ls []) := by
  have C0 := C
  obtain ⟨hx, hb, hr, hts, hown, hlocks, hml, hK, hN, hE, hA⟩ := C
  unfold zX9_isImage_13 at h
  refine lv_iconst (v := 0) hx hb dX9_isImage_13 (by decide) ?_
  exact WX9_isImage_14 C0  _ _ _ _ h hP hD hS (lv_sub hl [] rfl)
set_option maxHeartbeats 4000000 in
set_option maxRecDepth 100000 in
theorem qX9_isImage (l : Launch) (D : va_G) (ty : Nat → ClassId) (eo : Nat → Nat) (sz : Nat) (p1 : Int32) (o1 : Int32) (h : zX9_isImage p1 = some o1) : Met l yX9_isImage wsX9_isImage ({ frames := 0, cells := 0, slots := 0, locals := 0 } : Room) (va_Pc [.int p1] (kz_pre D ty eo (([] : va_W)) sz)) (va_Qi (fun (r : Int32) (u : va_W) => o1 = r ∧ ([] : va_W) = u) (kz_B D ty (va_A (([] : va_W)) sz)) (va_A (([] : va_W)) sz)) 0 0 (va_A (([] : va_W)) sz) := by
  refine Met.ofW (cc := cX9_isImage) (maxL := 1) (ret := (some .boolean)) (by decide) rfl ?_
  intro p e s m args below meth c s₁ B hml hv
  obtain ⟨rfl, hsz, hP, hK, hD0, hN, hE⟩ := hv
  have hx := B.exec
  have hb := B.bytes
  have hr := B.returns
  have hts := atoms_spec (ws := wsX9_isImage) B.pre
  have hown : s.vm.findClass RX9 = some m.cls := findClass_of_methodNamed B.named
  have hlocks := B.notSynchronized
  subst hsz
  have hD := hD0.self (sz := s.heap.size)
  generalize hAe : va_A (([] : va_W)) s.heap.size = A at hD hE ⊢
  have hA : ∀ q : Nat, s.heap.size ≤ q → A q := fun q h => by rw [← hAe]; exact Or.inr h
  clear hAe
  have hS : va_S A s.heap s.heap [] := va_S.rf
  have hl := lv_entry ([.int p1]) (n := 1) (Nat.le_of_ble_eq_true rfl)
  rw [lg_entry_eq]
  generalize (lg_sl ([.int p1]) ++ List.replicate (1 - (lg_sl ([.int p1])).length) Slot.unset).toArray = ls at hl ⊢
  have hl : lv_has ls 1 [(0, .int p1)] := hl
  have C : dc_C p s m _ meth c cX9_isImage (some .boolean) 1 RX9 wsX9_isImage D ty eo A := ⟨hx, hb, hr, hts, hown, hlocks, hml, hK, hN, hE, hA⟩
  unfold zX9_isImage at h
  refine lv_iload_n hx hb dX9_isImage_0 rfl (lv_at hl 0 rfl) ?_
  refine lv_if_lt (tgt := 13) hx hb dX9_isImage_1 (by decide) (fun c9 => ?_) (fun c9 => ?_)
  · rw [if_pos c9] at h
    exact WX9_isImage_13 C  _ _ _ h hP hD hS (lv_sub hl [] rfl)
  · rw [if_neg c9] at h
    refine lv_iload_n hx hb dX9_isImage_4 rfl (lv_at hl 0 rfl) ?_
    refine lv_iconst (v := 2) hx hb dX9_isImage_5 (by decide) ?_
    refine lv_icmp_ge (tgt := 13) hx hb dX9_isImage_6 (by decide) (fun c9 => ?_) (fun c9 => ?_)
    · rw [if_pos c9] at h
      exact WX9_isImage_13 C  _ _ _ h hP hD hS (lv_sub hl [] rfl)
    · rw [if_neg c9] at h
      refine lv_iconst (v := 1) hx hb dX9_isImage_9 (by decide) ?_
      refine lv_goto (tgt := 14) hx hb dX9_isImage_10 (by decide) ?_
      exact WX9_isImage_14 C  _ _ _ _ h hP hD hS (lv_sub hl [] rfl)

set_option maxHeartbeats 4000000 in
set_option maxRecDepth 100000 in
theorem WX8_unpack_s50_31b {p : Program} {l : Launch} {e : Env} {s : State} {m : MethodId} {args : Array Value} {below : List Frame} {meth : Method} {c : Code} {D : va_G} {ty : Nat → ClassId} {eo : Nat → Nat} {A : Nat → Prop} {ad : Nat → Nat} {o2 : dK} (C : dc_C p s m args meth c cX8_unpack none 6 RX8 wsX8_unpack D ty eo A) {k31 : dK → Int64 → Int32 → Option (dK)} (hk31 : ∀ (q : dK) (x3 : Int64) (x5 : Int32) (H : Heap) (locs : List Loc) (ls : Array Slot), k31 q x3 x5 = some o2 → va_P D vwCl (wF ty ad q) H → va_D A (wF ty ad q) → va_S A s.heap H locs → lv_has ls 6 [(0, .ref (ad 50)), (3, .long x3), (5, .int x5)] → W p l e ({ frames := 1, cells := 0, slots := 0, locals := 21 } : Room) s m args below meth c H locs 0 0 (MQ below (va_Qv (fun (u : va_W) => wF ty ad o2 = u) (kz_B D ty A) A) args s 0 0 A) (F0 m 31 ls [])) (q : dK) (x3 : Int64) (x5 : Int32) (H : Heap) (locs : List Loc) (ls : Array Slot) (h : zX8_unpack_s50_31b k31 q x3 x5 = some o2) (hP : va_P D vwCl (wF ty ad q) H) (hD : va_D A (wF ty ad q)) (hS : va_S A s.heap H locs) (hl : lv_has ls 6 [(0, .ref (ad 50)), (3, .long x3), (5, .int x5)]) : W p l e ({ frames := 1, cells := 0, slots := 0, locals := 21 } : Room) s m args below meth c H locs 0 0 (MQ below (va_Qv (fun (u : va_W) => wF ty ad o2 = u) (kz_B D ty A) A) args s 0 0 A) (F0 m 31 ls []) := by
  have C0 := C
  obtain ⟨hx, hb, hr, hts, hown, hlocks, hml, hK, hN, hE, hA⟩ := C
  unfold zX8_unpack_s50_31b at h
  refine lv_iload hx hb dX8_unpack_31 (lv_at hl 2 rfl) ?_
  refine lv_if_lt (tgt := 72) hx hb dX8_unpack_33 (by decide) (fun c9 => ?_) (fun c9 => ?_)
  · rw [if_pos c9] at h
    refine lv_aload_n hx hb dX8_unpack_72 rfl (lv_at hl 0 rfl) ?_
    refine lv_bipush (v := 6) hx hb dX8_unpack_73 (by decide) ?_
    refine lv_lload_n hx hb dX8_unpack_75 rfl (lv_at hl 1 rfl) ?_
    refine lv_l2i (v := Int64.toInt32 x3) hx hb dX8_unpack_76 rfl ?_
    refine va_mmin hx hb (hml.trans hl.1.symm) hown (hts (.methodLink RX8 41 Lib.Math.min.name) f9_wsX8_unpack_656) (hts (.static Lib.Math.min.name) f9_wsX8_unpack_657) (hts (.initialized "java/lang/Math") f9_wsX8_unpack_658) (hts (.code Lib.Math.min.name Lib.Math.min.code 2 (some .int)) f9_wsX8_unpack_659) (Nat.le_of_ble_eq_true rfl) (Nat.le_of_ble_eq_true rfl) (Nat.le_of_ble_eq_true rfl) (Nat.le_of_ble_eq_true rfl) dX8_unpack_77 ?_
    refine kz_topi (mnI 6 (Int64.toInt32 x3)) rfl ?_
    refine va_put (D := D) (ci := 8) (v := .int (mnI 6 (Int64.toInt32 x3))) (ty := .int) (C := RX8) (T := TX8) (N := 5) hx hb hts u9_wsX8_unpack_X8 tyX8 tyX8_ok nmX8 hown hK hP hD hS 50 rfl rfl 2 (by decide) (hts (.fieldLink RX8 18 "TurnedFloors$Tower" "floors" "I") f9_wsX8_unpack_660) (fun _ h9 => h9) rfl (by decide +kernel) rfl rfl (Nat.le_of_ble_eq_true rfl) dX8_unpack_80 (fun H locs hp hd hs => ?_)
    obtain ⟨q1, eq1, h⟩ := dL_some h
    refine kz_re (w2 := wF ty ad q1) hp hd hs (by rw [← eq1]; exact wF_f50_2 ty ad q (mnI 6 (Int64.toInt32 x3))) ?_
    clear hp hd hs hP hD hS
    intro hP hD hS
    cases h
    exact kz_vret hx hb hr hlocks hP hK hD hS dX8_unpack_83 rfl
  · rw [if_neg c9] at h
    refine lv_aload_n hx hb dX8_unpack_36 rfl (lv_at hl 0 rfl) ?_
    refine va_get (D := D) (ci := 8) (v := .ref (ad 52)) (C := RX8) (T := TX8) (N := 5) hx hb hts u9_wsX8_unpack_X8 hown hK hP 50 rfl rfl 1 (by decide) (hts (.fieldLink RX8 15 "TurnedFloors$Tower" "head" "[I") f9_wsX8_unpack_661) (fun _ h9 => h9) rfl dX8_unpack_37 ?_
    refine lv_iload hx hb dX8_unpack_40 (lv_at hl 2 rfl) ?_
    refine lv_lload_n hx hb dX8_unpack_42 rfl (lv_at hl 1 rfl) ?_
    refine lv_lconst (v := 1) hx hb dX8_unpack_43 (by decide) ?_
    refine lv_land hx hb dX8_unpack_44 ?_
    refine lv_l2i (v := Int64.toInt32 (x3 &&& 1 : Int64)) hx hb dX8_unpack_45 rfl ?_
    obtain ⟨g2, h⟩ := dG_some h
    refine va_iast hx hb hK hP hD hS 52 0 rfl rfl (dg_in g2) dX8_unpack_46 (fun H locs hp hd hs => ?_)
    obtain ⟨q3, eq3, h⟩ := dL_some h
    refine kz_re (w2 := wF ty ad q3) hp hd hs (by rw [← eq3]; exact wF_a52 ty ad q (Int32.toNatClampNeg x5) (Int64.toInt32 (x3 &&& 1 : Int64))) ?_
    clear hp hd hs hP hD hS
    intro hP hD hS
    refine lv_aload_n hx hb dX8_unpack_47 rfl (lv_at hl 0 rfl) ?_
    refine va_get (D := D) (ci := 8) (v := .ref (ad 51)) (C := RX8) (T := TX8) (N := 5) hx hb hts u9_wsX8_unpack_X8 hown hK hP 50 rfl rfl 0 (by decide) (hts (.fieldLink RX8 9 "TurnedFloors$Tower" "rank" "[I") f9_wsX8_unpack_662) (fun _ h9 => h9) rfl dX8_unpack_48 ?_
    refine lv_iload hx hb dX8_unpack_51 (lv_at hl 2 rfl) ?_
    refine lv_lload_n hx hb dX8_unpack_53 rfl (lv_at hl 1 rfl) ?_
    refine lv_iconst (v := 1) hx hb dX8_unpack_54 (by decide) ?_
    refine lv_lshr (v := x3 >>> (Int32.toInt64 (1 : Int32) &&& 63)) hx hb dX8_unpack_55 rfl ?_
    refine lv_ldc2 (v := 7) hx hb hown (hts (.constantLong RX8 39 7) f9_wsX8_unpack_663) dX8_unpack_56 ?_
    refine lv_land hx hb dX8_unpack_59 ?_
    refine lv_l2i (v := Int64.toInt32 ((x3 >>> (Int32.toInt64 (1 : Int32) &&& 63)) &&& 7 : Int64)) hx hb dX8_unpack_60 rfl ?_
    obtain ⟨g4, h⟩ := dG_some h
    refine va_iast hx hb hK hP hD hS 51 0 rfl rfl (dg_in g4) dX8_unpack_61 (fun H locs hp hd hs => ?_)
    obtain ⟨q5, eq5, h⟩ := dL_some h
    refine kz_re (w2 := wF ty ad q5) hp hd hs (by rw [← eq5]; exact wF_a51 ty ad q3 (Int32.toNatClampNeg x5) (Int64.toInt32 ((x3 >>> (Int32.toInt64 (1 : Int32) &&& 63)) &&& 7 : Int64))) ?_
    clear hp hd hs hP hD hS
    intro hP hD hS
    refine lv_lload_n hx hb dX8_unpack_62 rfl (lv_at hl 1 rfl) ?_
    refine lv_iconst (v := 4) hx hb dX8_unpack_63 (by decide) ?_
    refine lv_lshr (v := x3 >>> (Int32.toInt64 (4 : Int32) &&& 63)) hx hb dX8_unpack_64 rfl ?_
    refine lv_lstore_n (lv' := [(3, .long (x3 >>> (Int32.toInt64 (4 : Int32) &&& 63))), (0, .ref (ad 50)), (5, .int x5)]) hx hb dX8_unpack_65 rfl hl (by decide) rfl (fun ls hl => ?_)
    refine lv_iinc (v := x5 + (-1)) (lv' := [(5, .int (x5 + (-1))), (3, .long (x3 >>> (Int32.toInt64 (4 : Int32) &&& 63))), (0, .ref (ad 50))]) hx hb dX8_unpack_66 hl (k := 2) rfl rfl (by decide) rfl (fun ls hl => ?_)
    refine lv_goto (tgt := 31) hx hb dX8_unpack_69 (by decide) ?_
    exact hk31 _ _ _ _ _ _ h hP hD hS (lv_sub hl [2, 1, 0] rfl)
set_option maxHeartbeats 4000000 in
set_option maxRecDepth 100000 in
theorem WX8_unpack_s50_31 {p : Program} {l : Launch} {e : Env} {s : State} {m : MethodId} {args : Array Value} {below : List Frame} {meth : Method} {c : Code} {D : va_G} {ty : Nat → ClassId} {eo : Nat → Nat} {A : Nat → Prop} {ad : Nat → Nat} {o2 : dK} (C : dc_C p s m args meth c cX8_unpack none 6 RX8 wsX8_unpack D ty eo A)   (n : Nat) (q : dK) (x3 : Int64) (x5 : Int32) (H : Heap) (locs : List Loc) (ls : Array Slot) (h : zX8_unpack_s50_31  n q x3 x5 = some o2) (hP : va_P D vwCl (wF ty ad q) H) (hD : va_D A (wF ty ad q)) (hS : va_S A s.heap H locs) (hl : lv_has ls 6 [(0, .ref (ad 50)), (3, .long x3), (5, .int x5)]) : W p l e ({ frames := 1, cells := 0, slots := 0, locals := 21 } : Room) s m args below meth c H locs 0 0 (MQ below (va_Qv (fun (u : va_W) => wF ty ad o2 = u) (kz_B D ty A) A) args s 0 0 A) (F0 m 31 ls []) := by
  exact dFix_W (F := fun k (a : dK × Int64 × Int32) => zX8_unpack_s50_31b  (fun q x3 x5 => k (q, x3, x5)) a.1 a.2.1 a.2.2) (o := o2) (P := fun (a : dK × Int64 × Int32) H locs ls => va_P D vwCl (wF ty ad a.1) H ∧ va_D A (wF ty ad a.1) ∧ va_S A s.heap H locs ∧ lv_has ls 6 [(0, .ref (ad 50)), (3, .long a.2.1), (5, .int a.2.2)]) (G := fun H locs ls => W p l e ({ frames := 1, cells := 0, slots := 0, locals := 21 } : Room) s m args below meth c H locs 0 0 (MQ below (va_Qv (fun (u : va_W) => wF ty ad o2 = u) (kz_B D ty A) A) args s 0 0 A) (F0 m 31 ls []))
    (fun k hk a H locs ls h hp => WX8_unpack_s50_31b C  (fun q x3 x5 H locs ls h h1 h2 h3 h4 => hk (q, x3, x5) H locs ls h ⟨h1, h2, h3, h4⟩) a.1 a.2.1 a.2.2 H locs ls h hp.1 hp.2.1 hp.2.2.1 hp.2.2.2) n (q, x3, x5) H locs ls h ⟨hP, hD, hS, hl⟩
set_option maxHeartbeats 4000000 in
set_option maxRecDepth 100000 in
theorem qX8_unpack_s50 (l : Launch) (D : va_G) (ty : Nat → ClassId) (eo : Nat → Nat) (sz : Nat) (ad : Nat → Nat) (q : dK) (p1 : Int64) (o2 : dK) (h : zX8_unpack_s50 q p1 = some o2) : Met l yX8_unpack wsX8_unpack ({ frames := 1, cells := 0, slots := 0, locals := 21 } : Room) (va_Pc [.ref (ad 50), .long p1] (kz_pre D ty eo (wF ty ad q) sz)) (va_Qv (fun (u : va_W) => wF ty ad o2 = u) (kz_B D ty (va_A (wF ty ad q) sz)) (va_A (wF ty ad q) sz)) 0 0 (va_A (wF ty ad q) sz) := by
  refine Met.ofW (cc := cX8_unpack) (maxL := 6) (ret := none) (by decide) rfl ?_
  intro p e s m args below meth c s₁ B hml hv
  obtain ⟨rfl, hsz, hP, hK, hD0, hN, hE⟩ := hv
  have hx := B.exec
  have hb := B.bytes
  have hr := B.returns
  have hts := atoms_spec (ws := wsX8_unpack) B.pre
  have hown : s.vm.findClass RX8 = some m.cls := findClass_of_methodNamed B.named
  have hlocks := B.notSynchronized
  subst hsz
  have hD := hD0.self (sz := s.heap.size)
  generalize hAe : va_A (wF ty ad q) s.heap.size = A at hD hE ⊢
  have hA : ∀ q : Nat, s.heap.size ≤ q → A q := fun q h => by rw [← hAe]; exact Or.inr h
  clear hAe
  have hS : va_S A s.heap s.heap [] := va_S.rf
  have hl := lv_entry ([.ref (ad 50), .long p1]) (n := 6) (Nat.le_of_ble_eq_true rfl)
  rw [lg_entry_eq]
  generalize (lg_sl ([.ref (ad 50), .long p1]) ++ List.replicate (6 - (lg_sl ([.ref (ad 50), .long p1])).length) Slot.unset).toArray = ls at hl ⊢
  have hl : lv_has ls 6 [(0, .ref (ad 50)), (1, .long p1)] := hl
  have C : dc_C p s m _ meth c cX8_unpack none 6 RX8 wsX8_unpack D ty eo A := ⟨hx, hb, hr, hts, hown, hlocks, hml, hK, hN, hE, hA⟩
  unfold zX8_unpack_s50 at h
  refine lv_aload_n hx hb dX8_unpack_0 rfl (lv_at hl 0 rfl) ?_
  refine lv_lload_n hx hb dX8_unpack_1 rfl (lv_at hl 1 rfl) ?_
  refine lv_ldc2 (v := 1023) hx hb hown (hts (.constantLong RX8 35 1023) f9_wsX8_unpack_664) dX8_unpack_2 ?_
  refine lv_land hx hb dX8_unpack_5 ?_
  refine lv_l2i (v := Int64.toInt32 (p1 &&& 1023 : Int64)) hx hb dX8_unpack_6 rfl ?_
  refine va_put (D := D) (ci := 8) (v := .int (Int64.toInt32 (p1 &&& 1023 : Int64))) (ty := .int) (C := RX8) (T := TX8) (N := 5) hx hb hts u9_wsX8_unpack_X8 tyX8 tyX8_ok nmX8 hown hK hP hD hS 50 rfl rfl 4 (by decide) (hts (.fieldLink RX8 25 "TurnedFloors$Tower" "year" "I") f9_wsX8_unpack_665) (fun _ h9 => h9) rfl (by decide +kernel) rfl rfl (Nat.le_of_ble_eq_true rfl) dX8_unpack_7 (fun H locs hp hd hs => ?_)
  obtain ⟨q1, eq1, h⟩ := dL_some h
  refine kz_re (w2 := wF ty ad q1) hp hd hs (by rw [← eq1]; exact wF_f50_4 ty ad q (Int64.toInt32 (p1 &&& 1023 : Int64))) ?_
  clear hp hd hs hP hD hS
  intro hP hD hS
  refine lv_aload_n hx hb dX8_unpack_10 rfl (lv_at hl 0 rfl) ?_
  refine lv_lload_n hx hb dX8_unpack_11 rfl (lv_at hl 1 rfl) ?_
  refine lv_bipush (v := 10) hx hb dX8_unpack_12 (by decide) ?_
  refine lv_lshr (v := p1 >>> (Int32.toInt64 (10 : Int32) &&& 63)) hx hb dX8_unpack_14 rfl ?_
  refine lv_ldc2 (v := 16383) hx hb hown (hts (.constantLong RX8 37 16383) f9_wsX8_unpack_666) dX8_unpack_15 ?_
  refine lv_land hx hb dX8_unpack_18 ?_
  obtain ⟨v2, ev2, h⟩ := dL_some h
  refine kz_topl v2 ev2 ?_
  refine lv_l2i (v := Int64.toInt32 v2) hx hb dX8_unpack_19 rfl ?_
  refine va_put (D := D) (ci := 8) (v := .int (Int64.toInt32 v2)) (ty := .int) (C := RX8) (T := TX8) (N := 5) hx hb hts u9_wsX8_unpack_X8 tyX8 tyX8_ok nmX8 hown hK hP hD hS 50 rfl rfl 3 (by decide) (hts (.fieldLink RX8 22 "TurnedFloors$Tower" "paid" "I") f9_wsX8_unpack_667) (fun _ h9 => h9) rfl (by decide +kernel) rfl rfl (Nat.le_of_ble_eq_true rfl) dX8_unpack_20 (fun H locs hp hd hs => ?_)
  obtain ⟨q3, eq3, h⟩ := dL_some h
  refine kz_re (w2 := wF ty ad q3) hp hd hs (by rw [← eq3]; exact wF_f50_3 ty ad q1 (Int64.toInt32 v2)) ?_
  clear hp hd hs hP hD hS
  intro hP hD hS
  refine lv_lload_n hx hb dX8_unpack_23 rfl (lv_at hl 1 rfl) ?_
  refine lv_bipush (v := 24) hx hb dX8_unpack_24 (by decide) ?_
  refine lv_lshr (v := p1 >>> (Int32.toInt64 (24 : Int32) &&& 63)) hx hb dX8_unpack_26 rfl ?_
  refine lv_lstore_n (lv' := [(3, .long (p1 >>> (Int32.toInt64 (24 : Int32) &&& 63))), (0, .ref (ad 50)), (1, .long p1)]) hx hb dX8_unpack_27 rfl hl (by decide) rfl (fun ls hl => ?_)
  refine lv_iconst (v := 5) hx hb dX8_unpack_28 (by decide) ?_
  refine lv_istore (lv' := [(5, .int 5), (3, .long (p1 >>> (Int32.toInt64 (24 : Int32) &&& 63))), (0, .ref (ad 50)), (1, .long p1)]) hx hb dX8_unpack_29 hl (by decide) rfl (fun ls hl => ?_)
  exact WX8_unpack_s50_31 C  _ _ _ _ _ _ _ h hP hD hS (lv_sub hl [2, 1, 0] rfl)
