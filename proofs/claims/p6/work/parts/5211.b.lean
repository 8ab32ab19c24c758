theorem u9_wsX5_setWords_X5 : ∀ w ∈ u_ws RX5 TX5 4, w ∈ wsX5_setWords := by
  first | exact fun w h => List.mem_cons_of_mem _ (List.mem_append_right _ h) | decide +kernel
theorem f9_wsX5_setWords_620 : (Cond.fieldLink RX5 11 "TurnedFloors$Runner" "words" "[I") ∈ wsX5_setWords := by decide +kernel
theorem u9_wsX5_setWords_X8 : ∀ w ∈ u_ws RX8 TX8 5, w ∈ wsX5_setWords := by
  first | exact fun w h => List.mem_cons_of_mem _ (List.mem_append_right _ h) | decide +kernel
theorem f9_wsX5_setWords_622 : (Cond.fieldLink RX5 15 "TurnedFloors$Runner" "done" "I") ∈ wsX5_setWords := by decide +kernel
theorem f9_wsX5_setWords_623 : (Cond.fieldLink RX5 19 "TurnedFloors$Runner" "latest" "I") ∈ wsX5_setWords := by decide +kernel
theorem u9_wsX8_exchange_X8 : ∀ w ∈ u_ws RX8 TX8 5, w ∈ wsX8_exchange := by
  first | exact fun w h => List.mem_cons_of_mem _ (List.mem_append_right _ h) | decide +kernel
theorem f9_wsX8_exchange_625 : (Cond.fieldLink RX8 9 "TurnedFloors$Tower" "rank" "[I") ∈ wsX8_exchange := by decide +kernel
theorem f9_wsX8_exchange_626 : (Cond.fieldLink RX8 15 "TurnedFloors$Tower" "head" "[I") ∈ wsX8_exchange := by decide +kernel
set_option maxHeartbeats 4000000 in
set_option maxRecDepth 100000 in
theorem WX5_setWords_s22_s2_52b {p : Program} {l : Launch} {e : Env} {s : State} {m : MethodId} {args : Array Value} {below : List Frame} {meth : Method} {c : Code} {D : va_G} {ty : Nat → ClassId} {eo : Nat → Nat} {A : Nat → Prop} {ad : Nat → Nat} {o2 : dK} (C : dc_C p s m args meth c cX5_setWords none 3 RX5 wsX5_setWords D ty eo A) {k52 : dK → Int32 → Option (dK)} (hk52 : ∀ (q : dK) (x2 : Int32) (H : Heap) (locs : List Loc) (ls : Array Slot), k52 q x2 = some o2 → va_P D vwCl (wF ty ad q) H → va_D A (wF ty ad q) → va_S A s.heap H locs → lv_has ls 3 [(0, .ref (ad 22)), (1, .ref (ad 2)), (2, .int x2)] → W p l e ({ frames := 2, cells := 0, slots := 0, locals := 45 } : Room) s m args below meth c H locs 0 0 (MQ below (va_Qv (fun (u : va_W) => wF ty ad o2 = u) (kz_B D ty A) A) args s 0 0 A) (F0 m 52 ls [])) (q : dK) (x2 : Int32) (H : Heap) (locs : List Loc) (ls : Array Slot) (h : zX5_setWords_s22_s2_52b k52 q x2 = some o2) (hP : va_P D vwCl (wF ty ad q) H) (hD : va_D A (wF ty ad q)) (hS : va_S A s.heap H locs) (hl : lv_has ls 3 [(0, .ref (ad 22)), (1, .ref (ad 2)), (2, .int x2)]) : W p l e ({ frames := 2, cells := 0, slots := 0, locals := 45 } : Room) s m args below meth c H locs 0 0 (MQ below (va_Qv (fun (u : va_W) => wF ty ad o2 = u) (kz_B D ty A) A) args s 0 0 A) (F0 m 52 ls []) := by
  have C0 := C
  obtain ⟨hx, hb, hr, hts, hown, hlocks, hml, hK, hN, hE, hA⟩ := C
  unfold zX5_setWords_s22_s2_52b at h
  refine lv_iload_n hx hb dX5_setWords_52 rfl (lv_at hl 2 rfl) ?_
  refine lv_bipush (v := 6) hx hb dX5_setWords_53 (by decide) ?_
  refine lv_icmp_ge (tgt := 93) hx hb dX5_setWords_55 (by decide) (fun c9 => ?_) (fun c9 => ?_)
  · rw [if_pos c9] at h
    cases h
    exact kz_vret hx hb hr hlocks hP hK hD hS dX5_setWords_93 rfl
  · rw [if_neg c9] at h
    refine lv_aload_n hx hb dX5_setWords_58 rfl (lv_at hl 0 rfl) ?_
    refine va_get (D := D) (ci := 5) (v := .ref (ad 23)) (C := RX5) (T := TX5) (N := 4) hx hb hts u9_wsX5_setWords_X5 hown hK hP 22 rfl rfl 1 (by decide) (hts (.fieldLink RX5 11 "TurnedFloors$Runner" "words" "[I") f9_wsX5_setWords_620) (fun _ h9 => h9) rfl dX5_setWords_59 ?_
    refine lv_iconst (v := 5) hx hb dX5_setWords_62 (by decide) ?_
    refine lv_iload_n hx hb dX5_setWords_63 rfl (lv_at hl 2 rfl) ?_
    refine lv_iadd hx hb dX5_setWords_64 ?_
    refine lv_aload_n hx hb dX5_setWords_65 rfl (lv_at hl 1 rfl) ?_
    refine lv_iload_n hx hb dX5_setWords_66 rfl (lv_at hl 2 rfl) ?_
    refine lv_iconst (v := 0) hx hb dX5_setWords_67 (by decide) ?_
    obtain ⟨r1, q3, h2, h⟩ := dB_some h
    refine dw_ki (va_runV (As := [.int x2, .int 0]) (rest := [.int (5 + x2 : Int32), .ref (ad 23)]) ⟨hx, hb, hml, hown, hts⟩ (qX8_tell_s2 l D ty eo _ ad q x2 0 r1 q3 h2) (cwV 2 hts gX5_setWords_X8_tell rfl rfl rfl (by decide +kernel) ⟨Nat.le_of_ble_eq_true rfl, Nat.le_of_ble_eq_true rfl⟩) (dw_preV (ci := 8) (q0 := 2) hK hN hE hP hD hS hA rfl rfl) rfl rfl hl.1 rfl (lv_room (Nat.le_of_ble_eq_true rfl)) dX5_setWords_68 ⟨Nat.le_of_ble_eq_true rfl, Nat.le_of_ble_eq_true rfl⟩) hD hS hA (fun r9 u9 H locs hw hp hd hs => ?_)
    clear hP hD hS
    obtain ⟨rfl, rfl⟩ := hw
    have hP := hp; have hD := hd; have hS := hs; clear hp hd hs
    obtain ⟨g4, h⟩ := dG_some h
    refine va_iast hx hb hK hP hD hS 23 0 rfl rfl (dg_in g4) dX5_setWords_71 (fun H locs hp hd hs => ?_)
    obtain ⟨q5, eq5, h⟩ := dL_some h
    refine kz_re (w2 := wF ty ad q5) hp hd hs (by rw [← eq5]; exact wF_a23 ty ad q3 (Int32.toNatClampNeg (5 + x2 : Int32)) r1) ?_
    clear hp hd hs hP hD hS
    intro hP hD hS
    refine lv_aload_n hx hb dX5_setWords_72 rfl (lv_at hl 0 rfl) ?_
    refine va_get (D := D) (ci := 5) (v := .ref (ad 23)) (C := RX5) (T := TX5) (N := 4) hx hb hts u9_wsX5_setWords_X5 hown hK hP 22 rfl rfl 1 (by decide) (hts (.fieldLink RX5 11 "TurnedFloors$Runner" "words" "[I") f9_wsX5_setWords_620) (fun _ h9 => h9) rfl dX5_setWords_73 ?_
    refine lv_bipush (v := 11) hx hb dX5_setWords_76 (by decide) ?_
    refine lv_iload_n hx hb dX5_setWords_78 rfl (lv_at hl 2 rfl) ?_
    refine lv_iadd hx hb dX5_setWords_79 ?_
    refine lv_aload_n hx hb dX5_setWords_80 rfl (lv_at hl 1 rfl) ?_
    refine lv_iload_n hx hb dX5_setWords_81 rfl (lv_at hl 2 rfl) ?_
    refine lv_iconst (v := 1) hx hb dX5_setWords_82 (by decide) ?_
    obtain ⟨r6, q8, h7, h⟩ := dB_some h
    refine dw_ki (va_runV (As := [.int x2, .int 1]) (rest := [.int (11 + x2 : Int32), .ref (ad 23)]) ⟨hx, hb, hml, hown, hts⟩ (qX8_tell_s2 l D ty eo _ ad q5 x2 1 r6 q8 h7) (cwV 2 hts gX5_setWords_X8_tell rfl rfl rfl (by decide +kernel) ⟨Nat.le_of_ble_eq_true rfl, Nat.le_of_ble_eq_true rfl⟩) (dw_preV (ci := 8) (q0 := 2) hK hN hE hP hD hS hA rfl rfl) rfl rfl hl.1 rfl (lv_room (Nat.le_of_ble_eq_true rfl)) dX5_setWords_83 ⟨Nat.le_of_ble_eq_true rfl, Nat.le_of_ble_eq_true rfl⟩) hD hS hA (fun r9 u9 H locs hw hp hd hs => ?_)
    clear hP hD hS
    obtain ⟨rfl, rfl⟩ := hw
    have hP := hp; have hD := hd; have hS := hs; clear hp hd hs
    obtain ⟨g9, h⟩ := dG_some h
    refine va_iast hx hb hK hP hD hS 23 0 rfl rfl (dg_in g9) dX5_setWords_86 (fun H locs hp hd hs => ?_)
    obtain ⟨q10, eq10, h⟩ := dL_some h
    refine kz_re (w2 := wF ty ad q10) hp hd hs (by rw [← eq10]; exact wF_a23 ty ad q8 (Int32.toNatClampNeg (11 + x2 : Int32)) r6) ?_
    clear hp hd hs hP hD hS
    intro hP hD hS
    refine lv_iinc (v := x2 + 1) (lv' := [(2, .int (x2 + 1)), (0, .ref (ad 22)), (1, .ref (ad 2))]) hx hb dX5_setWords_87 hl (k := 2) rfl rfl (by decide) rfl (fun ls hl => ?_)
    refine lv_goto (tgt := 52) hx hb dX5_setWords_90 (by decide) ?_
    exact hk52 _ _ _ _ _ h hP hD hS (lv_sub hl [1, 2, 0] rfl)
set_option maxHeartbeats 4000000 in
set_option maxRecDepth 100000 in
theorem WX5_setWords_s22_s2_52 {p : Program} {l : Launch} {e : Env} {s : State} {m : MethodId} {args : Array Value} {below : List Frame} {meth : Method} {c : Code} {D : va_G} {ty : Nat → ClassId} {eo : Nat → Nat} {A : Nat → Prop} {ad : Nat → Nat} {o2 : dK} (C : dc_C p s m args meth c cX5_setWords none 3 RX5 wsX5_setWords D ty eo A)   (n : Nat) (q : dK) (x2 : Int32) (H : Heap) (locs : List Loc) (ls : Array Slot) (h : zX5_setWords_s22_s2_52  n q x2 = some o2) (hP : va_P D vwCl (wF ty ad q) H) (hD : va_D A (wF ty ad q)) (hS : va_S A s.heap H locs) (hl : lv_has ls 3 [(0, .ref (ad 22)), (1, .ref (ad 2)), (2, .int x2)]) : W p l e ({ frames := 2, cells := 0, slots := 0, locals := 45 } : Room) s m args below meth c H locs 0 0 (MQ below (va_Qv (fun (u : va_W) => wF ty ad o2 = u) (kz_B D ty A) A) args s 0 0 A) (F0 m 52 ls []) := by
  exact dFix_W (F := fun k (a : dK × Int32) => zX5_setWords_s22_s2_52b  (fun q x2 => k (q, x2)) a.1 a.2) (o := o2) (P := fun (a : dK × Int32) H locs ls => va_P D vwCl (wF ty ad a.1) H ∧ va_D A (wF ty ad a.1) ∧ va_S A s.heap H locs ∧ lv_has ls 3 [(0, .ref (ad 22)), (1, .ref (ad 2)), (2, .int a.2)]) (G := fun H locs ls => W p l e ({ frames := 2, cells := 0, slots := 0, locals := 45 } : Room) s m args below meth c H locs 0 0 (MQ below (va_Qv (fun (u : va_W) => wF ty ad o2 = u) (kz_B D ty A) A) args s 0 0 A) (F0 m 52 ls []))
    (fun k hk a H locs ls h hp => WX5_setWords_s22_s2_52b C  (fun q x2 H locs ls h h1 h2 h3 h4 => hk (q, x2) H locs ls h ⟨h1, h2, h3, h4⟩) a.1 a.2 H locs ls h hp.1 hp.2.1 hp.2.2.1 hp.2.2.2) n (q, x2) H locs ls h ⟨hP, hD, hS, hl⟩
set_option maxHeartbeats 4000000 in
set_option maxRecDepth 100000 in
theorem qX5_setWords_s22_s2 (l : Launch) (D : va_G) (ty : Nat → ClassId) (eo : Nat → Nat) (sz : Nat) (ad : Nat → Nat) (q : dK)  (o2 : dK) (h : zX5_setWords_s22_s2 q = some o2) : Met l yX5_setWords wsX5_setWords ({ frames := 2, cells := 0, slots := 0, locals := 45 } : Room) (va_Pc [.ref (ad 22), .ref (ad 2)] (kz_pre D ty eo (wF ty ad q) sz)) (va_Qv (fun (u : va_W) => wF ty ad o2 = u) (kz_B D ty (va_A (wF ty ad q) sz)) (va_A (wF ty ad q) sz)) 0 0 (va_A (wF ty ad q) sz) := by
  refine Met.ofW (cc := cX5_setWords) (maxL := 3) (ret := none) (by decide) rfl ?_
  intro p e s m args below meth c s₁ B hml hv
  obtain ⟨rfl, hsz, hP, hK, hD0, hN, hE⟩ := hv
  have hx := B.exec
  have hb := B.bytes
  have hr := B.returns
  have hts := atoms_spec (ws := wsX5_setWords) B.pre
  have hown : s.vm.findClass RX5 = some m.cls := findClass_of_methodNamed B.named
  have hlocks := B.notSynchronized
  subst hsz
  have hD := hD0.self (sz := s.heap.size)
  generalize hAe : va_A (wF ty ad q) s.heap.size = A at hD hE ⊢
  have hA : ∀ q : Nat, s.heap.size ≤ q → A q := fun q h => by rw [← hAe]; exact Or.inr h
  clear hAe
  have hS : va_S A s.heap s.heap [] := va_S.rf
  have hl := lv_entry ([.ref (ad 22), .ref (ad 2)]) (n := 3) (Nat.le_of_ble_eq_true rfl)
  rw [lg_entry_eq]
  generalize (lg_sl ([.ref (ad 22), .ref (ad 2)]) ++ List.replicate (3 - (lg_sl ([.ref (ad 22), .ref (ad 2)])).length) Slot.unset).toArray = ls at hl ⊢
  have hl : lv_has ls 3 [(0, .ref (ad 22)), (1, .ref (ad 2))] := hl
  have C : dc_C p s m _ meth c cX5_setWords none 3 RX5 wsX5_setWords D ty eo A := ⟨hx, hb, hr, hts, hown, hlocks, hml, hK, hN, hE, hA⟩
  unfold zX5_setWords_s22_s2 at h
  refine lv_aload_n hx hb dX5_setWords_0 rfl (lv_at hl 0 rfl) ?_
  refine va_get (D := D) (ci := 5) (v := .ref (ad 23)) (C := RX5) (T := TX5) (N := 4) hx hb hts u9_wsX5_setWords_X5 hown hK hP 22 rfl rfl 1 (by decide) (hts (.fieldLink RX5 11 "TurnedFloors$Runner" "words" "[I") f9_wsX5_setWords_620) (fun _ h9 => h9) rfl dX5_setWords_1 ?_
  refine lv_iconst (v := 0) hx hb dX5_setWords_4 (by decide) ?_
  refine lv_aload_n hx hb dX5_setWords_5 rfl (lv_at hl 1 rfl) ?_
  refine va_getN (D := D) (ci := 8) (v := .int (q.1 2 4)) (C := RX8) (T := TX8) (N := 5) hx hb hts u9_wsX5_setWords_X8 hown hK hP 2 rfl rfl 4 (by decide) (hN.use (.fieldLinkNest "TurnedFloors$Runner" 86 "TurnedFloors$Tower" "year" "I" "TurnedFloors") (by decide +kernel)) (fun _ h9 => h9) rfl dX5_setWords_6 ?_
  refine va_iast hx hb hK hP hD hS 23 0 rfl rfl (by simp only [vp_in]; decide) dX5_setWords_9 (fun H locs hp hd hs => ?_)
  obtain ⟨q1, eq1, h⟩ := dL_some h
  refine kz_re (w2 := wF ty ad q1) hp hd hs (by rw [(by decide +kernel : Int32.toNatClampNeg 0 = 0), ← eq1]; exact wF_a23 ty ad q 0 (q.1 2 4)) ?_
  clear hp hd hs hP hD hS
  intro hP hD hS
  refine lv_aload_n hx hb dX5_setWords_10 rfl (lv_at hl 0 rfl) ?_
  refine va_get (D := D) (ci := 5) (v := .ref (ad 23)) (C := RX5) (T := TX5) (N := 4) hx hb hts u9_wsX5_setWords_X5 hown hK hP 22 rfl rfl 1 (by decide) (hts (.fieldLink RX5 11 "TurnedFloors$Runner" "words" "[I") f9_wsX5_setWords_620) (fun _ h9 => h9) rfl dX5_setWords_11 ?_
  refine lv_iconst (v := 1) hx hb dX5_setWords_14 (by decide) ?_
  refine lv_aload_n hx hb dX5_setWords_15 rfl (lv_at hl 0 rfl) ?_
  refine va_get (D := D) (ci := 5) (v := .int (q1.1 22 2)) (C := RX5) (T := TX5) (N := 4) hx hb hts u9_wsX5_setWords_X5 hown hK hP 22 rfl rfl 2 (by decide) (hts (.fieldLink RX5 15 "TurnedFloors$Runner" "done" "I") f9_wsX5_setWords_622) (fun _ h9 => h9) rfl dX5_setWords_16 ?_
  refine va_iast hx hb hK hP hD hS 23 0 rfl rfl (by simp only [vp_in]; decide) dX5_setWords_19 (fun H locs hp hd hs => ?_)
  obtain ⟨q2, eq2, h⟩ := dL_some h
  refine kz_re (w2 := wF ty ad q2) hp hd hs (by rw [(by decide +kernel : Int32.toNatClampNeg 1 = 1), ← eq2]; exact wF_a23 ty ad q1 1 (q1.1 22 2)) ?_
  clear hp hd hs hP hD hS
  intro hP hD hS
  refine lv_aload_n hx hb dX5_setWords_20 rfl (lv_at hl 0 rfl) ?_
  refine va_get (D := D) (ci := 5) (v := .ref (ad 23)) (C := RX5) (T := TX5) (N := 4) hx hb hts u9_wsX5_setWords_X5 hown hK hP 22 rfl rfl 1 (by decide) (hts (.fieldLink RX5 11 "TurnedFloors$Runner" "words" "[I") f9_wsX5_setWords_620) (fun _ h9 => h9) rfl dX5_setWords_21 ?_
  refine lv_iconst (v := 2) hx hb dX5_setWords_24 (by decide) ?_
  refine lv_aload_n hx hb dX5_setWords_25 rfl (lv_at hl 0 rfl) ?_
  refine va_get (D := D) (ci := 5) (v := .int (q2.1 22 3)) (C := RX5) (T := TX5) (N := 4) hx hb hts u9_wsX5_setWords_X5 hown hK hP 22 rfl rfl 3 (by decide) (hts (.fieldLink RX5 19 "TurnedFloors$Runner" "latest" "I") f9_wsX5_setWords_623) (fun _ h9 => h9) rfl dX5_setWords_26 ?_
  refine va_iast hx hb hK hP hD hS 23 0 rfl rfl (by simp only [vp_in]; decide) dX5_setWords_29 (fun H locs hp hd hs => ?_)
  obtain ⟨q3, eq3, h⟩ := dL_some h
  refine kz_re (w2 := wF ty ad q3) hp hd hs (by rw [(by decide +kernel : Int32.toNatClampNeg 2 = 2), ← eq3]; exact wF_a23 ty ad q2 2 (q2.1 22 3)) ?_
  clear hp hd hs hP hD hS
  intro hP hD hS
  refine lv_aload_n hx hb dX5_setWords_30 rfl (lv_at hl 0 rfl) ?_
  refine va_get (D := D) (ci := 5) (v := .ref (ad 23)) (C := RX5) (T := TX5) (N := 4) hx hb hts u9_wsX5_setWords_X5 hown hK hP 22 rfl rfl 1 (by decide) (hts (.fieldLink RX5 11 "TurnedFloors$Runner" "words" "[I") f9_wsX5_setWords_620) (fun _ h9 => h9) rfl dX5_setWords_31 ?_
  refine lv_iconst (v := 3) hx hb dX5_setWords_34 (by decide) ?_
  refine lv_aload_n hx hb dX5_setWords_35 rfl (lv_at hl 1 rfl) ?_
  refine va_getN (D := D) (ci := 8) (v := .int (q3.1 2 3)) (C := RX8) (T := TX8) (N := 5) hx hb hts u9_wsX5_setWords_X8 hown hK hP 2 rfl rfl 3 (by decide) (hN.use (.fieldLinkNest "TurnedFloors$Runner" 89 "TurnedFloors$Tower" "paid" "I" "TurnedFloors") (by decide +kernel)) (fun _ h9 => h9) rfl dX5_setWords_36 ?_
  refine va_iast hx hb hK hP hD hS 23 0 rfl rfl (by simp only [vp_in]; decide) dX5_setWords_39 (fun H locs hp hd hs => ?_)
  obtain ⟨q4, eq4, h⟩ := dL_some h
  refine kz_re (w2 := wF ty ad q4) hp hd hs (by rw [(by decide +kernel : Int32.toNatClampNeg 3 = 3), ← eq4]; exact wF_a23 ty ad q3 3 (q3.1 2 3)) ?_
  clear hp hd hs hP hD hS
  intro hP hD hS
  refine lv_aload_n hx hb dX5_setWords_40 rfl (lv_at hl 0 rfl) ?_
  refine va_get (D := D) (ci := 5) (v := .ref (ad 23)) (C := RX5) (T := TX5) (N := 4) hx hb hts u9_wsX5_setWords_X5 hown hK hP 22 rfl rfl 1 (by decide) (hts (.fieldLink RX5 11 "TurnedFloors$Runner" "words" "[I") f9_wsX5_setWords_620) (fun _ h9 => h9) rfl dX5_setWords_41 ?_
  refine lv_iconst (v := 4) hx hb dX5_setWords_44 (by decide) ?_
  refine lv_aload_n hx hb dX5_setWords_45 rfl (lv_at hl 1 rfl) ?_
  obtain ⟨r5, q7, h6, h⟩ := dB_some h
  refine dw_ki (va_runV (As := []) (rest := [.int 4, .ref (ad 23)]) ⟨hx, hb, hml, hown, hts⟩ (qX8_gapCount_s2 l D ty eo _ ad q4  r5 q7 h6) (cwV 0 hts gX5_setWords_X8_gapCount rfl rfl rfl (by decide +kernel) ⟨Nat.le_of_ble_eq_true rfl, Nat.le_of_ble_eq_true rfl⟩) (dw_preV (ci := 8) (q0 := 2) hK hN hE hP hD hS hA rfl rfl) rfl rfl hl.1 rfl (lv_room (Nat.le_of_ble_eq_true rfl)) dX5_setWords_46 ⟨Nat.le_of_ble_eq_true rfl, Nat.le_of_ble_eq_true rfl⟩) hD hS hA (fun r9 u9 H locs hw hp hd hs => ?_)
  clear hP hD hS
  obtain ⟨rfl, rfl⟩ := hw
  have hP := hp; have hD := hd; have hS := hs; clear hp hd hs
  refine va_iast hx hb hK hP hD hS 23 0 rfl rfl (by simp only [vp_in]; decide) dX5_setWords_49 (fun H locs hp hd hs => ?_)
  obtain ⟨q8, eq8, h⟩ := dL_some h
  refine kz_re (w2 := wF ty ad q8) hp hd hs (by rw [(by decide +kernel : Int32.toNatClampNeg 4 = 4), ← eq8]; exact wF_a23 ty ad q7 4 r5) ?_
  clear hp hd hs hP hD hS
  intro hP hD hS
  refine lv_iconst (v := 0) hx hb dX5_setWords_50 (by decide) ?_
  refine lv_istore_n (lv' := [(2, .int 0), (0, .ref (ad 22)), (1, .ref (ad 2))]) hx hb dX5_setWords_51 rfl hl (by decide) rfl (fun ls hl => ?_)
  exact WX5_setWords_s22_s2_52 C  _ _ _ _ _ _ h hP hD hS (lv_sub hl [1, 2, 0] rfl)

set_option maxHeartbeats 4000000 in
set_option maxRecDepth 100000 in
theorem WX2_valueOf_s18_s25_s23_345 {p : Program} {l : Launch} {e : Env} {s : State} {m : MethodId} {args : Array Value} {below : List Frame} {meth : Method} {c : Code} {D : va_G} {ty : Nat → ClassId} {eo : Nat → Nat} {A : Nat → Prop} {ad : Nat → Nat} {o1 : Int32} {o2 : dK} (C : dc_C p s m args meth c cX2_valueOf (some .int) 13 RX2 wsX2_valueOf D ty eo A)   (q : dK) (y0 : Int32) (H : Heap) (locs : List Loc) (ls : Array Slot) (h : zX2_valueOf_s18_s25_s23_345  q y0 = some (o1, o2)) (hP : va_P D vwCl (wF ty ad q) H) (hD : va_D A (wF ty ad q)) (hS : va_S A s.heap H locs) (hl : lv_has ls 13 []) : W p l e ({ frames := 1, cells := 0, slots := 0, locals := 27 } : Room) s m args below meth c H locs 0 0 (MQ below (va_Qi (fun (r : Int32) (u : va_W) => o1 = r ∧ wF ty ad o2 = u) (kz_B D ty A) A) args s 0 0 A) (F0 m 345 ls [.int y0]) := by
  have C0 := C
  obtain ⟨hx, hb, hr, hts, hown, hlocks, hml, hK, hN, hE, hA⟩ := C
  unfold zX2_valueOf_s18_s25_s23_345 at h
  cases h
  exact kz_iret hx hb hr hlocks hP hK hD hS dX2_valueOf_345 ⟨rfl, rfl⟩
set_option maxHeartbeats 4000000 in
set_option maxRecDepth 100000 in
theorem WX2_valueOf_s18_s25_s23_328 {p : Program} {l : Launch} {e : Env} {s : State} {m : MethodId} {args : Array Value} {below : List Frame} {meth : Method} {c : Code} {D : va_G} {ty : Nat → ClassId} {eo : Nat → Nat} {A : Nat → Prop} {ad : Nat → Nat} {o1 : Int32} {o2 : dK} (C : dc_C p s m args meth c cX2_valueOf (some .int) 13 RX2 wsX2_valueOf D ty eo A)   (q : dK)  (H : Heap) (locs : List Loc) (ls : Array Slot) (h : zX2_valueOf_s18_s25_s23_328  q = some (o1, o2)) (hP : va_P D vwCl (wF ty ad q) H) (hD : va_D A (wF ty ad q)) (hS : va_S A s.heap H locs) (hl : lv_has ls 13 [(0, .ref (ad 18))]) : W p l e ({ frames := 1, cells := 0, slots := 0, locals := 27 } : Room) s m args below meth c H locs 0 0 (MQ below (va_Qi (fun (r : Int32) (u : va_W) => o1 = r ∧ wF ty ad o2 = u) (kz_B D ty A) A) args s 0 0 A) (F0 m 328 ls []) := by
  have C0 := C
  obtain ⟨hx, hb, hr, hts, hown, hlocks, hml, hK, hN, hE, hA⟩ := C
  unfold zX2_valueOf_s18_s25_s23_328 at h
  refine lv_aload_n hx hb dX2_valueOf_328 rfl (lv_at hl 0 rfl) ?_
  refine va_get (D := D) (ci := 2) (v := .int (q.1 18 1)) (C := RX2) (T := TX2) (N := 2) hx hb hts u9_wsX2_valueOf_X2 hown hK hP 18 rfl rfl 1 (by decide) (hts (.fieldLink RX2 13 "TurnedFloors$Machine" "broken" "Z") f9_wsX2_valueOf_386) (fun _ h9 => h9) rfl dX2_valueOf_329 ?_
  refine lv_if_eq (tgt := 339) hx hb dX2_valueOf_332 (by decide) (fun c9 => ?_) (fun c9 => ?_)
  · rw [if_pos c9] at h
    refine lv_aload_n hx hb dX2_valueOf_339 rfl (lv_at hl 0 rfl) ?_
    refine va_get (D := D) (ci := 2) (v := .ref (ad 19)) (C := RX2) (T := TX2) (N := 2) hx hb hts u9_wsX2_valueOf_X2 hown hK hP 18 rfl rfl 0 (by decide) (hts (.fieldLink RX2 9 "TurnedFloors$Machine" "stack" "[I") f9_wsX2_valueOf_387) (fun _ h9 => h9) rfl dX2_valueOf_340 ?_
    refine lv_iconst (v := 0) hx hb dX2_valueOf_343 (by decide) ?_
    refine va_iald hx hb hK hP 19 0 rfl rfl (by simp only [vp_in]; decide) dX2_valueOf_344 ?_
    refine kz_topi (q.1 19 0) (congrArg (q.1 19) (by decide +kernel : Int32.toNatClampNeg 0 = 0)) ?_
    exact WX2_valueOf_s18_s25_s23_345 C0  _ _ _ _ _ h hP hD hS (lv_sub hl [] rfl)
  · rw [if_neg c9] at h
    refine lv_iconst (v := 0) hx hb dX2_valueOf_335 (by decide) ?_
    refine lv_goto (tgt := 345) hx hb dX2_valueOf_336 (by decide) ?_
    exact WX2_valueOf_s18_s25_s23_345 C0  _ _ _ _ _ h hP hD hS (lv_sub hl [] rfl)
set_option maxHeartbeats 4000000 in
set_option maxRecDepth 100000 in
theorem WX2_valueOf_s18_s25_s23_322 {p : Program} {l : Launch} {e : Env} {s : State} {m : MethodId} {args : Array Value} {below : List Frame} {meth : Method} {c : Code} {D : va_G} {ty : Nat → ClassId} {eo : Nat → Nat} {A : Nat → Prop} {ad : Nat → Nat} {o1 : Int32} {o2 : dK} (C : dc_C p s m args meth c cX2_valueOf (some .int) 13 RX2 wsX2_valueOf D ty eo A) {k32 : dK → Int32 → Int32 → Int32 → Int32 → Option (Int32 × dK)} (hk32 : ∀ (q : dK) (x5 : Int32) (x6 : Int32) (x7 : Int32) (x8 : Int32) (H : Heap) (locs : List Loc) (ls : Array Slot), k32 q x5 x6 x7 x8 = some (o1, o2) → va_P D vwCl (wF ty ad q) H → va_D A (wF ty ad q) → va_S A s.heap H locs → lv_has ls 13 [(0, .ref (ad 18)), (1, .ref (ad 25)), (4, .ref (ad 23)), (5, .int x5), (6, .int x6), (7, .int x7), (8, .int x8)] → W p l e ({ frames := 1, cells := 0, slots := 0, locals := 27 } : Room) s m args below meth c H locs 0 0 (MQ below (va_Qi (fun (r : Int32) (u : va_W) => o1 = r ∧ wF ty ad o2 = u) (kz_B D ty A) A) args s 0 0 A) (F0 m 32 ls [])) (q : dK) (x5 : Int32) (x6 : Int32) (x7 : Int32) (x8 : Int32) (H : Heap) (locs : List Loc) (ls : Array Slot) (h : zX2_valueOf_s18_s25_s23_322 k32 q x5 x6 x7 x8 = some (o1, o2)) (hP : va_P D vwCl (wF ty ad q) H) (hD : va_D A (wF ty ad q)) (hS : va_S A s.heap H locs) (hl : lv_has ls 13 [(0, .ref (ad 18)), (1, .ref (ad 25)), (4, .ref (ad 23)), (5, .int x5), (6, .int x6), (7, .int x7), (8, .int x8)]) : W p l e ({ frames := 1, cells := 0, slots := 0, locals := 27 } : Room) s m args below meth c H locs 0 0 (MQ below (va_Qi (fun (r : Int32) (u : va_W) => o1 = r ∧ wF ty ad o2 = u) (kz_B D ty A) A) args s 0 0 A) (F0 m 322 ls []) := by
  have C0 := C
  obtain ⟨hx, hb, hr, hts, hown, hlocks, hml, hK, hN, hE, hA⟩ := C
  unfold zX2_valueOf_s18_s25_s23_322 at h
  refine lv_iinc (v := x8 + 1) (lv' := [(8, .int (x8 + 1)), (0, .ref (ad 18)), (1, .ref (ad 25)), (4, .ref (ad 23)), (5, .int x5), (6, .int x6), (7, .int x7)]) hx hb dX2_valueOf_322 hl (k := 6) rfl rfl (by decide) rfl (fun ls hl => ?_)
  refine lv_goto (tgt := 32) hx hb dX2_valueOf_325 (by decide) ?_
  exact hk32 _ _ _ _ _ _ _ _ h hP hD hS (lv_sub hl [1, 2, 3, 4, 5, 6, 0] rfl)
set_option maxHeartbeats 4000000 in
set_option maxRecDepth 100000 in
theorem WX2_valueOf_s18_s25_s23_281 {p : Program} {l : Launch} {e : Env} {s : State} {m : MethodId} {args : Array Value} {below : List Frame} {meth : Method} {c : Code} {D : va_G} {ty : Nat → ClassId} {eo : Nat → Nat} {A : Nat → Prop} {ad : Nat → Nat} {o1 : Int32} {o2 : dK} (C : dc_C p s m args meth c cX2_valueOf (some .int) 13 RX2 wsX2_valueOf D ty eo A) {k32 : dK → Int32 → Int32 → Int32 → Int32 → Option (Int32 × dK)} (hk32 : ∀ (q : dK) (x5 : Int32) (x6 : Int32) (x7 : Int32) (x8 : Int32) (H : Heap) (locs : List Loc) (ls : Array Slot), k32 q x5 x6 x7 x8 = some (o1, o2) → va_P D vwCl (wF ty ad q) H → va_D A (wF ty ad q) → va_S A s.heap H locs → lv_has ls 13 [(0, .ref (ad 18)), (1, .ref (ad 25)), (4, .ref (ad 23)), (5, .int x5), (6, .int x6), (7, .int x7), (8, .int x8)] → W p l e ({ frames := 1, cells := 0, slots := 0, locals := 27 } : Room) s m args below meth c H locs 0 0 (MQ below (va_Qi (fun (r : Int32) (u : va_W) => o1 = r ∧ wF ty ad o2 = u) (kz_B D ty A) A) args s 0 0 A) (F0 m 32 ls [])) (q : dK) (x6 : Int32) (x7 : Int32) (x8 : Int32) (y0 : Int32) (H : Heap) (locs : List Loc) (ls : Array Slot) (h : zX2_valueOf_s18_s25_s23_281 k32 q x6 x7 x8 y0 = some (o1, o2)) (hP : va_P D vwCl (wF ty ad q) H) (hD : va_D A (wF ty ad q)) (hS : va_S A s.heap H locs) (hl : lv_has ls 13 [(0, .ref (ad 18)), (1, .ref (ad 25)), (4, .ref (ad 23)), (6, .int x6), (7, .int x7), (8, .int x8)]) : W p l e ({ frames := 1, cells := 0, slots := 0, locals := 27 } : Room) s m args below meth c H locs 0 0 (MQ below (va_Qi (fun (r : Int32) (u : va_W) => o1 = r ∧ wF ty ad o2 = u) (kz_B D ty A) A) args s 0 0 A) (F0 m 281 ls [.int y0]) := by
  have C0 := C
  obtain ⟨hx, hb, hr, hts, hown, hlocks, hml, hK, hN, hE, hA⟩ := C
  unfold zX2_valueOf_s18_s25_s23_281 at h
  refine lv_istore (lv' := [(5, .int y0), (0, .ref (ad 18)), (1, .ref (ad 25)), (4, .ref (ad 23)), (6, .int x6), (7, .int x7), (8, .int x8)]) hx hb dX2_valueOf_281 hl (by decide) rfl (fun ls hl => ?_)
  refine lv_goto (tgt := 322) hx hb dX2_valueOf_283 (by decide) ?_
  exact WX2_valueOf_s18_s25_s23_322 C0 hk32 _ _ _ _ _ _ _ _ h hP hD hS (lv_sub hl [1, 2, 3, 0, 4, 5, 6] rfl)
set_option maxHeartbeats 4000000 in
set_option maxRecDepth 100000 in
theorem WX2_valueOf_s18_s25_s23_265 {p : Program} {l : Launch} {e : Env} {s : State} {m : MethodId} {args : Array Value} {below : List Frame} {meth : Method} {c : Code} {D : va_G} {ty : Nat → ClassId} {eo : Nat → Nat} {A : Nat → Prop} {ad : Nat → Nat} {o1 : Int32} {o2 : dK} (C : dc_C p s m args meth c cX2_valueOf (some .int) 13 RX2 wsX2_valueOf D ty eo A) {k32 : dK → Int32 → Int32 → Int32 → Int32 → Option (Int32 × dK)} (hk32 : ∀ (q : dK) (x5 : Int32) (x6 : Int32) (x7 : Int32) (x8 : Int32) (H : Heap) (locs : List Loc) (ls : Array Slot), k32 q x5 x6 x7 x8 = some (o1, o2) → va_P D vwCl (wF ty ad q) H → va_D A (wF ty ad q) → va_S A s.heap H locs → lv_has ls 13 [(0, .ref (ad 18)), (1, .ref (ad 25)), (4, .ref (ad 23)), (5, .int x5), (6, .int x6), (7, .int x7), (8, .int x8)] → W p l e ({ frames := 1, cells := 0, slots := 0, locals := 27 } : Room) s m args below meth c H locs 0 0 (MQ below (va_Qi (fun (r : Int32) (u : va_W) => o1 = r ∧ wF ty ad o2 = u) (kz_B D ty A) A) args s 0 0 A) (F0 m 32 ls [])) (q : dK) (x5 : Int32) (x7 : Int32) (x8 : Int32) (x12 : Int32) (y0 : Int32) (H : Heap) (locs : List Loc) (ls : Array Slot) (h : zX2_valueOf_s18_s25_s23_265 k32 q x5 x7 x8 x12 y0 = some (o1, o2)) (hP : va_P D vwCl (wF ty ad q) H) (hD : va_D A (wF ty ad q)) (hS : va_S A s.heap H locs) (hl : lv_has ls 13 [(0, .ref (ad 18)), (1, .ref (ad 25)), (4, .ref (ad 23)), (5, .int x5), (7, .int x7), (8, .int x8), (12, .int x12)]) : W p l e ({ frames := 1, cells := 0, slots := 0, locals := 27 } : Room) s m args below meth c H locs 0 0 (MQ below (va_Qi (fun (r : Int32) (u : va_W) => o1 = r ∧ wF ty ad o2 = u) (kz_B D ty A) A) args s 0 0 A) (F0 m 265 ls [.int y0]) := by
  have C0 := C
  obtain ⟨hx, hb, hr, hts, hown, hlocks, hml, hK, hN, hE, hA⟩ := C
  unfold zX2_valueOf_s18_s25_s23_265 at h
  refine lv_istore (lv' := [(6, .int y0), (0, .ref (ad 18)), (1, .ref (ad 25)), (4, .ref (ad 23)), (5, .int x5), (7, .int x7), (8, .int x8), (12, .int x12)]) hx hb dX2_valueOf_265 hl (by decide) rfl (fun ls hl => ?_)
  refine lv_iload hx hb dX2_valueOf_267 (lv_at hl 7 rfl) ?_
  refine lv_if_eq (tgt := 277) hx hb dX2_valueOf_269 (by decide) (fun c9 => ?_) (fun c9 => ?_)
  · rw [if_pos c9] at h
    refine lv_iload hx hb dX2_valueOf_277 (lv_at hl 4 rfl) ?_
    refine lv_iconst (v := 1) hx hb dX2_valueOf_279 (by decide) ?_
    refine lv_isub hx hb dX2_valueOf_280 ?_
    exact WX2_valueOf_s18_s25_s23_281 C0 hk32 _ _ _ _ _ _ _ _ h hP hD hS (lv_sub hl [1, 2, 3, 0, 5, 6] rfl)
  · rw [if_neg c9] at h
    refine lv_iload hx hb dX2_valueOf_272 (lv_at hl 4 rfl) ?_
    refine lv_goto (tgt := 281) hx hb dX2_valueOf_274 (by decide) ?_
    exact WX2_valueOf_s18_s25_s23_281 C0 hk32 _ _ _ _ _ _ _ _ h hP hD hS (lv_sub hl [1, 2, 3, 0, 5, 6] rfl)
set_option maxHeartbeats 4000000 in
set_option maxRecDepth 100000 in
theorem WX2_valueOf_s18_s25_s23_251 {p : Program} {l : Launch} {e : Env} {s : State} {m : MethodId} {args : Array Value} {below : List Frame} {meth : Method} {c : Code} {D : va_G} {ty : Nat → ClassId} {eo : Nat → Nat} {A : Nat → Prop} {ad : Nat → Nat} {o1 : Int32} {o2 : dK} (C : dc_C p s m args meth c cX2_valueOf (some .int) 13 RX2 wsX2_valueOf D ty eo A) {k32 : dK → Int32 → Int32 → Int32 → Int32 → Option (Int32 × dK)} (hk32 : ∀ (q : dK) (x5 : Int32) (x6 : Int32) (x7 : Int32) (x8 : Int32) (H : Heap) (locs : List Loc) (ls : Array Slot), k32 q x5 x6 x7 x8 = some (o1, o2) → va_P D vwCl (wF ty ad q) H → va_D A (wF ty ad q) → va_S A s.heap H locs → lv_has ls 13 [(0, .ref (ad 18)), (1, .ref (ad 25)), (4, .ref (ad 23)), (5, .int x5), (6, .int x6), (7, .int x7), (8, .int x8)] → W p l e ({ frames := 1, cells := 0, slots := 0, locals := 27 } : Room) s m args below meth c H locs 0 0 (MQ below (va_Qi (fun (r : Int32) (u : va_W) => o1 = r ∧ wF ty ad o2 = u) (kz_B D ty A) A) args s 0 0 A) (F0 m 32 ls [])) (q : dK) (x5 : Int32) (x6 : Int32) (x7 : Int32) (x8 : Int32) (x10 : Int32) (y0 : Int32) (H : Heap) (locs : List Loc) (ls : Array Slot) (h : zX2_valueOf_s18_s25_s23_251 k32 q x5 x6 x7 x8 x10 y0 = some (o1, o2)) (hP : va_P D vwCl (wF ty ad q) H) (hD : va_D A (wF ty ad q)) (hS : va_S A s.heap H locs) (hl : lv_has ls 13 [(0, .ref (ad 18)), (1, .ref (ad 25)), (4, .ref (ad 23)), (5, .int x5), (6, .int x6), (7, .int x7), (8, .int x8), (10, .int x10)]) : W p l e ({ frames := 1, cells := 0, slots := 0, locals := 27 } : Room) s m args below meth c H locs 0 0 (MQ below (va_Qi (fun (r : Int32) (u : va_W) => o1 = r ∧ wF ty ad o2 = u) (kz_B D ty A) A) args s 0 0 A) (F0 m 251 ls [.int y0]) := by
  have C0 := C
  obtain ⟨hx, hb, hr, hts, hown, hlocks, hml, hK, hN, hE, hA⟩ := C
  unfold zX2_valueOf_s18_s25_s23_251 at h
  refine lv_istore (lv' := [(12, .int y0), (0, .ref (ad 18)), (1, .ref (ad 25)), (4, .ref (ad 23)), (5, .int x5), (6, .int x6), (7, .int x7), (8, .int x8), (10, .int x10)]) hx hb dX2_valueOf_251 hl (by decide) rfl (fun ls hl => ?_)
  refine lv_iload hx hb dX2_valueOf_253 (lv_at hl 0 rfl) ?_
  refine lv_if_eq (tgt := 263) hx hb dX2_valueOf_255 (by decide) (fun c9 => ?_) (fun c9 => ?_)
  · rw [if_pos c9] at h
    refine lv_iload hx hb dX2_valueOf_263 (lv_at hl 5 rfl) ?_
    exact WX2_valueOf_s18_s25_s23_265 C0 hk32 _ _ _ _ _ _ _ _ _ h hP hD hS (lv_sub hl [1, 2, 3, 4, 6, 7, 0] rfl)
  · rw [if_neg c9] at h
    refine lv_iload hx hb dX2_valueOf_258 (lv_at hl 8 rfl) ?_
    refine lv_goto (tgt := 265) hx hb dX2_valueOf_260 (by decide) ?_
    exact WX2_valueOf_s18_s25_s23_265 C0 hk32 _ _ _ _ _ _ _ _ _ h hP hD hS (lv_sub hl [1, 2, 3, 4, 6, 7, 0] rfl)
set_option maxHeartbeats 4000000 in
set_option maxRecDepth 100000 in
theorem WX2_valueOf_s18_s25_s23_243 {p : Program} {l : Launch} {e : Env} {s : State} {m : MethodId} {args : Array Value} {below : List Frame} {meth : Method} {c : Code} {D : va_G} {ty : Nat → ClassId} {eo : Nat → Nat} {A : Nat → Prop} {ad : Nat → Nat} {o1 : Int32} {o2 : dK} (C : dc_C p s m args meth c cX2_valueOf (some .int) 13 RX2 wsX2_valueOf D ty eo A) {k32 : dK → Int32 → Int32 → Int32 → Int32 → Option (Int32 × dK)} (hk32 : ∀ (q : dK) (x5 : Int32) (x6 : Int32) (x7 : Int32) (x8 : Int32) (H : Heap) (locs : List Loc) (ls : Array Slot), k32 q x5 x6 x7 x8 = some (o1, o2) → va_P D vwCl (wF ty ad q) H → va_D A (wF ty ad q) → va_S A s.heap H locs → lv_has ls 13 [(0, .ref (ad 18)), (1, .ref (ad 25)), (4, .ref (ad 23)), (5, .int x5), (6, .int x6), (7, .int x7), (8, .int x8)] → W p l e ({ frames := 1, cells := 0, slots := 0, locals := 27 } : Room) s m args below meth c H locs 0 0 (MQ below (va_Qi (fun (r : Int32) (u : va_W) => o1 = r ∧ wF ty ad o2 = u) (kz_B D ty A) A) args s 0 0 A) (F0 m 32 ls [])) (q : dK) (x5 : Int32) (x6 : Int32) (x7 : Int32) (x8 : Int32) (x10 : Int32) (y0 : Int32) (y1 : Int32) (H : Heap) (locs : List Loc) (ls : Array Slot) (h : zX2_valueOf_s18_s25_s23_243 k32 q x5 x6 x7 x8 x10 y0 y1 = some (o1, o2)) (hP : va_P D vwCl (wF ty ad q) H) (hD : va_D A (wF ty ad q)) (hS : va_S A s.heap H locs) (hl : lv_has ls 13 [(0, .ref (ad 18)), (1, .ref (ad 25)), (4, .ref (ad 23)), (5, .int x5), (6, .int x6), (7, .int x7), (8, .int x8), (10, .int x10)]) : W p l e ({ frames := 1, cells := 0, slots := 0, locals := 27 } : Room) s m args below meth c H locs 0 0 (MQ below (va_Qi (fun (r : Int32) (u : va_W) => o1 = r ∧ wF ty ad o2 = u) (kz_B D ty A) A) args s 0 0 A) (F0 m 243 ls [.int y0, .int y1]) := by
  have C0 := C
  obtain ⟨hx, hb, hr, hts, hown, hlocks, hml, hK, hN, hE, hA⟩ := C
  unfold zX2_valueOf_s18_s25_s23_243 at h
  refine lv_icmp_ne (tgt := 250) hx hb dX2_valueOf_243 (by decide) (fun c9 => ?_) (fun c9 => ?_)
  · rw [if_neg c9] at h
    refine lv_iconst (v := 0) hx hb dX2_valueOf_250 (by decide) ?_
    exact WX2_valueOf_s18_s25_s23_251 C0 hk32 _ _ _ _ _ _ _ _ _ _ h hP hD hS (lv_sub hl [0, 1, 2, 3, 4, 5, 6, 7] rfl)
  · rw [if_pos c9] at h
    refine lv_iconst (v := 1) hx hb dX2_valueOf_246 (by decide) ?_
    refine lv_goto (tgt := 251) hx hb dX2_valueOf_247 (by decide) ?_
    exact WX2_valueOf_s18_s25_s23_251 C0 hk32 _ _ _ _ _ _ _ _ _ _ h hP hD hS (lv_sub hl [0, 1, 2, 3, 4, 5, 6, 7] rfl)
set_option maxHeartbeats 4000000 in
set_option maxRecDepth 100000 in
theorem WX2_valueOf_s18_s25_s23_222 {p : Program} {l : Launch} {e : Env} {s : State} {m : MethodId} {args : Array Value} {below : List Frame} {meth : Method} {c : Code} {D : va_G} {ty : Nat → ClassId} {eo : Nat → Nat} {A : Nat → Prop} {ad : Nat → Nat} {o1 : Int32} {o2 : dK} (C : dc_C p s m args meth c cX2_valueOf (some .int) 13 RX2 wsX2_valueOf D ty eo A) {k32 : dK → Int32 → Int32 → Int32 → Int32 → Option (Int32 × dK)} (hk32 : ∀ (q : dK) (x5 : Int32) (x6 : Int32) (x7 : Int32) (x8 : Int32) (H : Heap) (locs : List Loc) (ls : Array Slot), k32 q x5 x6 x7 x8 = some (o1, o2) → va_P D vwCl (wF ty ad q) H → va_D A (wF ty ad q) → va_S A s.heap H locs → lv_has ls 13 [(0, .ref (ad 18)), (1, .ref (ad 25)), (4, .ref (ad 23)), (5, .int x5), (6, .int x6), (7, .int x7), (8, .int x8)] → W p l e ({ frames := 1, cells := 0, slots := 0, locals := 27 } : Room) s m args below meth c H locs 0 0 (MQ below (va_Qi (fun (r : Int32) (u : va_W) => o1 = r ∧ wF ty ad o2 = u) (kz_B D ty A) A) args s 0 0 A) (F0 m 32 ls [])) (q : dK) (x5 : Int32) (x6 : Int32) (x7 : Int32) (x8 : Int32) (x9 : Int32) (x10 : Int32) (H : Heap) (locs : List Loc) (ls : Array Slot) (h : zX2_valueOf_s18_s25_s23_222 k32 q x5 x6 x7 x8 x9 x10 = some (o1, o2)) (hP : va_P D vwCl (wF ty ad q) H) (hD : va_D A (wF ty ad q)) (hS : va_S A s.heap H locs) (hl : lv_has ls 13 [(0, .ref (ad 18)), (1, .ref (ad 25)), (4, .ref (ad 23)), (5, .int x5), (6, .int x6), (7, .int x7), (8, .int x8), (9, .int x9), (10, .int x10)]) : W p l e ({ frames := 1, cells := 0, slots := 0, locals := 27 } : Room) s m args below meth c H locs 0 0 (MQ below (va_Qi (fun (r : Int32) (u : va_W) => o1 = r ∧ wF ty ad o2 = u) (kz_B D ty A) A) args s 0 0 A) (F0 m 222 ls []) := by
  have C0 := C
  obtain ⟨hx, hb, hr, hts, hown, hlocks, hml, hK, hN, hE, hA⟩ := C
  unfold zX2_valueOf_s18_s25_s23_222 at h
  refine lv_aload_n hx hb dX2_valueOf_222 rfl (lv_at hl 0 rfl) ?_
  refine va_get (D := D) (ci := 2) (v := .ref (ad 19)) (C := RX2) (T := TX2) (N := 2) hx hb hts u9_wsX2_valueOf_X2 hown hK hP 18 rfl rfl 0 (by decide) (hts (.fieldLink RX2 9 "TurnedFloors$Machine" "stack" "[I") f9_wsX2_valueOf_387) (fun _ h9 => h9) rfl dX2_valueOf_223 ?_
  refine lv_iload hx hb dX2_valueOf_226 (lv_at hl 3 rfl) ?_
  refine lv_iconst (v := 1) hx hb dX2_valueOf_228 (by decide) ?_
  refine lv_isub hx hb dX2_valueOf_229 ?_
  obtain ⟨g1, h⟩ := dG_some h
  refine va_iald hx hb hK hP 19 0 rfl rfl (dg_in g1) dX2_valueOf_230 ?_
  obtain ⟨v2, ev2, h⟩ := dL_some h
  refine kz_topi v2 ev2 ?_
  refine lv_iload hx hb dX2_valueOf_231 (lv_at hl 7 rfl) ?_
  refine lv_bipush (v := 12) hx hb dX2_valueOf_233 (by decide) ?_
  refine lv_icmp_ne (tgt := 242) hx hb dX2_valueOf_235 (by decide) (fun c9 => ?_) (fun c9 => ?_)
  · rw [if_neg c9] at h
    refine lv_iconst (v := 0) hx hb dX2_valueOf_242 (by decide) ?_
    exact WX2_valueOf_s18_s25_s23_243 C0 hk32 _ _ _ _ _ _ _ _ _ _ _ h hP hD hS (lv_sub hl [0, 1, 2, 3, 4, 5, 6, 8] rfl)
  · rw [if_pos c9] at h
    refine lv_iconst (v := 1) hx hb dX2_valueOf_238 (by decide) ?_
    refine lv_goto (tgt := 243) hx hb dX2_valueOf_239 (by decide) ?_
    exact WX2_valueOf_s18_s25_s23_243 C0 hk32 _ _ _ _ _ _ _ _ _ _ _ h hP hD hS (lv_sub hl [0, 1, 2, 3, 4, 5, 6, 8] rfl)
set_option maxHeartbeats 4000000 in
set_option maxRecDepth 100000 in
theorem WX2_valueOf_s18_s25_s23_171 {p : Program} {l : Launch} {e : Env} {s : State} {m : MethodId} {args : Array Value} {below : List Frame} {meth : Method} {c : Code} {D : va_G} {ty : Nat → ClassId} {eo : Nat → Nat} {A : Nat → Prop} {ad : Nat → Nat} {o1 : Int32} {o2 : dK} (C : dc_C p s m args meth c cX2_valueOf (some .int) 13 RX2 wsX2_valueOf D ty eo A) {k32 : dK → Int32 → Int32 → Int32 → Int32 → Option (Int32 × dK)} (hk32 : ∀ (q : dK) (x5 : Int32) (x6 : Int32) (x7 : Int32) (x8 : Int32) (H : Heap) (locs : List Loc) (ls : Array Slot), k32 q x5 x6 x7 x8 = some (o1, o2) → va_P D vwCl (wF ty ad q) H → va_D A (wF ty ad q) → va_S A s.heap H locs → lv_has ls 13 [(0, .ref (ad 18)), (1, .ref (ad 25)), (4, .ref (ad 23)), (5, .int x5), (6, .int x6), (7, .int x7), (8, .int x8)] → W p l e ({ frames := 1, cells := 0, slots := 0, locals := 27 } : Room) s m args below meth c H locs 0 0 (MQ below (va_Qi (fun (r : Int32) (u : va_W) => o1 = r ∧ wF ty ad o2 = u) (kz_B D ty A) A) args s 0 0 A) (F0 m 32 ls [])) (q : dK) (x5 : Int32) (x6 : Int32) (x7 : Int32) (x8 : Int32) (y0 : Int32) (y1 : Int32) (H : Heap) (locs : List Loc) (ls : Array Slot) (h : zX2_valueOf_s18_s25_s23_171 k32 q x5 x6 x7 x8 y0 y1 = some (o1, o2)) (hP : va_P D vwCl (wF ty ad q) H) (hD : va_D A (wF ty ad q)) (hS : va_S A s.heap H locs) (hl : lv_has ls 13 [(0, .ref (ad 18)), (1, .ref (ad 25)), (4, .ref (ad 23)), (5, .int x5), (6, .int x6), (7, .int x7), (8, .int x8)]) : W p l e ({ frames := 1, cells := 0, slots := 0, locals := 27 } : Room) s m args below meth c H locs 0 0 (MQ below (va_Qi (fun (r : Int32) (u : va_W) => o1 = r ∧ wF ty ad o2 = u) (kz_B D ty A) A) args s 0 0 A) (F0 m 171 ls [.int y0, .int y1, .ref (ad 19)]) := by
  have C0 := C
  obtain ⟨hx, hb, hr, hts, hown, hlocks, hml, hK, hN, hE, hA⟩ := C
  unfold zX2_valueOf_s18_s25_s23_171 at h
  obtain ⟨g1, h⟩ := dG_some h
  refine va_iast hx hb hK hP hD hS 19 0 rfl rfl (dg_in g1) dX2_valueOf_171 (fun H locs hp hd hs => ?_)
  obtain ⟨q2, eq2, h⟩ := dL_some h
  refine kz_re (w2 := wF ty ad q2) hp hd hs (by rw [← eq2]; exact wF_a19 ty ad q (Int32.toNatClampNeg y1) y0) ?_
  clear hp hd hs hP hD hS
  intro hP hD hS
  refine lv_iinc (v := x5 + 1) (lv' := [(5, .int (x5 + 1)), (0, .ref (ad 18)), (1, .ref (ad 25)), (4, .ref (ad 23)), (6, .int x6), (7, .int x7), (8, .int x8)]) hx hb dX2_valueOf_172 hl (k := 3) rfl rfl (by decide) rfl (fun ls hl => ?_)
  refine lv_goto (tgt := 322) hx hb dX2_valueOf_175 (by decide) ?_
  exact WX2_valueOf_s18_s25_s23_322 C0 hk32 _ _ _ _ _ _ _ _ h hP hD hS (lv_sub hl [1, 2, 3, 0, 4, 5, 6] rfl)
set_option maxHeartbeats 4000000 in
set_option maxRecDepth 100000 in
theorem WX2_valueOf_s18_s25_s23_150 {p : Program} {l : Launch} {e : Env} {s : State} {m : MethodId} {args : Array Value} {below : List Frame} {meth : Method} {c : Code} {D : va_G} {ty : Nat → ClassId} {eo : Nat → Nat} {A : Nat → Prop} {ad : Nat → Nat} {o1 : Int32} {o2 : dK} (C : dc_C p s m args meth c cX2_valueOf (some .int) 13 RX2 wsX2_valueOf D ty eo A) {k32 : dK → Int32 → Int32 → Int32 → Int32 → Option (Int32 × dK)} (hk32 : ∀ (q : dK) (x5 : Int32) (x6 : Int32) (x7 : Int32) (x8 : Int32) (H : Heap) (locs : List Loc) (ls : Array Slot), k32 q x5 x6 x7 x8 = some (o1, o2) → va_P D vwCl (wF ty ad q) H → va_D A (wF ty ad q) → va_S A s.heap H locs → lv_has ls 13 [(0, .ref (ad 18)), (1, .ref (ad 25)), (4, .ref (ad 23)), (5, .int x5), (6, .int x6), (7, .int x7), (8, .int x8)] → W p l e ({ frames := 1, cells := 0, slots := 0, locals := 27 } : Room) s m args below meth c H locs 0 0 (MQ below (va_Qi (fun (r : Int32) (u : va_W) => o1 = r ∧ wF ty ad o2 = u) (kz_B D ty A) A) args s 0 0 A) (F0 m 32 ls [])) (q : dK) (x5 : Int32) (x6 : Int32) (x7 : Int32) (x8 : Int32) (x9 : Int32) (x10 : Int32) (H : Heap) (locs : List Loc) (ls : Array Slot) (h : zX2_valueOf_s18_s25_s23_150 k32 q x5 x6 x7 x8 x9 x10 = some (o1, o2)) (hP : va_P D vwCl (wF ty ad q) H) (hD : va_D A (wF ty ad q)) (hS : va_S A s.heap H locs) (hl : lv_has ls 13 [(0, .ref (ad 18)), (1, .ref (ad 25)), (4, .ref (ad 23)), (5, .int x5), (6, .int x6), (7, .int x7), (8, .int x8), (9, .int x9), (10, .int x10)]) : W p l e ({ frames := 1, cells := 0, slots := 0, locals := 27 } : Room) s m args below meth c H locs 0 0 (MQ below (va_Qi (fun (r : Int32) (u : va_W) => o1 = r ∧ wF ty ad o2 = u) (kz_B D ty A) A) args s 0 0 A) (F0 m 150 ls []) := by
  have C0 := C
  obtain ⟨hx, hb, hr, hts, hown, hlocks, hml, hK, hN, hE, hA⟩ := C
  unfold zX2_valueOf_s18_s25_s23_150 at h
  refine lv_aload_n hx hb dX2_valueOf_150 rfl (lv_at hl 0 rfl) ?_
  refine va_get (D := D) (ci := 2) (v := .ref (ad 19)) (C := RX2) (T := TX2) (N := 2) hx hb hts u9_wsX2_valueOf_X2 hown hK hP 18 rfl rfl 0 (by decide) (hts (.fieldLink RX2 9 "TurnedFloors$Machine" "stack" "[I") f9_wsX2_valueOf_387) (fun _ h9 => h9) rfl dX2_valueOf_151 ?_
  refine lv_iload hx hb dX2_valueOf_154 (lv_at hl 3 rfl) ?_
  refine lv_iload hx hb dX2_valueOf_156 (lv_at hl 7 rfl) ?_
  refine lv_if_ne (tgt := 166) hx hb dX2_valueOf_158 (by decide) (fun c9 => ?_) (fun c9 => ?_)
  · rw [if_neg c9] at h
    refine lv_aload hx hb dX2_valueOf_166 (lv_at hl 2 rfl) ?_
    refine lv_iload hx hb dX2_valueOf_168 (lv_at hl 8 rfl) ?_
    obtain ⟨g1, h⟩ := dG_some h
    refine va_iald hx hb hK hP 23 0 rfl rfl (dg_in g1) dX2_valueOf_170 ?_
    obtain ⟨v2, ev2, h⟩ := dL_some h
    refine kz_topi v2 ev2 ?_
    exact WX2_valueOf_s18_s25_s23_171 C0 hk32 _ _ _ _ _ _ _ _ _ _ h hP hD hS (lv_sub hl [0, 1, 2, 3, 4, 5, 6] rfl)
  · rw [if_pos c9] at h
    refine lv_iload hx hb dX2_valueOf_161 (lv_at hl 8 rfl) ?_
    refine lv_goto (tgt := 171) hx hb dX2_valueOf_163 (by decide) ?_
    exact WX2_valueOf_s18_s25_s23_171 C0 hk32 _ _ _ _ _ _ _ _ _ _ h hP hD hS (lv_sub hl [0, 1, 2, 3, 4, 5, 6] rfl)
set_option maxHeartbeats 4000000 in
set_option maxRecDepth 100000 in
theorem WX2_valueOf_s18_s25_s23_139 {p : Program} {l : Launch} {e : Env} {s : State} {m : MethodId} {args : Array Value} {below : List Frame} {meth : Method} {c : Code} {D : va_G} {ty : Nat → ClassId} {eo : Nat → Nat} {A : Nat → Prop} {ad : Nat → Nat} {o1 : Int32} {o2 : dK} (C : dc_C p s m args meth c cX2_valueOf (some .int) 13 RX2 wsX2_valueOf D ty eo A) {k32 : dK → Int32 → Int32 → Int32 → Int32 → Option (Int32 × dK)} (hk32 : ∀ (q : dK) (x5 : Int32) (x6 : Int32) (x7 : Int32) (x8 : Int32) (H : Heap) (locs : List Loc) (ls : Array Slot), k32 q x5 x6 x7 x8 = some (o1, o2) → va_P D vwCl (wF ty ad q) H → va_D A (wF ty ad q) → va_S A s.heap H locs → lv_has ls 13 [(0, .ref (ad 18)), (1, .ref (ad 25)), (4, .ref (ad 23)), (5, .int x5), (6, .int x6), (7, .int x7), (8, .int x8)] → W p l e ({ frames := 1, cells := 0, slots := 0, locals := 27 } : Room) s m args below meth c H locs 0 0 (MQ below (va_Qi (fun (r : Int32) (u : va_W) => o1 = r ∧ wF ty ad o2 = u) (kz_B D ty A) A) args s 0 0 A) (F0 m 32 ls [])) (q : dK) (x5 : Int32) (x6 : Int32) (x7 : Int32) (x8 : Int32) (x9 : Int32) (x10 : Int32) (H : Heap) (locs : List Loc) (ls : Array Slot) (h : zX2_valueOf_s18_s25_s23_139 k32 q x5 x6 x7 x8 x9 x10 = some (o1, o2)) (hP : va_P D vwCl (wF ty ad q) H) (hD : va_D A (wF ty ad q)) (hS : va_S A s.heap H locs) (hl : lv_has ls 13 [(0, .ref (ad 18)), (1, .ref (ad 25)), (4, .ref (ad 23)), (5, .int x5), (6, .int x6), (7, .int x7), (8, .int x8), (9, .int x9), (10, .int x10)]) : W p l e ({ frames := 1, cells := 0, slots := 0, locals := 27 } : Room) s m args below meth c H locs 0 0 (MQ below (va_Qi (fun (r : Int32) (u : va_W) => o1 = r ∧ wF ty ad o2 = u) (kz_B D ty A) A) args s 0 0 A) (F0 m 139 ls []) := by
  have C0 := C
  obtain ⟨hx, hb, hr, hts, hown, hlocks, hml, hK, hN, hE, hA⟩ := C
  unfold zX2_valueOf_s18_s25_s23_139 at h
  refine lv_iload hx hb dX2_valueOf_139 (lv_at hl 7 rfl) ?_
  refine lv_if_eq (tgt := 150) hx hb dX2_valueOf_141 (by decide) (fun c9 => ?_) (fun c9 => ?_)
  · rw [if_pos c9] at h
    exact WX2_valueOf_s18_s25_s23_150 C0 hk32 _ _ _ _ _ _ _ _ _ _ h hP hD hS (lv_sub hl [0, 1, 2, 3, 4, 5, 6, 7, 8] rfl)
  · rw [if_neg c9] at h
    refine lv_iload hx hb dX2_valueOf_144 (lv_at hl 7 rfl) ?_
    refine lv_iconst (v := 1) hx hb dX2_valueOf_146 (by decide) ?_
    refine lv_icmp_ne (tgt := 178) hx hb dX2_valueOf_147 (by decide) (fun c9 => ?_) (fun c9 => ?_)
    · rw [if_neg c9] at h
      refine lv_iload hx hb dX2_valueOf_178 (lv_at hl 7 rfl) ?_
      refine lv_bipush (v := 10) hx hb dX2_valueOf_180 (by decide) ?_
      refine lv_icmp_ne (tgt := 208) hx hb dX2_valueOf_182 (by decide) (fun c9 => ?_) (fun c9 => ?_)
      · rw [if_neg c9] at h
        refine lv_iload hx hb dX2_valueOf_208 (lv_at hl 7 rfl) ?_
        refine lv_bipush (v := 11) hx hb dX2_valueOf_210 (by decide) ?_
        refine lv_icmp_eq (tgt := 222) hx hb dX2_valueOf_212 (by decide) (fun c9 => ?_) (fun c9 => ?_)
        · rw [if_pos c9] at h
          exact WX2_valueOf_s18_s25_s23_222 C0 hk32 _ _ _ _ _ _ _ _ _ _ h hP hD hS (lv_sub hl [0, 1, 2, 3, 4, 5, 6, 7, 8] rfl)
        · rw [if_neg c9] at h
          refine lv_iload hx hb dX2_valueOf_215 (lv_at hl 7 rfl) ?_
          refine lv_bipush (v := 12) hx hb dX2_valueOf_217 (by decide) ?_
          refine lv_icmp_ne (tgt := 286) hx hb dX2_valueOf_219 (by decide) (fun c9 => ?_) (fun c9 => ?_)
          · rw [if_neg c9] at h
            refine lv_iinc (v := x5 + (-1)) (lv' := [(5, .int (x5 + (-1))), (0, .ref (ad 18)), (1, .ref (ad 25)), (4, .ref (ad 23)), (6, .int x6), (7, .int x7), (8, .int x8), (9, .int x9), (10, .int x10)]) hx hb dX2_valueOf_286 hl (k := 3) rfl rfl (by decide) rfl (fun ls hl => ?_)
            refine lv_aload_n hx hb dX2_valueOf_289 rfl (lv_at hl 1 rfl) ?_
            refine va_get (D := D) (ci := 2) (v := .ref (ad 19)) (C := RX2) (T := TX2) (N := 2) hx hb hts u9_wsX2_valueOf_X2 hown hK hP 18 rfl rfl 0 (by decide) (hts (.fieldLink RX2 9 "TurnedFloors$Machine" "stack" "[I") f9_wsX2_valueOf_387) (fun _ h9 => h9) rfl dX2_valueOf_290 ?_
            refine lv_iload hx hb dX2_valueOf_293 (lv_at hl 0 rfl) ?_
            refine lv_iconst (v := 1) hx hb dX2_valueOf_295 (by decide) ?_
            refine lv_isub hx hb dX2_valueOf_296 ?_
            refine lv_aload_n hx hb dX2_valueOf_297 rfl (lv_at hl 1 rfl) ?_
            refine lv_iload hx hb dX2_valueOf_298 (lv_at hl 7 rfl) ?_
            refine lv_aload_n hx hb dX2_valueOf_300 rfl (lv_at hl 1 rfl) ?_
            refine va_get (D := D) (ci := 2) (v := .ref (ad 19)) (C := RX2) (T := TX2) (N := 2) hx hb hts u9_wsX2_valueOf_X2 hown hK hP 18 rfl rfl 0 (by decide) (hts (.fieldLink RX2 9 "TurnedFloors$Machine" "stack" "[I") f9_wsX2_valueOf_387) (fun _ h9 => h9) rfl dX2_valueOf_301 ?_
            refine lv_iload hx hb dX2_valueOf_304 (lv_at hl 0 rfl) ?_
            refine lv_iconst (v := 1) hx hb dX2_valueOf_306 (by decide) ?_
            refine lv_isub hx hb dX2_valueOf_307 ?_
            obtain ⟨g1, h⟩ := dG_some h
            refine va_iald hx hb hK hP 19 0 rfl rfl (dg_in g1) dX2_valueOf_308 ?_
            obtain ⟨v2, ev2, h⟩ := dL_some h
            refine kz_topi v2 ev2 ?_
            refine lv_i2l (v := Int32.toInt64 v2) hx hb dX2_valueOf_309 rfl ?_
            refine lv_aload_n hx hb dX2_valueOf_310 rfl (lv_at hl 1 rfl) ?_
            refine va_get (D := D) (ci := 2) (v := .ref (ad 19)) (C := RX2) (T := TX2) (N := 2) hx hb hts u9_wsX2_valueOf_X2 hown hK hP 18 rfl rfl 0 (by decide) (hts (.fieldLink RX2 9 "TurnedFloors$Machine" "stack" "[I") f9_wsX2_valueOf_387) (fun _ h9 => h9) rfl dX2_valueOf_311 ?_
            refine lv_iload hx hb dX2_valueOf_314 (lv_at hl 0 rfl) ?_
            obtain ⟨g3, h⟩ := dG_some h
            refine va_iald hx hb hK hP 19 0 rfl rfl (dg_in g3) dX2_valueOf_316 ?_
            obtain ⟨v4, ev4, h⟩ := dL_some h
            refine kz_topi v4 ev4 ?_
            refine lv_i2l (v := Int32.toInt64 v4) hx hb dX2_valueOf_317 rfl ?_
            obtain ⟨r5, q7, h6, h⟩ := dB_some h
            refine dw_ki (va_runV (As := [.int x9, .long (Int32.toInt64 v2), .long (Int32.toInt64 v4)]) (rest := [.int ((x5 + (-1)) - 1 : Int32), .ref (ad 19)]) ⟨hx, hb, hml, hown, hts⟩ (qX2_join_s18 l D ty eo _ ad q x9 (Int32.toInt64 v2) (Int32.toInt64 v4) r5 q7 h6) (cwV 3 hts gX2_valueOf_X2_join rfl rfl rfl (by decide +kernel) ⟨Nat.le_of_ble_eq_true rfl, Nat.le_of_ble_eq_true rfl⟩) (dw_preV (ci := 2) (q0 := 18) hK hN hE hP hD hS hA rfl rfl) rfl rfl hl.1 rfl (lv_room (Nat.le_of_ble_eq_true rfl)) dX2_valueOf_318 ⟨Nat.le_of_ble_eq_true rfl, Nat.le_of_ble_eq_true rfl⟩) hD hS hA (fun r9 u9 H locs hw hp hd hs => ?_)
            clear hP hD hS
            obtain ⟨rfl, rfl⟩ := hw
            have hP := hp; have hD := hd; have hS := hs; clear hp hd hs
            obtain ⟨g8, h⟩ := dG_some h
            refine va_iast hx hb hK hP hD hS 19 0 rfl rfl (dg_in g8) dX2_valueOf_321 (fun H locs hp hd hs => ?_)
            obtain ⟨q9, eq9, h⟩ := dL_some h
            refine kz_re (w2 := wF ty ad q9) hp hd hs (by rw [← eq9]; exact wF_a19 ty ad q7 (Int32.toNatClampNeg ((x5 + (-1)) - 1 : Int32)) r5) ?_
            clear hp hd hs hP hD hS
            intro hP hD hS
            exact WX2_valueOf_s18_s25_s23_322 C0 hk32 _ _ _ _ _ _ _ _ h hP hD hS (lv_sub hl [1, 2, 3, 0, 4, 5, 6] rfl)
          · rw [if_pos c9] at h
            exact WX2_valueOf_s18_s25_s23_222 C0 hk32 _ _ _ _ _ _ _ _ _ _ h hP hD hS (lv_sub hl [0, 1, 2, 3, 4, 5, 6, 7, 8] rfl)
      · rw [if_pos c9] at h
        refine lv_aload_n hx hb dX2_valueOf_185 rfl (lv_at hl 0 rfl) ?_
        refine va_get (D := D) (ci := 2) (v := .ref (ad 19)) (C := RX2) (T := TX2) (N := 2) hx hb hts u9_wsX2_valueOf_X2 hown hK hP 18 rfl rfl 0 (by decide) (hts (.fieldLink RX2 9 "TurnedFloors$Machine" "stack" "[I") f9_wsX2_valueOf_387) (fun _ h9 => h9) rfl dX2_valueOf_186 ?_
        refine lv_iload hx hb dX2_valueOf_189 (lv_at hl 3 rfl) ?_
        refine lv_iconst (v := 1) hx hb dX2_valueOf_191 (by decide) ?_
        refine lv_isub hx hb dX2_valueOf_192 ?_
        refine lv_iconst (v := 1) hx hb dX2_valueOf_193 (by decide) ?_
        refine lv_aload_n hx hb dX2_valueOf_194 rfl (lv_at hl 0 rfl) ?_
        refine va_get (D := D) (ci := 2) (v := .ref (ad 19)) (C := RX2) (T := TX2) (N := 2) hx hb hts u9_wsX2_valueOf_X2 hown hK hP 18 rfl rfl 0 (by decide) (hts (.fieldLink RX2 9 "TurnedFloors$Machine" "stack" "[I") f9_wsX2_valueOf_387) (fun _ h9 => h9) rfl dX2_valueOf_195 ?_
        refine lv_iload hx hb dX2_valueOf_198 (lv_at hl 3 rfl) ?_
        refine lv_iconst (v := 1) hx hb dX2_valueOf_200 (by decide) ?_
        refine lv_isub hx hb dX2_valueOf_201 ?_
        obtain ⟨g10, h⟩ := dG_some h
        refine va_iald hx hb hK hP 19 0 rfl rfl (dg_in g10) dX2_valueOf_202 ?_
        obtain ⟨v11, ev11, h⟩ := dL_some h
        refine kz_topi v11 ev11 ?_
        refine lv_isub hx hb dX2_valueOf_203 ?_
        obtain ⟨g12, h⟩ := dG_some h
        refine va_iast hx hb hK hP hD hS 19 0 rfl rfl (dg_in g12) dX2_valueOf_204 (fun H locs hp hd hs => ?_)
        obtain ⟨q13, eq13, h⟩ := dL_some h
        refine kz_re (w2 := wF ty ad q13) hp hd hs (by rw [← eq13]; exact wF_a19 ty ad q (Int32.toNatClampNeg (x5 - 1 : Int32)) (1 - v11 : Int32)) ?_
        clear hp hd hs hP hD hS
        intro hP hD hS
        refine lv_goto (tgt := 322) hx hb dX2_valueOf_205 (by decide) ?_
        exact WX2_valueOf_s18_s25_s23_322 C0 hk32 _ _ _ _ _ _ _ _ h hP hD hS (lv_sub hl [0, 1, 2, 3, 4, 5, 6] rfl)
    · rw [if_pos c9] at h
      exact WX2_valueOf_s18_s25_s23_150 C0 hk32 _ _ _ _ _ _ _ _ _ _ h hP hD hS (lv_sub hl [0, 1, 2, 3, 4, 5, 6, 7, 8] rfl)
set_option maxHeartbeats 4000000 in
set_option maxRecDepth 100000 in
theorem WX2_valueOf_s18_s25_s23_131 {p : Program} {l : Launch} {e : Env} {s : State} {m : MethodId} {args : Array Value} {below : List Frame} {meth : Method} {c : Code} {D : va_G} {ty : Nat → ClassId} {eo : Nat → Nat} {A : Nat → Prop} {ad : Nat → Nat} {o1 : Int32} {o2 : dK} (C : dc_C p s m args meth c cX2_valueOf (some .int) 13 RX2 wsX2_valueOf D ty eo A) {k32 : dK → Int32 → Int32 → Int32 → Int32 → Option (Int32 × dK)} (hk32 : ∀ (q : dK) (x5 : Int32) (x6 : Int32) (x7 : Int32) (x8 : Int32) (H : Heap) (locs : List Loc) (ls : Array Slot), k32 q x5 x6 x7 x8 = some (o1, o2) → va_P D vwCl (wF ty ad q) H → va_D A (wF ty ad q) → va_S A s.heap H locs → lv_has ls 13 [(0, .ref (ad 18)), (1, .ref (ad 25)), (4, .ref (ad 23)), (5, .int x5), (6, .int x6), (7, .int x7), (8, .int x8)] → W p l e ({ frames := 1, cells := 0, slots := 0, locals := 27 } : Room) s m args below meth c H locs 0 0 (MQ below (va_Qi (fun (r : Int32) (u : va_W) => o1 = r ∧ wF ty ad o2 = u) (kz_B D ty A) A) args s 0 0 A) (F0 m 32 ls [])) (q : dK) (x5 : Int32) (x6 : Int32) (x7 : Int32) (x8 : Int32) (H : Heap) (locs : List Loc) (ls : Array Slot) (h : zX2_valueOf_s18_s25_s23_131 k32 q x5 x6 x7 x8 = some (o1, o2)) (hP : va_P D vwCl (wF ty ad q) H) (hD : va_D A (wF ty ad q)) (hS : va_S A s.heap H locs) (hl : lv_has ls 13 [(0, .ref (ad 18)), (1, .ref (ad 25)), (4, .ref (ad 23)), (5, .int x5), (6, .int x6), (7, .int x7), (8, .int x8)]) : W p l e ({ frames := 1, cells := 0, slots := 0, locals := 27 } : Room) s m args below meth c H locs 0 0 (MQ below (va_Qi (fun (r : Int32) (u : va_W) => o1 = r ∧ wF ty ad o2 = u) (kz_B D ty A) A) args s 0 0 A) (F0 m 131 ls []) := by
  have C0 := C
  obtain ⟨hx, hb, hr, hts, hown, hlocks, hml, hK, hN, hE, hA⟩ := C
  unfold zX2_valueOf_s18_s25_s23_131 at h
  refine lv_aload_n hx hb dX2_valueOf_131 rfl (lv_at hl 0 rfl) ?_
  refine lv_iconst (v := 1) hx hb dX2_valueOf_132 (by decide) ?_
  refine va_put (D := D) (ci := 2) (v := .int 1) (ty := .boolean) (C := RX2) (T := TX2) (N := 2) hx hb hts u9_wsX2_valueOf_X2 tyX2 tyX2_ok nmX2 hown hK hP hD hS 18 rfl rfl 1 (by decide) (hts (.fieldLink RX2 13 "TurnedFloors$Machine" "broken" "Z") f9_wsX2_valueOf_386) (fun _ h9 => h9) rfl (by decide +kernel) rfl rfl (Nat.le_of_ble_eq_true rfl) dX2_valueOf_133 (fun H locs hp hd hs => ?_)
  obtain ⟨q1, eq1, h⟩ := dL_some h
  refine kz_re (w2 := wF ty ad q1) hp hd hs (by rw [← eq1]; exact wF_f18_1 ty ad q 1) ?_
  clear hp hd hs hP hD hS
  intro hP hD hS
  refine lv_goto (tgt := 322) hx hb dX2_valueOf_136 (by decide) ?_
  exact WX2_valueOf_s18_s25_s23_322 C0 hk32 _ _ _ _ _ _ _ _ h hP hD hS (lv_sub hl [0, 1, 2, 3, 4, 5, 6] rfl)
set_option maxHeartbeats 4000000 in
set_option maxRecDepth 100000 in
theorem WX2_valueOf_s18_s25_s23_98 {p : Program} {l : Launch} {e : Env} {s : State} {m : MethodId} {args : Array Value} {below : List Frame} {meth : Method} {c : Code} {D : va_G} {ty : Nat → ClassId} {eo : Nat → Nat} {A : Nat → Prop} {ad : Nat → Nat} {o1 : Int32} {o2 : dK} (C : dc_C p s m args meth c cX2_valueOf (some .int) 13 RX2 wsX2_valueOf D ty eo A) {k32 : dK → Int32 → Int32 → Int32 → Int32 → Option (Int32 × dK)} (hk32 : ∀ (q : dK) (x5 : Int32) (x6 : Int32) (x7 : Int32) (x8 : Int32) (H : Heap) (locs : List Loc) (ls : Array Slot), k32 q x5 x6 x7 x8 = some (o1, o2) → va_P D vwCl (wF ty ad q) H → va_D A (wF ty ad q) → va_S A s.heap H locs → lv_has ls 13 [(0, .ref (ad 18)), (1, .ref (ad 25)), (4, .ref (ad 23)), (5, .int x5), (6, .int x6), (7, .int x7), (8, .int x8)] → W p l e ({ frames := 1, cells := 0, slots := 0, locals := 27 } : Room) s m args below meth c H locs 0 0 (MQ below (va_Qi (fun (r : Int32) (u : va_W) => o1 = r ∧ wF ty ad o2 = u) (kz_B D ty A) A) args s 0 0 A) (F0 m 32 ls [])) (q : dK) (x5 : Int32) (x6 : Int32) (x7 : Int32) (x8 : Int32) (x9 : Int32) (x10 : Int32) (y0 : Int32) (H : Heap) (locs : List Loc) (ls : Array Slot) (h : zX2_valueOf_s18_s25_s23_98 k32 q x5 x6 x7 x8 x9 x10 y0 = some (o1, o2)) (hP : va_P D vwCl (wF ty ad q) H) (hD : va_D A (wF ty ad q)) (hS : va_S A s.heap H locs) (hl : lv_has ls 13 [(0, .ref (ad 18)), (1, .ref (ad 25)), (4, .ref (ad 23)), (5, .int x5), (6, .int x6), (7, .int x7), (8, .int x8), (9, .int x9), (10, .int x10)]) : W p l e ({ frames := 1, cells := 0, slots := 0, locals := 27 } : Room) s m args below meth c H locs 0 0 (MQ below (va_Qi (fun (r : Int32) (u : va_W) => o1 = r ∧ wF ty ad o2 = u) (kz_B D ty A) A) args s 0 0 A) (F0 m 98 ls [.int y0]) := by
  have C0 := C
  obtain ⟨hx, hb, hr, hts, hown, hlocks, hml, hK, hN, hE, hA⟩ := C
  unfold zX2_valueOf_s18_s25_s23_98 at h
  refine lv_istore (lv' := [(11, .int y0), (0, .ref (ad 18)), (1, .ref (ad 25)), (4, .ref (ad 23)), (5, .int x5), (6, .int x6), (7, .int x7), (8, .int x8), (9, .int x9), (10, .int x10)]) hx hb dX2_valueOf_98 hl (by decide) rfl (fun ls hl => ?_)
  refine lv_iinc (v := x6 + 1) (lv' := [(6, .int (x6 + 1)), (11, .int y0), (0, .ref (ad 18)), (1, .ref (ad 25)), (4, .ref (ad 23)), (5, .int x5), (7, .int x7), (8, .int x8), (9, .int x9), (10, .int x10)]) hx hb dX2_valueOf_100 hl (k := 5) rfl rfl (by decide) rfl (fun ls hl => ?_)
  refine lv_iload hx hb dX2_valueOf_103 (lv_at hl 5 rfl) ?_
  refine lv_iload hx hb dX2_valueOf_105 (lv_at hl 1 rfl) ?_
  refine lv_icmp_lt (tgt := 131) hx hb dX2_valueOf_107 (by decide) (fun c9 => ?_) (fun c9 => ?_)
  · rw [if_pos c9] at h
    exact WX2_valueOf_s18_s25_s23_131 C0 hk32 _ _ _ _ _ _ _ _ h hP hD hS (lv_sub hl [2, 3, 4, 5, 0, 6, 7] rfl)
  · rw [if_neg c9] at h
    refine lv_iload hx hb dX2_valueOf_110 (lv_at hl 5 rfl) ?_
    refine lv_bipush (v := 64) hx hb dX2_valueOf_112 (by decide) ?_
    refine lv_icmp_ge (tgt := 131) hx hb dX2_valueOf_114 (by decide) (fun c9 => ?_) (fun c9 => ?_)
    · rw [if_pos c9] at h
      exact WX2_valueOf_s18_s25_s23_131 C0 hk32 _ _ _ _ _ _ _ _ h hP hD hS (lv_sub hl [2, 3, 4, 5, 0, 6, 7] rfl)
    · rw [if_neg c9] at h
      refine lv_iload hx hb dX2_valueOf_117 (lv_at hl 8 rfl) ?_
      refine lv_iconst (v := 1) hx hb dX2_valueOf_119 (by decide) ?_
      refine lv_icmp_ne (tgt := 139) hx hb dX2_valueOf_120 (by decide) (fun c9 => ?_) (fun c9 => ?_)
      · rw [if_neg c9] at h
        exact WX2_valueOf_s18_s25_s23_139 C0 hk32 _ _ _ _ _ _ _ _ _ _ h hP hD hS (lv_sub hl [2, 3, 4, 5, 0, 6, 7, 8, 9] rfl)
      · rw [if_pos c9] at h
        refine lv_iload hx hb dX2_valueOf_123 (lv_at hl 9 rfl) ?_
        refine lv_aload hx hb dX2_valueOf_125 (lv_at hl 4 rfl) ?_
        refine va_alen (v := 17) hx hb hK hP 23 0 rfl rfl rfl dX2_valueOf_127 ?_
        refine lv_icmp_lt (tgt := 139) hx hb dX2_valueOf_128 (by decide) (fun c9 => ?_) (fun c9 => ?_)
        · rw [if_pos c9] at h
          exact WX2_valueOf_s18_s25_s23_139 C0 hk32 _ _ _ _ _ _ _ _ _ _ h hP hD hS (lv_sub hl [2, 3, 4, 5, 0, 6, 7, 8, 9] rfl)
        · rw [if_neg c9] at h
          exact WX2_valueOf_s18_s25_s23_131 C0 hk32 _ _ _ _ _ _ _ _ h hP hD hS (lv_sub hl [2, 3, 4, 5, 0, 6, 7] rfl)
set_option maxHeartbeats 4000000 in
set_option maxRecDepth 100000 in
theorem WX2_valueOf_s18_s25_s23_32b {p : Program} {l : Launch} {e : Env} {s : State} {m : MethodId} {args : Array Value} {below : List Frame} {meth : Method} {c : Code} {D : va_G} {ty : Nat → ClassId} {eo : Nat → Nat} {A : Nat → Prop} {ad : Nat → Nat} {o1 : Int32} {o2 : dK} (C : dc_C p s m args meth c cX2_valueOf (some .int) 13 RX2 wsX2_valueOf D ty eo A) {k32 : dK → Int32 → Int32 → Int32 → Int32 → Option (Int32 × dK)} (hk32 : ∀ (q : dK) (x5 : Int32) (x6 : Int32) (x7 : Int32) (x8 : Int32) (H : Heap) (locs : List Loc) (ls : Array Slot), k32 q x5 x6 x7 x8 = some (o1, o2) → va_P D vwCl (wF ty ad q) H → va_D A (wF ty ad q) → va_S A s.heap H locs → lv_has ls 13 [(0, .ref (ad 18)), (1, .ref (ad 25)), (4, .ref (ad 23)), (5, .int x5), (6, .int x6), (7, .int x7), (8, .int x8)] → W p l e ({ frames := 1, cells := 0, slots := 0, locals := 27 } : Room) s m args below meth c H locs 0 0 (MQ below (va_Qi (fun (r : Int32) (u : va_W) => o1 = r ∧ wF ty ad o2 = u) (kz_B D ty A) A) args s 0 0 A) (F0 m 32 ls [])) (q : dK) (x5 : Int32) (x6 : Int32) (x7 : Int32) (x8 : Int32) (H : Heap) (locs : List Loc) (ls : Array Slot) (h : zX2_valueOf_s18_s25_s23_32b k32 q x5 x6 x7 x8 = some (o1, o2)) (hP : va_P D vwCl (wF ty ad q) H) (hD : va_D A (wF ty ad q)) (hS : va_S A s.heap H locs) (hl : lv_has ls 13 [(0, .ref (ad 18)), (1, .ref (ad 25)), (4, .ref (ad 23)), (5, .int x5), (6, .int x6), (7, .int x7), (8, .int x8)]) : W p l e ({ frames := 1, cells := 0, slots := 0, locals := 27 } : Room) s m args below meth c H locs 0 0 (MQ below (va_Qi (fun (r : Int32) (u : va_W) => o1 = r ∧ wF ty ad o2 = u) (kz_B D ty A) A) args s 0 0 A) (F0 m 32 ls []) := by
  have C0 := C
  obtain ⟨hx, hb, hr, hts, hown, hlocks, hml, hK, hN, hE, hA⟩ := C
  unfold zX2_valueOf_s18_s25_s23_32b at h
  refine lv_iload hx hb dX2_valueOf_32 (lv_at hl 6 rfl) ?_
  refine lv_iload hx hb dX2_valueOf_34 (lv_at hl 5 rfl) ?_
  refine lv_icmp_ge (tgt := 328) hx hb dX2_valueOf_36 (by decide) (fun c9 => ?_) (fun c9 => ?_)
  · rw [if_pos c9] at h
    exact WX2_valueOf_s18_s25_s23_328 C0  _ _ _ _ h hP hD hS (lv_sub hl [0] rfl)
  · rw [if_neg c9] at h
    refine lv_iload hx hb dX2_valueOf_39 (lv_at hl 4 rfl) ?_
    refine lv_iload hx hb dX2_valueOf_41 (lv_at hl 5 rfl) ?_
    refine lv_icmp_ge (tgt := 328) hx hb dX2_valueOf_43 (by decide) (fun c9 => ?_) (fun c9 => ?_)
    · rw [if_pos c9] at h
      exact WX2_valueOf_s18_s25_s23_328 C0  _ _ _ _ h hP hD hS (lv_sub hl [0] rfl)
    · rw [if_neg c9] at h
      refine lv_aload_n hx hb dX2_valueOf_46 rfl (lv_at hl 0 rfl) ?_
      refine va_get (D := D) (ci := 2) (v := .int (q.1 18 1)) (C := RX2) (T := TX2) (N := 2) hx hb hts u9_wsX2_valueOf_X2 hown hK hP 18 rfl rfl 1 (by decide) (hts (.fieldLink RX2 13 "TurnedFloors$Machine" "broken" "Z") f9_wsX2_valueOf_386) (fun _ h9 => h9) rfl dX2_valueOf_47 ?_
      refine lv_if_ne (tgt := 328) hx hb dX2_valueOf_50 (by decide) (fun c9 => ?_) (fun c9 => ?_)
      · rw [if_neg c9] at h
        exact WX2_valueOf_s18_s25_s23_328 C0  _ _ _ _ h hP hD hS (lv_sub hl [0] rfl)
      · rw [if_pos c9] at h
        refine lv_aload_n hx hb dX2_valueOf_53 rfl (lv_at hl 1 rfl) ?_
        refine va_getN (D := D) (ci := 7) (v := .ref (ad 31)) (C := RX7) (T := TX7) (N := 8) hx hb hts u9_wsX2_valueOf_X7 hown hK hP 25 rfl rfl 5 (by decide) (hN.use (.fieldLinkNest "TurnedFloors$Machine" 17 "TurnedFloors$Text" "code" "[I" "TurnedFloors") (by decide +kernel)) (fun _ h9 => h9) rfl dX2_valueOf_54 ?_
        refine lv_iload hx hb dX2_valueOf_57 (lv_at hl 4 rfl) ?_
        obtain ⟨g1, h⟩ := dG_some h
        refine va_iald hx hb hK hP 31 0 rfl rfl (dg_in g1) dX2_valueOf_59 ?_
        obtain ⟨v2, ev2, h⟩ := dL_some h
        refine kz_topi v2 ev2 ?_
        refine lv_bipush (v := 15) hx hb dX2_valueOf_60 (by decide) ?_
        refine lv_iand hx hb dX2_valueOf_62 ?_
        refine lv_istore (lv' := [(9, .int (v2 &&& 15 : Int32)), (0, .ref (ad 18)), (1, .ref (ad 25)), (4, .ref (ad 23)), (5, .int x5), (6, .int x6), (7, .int x7), (8, .int x8)]) hx hb dX2_valueOf_63 hl (by decide) rfl (fun ls hl => ?_)
        refine lv_aload_n hx hb dX2_valueOf_65 rfl (lv_at hl 2 rfl) ?_
        refine va_getN (D := D) (ci := 7) (v := .ref (ad 31)) (C := RX7) (T := TX7) (N := 8) hx hb hts u9_wsX2_valueOf_X7 hown hK hP 25 rfl rfl 5 (by decide) (hN.use (.fieldLinkNest "TurnedFloors$Machine" 17 "TurnedFloors$Text" "code" "[I" "TurnedFloors") (by decide +kernel)) (fun _ h9 => h9) rfl dX2_valueOf_66 ?_
        refine lv_iload hx hb dX2_valueOf_69 (lv_at hl 5 rfl) ?_
        obtain ⟨g3, h⟩ := dG_some h
        refine va_iald hx hb hK hP 31 0 rfl rfl (dg_in g3) dX2_valueOf_71 ?_
        obtain ⟨v4, ev4, h⟩ := dL_some h
        refine kz_topi v4 ev4 ?_
        refine lv_iconst (v := 4) hx hb dX2_valueOf_72 (by decide) ?_
        refine lv_ishr hx hb dX2_valueOf_73 ?_
        refine lv_istore (lv' := [(10, .int (v4 >>> ((4 : Int32) &&& 31) : Int32)), (9, .int (v2 &&& 15 : Int32)), (0, .ref (ad 18)), (1, .ref (ad 25)), (4, .ref (ad 23)), (5, .int x5), (6, .int x6), (7, .int x7), (8, .int x8)]) hx hb dX2_valueOf_74 hl (by decide) rfl (fun ls hl => ?_)
        refine lv_iload hx hb dX2_valueOf_76 (lv_at hl 1 rfl) ?_
        refine lv_iconst (v := 1) hx hb dX2_valueOf_78 (by decide) ?_
        refine lv_icmp_gt (tgt := 86) hx hb dX2_valueOf_79 (by decide) (fun c9 => ?_) (fun c9 => ?_)
        · rw [if_pos c9] at h
          refine lv_iload hx hb dX2_valueOf_86 (lv_at hl 1 rfl) ?_
          refine lv_bipush (v := 10) hx hb dX2_valueOf_88 (by decide) ?_
          refine lv_icmp_ge (tgt := 97) hx hb dX2_valueOf_90 (by decide) (fun c9 => ?_) (fun c9 => ?_)
          · rw [if_pos c9] at h
            refine lv_iconst (v := 1) hx hb dX2_valueOf_97 (by decide) ?_
            exact WX2_valueOf_s18_s25_s23_98 C0 hk32 _ _ _ _ _ _ _ _ _ _ _ h hP hD hS (lv_sub hl [2, 3, 4, 5, 6, 7, 8, 1, 0] rfl)
          · rw [if_neg c9] at h
            refine lv_iconst (v := 2) hx hb dX2_valueOf_93 (by decide) ?_
            refine lv_goto (tgt := 98) hx hb dX2_valueOf_94 (by decide) ?_
            exact WX2_valueOf_s18_s25_s23_98 C0 hk32 _ _ _ _ _ _ _ _ _ _ _ h hP hD hS (lv_sub hl [2, 3, 4, 5, 6, 7, 8, 1, 0] rfl)
        · rw [if_neg c9] at h
          refine lv_iconst (v := 0) hx hb dX2_valueOf_82 (by decide) ?_
          refine lv_goto (tgt := 98) hx hb dX2_valueOf_83 (by decide) ?_
          exact WX2_valueOf_s18_s25_s23_98 C0 hk32 _ _ _ _ _ _ _ _ _ _ _ h hP hD hS (lv_sub hl [2, 3, 4, 5, 6, 7, 8, 1, 0] rfl)
set_option maxHeartbeats 4000000 in
set_option maxRecDepth 100000 in
theorem WX2_valueOf_s18_s25_s23_32 {p : Program} {l : Launch} {e : Env} {s : State} {m : MethodId} {args : Array Value} {below : List Frame} {meth : Method} {c : Code} {D : va_G} {ty : Nat → ClassId} {eo : Nat → Nat} {A : Nat → Prop} {ad : Nat → Nat} {o1 : Int32} {o2 : dK} (C : dc_C p s m args meth c cX2_valueOf (some .int) 13 RX2 wsX2_valueOf D ty eo A)   (n : Nat) (q : dK) (x5 : Int32) (x6 : Int32) (x7 : Int32) (x8 : Int32) (H : Heap) (locs : List Loc) (ls : Array Slot) (h : zX2_valueOf_s18_s25_s23_32  n q x5 x6 x7 x8 = some (o1, o2)) (hP : va_P D vwCl (wF ty ad q) H) (hD : va_D A (wF ty ad q)) (hS : va_S A s.heap H locs) (hl : lv_has ls 13 [(0, .ref (ad 18)), (1, .ref (ad 25)), (4, .ref (ad 23)), (5, .int x5), (6, .int x6), (7, .int x7), (8, .int x8)]) : W p l e ({ frames := 1, cells := 0, slots := 0, locals := 27 } : Room) s m args below meth c H locs 0 0 (MQ below (va_Qi (fun (r : Int32) (u : va_W) => o1 = r ∧ wF ty ad o2 = u) (kz_B D ty A) A) args s 0 0 A) (F0 m 32 ls []) := by
  exact dFix_W (F := fun k (a : dK × Int32 × Int32 × Int32 × Int32) => zX2_valueOf_s18_s25_s23_32b  (fun q x5 x6 x7 x8 => k (q, x5, x6, x7, x8)) a.1 a.2.1 a.2.2.1 a.2.2.2.1 a.2.2.2.2) (o := (o1, o2)) (P := fun (a : dK × Int32 × Int32 × Int32 × Int32) H locs ls => va_P D vwCl (wF ty ad a.1) H ∧ va_D A (wF ty ad a.1) ∧ va_S A s.heap H locs ∧ lv_has ls 13 [(0, .ref (ad 18)), (1, .ref (ad 25)), (4, .ref (ad 23)), (5, .int a.2.1), (6, .int a.2.2.1), (7, .int a.2.2.2.1), (8, .int a.2.2.2.2)]) (G := fun H locs ls => W p l e ({ frames := 1, cells := 0, slots := 0, locals := 27 } : Room) s m args below meth c H locs 0 0 (MQ below (va_Qi (fun (r : Int32) (u : va_W) => o1 = r ∧ wF ty ad o2 = u) (kz_B D ty A) A) args s 0 0 A) (F0 m 32 ls []))
    (fun k hk a H locs ls h hp => WX2_valueOf_s18_s25_s23_32b C  (fun q x5 x6 x7 x8 H locs ls h h1 h2 h3 h4 => hk (q, x5, x6, x7, x8) H locs ls h ⟨h1, h2, h3, h4⟩) a.1 a.2.1 a.2.2.1 a.2.2.2.1 a.2.2.2.2 H locs ls h hp.1 hp.2.1 hp.2.2.1 hp.2.2.2) n (q, x5, x6, x7, x8) H locs ls h ⟨hP, hD, hS, hl⟩
set_option maxHeartbeats 4000000 in
set_option maxRecDepth 100000 in
theorem qX2_valueOf_s18_s25_s23 (l : Launch) (D : va_G) (ty : Nat → ClassId) (eo : Nat → Nat) (sz : Nat) (ad : Nat → Nat) (q : dK) (p2 : Int32) (p3 : Int32) (o1 : Int32) (o2 : dK) (h : zX2_valueOf_s18_s25_s23 q p2 p3 = some (o1, o2)) : Met l yX2_valueOf wsX2_valueOf ({ frames := 1, cells := 0, slots := 0, locals := 27 } : Room) (va_Pc [.ref (ad 18), .ref (ad 25), .int p2, .int p3, .ref (ad 23)] (kz_pre D ty eo (wF ty ad q) sz)) (va_Qi (fun (r : Int32) (u : va_W) => o1 = r ∧ wF ty ad o2 = u) (kz_B D ty (va_A (wF ty ad q) sz)) (va_A (wF ty ad q) sz)) 0 0 (va_A (wF ty ad q) sz) := by
  refine Met.ofW (cc := cX2_valueOf) (maxL := 13) (ret := (some .int)) (by decide) rfl ?_
  intro p e s m args below meth c s₁ B hml hv
  obtain ⟨rfl, hsz, hP, hK, hD0, hN, hE⟩ := hv
  have hx := B.exec
  have hb := B.bytes
  have hr := B.returns
  have hts := atoms_spec (ws := wsX2_valueOf) B.pre
  have hown : s.vm.findClass RX2 = some m.cls := findClass_of_methodNamed B.named
  have hlocks := B.notSynchronized
  subst hsz
  have hD := hD0.self (sz := s.heap.size)
  generalize hAe : va_A (wF ty ad q) s.heap.size = A at hD hE ⊢
  have hA : ∀ q : Nat, s.heap.size ≤ q → A q := fun q h => by rw [← hAe]; exact Or.inr h
  clear hAe
  have hS : va_S A s.heap s.heap [] := va_S.rf
  have hl := lv_entry ([.ref (ad 18), .ref (ad 25), .int p2, .int p3, .ref (ad 23)]) (n := 13) (Nat.le_of_ble_eq_true rfl)
  rw [lg_entry_eq]
  generalize (lg_sl ([.ref (ad 18), .ref (ad 25), .int p2, .int p3, .ref (ad 23)]) ++ List.replicate (13 - (lg_sl ([.ref (ad 18), .ref (ad 25), .int p2, .int p3, .ref (ad 23)])).length) Slot.unset).toArray = ls at hl ⊢
  have hl : lv_has ls 13 [(0, .ref (ad 18)), (1, .ref (ad 25)), (2, .int p2), (3, .int p3), (4, .ref (ad 23))] := hl
  have C : dc_C p s m _ meth c cX2_valueOf (some .int) 13 RX2 wsX2_valueOf D ty eo A := ⟨hx, hb, hr, hts, hown, hlocks, hml, hK, hN, hE, hA⟩
  unfold zX2_valueOf_s18_s25_s23 at h
  refine lv_aload_n hx hb dX2_valueOf_0 rfl (lv_at hl 0 rfl) ?_
  refine lv_iconst (v := 0) hx hb dX2_valueOf_1 (by decide) ?_
  refine va_put (D := D) (ci := 2) (v := .int 0) (ty := .boolean) (C := RX2) (T := TX2) (N := 2) hx hb hts u9_wsX2_valueOf_X2 tyX2 tyX2_ok nmX2 hown hK hP hD hS 18 rfl rfl 1 (by decide) (hts (.fieldLink RX2 13 "TurnedFloors$Machine" "broken" "Z") f9_wsX2_valueOf_386) (fun _ h9 => h9) rfl (by decide +kernel) rfl rfl (Nat.le_of_ble_eq_true rfl) dX2_valueOf_2 (fun H locs hp hd hs => ?_)
  obtain ⟨q1, eq1, h⟩ := dL_some h
  refine kz_re (w2 := wF ty ad q1) hp hd hs (by rw [← eq1]; exact wF_f18_1 ty ad q 0) ?_
  clear hp hd hs hP hD hS
  intro hP hD hS
  refine lv_aload_n hx hb dX2_valueOf_5 rfl (lv_at hl 0 rfl) ?_
  refine va_get (D := D) (ci := 2) (v := .ref (ad 19)) (C := RX2) (T := TX2) (N := 2) hx hb hts u9_wsX2_valueOf_X2 hown hK hP 18 rfl rfl 0 (by decide) (hts (.fieldLink RX2 9 "TurnedFloors$Machine" "stack" "[I") f9_wsX2_valueOf_387) (fun _ h9 => h9) rfl dX2_valueOf_6 ?_
  refine lv_iconst (v := 0) hx hb dX2_valueOf_9 (by decide) ?_
  refine lv_iconst (v := 1) hx hb dX2_valueOf_10 (by decide) ?_
  refine va_iast hx hb hK hP hD hS 19 0 rfl rfl (by simp only [vp_in]; decide) dX2_valueOf_11 (fun H locs hp hd hs => ?_)
  obtain ⟨q2, eq2, h⟩ := dL_some h
  refine kz_re (w2 := wF ty ad q2) hp hd hs (by rw [(by decide +kernel : Int32.toNatClampNeg 0 = 0), ← eq2]; exact wF_a19 ty ad q1 0 1) ?_
  clear hp hd hs hP hD hS
  intro hP hD hS
  refine lv_iconst (v := 0) hx hb dX2_valueOf_12 (by decide) ?_
  refine lv_istore (lv' := [(5, .int 0), (0, .ref (ad 18)), (1, .ref (ad 25)), (2, .int p2), (3, .int p3), (4, .ref (ad 23))]) hx hb dX2_valueOf_13 hl (by decide) rfl (fun ls hl => ?_)
  refine lv_iload_n hx hb dX2_valueOf_15 rfl (lv_at hl 3 rfl) ?_
  refine lv_istore (lv' := [(6, .int p2), (5, .int 0), (0, .ref (ad 18)), (1, .ref (ad 25)), (2, .int p2), (3, .int p3), (4, .ref (ad 23))]) hx hb dX2_valueOf_16 hl (by decide) rfl (fun ls hl => ?_)
  refine lv_iload_n hx hb dX2_valueOf_18 rfl (lv_at hl 5 rfl) ?_
  refine lv_aload_n hx hb dX2_valueOf_19 rfl (lv_at hl 3 rfl) ?_
  refine va_getN (D := D) (ci := 7) (v := .ref (ad 31)) (C := RX7) (T := TX7) (N := 8) hx hb hts u9_wsX2_valueOf_X7 hown hK hP 25 rfl rfl 5 (by decide) (hN.use (.fieldLinkNest "TurnedFloors$Machine" 17 "TurnedFloors$Text" "code" "[I" "TurnedFloors") (by decide +kernel)) (fun _ h9 => h9) rfl dX2_valueOf_20 ?_
  refine va_alen (v := 400) hx hb hK hP 31 0 rfl rfl rfl dX2_valueOf_23 ?_
  refine va_mmin hx hb (hml.trans hl.1.symm) hown (hts (.methodLink RX2 22 Lib.Math.min.name) f9_wsX2_valueOf_389) (hts (.static Lib.Math.min.name) f9_wsX2_valueOf_390) (hts (.initialized "java/lang/Math") f9_wsX2_valueOf_391) (hts (.code Lib.Math.min.name Lib.Math.min.code 2 (some .int)) f9_wsX2_valueOf_392) (Nat.le_of_ble_eq_true rfl) (Nat.le_of_ble_eq_true rfl) (Nat.le_of_ble_eq_true rfl) (Nat.le_of_ble_eq_true rfl) dX2_valueOf_24 ?_
  refine kz_topi (mnI p3 400) rfl ?_
  refine lv_istore (lv' := [(7, .int (mnI p3 400)), (6, .int p2), (5, .int 0), (0, .ref (ad 18)), (1, .ref (ad 25)), (2, .int p2), (3, .int p3), (4, .ref (ad 23))]) hx hb dX2_valueOf_27 hl (by decide) rfl (fun ls hl => ?_)
  refine lv_iload_n hx hb dX2_valueOf_29 rfl (lv_at hl 5 rfl) ?_
  refine lv_istore (lv' := [(8, .int p2), (7, .int (mnI p3 400)), (6, .int p2), (5, .int 0), (0, .ref (ad 18)), (1, .ref (ad 25)), (2, .int p2), (3, .int p3), (4, .ref (ad 23))]) hx hb dX2_valueOf_30 hl (by decide) rfl (fun ls hl => ?_)
  exact WX2_valueOf_s18_s25_s23_32 C  _ _ _ _ _ _ _ _ _ h hP hD hS (lv_sub hl [4, 5, 8, 3, 2, 1, 0] rfl)

set_option maxHeartbeats 4000000 in
set_option maxRecDepth 100000 in
theorem qX8_exchange_s2 (l : Launch) (D : va_G) (ty : Nat → ClassId) (eo : Nat → Nat) (sz : Nat) (ad : Nat → Nat) (q : dK) (p1 : Int32) (p2 : Int32) (o2 : dK) (h : zX8_exchange_s2 q p1 p2 = some o2) : Met l yX8_exchange wsX8_exchange ({ frames := 0, cells := 0, slots := 0, locals := 0 } : Room) (va_Pc [.ref (ad 2), .int p1, .int p2] (kz_pre D ty eo (wF ty ad q) sz)) (va_Qv (fun (u : va_W) => wF ty ad o2 = u) (kz_B D ty (va_A (wF ty ad q) sz)) (va_A (wF ty ad q) sz)) 0 0 (va_A (wF ty ad q) sz) := by
  refine Met.ofW (cc := cX8_exchange) (maxL := 5) (ret := none) (by decide) rfl ?_
  intro p e s m args below meth c s₁ B hml hv
  obtain ⟨rfl, hsz, hP, hK, hD0, hN, hE⟩ := hv
  have hx := B.exec
  have hb := B.bytes
  have hr := B.returns
  have hts := atoms_spec (ws := wsX8_exchange) B.pre
  have hown : s.vm.findClass RX8 = some m.cls := findClass_of_methodNamed B.named
  have hlocks := B.notSynchronized
  subst hsz
  have hD := hD0.self (sz := s.heap.size)
  generalize hAe : va_A (wF ty ad q) s.heap.size = A at hD hE ⊢
  have hA : ∀ q : Nat, s.heap.size ≤ q → A q := fun q h => by rw [← hAe]; exact Or.inr h
  clear hAe
  have hS : va_S A s.heap s.heap [] := va_S.rf
  have hl := lv_entry ([.ref (ad 2), .int p1, .int p2]) (n := 5) (Nat.le_of_ble_eq_true rfl)
  rw [lg_entry_eq]
  generalize (lg_sl ([.ref (ad 2), .int p1, .int p2]) ++ List.replicate (5 - (lg_sl ([.ref (ad 2), .int p1, .int p2])).length) Slot.unset).toArray = ls at hl ⊢
  have hl : lv_has ls 5 [(0, .ref (ad 2)), (1, .int p1), (2, .int p2)] := hl
  have C : dc_C p s m _ meth c cX8_exchange none 5 RX8 wsX8_exchange D ty eo A := ⟨hx, hb, hr, hts, hown, hlocks, hml, hK, hN, hE, hA⟩
  unfold zX8_exchange_s2 at h
  refine lv_aload_n hx hb dX8_exchange_0 rfl (lv_at hl 0 rfl) ?_
  refine va_get (D := D) (ci := 8) (v := .ref (ad 3)) (C := RX8) (T := TX8) (N := 5) hx hb hts u9_wsX8_exchange_X8 hown hK hP 2 rfl rfl 0 (by decide) (hts (.fieldLink RX8 9 "TurnedFloors$Tower" "rank" "[I") f9_wsX8_exchange_625) (fun _ h9 => h9) rfl dX8_exchange_1 ?_
  refine lv_iload_n hx hb dX8_exchange_4 rfl (lv_at hl 1 rfl) ?_
  obtain ⟨g1, h⟩ := dG_some h
  refine va_iald hx hb hK hP 3 0 rfl rfl (dg_in g1) dX8_exchange_5 ?_
  obtain ⟨v2, ev2, h⟩ := dL_some h
  refine kz_topi v2 ev2 ?_
  refine lv_istore_n (lv' := [(3, .int v2), (0, .ref (ad 2)), (1, .int p1), (2, .int p2)]) hx hb dX8_exchange_6 rfl hl (by decide) rfl (fun ls hl => ?_)
  refine lv_aload_n hx hb dX8_exchange_7 rfl (lv_at hl 1 rfl) ?_
  refine va_get (D := D) (ci := 8) (v := .ref (ad 4)) (C := RX8) (T := TX8) (N := 5) hx hb hts u9_wsX8_exchange_X8 hown hK hP 2 rfl rfl 1 (by decide) (hts (.fieldLink RX8 15 "TurnedFloors$Tower" "head" "[I") f9_wsX8_exchange_626) (fun _ h9 => h9) rfl dX8_exchange_8 ?_
  refine lv_iload_n hx hb dX8_exchange_11 rfl (lv_at hl 2 rfl) ?_
  obtain ⟨g3, h⟩ := dG_some h
  refine va_iald hx hb hK hP 4 0 rfl rfl (dg_in g3) dX8_exchange_12 ?_
  obtain ⟨v4, ev4, h⟩ := dL_some h
  refine kz_topi v4 ev4 ?_
  refine lv_istore (lv' := [(4, .int v4), (3, .int v2), (0, .ref (ad 2)), (1, .int p1), (2, .int p2)]) hx hb dX8_exchange_13 hl (by decide) rfl (fun ls hl => ?_)
  refine lv_aload_n hx hb dX8_exchange_15 rfl (lv_at hl 2 rfl) ?_
  refine va_get (D := D) (ci := 8) (v := .ref (ad 3)) (C := RX8) (T := TX8) (N := 5) hx hb hts u9_wsX8_exchange_X8 hown hK hP 2 rfl rfl 0 (by decide) (hts (.fieldLink RX8 9 "TurnedFloors$Tower" "rank" "[I") f9_wsX8_exchange_625) (fun _ h9 => h9) rfl dX8_exchange_16 ?_
  refine lv_iload_n hx hb dX8_exchange_19 rfl (lv_at hl 3 rfl) ?_
  refine lv_aload_n hx hb dX8_exchange_20 rfl (lv_at hl 2 rfl) ?_
  refine va_get (D := D) (ci := 8) (v := .ref (ad 3)) (C := RX8) (T := TX8) (N := 5) hx hb hts u9_wsX8_exchange_X8 hown hK hP 2 rfl rfl 0 (by decide) (hts (.fieldLink RX8 9 "TurnedFloors$Tower" "rank" "[I") f9_wsX8_exchange_625) (fun _ h9 => h9) rfl dX8_exchange_21 ?_
  refine lv_iload_n hx hb dX8_exchange_24 rfl (lv_at hl 4 rfl) ?_
  obtain ⟨g5, h⟩ := dG_some h
  refine va_iald hx hb hK hP 3 0 rfl rfl (dg_in g5) dX8_exchange_25 ?_
  obtain ⟨v6, ev6, h⟩ := dL_some h
  refine kz_topi v6 ev6 ?_
  obtain ⟨g7, h⟩ := dG_some h
  refine va_iast hx hb hK hP hD hS 3 0 rfl rfl (dg_in g7) dX8_exchange_26 (fun H locs hp hd hs => ?_)
  obtain ⟨q8, eq8, h⟩ := dL_some h
  refine kz_re (w2 := wF ty ad q8) hp hd hs (by rw [← eq8]; exact wF_a3 ty ad q (Int32.toNatClampNeg p1) v6) ?_
  clear hp hd hs hP hD hS
  intro hP hD hS
  refine lv_aload_n hx hb dX8_exchange_27 rfl (lv_at hl 2 rfl) ?_
  refine va_get (D := D) (ci := 8) (v := .ref (ad 4)) (C := RX8) (T := TX8) (N := 5) hx hb hts u9_wsX8_exchange_X8 hown hK hP 2 rfl rfl 1 (by decide) (hts (.fieldLink RX8 15 "TurnedFloors$Tower" "head" "[I") f9_wsX8_exchange_626) (fun _ h9 => h9) rfl dX8_exchange_28 ?_
  refine lv_iload_n hx hb dX8_exchange_31 rfl (lv_at hl 3 rfl) ?_
  refine lv_aload_n hx hb dX8_exchange_32 rfl (lv_at hl 2 rfl) ?_
  refine va_get (D := D) (ci := 8) (v := .ref (ad 4)) (C := RX8) (T := TX8) (N := 5) hx hb hts u9_wsX8_exchange_X8 hown hK hP 2 rfl rfl 1 (by decide) (hts (.fieldLink RX8 15 "TurnedFloors$Tower" "head" "[I") f9_wsX8_exchange_626) (fun _ h9 => h9) rfl dX8_exchange_33 ?_
  refine lv_iload_n hx hb dX8_exchange_36 rfl (lv_at hl 4 rfl) ?_
  obtain ⟨g9, h⟩ := dG_some h
  refine va_iald hx hb hK hP 4 0 rfl rfl (dg_in g9) dX8_exchange_37 ?_
  obtain ⟨v10, ev10, h⟩ := dL_some h
  refine kz_topi v10 ev10 ?_
  obtain ⟨g11, h⟩ := dG_some h
  refine va_iast hx hb hK hP hD hS 4 0 rfl rfl (dg_in g11) dX8_exchange_38 (fun H locs hp hd hs => ?_)
  obtain ⟨q12, eq12, h⟩ := dL_some h
  refine kz_re (w2 := wF ty ad q12) hp hd hs (by rw [← eq12]; exact wF_a4 ty ad q8 (Int32.toNatClampNeg p1) v10) ?_
  clear hp hd hs hP hD hS
  intro hP hD hS
  refine lv_aload_n hx hb dX8_exchange_39 rfl (lv_at hl 2 rfl) ?_
  refine va_get (D := D) (ci := 8) (v := .ref (ad 3)) (C := RX8) (T := TX8) (N := 5) hx hb hts u9_wsX8_exchange_X8 hown hK hP 2 rfl rfl 0 (by decide) (hts (.fieldLink RX8 9 "TurnedFloors$Tower" "rank" "[I") f9_wsX8_exchange_625) (fun _ h9 => h9) rfl dX8_exchange_40 ?_
  refine lv_iload_n hx hb dX8_exchange_43 rfl (lv_at hl 4 rfl) ?_
  refine lv_iload_n hx hb dX8_exchange_44 rfl (lv_at hl 1 rfl) ?_
  obtain ⟨g13, h⟩ := dG_some h
  refine va_iast hx hb hK hP hD hS 3 0 rfl rfl (dg_in g13) dX8_exchange_45 (fun H locs hp hd hs => ?_)
  obtain ⟨q14, eq14, h⟩ := dL_some h
  refine kz_re (w2 := wF ty ad q14) hp hd hs (by rw [← eq14]; exact wF_a3 ty ad q12 (Int32.toNatClampNeg p2) v2) ?_
  clear hp hd hs hP hD hS
  intro hP hD hS
  refine lv_aload_n hx hb dX8_exchange_46 rfl (lv_at hl 2 rfl) ?_
  refine va_get (D := D) (ci := 8) (v := .ref (ad 4)) (C := RX8) (T := TX8) (N := 5) hx hb hts u9_wsX8_exchange_X8 hown hK hP 2 rfl rfl 1 (by decide) (hts (.fieldLink RX8 15 "TurnedFloors$Tower" "head" "[I") f9_wsX8_exchange_626) (fun _ h9 => h9) rfl dX8_exchange_47 ?_
  refine lv_iload_n hx hb dX8_exchange_50 rfl (lv_at hl 4 rfl) ?_
  refine lv_iload hx hb dX8_exchange_51 (lv_at hl 0 rfl) ?_
  obtain ⟨g15, h⟩ := dG_some h
  refine va_iast hx hb hK hP hD hS 4 0 rfl rfl (dg_in g15) dX8_exchange_53 (fun H locs hp hd hs => ?_)
  obtain ⟨q16, eq16, h⟩ := dL_some h
  refine kz_re (w2 := wF ty ad q16) hp hd hs (by rw [← eq16]; exact wF_a4 ty ad q14 (Int32.toNatClampNeg p2) v4) ?_
  clear hp hd hs hP hD hS
  intro hP hD hS
  cases h
  exact kz_vret hx hb hr hlocks hP hK hD hS dX8_exchange_54 rfl
