theorem u9_wsX9_count_X9 : ∀ w ∈ u_ws RX9 TX9 19, w ∈ wsX9_count := by
  first | exact fun w h => List.mem_cons_of_mem _ (List.mem_append_right _ h) | decide +kernel
theorem u9_wsX9_count_X6 : ∀ w ∈ u_ws RX6 TX6 10, w ∈ wsX9_count := by
  first | exact fun w h => List.mem_cons_of_mem _ (List.mem_append_right _ h) | decide +kernel
theorem u9_wsX9_count_X8 : ∀ w ∈ u_ws RX8 TX8 5, w ∈ wsX9_count := by
  first | exact fun w h => List.mem_cons_of_mem _ (List.mem_append_right _ h) | decide +kernel
theorem u9_wsX9_count_X0 : ∀ w ∈ u_ws RX0 TX0 6, w ∈ wsX9_count := by
  first | exact fun w h => List.mem_cons_of_mem _ (List.mem_append_right _ h) | decide +kernel
theorem f9_wsX9_count_970 : (Cond.fieldLink RX9 10 "TurnedFloors" "state" "LTurnedFloors$State;") ∈ wsX9_count := by decide +kernel
theorem f9_wsX9_count_971 : (Cond.fieldLink RX9 27 "TurnedFloors" "history" "LTurnedFloors$History;") ∈ wsX9_count := by decide +kernel
theorem f9_wsX9_count_972 : (Cond.fieldLink RX9 88 "TurnedFloors" "tapeLength" "I") ∈ wsX9_count := by decide +kernel
theorem f9_wsX9_count_973 : (Cond.fieldLink RX9 105 "TurnedFloors" "refusals" "[I") ∈ wsX9_count := by decide +kernel
theorem u9_wsX9_status_X9 : ∀ w ∈ u_ws RX9 TX9 19, w ∈ wsX9_status := by
  first | exact fun w h => List.mem_cons_of_mem _ (List.mem_append_right _ h) | decide +kernel
theorem f9_wsX9_status_975 : (Cond.fieldLink RX9 108 "TurnedFloors" "latestStatus" "I") ∈ wsX9_status := by decide +kernel
set_option maxHeartbeats 4000000 in
set_option maxRecDepth 100000 in
theorem qX9_count_s0 (l : Launch) (D : va_G) (ty : Nat → ClassId) (eo : Nat → Nat) (sz : Nat) (ad : Nat → Nat) (q : dK) (p1 : Int32) (o1 : Int32) (o2 : dK) (h : zX9_count_s0 q p1 = some (o1, o2)) : Met l yX9_count wsX9_count ({ frames := 1, cells := 0, slots := 0, locals := 24 } : Room) (va_Pc [.ref (ad 0), .int p1] (kz_pre D ty eo (wF ty ad q) sz)) (va_Qi (fun (r : Int32) (u : va_W) => o1 = r ∧ wF ty ad o2 = u) (kz_B D ty (va_A (wF ty ad q) sz)) (va_A (wF ty ad q) sz)) 0 0 (va_A (wF ty ad q) sz) := by
  refine Met.ofW (cc := cX9_count) (maxL := 2) (ret := (some .int)) (by decide) rfl ?_
  intro p e s m args below meth c s₁ B hml hv
  obtain ⟨rfl, hsz, hP, hK, hD0, hN, hE⟩ := hv
  have hx := B.exec
  have hb := B.bytes
  have hr := B.returns
  have hts := atoms_spec (ws := wsX9_count) B.pre
  have hown : s.vm.findClass RX9 = some m.cls := findClass_of_methodNamed B.named
  have hlocks := B.notSynchronized
  subst hsz
  have hD := hD0.self (sz := s.heap.size)
  generalize hAe : va_A (wF ty ad q) s.heap.size = A at hD hE ⊢
  have hA : ∀ q : Nat, s.heap.size ≤ q → A q := fun q h => by rw [← hAe]; exact Or.inr h
  clear hAe
  have hS : va_S A s.heap s.heap [] := va_S.rf
  have hl := lv_entry ([.ref (ad 0), .int p1]) (n := 2) (Nat.le_of_ble_eq_true rfl)
  rw [lg_entry_eq]
  generalize (lg_sl ([.ref (ad 0), .int p1]) ++ List.replicate (2 - (lg_sl ([.ref (ad 0), .int p1])).length) Slot.unset).toArray = ls at hl ⊢
  have hl : lv_has ls 2 [(0, .ref (ad 0)), (1, .int p1)] := hl
  have C : dc_C p s m _ meth c cX9_count (some .int) 2 RX9 wsX9_count D ty eo A := ⟨hx, hb, hr, hts, hown, hlocks, hml, hK, hN, hE, hA⟩
  unfold zX9_count_s0 at h
  refine lv_iload_n hx hb dX9_count_0 rfl (lv_at hl 1 rfl) ?_
  by_cases c1 : p1 = 0
  · rw [if_pos c1] at h
    refine lv_tableIn (off := 87) (tgt := 88) hx hb dX9_count_1 (by rw [c1]; decide) (by rw [c1]; decide) (by rw [c1]; decide) (by decide) ?_
    refine lv_aload_n hx hb dX9_count_88 rfl (lv_at hl 0 rfl) ?_
    refine va_get (D := D) (ci := 9) (v := .ref (ad 1)) (C := RX9) (T := TX9) (N := 19) hx hb hts u9_wsX9_count_X9 hown hK hP 0 rfl rfl 0 (by decide) (hts (.fieldLink RX9 10 "TurnedFloors" "state" "LTurnedFloors$State;") f9_wsX9_count_970) (fun _ h9 => h9) rfl dX9_count_89 ?_
    refine va_getN (D := D) (ci := 6) (v := .ref (ad 2)) (C := RX6) (T := TX6) (N := 10) hx hb hts u9_wsX9_count_X6 hown hK hP 1 rfl rfl 0 (by decide) (hN.use (.fieldLinkNest "TurnedFloors" 122 "TurnedFloors$State" "tower" "LTurnedFloors$Tower;" "TurnedFloors") (by decide +kernel)) (fun _ h9 => h9) rfl dX9_count_92 ?_
    refine va_getN (D := D) (ci := 8) (v := .int (q.1 2 2)) (C := RX8) (T := TX8) (N := 5) hx hb hts u9_wsX9_count_X8 hown hK hP 2 rfl rfl 2 (by decide) (hN.use (.fieldLinkNest "TurnedFloors" 135 "TurnedFloors$Tower" "floors" "I" "TurnedFloors") (by decide +kernel)) (fun _ h9 => h9) rfl dX9_count_95 ?_
    cases h
    exact kz_iret hx hb hr hlocks hP hK hD hS dX9_count_98 ⟨rfl, rfl⟩
  rw [if_neg c1] at h
  by_cases c2 : p1 = 1
  · rw [if_pos c2] at h
    refine lv_tableIn (off := 98) (tgt := 99) hx hb dX9_count_1 (by rw [c2]; decide) (by rw [c2]; decide) (by rw [c2]; decide) (by decide) ?_
    refine lv_aload_n hx hb dX9_count_99 rfl (lv_at hl 0 rfl) ?_
    refine va_get (D := D) (ci := 9) (v := .ref (ad 1)) (C := RX9) (T := TX9) (N := 19) hx hb hts u9_wsX9_count_X9 hown hK hP 0 rfl rfl 0 (by decide) (hts (.fieldLink RX9 10 "TurnedFloors" "state" "LTurnedFloors$State;") f9_wsX9_count_970) (fun _ h9 => h9) rfl dX9_count_100 ?_
    refine va_getN (D := D) (ci := 6) (v := .ref (ad 2)) (C := RX6) (T := TX6) (N := 10) hx hb hts u9_wsX9_count_X6 hown hK hP 1 rfl rfl 0 (by decide) (hN.use (.fieldLinkNest "TurnedFloors" 122 "TurnedFloors$State" "tower" "LTurnedFloors$Tower;" "TurnedFloors") (by decide +kernel)) (fun _ h9 => h9) rfl dX9_count_103 ?_
    obtain ⟨r3, q5, h4, h⟩ := dB_some h
    refine dw_ki (va_runV (As := []) (rest := []) ⟨hx, hb, hml, hown, hts⟩ (qX8_onHeads_s2 l D ty eo _ ad q  r3 q5 h4) (cwV 0 hts gX9_count_X8_onHeads rfl rfl rfl (by decide +kernel) ⟨Nat.le_of_ble_eq_true rfl, Nat.le_of_ble_eq_true rfl⟩) (dw_preV (ci := 8) (q0 := 2) hK hN hE hP hD hS hA rfl rfl) rfl rfl hl.1 rfl (lv_room (Nat.le_of_ble_eq_true rfl)) dX9_count_106 ⟨Nat.le_of_ble_eq_true rfl, Nat.le_of_ble_eq_true rfl⟩) hD hS hA (fun r9 u9 H locs hw hp hd hs => ?_)
    clear hP hD hS
    obtain ⟨rfl, rfl⟩ := hw
    have hP := hp; have hD := hd; have hS := hs; clear hp hd hs
    cases h
    exact kz_iret hx hb hr hlocks hP hK hD hS dX9_count_109 ⟨rfl, rfl⟩
  rw [if_neg c2] at h
  by_cases c6 : p1 = 2
  · rw [if_pos c6] at h
    refine lv_tableIn (off := 109) (tgt := 110) hx hb dX9_count_1 (by rw [c6]; decide) (by rw [c6]; decide) (by rw [c6]; decide) (by decide) ?_
    refine lv_aload_n hx hb dX9_count_110 rfl (lv_at hl 0 rfl) ?_
    refine va_get (D := D) (ci := 9) (v := .ref (ad 1)) (C := RX9) (T := TX9) (N := 19) hx hb hts u9_wsX9_count_X9 hown hK hP 0 rfl rfl 0 (by decide) (hts (.fieldLink RX9 10 "TurnedFloors" "state" "LTurnedFloors$State;") f9_wsX9_count_970) (fun _ h9 => h9) rfl dX9_count_111 ?_
    refine va_getN (D := D) (ci := 6) (v := .ref (ad 2)) (C := RX6) (T := TX6) (N := 10) hx hb hts u9_wsX9_count_X6 hown hK hP 1 rfl rfl 0 (by decide) (hN.use (.fieldLinkNest "TurnedFloors" 122 "TurnedFloors$State" "tower" "LTurnedFloors$Tower;" "TurnedFloors") (by decide +kernel)) (fun _ h9 => h9) rfl dX9_count_114 ?_
    refine va_getN (D := D) (ci := 8) (v := .int (q.1 2 3)) (C := RX8) (T := TX8) (N := 5) hx hb hts u9_wsX9_count_X8 hown hK hP 2 rfl rfl 3 (by decide) (hN.use (.fieldLinkNest "TurnedFloors" 329 "TurnedFloors$Tower" "paid" "I" "TurnedFloors") (by decide +kernel)) (fun _ h9 => h9) rfl dX9_count_117 ?_
    cases h
    exact kz_iret hx hb hr hlocks hP hK hD hS dX9_count_120 ⟨rfl, rfl⟩
  rw [if_neg c6] at h
  by_cases c7 : p1 = 3
  · rw [if_pos c7] at h
    refine lv_tableIn (off := 120) (tgt := 121) hx hb dX9_count_1 (by rw [c7]; decide) (by rw [c7]; decide) (by rw [c7]; decide) (by decide) ?_
    refine lv_aload_n hx hb dX9_count_121 rfl (lv_at hl 0 rfl) ?_
    refine va_get (D := D) (ci := 9) (v := .ref (ad 1)) (C := RX9) (T := TX9) (N := 19) hx hb hts u9_wsX9_count_X9 hown hK hP 0 rfl rfl 0 (by decide) (hts (.fieldLink RX9 10 "TurnedFloors" "state" "LTurnedFloors$State;") f9_wsX9_count_970) (fun _ h9 => h9) rfl dX9_count_122 ?_
    refine va_getN (D := D) (ci := 6) (v := .int (q.1 1 6)) (C := RX6) (T := TX6) (N := 10) hx hb hts u9_wsX9_count_X6 hown hK hP 1 rfl rfl 6 (by decide) (hN.use (.fieldLinkNest "TurnedFloors" 273 "TurnedFloors$State" "seenCount" "I" "TurnedFloors") (by decide +kernel)) (fun _ h9 => h9) rfl dX9_count_125 ?_
    cases h
    exact kz_iret hx hb hr hlocks hP hK hD hS dX9_count_128 ⟨rfl, rfl⟩
  rw [if_neg c7] at h
  by_cases c8 : p1 = 4
  · rw [if_pos c8] at h
    refine lv_tableIn (off := 128) (tgt := 129) hx hb dX9_count_1 (by rw [c8]; decide) (by rw [c8]; decide) (by rw [c8]; decide) (by decide) ?_
    refine lv_aload_n hx hb dX9_count_129 rfl (lv_at hl 0 rfl) ?_
    refine va_get (D := D) (ci := 9) (v := .ref (ad 1)) (C := RX9) (T := TX9) (N := 19) hx hb hts u9_wsX9_count_X9 hown hK hP 0 rfl rfl 0 (by decide) (hts (.fieldLink RX9 10 "TurnedFloors" "state" "LTurnedFloors$State;") f9_wsX9_count_970) (fun _ h9 => h9) rfl dX9_count_130 ?_
    refine va_getN (D := D) (ci := 6) (v := .int (q.1 1 8)) (C := RX6) (T := TX6) (N := 10) hx hb hts u9_wsX9_count_X6 hown hK hP 1 rfl rfl 8 (by decide) (hN.use (.fieldLinkNest "TurnedFloors" 183 "TurnedFloors$State" "lawCount" "I" "TurnedFloors") (by decide +kernel)) (fun _ h9 => h9) rfl dX9_count_133 ?_
    cases h
    exact kz_iret hx hb hr hlocks hP hK hD hS dX9_count_136 ⟨rfl, rfl⟩
  rw [if_neg c8] at h
  by_cases c9 : p1 = 5
  · rw [if_pos c9] at h
    refine lv_tableIn (off := 136) (tgt := 137) hx hb dX9_count_1 (by rw [c9]; decide) (by rw [c9]; decide) (by rw [c9]; decide) (by decide) ?_
    refine lv_aload_n hx hb dX9_count_137 rfl (lv_at hl 0 rfl) ?_
    refine va_get (D := D) (ci := 9) (v := .ref (ad 10)) (C := RX9) (T := TX9) (N := 19) hx hb hts u9_wsX9_count_X9 hown hK hP 0 rfl rfl 3 (by decide) (hts (.fieldLink RX9 27 "TurnedFloors" "history" "LTurnedFloors$History;") f9_wsX9_count_971) (fun _ h9 => h9) rfl dX9_count_138 ?_
    refine va_getN (D := D) (ci := 0) (v := .int (q.1 10 2)) (C := RX0) (T := TX0) (N := 6) hx hb hts u9_wsX9_count_X0 hown hK hP 10 rfl rfl 2 (by decide) (hN.use (.fieldLinkNest "TurnedFloors" 214 "TurnedFloors$History" "kept" "I" "TurnedFloors") (by decide +kernel)) (fun _ h9 => h9) rfl dX9_count_141 ?_
    cases h
    exact kz_iret hx hb hr hlocks hP hK hD hS dX9_count_144 ⟨rfl, rfl⟩
  rw [if_neg c9] at h
  by_cases c10 : p1 = 6
  · rw [if_pos c10] at h
    refine lv_tableIn (off := 144) (tgt := 145) hx hb dX9_count_1 (by rw [c10]; decide) (by rw [c10]; decide) (by rw [c10]; decide) (by decide) ?_
    refine lv_aload_n hx hb dX9_count_145 rfl (lv_at hl 0 rfl) ?_
    refine va_get (D := D) (ci := 9) (v := .int (q.1 0 12)) (C := RX9) (T := TX9) (N := 19) hx hb hts u9_wsX9_count_X9 hown hK hP 0 rfl rfl 12 (by decide) (hts (.fieldLink RX9 88 "TurnedFloors" "tapeLength" "I") f9_wsX9_count_972) (fun _ h9 => h9) rfl dX9_count_146 ?_
    cases h
    exact kz_iret hx hb hr hlocks hP hK hD hS dX9_count_149 ⟨rfl, rfl⟩
  rw [if_neg c10] at h
  by_cases c11 : p1 = 7
  · rw [if_pos c11] at h
    refine lv_tableIn (off := 149) (tgt := 150) hx hb dX9_count_1 (by rw [c11]; decide) (by rw [c11]; decide) (by rw [c11]; decide) (by decide) ?_
    refine lv_aload_n hx hb dX9_count_150 rfl (lv_at hl 0 rfl) ?_
    refine va_get (D := D) (ci := 9) (v := .ref (ad 48)) (C := RX9) (T := TX9) (N := 19) hx hb hts u9_wsX9_count_X9 hown hK hP 0 rfl rfl 17 (by decide) (hts (.fieldLink RX9 105 "TurnedFloors" "refusals" "[I") f9_wsX9_count_973) (fun _ h9 => h9) rfl dX9_count_151 ?_
    refine lv_iconst (v := 1) hx hb dX9_count_154 (by decide) ?_
    refine va_iald hx hb hK hP 48 0 rfl rfl (by simp only [vp_in]; decide) dX9_count_155 ?_
    refine kz_topi (q.1 48 1) (congrArg (q.1 48) (by decide +kernel : Int32.toNatClampNeg 1 = 1)) ?_
    cases h
    exact kz_iret hx hb hr hlocks hP hK hD hS dX9_count_156 ⟨rfl, rfl⟩
  rw [if_neg c11] at h
  by_cases c12 : p1 = 8
  · rw [if_pos c12] at h
    refine lv_tableIn (off := 156) (tgt := 157) hx hb dX9_count_1 (by rw [c12]; decide) (by rw [c12]; decide) (by rw [c12]; decide) (by decide) ?_
    refine lv_aload_n hx hb dX9_count_157 rfl (lv_at hl 0 rfl) ?_
    refine va_get (D := D) (ci := 9) (v := .ref (ad 48)) (C := RX9) (T := TX9) (N := 19) hx hb hts u9_wsX9_count_X9 hown hK hP 0 rfl rfl 17 (by decide) (hts (.fieldLink RX9 105 "TurnedFloors" "refusals" "[I") f9_wsX9_count_973) (fun _ h9 => h9) rfl dX9_count_158 ?_
    refine lv_iconst (v := 2) hx hb dX9_count_161 (by decide) ?_
    refine va_iald hx hb hK hP 48 0 rfl rfl (by simp only [vp_in]; decide) dX9_count_162 ?_
    refine kz_topi (q.1 48 2) (congrArg (q.1 48) (by decide +kernel : Int32.toNatClampNeg 2 = 2)) ?_
    cases h
    exact kz_iret hx hb hr hlocks hP hK hD hS dX9_count_163 ⟨rfl, rfl⟩
  rw [if_neg c12] at h
  by_cases c13 : p1 = 9
  · rw [if_pos c13] at h
    refine lv_tableIn (off := 163) (tgt := 164) hx hb dX9_count_1 (by rw [c13]; decide) (by rw [c13]; decide) (by rw [c13]; decide) (by decide) ?_
    refine lv_aload_n hx hb dX9_count_164 rfl (lv_at hl 0 rfl) ?_
    refine va_get (D := D) (ci := 9) (v := .ref (ad 48)) (C := RX9) (T := TX9) (N := 19) hx hb hts u9_wsX9_count_X9 hown hK hP 0 rfl rfl 17 (by decide) (hts (.fieldLink RX9 105 "TurnedFloors" "refusals" "[I") f9_wsX9_count_973) (fun _ h9 => h9) rfl dX9_count_165 ?_
    refine lv_iconst (v := 3) hx hb dX9_count_168 (by decide) ?_
    refine va_iald hx hb hK hP 48 0 rfl rfl (by simp only [vp_in]; decide) dX9_count_169 ?_
    refine kz_topi (q.1 48 3) (congrArg (q.1 48) (by decide +kernel : Int32.toNatClampNeg 3 = 3)) ?_
    cases h
    exact kz_iret hx hb hr hlocks hP hK hD hS dX9_count_170 ⟨rfl, rfl⟩
  rw [if_neg c13] at h
  by_cases c14 : p1 = 10
  · rw [if_pos c14] at h
    refine lv_tableIn (off := 170) (tgt := 171) hx hb dX9_count_1 (by rw [c14]; decide) (by rw [c14]; decide) (by rw [c14]; decide) (by decide) ?_
    refine lv_aload_n hx hb dX9_count_171 rfl (lv_at hl 0 rfl) ?_
    refine va_get (D := D) (ci := 9) (v := .ref (ad 48)) (C := RX9) (T := TX9) (N := 19) hx hb hts u9_wsX9_count_X9 hown hK hP 0 rfl rfl 17 (by decide) (hts (.fieldLink RX9 105 "TurnedFloors" "refusals" "[I") f9_wsX9_count_973) (fun _ h9 => h9) rfl dX9_count_172 ?_
    refine lv_iconst (v := 5) hx hb dX9_count_175 (by decide) ?_
    refine va_iald hx hb hK hP 48 0 rfl rfl (by simp only [vp_in]; decide) dX9_count_176 ?_
    refine kz_topi (q.1 48 5) (congrArg (q.1 48) (by decide +kernel : Int32.toNatClampNeg 5 = 5)) ?_
    cases h
    exact kz_iret hx hb hr hlocks hP hK hD hS dX9_count_177 ⟨rfl, rfl⟩
  rw [if_neg c14] at h
  by_cases c15 : p1 = 11
  · rw [if_pos c15] at h
    refine lv_tableIn (off := 177) (tgt := 178) hx hb dX9_count_1 (by rw [c15]; decide) (by rw [c15]; decide) (by rw [c15]; decide) (by decide) ?_
    refine lv_aload_n hx hb dX9_count_178 rfl (lv_at hl 0 rfl) ?_
    refine va_get (D := D) (ci := 9) (v := .ref (ad 48)) (C := RX9) (T := TX9) (N := 19) hx hb hts u9_wsX9_count_X9 hown hK hP 0 rfl rfl 17 (by decide) (hts (.fieldLink RX9 105 "TurnedFloors" "refusals" "[I") f9_wsX9_count_973) (fun _ h9 => h9) rfl dX9_count_179 ?_
    refine lv_bipush (v := 6) hx hb dX9_count_182 (by decide) ?_
    refine va_iald hx hb hK hP 48 0 rfl rfl (by simp only [vp_in]; decide) dX9_count_184 ?_
    refine kz_topi (q.1 48 6) (congrArg (q.1 48) (by decide +kernel : Int32.toNatClampNeg 6 = 6)) ?_
    cases h
    exact kz_iret hx hb hr hlocks hP hK hD hS dX9_count_185 ⟨rfl, rfl⟩
  rw [if_neg c15] at h
  by_cases c16 : p1 = 12
  · rw [if_pos c16] at h
    refine lv_tableIn (off := 185) (tgt := 186) hx hb dX9_count_1 (by rw [c16]; decide) (by rw [c16]; decide) (by rw [c16]; decide) (by decide) ?_
    refine lv_aload_n hx hb dX9_count_186 rfl (lv_at hl 0 rfl) ?_
    refine va_get (D := D) (ci := 9) (v := .ref (ad 1)) (C := RX9) (T := TX9) (N := 19) hx hb hts u9_wsX9_count_X9 hown hK hP 0 rfl rfl 0 (by decide) (hts (.fieldLink RX9 10 "TurnedFloors" "state" "LTurnedFloors$State;") f9_wsX9_count_970) (fun _ h9 => h9) rfl dX9_count_187 ?_
    refine va_getN (D := D) (ci := 6) (v := .int (q.1 1 9)) (C := RX6) (T := TX6) (N := 10) hx hb hts u9_wsX9_count_X6 hown hK hP 1 rfl rfl 9 (by decide) (hN.use (.fieldLinkNest "TurnedFloors" 208 "TurnedFloors$State" "inForce" "I" "TurnedFloors") (by decide +kernel)) (fun _ h9 => h9) rfl dX9_count_190 ?_
    cases h
    exact kz_iret hx hb hr hlocks hP hK hD hS dX9_count_193 ⟨rfl, rfl⟩
  rw [if_neg c16] at h
  by_cases c17 : p1 = 13
  · rw [if_pos c17] at h
    refine lv_tableIn (off := 193) (tgt := 194) hx hb dX9_count_1 (by rw [c17]; decide) (by rw [c17]; decide) (by rw [c17]; decide) (by decide) ?_
    refine lv_aload_n hx hb dX9_count_194 rfl (lv_at hl 0 rfl) ?_
    refine va_get (D := D) (ci := 9) (v := .ref (ad 1)) (C := RX9) (T := TX9) (N := 19) hx hb hts u9_wsX9_count_X9 hown hK hP 0 rfl rfl 0 (by decide) (hts (.fieldLink RX9 10 "TurnedFloors" "state" "LTurnedFloors$State;") f9_wsX9_count_970) (fun _ h9 => h9) rfl dX9_count_195 ?_
    refine lv_iload_n hx hb dX9_count_198 rfl (lv_at hl 1 rfl) ?_
    refine lv_bipush (v := 13) hx hb dX9_count_199 (by decide) ?_
    refine lv_isub hx hb dX9_count_201 ?_
    obtain ⟨r18, q20, h19, h⟩ := dB_some h
    refine dw_ki (va_runV (As := [.int (p1 - 13 : Int32)]) (rest := []) ⟨hx, hb, hml, hown, hts⟩ (qX6_term_s1 l D ty eo _ ad q (p1 - 13 : Int32) r18 q20 h19) (cwV 1 hts gX9_count_X6_term rfl rfl rfl (by decide +kernel) ⟨Nat.le_of_ble_eq_true rfl, Nat.le_of_ble_eq_true rfl⟩) (dw_preV (ci := 6) (q0 := 1) hK hN hE hP hD hS hA rfl rfl) rfl rfl hl.1 rfl (lv_room (Nat.le_of_ble_eq_true rfl)) dX9_count_202 ⟨Nat.le_of_ble_eq_true rfl, Nat.le_of_ble_eq_true rfl⟩) hD hS hA (fun r9 u9 H locs hw hp hd hs => ?_)
    clear hP hD hS
    obtain ⟨rfl, rfl⟩ := hw
    have hP := hp; have hD := hd; have hS := hs; clear hp hd hs
    cases h
    exact kz_iret hx hb hr hlocks hP hK hD hS dX9_count_205 ⟨rfl, rfl⟩
  rw [if_neg c17] at h
  by_cases c21 : p1 = 14
  · rw [if_pos c21] at h
    refine lv_tableIn (off := 193) (tgt := 194) hx hb dX9_count_1 (by rw [c21]; decide) (by rw [c21]; decide) (by rw [c21]; decide) (by decide) ?_
    refine lv_aload_n hx hb dX9_count_194 rfl (lv_at hl 0 rfl) ?_
    refine va_get (D := D) (ci := 9) (v := .ref (ad 1)) (C := RX9) (T := TX9) (N := 19) hx hb hts u9_wsX9_count_X9 hown hK hP 0 rfl rfl 0 (by decide) (hts (.fieldLink RX9 10 "TurnedFloors" "state" "LTurnedFloors$State;") f9_wsX9_count_970) (fun _ h9 => h9) rfl dX9_count_195 ?_
    refine lv_iload_n hx hb dX9_count_198 rfl (lv_at hl 1 rfl) ?_
    refine lv_bipush (v := 13) hx hb dX9_count_199 (by decide) ?_
    refine lv_isub hx hb dX9_count_201 ?_
    obtain ⟨r22, q24, h23, h⟩ := dB_some h
    refine dw_ki (va_runV (As := [.int (p1 - 13 : Int32)]) (rest := []) ⟨hx, hb, hml, hown, hts⟩ (qX6_term_s1 l D ty eo _ ad q (p1 - 13 : Int32) r22 q24 h23) (cwV 1 hts gX9_count_X6_term rfl rfl rfl (by decide +kernel) ⟨Nat.le_of_ble_eq_true rfl, Nat.le_of_ble_eq_true rfl⟩) (dw_preV (ci := 6) (q0 := 1) hK hN hE hP hD hS hA rfl rfl) rfl rfl hl.1 rfl (lv_room (Nat.le_of_ble_eq_true rfl)) dX9_count_202 ⟨Nat.le_of_ble_eq_true rfl, Nat.le_of_ble_eq_true rfl⟩) hD hS hA (fun r9 u9 H locs hw hp hd hs => ?_)
    clear hP hD hS
    obtain ⟨rfl, rfl⟩ := hw
    have hP := hp; have hD := hd; have hS := hs; clear hp hd hs
    cases h
    exact kz_iret hx hb hr hlocks hP hK hD hS dX9_count_205 ⟨rfl, rfl⟩
  rw [if_neg c21] at h
  by_cases c25 : p1 = 15
  · rw [if_pos c25] at h
    refine lv_tableIn (off := 193) (tgt := 194) hx hb dX9_count_1 (by rw [c25]; decide) (by rw [c25]; decide) (by rw [c25]; decide) (by decide) ?_
    refine lv_aload_n hx hb dX9_count_194 rfl (lv_at hl 0 rfl) ?_
    refine va_get (D := D) (ci := 9) (v := .ref (ad 1)) (C := RX9) (T := TX9) (N := 19) hx hb hts u9_wsX9_count_X9 hown hK hP 0 rfl rfl 0 (by decide) (hts (.fieldLink RX9 10 "TurnedFloors" "state" "LTurnedFloors$State;") f9_wsX9_count_970) (fun _ h9 => h9) rfl dX9_count_195 ?_
    refine lv_iload_n hx hb dX9_count_198 rfl (lv_at hl 1 rfl) ?_
    refine lv_bipush (v := 13) hx hb dX9_count_199 (by decide) ?_
    refine lv_isub hx hb dX9_count_201 ?_
    obtain ⟨r26, q28, h27, h⟩ := dB_some h
    refine dw_ki (va_runV (As := [.int (p1 - 13 : Int32)]) (rest := []) ⟨hx, hb, hml, hown, hts⟩ (qX6_term_s1 l D ty eo _ ad q (p1 - 13 : Int32) r26 q28 h27) (cwV 1 hts gX9_count_X6_term rfl rfl rfl (by decide +kernel) ⟨Nat.le_of_ble_eq_true rfl, Nat.le_of_ble_eq_true rfl⟩) (dw_preV (ci := 6) (q0 := 1) hK hN hE hP hD hS hA rfl rfl) rfl rfl hl.1 rfl (lv_room (Nat.le_of_ble_eq_true rfl)) dX9_count_202 ⟨Nat.le_of_ble_eq_true rfl, Nat.le_of_ble_eq_true rfl⟩) hD hS hA (fun r9 u9 H locs hw hp hd hs => ?_)
    clear hP hD hS
    obtain ⟨rfl, rfl⟩ := hw
    have hP := hp; have hD := hd; have hS := hs; clear hp hd hs
    cases h
    exact kz_iret hx hb hr hlocks hP hK hD hS dX9_count_205 ⟨rfl, rfl⟩
  rw [if_neg c25] at h
  by_cases c29 : p1 = 16
  · rw [if_pos c29] at h
    refine lv_tableIn (off := 193) (tgt := 194) hx hb dX9_count_1 (by rw [c29]; decide) (by rw [c29]; decide) (by rw [c29]; decide) (by decide) ?_
    refine lv_aload_n hx hb dX9_count_194 rfl (lv_at hl 0 rfl) ?_
    refine va_get (D := D) (ci := 9) (v := .ref (ad 1)) (C := RX9) (T := TX9) (N := 19) hx hb hts u9_wsX9_count_X9 hown hK hP 0 rfl rfl 0 (by decide) (hts (.fieldLink RX9 10 "TurnedFloors" "state" "LTurnedFloors$State;") f9_wsX9_count_970) (fun _ h9 => h9) rfl dX9_count_195 ?_
    refine lv_iload_n hx hb dX9_count_198 rfl (lv_at hl 1 rfl) ?_
    refine lv_bipush (v := 13) hx hb dX9_count_199 (by decide) ?_
    refine lv_isub hx hb dX9_count_201 ?_
    obtain ⟨r30, q32, h31, h⟩ := dB_some h
    refine dw_ki (va_runV (As := [.int (p1 - 13 : Int32)]) (rest := []) ⟨hx, hb, hml, hown, hts⟩ (qX6_term_s1 l D ty eo _ ad q (p1 - 13 : Int32) r30 q32 h31) (cwV 1 hts gX9_count_X6_term rfl rfl rfl (by decide +kernel) ⟨Nat.le_of_ble_eq_true rfl, Nat.le_of_ble_eq_true rfl⟩) (dw_preV (ci := 6) (q0 := 1) hK hN hE hP hD hS hA rfl rfl) rfl rfl hl.1 rfl (lv_room (Nat.le_of_ble_eq_true rfl)) dX9_count_202 ⟨Nat.le_of_ble_eq_true rfl, Nat.le_of_ble_eq_true rfl⟩) hD hS hA (fun r9 u9 H locs hw hp hd hs => ?_)
    clear hP hD hS
    obtain ⟨rfl, rfl⟩ := hw
    have hP := hp; have hD := hd; have hS := hs; clear hp hd hs
    cases h
    exact kz_iret hx hb hr hlocks hP hK hD hS dX9_count_205 ⟨rfl, rfl⟩
  rw [if_neg c29] at h
  by_cases c33 : p1 = 17
  · rw [if_pos c33] at h
    refine lv_tableIn (off := 205) (tgt := 206) hx hb dX9_count_1 (by rw [c33]; decide) (by rw [c33]; decide) (by rw [c33]; decide) (by decide) ?_
    refine lv_aload_n hx hb dX9_count_206 rfl (lv_at hl 0 rfl) ?_
    refine va_get (D := D) (ci := 9) (v := .ref (ad 1)) (C := RX9) (T := TX9) (N := 19) hx hb hts u9_wsX9_count_X9 hown hK hP 0 rfl rfl 0 (by decide) (hts (.fieldLink RX9 10 "TurnedFloors" "state" "LTurnedFloors$State;") f9_wsX9_count_970) (fun _ h9 => h9) rfl dX9_count_207 ?_
    refine va_getN (D := D) (ci := 6) (v := .ref (ad 2)) (C := RX6) (T := TX6) (N := 10) hx hb hts u9_wsX9_count_X6 hown hK hP 1 rfl rfl 0 (by decide) (hN.use (.fieldLinkNest "TurnedFloors" 122 "TurnedFloors$State" "tower" "LTurnedFloors$Tower;" "TurnedFloors") (by decide +kernel)) (fun _ h9 => h9) rfl dX9_count_210 ?_
    refine lv_iconst (v := 1) hx hb dX9_count_213 (by decide) ?_
    refine lv_aload_n hx hb dX9_count_214 rfl (lv_at hl 0 rfl) ?_
    refine va_get (D := D) (ci := 9) (v := .ref (ad 1)) (C := RX9) (T := TX9) (N := 19) hx hb hts u9_wsX9_count_X9 hown hK hP 0 rfl rfl 0 (by decide) (hts (.fieldLink RX9 10 "TurnedFloors" "state" "LTurnedFloors$State;") f9_wsX9_count_970) (fun _ h9 => h9) rfl dX9_count_215 ?_
    refine va_getN (D := D) (ci := 6) (v := .ref (ad 2)) (C := RX6) (T := TX6) (N := 10) hx hb hts u9_wsX9_count_X6 hown hK hP 1 rfl rfl 0 (by decide) (hN.use (.fieldLinkNest "TurnedFloors" 122 "TurnedFloors$State" "tower" "LTurnedFloors$Tower;" "TurnedFloors") (by decide +kernel)) (fun _ h9 => h9) rfl dX9_count_218 ?_
    refine va_getN (D := D) (ci := 8) (v := .int (q.1 2 2)) (C := RX8) (T := TX8) (N := 5) hx hb hts u9_wsX9_count_X8 hown hK hP 2 rfl rfl 2 (by decide) (hN.use (.fieldLinkNest "TurnedFloors" 135 "TurnedFloors$Tower" "floors" "I" "TurnedFloors") (by decide +kernel)) (fun _ h9 => h9) rfl dX9_count_221 ?_
    refine lv_ishl hx hb dX9_count_224 ?_
    refine lv_iconst (v := 1) hx hb dX9_count_225 (by decide) ?_
    refine lv_isub hx hb dX9_count_226 ?_
    refine lv_aload_n hx hb dX9_count_227 rfl (lv_at hl 0 rfl) ?_
    refine va_get (D := D) (ci := 9) (v := .ref (ad 1)) (C := RX9) (T := TX9) (N := 19) hx hb hts u9_wsX9_count_X9 hown hK hP 0 rfl rfl 0 (by decide) (hts (.fieldLink RX9 10 "TurnedFloors" "state" "LTurnedFloors$State;") f9_wsX9_count_970) (fun _ h9 => h9) rfl dX9_count_228 ?_
    refine va_getN (D := D) (ci := 6) (v := .int (q.1 1 3)) (C := RX6) (T := TX6) (N := 10) hx hb hts u9_wsX9_count_X6 hown hK hP 1 rfl rfl 3 (by decide) (hN.use (.fieldLinkNest "TurnedFloors" 267 "TurnedFloors$State" "headsMatter" "I" "TurnedFloors") (by decide +kernel)) (fun _ h9 => h9) rfl dX9_count_231 ?_
    obtain ⟨r34, q36, h35, h⟩ := dB_some h
    refine dw_ki (va_runV (As := [.int ((1 <<< ((q.1 2 2 : Int32) &&& 31) : Int32) - 1 : Int32), .int (q.1 1 3)]) (rest := []) ⟨hx, hb, hml, hown, hts⟩ (qX8_rises_s2 l D ty eo _ ad q ((1 <<< ((q.1 2 2 : Int32) &&& 31) : Int32) - 1 : Int32) (q.1 1 3) r34 q36 h35) (cwV 2 hts gX9_count_X8_rises rfl rfl rfl (by decide +kernel) ⟨Nat.le_of_ble_eq_true rfl, Nat.le_of_ble_eq_true rfl⟩) (dw_preV (ci := 8) (q0 := 2) hK hN hE hP hD hS hA rfl rfl) rfl rfl hl.1 rfl (lv_room (Nat.le_of_ble_eq_true rfl)) dX9_count_234 ⟨Nat.le_of_ble_eq_true rfl, Nat.le_of_ble_eq_true rfl⟩) hD hS hA (fun r9 u9 H locs hw hp hd hs => ?_)
    clear hP hD hS
    obtain ⟨rfl, rfl⟩ := hw
    have hP := hp; have hD := hd; have hS := hs; clear hp hd hs
    obtain ⟨r37, h38, h⟩ := dV_some h
    refine dw_ks (va_runS (As := [.int r34]) (rest := []) ⟨hx, hb, hml, hown, hts⟩ (qX9_bit l D ty eo _ r34 _ h38) (va_cwS 1 hts gX9_count_X9_bit rfl rfl rfl (by decide +kernel) ⟨Nat.le_of_ble_eq_true rfl, Nat.le_of_ble_eq_true rfl⟩) (kz_preS hK hN hE hP hD hS hA [] (by decide) rfl) rfl rfl hl.1 rfl (lv_room (Nat.le_of_ble_eq_true rfl)) dX9_count_237 ⟨Nat.le_of_ble_eq_true rfl, Nat.le_of_ble_eq_true rfl⟩) hP hD hS hA (fun _ _ h9 => h9.2.symm) (fun r9 u9 H locs hw hp hd hs => ?_)
    obtain ⟨rfl, -⟩ := hw
    clear hP hD hS
    have hP := hp; have hD := hd; have hS := hs; clear hp hd hs
    cases h
    exact kz_iret hx hb hr hlocks hP hK hD hS dX9_count_240 ⟨rfl, rfl⟩
  rw [if_neg c33] at h
  refine lv_tableOut (tgt := 241) hx hb dX9_count_1 (by simp only [← Int32.toInt_inj, Int32.reduceToInt] at c1 c2 c6 c7 c8 c9 c10 c11 c12 c13 c14 c15 c16 c17 c21 c25 c29 c33; omega) (by decide) ?_
  refine lv_iconst (v := (-1)) hx hb dX9_count_241 (by decide) ?_
  cases h
  exact kz_iret hx hb hr hlocks hP hK hD hS dX9_count_242 ⟨rfl, rfl⟩

set_option maxHeartbeats 4000000 in
set_option maxRecDepth 100000 in
theorem qX9_status_s0 (l : Launch) (D : va_G) (ty : Nat → ClassId) (eo : Nat → Nat) (sz : Nat) (ad : Nat → Nat) (q : dK)  (o1 : Int32) (o2 : dK) (h : zX9_status_s0 q = some (o1, o2)) : Met l yX9_status wsX9_status ({ frames := 0, cells := 0, slots := 0, locals := 0 } : Room) (va_Pc [.ref (ad 0)] (kz_pre D ty eo (wF ty ad q) sz)) (va_Qi (fun (r : Int32) (u : va_W) => o1 = r ∧ wF ty ad o2 = u) (kz_B D ty (va_A (wF ty ad q) sz)) (va_A (wF ty ad q) sz)) 0 0 (va_A (wF ty ad q) sz) := by
  refine Met.ofW (cc := cX9_status) (maxL := 1) (ret := (some .int)) (by decide) rfl ?_
  intro p e s m args below meth c s₁ B hml hv
  obtain ⟨rfl, hsz, hP, hK, hD0, hN, hE⟩ := hv
  have hx := B.exec
  have hb := B.bytes
  have hr := B.returns
  have hts := atoms_spec (ws := wsX9_status) B.pre
  have hown : s.vm.findClass RX9 = some m.cls := findClass_of_methodNamed B.named
  have hlocks := B.notSynchronized
  subst hsz
  have hD := hD0.self (sz := s.heap.size)
  generalize hAe : va_A (wF ty ad q) s.heap.size = A at hD hE ⊢
  have hA : ∀ q : Nat, s.heap.size ≤ q → A q := fun q h => by rw [← hAe]; exact Or.inr h
  clear hAe
  have hS : va_S A s.heap s.heap [] := va_S.rf
  have hl := lv_entry ([.ref (ad 0)]) (n := 1) (Nat.le_of_ble_eq_true rfl)
  rw [lg_entry_eq]
  generalize (lg_sl ([.ref (ad 0)]) ++ List.replicate (1 - (lg_sl ([.ref (ad 0)])).length) Slot.unset).toArray = ls at hl ⊢
  have hl : lv_has ls 1 [(0, .ref (ad 0))] := hl
  have C : dc_C p s m _ meth c cX9_status (some .int) 1 RX9 wsX9_status D ty eo A := ⟨hx, hb, hr, hts, hown, hlocks, hml, hK, hN, hE, hA⟩
  unfold zX9_status_s0 at h
  refine lv_aload_n hx hb dX9_status_0 rfl (lv_at hl 0 rfl) ?_
  refine va_get (D := D) (ci := 9) (v := .int (q.1 0 18)) (C := RX9) (T := TX9) (N := 19) hx hb hts u9_wsX9_status_X9 hown hK hP 0 rfl rfl 18 (by decide) (hts (.fieldLink RX9 108 "TurnedFloors" "latestStatus" "I") f9_wsX9_status_975) (fun _ h9 => h9) rfl dX9_status_1 ?_
  cases h
  exact kz_iret hx hb hr hlocks hP hK hD hS dX9_status_4 ⟨rfl, rfl⟩
