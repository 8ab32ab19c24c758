section
theorem u9_wsX3_lay_X3 : ∀ w ∈ u_ws RX3 TX3 20, w ∈ wsX3_lay := fun w h => List.mem_cons_of_mem _ (vW9_wsX30 w h)
theorem u9_wsX3_lay_X8 : ∀ w ∈ u_ws RX8 TX8 5, w ∈ wsX3_lay := fun w h => List.mem_cons_of_mem _ (vW9_wsX80 w h)
theorem f9_wsX3_lay_750 : (Cond.fieldLink RX3 51 "TurnedFloors$Paper" "floors" "I") ∈ wsX3_lay := List.mem_cons_of_mem _ mvW9_463
theorem f9_wsX3_lay_751 : (Cond.fieldLink RX3 55 "TurnedFloors$Paper" "size" "I") ∈ wsX3_lay := List.mem_cons_of_mem _ mvW9_466
theorem f9_wsX3_lay_752 : (Cond.methodLink RX3 100 Lib.Math.min.name) ∈ wsX3_lay := List.mem_cons_of_mem _ mvW9_470
theorem f9_wsX3_lay_753 : (Cond.static Lib.Math.min.name) ∈ wsX3_lay := List.mem_cons_of_mem _ mvW9_86
theorem f9_wsX3_lay_754 : (Cond.initialized "java/lang/Math") ∈ wsX3_lay := List.mem_cons_of_mem _ mvW9_87
theorem f9_wsX3_lay_755 : (Cond.code Lib.Math.min.name Lib.Math.min.code 2 (some .int)) ∈ wsX3_lay := List.mem_cons_of_mem _ mvW9_88
theorem f9_wsX3_lay_756 : (Cond.fieldLink RX3 58 "TurnedFloors$Paper" "start" "I") ∈ wsX3_lay := List.mem_cons_of_mem _ mvW9_471
theorem f9_wsX3_lay_757 : (Cond.fieldLink RX3 15 "TurnedFloors$Paper" "digits" "[I") ∈ wsX3_lay := List.mem_cons_of_mem _ mvW9_469
theorem f9_wsX3_lay_758 : (Cond.fieldLink RX3 9 "TurnedFloors$Paper" "ranks" "[I") ∈ wsX3_lay := List.mem_cons_of_mem _ mvW9_468
theorem f9_wsX3_lay_759 : (Cond.fieldLink RX3 61 "TurnedFloors$Paper" "headsMatter" "I") ∈ wsX3_lay := List.mem_cons_of_mem _ mvW9_464
theorem f9_wsX3_lay_760 : (Cond.fieldLink RX3 76 "TurnedFloors$Paper" "FACTORIALS" "[I") ∈ wsX3_lay := List.mem_cons_of_mem _ mvW9_465
theorem f9_wsX3_lay_761 : (Cond.fieldLink RX3 39 "TurnedFloors$Paper" "toOrder" "[I") ∈ wsX3_lay := List.mem_cons_of_mem _ mvW9_467
theorem u9_wsX9_spread_X9 : ∀ w ∈ u_ws RX9 TX9 19, w ∈ wsX9_spread := fun w h => List.mem_cons_of_mem _ (vW9_wsX90 w h)
theorem u9_wsX9_spread_X6 : ∀ w ∈ u_ws RX6 TX6 10, w ∈ wsX9_spread := fun w h => List.mem_cons_of_mem _ (vW9_wsX60 w h)
theorem f9_wsX9_spread_764 : (Cond.fieldLink RX9 80 "TurnedFloors" "paper" "LTurnedFloors$Paper;") ∈ wsX9_spread := List.mem_cons_of_mem _ mvW9_453
theorem f9_wsX9_spread_765 : (Cond.fieldLink RX9 10 "TurnedFloors" "state" "LTurnedFloors$State;") ∈ wsX9_spread := List.mem_cons_of_mem _ mvW9_0
theorem u9_wsX3_sameBars_X3 : ∀ w ∈ u_ws RX3 TX3 20, w ∈ wsX3_sameBars := fun w h => List.mem_cons_of_mem _ (vW9_wsX30 w h)
theorem f9_wsX3_sameBars_767 : (Cond.fieldLink RX3 18 "TurnedFloors$Paper" "barred" "[I") ∈ wsX3_sameBars := List.mem_cons_of_mem _ mvW9_507
theorem f9_wsX3_sameBars_768 : (Cond.fieldLink RX3 24 "TurnedFloors$Paper" "measuredBarred" "[I") ∈ wsX3_sameBars := List.mem_cons_of_mem _ mvW9_529
theorem u9_wsX3_isOrdered_X3 : ∀ w ∈ u_ws RX3 TX3 20, w ∈ wsX3_isOrdered := fun w h => List.mem_cons_of_mem _ (vW9_wsX30 w h)
theorem f9_wsX3_isOrdered_770 : (Cond.fieldLink RX3 61 "TurnedFloors$Paper" "headsMatter" "I") ∈ wsX3_isOrdered := List.mem_cons_of_mem _ mvW9_464
theorem f9_wsX3_isOrdered_771 : (Cond.fieldLink RX3 51 "TurnedFloors$Paper" "floors" "I") ∈ wsX3_isOrdered := List.mem_cons_of_mem _ mvW9_463
theorem u9_wsX3_turned_X3 : ∀ w ∈ u_ws RX3 TX3 20, w ∈ wsX3_turned := fun w h => List.mem_cons_of_mem _ (vW9_wsX30 w h)
theorem f9_wsX3_turned_773 : (Cond.fieldLink RX3 51 "TurnedFloors$Paper" "floors" "I") ∈ wsX3_turned := List.mem_cons_of_mem _ mvW9_463
theorem f9_wsX3_turned_774 : (Cond.fieldLink RX3 33 "TurnedFloors$Paper" "turnedOrders" "[I") ∈ wsX3_turned := List.mem_cons_of_mem _ mvW9_480
theorem f9_wsX3_turned_775 : (Cond.fieldLink RX3 36 "TurnedFloors$Paper" "turnedHeads" "[I") ∈ wsX3_turned := List.mem_cons_of_mem _ mvW9_481
theorem f9_wsX3_turned_776 : (Cond.fieldLink RX3 55 "TurnedFloors$Paper" "size" "I") ∈ wsX3_turned := List.mem_cons_of_mem _ mvW9_466
theorem u9_wsX3_caseOf_X3 : ∀ w ∈ u_ws RX3 TX3 20, w ∈ wsX3_caseOf := fun w h => List.mem_cons_of_mem _ (vW9_wsX30 w h)
theorem f9_wsX3_caseOf_778 : (Cond.fieldLink RX3 30 "TurnedFloors$Paper" "orders" "[I") ∈ wsX3_caseOf := List.mem_cons_of_mem _ mvW9_479
theorem f9_wsX3_caseOf_779 : (Cond.fieldLink RX3 51 "TurnedFloors$Paper" "floors" "I") ∈ wsX3_caseOf := List.mem_cons_of_mem _ mvW9_463
set_option maxHeartbeats 4000000 in
set_option maxRecDepth 100000 in
theorem WX3_lay_s32_s2_s20_163 {p : Program} {l : Launch} {e : Env} {s : State} {m : MethodId} {args : Array Value} {below : List Frame} {meth : Method} {c : Code} {D : va_G} {ty : Nat → ClassId} {eo : Nat → Nat} {A : Nat → Prop} {ad : Nat → Nat} {o2 : dK} {nc ns : Nat} {ad0 : Nat → Nat} (hag : dAg ad0 ad) (C : dc_C p s m args meth c cX3_lay none 7 RX3 wsX3_lay D ty eo A) {k99 : dK → Int32 → Int32 → Option (dK)} (hk99 : ∀ (q : dK) (x5 : Int32) (x6 : Int32) (H : Heap) (locs : List Loc) (ls : Array Slot), k99 q x5 x6 = some o2 → va_P D vwCl (wF ty ad q) H → va_D A (wF ty ad q) → va_S A s.heap H locs → lv_has ls 7 [(0, .ref (ad 32)), (1, .ref (ad 2)), (2, .ref (ad 20)), (5, .int x5), (6, .int x6)] → W p l e ({ frames := 4, cells := nc, slots := ns, locals := 113 } : Room) s m args below meth c H locs nc ns (MQ below (va_Qv (fun (u : va_W) => ∃ ad9 : Nat → Nat, dAg ad0 ad9 ∧ wF ty ad9 o2 = u) (kz_B D ty A) A) args s nc ns A) (F0 m 99 ls [])) (q : dK) (x6 : Int32) (y0 : Int32) (y1 : Int32) (H : Heap) (locs : List Loc) (ls : Array Slot) (h : zX3_lay_s32_s2_s20_163 nc ns k99 q x6 y0 y1 = some o2) (hP : va_P D vwCl (wF ty ad q) H) (hD : va_D A (wF ty ad q)) (hS : va_S A s.heap H locs) (hl : lv_has ls 7 [(0, .ref (ad 32)), (1, .ref (ad 2)), (2, .ref (ad 20)), (6, .int x6)]) : W p l e ({ frames := 4, cells := nc, slots := ns, locals := 113 } : Room) s m args below meth c H locs nc ns (MQ below (va_Qv (fun (u : va_W) => ∃ ad9 : Nat → Nat, dAg ad0 ad9 ∧ wF ty ad9 o2 = u) (kz_B D ty A) A) args s nc ns A) (F0 m 163 ls [.int y0, .int y1]) := by
  have C0 := C
  obtain ⟨hx, hb, hr, hts, hown, hlocks, hml, hK, hN, hE, hA⟩ := C
  unfold zX3_lay_s32_s2_s20_163 at h
  refine lv_ior hx hb dX3_lay_163 ?_
  refine lv_istore (lv' := [(5, .int (y1 ||| y0)), (0, .ref (ad 32)), (1, .ref (ad 2)), (2, .ref (ad 20)), (6, .int x6)]) hx hb dX3_lay_164 hl (by decide) rfl (fun ls hl => ?_)
  refine lv_iinc (v := x6 + 1) (lv' := [(6, .int (x6 + 1)), (5, .int (y1 ||| y0)), (0, .ref (ad 32)), (1, .ref (ad 2)), (2, .ref (ad 20))]) hx hb dX3_lay_166 hl (k := 4) rfl rfl (by decide) rfl (fun ls hl => ?_)
  refine lv_goto (tgt := 99) hx hb dX3_lay_169 (by decide) ?_
  exact hk99 _ _ _ _ _ _ h hP hD hS (lv_sub hl [2, 3, 4, 1, 0] rfl)
set_option maxHeartbeats 4000000 in
set_option maxRecDepth 100000 in
theorem WX3_lay_s32_s2_s20_137 {p : Program} {l : Launch} {e : Env} {s : State} {m : MethodId} {args : Array Value} {below : List Frame} {meth : Method} {c : Code} {D : va_G} {ty : Nat → ClassId} {eo : Nat → Nat} {A : Nat → Prop} {ad : Nat → Nat} {o2 : dK} {nc ns : Nat} {ad0 : Nat → Nat} (hag : dAg ad0 ad) (C : dc_C p s m args meth c cX3_lay none 7 RX3 wsX3_lay D ty eo A) {k99 : dK → Int32 → Int32 → Option (dK)} (hk99 : ∀ (q : dK) (x5 : Int32) (x6 : Int32) (H : Heap) (locs : List Loc) (ls : Array Slot), k99 q x5 x6 = some o2 → va_P D vwCl (wF ty ad q) H → va_D A (wF ty ad q) → va_S A s.heap H locs → lv_has ls 7 [(0, .ref (ad 32)), (1, .ref (ad 2)), (2, .ref (ad 20)), (5, .int x5), (6, .int x6)] → W p l e ({ frames := 4, cells := nc, slots := ns, locals := 113 } : Room) s m args below meth c H locs nc ns (MQ below (va_Qv (fun (u : va_W) => ∃ ad9 : Nat → Nat, dAg ad0 ad9 ∧ wF ty ad9 o2 = u) (kz_B D ty A) A) args s nc ns A) (F0 m 99 ls [])) (q : dK) (x5 : Int32) (x6 : Int32) (y0 : Int32) (y1 : Int32) (H : Heap) (locs : List Loc) (ls : Array Slot) (h : zX3_lay_s32_s2_s20_137 nc ns k99 q x5 x6 y0 y1 = some o2) (hP : va_P D vwCl (wF ty ad q) H) (hD : va_D A (wF ty ad q)) (hS : va_S A s.heap H locs) (hl : lv_has ls 7 [(0, .ref (ad 32)), (1, .ref (ad 2)), (2, .ref (ad 20)), (5, .int x5), (6, .int x6)]) : W p l e ({ frames := 4, cells := nc, slots := ns, locals := 113 } : Room) s m args below meth c H locs nc ns (MQ below (va_Qv (fun (u : va_W) => ∃ ad9 : Nat → Nat, dAg ad0 ad9 ∧ wF ty ad9 o2 = u) (kz_B D ty A) A) args s nc ns A) (F0 m 137 ls [.int y0, .int y1, .ref (ad 34)]) := by
  have C0 := C
  obtain ⟨hx, hb, hr, hts, hown, hlocks, hml, hK, hN, hE, hA⟩ := C
  unfold zX3_lay_s32_s2_s20_137 at h
  obtain ⟨g1, h⟩ := dG_some h
  refine va_iast hx hb hK hP hD hS 34 0 rfl rfl (dg_in g1) dX3_lay_137 (fun H locs hp hd hs => ?_)
  obtain ⟨q2, eq2, h⟩ := dL_some h
  refine kz_re (w2 := wF ty ad q2) hp hd hs (by rw [← eq2]; exact wF_a34 ty ad q (Int32.toNatClampNeg y1) y0) ?_
  clear hp hd hs hP hD hS
  intro hP hD hS
  refine lv_iload hx hb dX3_lay_138 (lv_at hl 3 rfl) ?_
  refine lv_iload hx hb dX3_lay_140 (lv_at hl 4 rfl) ?_
  refine lv_aload_n hx hb dX3_lay_142 rfl (lv_at hl 0 rfl) ?_
  refine va_get (D := D) (ci := 3) (v := .int (q2.1 32 13)) (C := RX3) (T := TX3) (N := 20) hx hb hts u9_wsX3_lay_X3 hown hK hP 32 rfl rfl 13 (by decide) (hts (.fieldLink RX3 51 "TurnedFloors$Paper" "floors" "I") f9_wsX3_lay_750) (fun _ h9 => h9) rfl dX3_lay_143 ?_
  refine lv_icmp_ge (tgt := 162) hx hb dX3_lay_146 (by decide) (fun c9 => ?_) (fun c9 => ?_)
  · rw [if_pos c9] at h
    refine lv_iconst (v := 0) hx hb dX3_lay_162 (by decide) ?_
    exact WX3_lay_s32_s2_s20_163 hag C0 hk99 _ _ _ _ _ _ _ h hP hD hS (lv_sub hl [0, 1, 2, 4] rfl)
  · rw [if_neg c9] at h
    refine lv_aload_n hx hb dX3_lay_149 rfl (lv_at hl 1 rfl) ?_
    refine va_getN (D := D) (ci := 8) (v := .ref (ad 4)) (C := RX8) (T := TX8) (N := 5) hx hb hts u9_wsX3_lay_X8 hown hK hP 2 rfl rfl 1 (by decide) (hN.use (.fieldLinkNest "TurnedFloors$Paper" 93 "TurnedFloors$Tower" "head" "[I" "TurnedFloors") nn9_32) (fun _ h9 => h9) rfl dX3_lay_150 ?_
    refine lv_iload hx hb dX3_lay_153 (lv_at hl 4 rfl) ?_
    obtain ⟨g3, h⟩ := dG_some h
    refine va_iald hx hb hK hP 4 0 rfl rfl (dg_in g3) dX3_lay_155 ?_
    obtain ⟨v4, ev4, h⟩ := dL_some h
    refine kz_topi v4 ev4 ?_
    refine lv_iload hx hb dX3_lay_156 (lv_at hl 4 rfl) ?_
    refine lv_ishl hx hb dX3_lay_158 ?_
    refine lv_goto (tgt := 163) hx hb dX3_lay_159 (by decide) ?_
    exact WX3_lay_s32_s2_s20_163 hag C0 hk99 _ _ _ _ _ _ _ h hP hD hS (lv_sub hl [0, 1, 2, 4] rfl)
set_option maxHeartbeats 4000000 in
set_option maxRecDepth 100000 in
theorem WX3_lay_s32_s2_s20_99b {p : Program} {l : Launch} {e : Env} {s : State} {m : MethodId} {args : Array Value} {below : List Frame} {meth : Method} {c : Code} {D : va_G} {ty : Nat → ClassId} {eo : Nat → Nat} {A : Nat → Prop} {ad : Nat → Nat} {o2 : dK} {nc ns : Nat} {ad0 : Nat → Nat} (hag : dAg ad0 ad) (C : dc_C p s m args meth c cX3_lay none 7 RX3 wsX3_lay D ty eo A) {k99 : dK → Int32 → Int32 → Option (dK)} (hk99 : ∀ (q : dK) (x5 : Int32) (x6 : Int32) (H : Heap) (locs : List Loc) (ls : Array Slot), k99 q x5 x6 = some o2 → va_P D vwCl (wF ty ad q) H → va_D A (wF ty ad q) → va_S A s.heap H locs → lv_has ls 7 [(0, .ref (ad 32)), (1, .ref (ad 2)), (2, .ref (ad 20)), (5, .int x5), (6, .int x6)] → W p l e ({ frames := 4, cells := nc, slots := ns, locals := 113 } : Room) s m args below meth c H locs nc ns (MQ below (va_Qv (fun (u : va_W) => ∃ ad9 : Nat → Nat, dAg ad0 ad9 ∧ wF ty ad9 o2 = u) (kz_B D ty A) A) args s nc ns A) (F0 m 99 ls [])) (q : dK) (x5 : Int32) (x6 : Int32) (H : Heap) (locs : List Loc) (ls : Array Slot) (h : zX3_lay_s32_s2_s20_99b nc ns k99 q x5 x6 = some o2) (hP : va_P D vwCl (wF ty ad q) H) (hD : va_D A (wF ty ad q)) (hS : va_S A s.heap H locs) (hl : lv_has ls 7 [(0, .ref (ad 32)), (1, .ref (ad 2)), (2, .ref (ad 20)), (5, .int x5), (6, .int x6)]) : W p l e ({ frames := 4, cells := nc, slots := ns, locals := 113 } : Room) s m args below meth c H locs nc ns (MQ below (va_Qv (fun (u : va_W) => ∃ ad9 : Nat → Nat, dAg ad0 ad9 ∧ wF ty ad9 o2 = u) (kz_B D ty A) A) args s nc ns A) (F0 m 99 ls []) := by
  have C0 := C
  obtain ⟨hx, hb, hr, hts, hown, hlocks, hml, hK, hN, hE, hA⟩ := C
  unfold zX3_lay_s32_s2_s20_99b at h
  refine lv_iload hx hb dX3_lay_99 (lv_at hl 4 rfl) ?_
  refine lv_bipush (v := 6) hx hb dX3_lay_101 (by decide) ?_
  refine lv_icmp_ge (tgt := 172) hx hb dX3_lay_103 (by decide) (fun c9 => ?_) (fun c9 => ?_)
  · rw [if_pos c9] at h
    refine lv_aload_n hx hb dX3_lay_172 rfl (lv_at hl 0 rfl) ?_
    refine lv_aload_n hx hb dX3_lay_173 rfl (lv_at hl 0 rfl) ?_
    refine va_get (D := D) (ci := 3) (v := .int (q.1 32 14)) (C := RX3) (T := TX3) (N := 20) hx hb hts u9_wsX3_lay_X3 hown hK hP 32 rfl rfl 14 (by decide) (hts (.fieldLink RX3 55 "TurnedFloors$Paper" "size" "I") f9_wsX3_lay_751) (fun _ h9 => h9) rfl dX3_lay_174 ?_
    refine lv_iconst (v := 1) hx hb dX3_lay_177 (by decide) ?_
    refine lv_isub hx hb dX3_lay_178 ?_
    refine lv_aload_n hx hb dX3_lay_179 rfl (lv_at hl 0 rfl) ?_
    obtain ⟨r1, q3, h2, h⟩ := dB_some h
    refine dw_ki (va_runV (As := []) (rest := [.int ((q.1 32 14) - 1 : Int32), .ref (ad 32)]) ⟨hx, hb, hml, hown, hts⟩ (qX3_numberOfOrder_s32 l D ty eo _ ad q  r1 q3 h2) (cwV 0 hts gX3_lay_X3_numberOfOrder rfl rfl rfl hd_X3_numberOfOrder_v ⟨Nat.le_of_ble_eq_true rfl, Nat.le_of_ble_eq_true rfl⟩) (pvF_3_32 hK hN hE hP hD hS hA) rfl rfl hl.1 rfl (lv_room (Nat.le_of_ble_eq_true rfl)) dX3_lay_180 ⟨Nat.le_refl _, Nat.le_refl _⟩) hD hS hA (fun r9 u9 H locs hw hp hd hs => ?_)
    clear hP hD hS
    obtain ⟨rfl, rfl⟩ := hw
    have hP := hp; have hD := hd; have hS := hs; clear hp hd hs
    refine lv_aload_n hx hb dX3_lay_183 rfl (lv_at hl 0 rfl) ?_
    refine va_get (D := D) (ci := 3) (v := .int (q3.1 32 13)) (C := RX3) (T := TX3) (N := 20) hx hb hts u9_wsX3_lay_X3 hown hK hP 32 rfl rfl 13 (by decide) (hts (.fieldLink RX3 51 "TurnedFloors$Paper" "floors" "I") f9_wsX3_lay_750) (fun _ h9 => h9) rfl dX3_lay_184 ?_
    refine lv_ishl hx hb dX3_lay_187 ?_
    refine lv_iload hx hb dX3_lay_188 (lv_at hl 3 rfl) ?_
    refine lv_ior hx hb dX3_lay_190 ?_
    refine va_mmin hx hb (hml.trans hl.1.symm) hown (hts (.methodLink RX3 100 Lib.Math.min.name) f9_wsX3_lay_752) (hts (.static Lib.Math.min.name) f9_wsX3_lay_753) (hts (.initialized "java/lang/Math") f9_wsX3_lay_754) (hts (.code Lib.Math.min.name Lib.Math.min.code 2 (some .int)) f9_wsX3_lay_755) (Nat.le_of_ble_eq_true rfl) (Nat.le_of_ble_eq_true rfl) (Nat.le_refl _) (Nat.le_refl _) dX3_lay_191 ?_
    refine kz_topi (mnI ((q.1 32 14) - 1 : Int32) ((r1 <<< ((q3.1 32 13 : Int32) &&& 31)) ||| x5)) rfl ?_
    refine va_put (D := D) (ci := 3) (v := .int (mnI ((q.1 32 14) - 1 : Int32) ((r1 <<< ((q3.1 32 13 : Int32) &&& 31)) ||| x5))) (ty := .int) (C := RX3) (T := TX3) (N := 20) hx hb hts u9_wsX3_lay_X3 tyX3 tyX3_ok nmX3 hown hK hP hD hS 32 rfl rfl 15 (by decide) (hts (.fieldLink RX3 58 "TurnedFloors$Paper" "start" "I") f9_wsX3_lay_756) (fun _ h9 => h9) rfl (by decide +kernel) rfl rfl (Nat.le_of_ble_eq_true rfl) dX3_lay_194 (fun H locs hp hd hs => ?_)
    obtain ⟨q4, eq4, h⟩ := dL_some h
    refine kz_re (w2 := wF ty ad q4) hp hd hs (by rw [← eq4]; exact wF_f32_15 ty ad q3 (mnI ((q.1 32 14) - 1 : Int32) ((r1 <<< ((q3.1 32 13 : Int32) &&& 31)) ||| x5))) ?_
    clear hp hd hs hP hD hS
    intro hP hD hS
    refine lv_aload_n hx hb dX3_lay_197 rfl (lv_at hl 0 rfl) ?_
    refine lv_aload_n hx hb dX3_lay_198 rfl (lv_at hl 2 rfl) ?_
    refine lv_aload_n hx hb dX3_lay_199 rfl (lv_at hl 1 rfl) ?_
    refine va_getN (D := D) (ci := 8) (v := .int (q4.1 2 4)) (C := RX8) (T := TX8) (N := 5) hx hb hts u9_wsX3_lay_X8 hown hK hP 2 rfl rfl 4 (by decide) (hN.use (.fieldLinkNest "TurnedFloors$Paper" 106 "TurnedFloors$Tower" "year" "I" "TurnedFloors") nn9_33) (fun _ h9 => h9) rfl dX3_lay_200 ?_
    refine lv_iconst (v := 1) hx hb dX3_lay_203 (by decide) ?_
    obtain ⟨q7, h6, h⟩ := dV_some h
    refine dw_kv (va_runV (As := [.ref (ad 20), .int (q4.1 2 4), .int 1]) (rest := []) ⟨hx, hb, hml, hown, hts⟩ (qX3_askCases_s32_s20_c1 l D ty eo _ ad q4 (q4.1 2 4) q7 h6) (cwV 3 hts gX3_lay_X3_askCases rfl rfl rfl hd_X3_askCases_v ⟨Nat.le_of_ble_eq_true rfl, Nat.le_of_ble_eq_true rfl⟩) (pvF_3_32 hK hN hE hP hD hS hA) rfl rfl hl.1 rfl (lv_room (Nat.le_of_ble_eq_true rfl)) dX3_lay_204 ⟨Nat.le_refl _, Nat.le_refl _⟩) hD hS hA (fun u9 H locs hw hp hd hs => ?_)
    clear hP hD hS
    obtain rfl := hw
    have hP := hp; have hD := hd; have hS := hs; clear hp hd hs
    cases h
    exact kz_vret hx hb hr hlocks hP hK hD hS dX3_lay_207 ⟨ad, hag, rfl⟩
  · rw [if_neg c9] at h
    refine lv_aload_n hx hb dX3_lay_106 rfl (lv_at hl 0 rfl) ?_
    refine va_get (D := D) (ci := 3) (v := .ref (ad 34)) (C := RX3) (T := TX3) (N := 20) hx hb hts u9_wsX3_lay_X3 hown hK hP 32 rfl rfl 1 (by decide) (hts (.fieldLink RX3 15 "TurnedFloors$Paper" "digits" "[I") f9_wsX3_lay_757) (fun _ h9 => h9) rfl dX3_lay_107 ?_
    refine lv_iload hx hb dX3_lay_110 (lv_at hl 4 rfl) ?_
    refine lv_iload hx hb dX3_lay_112 (lv_at hl 4 rfl) ?_
    refine lv_aload_n hx hb dX3_lay_114 rfl (lv_at hl 0 rfl) ?_
    refine va_get (D := D) (ci := 3) (v := .int (q.1 32 13)) (C := RX3) (T := TX3) (N := 20) hx hb hts u9_wsX3_lay_X3 hown hK hP 32 rfl rfl 13 (by decide) (hts (.fieldLink RX3 51 "TurnedFloors$Paper" "floors" "I") f9_wsX3_lay_750) (fun _ h9 => h9) rfl dX3_lay_115 ?_
    refine lv_icmp_ge (tgt := 135) hx hb dX3_lay_118 (by decide) (fun c9 => ?_) (fun c9 => ?_)
    · rw [if_pos c9] at h
      refine lv_iload hx hb dX3_lay_135 (lv_at hl 4 rfl) ?_
      exact WX3_lay_s32_s2_s20_137 hag C0 hk99 _ _ _ _ _ _ _ _ h hP hD hS (lv_sub hl [0, 1, 2, 3, 4] rfl)
    · rw [if_neg c9] at h
      refine lv_aload_n hx hb dX3_lay_121 rfl (lv_at hl 0 rfl) ?_
      refine lv_aload_n hx hb dX3_lay_122 rfl (lv_at hl 1 rfl) ?_
      refine va_getN (D := D) (ci := 8) (v := .ref (ad 3)) (C := RX8) (T := TX8) (N := 5) hx hb hts u9_wsX3_lay_X8 hown hK hP 2 rfl rfl 0 (by decide) (hN.use (.fieldLinkNest "TurnedFloors$Paper" 86 "TurnedFloors$Tower" "rank" "[I" "TurnedFloors") nn9_34) (fun _ h9 => h9) rfl dX3_lay_123 ?_
      refine lv_iload hx hb dX3_lay_126 (lv_at hl 4 rfl) ?_
      obtain ⟨g8, h⟩ := dG_some h
      refine va_iald hx hb hK hP 3 0 rfl rfl (dg_in g8) dX3_lay_128 ?_
      obtain ⟨v9, ev9, h⟩ := dL_some h
      refine kz_topi v9 ev9 ?_
      obtain ⟨r10, q12, h11, h⟩ := dB_some h
      refine dw_ki (va_runV (As := [.int v9]) (rest := [.int x6, .ref (ad 34)]) ⟨hx, hb, hml, hown, hts⟩ (qX3_indexOfRank_s32 l D ty eo _ ad q v9 r10 q12 h11) (cwV 1 hts gX3_lay_X3_indexOfRank rfl rfl rfl hd_X3_indexOfRank_v ⟨Nat.le_of_ble_eq_true rfl, Nat.le_of_ble_eq_true rfl⟩) (pvF_3_32 hK hN hE hP hD hS hA) rfl rfl hl.1 rfl (lv_room (Nat.le_of_ble_eq_true rfl)) dX3_lay_129 ⟨Nat.le_refl _, Nat.le_refl _⟩) hD hS hA (fun r9 u9 H locs hw hp hd hs => ?_)
      clear hP hD hS
      obtain ⟨rfl, rfl⟩ := hw
      have hP := hp; have hD := hd; have hS := hs; clear hp hd hs
      refine lv_goto (tgt := 137) hx hb dX3_lay_132 (by decide) ?_
      exact WX3_lay_s32_s2_s20_137 hag C0 hk99 _ _ _ _ _ _ _ _ h hP hD hS (lv_sub hl [0, 1, 2, 3, 4] rfl)
set_option maxHeartbeats 4000000 in
set_option maxRecDepth 100000 in
theorem WX3_lay_s32_s2_s20_99 {p : Program} {l : Launch} {e : Env} {s : State} {m : MethodId} {args : Array Value} {below : List Frame} {meth : Method} {c : Code} {D : va_G} {ty : Nat → ClassId} {eo : Nat → Nat} {A : Nat → Prop} {ad : Nat → Nat} {o2 : dK} {nc ns : Nat} {ad0 : Nat → Nat} (hag : dAg ad0 ad) (C : dc_C p s m args meth c cX3_lay none 7 RX3 wsX3_lay D ty eo A)   (n : Nat) (q : dK) (x5 : Int32) (x6 : Int32) (H : Heap) (locs : List Loc) (ls : Array Slot) (h : zX3_lay_s32_s2_s20_99 nc ns  n q x5 x6 = some o2) (hP : va_P D vwCl (wF ty ad q) H) (hD : va_D A (wF ty ad q)) (hS : va_S A s.heap H locs) (hl : lv_has ls 7 [(0, .ref (ad 32)), (1, .ref (ad 2)), (2, .ref (ad 20)), (5, .int x5), (6, .int x6)]) : W p l e ({ frames := 4, cells := nc, slots := ns, locals := 113 } : Room) s m args below meth c H locs nc ns (MQ below (va_Qv (fun (u : va_W) => ∃ ad9 : Nat → Nat, dAg ad0 ad9 ∧ wF ty ad9 o2 = u) (kz_B D ty A) A) args s nc ns A) (F0 m 99 ls []) := by
  exact dFix_W (F := fun k (a : dK × Int32 × Int32) => zX3_lay_s32_s2_s20_99b nc ns  (fun q x5 x6 => k (q, x5, x6)) a.1 a.2.1 a.2.2) (o := o2) (P := fun (a : dK × Int32 × Int32) H locs ls => va_P D vwCl (wF ty ad a.1) H ∧ va_D A (wF ty ad a.1) ∧ va_S A s.heap H locs ∧ lv_has ls 7 [(0, .ref (ad 32)), (1, .ref (ad 2)), (2, .ref (ad 20)), (5, .int a.2.1), (6, .int a.2.2)]) (G := fun H locs ls => W p l e ({ frames := 4, cells := nc, slots := ns, locals := 113 } : Room) s m args below meth c H locs nc ns (MQ below (va_Qv (fun (u : va_W) => ∃ ad9 : Nat → Nat, dAg ad0 ad9 ∧ wF ty ad9 o2 = u) (kz_B D ty A) A) args s nc ns A) (F0 m 99 ls []))
    (fun k hk a H locs ls h hp => WX3_lay_s32_s2_s20_99b hag C  (fun q x5 x6 H locs ls h h1 h2 h3 h4 => hk (q, x5, x6) H locs ls h ⟨h1, h2, h3, h4⟩) a.1 a.2.1 a.2.2 H locs ls h hp.1 hp.2.1 hp.2.2.1 hp.2.2.2) n (q, x5, x6) H locs ls h ⟨hP, hD, hS, hl⟩
set_option maxHeartbeats 4000000 in
set_option maxRecDepth 100000 in
theorem WX3_lay_s32_s2_s20_87 {p : Program} {l : Launch} {e : Env} {s : State} {m : MethodId} {args : Array Value} {below : List Frame} {meth : Method} {c : Code} {D : va_G} {ty : Nat → ClassId} {eo : Nat → Nat} {A : Nat → Prop} {ad : Nat → Nat} {o2 : dK} {nc ns : Nat} {ad0 : Nat → Nat} (hag : dAg ad0 ad) (C : dc_C p s m args meth c cX3_lay none 7 RX3 wsX3_lay D ty eo A) {k52 : dK → Int32 → Int32 → Option (dK)} (hk52 : ∀ (q : dK) (x4 : Int32) (x5 : Int32) (H : Heap) (locs : List Loc) (ls : Array Slot), k52 q x4 x5 = some o2 → va_P D vwCl (wF ty ad q) H → va_D A (wF ty ad q) → va_S A s.heap H locs → lv_has ls 7 [(0, .ref (ad 32)), (1, .ref (ad 2)), (2, .ref (ad 20)), (4, .int x4), (5, .int x5)] → W p l e ({ frames := 4, cells := nc, slots := ns, locals := 113 } : Room) s m args below meth c H locs nc ns (MQ below (va_Qv (fun (u : va_W) => ∃ ad9 : Nat → Nat, dAg ad0 ad9 ∧ wF ty ad9 o2 = u) (kz_B D ty A) A) args s nc ns A) (F0 m 52 ls [])) (q : dK) (x4 : Int32) (x5 : Int32) (H : Heap) (locs : List Loc) (ls : Array Slot) (h : zX3_lay_s32_s2_s20_87 nc ns k52 q x4 x5 = some o2) (hP : va_P D vwCl (wF ty ad q) H) (hD : va_D A (wF ty ad q)) (hS : va_S A s.heap H locs) (hl : lv_has ls 7 [(0, .ref (ad 32)), (1, .ref (ad 2)), (2, .ref (ad 20)), (4, .int x4), (5, .int x5)]) : W p l e ({ frames := 4, cells := nc, slots := ns, locals := 113 } : Room) s m args below meth c H locs nc ns (MQ below (va_Qv (fun (u : va_W) => ∃ ad9 : Nat → Nat, dAg ad0 ad9 ∧ wF ty ad9 o2 = u) (kz_B D ty A) A) args s nc ns A) (F0 m 87 ls []) := by
  have C0 := C
  obtain ⟨hx, hb, hr, hts, hown, hlocks, hml, hK, hN, hE, hA⟩ := C
  unfold zX3_lay_s32_s2_s20_87 at h
  refine lv_iinc (v := x5 + 1) (lv' := [(5, .int (x5 + 1)), (0, .ref (ad 32)), (1, .ref (ad 2)), (2, .ref (ad 20)), (4, .int x4)]) hx hb dX3_lay_87 hl (k := 4) rfl rfl (by decide) rfl (fun ls hl => ?_)
  refine lv_goto (tgt := 52) hx hb dX3_lay_90 (by decide) ?_
  exact hk52 _ _ _ _ _ _ h hP hD hS (lv_sub hl [1, 2, 3, 4, 0] rfl)
set_option maxHeartbeats 4000000 in
set_option maxRecDepth 100000 in
theorem WX3_lay_s32_s2_s20_52b {p : Program} {l : Launch} {e : Env} {s : State} {m : MethodId} {args : Array Value} {below : List Frame} {meth : Method} {c : Code} {D : va_G} {ty : Nat → ClassId} {eo : Nat → Nat} {A : Nat → Prop} {ad : Nat → Nat} {o2 : dK} {nc ns : Nat} {ad0 : Nat → Nat} (hag : dAg ad0 ad) (C : dc_C p s m args meth c cX3_lay none 7 RX3 wsX3_lay D ty eo A) {k52 : dK → Int32 → Int32 → Option (dK)} (hk52 : ∀ (q : dK) (x4 : Int32) (x5 : Int32) (H : Heap) (locs : List Loc) (ls : Array Slot), k52 q x4 x5 = some o2 → va_P D vwCl (wF ty ad q) H → va_D A (wF ty ad q) → va_S A s.heap H locs → lv_has ls 7 [(0, .ref (ad 32)), (1, .ref (ad 2)), (2, .ref (ad 20)), (4, .int x4), (5, .int x5)] → W p l e ({ frames := 4, cells := nc, slots := ns, locals := 113 } : Room) s m args below meth c H locs nc ns (MQ below (va_Qv (fun (u : va_W) => ∃ ad9 : Nat → Nat, dAg ad0 ad9 ∧ wF ty ad9 o2 = u) (kz_B D ty A) A) args s nc ns A) (F0 m 52 ls [])) (q : dK) (x4 : Int32) (x5 : Int32) (H : Heap) (locs : List Loc) (ls : Array Slot) (h : zX3_lay_s32_s2_s20_52b nc ns k52 q x4 x5 = some o2) (hP : va_P D vwCl (wF ty ad q) H) (hD : va_D A (wF ty ad q)) (hS : va_S A s.heap H locs) (hl : lv_has ls 7 [(0, .ref (ad 32)), (1, .ref (ad 2)), (2, .ref (ad 20)), (4, .int x4), (5, .int x5)]) : W p l e ({ frames := 4, cells := nc, slots := ns, locals := 113 } : Room) s m args below meth c H locs nc ns (MQ below (va_Qv (fun (u : va_W) => ∃ ad9 : Nat → Nat, dAg ad0 ad9 ∧ wF ty ad9 o2 = u) (kz_B D ty A) A) args s nc ns A) (F0 m 52 ls []) := by
  have C0 := C
  obtain ⟨hx, hb, hr, hts, hown, hlocks, hml, hK, hN, hE, hA⟩ := C
  unfold zX3_lay_s32_s2_s20_52b at h
  refine lv_iload hx hb dX3_lay_52 (lv_at hl 4 rfl) ?_
  refine lv_bipush (v := 6) hx hb dX3_lay_54 (by decide) ?_
  refine lv_icmp_ge (tgt := 93) hx hb dX3_lay_56 (by decide) (fun c9 => ?_) (fun c9 => ?_)
  · rw [if_pos c9] at h
    refine lv_iconst (v := 0) hx hb dX3_lay_93 (by decide) ?_
    refine lv_istore (lv' := [(5, .int 0), (0, .ref (ad 32)), (1, .ref (ad 2)), (2, .ref (ad 20)), (4, .int x4)]) hx hb dX3_lay_94 hl (by decide) rfl (fun ls hl => ?_)
    refine lv_iconst (v := 0) hx hb dX3_lay_96 (by decide) ?_
    refine lv_istore (lv' := [(6, .int 0), (5, .int 0), (0, .ref (ad 32)), (1, .ref (ad 2)), (2, .ref (ad 20)), (4, .int x4)]) hx hb dX3_lay_97 hl (by decide) rfl (fun ls hl => ?_)
    exact WX3_lay_s32_s2_s20_99 hag C0  _ _ _ _ _ _ _ h hP hD hS (lv_sub hl [2, 3, 4, 1, 0] rfl)
  · rw [if_neg c9] at h
    refine lv_aload_n hx hb dX3_lay_59 rfl (lv_at hl 1 rfl) ?_
    refine lv_iload hx hb dX3_lay_60 (lv_at hl 4 rfl) ?_
    obtain ⟨r1, q3, h2, h⟩ := dB_some h
    refine dw_ki (va_runV (As := [.int x5]) (rest := []) ⟨hx, hb, hml, hown, hts⟩ (qX8_has_s2 l D ty eo _ ad q x5 r1 q3 h2) (cwV 1 hts gX3_lay_X8_has rfl rfl rfl hd_X8_has_v ⟨Nat.le_of_ble_eq_true rfl, Nat.le_of_ble_eq_true rfl⟩) (pvF_8_2 hK hN hE hP hD hS hA) rfl rfl hl.1 rfl (lv_room (Nat.le_of_ble_eq_true rfl)) dX3_lay_62 ⟨Nat.le_refl _, Nat.le_refl _⟩) hD hS hA (fun r9 u9 H locs hw hp hd hs => ?_)
    clear hP hD hS
    obtain ⟨rfl, rfl⟩ := hw
    have hP := hp; have hD := hd; have hS := hs; clear hp hd hs
    refine lv_if_eq (tgt := 87) hx hb dX3_lay_65 (by decide) (fun c9 => ?_) (fun c9 => ?_)
    · rw [if_pos c9] at h
      exact WX3_lay_s32_s2_s20_87 hag C0 hk52 _ _ _ _ _ _ h hP hD hS (lv_sub hl [0, 1, 2, 3, 4] rfl)
    · rw [if_neg c9] at h
      refine lv_iload hx hb dX3_lay_68 (lv_at hl 3 rfl) ?_
      refine lv_bipush (v := 6) hx hb dX3_lay_70 (by decide) ?_
      refine lv_icmp_ge (tgt := 87) hx hb dX3_lay_72 (by decide) (fun c9 => ?_) (fun c9 => ?_)
      · rw [if_pos c9] at h
        exact WX3_lay_s32_s2_s20_87 hag C0 hk52 _ _ _ _ _ _ h hP hD hS (lv_sub hl [0, 1, 2, 3, 4] rfl)
      · rw [if_neg c9] at h
        refine lv_aload_n hx hb dX3_lay_75 rfl (lv_at hl 0 rfl) ?_
        refine va_get (D := D) (ci := 3) (v := .ref (ad 33)) (C := RX3) (T := TX3) (N := 20) hx hb hts u9_wsX3_lay_X3 hown hK hP 32 rfl rfl 0 (by decide) (hts (.fieldLink RX3 9 "TurnedFloors$Paper" "ranks" "[I") f9_wsX3_lay_758) (fun _ h9 => h9) rfl dX3_lay_76 ?_
        refine lv_iload hx hb dX3_lay_79 (lv_at hl 3 rfl) ?_
        refine lv_iload hx hb dX3_lay_81 (lv_at hl 4 rfl) ?_
        obtain ⟨g4, h⟩ := dG_some h
        refine va_iast hx hb hK hP hD hS 33 0 rfl rfl (dg_in g4) dX3_lay_83 (fun H locs hp hd hs => ?_)
        obtain ⟨q5, eq5, h⟩ := dL_some h
        refine kz_re (w2 := wF ty ad q5) hp hd hs (by rw [← eq5]; exact wF_a33 ty ad q3 (Int32.toNatClampNeg x4) x5) ?_
        clear hp hd hs hP hD hS
        intro hP hD hS
        refine lv_iinc (v := x4 + 1) (lv' := [(4, .int (x4 + 1)), (0, .ref (ad 32)), (1, .ref (ad 2)), (2, .ref (ad 20)), (5, .int x5)]) hx hb dX3_lay_84 hl (k := 3) rfl rfl (by decide) rfl (fun ls hl => ?_)
        exact WX3_lay_s32_s2_s20_87 hag C0 hk52 _ _ _ _ _ _ h hP hD hS (lv_sub hl [1, 2, 3, 0, 4] rfl)
set_option maxHeartbeats 4000000 in
set_option maxRecDepth 100000 in
theorem WX3_lay_s32_s2_s20_52 {p : Program} {l : Launch} {e : Env} {s : State} {m : MethodId} {args : Array Value} {below : List Frame} {meth : Method} {c : Code} {D : va_G} {ty : Nat → ClassId} {eo : Nat → Nat} {A : Nat → Prop} {ad : Nat → Nat} {o2 : dK} {nc ns : Nat} {ad0 : Nat → Nat} (hag : dAg ad0 ad) (C : dc_C p s m args meth c cX3_lay none 7 RX3 wsX3_lay D ty eo A)   (n : Nat) (q : dK) (x4 : Int32) (x5 : Int32) (H : Heap) (locs : List Loc) (ls : Array Slot) (h : zX3_lay_s32_s2_s20_52 nc ns  n q x4 x5 = some o2) (hP : va_P D vwCl (wF ty ad q) H) (hD : va_D A (wF ty ad q)) (hS : va_S A s.heap H locs) (hl : lv_has ls 7 [(0, .ref (ad 32)), (1, .ref (ad 2)), (2, .ref (ad 20)), (4, .int x4), (5, .int x5)]) : W p l e ({ frames := 4, cells := nc, slots := ns, locals := 113 } : Room) s m args below meth c H locs nc ns (MQ below (va_Qv (fun (u : va_W) => ∃ ad9 : Nat → Nat, dAg ad0 ad9 ∧ wF ty ad9 o2 = u) (kz_B D ty A) A) args s nc ns A) (F0 m 52 ls []) := by
  exact dFix_W (F := fun k (a : dK × Int32 × Int32) => zX3_lay_s32_s2_s20_52b nc ns  (fun q x4 x5 => k (q, x4, x5)) a.1 a.2.1 a.2.2) (o := o2) (P := fun (a : dK × Int32 × Int32) H locs ls => va_P D vwCl (wF ty ad a.1) H ∧ va_D A (wF ty ad a.1) ∧ va_S A s.heap H locs ∧ lv_has ls 7 [(0, .ref (ad 32)), (1, .ref (ad 2)), (2, .ref (ad 20)), (4, .int a.2.1), (5, .int a.2.2)]) (G := fun H locs ls => W p l e ({ frames := 4, cells := nc, slots := ns, locals := 113 } : Room) s m args below meth c H locs nc ns (MQ below (va_Qv (fun (u : va_W) => ∃ ad9 : Nat → Nat, dAg ad0 ad9 ∧ wF ty ad9 o2 = u) (kz_B D ty A) A) args s nc ns A) (F0 m 52 ls []))
    (fun k hk a H locs ls h hp => WX3_lay_s32_s2_s20_52b hag C  (fun q x4 x5 H locs ls h h1 h2 h3 h4 => hk (q, x4, x5) H locs ls h ⟨h1, h2, h3, h4⟩) a.1 a.2.1 a.2.2 H locs ls h hp.1 hp.2.1 hp.2.2.1 hp.2.2.2) n (q, x4, x5) H locs ls h ⟨hP, hD, hS, hl⟩
set_option maxHeartbeats 4000000 in
set_option maxRecDepth 100000 in
theorem WX3_lay_s32_s2_s20_46 {p : Program} {l : Launch} {e : Env} {s : State} {m : MethodId} {args : Array Value} {below : List Frame} {meth : Method} {c : Code} {D : va_G} {ty : Nat → ClassId} {eo : Nat → Nat} {A : Nat → Prop} {ad : Nat → Nat} {o2 : dK} {nc ns : Nat} {ad0 : Nat → Nat} (hag : dAg ad0 ad) (C : dc_C p s m args meth c cX3_lay none 7 RX3 wsX3_lay D ty eo A)   (q : dK)  (H : Heap) (locs : List Loc) (ls : Array Slot) (h : zX3_lay_s32_s2_s20_46 nc ns  q = some o2) (hP : va_P D vwCl (wF ty ad q) H) (hD : va_D A (wF ty ad q)) (hS : va_S A s.heap H locs) (hl : lv_has ls 7 [(0, .ref (ad 32)), (1, .ref (ad 2)), (2, .ref (ad 20))]) : W p l e ({ frames := 4, cells := nc, slots := ns, locals := 113 } : Room) s m args below meth c H locs nc ns (MQ below (va_Qv (fun (u : va_W) => ∃ ad9 : Nat → Nat, dAg ad0 ad9 ∧ wF ty ad9 o2 = u) (kz_B D ty A) A) args s nc ns A) (F0 m 46 ls []) := by
  have C0 := C
  obtain ⟨hx, hb, hr, hts, hown, hlocks, hml, hK, hN, hE, hA⟩ := C
  unfold zX3_lay_s32_s2_s20_46 at h
  refine lv_iconst (v := 0) hx hb dX3_lay_46 (by decide) ?_
  refine lv_istore (lv' := [(4, .int 0), (0, .ref (ad 32)), (1, .ref (ad 2)), (2, .ref (ad 20))]) hx hb dX3_lay_47 hl (by decide) rfl (fun ls hl => ?_)
  refine lv_iconst (v := 0) hx hb dX3_lay_49 (by decide) ?_
  refine lv_istore (lv' := [(5, .int 0), (4, .int 0), (0, .ref (ad 32)), (1, .ref (ad 2)), (2, .ref (ad 20))]) hx hb dX3_lay_50 hl (by decide) rfl (fun ls hl => ?_)
  exact WX3_lay_s32_s2_s20_52 hag C0  _ _ _ _ _ _ _ h hP hD hS (lv_sub hl [2, 3, 4, 1, 0] rfl)
set_option maxHeartbeats 4000000 in
set_option maxRecDepth 100000 in
theorem qX3_lay_s32_s2_s20 (l : Launch) (D : va_G) (ty : Nat → ClassId) (eo : Nat → Nat) (sz : Nat) (ad : Nat → Nat) (nc ns : Nat) (q : dK) (p3 : Int32) (o2 : dK) (h : zX3_lay_s32_s2_s20 nc ns q p3 = some o2) : Met l yX3_lay wsX3_lay ({ frames := 4, cells := nc, slots := ns, locals := 113 } : Room) (va_Pc [.ref (ad 32), .ref (ad 2), .ref (ad 20), .int p3] (kz_pre D ty eo (wF ty ad q) sz)) (va_Qv (fun (u : va_W) => ∃ ad9 : Nat → Nat, dAg ad ad9 ∧ wF ty ad9 o2 = u) (kz_B D ty (va_A (wF ty ad q) sz)) (va_A (wF ty ad q) sz)) nc ns (va_A (wF ty ad q) sz) := by
  have hag : dAg ad ad := fun _ _ => rfl
  refine Met.ofW (cc := cX3_lay) (maxL := 7) (ret := none) (by decide) rfl ?_
  intro p e s m args below meth c s₁ B hml hv
  obtain ⟨rfl, hsz, hP, hK, hD0, hN, hE⟩ := hv
  have hx := B.exec
  have hb := B.bytes
  have hr := B.returns
  have hts := atoms_spec (ws := wsX3_lay) B.pre
  have hown : s.vm.findClass RX3 = some m.cls := findClass_of_methodNamed B.named
  have hlocks := B.notSynchronized
  subst hsz
  have hD := hD0.self (sz := s.heap.size)
  generalize hAe : va_A (wF ty ad q) s.heap.size = A at hD hE ⊢
  have hA : ∀ q : Nat, s.heap.size ≤ q → A q := fun q h => by rw [← hAe]; exact Or.inr h
  clear hAe
  have hS : va_S A s.heap s.heap [] := va_S.rf
  have hl := lv_entry ([.ref (ad 32), .ref (ad 2), .ref (ad 20), .int p3]) (n := 7) (Nat.le_of_ble_eq_true rfl)
  rw [lg_entry_eq]
  generalize (lg_sl ([.ref (ad 32), .ref (ad 2), .ref (ad 20), .int p3]) ++ List.replicate (7 - (lg_sl ([.ref (ad 32), .ref (ad 2), .ref (ad 20), .int p3])).length) Slot.unset).toArray = ls at hl ⊢
  have hl : lv_has ls 7 [(0, .ref (ad 32)), (1, .ref (ad 2)), (2, .ref (ad 20)), (3, .int p3)] := hl
  have C : dc_C p s m _ meth c cX3_lay none 7 RX3 wsX3_lay D ty eo A := ⟨hx, hb, hr, hts, hown, hlocks, hml, hK, hN, hE, hA⟩
  unfold zX3_lay_s32_s2_s20 at h
  refine lv_aload_n hx hb dX3_lay_0 rfl (lv_at hl 0 rfl) ?_
  refine lv_aload_n hx hb dX3_lay_1 rfl (lv_at hl 1 rfl) ?_
  refine va_getN (D := D) (ci := 8) (v := .int (q.1 2 2)) (C := RX8) (T := TX8) (N := 5) hx hb hts u9_wsX3_lay_X8 hown hK hP 2 rfl rfl 2 (by decide) (hN.use (.fieldLinkNest "TurnedFloors$Paper" 73 "TurnedFloors$Tower" "floors" "I" "TurnedFloors") nn9_35) (fun _ h9 => h9) rfl dX3_lay_2 ?_
  refine va_put (D := D) (ci := 3) (v := .int (q.1 2 2)) (ty := .int) (C := RX3) (T := TX3) (N := 20) hx hb hts u9_wsX3_lay_X3 tyX3 tyX3_ok nmX3 hown hK hP hD hS 32 rfl rfl 13 (by decide) (hts (.fieldLink RX3 51 "TurnedFloors$Paper" "floors" "I") f9_wsX3_lay_750) (fun _ h9 => h9) rfl (by decide +kernel) rfl rfl (Nat.le_of_ble_eq_true rfl) dX3_lay_5 (fun H locs hp hd hs => ?_)
  obtain ⟨q1, eq1, h⟩ := dL_some h
  refine kz_re (w2 := wF ty ad q1) hp hd hs (by rw [← eq1]; exact wF_f32_13 ty ad q (q.1 2 2)) ?_
  clear hp hd hs hP hD hS
  intro hP hD hS
  refine lv_aload_n hx hb dX3_lay_8 rfl (lv_at hl 0 rfl) ?_
  refine lv_iload_n hx hb dX3_lay_9 rfl (lv_at hl 3 rfl) ?_
  refine va_put (D := D) (ci := 3) (v := .int p3) (ty := .int) (C := RX3) (T := TX3) (N := 20) hx hb hts u9_wsX3_lay_X3 tyX3 tyX3_ok nmX3 hown hK hP hD hS 32 rfl rfl 16 (by decide) (hts (.fieldLink RX3 61 "TurnedFloors$Paper" "headsMatter" "I") f9_wsX3_lay_759) (fun _ h9 => h9) rfl (by decide +kernel) rfl rfl (Nat.le_of_ble_eq_true rfl) dX3_lay_10 (fun H locs hp hd hs => ?_)
  obtain ⟨q2, eq2, h⟩ := dL_some h
  refine kz_re (w2 := wF ty ad q2) hp hd hs (by rw [← eq2]; exact wF_f32_16 ty ad q1 p3) ?_
  clear hp hd hs hP hD hS
  intro hP hD hS
  refine lv_aload_n hx hb dX3_lay_13 rfl (lv_at hl 0 rfl) ?_
  refine va_gets hx hb hE.1 hS hown (hts (.fieldLink RX3 76 "TurnedFloors$Paper" "FACTORIALS" "[I") f9_wsX3_lay_760) (fun _ h9 => h9) dX3_lay_14 ?_
  refine lv_aload_n hx hb dX3_lay_17 rfl (lv_at hl 0 rfl) ?_
  refine va_get (D := D) (ci := 3) (v := .int (q2.1 32 13)) (C := RX3) (T := TX3) (N := 20) hx hb hts u9_wsX3_lay_X3 hown hK hP 32 rfl rfl 13 (by decide) (hts (.fieldLink RX3 51 "TurnedFloors$Paper" "floors" "I") f9_wsX3_lay_750) (fun _ h9 => h9) rfl dX3_lay_18 ?_
  obtain ⟨g3, h⟩ := dG_some h
  refine va_ti (v := .int (([1, 1, 2, 6, 24, 120, 720] : List Int32).getD (Int32.toNatClampNeg (q2.1 32 13)) 0)) hx hb hE.2.1 hS (dg_in g3) rfl dX3_lay_21 ?_
  obtain ⟨v4, ev4, h⟩ := dL_some h
  refine kz_topi v4 ev4 ?_
  refine lv_aload_n hx hb dX3_lay_22 rfl (lv_at hl 0 rfl) ?_
  refine va_get (D := D) (ci := 3) (v := .int (q2.1 32 13)) (C := RX3) (T := TX3) (N := 20) hx hb hts u9_wsX3_lay_X3 hown hK hP 32 rfl rfl 13 (by decide) (hts (.fieldLink RX3 51 "TurnedFloors$Paper" "floors" "I") f9_wsX3_lay_750) (fun _ h9 => h9) rfl dX3_lay_23 ?_
  refine lv_ishl hx hb dX3_lay_26 ?_
  refine va_put (D := D) (ci := 3) (v := .int (v4 <<< ((q2.1 32 13 : Int32) &&& 31))) (ty := .int) (C := RX3) (T := TX3) (N := 20) hx hb hts u9_wsX3_lay_X3 tyX3 tyX3_ok nmX3 hown hK hP hD hS 32 rfl rfl 14 (by decide) (hts (.fieldLink RX3 55 "TurnedFloors$Paper" "size" "I") f9_wsX3_lay_751) (fun _ h9 => h9) rfl (by decide +kernel) rfl rfl (Nat.le_of_ble_eq_true rfl) dX3_lay_27 (fun H locs hp hd hs => ?_)
  obtain ⟨q5, eq5, h⟩ := dL_some h
  refine kz_re (w2 := wF ty ad q5) hp hd hs (by rw [← eq5]; exact wF_f32_14 ty ad q2 (v4 <<< ((q2.1 32 13 : Int32) &&& 31))) ?_
  clear hp hd hs hP hD hS
  intro hP hD hS
  refine lv_aload_n hx hb dX3_lay_30 rfl (lv_at hl 0 rfl) ?_
  refine va_get (D := D) (ci := 3) (v := .int (q5.1 32 14)) (C := RX3) (T := TX3) (N := 20) hx hb hts u9_wsX3_lay_X3 hown hK hP 32 rfl rfl 14 (by decide) (hts (.fieldLink RX3 55 "TurnedFloors$Paper" "size" "I") f9_wsX3_lay_751) (fun _ h9 => h9) rfl dX3_lay_31 ?_
  refine lv_aload_n hx hb dX3_lay_34 rfl (lv_at hl 0 rfl) ?_
  refine va_get (D := D) (ci := 3) (v := .ref (ad 42)) (C := RX3) (T := TX3) (N := 20) hx hb hts u9_wsX3_lay_X3 hown hK hP 32 rfl rfl 9 (by decide) (hts (.fieldLink RX3 39 "TurnedFloors$Paper" "toOrder" "[I") f9_wsX3_lay_761) (fun _ h9 => h9) rfl dX3_lay_35 ?_
  refine va_alen (v := Int32.ofNat (Int32.toNatClampNeg (q5.1 32 103))) hx hb hK hP 42 0 rfl rfl rfl dX3_lay_38 ?_
  refine lv_icmp_le (tgt := 46) hx hb dX3_lay_39 (by decide) (fun c9 => ?_) (fun c9 => ?_)
  · rw [if_pos c9] at h
    refine dw_up (c2 := nc) (s2 := ns) (Nat.zero_le _) (Nat.zero_le _) ?_
    exact WX3_lay_s32_s2_s20_46 hag C  _ _ _ _ h hP hD hS (lv_sub hl [0, 1, 2] rfl)
  · rw [if_neg c9] at h
    refine lv_aload_n hx hb dX3_lay_42 rfl (lv_at hl 0 rfl) ?_
    obtain ⟨q8, h7, h⟩ := dV_some h
    refine dw_kv (va_runV (As := []) (rest := []) ⟨hx, hb, hml, hown, hts⟩ (qX3_makeRoom_s32 l D ty eo _ ad nc ns q5  q8 h7) (cwV 0 hts gX3_lay_X3_makeRoom rfl rfl rfl hd_X3_makeRoom_v ⟨Nat.le_of_ble_eq_true rfl, Nat.le_of_ble_eq_true rfl⟩) (pvF_3_32 hK hN hE hP hD hS hA) rfl rfl hl.1 rfl (lv_room (Nat.le_of_ble_eq_true rfl)) dX3_lay_43 ⟨by show 0 + nc ≤ nc; omega, by show 0 + ns ≤ ns; omega⟩) hD hS hA (fun u9 H locs hw hp hd hs => ?_)
    clear hP hD hS
    obtain ⟨ad, hag1, rfl⟩ := hw
    replace hag := dAg_t hag hag1
    rw [dAg_s hag1 32 (by decide)] at hl
    rw [dAg_s hag1 2 (by decide)] at hl
    rw [dAg_s hag1 20 (by decide)] at hl
    clear hag1
    refine dw_up (c2 := nc) (s2 := ns) (by omega) (by omega) ?_
    have hP := hp; have hD := hd; have hS := hs; clear hp hd hs
    exact WX3_lay_s32_s2_s20_46 hag C  _ _ _ _ h hP hD hS (lv_sub hl [0, 1, 2] rfl)

set_option maxHeartbeats 4000000 in
set_option maxRecDepth 100000 in
theorem qX9_spread_s0_s20 (l : Launch) (D : va_G) (ty : Nat → ClassId) (eo : Nat → Nat) (sz : Nat) (ad : Nat → Nat) (nc ns : Nat) (q : dK)  (o2 : dK) (h : zX9_spread_s0_s20 nc ns q = some o2) : Met l yX9_spread wsX9_spread ({ frames := 5, cells := nc, slots := ns, locals := 139 } : Room) (va_Pc [.ref (ad 0), .ref (ad 20)] (kz_pre D ty eo (wF ty ad q) sz)) (va_Qv (fun (u : va_W) => ∃ ad9 : Nat → Nat, dAg ad ad9 ∧ wF ty ad9 o2 = u) (kz_B D ty (va_A (wF ty ad q) sz)) (va_A (wF ty ad q) sz)) nc ns (va_A (wF ty ad q) sz) := by
  have hag : dAg ad ad := fun _ _ => rfl
  refine Met.ofW (cc := cX9_spread) (maxL := 2) (ret := none) (by decide) rfl ?_
  intro p e s m args below meth c s₁ B hml hv
  obtain ⟨rfl, hsz, hP, hK, hD0, hN, hE⟩ := hv
  have hx := B.exec
  have hb := B.bytes
  have hr := B.returns
  have hts := atoms_spec (ws := wsX9_spread) B.pre
  have hown : s.vm.findClass RX9 = some m.cls := findClass_of_methodNamed B.named
  have hlocks := B.notSynchronized
  subst hsz
  have hD := hD0.self (sz := s.heap.size)
  generalize hAe : va_A (wF ty ad q) s.heap.size = A at hD hE ⊢
  have hA : ∀ q : Nat, s.heap.size ≤ q → A q := fun q h => by rw [← hAe]; exact Or.inr h
  clear hAe
  have hS : va_S A s.heap s.heap [] := va_S.rf
  have hl := lv_entry ([.ref (ad 0), .ref (ad 20)]) (n := 2) (Nat.le_of_ble_eq_true rfl)
  rw [lg_entry_eq]
  generalize (lg_sl ([.ref (ad 0), .ref (ad 20)]) ++ List.replicate (2 - (lg_sl ([.ref (ad 0), .ref (ad 20)])).length) Slot.unset).toArray = ls at hl ⊢
  have hl : lv_has ls 2 [(0, .ref (ad 0)), (1, .ref (ad 20))] := hl
  have C : dc_C p s m _ meth c cX9_spread none 2 RX9 wsX9_spread D ty eo A := ⟨hx, hb, hr, hts, hown, hlocks, hml, hK, hN, hE, hA⟩
  unfold zX9_spread_s0_s20 at h
  refine lv_aload_n hx hb dX9_spread_0 rfl (lv_at hl 0 rfl) ?_
  refine va_get (D := D) (ci := 9) (v := .ref (ad 32)) (C := RX9) (T := TX9) (N := 19) hx hb hts u9_wsX9_spread_X9 hown hK hP 0 rfl rfl 10 (by decide) (hts (.fieldLink RX9 80 "TurnedFloors" "paper" "LTurnedFloors$Paper;") f9_wsX9_spread_764) (fun _ h9 => h9) rfl dX9_spread_1 ?_
  refine lv_aload_n hx hb dX9_spread_4 rfl (lv_at hl 0 rfl) ?_
  refine va_get (D := D) (ci := 9) (v := .ref (ad 1)) (C := RX9) (T := TX9) (N := 19) hx hb hts u9_wsX9_spread_X9 hown hK hP 0 rfl rfl 0 (by decide) (hts (.fieldLink RX9 10 "TurnedFloors" "state" "LTurnedFloors$State;") f9_wsX9_spread_765) (fun _ h9 => h9) rfl dX9_spread_5 ?_
  refine va_getN (D := D) (ci := 6) (v := .ref (ad 2)) (C := RX6) (T := TX6) (N := 10) hx hb hts u9_wsX9_spread_X6 hown hK hP 1 rfl rfl 0 (by decide) (hN.use (.fieldLinkNest "TurnedFloors" 122 "TurnedFloors$State" "tower" "LTurnedFloors$Tower;" "TurnedFloors") nn9_0) (fun _ h9 => h9) rfl dX9_spread_8 ?_
  refine lv_aload_n hx hb dX9_spread_11 rfl (lv_at hl 1 rfl) ?_
  refine lv_aload_n hx hb dX9_spread_12 rfl (lv_at hl 0 rfl) ?_
  refine va_get (D := D) (ci := 9) (v := .ref (ad 1)) (C := RX9) (T := TX9) (N := 19) hx hb hts u9_wsX9_spread_X9 hown hK hP 0 rfl rfl 0 (by decide) (hts (.fieldLink RX9 10 "TurnedFloors" "state" "LTurnedFloors$State;") f9_wsX9_spread_765) (fun _ h9 => h9) rfl dX9_spread_13 ?_
  refine va_getN (D := D) (ci := 6) (v := .int (q.1 1 3)) (C := RX6) (T := TX6) (N := 10) hx hb hts u9_wsX9_spread_X6 hown hK hP 1 rfl rfl 3 (by decide) (hN.use (.fieldLinkNest "TurnedFloors" 267 "TurnedFloors$State" "headsMatter" "I" "TurnedFloors") nn9_36) (fun _ h9 => h9) rfl dX9_spread_16 ?_
  obtain ⟨q3, h2, h⟩ := dV_some h
  refine dw_kv (va_runV (As := [.ref (ad 2), .ref (ad 20), .int (q.1 1 3)]) (rest := []) ⟨hx, hb, hml, hown, hts⟩ (qX3_lay_s32_s2_s20 l D ty eo _ ad nc ns q (q.1 1 3) q3 h2) (cwV 3 hts gX9_spread_X3_lay rfl rfl rfl hd_X3_lay_v ⟨Nat.le_of_ble_eq_true rfl, Nat.le_of_ble_eq_true rfl⟩) (pvF_3_32 hK hN hE hP hD hS hA) rfl rfl hl.1 rfl (lv_room (Nat.le_of_ble_eq_true rfl)) dX9_spread_19 ⟨by show 0 + nc ≤ nc; omega, by show 0 + ns ≤ ns; omega⟩) hD hS hA (fun u9 H locs hw hp hd hs => ?_)
  clear hP hD hS
  obtain ⟨ad, hag1, rfl⟩ := hw
  replace hag := dAg_t hag hag1
  rw [dAg_s hag1 0 (by decide)] at hl
  rw [dAg_s hag1 20 (by decide)] at hl
  clear hag1
  refine dw_up (c2 := nc) (s2 := ns) (by omega) (by omega) ?_
  have hP := hp; have hD := hd; have hS := hs; clear hp hd hs
  cases h
  exact kz_vret hx hb hr hlocks hP hK hD hS dX9_spread_22 ⟨ad, hag, rfl⟩

set_option maxHeartbeats 4000000 in
set_option maxRecDepth 100000 in
theorem WX3_sameBars_s32_2b {p : Program} {l : Launch} {e : Env} {s : State} {m : MethodId} {args : Array Value} {below : List Frame} {meth : Method} {c : Code} {D : va_G} {ty : Nat → ClassId} {eo : Nat → Nat} {A : Nat → Prop} {ad : Nat → Nat} {o1 : Int32} {o2 : dK} (C : dc_C p s m args meth c cX3_sameBars (some .boolean) 2 RX3 wsX3_sameBars D ty eo A) {k2 : dK → Int32 → Option (Int32 × dK)} (hk2 : ∀ (q : dK) (x1 : Int32) (H : Heap) (locs : List Loc) (ls : Array Slot), k2 q x1 = some (o1, o2) → va_P D vwCl (wF ty ad q) H → va_D A (wF ty ad q) → va_S A s.heap H locs → lv_has ls 2 [(0, .ref (ad 32)), (1, .int x1)] → W p l e ({ frames := 0, cells := 0, slots := 0, locals := 0 } : Room) s m args below meth c H locs 0 0 (MQ below (va_Qi (fun (r : Int32) (u : va_W) => o1 = r ∧ wF ty ad o2 = u) (kz_B D ty A) A) args s 0 0 A) (F0 m 2 ls [])) (q : dK) (x1 : Int32) (H : Heap) (locs : List Loc) (ls : Array Slot) (h : zX3_sameBars_s32_2b k2 q x1 = some (o1, o2)) (hP : va_P D vwCl (wF ty ad q) H) (hD : va_D A (wF ty ad q)) (hS : va_S A s.heap H locs) (hl : lv_has ls 2 [(0, .ref (ad 32)), (1, .int x1)]) : W p l e ({ frames := 0, cells := 0, slots := 0, locals := 0 } : Room) s m args below meth c H locs 0 0 (MQ below (va_Qi (fun (r : Int32) (u : va_W) => o1 = r ∧ wF ty ad o2 = u) (kz_B D ty A) A) args s 0 0 A) (F0 m 2 ls []) := by
  have C0 := C
  obtain ⟨hx, hb, hr, hts, hown, hlocks, hml, hK, hN, hE, hA⟩ := C
  unfold zX3_sameBars_s32_2b at h
  refine lv_iload_n hx hb dX3_sameBars_2 rfl (lv_at hl 1 rfl) ?_
  refine lv_sipush (v := 504) hx hb dX3_sameBars_3 (by decide) ?_
  refine lv_icmp_ge (tgt := 32) hx hb dX3_sameBars_6 (by decide) (fun c9 => ?_) (fun c9 => ?_)
  · rw [if_pos c9] at h
    refine lv_iconst (v := 1) hx hb dX3_sameBars_32 (by decide) ?_
    cases h
    exact kz_zret hx hb hr hlocks rfl hP hK hD hS dX3_sameBars_33 ⟨rfl, rfl⟩
  · rw [if_neg c9] at h
    refine lv_aload_n hx hb dX3_sameBars_9 rfl (lv_at hl 0 rfl) ?_
    refine va_get (D := D) (ci := 3) (v := .ref (ad 35)) (C := RX3) (T := TX3) (N := 20) hx hb hts u9_wsX3_sameBars_X3 hown hK hP 32 rfl rfl 2 (by decide) (hts (.fieldLink RX3 18 "TurnedFloors$Paper" "barred" "[I") f9_wsX3_sameBars_767) (fun _ h9 => h9) rfl dX3_sameBars_10 ?_
    refine lv_iload_n hx hb dX3_sameBars_13 rfl (lv_at hl 1 rfl) ?_
    obtain ⟨g1, h⟩ := dG_some h
    refine va_iald hx hb hK hP 35 0 rfl rfl (dg_in g1) dX3_sameBars_14 ?_
    obtain ⟨v2, ev2, h⟩ := dL_some h
    refine kz_topi v2 ev2 ?_
    refine lv_aload_n hx hb dX3_sameBars_15 rfl (lv_at hl 0 rfl) ?_
    refine va_get (D := D) (ci := 3) (v := .ref (ad 37)) (C := RX3) (T := TX3) (N := 20) hx hb hts u9_wsX3_sameBars_X3 hown hK hP 32 rfl rfl 4 (by decide) (hts (.fieldLink RX3 24 "TurnedFloors$Paper" "measuredBarred" "[I") f9_wsX3_sameBars_768) (fun _ h9 => h9) rfl dX3_sameBars_16 ?_
    refine lv_iload_n hx hb dX3_sameBars_19 rfl (lv_at hl 1 rfl) ?_
    obtain ⟨g3, h⟩ := dG_some h
    refine va_iald hx hb hK hP 37 0 rfl rfl (dg_in g3) dX3_sameBars_20 ?_
    obtain ⟨v4, ev4, h⟩ := dL_some h
    refine kz_topi v4 ev4 ?_
    refine lv_icmp_eq (tgt := 26) hx hb dX3_sameBars_21 (by decide) (fun c9 => ?_) (fun c9 => ?_)
    · rw [if_pos c9] at h
      refine lv_iinc (v := x1 + 1) (lv' := [(1, .int (x1 + 1)), (0, .ref (ad 32))]) hx hb dX3_sameBars_26 hl (k := 1) rfl rfl (by decide) rfl (fun ls hl => ?_)
      refine lv_goto (tgt := 2) hx hb dX3_sameBars_29 (by decide) ?_
      exact hk2 _ _ _ _ _ h hP hD hS (lv_sub hl [1, 0] rfl)
    · rw [if_neg c9] at h
      refine lv_iconst (v := 0) hx hb dX3_sameBars_24 (by decide) ?_
      cases h
      exact kz_zret hx hb hr hlocks rfl hP hK hD hS dX3_sameBars_25 ⟨rfl, rfl⟩
set_option maxHeartbeats 4000000 in
set_option maxRecDepth 100000 in
theorem WX3_sameBars_s32_2 {p : Program} {l : Launch} {e : Env} {s : State} {m : MethodId} {args : Array Value} {below : List Frame} {meth : Method} {c : Code} {D : va_G} {ty : Nat → ClassId} {eo : Nat → Nat} {A : Nat → Prop} {ad : Nat → Nat} {o1 : Int32} {o2 : dK} (C : dc_C p s m args meth c cX3_sameBars (some .boolean) 2 RX3 wsX3_sameBars D ty eo A)   (n : Nat) (q : dK) (x1 : Int32) (H : Heap) (locs : List Loc) (ls : Array Slot) (h : zX3_sameBars_s32_2  n q x1 = some (o1, o2)) (hP : va_P D vwCl (wF ty ad q) H) (hD : va_D A (wF ty ad q)) (hS : va_S A s.heap H locs) (hl : lv_has ls 2 [(0, .ref (ad 32)), (1, .int x1)]) : W p l e ({ frames := 0, cells := 0, slots := 0, locals := 0 } : Room) s m args below meth c H locs 0 0 (MQ below (va_Qi (fun (r : Int32) (u : va_W) => o1 = r ∧ wF ty ad o2 = u) (kz_B D ty A) A) args s 0 0 A) (F0 m 2 ls []) := by
  exact dFix_W (F := fun k (a : dK × Int32) => zX3_sameBars_s32_2b  (fun q x1 => k (q, x1)) a.1 a.2) (o := (o1, o2)) (P := fun (a : dK × Int32) H locs ls => va_P D vwCl (wF ty ad a.1) H ∧ va_D A (wF ty ad a.1) ∧ va_S A s.heap H locs ∧ lv_has ls 2 [(0, .ref (ad 32)), (1, .int a.2)]) (G := fun H locs ls => W p l e ({ frames := 0, cells := 0, slots := 0, locals := 0 } : Room) s m args below meth c H locs 0 0 (MQ below (va_Qi (fun (r : Int32) (u : va_W) => o1 = r ∧ wF ty ad o2 = u) (kz_B D ty A) A) args s 0 0 A) (F0 m 2 ls []))
    (fun k hk a H locs ls h hp => WX3_sameBars_s32_2b C  (fun q x1 H locs ls h h1 h2 h3 h4 => hk (q, x1) H locs ls h ⟨h1, h2, h3, h4⟩) a.1 a.2 H locs ls h hp.1 hp.2.1 hp.2.2.1 hp.2.2.2) n (q, x1) H locs ls h ⟨hP, hD, hS, hl⟩
set_option maxHeartbeats 4000000 in
set_option maxRecDepth 100000 in
theorem qX3_sameBars_s32 (l : Launch) (D : va_G) (ty : Nat → ClassId) (eo : Nat → Nat) (sz : Nat) (ad : Nat → Nat) (q : dK)  (o1 : Int32) (o2 : dK) (h : zX3_sameBars_s32 q = some (o1, o2)) : Met l yX3_sameBars wsX3_sameBars ({ frames := 0, cells := 0, slots := 0, locals := 0 } : Room) (va_Pc [.ref (ad 32)] (kz_pre D ty eo (wF ty ad q) sz)) (va_Qi (fun (r : Int32) (u : va_W) => o1 = r ∧ wF ty ad o2 = u) (kz_B D ty (va_A (wF ty ad q) sz)) (va_A (wF ty ad q) sz)) 0 0 (va_A (wF ty ad q) sz) := by
  refine Met.ofW (cc := cX3_sameBars) (maxL := 2) (ret := (some .boolean)) (by decide) rfl ?_
  intro p e s m args below meth c s₁ B hml hv
  obtain ⟨rfl, hsz, hP, hK, hD0, hN, hE⟩ := hv
  have hx := B.exec
  have hb := B.bytes
  have hr := B.returns
  have hts := atoms_spec (ws := wsX3_sameBars) B.pre
  have hown : s.vm.findClass RX3 = some m.cls := findClass_of_methodNamed B.named
  have hlocks := B.notSynchronized
  subst hsz
  have hD := hD0.self (sz := s.heap.size)
  generalize hAe : va_A (wF ty ad q) s.heap.size = A at hD hE ⊢
  have hA : ∀ q : Nat, s.heap.size ≤ q → A q := fun q h => by rw [← hAe]; exact Or.inr h
  clear hAe
  have hS : va_S A s.heap s.heap [] := va_S.rf
  have hl := lv_entry ([.ref (ad 32)]) (n := 2) (Nat.le_of_ble_eq_true rfl)
  rw [lg_entry_eq]
  generalize (lg_sl ([.ref (ad 32)]) ++ List.replicate (2 - (lg_sl ([.ref (ad 32)])).length) Slot.unset).toArray = ls at hl ⊢
  have hl : lv_has ls 2 [(0, .ref (ad 32))] := hl
  have C : dc_C p s m _ meth c cX3_sameBars (some .boolean) 2 RX3 wsX3_sameBars D ty eo A := ⟨hx, hb, hr, hts, hown, hlocks, hml, hK, hN, hE, hA⟩
  unfold zX3_sameBars_s32 at h
  refine lv_iconst (v := 0) hx hb dX3_sameBars_0 (by decide) ?_
  refine lv_istore_n (lv' := [(1, .int 0), (0, .ref (ad 32))]) hx hb dX3_sameBars_1 rfl hl (by decide) rfl (fun ls hl => ?_)
  exact WX3_sameBars_s32_2 C  _ _ _ _ _ _ h hP hD hS (lv_sub hl [1, 0] rfl)

set_option maxHeartbeats 4000000 in
set_option maxRecDepth 100000 in
theorem WX3_isOrdered_s32_34 {p : Program} {l : Launch} {e : Env} {s : State} {m : MethodId} {args : Array Value} {below : List Frame} {meth : Method} {c : Code} {D : va_G} {ty : Nat → ClassId} {eo : Nat → Nat} {A : Nat → Prop} {ad : Nat → Nat} {o1 : Int32} {o2 : dK} (C : dc_C p s m args meth c cX3_isOrdered (some .boolean) 2 RX3 wsX3_isOrdered D ty eo A)   (q : dK) (y0 : Int32) (H : Heap) (locs : List Loc) (ls : Array Slot) (h : zX3_isOrdered_s32_34  q y0 = some (o1, o2)) (hP : va_P D vwCl (wF ty ad q) H) (hD : va_D A (wF ty ad q)) (hS : va_S A s.heap H locs) (hl : lv_has ls 2 []) : W p l e ({ frames := 0, cells := 0, slots := 0, locals := 0 } : Room) s m args below meth c H locs 0 0 (MQ below (va_Qi (fun (r : Int32) (u : va_W) => o1 = r ∧ wF ty ad o2 = u) (kz_B D ty A) A) args s 0 0 A) (F0 m 34 ls [.int y0]) := by
  have C0 := C
  obtain ⟨hx, hb, hr, hts, hown, hlocks, hml, hK, hN, hE, hA⟩ := C
  unfold zX3_isOrdered_s32_34 at h
  obtain ⟨g1, h⟩ := dG_some h
  cases h
  exact kz_zret hx hb hr hlocks (dbl_nar g1) hP hK hD hS dX3_isOrdered_34 ⟨rfl, rfl⟩
set_option maxHeartbeats 4000000 in
set_option maxRecDepth 100000 in
theorem qX3_isOrdered_s32 (l : Launch) (D : va_G) (ty : Nat → ClassId) (eo : Nat → Nat) (sz : Nat) (ad : Nat → Nat) (q : dK) (p1 : Int32) (o1 : Int32) (o2 : dK) (h : zX3_isOrdered_s32 q p1 = some (o1, o2)) : Met l yX3_isOrdered wsX3_isOrdered ({ frames := 0, cells := 0, slots := 0, locals := 0 } : Room) (va_Pc [.ref (ad 32), .int p1] (kz_pre D ty eo (wF ty ad q) sz)) (va_Qi (fun (r : Int32) (u : va_W) => o1 = r ∧ wF ty ad o2 = u) (kz_B D ty (va_A (wF ty ad q) sz)) (va_A (wF ty ad q) sz)) 0 0 (va_A (wF ty ad q) sz) := by
  refine Met.ofW (cc := cX3_isOrdered) (maxL := 2) (ret := (some .boolean)) (by decide) rfl ?_
  intro p e s m args below meth c s₁ B hml hv
  obtain ⟨rfl, hsz, hP, hK, hD0, hN, hE⟩ := hv
  have hx := B.exec
  have hb := B.bytes
  have hr := B.returns
  have hts := atoms_spec (ws := wsX3_isOrdered) B.pre
  have hown : s.vm.findClass RX3 = some m.cls := findClass_of_methodNamed B.named
  have hlocks := B.notSynchronized
  subst hsz
  have hD := hD0.self (sz := s.heap.size)
  generalize hAe : va_A (wF ty ad q) s.heap.size = A at hD hE ⊢
  have hA : ∀ q : Nat, s.heap.size ≤ q → A q := fun q h => by rw [← hAe]; exact Or.inr h
  clear hAe
  have hS : va_S A s.heap s.heap [] := va_S.rf
  have hl := lv_entry ([.ref (ad 32), .int p1]) (n := 2) (Nat.le_of_ble_eq_true rfl)
  rw [lg_entry_eq]
  generalize (lg_sl ([.ref (ad 32), .int p1]) ++ List.replicate (2 - (lg_sl ([.ref (ad 32), .int p1])).length) Slot.unset).toArray = ls at hl ⊢
  have hl : lv_has ls 2 [(0, .ref (ad 32)), (1, .int p1)] := hl
  have C : dc_C p s m _ meth c cX3_isOrdered (some .boolean) 2 RX3 wsX3_isOrdered D ty eo A := ⟨hx, hb, hr, hts, hown, hlocks, hml, hK, hN, hE, hA⟩
  unfold zX3_isOrdered_s32 at h
  refine lv_aload_n hx hb dX3_isOrdered_0 rfl (lv_at hl 0 rfl) ?_
  refine va_get (D := D) (ci := 3) (v := .int (q.1 32 16)) (C := RX3) (T := TX3) (N := 20) hx hb hts u9_wsX3_isOrdered_X3 hown hK hP 32 rfl rfl 16 (by decide) (hts (.fieldLink RX3 61 "TurnedFloors$Paper" "headsMatter" "I") f9_wsX3_isOrdered_770) (fun _ h9 => h9) rfl dX3_isOrdered_1 ?_
  refine lv_iconst (v := 1) hx hb dX3_isOrdered_4 (by decide) ?_
  refine lv_icmp_ne (tgt := 20) hx hb dX3_isOrdered_5 (by decide) (fun c9 => ?_) (fun c9 => ?_)
  · rw [if_neg c9] at h
    refine lv_iload_n hx hb dX3_isOrdered_20 rfl (lv_at hl 1 rfl) ?_
    refine lv_aload_n hx hb dX3_isOrdered_21 rfl (lv_at hl 0 rfl) ?_
    refine va_get (D := D) (ci := 3) (v := .int (q.1 32 13)) (C := RX3) (T := TX3) (N := 20) hx hb hts u9_wsX3_isOrdered_X3 hown hK hP 32 rfl rfl 13 (by decide) (hts (.fieldLink RX3 51 "TurnedFloors$Paper" "floors" "I") f9_wsX3_isOrdered_771) (fun _ h9 => h9) rfl dX3_isOrdered_22 ?_
    refine lv_ishr hx hb dX3_isOrdered_25 ?_
    refine lv_if_ne (tgt := 33) hx hb dX3_isOrdered_26 (by decide) (fun c9 => ?_) (fun c9 => ?_)
    · rw [if_neg c9] at h
      refine lv_iconst (v := 0) hx hb dX3_isOrdered_33 (by decide) ?_
      exact WX3_isOrdered_s32_34 C  _ _ _ _ _ h hP hD hS (lv_sub hl [] rfl)
    · rw [if_pos c9] at h
      refine lv_iconst (v := 1) hx hb dX3_isOrdered_29 (by decide) ?_
      refine lv_goto (tgt := 34) hx hb dX3_isOrdered_30 (by decide) ?_
      exact WX3_isOrdered_s32_34 C  _ _ _ _ _ h hP hD hS (lv_sub hl [] rfl)
  · rw [if_pos c9] at h
    refine lv_iload_n hx hb dX3_isOrdered_8 rfl (lv_at hl 1 rfl) ?_
    refine lv_if_ne (tgt := 16) hx hb dX3_isOrdered_9 (by decide) (fun c9 => ?_) (fun c9 => ?_)
    · rw [if_neg c9] at h
      refine lv_iconst (v := 0) hx hb dX3_isOrdered_16 (by decide) ?_
      refine lv_goto (tgt := 34) hx hb dX3_isOrdered_17 (by decide) ?_
      exact WX3_isOrdered_s32_34 C  _ _ _ _ _ h hP hD hS (lv_sub hl [] rfl)
    · rw [if_pos c9] at h
      refine lv_iconst (v := 1) hx hb dX3_isOrdered_12 (by decide) ?_
      refine lv_goto (tgt := 34) hx hb dX3_isOrdered_13 (by decide) ?_
      exact WX3_isOrdered_s32_34 C  _ _ _ _ _ h hP hD hS (lv_sub hl [] rfl)

set_option maxHeartbeats 4000000 in
set_option maxRecDepth 100000 in
theorem WX3_turned_s32_84 {p : Program} {l : Launch} {e : Env} {s : State} {m : MethodId} {args : Array Value} {below : List Frame} {meth : Method} {c : Code} {D : va_G} {ty : Nat → ClassId} {eo : Nat → Nat} {A : Nat → Prop} {ad : Nat → Nat} {o1 : Int32} {o2 : dK} (C : dc_C p s m args meth c cX3_turned (some .int) 6 RX3 wsX3_turned D ty eo A)   (q : dK) (y0 : Int32) (H : Heap) (locs : List Loc) (ls : Array Slot) (h : zX3_turned_s32_84  q y0 = some (o1, o2)) (hP : va_P D vwCl (wF ty ad q) H) (hD : va_D A (wF ty ad q)) (hS : va_S A s.heap H locs) (hl : lv_has ls 6 []) : W p l e ({ frames := 0, cells := 0, slots := 0, locals := 0 } : Room) s m args below meth c H locs 0 0 (MQ below (va_Qi (fun (r : Int32) (u : va_W) => o1 = r ∧ wF ty ad o2 = u) (kz_B D ty A) A) args s 0 0 A) (F0 m 84 ls [.int y0]) := by
  have C0 := C
  obtain ⟨hx, hb, hr, hts, hown, hlocks, hml, hK, hN, hE, hA⟩ := C
  unfold zX3_turned_s32_84 at h
  cases h
  exact kz_iret hx hb hr hlocks hP hK hD hS dX3_turned_84 ⟨rfl, rfl⟩
set_option maxHeartbeats 4000000 in
set_option maxRecDepth 100000 in
theorem WX3_turned_s32_13 {p : Program} {l : Launch} {e : Env} {s : State} {m : MethodId} {args : Array Value} {below : List Frame} {meth : Method} {c : Code} {D : va_G} {ty : Nat → ClassId} {eo : Nat → Nat} {A : Nat → Prop} {ad : Nat → Nat} {o1 : Int32} {o2 : dK} (C : dc_C p s m args meth c cX3_turned (some .int) 6 RX3 wsX3_turned D ty eo A)   (q : dK) (x1 : Int32) (H : Heap) (locs : List Loc) (ls : Array Slot) (h : zX3_turned_s32_13  q x1 = some (o1, o2)) (hP : va_P D vwCl (wF ty ad q) H) (hD : va_D A (wF ty ad q)) (hS : va_S A s.heap H locs) (hl : lv_has ls 6 [(1, .int x1)]) : W p l e ({ frames := 0, cells := 0, slots := 0, locals := 0 } : Room) s m args below meth c H locs 0 0 (MQ below (va_Qi (fun (r : Int32) (u : va_W) => o1 = r ∧ wF ty ad o2 = u) (kz_B D ty A) A) args s 0 0 A) (F0 m 13 ls []) := by
  have C0 := C
  obtain ⟨hx, hb, hr, hts, hown, hlocks, hml, hK, hN, hE, hA⟩ := C
  unfold zX3_turned_s32_13 at h
  refine lv_iload_n hx hb dX3_turned_13 rfl (lv_at hl 0 rfl) ?_
  cases h
  exact kz_iret hx hb hr hlocks hP hK hD hS dX3_turned_14 ⟨rfl, rfl⟩
set_option maxHeartbeats 4000000 in
set_option maxRecDepth 100000 in
theorem qX3_turned_s32 (l : Launch) (D : va_G) (ty : Nat → ClassId) (eo : Nat → Nat) (sz : Nat) (ad : Nat → Nat) (q : dK) (p1 : Int32) (p2 : Int32) (o1 : Int32) (o2 : dK) (h : zX3_turned_s32 q p1 p2 = some (o1, o2)) : Met l yX3_turned wsX3_turned ({ frames := 0, cells := 0, slots := 0, locals := 0 } : Room) (va_Pc [.ref (ad 32), .int p1, .int p2] (kz_pre D ty eo (wF ty ad q) sz)) (va_Qi (fun (r : Int32) (u : va_W) => o1 = r ∧ wF ty ad o2 = u) (kz_B D ty (va_A (wF ty ad q) sz)) (va_A (wF ty ad q) sz)) 0 0 (va_A (wF ty ad q) sz) := by
  refine Met.ofW (cc := cX3_turned) (maxL := 6) (ret := (some .int)) (by decide) rfl ?_
  intro p e s m args below meth c s₁ B hml hv
  obtain ⟨rfl, hsz, hP, hK, hD0, hN, hE⟩ := hv
  have hx := B.exec
  have hb := B.bytes
  have hr := B.returns
  have hts := atoms_spec (ws := wsX3_turned) B.pre
  have hown : s.vm.findClass RX3 = some m.cls := findClass_of_methodNamed B.named
  have hlocks := B.notSynchronized
  subst hsz
  have hD := hD0.self (sz := s.heap.size)
  generalize hAe : va_A (wF ty ad q) s.heap.size = A at hD hE ⊢
  have hA : ∀ q : Nat, s.heap.size ≤ q → A q := fun q h => by rw [← hAe]; exact Or.inr h
  clear hAe
  have hS : va_S A s.heap s.heap [] := va_S.rf
  have hl := lv_entry ([.ref (ad 32), .int p1, .int p2]) (n := 6) (Nat.le_of_ble_eq_true rfl)
  rw [lg_entry_eq]
  generalize (lg_sl ([.ref (ad 32), .int p1, .int p2]) ++ List.replicate (6 - (lg_sl ([.ref (ad 32), .int p1, .int p2])).length) Slot.unset).toArray = ls at hl ⊢
  have hl : lv_has ls 6 [(0, .ref (ad 32)), (1, .int p1), (2, .int p2)] := hl
  have C : dc_C p s m _ meth c cX3_turned (some .int) 6 RX3 wsX3_turned D ty eo A := ⟨hx, hb, hr, hts, hown, hlocks, hml, hK, hN, hE, hA⟩
  unfold zX3_turned_s32 at h
  refine lv_iload_n hx hb dX3_turned_0 rfl (lv_at hl 2 rfl) ?_
  refine lv_iconst (v := 1) hx hb dX3_turned_1 (by decide) ?_
  refine lv_icmp_lt (tgt := 13) hx hb dX3_turned_2 (by decide) (fun c9 => ?_) (fun c9 => ?_)
  · rw [if_pos c9] at h
    exact WX3_turned_s32_13 C  _ _ _ _ _ h hP hD hS (lv_sub hl [1] rfl)
  · rw [if_neg c9] at h
    refine lv_iload_n hx hb dX3_turned_5 rfl (lv_at hl 2 rfl) ?_
    refine lv_aload_n hx hb dX3_turned_6 rfl (lv_at hl 0 rfl) ?_
    refine va_get (D := D) (ci := 3) (v := .int (q.1 32 13)) (C := RX3) (T := TX3) (N := 20) hx hb hts u9_wsX3_turned_X3 hown hK hP 32 rfl rfl 13 (by decide) (hts (.fieldLink RX3 51 "TurnedFloors$Paper" "floors" "I") f9_wsX3_turned_773) (fun _ h9 => h9) rfl dX3_turned_7 ?_
    refine lv_icmp_le (tgt := 15) hx hb dX3_turned_10 (by decide) (fun c9 => ?_) (fun c9 => ?_)
    · rw [if_pos c9] at h
      refine lv_iload_n hx hb dX3_turned_15 rfl (lv_at hl 1 rfl) ?_
      refine lv_iconst (v := 1) hx hb dX3_turned_16 (by decide) ?_
      refine lv_aload_n hx hb dX3_turned_17 rfl (lv_at hl 0 rfl) ?_
      refine va_get (D := D) (ci := 3) (v := .int (q.1 32 13)) (C := RX3) (T := TX3) (N := 20) hx hb hts u9_wsX3_turned_X3 hown hK hP 32 rfl rfl 13 (by decide) (hts (.fieldLink RX3 51 "TurnedFloors$Paper" "floors" "I") f9_wsX3_turned_773) (fun _ h9 => h9) rfl dX3_turned_18 ?_
      refine lv_ishl hx hb dX3_turned_21 ?_
      refine lv_iconst (v := 1) hx hb dX3_turned_22 (by decide) ?_
      refine lv_isub hx hb dX3_turned_23 ?_
      refine lv_iand hx hb dX3_turned_24 ?_
      obtain ⟨v1, ev1, h⟩ := dL_some h
      refine kz_topi v1 ev1 ?_
      refine lv_istore_n (lv' := [(3, .int v1), (0, .ref (ad 32)), (1, .int p1), (2, .int p2)]) hx hb dX3_turned_25 rfl hl (by decide) rfl (fun ls hl => ?_)
      refine lv_aload_n hx hb dX3_turned_26 rfl (lv_at hl 1 rfl) ?_
      refine va_get (D := D) (ci := 3) (v := .ref (ad 40)) (C := RX3) (T := TX3) (N := 20) hx hb hts u9_wsX3_turned_X3 hown hK hP 32 rfl rfl 7 (by decide) (hts (.fieldLink RX3 33 "TurnedFloors$Paper" "turnedOrders" "[I") f9_wsX3_turned_774) (fun _ h9 => h9) rfl dX3_turned_27 ?_
      refine lv_iload_n hx hb dX3_turned_30 rfl (lv_at hl 2 rfl) ?_
      refine lv_aload_n hx hb dX3_turned_31 rfl (lv_at hl 1 rfl) ?_
      refine va_get (D := D) (ci := 3) (v := .int (q.1 32 13)) (C := RX3) (T := TX3) (N := 20) hx hb hts u9_wsX3_turned_X3 hown hK hP 32 rfl rfl 13 (by decide) (hts (.fieldLink RX3 51 "TurnedFloors$Paper" "floors" "I") f9_wsX3_turned_773) (fun _ h9 => h9) rfl dX3_turned_32 ?_
      refine lv_ishr hx hb dX3_turned_35 ?_
      refine lv_bipush (v := 6) hx hb dX3_turned_36 (by decide) ?_
      refine lv_imul hx hb dX3_turned_38 ?_
      refine lv_iload_n hx hb dX3_turned_39 rfl (lv_at hl 3 rfl) ?_
      refine lv_iadd hx hb dX3_turned_40 ?_
      refine lv_iconst (v := 1) hx hb dX3_turned_41 (by decide) ?_
      refine lv_isub hx hb dX3_turned_42 ?_
      obtain ⟨v2, ev2, h⟩ := dL_some h
      refine kz_topi v2 ev2 ?_
      obtain ⟨g3, h⟩ := dG_some h
      refine va_iald hx hb hK hP 40 0 rfl rfl (dg_in g3) dX3_turned_43 ?_
      obtain ⟨v4, ev4, h⟩ := dL_some h
      refine kz_topi v4 ev4 ?_
      refine lv_istore (lv' := [(4, .int v4), (3, .int v1), (0, .ref (ad 32)), (1, .int p1), (2, .int p2)]) hx hb dX3_turned_44 hl (by decide) rfl (fun ls hl => ?_)
      refine lv_iload hx hb dX3_turned_46 (lv_at hl 0 rfl) ?_
      refine lv_aload_n hx hb dX3_turned_48 rfl (lv_at hl 2 rfl) ?_
      refine va_get (D := D) (ci := 3) (v := .int (q.1 32 13)) (C := RX3) (T := TX3) (N := 20) hx hb hts u9_wsX3_turned_X3 hown hK hP 32 rfl rfl 13 (by decide) (hts (.fieldLink RX3 51 "TurnedFloors$Paper" "floors" "I") f9_wsX3_turned_773) (fun _ h9 => h9) rfl dX3_turned_49 ?_
      refine lv_ishl hx hb dX3_turned_52 ?_
      refine lv_aload_n hx hb dX3_turned_53 rfl (lv_at hl 2 rfl) ?_
      refine va_get (D := D) (ci := 3) (v := .ref (ad 41)) (C := RX3) (T := TX3) (N := 20) hx hb hts u9_wsX3_turned_X3 hown hK hP 32 rfl rfl 8 (by decide) (hts (.fieldLink RX3 36 "TurnedFloors$Paper" "turnedHeads" "[I") f9_wsX3_turned_775) (fun _ h9 => h9) rfl dX3_turned_54 ?_
      refine lv_iload_n hx hb dX3_turned_57 rfl (lv_at hl 1 rfl) ?_
      refine lv_bipush (v := 6) hx hb dX3_turned_58 (by decide) ?_
      refine lv_imul hx hb dX3_turned_60 ?_
      refine lv_iload_n hx hb dX3_turned_61 rfl (lv_at hl 4 rfl) ?_
      refine lv_iadd hx hb dX3_turned_62 ?_
      refine lv_iconst (v := 1) hx hb dX3_turned_63 (by decide) ?_
      refine lv_isub hx hb dX3_turned_64 ?_
      obtain ⟨g5, h⟩ := dG_some h
      refine va_iald hx hb hK hP 41 0 rfl rfl (dg_in g5) dX3_turned_65 ?_
      obtain ⟨v6, ev6, h⟩ := dL_some h
      refine kz_topi v6 ev6 ?_
      refine lv_ior hx hb dX3_turned_66 ?_
      refine lv_istore (lv' := [(5, .int ((v4 <<< ((q.1 32 13 : Int32) &&& 31)) ||| v6)), (4, .int v4), (3, .int v1), (0, .ref (ad 32)), (1, .int p1), (2, .int p2)]) hx hb dX3_turned_67 hl (by decide) rfl (fun ls hl => ?_)
      refine lv_iload hx hb dX3_turned_69 (lv_at hl 0 rfl) ?_
      refine lv_aload_n hx hb dX3_turned_71 rfl (lv_at hl 3 rfl) ?_
      refine va_get (D := D) (ci := 3) (v := .int (q.1 32 14)) (C := RX3) (T := TX3) (N := 20) hx hb hts u9_wsX3_turned_X3 hown hK hP 32 rfl rfl 14 (by decide) (hts (.fieldLink RX3 55 "TurnedFloors$Paper" "size" "I") f9_wsX3_turned_776) (fun _ h9 => h9) rfl dX3_turned_72 ?_
      refine lv_icmp_ge (tgt := 83) hx hb dX3_turned_75 (by decide) (fun c9 => ?_) (fun c9 => ?_)
      · rw [if_pos c9] at h
        refine lv_iload_n hx hb dX3_turned_83 rfl (lv_at hl 4 rfl) ?_
        exact WX3_turned_s32_84 C  _ _ _ _ _ h hP hD hS (lv_sub hl [] rfl)
      · rw [if_neg c9] at h
        refine lv_iload hx hb dX3_turned_78 (lv_at hl 0 rfl) ?_
        refine lv_goto (tgt := 84) hx hb dX3_turned_80 (by decide) ?_
        exact WX3_turned_s32_84 C  _ _ _ _ _ h hP hD hS (lv_sub hl [] rfl)
    · rw [if_neg c9] at h
      exact WX3_turned_s32_13 C  _ _ _ _ _ h hP hD hS (lv_sub hl [1] rfl)

set_option maxHeartbeats 4000000 in
set_option maxRecDepth 100000 in
theorem WX3_caseOf_s32_33 {p : Program} {l : Launch} {e : Env} {s : State} {m : MethodId} {args : Array Value} {below : List Frame} {meth : Method} {c : Code} {D : va_G} {ty : Nat → ClassId} {eo : Nat → Nat} {A : Nat → Prop} {ad : Nat → Nat} {o1 : Int32} {o2 : dK} (C : dc_C p s m args meth c cX3_caseOf (some .int) 5 RX3 wsX3_caseOf D ty eo A)   (q : dK) (x1 : Int32) (x2 : Int32) (x3 : Int32) (y0 : Int32) (H : Heap) (locs : List Loc) (ls : Array Slot) (h : zX3_caseOf_s32_33  q x1 x2 x3 y0 = some (o1, o2)) (hP : va_P D vwCl (wF ty ad q) H) (hD : va_D A (wF ty ad q)) (hS : va_S A s.heap H locs) (hl : lv_has ls 5 [(1, .int x1), (2, .int x2), (3, .int x3)]) : W p l e ({ frames := 1, cells := 0, slots := 0, locals := 23 } : Room) s m args below meth c H locs 0 0 (MQ below (va_Qi (fun (r : Int32) (u : va_W) => o1 = r ∧ wF ty ad o2 = u) (kz_B D ty A) A) args s 0 0 A) (F0 m 33 ls [.int y0]) := by
  have C0 := C
  obtain ⟨hx, hb, hr, hts, hown, hlocks, hml, hK, hN, hE, hA⟩ := C
  unfold zX3_caseOf_s32_33 at h
  refine lv_istore (lv' := [(4, .int y0), (1, .int x1), (2, .int x2), (3, .int x3)]) hx hb dX3_caseOf_33 hl (by decide) rfl (fun ls hl => ?_)
  refine lv_iload_n hx hb dX3_caseOf_35 rfl (lv_at hl 2 rfl) ?_
  refine lv_iload_n hx hb dX3_caseOf_36 rfl (lv_at hl 3 rfl) ?_
  refine lv_bipush (v := 7) hx hb dX3_caseOf_37 (by decide) ?_
  refine lv_iand hx hb dX3_caseOf_39 ?_
  refine lv_iload hx hb dX3_caseOf_40 (lv_at hl 0 rfl) ?_
  refine lv_iload_n hx hb dX3_caseOf_42 rfl (lv_at hl 1 rfl) ?_
  refine lv_iconst (v := 1) hx hb dX3_caseOf_43 (by decide) ?_
  refine lv_iand hx hb dX3_caseOf_44 ?_
  obtain ⟨r1, h2, h⟩ := dV_some h
  refine dw_ks (va_runS (As := [.int x2, .int (x3 &&& 7 : Int32), .int y0, .int (x1 &&& 1 : Int32)]) (rest := []) ⟨hx, hb, hml, hown, hts⟩ (qX3_caseNumber l D ty eo _ x2 (x3 &&& 7 : Int32) y0 (x1 &&& 1 : Int32) _ h2) (va_cwS 4 hts gX3_caseOf_X3_caseNumber rfl rfl rfl hd_X3_caseNumber ⟨Nat.le_of_ble_eq_true rfl, Nat.le_of_ble_eq_true rfl⟩) (pvS_0 hK hN hE hP hD hS hA) rfl rfl hl.1 rfl (lv_room (Nat.le_of_ble_eq_true rfl)) dX3_caseOf_45 ⟨Nat.le_of_ble_eq_true rfl, Nat.le_of_ble_eq_true rfl⟩) hP hD hS hA (fun _ _ h9 => h9.2.symm) (fun r9 u9 H locs hw hp hd hs => ?_)
  obtain ⟨rfl, -⟩ := hw
  clear hP hD hS
  have hP := hp; have hD := hd; have hS := hs; clear hp hd hs
  cases h
  exact kz_iret hx hb hr hlocks hP hK hD hS dX3_caseOf_48 ⟨rfl, rfl⟩
set_option maxHeartbeats 4000000 in
set_option maxRecDepth 100000 in
theorem qX3_caseOf_s32 (l : Launch) (D : va_G) (ty : Nat → ClassId) (eo : Nat → Nat) (sz : Nat) (ad : Nat → Nat) (q : dK) (p1 : Int32) (p2 : Int32) (o1 : Int32) (o2 : dK) (h : zX3_caseOf_s32 q p1 p2 = some (o1, o2)) : Met l yX3_caseOf wsX3_caseOf ({ frames := 1, cells := 0, slots := 0, locals := 23 } : Room) (va_Pc [.ref (ad 32), .int p1, .int p2] (kz_pre D ty eo (wF ty ad q) sz)) (va_Qi (fun (r : Int32) (u : va_W) => o1 = r ∧ wF ty ad o2 = u) (kz_B D ty (va_A (wF ty ad q) sz)) (va_A (wF ty ad q) sz)) 0 0 (va_A (wF ty ad q) sz) := by
  refine Met.ofW (cc := cX3_caseOf) (maxL := 5) (ret := (some .int)) (by decide) rfl ?_
  intro p e s m args below meth c s₁ B hml hv
  obtain ⟨rfl, hsz, hP, hK, hD0, hN, hE⟩ := hv
  have hx := B.exec
  have hb := B.bytes
  have hr := B.returns
  have hts := atoms_spec (ws := wsX3_caseOf) B.pre
  have hown : s.vm.findClass RX3 = some m.cls := findClass_of_methodNamed B.named
  have hlocks := B.notSynchronized
  subst hsz
  have hD := hD0.self (sz := s.heap.size)
  generalize hAe : va_A (wF ty ad q) s.heap.size = A at hD hE ⊢
  have hA : ∀ q : Nat, s.heap.size ≤ q → A q := fun q h => by rw [← hAe]; exact Or.inr h
  clear hAe
  have hS : va_S A s.heap s.heap [] := va_S.rf
  have hl := lv_entry ([.ref (ad 32), .int p1, .int p2]) (n := 5) (Nat.le_of_ble_eq_true rfl)
  rw [lg_entry_eq]
  generalize (lg_sl ([.ref (ad 32), .int p1, .int p2]) ++ List.replicate (5 - (lg_sl ([.ref (ad 32), .int p1, .int p2])).length) Slot.unset).toArray = ls at hl ⊢
  have hl : lv_has ls 5 [(0, .ref (ad 32)), (1, .int p1), (2, .int p2)] := hl
  have C : dc_C p s m _ meth c cX3_caseOf (some .int) 5 RX3 wsX3_caseOf D ty eo A := ⟨hx, hb, hr, hts, hown, hlocks, hml, hK, hN, hE, hA⟩
  unfold zX3_caseOf_s32 at h
  refine lv_aload_n hx hb dX3_caseOf_0 rfl (lv_at hl 0 rfl) ?_
  refine va_get (D := D) (ci := 3) (v := .ref (ad 39)) (C := RX3) (T := TX3) (N := 20) hx hb hts u9_wsX3_caseOf_X3 hown hK hP 32 rfl rfl 6 (by decide) (hts (.fieldLink RX3 30 "TurnedFloors$Paper" "orders" "[I") f9_wsX3_caseOf_778) (fun _ h9 => h9) rfl dX3_caseOf_1 ?_
  refine lv_iload_n hx hb dX3_caseOf_4 rfl (lv_at hl 1 rfl) ?_
  refine lv_aload_n hx hb dX3_caseOf_5 rfl (lv_at hl 0 rfl) ?_
  refine va_get (D := D) (ci := 3) (v := .int (q.1 32 13)) (C := RX3) (T := TX3) (N := 20) hx hb hts u9_wsX3_caseOf_X3 hown hK hP 32 rfl rfl 13 (by decide) (hts (.fieldLink RX3 51 "TurnedFloors$Paper" "floors" "I") f9_wsX3_caseOf_779) (fun _ h9 => h9) rfl dX3_caseOf_6 ?_
  refine lv_ishr hx hb dX3_caseOf_9 ?_
  obtain ⟨g1, h⟩ := dG_some h
  refine va_iald hx hb hK hP 39 0 rfl rfl (dg_in g1) dX3_caseOf_10 ?_
  obtain ⟨v2, ev2, h⟩ := dL_some h
  refine kz_topi v2 ev2 ?_
  refine lv_istore_n (lv' := [(3, .int v2), (0, .ref (ad 32)), (1, .int p1), (2, .int p2)]) hx hb dX3_caseOf_11 rfl hl (by decide) rfl (fun ls hl => ?_)
  refine lv_iload_n hx hb dX3_caseOf_12 rfl (lv_at hl 3 rfl) ?_
  refine lv_aload_n hx hb dX3_caseOf_13 rfl (lv_at hl 1 rfl) ?_
  refine va_get (D := D) (ci := 3) (v := .int (q.1 32 13)) (C := RX3) (T := TX3) (N := 20) hx hb hts u9_wsX3_caseOf_X3 hown hK hP 32 rfl rfl 13 (by decide) (hts (.fieldLink RX3 51 "TurnedFloors$Paper" "floors" "I") f9_wsX3_caseOf_779) (fun _ h9 => h9) rfl dX3_caseOf_14 ?_
  refine lv_icmp_ge (tgt := 31) hx hb dX3_caseOf_17 (by decide) (fun c9 => ?_) (fun c9 => ?_)
  · rw [if_pos c9] at h
    refine lv_bipush (v := 6) hx hb dX3_caseOf_31 (by decide) ?_
    exact WX3_caseOf_s32_33 C  _ _ _ _ _ _ _ _ h hP hD hS (lv_sub hl [2, 3, 0] rfl)
  · rw [if_neg c9] at h
    refine lv_iload_n hx hb dX3_caseOf_20 rfl (lv_at hl 0 rfl) ?_
    refine lv_iconst (v := 3) hx hb dX3_caseOf_21 (by decide) ?_
    refine lv_iload_n hx hb dX3_caseOf_22 rfl (lv_at hl 3 rfl) ?_
    refine lv_imul hx hb dX3_caseOf_23 ?_
    refine lv_ishr hx hb dX3_caseOf_24 ?_
    refine lv_bipush (v := 7) hx hb dX3_caseOf_25 (by decide) ?_
    refine lv_iand hx hb dX3_caseOf_27 ?_
    refine lv_goto (tgt := 33) hx hb dX3_caseOf_28 (by decide) ?_
    exact WX3_caseOf_s32_33 C  _ _ _ _ _ _ _ _ h hP hD hS (lv_sub hl [2, 3, 0] rfl)
end
section
set_option maxRecDepth 20000 in
theorem ggX3_turnsToOrder_X3_measure : GoodIn wsX3_turnsToOrder wsX3_measure := wd_c vW9_ok mvW9_527
set_option maxRecDepth 20000 in
theorem gX3_turnsToOrder_X3_measure : GoodIn wsX3_turnsToOrder (wsV RX3 113 RX3 yX3_measure wsX3_measure) := goodIn_app (wd_l vW9_ok _ pvW9_14) ggX3_turnsToOrder_X3_measure
theorem da9_dX3_turnsToOrder_0 : (decode cX3_turnsToOrder 0 = .ok (.aload_n 0, 1)) ∧ (decode cX3_turnsToOrder 1 = .ok (.invokevirtual 113, 3)) ∧ (decode cX3_turnsToOrder 4 = .ok (.aload_n 0, 1)) ∧ (decode cX3_turnsToOrder 5 = .ok (.getfield 39, 3)) ∧ (decode cX3_turnsToOrder 8 = .ok (.aload_n 0, 1)) ∧ (decode cX3_turnsToOrder 9 = .ok (.getfield 58, 3)) ∧ (decode cX3_turnsToOrder 12 = .ok (.iaload, 1)) ∧ (decode cX3_turnsToOrder 13 = .ok (.ireturn, 1)) := by decide +kernel
theorem dX3_turnsToOrder_0 : decode cX3_turnsToOrder 0 = .ok (.aload_n 0, 1) := da9_dX3_turnsToOrder_0.1
theorem dX3_turnsToOrder_1 : decode cX3_turnsToOrder 1 = .ok (.invokevirtual 113, 3) := da9_dX3_turnsToOrder_0.2.1
theorem dX3_turnsToOrder_4 : decode cX3_turnsToOrder 4 = .ok (.aload_n 0, 1) := da9_dX3_turnsToOrder_0.2.2.1
theorem dX3_turnsToOrder_5 : decode cX3_turnsToOrder 5 = .ok (.getfield 39, 3) := da9_dX3_turnsToOrder_0.2.2.2.1
theorem dX3_turnsToOrder_8 : decode cX3_turnsToOrder 8 = .ok (.aload_n 0, 1) := da9_dX3_turnsToOrder_0.2.2.2.2.1
theorem dX3_turnsToOrder_9 : decode cX3_turnsToOrder 9 = .ok (.getfield 58, 3) := da9_dX3_turnsToOrder_0.2.2.2.2.2.1
theorem dX3_turnsToOrder_12 : decode cX3_turnsToOrder 12 = .ok (.iaload, 1) := da9_dX3_turnsToOrder_0.2.2.2.2.2.2.1
theorem dX3_turnsToOrder_13 : decode cX3_turnsToOrder 13 = .ok (.ireturn, 1) := da9_dX3_turnsToOrder_0.2.2.2.2.2.2.2
set_option maxRecDepth 20000 in
theorem ggX3_turnOfFirstRow_X3_measure : GoodIn wsX3_turnOfFirstRow wsX3_measure := wd_c vW9_ok mvW9_527
set_option maxRecDepth 20000 in
theorem gX3_turnOfFirstRow_X3_measure : GoodIn wsX3_turnOfFirstRow (wsV RX3 113 RX3 yX3_measure wsX3_measure) := goodIn_app (wd_l vW9_ok _ pvW9_14) ggX3_turnOfFirstRow_X3_measure
set_option maxRecDepth 20000 in
theorem ggX3_turnOfFirstRow_X3_firstCloser : GoodIn wsX3_turnOfFirstRow wsX3_firstCloser := wd_c vW9_ok mvW9_554
set_option maxRecDepth 20000 in
theorem gX3_turnOfFirstRow_X3_firstCloser : GoodIn wsX3_turnOfFirstRow (wsV RX3 116 RX3 yX3_firstCloser wsX3_firstCloser) := goodIn_app (wd_l vW9_ok _ pvW9_15) ggX3_turnOfFirstRow_X3_firstCloser
set_option maxRecDepth 20000 in
theorem ggX3_turnOfFirstRow_X3_turned : GoodIn wsX3_turnOfFirstRow wsX3_turned := wd_c vW9_ok mvW9_542
set_option maxRecDepth 20000 in
theorem gX3_turnOfFirstRow_X3_turned : GoodIn wsX3_turnOfFirstRow (wsV RX3 119 RX3 yX3_turned wsX3_turned) := goodIn_app (wd_l vW9_ok _ pvW9_16) ggX3_turnOfFirstRow_X3_turned
theorem da9_dX3_turnOfFirstRow_0 : (decode cX3_turnOfFirstRow 0 = .ok (.aload_n 0, 1)) ∧ (decode cX3_turnOfFirstRow 1 = .ok (.invokevirtual 113, 3)) ∧ (decode cX3_turnOfFirstRow 4 = .ok (.iload_n 1, 1)) ∧ (decode cX3_turnOfFirstRow 5 = .ok (.ifCond .lt 16, 3)) ∧ (decode cX3_turnOfFirstRow 8 = .ok (.iload_n 1, 1)) ∧ (decode cX3_turnOfFirstRow 9 = .ok (.aload_n 0, 1)) ∧ (decode cX3_turnOfFirstRow 10 = .ok (.getfield 39, 3)) ∧ (decode cX3_turnOfFirstRow 13 = .ok (.aload_n 0, 1)) ∧ (decode cX3_turnOfFirstRow 14 = .ok (.getfield 58, 3)) ∧ (decode cX3_turnOfFirstRow 17 = .ok (.iaload, 1)) ∧ (decode cX3_turnOfFirstRow 18 = .ok (.if_icmp .lt 5, 3)) ∧ (decode cX3_turnOfFirstRow 21 = .ok (.iconst (-1), 1)) ∧ (decode cX3_turnOfFirstRow 22 = .ok (.ireturn, 1)) ∧ (decode cX3_turnOfFirstRow 23 = .ok (.aload_n 0, 1)) ∧ (decode cX3_turnOfFirstRow 24 = .ok (.getfield 58, 3)) ∧ (decode cX3_turnOfFirstRow 27 = .ok (.istore_n 2, 1)) := by decide +kernel
theorem dX3_turnOfFirstRow_0 : decode cX3_turnOfFirstRow 0 = .ok (.aload_n 0, 1) := da9_dX3_turnOfFirstRow_0.1
theorem dX3_turnOfFirstRow_1 : decode cX3_turnOfFirstRow 1 = .ok (.invokevirtual 113, 3) := da9_dX3_turnOfFirstRow_0.2.1
theorem dX3_turnOfFirstRow_4 : decode cX3_turnOfFirstRow 4 = .ok (.iload_n 1, 1) := da9_dX3_turnOfFirstRow_0.2.2.1
theorem dX3_turnOfFirstRow_5 : decode cX3_turnOfFirstRow 5 = .ok (.ifCond .lt 16, 3) := da9_dX3_turnOfFirstRow_0.2.2.2.1
theorem dX3_turnOfFirstRow_8 : decode cX3_turnOfFirstRow 8 = .ok (.iload_n 1, 1) := da9_dX3_turnOfFirstRow_0.2.2.2.2.1
theorem dX3_turnOfFirstRow_9 : decode cX3_turnOfFirstRow 9 = .ok (.aload_n 0, 1) := da9_dX3_turnOfFirstRow_0.2.2.2.2.2.1
theorem dX3_turnOfFirstRow_10 : decode cX3_turnOfFirstRow 10 = .ok (.getfield 39, 3) := da9_dX3_turnOfFirstRow_0.2.2.2.2.2.2.1
theorem dX3_turnOfFirstRow_13 : decode cX3_turnOfFirstRow 13 = .ok (.aload_n 0, 1) := da9_dX3_turnOfFirstRow_0.2.2.2.2.2.2.2.1
theorem dX3_turnOfFirstRow_14 : decode cX3_turnOfFirstRow 14 = .ok (.getfield 58, 3) := da9_dX3_turnOfFirstRow_0.2.2.2.2.2.2.2.2.1
theorem dX3_turnOfFirstRow_17 : decode cX3_turnOfFirstRow 17 = .ok (.iaload, 1) := da9_dX3_turnOfFirstRow_0.2.2.2.2.2.2.2.2.2.1
theorem dX3_turnOfFirstRow_18 : decode cX3_turnOfFirstRow 18 = .ok (.if_icmp .lt 5, 3) := da9_dX3_turnOfFirstRow_0.2.2.2.2.2.2.2.2.2.2.1
theorem dX3_turnOfFirstRow_21 : decode cX3_turnOfFirstRow 21 = .ok (.iconst (-1), 1) := da9_dX3_turnOfFirstRow_0.2.2.2.2.2.2.2.2.2.2.2.1
theorem dX3_turnOfFirstRow_22 : decode cX3_turnOfFirstRow 22 = .ok (.ireturn, 1) := da9_dX3_turnOfFirstRow_0.2.2.2.2.2.2.2.2.2.2.2.2.1
theorem dX3_turnOfFirstRow_23 : decode cX3_turnOfFirstRow 23 = .ok (.aload_n 0, 1) := da9_dX3_turnOfFirstRow_0.2.2.2.2.2.2.2.2.2.2.2.2.2.1
theorem dX3_turnOfFirstRow_24 : decode cX3_turnOfFirstRow 24 = .ok (.getfield 58, 3) := da9_dX3_turnOfFirstRow_0.2.2.2.2.2.2.2.2.2.2.2.2.2.2.1
theorem dX3_turnOfFirstRow_27 : decode cX3_turnOfFirstRow 27 = .ok (.istore_n 2, 1) := da9_dX3_turnOfFirstRow_0.2.2.2.2.2.2.2.2.2.2.2.2.2.2.2
theorem da9_dX3_turnOfFirstRow_28 : (decode cX3_turnOfFirstRow 28 = .ok (.iconst 0, 1)) ∧ (decode cX3_turnOfFirstRow 29 = .ok (.istore_n 3, 1)) ∧ (decode cX3_turnOfFirstRow 30 = .ok (.iload_n 3, 1)) ∧ (decode cX3_turnOfFirstRow 31 = .ok (.iload_n 1, 1)) ∧ (decode cX3_turnOfFirstRow 32 = .ok (.if_icmp .ge 20, 3)) ∧ (decode cX3_turnOfFirstRow 35 = .ok (.aload_n 0, 1)) ∧ (decode cX3_turnOfFirstRow 36 = .ok (.iload_n 2, 1)) ∧ (decode cX3_turnOfFirstRow 37 = .ok (.aload_n 0, 1)) ∧ (decode cX3_turnOfFirstRow 38 = .ok (.iload_n 2, 1)) ∧ (decode cX3_turnOfFirstRow 39 = .ok (.invokevirtual 116, 3)) ∧ (decode cX3_turnOfFirstRow 42 = .ok (.invokevirtual 119, 3)) ∧ (decode cX3_turnOfFirstRow 45 = .ok (.istore_n 2, 1)) ∧ (decode cX3_turnOfFirstRow 46 = .ok (.iinc 3 1, 3)) ∧ (decode cX3_turnOfFirstRow 49 = .ok (.goto (-19), 3)) ∧ (decode cX3_turnOfFirstRow 52 = .ok (.aload_n 0, 1)) ∧ (decode cX3_turnOfFirstRow 53 = .ok (.iload_n 2, 1)) := by decide +kernel
theorem dX3_turnOfFirstRow_28 : decode cX3_turnOfFirstRow 28 = .ok (.iconst 0, 1) := da9_dX3_turnOfFirstRow_28.1
theorem dX3_turnOfFirstRow_29 : decode cX3_turnOfFirstRow 29 = .ok (.istore_n 3, 1) := da9_dX3_turnOfFirstRow_28.2.1
theorem dX3_turnOfFirstRow_30 : decode cX3_turnOfFirstRow 30 = .ok (.iload_n 3, 1) := da9_dX3_turnOfFirstRow_28.2.2.1
theorem dX3_turnOfFirstRow_31 : decode cX3_turnOfFirstRow 31 = .ok (.iload_n 1, 1) := da9_dX3_turnOfFirstRow_28.2.2.2.1
theorem dX3_turnOfFirstRow_32 : decode cX3_turnOfFirstRow 32 = .ok (.if_icmp .ge 20, 3) := da9_dX3_turnOfFirstRow_28.2.2.2.2.1
theorem dX3_turnOfFirstRow_35 : decode cX3_turnOfFirstRow 35 = .ok (.aload_n 0, 1) := da9_dX3_turnOfFirstRow_28.2.2.2.2.2.1
theorem dX3_turnOfFirstRow_36 : decode cX3_turnOfFirstRow 36 = .ok (.iload_n 2, 1) := da9_dX3_turnOfFirstRow_28.2.2.2.2.2.2.1
theorem dX3_turnOfFirstRow_37 : decode cX3_turnOfFirstRow 37 = .ok (.aload_n 0, 1) := da9_dX3_turnOfFirstRow_28.2.2.2.2.2.2.2.1
theorem dX3_turnOfFirstRow_38 : decode cX3_turnOfFirstRow 38 = .ok (.iload_n 2, 1) := da9_dX3_turnOfFirstRow_28.2.2.2.2.2.2.2.2.1
theorem dX3_turnOfFirstRow_39 : decode cX3_turnOfFirstRow 39 = .ok (.invokevirtual 116, 3) := da9_dX3_turnOfFirstRow_28.2.2.2.2.2.2.2.2.2.1
theorem dX3_turnOfFirstRow_42 : decode cX3_turnOfFirstRow 42 = .ok (.invokevirtual 119, 3) := da9_dX3_turnOfFirstRow_28.2.2.2.2.2.2.2.2.2.2.1
theorem dX3_turnOfFirstRow_45 : decode cX3_turnOfFirstRow 45 = .ok (.istore_n 2, 1) := da9_dX3_turnOfFirstRow_28.2.2.2.2.2.2.2.2.2.2.2.1
theorem dX3_turnOfFirstRow_46 : decode cX3_turnOfFirstRow 46 = .ok (.iinc 3 1, 3) := da9_dX3_turnOfFirstRow_28.2.2.2.2.2.2.2.2.2.2.2.2.1
theorem dX3_turnOfFirstRow_49 : decode cX3_turnOfFirstRow 49 = .ok (.goto (-19), 3) := da9_dX3_turnOfFirstRow_28.2.2.2.2.2.2.2.2.2.2.2.2.2.1
theorem dX3_turnOfFirstRow_52 : decode cX3_turnOfFirstRow 52 = .ok (.aload_n 0, 1) := da9_dX3_turnOfFirstRow_28.2.2.2.2.2.2.2.2.2.2.2.2.2.2.1
theorem dX3_turnOfFirstRow_53 : decode cX3_turnOfFirstRow 53 = .ok (.iload_n 2, 1) := da9_dX3_turnOfFirstRow_28.2.2.2.2.2.2.2.2.2.2.2.2.2.2.2
theorem da9_dX3_turnOfFirstRow_54 : (decode cX3_turnOfFirstRow 54 = .ok (.invokevirtual 116, 3)) ∧ (decode cX3_turnOfFirstRow 57 = .ok (.ireturn, 1)) := by decide +kernel
theorem dX3_turnOfFirstRow_54 : decode cX3_turnOfFirstRow 54 = .ok (.invokevirtual 116, 3) := da9_dX3_turnOfFirstRow_54.1
theorem dX3_turnOfFirstRow_57 : decode cX3_turnOfFirstRow 57 = .ok (.ireturn, 1) := da9_dX3_turnOfFirstRow_54.2
set_option maxRecDepth 20000 in
theorem ggX3_measure_X3_sameBars : GoodIn wsX3_measure wsX3_sameBars := wd_c vW9_ok mvW9_534
set_option maxRecDepth 20000 in
theorem gX3_measure_X3_sameBars : GoodIn wsX3_measure (wsV RX3 161 RX3 yX3_sameBars wsX3_sameBars) := goodIn_app (wd_l vW9_ok _ pvW9_26) ggX3_measure_X3_sameBars
set_option maxRecDepth 20000 in
theorem ggX3_measure_J7_fill_53178 : GoodIn wsX3_measure wsJ7_fill_53178 := wd_l vW9_ok _ (List.forall_mem_cons.mpr ⟨mvW9_512, (fun _ h => absurd h List.not_mem_nil)⟩)
set_option maxRecDepth 20000 in
theorem gX3_measure_J7_fill_53178 : GoodIn wsX3_measure (va_wsS RX3 122 yJ7_fill_53178 wsJ7_fill_53178) := goodIn_app (wd_l vW9_ok _ pvW9_17) ggX3_measure_J7_fill_53178
set_option maxRecDepth 20000 in
theorem ggX3_measure_X3_isOrdered : GoodIn wsX3_measure wsX3_isOrdered := wd_c vW9_ok mvW9_538
set_option maxRecDepth 20000 in
theorem gX3_measure_X3_isOrdered : GoodIn wsX3_measure (wsV RX3 148 RX3 yX3_isOrdered wsX3_isOrdered) := goodIn_app (wd_l vW9_ok _ pvW9_22) ggX3_measure_X3_isOrdered
set_option maxRecDepth 20000 in
theorem ggX3_measure_X3_turned : GoodIn wsX3_measure wsX3_turned := wd_c vW9_ok mvW9_542
set_option maxRecDepth 20000 in
theorem gX3_measure_X3_turned : GoodIn wsX3_measure (wsV RX3 119 RX3 yX3_turned wsX3_turned) := goodIn_app (wd_l vW9_ok _ pvW9_16) ggX3_measure_X3_turned
set_option maxRecDepth 20000 in
theorem ggX3_measure_X3_caseOf : GoodIn wsX3_measure wsX3_caseOf := wd_c vW9_ok mvW9_546
set_option maxRecDepth 20000 in
theorem gX3_measure_X3_caseOf : GoodIn wsX3_measure (wsV RX3 154 RX3 yX3_caseOf wsX3_caseOf) := goodIn_app (wd_l vW9_ok _ pvW9_24) ggX3_measure_X3_caseOf
theorem da9_dX3_measure_0 : (decode cX3_measure 0 = .ok (.aload_n 0, 1)) ∧ (decode cX3_measure 1 = .ok (.getfield 64, 3)) ∧ (decode cX3_measure 4 = .ok (.aload_n 0, 1)) ∧ (decode cX3_measure 5 = .ok (.getfield 51, 3)) ∧ (decode cX3_measure 8 = .ok (.if_icmp .ne 22, 3)) ∧ (decode cX3_measure 11 = .ok (.aload_n 0, 1)) ∧ (decode cX3_measure 12 = .ok (.getfield 67, 3)) ∧ (decode cX3_measure 15 = .ok (.aload_n 0, 1)) ∧ (decode cX3_measure 16 = .ok (.getfield 61, 3)) ∧ (decode cX3_measure 19 = .ok (.if_icmp .ne 11, 3)) ∧ (decode cX3_measure 22 = .ok (.aload_n 0, 1)) ∧ (decode cX3_measure 23 = .ok (.invokevirtual 161, 3)) ∧ (decode cX3_measure 26 = .ok (.ifCond .eq 4, 3)) ∧ (decode cX3_measure 29 = .ok (.return_, 1)) ∧ (decode cX3_measure 30 = .ok (.aload_n 0, 1)) ∧ (decode cX3_measure 31 = .ok (.getfield 39, 3)) := by decide +kernel
theorem dX3_measure_0 : decode cX3_measure 0 = .ok (.aload_n 0, 1) := da9_dX3_measure_0.1
theorem dX3_measure_1 : decode cX3_measure 1 = .ok (.getfield 64, 3) := da9_dX3_measure_0.2.1
theorem dX3_measure_4 : decode cX3_measure 4 = .ok (.aload_n 0, 1) := da9_dX3_measure_0.2.2.1
theorem dX3_measure_5 : decode cX3_measure 5 = .ok (.getfield 51, 3) := da9_dX3_measure_0.2.2.2.1
theorem dX3_measure_8 : decode cX3_measure 8 = .ok (.if_icmp .ne 22, 3) := da9_dX3_measure_0.2.2.2.2.1
theorem dX3_measure_11 : decode cX3_measure 11 = .ok (.aload_n 0, 1) := da9_dX3_measure_0.2.2.2.2.2.1
theorem dX3_measure_12 : decode cX3_measure 12 = .ok (.getfield 67, 3) := da9_dX3_measure_0.2.2.2.2.2.2.1
theorem dX3_measure_15 : decode cX3_measure 15 = .ok (.aload_n 0, 1) := da9_dX3_measure_0.2.2.2.2.2.2.2.1
theorem dX3_measure_16 : decode cX3_measure 16 = .ok (.getfield 61, 3) := da9_dX3_measure_0.2.2.2.2.2.2.2.2.1
theorem dX3_measure_19 : decode cX3_measure 19 = .ok (.if_icmp .ne 11, 3) := da9_dX3_measure_0.2.2.2.2.2.2.2.2.2.1
theorem dX3_measure_22 : decode cX3_measure 22 = .ok (.aload_n 0, 1) := da9_dX3_measure_0.2.2.2.2.2.2.2.2.2.2.1
theorem dX3_measure_23 : decode cX3_measure 23 = .ok (.invokevirtual 161, 3) := da9_dX3_measure_0.2.2.2.2.2.2.2.2.2.2.2.1
theorem dX3_measure_26 : decode cX3_measure 26 = .ok (.ifCond .eq 4, 3) := da9_dX3_measure_0.2.2.2.2.2.2.2.2.2.2.2.2.1
theorem dX3_measure_29 : decode cX3_measure 29 = .ok (.return_, 1) := da9_dX3_measure_0.2.2.2.2.2.2.2.2.2.2.2.2.2.1
theorem dX3_measure_30 : decode cX3_measure 30 = .ok (.aload_n 0, 1) := da9_dX3_measure_0.2.2.2.2.2.2.2.2.2.2.2.2.2.2.1
theorem dX3_measure_31 : decode cX3_measure 31 = .ok (.getfield 39, 3) := da9_dX3_measure_0.2.2.2.2.2.2.2.2.2.2.2.2.2.2.2
theorem da9_dX3_measure_34 : (decode cX3_measure 34 = .ok (.iconst (-1), 1)) ∧ (decode cX3_measure 35 = .ok (.invokestatic 122, 3)) ∧ (decode cX3_measure 38 = .ok (.iconst 0, 1)) ∧ (decode cX3_measure 39 = .ok (.istore_n 1, 1)) ∧ (decode cX3_measure 40 = .ok (.iconst 0, 1)) ∧ (decode cX3_measure 41 = .ok (.istore_n 2, 1)) ∧ (decode cX3_measure 42 = .ok (.iload_n 2, 1)) ∧ (decode cX3_measure 43 = .ok (.aload_n 0, 1)) ∧ (decode cX3_measure 44 = .ok (.getfield 55, 3)) ∧ (decode cX3_measure 47 = .ok (.if_icmp .ge 34, 3)) ∧ (decode cX3_measure 50 = .ok (.aload_n 0, 1)) ∧ (decode cX3_measure 51 = .ok (.iload_n 2, 1)) ∧ (decode cX3_measure 52 = .ok (.invokevirtual 148, 3)) ∧ (decode cX3_measure 55 = .ok (.ifCond .eq 26, 3)) ∧ (decode cX3_measure 58 = .ok (.aload_n 0, 1)) ∧ (decode cX3_measure 59 = .ok (.getfield 39, 3)) := by decide +kernel
theorem dX3_measure_34 : decode cX3_measure 34 = .ok (.iconst (-1), 1) := da9_dX3_measure_34.1
theorem dX3_measure_35 : decode cX3_measure 35 = .ok (.invokestatic 122, 3) := da9_dX3_measure_34.2.1
theorem dX3_measure_38 : decode cX3_measure 38 = .ok (.iconst 0, 1) := da9_dX3_measure_34.2.2.1
theorem dX3_measure_39 : decode cX3_measure 39 = .ok (.istore_n 1, 1) := da9_dX3_measure_34.2.2.2.1
theorem dX3_measure_40 : decode cX3_measure 40 = .ok (.iconst 0, 1) := da9_dX3_measure_34.2.2.2.2.1
theorem dX3_measure_41 : decode cX3_measure 41 = .ok (.istore_n 2, 1) := da9_dX3_measure_34.2.2.2.2.2.1
theorem dX3_measure_42 : decode cX3_measure 42 = .ok (.iload_n 2, 1) := da9_dX3_measure_34.2.2.2.2.2.2.1
theorem dX3_measure_43 : decode cX3_measure 43 = .ok (.aload_n 0, 1) := da9_dX3_measure_34.2.2.2.2.2.2.2.1
theorem dX3_measure_44 : decode cX3_measure 44 = .ok (.getfield 55, 3) := da9_dX3_measure_34.2.2.2.2.2.2.2.2.1
theorem dX3_measure_47 : decode cX3_measure 47 = .ok (.if_icmp .ge 34, 3) := da9_dX3_measure_34.2.2.2.2.2.2.2.2.2.1
theorem dX3_measure_50 : decode cX3_measure 50 = .ok (.aload_n 0, 1) := da9_dX3_measure_34.2.2.2.2.2.2.2.2.2.2.1
theorem dX3_measure_51 : decode cX3_measure 51 = .ok (.iload_n 2, 1) := da9_dX3_measure_34.2.2.2.2.2.2.2.2.2.2.2.1
theorem dX3_measure_52 : decode cX3_measure 52 = .ok (.invokevirtual 148, 3) := da9_dX3_measure_34.2.2.2.2.2.2.2.2.2.2.2.2.1
theorem dX3_measure_55 : decode cX3_measure 55 = .ok (.ifCond .eq 26, 3) := da9_dX3_measure_34.2.2.2.2.2.2.2.2.2.2.2.2.2.1
theorem dX3_measure_58 : decode cX3_measure 58 = .ok (.aload_n 0, 1) := da9_dX3_measure_34.2.2.2.2.2.2.2.2.2.2.2.2.2.2.1
theorem dX3_measure_59 : decode cX3_measure 59 = .ok (.getfield 39, 3) := da9_dX3_measure_34.2.2.2.2.2.2.2.2.2.2.2.2.2.2.2
theorem da9_dX3_measure_62 : (decode cX3_measure 62 = .ok (.iload_n 2, 1)) ∧ (decode cX3_measure 63 = .ok (.iconst 0, 1)) ∧ (decode cX3_measure 64 = .ok (.iastore, 1)) ∧ (decode cX3_measure 65 = .ok (.aload_n 0, 1)) ∧ (decode cX3_measure 66 = .ok (.getfield 45, 3)) ∧ (decode cX3_measure 69 = .ok (.iload_n 1, 1)) ∧ (decode cX3_measure 70 = .ok (.iload_n 2, 1)) ∧ (decode cX3_measure 71 = .ok (.iastore, 1)) ∧ (decode cX3_measure 72 = .ok (.iinc 1 1, 3)) ∧ (decode cX3_measure 75 = .ok (.iinc 2 1, 3)) ∧ (decode cX3_measure 78 = .ok (.goto (-36), 3)) ∧ (decode cX3_measure 81 = .ok (.iconst 0, 1)) ∧ (decode cX3_measure 82 = .ok (.istore_n 2, 1)) ∧ (decode cX3_measure 83 = .ok (.iload_n 2, 1)) ∧ (decode cX3_measure 84 = .ok (.aload_n 0, 1)) ∧ (decode cX3_measure 85 = .ok (.getfield 55, 3)) := by decide +kernel
theorem dX3_measure_62 : decode cX3_measure 62 = .ok (.iload_n 2, 1) := da9_dX3_measure_62.1
theorem dX3_measure_63 : decode cX3_measure 63 = .ok (.iconst 0, 1) := da9_dX3_measure_62.2.1
theorem dX3_measure_64 : decode cX3_measure 64 = .ok (.iastore, 1) := da9_dX3_measure_62.2.2.1
theorem dX3_measure_65 : decode cX3_measure 65 = .ok (.aload_n 0, 1) := da9_dX3_measure_62.2.2.2.1
theorem dX3_measure_66 : decode cX3_measure 66 = .ok (.getfield 45, 3) := da9_dX3_measure_62.2.2.2.2.1
theorem dX3_measure_69 : decode cX3_measure 69 = .ok (.iload_n 1, 1) := da9_dX3_measure_62.2.2.2.2.2.1
theorem dX3_measure_70 : decode cX3_measure 70 = .ok (.iload_n 2, 1) := da9_dX3_measure_62.2.2.2.2.2.2.1
theorem dX3_measure_71 : decode cX3_measure 71 = .ok (.iastore, 1) := da9_dX3_measure_62.2.2.2.2.2.2.2.1
theorem dX3_measure_72 : decode cX3_measure 72 = .ok (.iinc 1 1, 3) := da9_dX3_measure_62.2.2.2.2.2.2.2.2.1
theorem dX3_measure_75 : decode cX3_measure 75 = .ok (.iinc 2 1, 3) := da9_dX3_measure_62.2.2.2.2.2.2.2.2.2.1
theorem dX3_measure_78 : decode cX3_measure 78 = .ok (.goto (-36), 3) := da9_dX3_measure_62.2.2.2.2.2.2.2.2.2.2.1
theorem dX3_measure_81 : decode cX3_measure 81 = .ok (.iconst 0, 1) := da9_dX3_measure_62.2.2.2.2.2.2.2.2.2.2.2.1
theorem dX3_measure_82 : decode cX3_measure 82 = .ok (.istore_n 2, 1) := da9_dX3_measure_62.2.2.2.2.2.2.2.2.2.2.2.2.1
theorem dX3_measure_83 : decode cX3_measure 83 = .ok (.iload_n 2, 1) := da9_dX3_measure_62.2.2.2.2.2.2.2.2.2.2.2.2.2.1
theorem dX3_measure_84 : decode cX3_measure 84 = .ok (.aload_n 0, 1) := da9_dX3_measure_62.2.2.2.2.2.2.2.2.2.2.2.2.2.2.1
theorem dX3_measure_85 : decode cX3_measure 85 = .ok (.getfield 55, 3) := da9_dX3_measure_62.2.2.2.2.2.2.2.2.2.2.2.2.2.2.2
theorem da9_dX3_measure_88 : (decode cX3_measure 88 = .ok (.if_icmp .ge 109, 3)) ∧ (decode cX3_measure 91 = .ok (.iload_n 2, 1)) ∧ (decode cX3_measure 92 = .ok (.iload_n 1, 1)) ∧ (decode cX3_measure 93 = .ok (.if_icmp .ge 104, 3)) ∧ (decode cX3_measure 96 = .ok (.aload_n 0, 1)) ∧ (decode cX3_measure 97 = .ok (.getfield 45, 3)) ∧ (decode cX3_measure 100 = .ok (.iload_n 2, 1)) ∧ (decode cX3_measure 101 = .ok (.iaload, 1)) ∧ (decode cX3_measure 102 = .ok (.istore_n 3, 1)) ∧ (decode cX3_measure 103 = .ok (.iconst 1, 1)) ∧ (decode cX3_measure 104 = .ok (.istore 4, 2)) ∧ (decode cX3_measure 106 = .ok (.iload 4, 2)) ∧ (decode cX3_measure 108 = .ok (.aload_n 0, 1)) ∧ (decode cX3_measure 109 = .ok (.getfield 51, 3)) ∧ (decode cX3_measure 112 = .ok (.if_icmp .gt 79, 3)) ∧ (decode cX3_measure 115 = .ok (.aload_n 0, 1)) := by decide +kernel
theorem dX3_measure_88 : decode cX3_measure 88 = .ok (.if_icmp .ge 109, 3) := da9_dX3_measure_88.1
theorem dX3_measure_91 : decode cX3_measure 91 = .ok (.iload_n 2, 1) := da9_dX3_measure_88.2.1
theorem dX3_measure_92 : decode cX3_measure 92 = .ok (.iload_n 1, 1) := da9_dX3_measure_88.2.2.1
theorem dX3_measure_93 : decode cX3_measure 93 = .ok (.if_icmp .ge 104, 3) := da9_dX3_measure_88.2.2.2.1
theorem dX3_measure_96 : decode cX3_measure 96 = .ok (.aload_n 0, 1) := da9_dX3_measure_88.2.2.2.2.1
theorem dX3_measure_97 : decode cX3_measure 97 = .ok (.getfield 45, 3) := da9_dX3_measure_88.2.2.2.2.2.1
theorem dX3_measure_100 : decode cX3_measure 100 = .ok (.iload_n 2, 1) := da9_dX3_measure_88.2.2.2.2.2.2.1
theorem dX3_measure_101 : decode cX3_measure 101 = .ok (.iaload, 1) := da9_dX3_measure_88.2.2.2.2.2.2.2.1
theorem dX3_measure_102 : decode cX3_measure 102 = .ok (.istore_n 3, 1) := da9_dX3_measure_88.2.2.2.2.2.2.2.2.1
theorem dX3_measure_103 : decode cX3_measure 103 = .ok (.iconst 1, 1) := da9_dX3_measure_88.2.2.2.2.2.2.2.2.2.1
theorem dX3_measure_104 : decode cX3_measure 104 = .ok (.istore 4, 2) := da9_dX3_measure_88.2.2.2.2.2.2.2.2.2.2.1
theorem dX3_measure_106 : decode cX3_measure 106 = .ok (.iload 4, 2) := da9_dX3_measure_88.2.2.2.2.2.2.2.2.2.2.2.1
theorem dX3_measure_108 : decode cX3_measure 108 = .ok (.aload_n 0, 1) := da9_dX3_measure_88.2.2.2.2.2.2.2.2.2.2.2.2.1
theorem dX3_measure_109 : decode cX3_measure 109 = .ok (.getfield 51, 3) := da9_dX3_measure_88.2.2.2.2.2.2.2.2.2.2.2.2.2.1
theorem dX3_measure_112 : decode cX3_measure 112 = .ok (.if_icmp .gt 79, 3) := da9_dX3_measure_88.2.2.2.2.2.2.2.2.2.2.2.2.2.2.1
theorem dX3_measure_115 : decode cX3_measure 115 = .ok (.aload_n 0, 1) := da9_dX3_measure_88.2.2.2.2.2.2.2.2.2.2.2.2.2.2.2
theorem da9_dX3_measure_116 : (decode cX3_measure 116 = .ok (.iload_n 3, 1)) ∧ (decode cX3_measure 117 = .ok (.iload 4, 2)) ∧ (decode cX3_measure 119 = .ok (.invokevirtual 119, 3)) ∧ (decode cX3_measure 122 = .ok (.istore 5, 2)) ∧ (decode cX3_measure 124 = .ok (.aload_n 0, 1)) ∧ (decode cX3_measure 125 = .ok (.getfield 39, 3)) ∧ (decode cX3_measure 128 = .ok (.iload 5, 2)) ∧ (decode cX3_measure 130 = .ok (.iaload, 1)) ∧ (decode cX3_measure 131 = .ok (.iconst (-1), 1)) ∧ (decode cX3_measure 132 = .ok (.if_icmp .ne 53, 3)) ∧ (decode cX3_measure 135 = .ok (.aload_n 0, 1)) ∧ (decode cX3_measure 136 = .ok (.getfield 18, 3)) ∧ (decode cX3_measure 139 = .ok (.aload_n 0, 1)) ∧ (decode cX3_measure 140 = .ok (.iload 5, 2)) ∧ (decode cX3_measure 142 = .ok (.iload 4, 2)) ∧ (decode cX3_measure 144 = .ok (.invokevirtual 154, 3)) := by decide +kernel
theorem dX3_measure_116 : decode cX3_measure 116 = .ok (.iload_n 3, 1) := da9_dX3_measure_116.1
theorem dX3_measure_117 : decode cX3_measure 117 = .ok (.iload 4, 2) := da9_dX3_measure_116.2.1
theorem dX3_measure_119 : decode cX3_measure 119 = .ok (.invokevirtual 119, 3) := da9_dX3_measure_116.2.2.1
theorem dX3_measure_122 : decode cX3_measure 122 = .ok (.istore 5, 2) := da9_dX3_measure_116.2.2.2.1
theorem dX3_measure_124 : decode cX3_measure 124 = .ok (.aload_n 0, 1) := da9_dX3_measure_116.2.2.2.2.1
theorem dX3_measure_125 : decode cX3_measure 125 = .ok (.getfield 39, 3) := da9_dX3_measure_116.2.2.2.2.2.1
theorem dX3_measure_128 : decode cX3_measure 128 = .ok (.iload 5, 2) := da9_dX3_measure_116.2.2.2.2.2.2.1
theorem dX3_measure_130 : decode cX3_measure 130 = .ok (.iaload, 1) := da9_dX3_measure_116.2.2.2.2.2.2.2.1
theorem dX3_measure_131 : decode cX3_measure 131 = .ok (.iconst (-1), 1) := da9_dX3_measure_116.2.2.2.2.2.2.2.2.1
theorem dX3_measure_132 : decode cX3_measure 132 = .ok (.if_icmp .ne 53, 3) := da9_dX3_measure_116.2.2.2.2.2.2.2.2.2.1
theorem dX3_measure_135 : decode cX3_measure 135 = .ok (.aload_n 0, 1) := da9_dX3_measure_116.2.2.2.2.2.2.2.2.2.2.1
theorem dX3_measure_136 : decode cX3_measure 136 = .ok (.getfield 18, 3) := da9_dX3_measure_116.2.2.2.2.2.2.2.2.2.2.2.1
theorem dX3_measure_139 : decode cX3_measure 139 = .ok (.aload_n 0, 1) := da9_dX3_measure_116.2.2.2.2.2.2.2.2.2.2.2.2.1
theorem dX3_measure_140 : decode cX3_measure 140 = .ok (.iload 5, 2) := da9_dX3_measure_116.2.2.2.2.2.2.2.2.2.2.2.2.2.1
theorem dX3_measure_142 : decode cX3_measure 142 = .ok (.iload 4, 2) := da9_dX3_measure_116.2.2.2.2.2.2.2.2.2.2.2.2.2.2.1
theorem dX3_measure_144 : decode cX3_measure 144 = .ok (.invokevirtual 154, 3) := da9_dX3_measure_116.2.2.2.2.2.2.2.2.2.2.2.2.2.2.2
theorem da9_dX3_measure_147 : (decode cX3_measure 147 = .ok (.iaload, 1)) ∧ (decode cX3_measure 148 = .ok (.ifCond .ne 37, 3)) ∧ (decode cX3_measure 151 = .ok (.iload_n 1, 1)) ∧ (decode cX3_measure 152 = .ok (.aload_n 0, 1)) ∧ (decode cX3_measure 153 = .ok (.getfield 55, 3)) ∧ (decode cX3_measure 156 = .ok (.if_icmp .ge 29, 3)) ∧ (decode cX3_measure 159 = .ok (.aload_n 0, 1)) ∧ (decode cX3_measure 160 = .ok (.getfield 39, 3)) ∧ (decode cX3_measure 163 = .ok (.iload 5, 2)) ∧ (decode cX3_measure 165 = .ok (.aload_n 0, 1)) ∧ (decode cX3_measure 166 = .ok (.getfield 39, 3)) ∧ (decode cX3_measure 169 = .ok (.iload_n 3, 1)) ∧ (decode cX3_measure 170 = .ok (.iaload, 1)) ∧ (decode cX3_measure 171 = .ok (.iconst 1, 1)) ∧ (decode cX3_measure 172 = .ok (.iadd, 1)) ∧ (decode cX3_measure 173 = .ok (.iastore, 1)) := by decide +kernel
theorem dX3_measure_147 : decode cX3_measure 147 = .ok (.iaload, 1) := da9_dX3_measure_147.1
theorem dX3_measure_148 : decode cX3_measure 148 = .ok (.ifCond .ne 37, 3) := da9_dX3_measure_147.2.1
theorem dX3_measure_151 : decode cX3_measure 151 = .ok (.iload_n 1, 1) := da9_dX3_measure_147.2.2.1
theorem dX3_measure_152 : decode cX3_measure 152 = .ok (.aload_n 0, 1) := da9_dX3_measure_147.2.2.2.1
theorem dX3_measure_153 : decode cX3_measure 153 = .ok (.getfield 55, 3) := da9_dX3_measure_147.2.2.2.2.1
theorem dX3_measure_156 : decode cX3_measure 156 = .ok (.if_icmp .ge 29, 3) := da9_dX3_measure_147.2.2.2.2.2.1
theorem dX3_measure_159 : decode cX3_measure 159 = .ok (.aload_n 0, 1) := da9_dX3_measure_147.2.2.2.2.2.2.1
theorem dX3_measure_160 : decode cX3_measure 160 = .ok (.getfield 39, 3) := da9_dX3_measure_147.2.2.2.2.2.2.2.1
theorem dX3_measure_163 : decode cX3_measure 163 = .ok (.iload 5, 2) := da9_dX3_measure_147.2.2.2.2.2.2.2.2.1
theorem dX3_measure_165 : decode cX3_measure 165 = .ok (.aload_n 0, 1) := da9_dX3_measure_147.2.2.2.2.2.2.2.2.2.1
theorem dX3_measure_166 : decode cX3_measure 166 = .ok (.getfield 39, 3) := da9_dX3_measure_147.2.2.2.2.2.2.2.2.2.2.1
theorem dX3_measure_169 : decode cX3_measure 169 = .ok (.iload_n 3, 1) := da9_dX3_measure_147.2.2.2.2.2.2.2.2.2.2.2.1
theorem dX3_measure_170 : decode cX3_measure 170 = .ok (.iaload, 1) := da9_dX3_measure_147.2.2.2.2.2.2.2.2.2.2.2.2.1
theorem dX3_measure_171 : decode cX3_measure 171 = .ok (.iconst 1, 1) := da9_dX3_measure_147.2.2.2.2.2.2.2.2.2.2.2.2.2.1
theorem dX3_measure_172 : decode cX3_measure 172 = .ok (.iadd, 1) := da9_dX3_measure_147.2.2.2.2.2.2.2.2.2.2.2.2.2.2.1
theorem dX3_measure_173 : decode cX3_measure 173 = .ok (.iastore, 1) := da9_dX3_measure_147.2.2.2.2.2.2.2.2.2.2.2.2.2.2.2
theorem da9_dX3_measure_174 : (decode cX3_measure 174 = .ok (.aload_n 0, 1)) ∧ (decode cX3_measure 175 = .ok (.getfield 45, 3)) ∧ (decode cX3_measure 178 = .ok (.iload_n 1, 1)) ∧ (decode cX3_measure 179 = .ok (.iload 5, 2)) ∧ (decode cX3_measure 181 = .ok (.iastore, 1)) ∧ (decode cX3_measure 182 = .ok (.iinc 1 1, 3)) ∧ (decode cX3_measure 185 = .ok (.iinc 4 1, 3)) ∧ (decode cX3_measure 188 = .ok (.goto (-82), 3)) ∧ (decode cX3_measure 191 = .ok (.iinc 2 1, 3)) ∧ (decode cX3_measure 194 = .ok (.goto (-111), 3)) ∧ (decode cX3_measure 197 = .ok (.aload_n 0, 1)) ∧ (decode cX3_measure 198 = .ok (.aload_n 0, 1)) ∧ (decode cX3_measure 199 = .ok (.getfield 51, 3)) ∧ (decode cX3_measure 202 = .ok (.putfield 64, 3)) ∧ (decode cX3_measure 205 = .ok (.aload_n 0, 1)) ∧ (decode cX3_measure 206 = .ok (.aload_n 0, 1)) := by decide +kernel
theorem dX3_measure_174 : decode cX3_measure 174 = .ok (.aload_n 0, 1) := da9_dX3_measure_174.1
theorem dX3_measure_175 : decode cX3_measure 175 = .ok (.getfield 45, 3) := da9_dX3_measure_174.2.1
theorem dX3_measure_178 : decode cX3_measure 178 = .ok (.iload_n 1, 1) := da9_dX3_measure_174.2.2.1
theorem dX3_measure_179 : decode cX3_measure 179 = .ok (.iload 5, 2) := da9_dX3_measure_174.2.2.2.1
theorem dX3_measure_181 : decode cX3_measure 181 = .ok (.iastore, 1) := da9_dX3_measure_174.2.2.2.2.1
theorem dX3_measure_182 : decode cX3_measure 182 = .ok (.iinc 1 1, 3) := da9_dX3_measure_174.2.2.2.2.2.1
theorem dX3_measure_185 : decode cX3_measure 185 = .ok (.iinc 4 1, 3) := da9_dX3_measure_174.2.2.2.2.2.2.1
theorem dX3_measure_188 : decode cX3_measure 188 = .ok (.goto (-82), 3) := da9_dX3_measure_174.2.2.2.2.2.2.2.1
theorem dX3_measure_191 : decode cX3_measure 191 = .ok (.iinc 2 1, 3) := da9_dX3_measure_174.2.2.2.2.2.2.2.2.1
theorem dX3_measure_194 : decode cX3_measure 194 = .ok (.goto (-111), 3) := da9_dX3_measure_174.2.2.2.2.2.2.2.2.2.1
theorem dX3_measure_197 : decode cX3_measure 197 = .ok (.aload_n 0, 1) := da9_dX3_measure_174.2.2.2.2.2.2.2.2.2.2.1
theorem dX3_measure_198 : decode cX3_measure 198 = .ok (.aload_n 0, 1) := da9_dX3_measure_174.2.2.2.2.2.2.2.2.2.2.2.1
theorem dX3_measure_199 : decode cX3_measure 199 = .ok (.getfield 51, 3) := da9_dX3_measure_174.2.2.2.2.2.2.2.2.2.2.2.2.1
theorem dX3_measure_202 : decode cX3_measure 202 = .ok (.putfield 64, 3) := da9_dX3_measure_174.2.2.2.2.2.2.2.2.2.2.2.2.2.1
theorem dX3_measure_205 : decode cX3_measure 205 = .ok (.aload_n 0, 1) := da9_dX3_measure_174.2.2.2.2.2.2.2.2.2.2.2.2.2.2.1
theorem dX3_measure_206 : decode cX3_measure 206 = .ok (.aload_n 0, 1) := da9_dX3_measure_174.2.2.2.2.2.2.2.2.2.2.2.2.2.2.2
theorem da9_dX3_measure_207 : (decode cX3_measure 207 = .ok (.getfield 61, 3)) ∧ (decode cX3_measure 210 = .ok (.putfield 67, 3)) ∧ (decode cX3_measure 213 = .ok (.aload_n 0, 1)) ∧ (decode cX3_measure 214 = .ok (.getfield 18, 3)) ∧ (decode cX3_measure 217 = .ok (.iconst 0, 1)) ∧ (decode cX3_measure 218 = .ok (.aload_n 0, 1)) ∧ (decode cX3_measure 219 = .ok (.getfield 24, 3)) ∧ (decode cX3_measure 222 = .ok (.iconst 0, 1)) ∧ (decode cX3_measure 223 = .ok (.sipush 504, 3)) ∧ (decode cX3_measure 226 = .ok (.invokestatic 165, 3)) ∧ (decode cX3_measure 229 = .ok (.return_, 1)) := by decide +kernel
theorem dX3_measure_207 : decode cX3_measure 207 = .ok (.getfield 61, 3) := da9_dX3_measure_207.1
theorem dX3_measure_210 : decode cX3_measure 210 = .ok (.putfield 67, 3) := da9_dX3_measure_207.2.1
theorem dX3_measure_213 : decode cX3_measure 213 = .ok (.aload_n 0, 1) := da9_dX3_measure_207.2.2.1
theorem dX3_measure_214 : decode cX3_measure 214 = .ok (.getfield 18, 3) := da9_dX3_measure_207.2.2.2.1
theorem dX3_measure_217 : decode cX3_measure 217 = .ok (.iconst 0, 1) := da9_dX3_measure_207.2.2.2.2.1
theorem dX3_measure_218 : decode cX3_measure 218 = .ok (.aload_n 0, 1) := da9_dX3_measure_207.2.2.2.2.2.1
theorem dX3_measure_219 : decode cX3_measure 219 = .ok (.getfield 24, 3) := da9_dX3_measure_207.2.2.2.2.2.2.1
theorem dX3_measure_222 : decode cX3_measure 222 = .ok (.iconst 0, 1) := da9_dX3_measure_207.2.2.2.2.2.2.2.1
theorem dX3_measure_223 : decode cX3_measure 223 = .ok (.sipush 504, 3) := da9_dX3_measure_207.2.2.2.2.2.2.2.2.1
theorem dX3_measure_226 : decode cX3_measure 226 = .ok (.invokestatic 165, 3) := da9_dX3_measure_207.2.2.2.2.2.2.2.2.2.1
theorem dX3_measure_229 : decode cX3_measure 229 = .ok (.return_, 1) := da9_dX3_measure_207.2.2.2.2.2.2.2.2.2.2
set_option maxRecDepth 20000 in
theorem ggX3_firstCloser_X3_isCloser : GoodIn wsX3_firstCloser wsX3_isCloser := wd_c vW9_ok mvW9_558
set_option maxRecDepth 20000 in
theorem gX3_firstCloser_X3_isCloser : GoodIn wsX3_firstCloser (wsV RX3 129 RX3 yX3_isCloser wsX3_isCloser) := goodIn_app (wd_l vW9_ok _ pvW9_18) ggX3_firstCloser_X3_isCloser
theorem da9_dX3_firstCloser_0 : (decode cX3_firstCloser 0 = .ok (.iconst 1, 1)) ∧ (decode cX3_firstCloser 1 = .ok (.istore_n 2, 1)) ∧ (decode cX3_firstCloser 2 = .ok (.iload_n 2, 1)) ∧ (decode cX3_firstCloser 3 = .ok (.aload_n 0, 1)) ∧ (decode cX3_firstCloser 4 = .ok (.getfield 51, 3)) ∧ (decode cX3_firstCloser 7 = .ok (.if_icmp .gt 20, 3)) ∧ (decode cX3_firstCloser 10 = .ok (.aload_n 0, 1)) ∧ (decode cX3_firstCloser 11 = .ok (.iload_n 1, 1)) ∧ (decode cX3_firstCloser 12 = .ok (.iload_n 2, 1)) ∧ (decode cX3_firstCloser 13 = .ok (.invokevirtual 129, 3)) ∧ (decode cX3_firstCloser 16 = .ok (.ifCond .eq 5, 3)) ∧ (decode cX3_firstCloser 19 = .ok (.iload_n 2, 1)) ∧ (decode cX3_firstCloser 20 = .ok (.ireturn, 1)) ∧ (decode cX3_firstCloser 21 = .ok (.iinc 2 1, 3)) ∧ (decode cX3_firstCloser 24 = .ok (.goto (-22), 3)) ∧ (decode cX3_firstCloser 27 = .ok (.iconst (-1), 1)) := by decide +kernel
theorem dX3_firstCloser_0 : decode cX3_firstCloser 0 = .ok (.iconst 1, 1) := da9_dX3_firstCloser_0.1
theorem dX3_firstCloser_1 : decode cX3_firstCloser 1 = .ok (.istore_n 2, 1) := da9_dX3_firstCloser_0.2.1
theorem dX3_firstCloser_2 : decode cX3_firstCloser 2 = .ok (.iload_n 2, 1) := da9_dX3_firstCloser_0.2.2.1
theorem dX3_firstCloser_3 : decode cX3_firstCloser 3 = .ok (.aload_n 0, 1) := da9_dX3_firstCloser_0.2.2.2.1
theorem dX3_firstCloser_4 : decode cX3_firstCloser 4 = .ok (.getfield 51, 3) := da9_dX3_firstCloser_0.2.2.2.2.1
theorem dX3_firstCloser_7 : decode cX3_firstCloser 7 = .ok (.if_icmp .gt 20, 3) := da9_dX3_firstCloser_0.2.2.2.2.2.1
theorem dX3_firstCloser_10 : decode cX3_firstCloser 10 = .ok (.aload_n 0, 1) := da9_dX3_firstCloser_0.2.2.2.2.2.2.1
theorem dX3_firstCloser_11 : decode cX3_firstCloser 11 = .ok (.iload_n 1, 1) := da9_dX3_firstCloser_0.2.2.2.2.2.2.2.1
theorem dX3_firstCloser_12 : decode cX3_firstCloser 12 = .ok (.iload_n 2, 1) := da9_dX3_firstCloser_0.2.2.2.2.2.2.2.2.1
theorem dX3_firstCloser_13 : decode cX3_firstCloser 13 = .ok (.invokevirtual 129, 3) := da9_dX3_firstCloser_0.2.2.2.2.2.2.2.2.2.1
theorem dX3_firstCloser_16 : decode cX3_firstCloser 16 = .ok (.ifCond .eq 5, 3) := da9_dX3_firstCloser_0.2.2.2.2.2.2.2.2.2.2.1
theorem dX3_firstCloser_19 : decode cX3_firstCloser 19 = .ok (.iload_n 2, 1) := da9_dX3_firstCloser_0.2.2.2.2.2.2.2.2.2.2.2.1
theorem dX3_firstCloser_20 : decode cX3_firstCloser 20 = .ok (.ireturn, 1) := da9_dX3_firstCloser_0.2.2.2.2.2.2.2.2.2.2.2.2.1
theorem dX3_firstCloser_21 : decode cX3_firstCloser 21 = .ok (.iinc 2 1, 3) := da9_dX3_firstCloser_0.2.2.2.2.2.2.2.2.2.2.2.2.2.1
theorem dX3_firstCloser_24 : decode cX3_firstCloser 24 = .ok (.goto (-22), 3) := da9_dX3_firstCloser_0.2.2.2.2.2.2.2.2.2.2.2.2.2.2.1
theorem dX3_firstCloser_27 : decode cX3_firstCloser 27 = .ok (.iconst (-1), 1) := da9_dX3_firstCloser_0.2.2.2.2.2.2.2.2.2.2.2.2.2.2.2
theorem dX3_firstCloser_28 : decode cX3_firstCloser 28 = .ok (.ireturn, 1) := by decide +kernel
set_option maxRecDepth 20000 in
theorem ggX3_isCloser_X3_turned : GoodIn wsX3_isCloser wsX3_turned := wd_c vW9_ok mvW9_542
set_option maxRecDepth 20000 in
theorem gX3_isCloser_X3_turned : GoodIn wsX3_isCloser (wsV RX3 119 RX3 yX3_turned wsX3_turned) := goodIn_app (wd_l vW9_ok _ pvW9_16) ggX3_isCloser_X3_turned
set_option maxRecDepth 20000 in
theorem ggX3_isCloser_X3_caseOf : GoodIn wsX3_isCloser wsX3_caseOf := wd_c vW9_ok mvW9_546
set_option maxRecDepth 20000 in
theorem gX3_isCloser_X3_caseOf : GoodIn wsX3_isCloser (wsV RX3 154 RX3 yX3_caseOf wsX3_caseOf) := goodIn_app (wd_l vW9_ok _ pvW9_24) ggX3_isCloser_X3_caseOf
theorem da9_dX3_isCloser_0 : (decode cX3_isCloser 0 = .ok (.aload_n 0, 1)) ∧ (decode cX3_isCloser 1 = .ok (.getfield 39, 3)) ∧ (decode cX3_isCloser 4 = .ok (.aload_n 0, 1)) ∧ (decode cX3_isCloser 5 = .ok (.iload_n 1, 1)) ∧ (decode cX3_isCloser 6 = .ok (.iload_n 2, 1)) ∧ (decode cX3_isCloser 7 = .ok (.invokevirtual 119, 3)) ∧ (decode cX3_isCloser 10 = .ok (.iaload, 1)) ∧ (decode cX3_isCloser 11 = .ok (.aload_n 0, 1)) ∧ (decode cX3_isCloser 12 = .ok (.getfield 39, 3)) ∧ (decode cX3_isCloser 15 = .ok (.iload_n 1, 1)) ∧ (decode cX3_isCloser 16 = .ok (.iaload, 1)) ∧ (decode cX3_isCloser 17 = .ok (.iconst 1, 1)) ∧ (decode cX3_isCloser 18 = .ok (.isub, 1)) ∧ (decode cX3_isCloser 19 = .ok (.if_icmp .ne 30, 3)) ∧ (decode cX3_isCloser 22 = .ok (.aload_n 0, 1)) ∧ (decode cX3_isCloser 23 = .ok (.getfield 39, 3)) := by decide +kernel
theorem dX3_isCloser_0 : decode cX3_isCloser 0 = .ok (.aload_n 0, 1) := da9_dX3_isCloser_0.1
theorem dX3_isCloser_1 : decode cX3_isCloser 1 = .ok (.getfield 39, 3) := da9_dX3_isCloser_0.2.1
theorem dX3_isCloser_4 : decode cX3_isCloser 4 = .ok (.aload_n 0, 1) := da9_dX3_isCloser_0.2.2.1
theorem dX3_isCloser_5 : decode cX3_isCloser 5 = .ok (.iload_n 1, 1) := da9_dX3_isCloser_0.2.2.2.1
theorem dX3_isCloser_6 : decode cX3_isCloser 6 = .ok (.iload_n 2, 1) := da9_dX3_isCloser_0.2.2.2.2.1
theorem dX3_isCloser_7 : decode cX3_isCloser 7 = .ok (.invokevirtual 119, 3) := da9_dX3_isCloser_0.2.2.2.2.2.1
theorem dX3_isCloser_10 : decode cX3_isCloser 10 = .ok (.iaload, 1) := da9_dX3_isCloser_0.2.2.2.2.2.2.1
theorem dX3_isCloser_11 : decode cX3_isCloser 11 = .ok (.aload_n 0, 1) := da9_dX3_isCloser_0.2.2.2.2.2.2.2.1
theorem dX3_isCloser_12 : decode cX3_isCloser 12 = .ok (.getfield 39, 3) := da9_dX3_isCloser_0.2.2.2.2.2.2.2.2.1
theorem dX3_isCloser_15 : decode cX3_isCloser 15 = .ok (.iload_n 1, 1) := da9_dX3_isCloser_0.2.2.2.2.2.2.2.2.2.1
theorem dX3_isCloser_16 : decode cX3_isCloser 16 = .ok (.iaload, 1) := da9_dX3_isCloser_0.2.2.2.2.2.2.2.2.2.2.1
theorem dX3_isCloser_17 : decode cX3_isCloser 17 = .ok (.iconst 1, 1) := da9_dX3_isCloser_0.2.2.2.2.2.2.2.2.2.2.2.1
theorem dX3_isCloser_18 : decode cX3_isCloser 18 = .ok (.isub, 1) := da9_dX3_isCloser_0.2.2.2.2.2.2.2.2.2.2.2.2.1
theorem dX3_isCloser_19 : decode cX3_isCloser 19 = .ok (.if_icmp .ne 30, 3) := da9_dX3_isCloser_0.2.2.2.2.2.2.2.2.2.2.2.2.2.1
theorem dX3_isCloser_22 : decode cX3_isCloser 22 = .ok (.aload_n 0, 1) := da9_dX3_isCloser_0.2.2.2.2.2.2.2.2.2.2.2.2.2.2.1
theorem dX3_isCloser_23 : decode cX3_isCloser 23 = .ok (.getfield 39, 3) := da9_dX3_isCloser_0.2.2.2.2.2.2.2.2.2.2.2.2.2.2.2
theorem da9_dX3_isCloser_26 : (decode cX3_isCloser 26 = .ok (.iload_n 1, 1)) ∧ (decode cX3_isCloser 27 = .ok (.iaload, 1)) ∧ (decode cX3_isCloser 28 = .ok (.ifCond .le 21, 3)) ∧ (decode cX3_isCloser 31 = .ok (.aload_n 0, 1)) ∧ (decode cX3_isCloser 32 = .ok (.getfield 18, 3)) ∧ (decode cX3_isCloser 35 = .ok (.aload_n 0, 1)) ∧ (decode cX3_isCloser 36 = .ok (.iload_n 1, 1)) ∧ (decode cX3_isCloser 37 = .ok (.iload_n 2, 1)) ∧ (decode cX3_isCloser 38 = .ok (.invokevirtual 154, 3)) ∧ (decode cX3_isCloser 41 = .ok (.iaload, 1)) ∧ (decode cX3_isCloser 42 = .ok (.ifCond .ne 7, 3)) ∧ (decode cX3_isCloser 45 = .ok (.iconst 1, 1)) ∧ (decode cX3_isCloser 46 = .ok (.goto 4, 3)) ∧ (decode cX3_isCloser 49 = .ok (.iconst 0, 1)) ∧ (decode cX3_isCloser 50 = .ok (.ireturn, 1)) := by decide +kernel
theorem dX3_isCloser_26 : decode cX3_isCloser 26 = .ok (.iload_n 1, 1) := da9_dX3_isCloser_26.1
theorem dX3_isCloser_27 : decode cX3_isCloser 27 = .ok (.iaload, 1) := da9_dX3_isCloser_26.2.1
theorem dX3_isCloser_28 : decode cX3_isCloser 28 = .ok (.ifCond .le 21, 3) := da9_dX3_isCloser_26.2.2.1
theorem dX3_isCloser_31 : decode cX3_isCloser 31 = .ok (.aload_n 0, 1) := da9_dX3_isCloser_26.2.2.2.1
theorem dX3_isCloser_32 : decode cX3_isCloser 32 = .ok (.getfield 18, 3) := da9_dX3_isCloser_26.2.2.2.2.1
theorem dX3_isCloser_35 : decode cX3_isCloser 35 = .ok (.aload_n 0, 1) := da9_dX3_isCloser_26.2.2.2.2.2.1
theorem dX3_isCloser_36 : decode cX3_isCloser 36 = .ok (.iload_n 1, 1) := da9_dX3_isCloser_26.2.2.2.2.2.2.1
theorem dX3_isCloser_37 : decode cX3_isCloser 37 = .ok (.iload_n 2, 1) := da9_dX3_isCloser_26.2.2.2.2.2.2.2.1
theorem dX3_isCloser_38 : decode cX3_isCloser 38 = .ok (.invokevirtual 154, 3) := da9_dX3_isCloser_26.2.2.2.2.2.2.2.2.1
theorem dX3_isCloser_41 : decode cX3_isCloser 41 = .ok (.iaload, 1) := da9_dX3_isCloser_26.2.2.2.2.2.2.2.2.2.1
theorem dX3_isCloser_42 : decode cX3_isCloser 42 = .ok (.ifCond .ne 7, 3) := da9_dX3_isCloser_26.2.2.2.2.2.2.2.2.2.2.1
theorem dX3_isCloser_45 : decode cX3_isCloser 45 = .ok (.iconst 1, 1) := da9_dX3_isCloser_26.2.2.2.2.2.2.2.2.2.2.2.1
theorem dX3_isCloser_46 : decode cX3_isCloser 46 = .ok (.goto 4, 3) := da9_dX3_isCloser_26.2.2.2.2.2.2.2.2.2.2.2.2.1
theorem dX3_isCloser_49 : decode cX3_isCloser 49 = .ok (.iconst 0, 1) := da9_dX3_isCloser_26.2.2.2.2.2.2.2.2.2.2.2.2.2.1
theorem dX3_isCloser_50 : decode cX3_isCloser 50 = .ok (.ireturn, 1) := da9_dX3_isCloser_26.2.2.2.2.2.2.2.2.2.2.2.2.2.2
set_option maxRecDepth 20000 in
theorem ggX9_fewest_X9_seated : GoodIn wsX9_fewest wsX9_seated := wd_c vW9_ok mvW9_44
set_option maxRecDepth 20000 in
theorem gX9_fewest_X9_seated : GoodIn wsX9_fewest (wsV RX9 144 RX9 yX9_seated wsX9_seated) := goodIn_app (wd_l vW9_ok _ pvW9_97) ggX9_fewest_X9_seated
set_option maxRecDepth 20000 in
theorem ggX9_fewest_X9_spread : GoodIn wsX9_fewest wsX9_spread := wd_c vW9_ok mvW9_457
set_option maxRecDepth 20000 in
theorem gX9_fewest_X9_spread : GoodIn wsX9_fewest (wsV RX9 226 RX9 yX9_spread wsX9_spread) := goodIn_app (wd_l vW9_ok _ pvW9_114) ggX9_fewest_X9_spread
set_option maxRecDepth 20000 in
theorem ggX9_fewest_X3_turnsToOrder : GoodIn wsX9_fewest wsX3_turnsToOrder := wd_c vW9_ok mvW9_523
set_option maxRecDepth 20000 in
theorem gX9_fewest_X3_turnsToOrder : GoodIn wsX9_fewest (wsV RX9 230 RX3 yX3_turnsToOrder wsX3_turnsToOrder) := goodIn_app (wd_l vW9_ok _ pvW9_115) ggX9_fewest_X3_turnsToOrder
set_option maxRecDepth 20000 in
theorem ggX9_fewest_X3_turnOfFirstRow : GoodIn wsX9_fewest wsX3_turnOfFirstRow := wd_c vW9_ok mvW9_550
set_option maxRecDepth 20000 in
theorem gX9_fewest_X3_turnOfFirstRow : GoodIn wsX9_fewest (wsV RX9 234 RX3 yX3_turnOfFirstRow wsX3_turnOfFirstRow) := goodIn_app (wd_l vW9_ok _ pvW9_116) ggX9_fewest_X3_turnOfFirstRow
theorem da9_dX9_fewest_0 : (decode cX9_fewest 0 = .ok (.aload_n 0, 1)) ∧ (decode cX9_fewest 1 = .ok (.aload_n 0, 1)) ∧ (decode cX9_fewest 2 = .ok (.invokevirtual 144, 3)) ∧ (decode cX9_fewest 5 = .ok (.invokevirtual 226, 3)) ∧ (decode cX9_fewest 8 = .ok (.iload_n 1, 1)) ∧ (decode cX9_fewest 9 = .ok (.iconst (-1), 1)) ∧ (decode cX9_fewest 10 = .ok (.if_icmp .ne 11, 3)) ∧ (decode cX9_fewest 13 = .ok (.aload_n 0, 1)) ∧ (decode cX9_fewest 14 = .ok (.getfield 80, 3)) ∧ (decode cX9_fewest 17 = .ok (.invokevirtual 230, 3)) ∧ (decode cX9_fewest 20 = .ok (.ireturn, 1)) ∧ (decode cX9_fewest 21 = .ok (.aload_n 0, 1)) ∧ (decode cX9_fewest 22 = .ok (.getfield 80, 3)) ∧ (decode cX9_fewest 25 = .ok (.iload_n 1, 1)) ∧ (decode cX9_fewest 26 = .ok (.invokevirtual 234, 3)) ∧ (decode cX9_fewest 29 = .ok (.ireturn, 1)) := by decide +kernel
theorem dX9_fewest_0 : decode cX9_fewest 0 = .ok (.aload_n 0, 1) := da9_dX9_fewest_0.1
theorem dX9_fewest_1 : decode cX9_fewest 1 = .ok (.aload_n 0, 1) := da9_dX9_fewest_0.2.1
theorem dX9_fewest_2 : decode cX9_fewest 2 = .ok (.invokevirtual 144, 3) := da9_dX9_fewest_0.2.2.1
theorem dX9_fewest_5 : decode cX9_fewest 5 = .ok (.invokevirtual 226, 3) := da9_dX9_fewest_0.2.2.2.1
theorem dX9_fewest_8 : decode cX9_fewest 8 = .ok (.iload_n 1, 1) := da9_dX9_fewest_0.2.2.2.2.1
theorem dX9_fewest_9 : decode cX9_fewest 9 = .ok (.iconst (-1), 1) := da9_dX9_fewest_0.2.2.2.2.2.1
theorem dX9_fewest_10 : decode cX9_fewest 10 = .ok (.if_icmp .ne 11, 3) := da9_dX9_fewest_0.2.2.2.2.2.2.1
theorem dX9_fewest_13 : decode cX9_fewest 13 = .ok (.aload_n 0, 1) := da9_dX9_fewest_0.2.2.2.2.2.2.2.1
theorem dX9_fewest_14 : decode cX9_fewest 14 = .ok (.getfield 80, 3) := da9_dX9_fewest_0.2.2.2.2.2.2.2.2.1
theorem dX9_fewest_17 : decode cX9_fewest 17 = .ok (.invokevirtual 230, 3) := da9_dX9_fewest_0.2.2.2.2.2.2.2.2.2.1
theorem dX9_fewest_20 : decode cX9_fewest 20 = .ok (.ireturn, 1) := da9_dX9_fewest_0.2.2.2.2.2.2.2.2.2.2.1
theorem dX9_fewest_21 : decode cX9_fewest 21 = .ok (.aload_n 0, 1) := da9_dX9_fewest_0.2.2.2.2.2.2.2.2.2.2.2.1
theorem dX9_fewest_22 : decode cX9_fewest 22 = .ok (.getfield 80, 3) := da9_dX9_fewest_0.2.2.2.2.2.2.2.2.2.2.2.2.1
theorem dX9_fewest_25 : decode cX9_fewest 25 = .ok (.iload_n 1, 1) := da9_dX9_fewest_0.2.2.2.2.2.2.2.2.2.2.2.2.2.1
theorem dX9_fewest_26 : decode cX9_fewest 26 = .ok (.invokevirtual 234, 3) := da9_dX9_fewest_0.2.2.2.2.2.2.2.2.2.2.2.2.2.2.1
theorem dX9_fewest_29 : decode cX9_fewest 29 = .ok (.ireturn, 1) := da9_dX9_fewest_0.2.2.2.2.2.2.2.2.2.2.2.2.2.2.2
end
section
theorem u9_wsX3_measure_X3 : ∀ w ∈ u_ws RX3 TX3 20, w ∈ wsX3_measure := fun w h => List.mem_cons_of_mem _ (vW9_wsX30 w h)
theorem f9_wsX3_measure_781 : (Cond.fieldLink RX3 51 "TurnedFloors$Paper" "floors" "I") ∈ wsX3_measure := List.mem_cons_of_mem _ mvW9_463
theorem f9_wsX3_measure_782 : (Cond.fieldLink RX3 64 "TurnedFloors$Paper" "measuredFloors" "I") ∈ wsX3_measure := List.mem_cons_of_mem _ mvW9_482
theorem f9_wsX3_measure_783 : (Cond.fieldLink RX3 61 "TurnedFloors$Paper" "headsMatter" "I") ∈ wsX3_measure := List.mem_cons_of_mem _ mvW9_464
theorem f9_wsX3_measure_784 : (Cond.fieldLink RX3 67 "TurnedFloors$Paper" "measuredHeads" "I") ∈ wsX3_measure := List.mem_cons_of_mem _ mvW9_528
theorem f9_wsX3_measure_785 : (Cond.fieldLink RX3 18 "TurnedFloors$Paper" "barred" "[I") ∈ wsX3_measure := List.mem_cons_of_mem _ mvW9_507
theorem f9_wsX3_measure_786 : (Cond.fieldLink RX3 24 "TurnedFloors$Paper" "measuredBarred" "[I") ∈ wsX3_measure := List.mem_cons_of_mem _ mvW9_529
theorem f9_wsX3_measure_787 : (Cond.methodLink RX3 165 arraycopyName) ∈ wsX3_measure := List.mem_cons_of_mem _ mvW9_530
theorem f9_wsX3_measure_788 : (Cond.native arraycopyName) ∈ wsX3_measure := List.mem_cons_of_mem _ mvW9_342
theorem f9_wsX3_measure_789 : (Cond.static arraycopyName) ∈ wsX3_measure := List.mem_cons_of_mem _ mvW9_343
theorem f9_wsX3_measure_790 : (Cond.initialized "java/lang/System") ∈ wsX3_measure := List.mem_cons_of_mem _ mvW9_344
theorem f9_wsX3_measure_791 : (Cond.fieldLink RX3 39 "TurnedFloors$Paper" "toOrder" "[I") ∈ wsX3_measure := List.mem_cons_of_mem _ mvW9_467
theorem f9_wsX3_measure_792 : (Cond.fieldLink RX3 55 "TurnedFloors$Paper" "size" "I") ∈ wsX3_measure := List.mem_cons_of_mem _ mvW9_466
theorem f9_wsX3_measure_793 : (Cond.fieldLink RX3 45 "TurnedFloors$Paper" "line" "[I") ∈ wsX3_measure := List.mem_cons_of_mem _ mvW9_477
theorem u9_wsX3_isCloser_X3 : ∀ w ∈ u_ws RX3 TX3 20, w ∈ wsX3_isCloser := fun w h => List.mem_cons_of_mem _ (vW9_wsX30 w h)
theorem f9_wsX3_isCloser_795 : (Cond.fieldLink RX3 39 "TurnedFloors$Paper" "toOrder" "[I") ∈ wsX3_isCloser := List.mem_cons_of_mem _ mvW9_467
theorem f9_wsX3_isCloser_796 : (Cond.fieldLink RX3 18 "TurnedFloors$Paper" "barred" "[I") ∈ wsX3_isCloser := List.mem_cons_of_mem _ mvW9_507
theorem u9_wsX3_firstCloser_X3 : ∀ w ∈ u_ws RX3 TX3 20, w ∈ wsX3_firstCloser := fun w h => List.mem_cons_of_mem _ (vW9_wsX30 w h)
theorem f9_wsX3_firstCloser_798 : (Cond.fieldLink RX3 51 "TurnedFloors$Paper" "floors" "I") ∈ wsX3_firstCloser := List.mem_cons_of_mem _ mvW9_463
theorem u9_wsX3_turnOfFirstRow_X3 : ∀ w ∈ u_ws RX3 TX3 20, w ∈ wsX3_turnOfFirstRow := fun w h => List.mem_cons_of_mem _ (vW9_wsX30 w h)
theorem f9_wsX3_turnOfFirstRow_800 : (Cond.fieldLink RX3 39 "TurnedFloors$Paper" "toOrder" "[I") ∈ wsX3_turnOfFirstRow := List.mem_cons_of_mem _ mvW9_467
theorem f9_wsX3_turnOfFirstRow_801 : (Cond.fieldLink RX3 58 "TurnedFloors$Paper" "start" "I") ∈ wsX3_turnOfFirstRow := List.mem_cons_of_mem _ mvW9_471
theorem u9_wsX3_turnsToOrder_X3 : ∀ w ∈ u_ws RX3 TX3 20, w ∈ wsX3_turnsToOrder := fun w h => List.mem_cons_of_mem _ (vW9_wsX30 w h)
theorem f9_wsX3_turnsToOrder_803 : (Cond.fieldLink RX3 39 "TurnedFloors$Paper" "toOrder" "[I") ∈ wsX3_turnsToOrder := List.mem_cons_of_mem _ mvW9_467
theorem f9_wsX3_turnsToOrder_804 : (Cond.fieldLink RX3 58 "TurnedFloors$Paper" "start" "I") ∈ wsX3_turnsToOrder := List.mem_cons_of_mem _ mvW9_471
theorem u9_wsX9_fewest_X9 : ∀ w ∈ u_ws RX9 TX9 19, w ∈ wsX9_fewest := fun w h => List.mem_cons_of_mem _ (vW9_wsX90 w h)
theorem f9_wsX9_fewest_806 : (Cond.fieldLink RX9 80 "TurnedFloors" "paper" "LTurnedFloors$Paper;") ∈ wsX9_fewest := List.mem_cons_of_mem _ mvW9_453
set_option maxHeartbeats 4000000 in
set_option maxRecDepth 100000 in
theorem WX3_measure_s32_197 {p : Program} {l : Launch} {e : Env} {s : State} {m : MethodId} {args : Array Value} {below : List Frame} {meth : Method} {c : Code} {D : va_G} {ty : Nat → ClassId} {eo : Nat → Nat} {A : Nat → Prop} {ad : Nat → Nat} {o2 : dK} (C : dc_C p s m args meth c cX3_measure none 6 RX3 wsX3_measure D ty eo A)   (q : dK)  (H : Heap) (locs : List Loc) (ls : Array Slot) (h : zX3_measure_s32_197  q = some o2) (hP : va_P D vwCl (wF ty ad q) H) (hD : va_D A (wF ty ad q)) (hS : va_S A s.heap H locs) (hl : lv_has ls 6 [(0, .ref (ad 32))]) : W p l e ({ frames := 2, cells := 0, slots := 0, locals := 47 } : Room) s m args below meth c H locs 0 0 (MQ below (va_Qv (fun (u : va_W) => wF ty ad o2 = u) (kz_B D ty A) A) args s 0 0 A) (F0 m 197 ls []) := by
  have C0 := C
  obtain ⟨hx, hb, hr, hts, hown, hlocks, hml, hK, hN, hE, hA⟩ := C
  unfold zX3_measure_s32_197 at h
  refine lv_aload_n hx hb dX3_measure_197 rfl (lv_at hl 0 rfl) ?_
  refine lv_aload_n hx hb dX3_measure_198 rfl (lv_at hl 0 rfl) ?_
  refine va_get (D := D) (ci := 3) (v := .int (q.1 32 13)) (C := RX3) (T := TX3) (N := 20) hx hb hts u9_wsX3_measure_X3 hown hK hP 32 rfl rfl 13 (by decide) (hts (.fieldLink RX3 51 "TurnedFloors$Paper" "floors" "I") f9_wsX3_measure_781) (fun _ h9 => h9) rfl dX3_measure_199 ?_
  refine va_put (D := D) (ci := 3) (v := .int (q.1 32 13)) (ty := .int) (C := RX3) (T := TX3) (N := 20) hx hb hts u9_wsX3_measure_X3 tyX3 tyX3_ok nmX3 hown hK hP hD hS 32 rfl rfl 17 (by decide) (hts (.fieldLink RX3 64 "TurnedFloors$Paper" "measuredFloors" "I") f9_wsX3_measure_782) (fun _ h9 => h9) rfl (by decide +kernel) rfl rfl (Nat.le_of_ble_eq_true rfl) dX3_measure_202 (fun H locs hp hd hs => ?_)
  obtain ⟨q1, eq1, h⟩ := dL_some h
  refine kz_re (w2 := wF ty ad q1) hp hd hs (by rw [← eq1]; exact wF_f32_17 ty ad q (q.1 32 13)) ?_
  clear hp hd hs hP hD hS
  intro hP hD hS
  refine lv_aload_n hx hb dX3_measure_205 rfl (lv_at hl 0 rfl) ?_
  refine lv_aload_n hx hb dX3_measure_206 rfl (lv_at hl 0 rfl) ?_
  refine va_get (D := D) (ci := 3) (v := .int (q1.1 32 16)) (C := RX3) (T := TX3) (N := 20) hx hb hts u9_wsX3_measure_X3 hown hK hP 32 rfl rfl 16 (by decide) (hts (.fieldLink RX3 61 "TurnedFloors$Paper" "headsMatter" "I") f9_wsX3_measure_783) (fun _ h9 => h9) rfl dX3_measure_207 ?_
  refine va_put (D := D) (ci := 3) (v := .int (q1.1 32 16)) (ty := .int) (C := RX3) (T := TX3) (N := 20) hx hb hts u9_wsX3_measure_X3 tyX3 tyX3_ok nmX3 hown hK hP hD hS 32 rfl rfl 18 (by decide) (hts (.fieldLink RX3 67 "TurnedFloors$Paper" "measuredHeads" "I") f9_wsX3_measure_784) (fun _ h9 => h9) rfl (by decide +kernel) rfl rfl (Nat.le_of_ble_eq_true rfl) dX3_measure_210 (fun H locs hp hd hs => ?_)
  obtain ⟨q2, eq2, h⟩ := dL_some h
  refine kz_re (w2 := wF ty ad q2) hp hd hs (by rw [← eq2]; exact wF_f32_18 ty ad q1 (q1.1 32 16)) ?_
  clear hp hd hs hP hD hS
  intro hP hD hS
  refine lv_aload_n hx hb dX3_measure_213 rfl (lv_at hl 0 rfl) ?_
  refine va_get (D := D) (ci := 3) (v := .ref (ad 35)) (C := RX3) (T := TX3) (N := 20) hx hb hts u9_wsX3_measure_X3 hown hK hP 32 rfl rfl 2 (by decide) (hts (.fieldLink RX3 18 "TurnedFloors$Paper" "barred" "[I") f9_wsX3_measure_785) (fun _ h9 => h9) rfl dX3_measure_214 ?_
  refine lv_iconst (v := 0) hx hb dX3_measure_217 (by decide) ?_
  refine lv_aload_n hx hb dX3_measure_218 rfl (lv_at hl 0 rfl) ?_
  refine va_get (D := D) (ci := 3) (v := .ref (ad 37)) (C := RX3) (T := TX3) (N := 20) hx hb hts u9_wsX3_measure_X3 hown hK hP 32 rfl rfl 4 (by decide) (hts (.fieldLink RX3 24 "TurnedFloors$Paper" "measuredBarred" "[I") f9_wsX3_measure_786) (fun _ h9 => h9) rfl dX3_measure_219 ?_
  refine lv_iconst (v := 0) hx hb dX3_measure_222 (by decide) ?_
  refine lv_sipush (v := 504) hx hb dX3_measure_223 (by decide) ?_
  refine va_copyi hx hb (hml.trans hl.1.symm) hown (hts (.methodLink RX3 165 arraycopyName) f9_wsX3_measure_787) (hts (.native arraycopyName) f9_wsX3_measure_788) (hts (.static arraycopyName) f9_wsX3_measure_789) (hts (.initialized "java/lang/System") f9_wsX3_measure_790) hK hP hD hS 35 37 0 0 rfl rfl rfl rfl rfl (by decide) (by decide) (by decide) (by decide) (by decide) (fun _ _ => rfl) (Nat.le_of_ble_eq_true rfl) (Nat.le_of_ble_eq_true rfl) dX3_measure_226 (fun H locs hp hd hs => ?_)
  obtain ⟨q3, eq3, h⟩ := dL_some h
  refine kz_re (w2 := wF ty ad q3) hp hd hs (by rw [← eq3]; exact rfl) ?_
  clear hp hd hs hP hD hS
  intro hP hD hS
  cases h
  exact kz_vret hx hb hr hlocks hP hK hD hS dX3_measure_229 rfl
set_option maxHeartbeats 4000000 in
set_option maxRecDepth 100000 in
theorem WX3_measure_s32_185 {p : Program} {l : Launch} {e : Env} {s : State} {m : MethodId} {args : Array Value} {below : List Frame} {meth : Method} {c : Code} {D : va_G} {ty : Nat → ClassId} {eo : Nat → Nat} {A : Nat → Prop} {ad : Nat → Nat} {o2 : dK} (C : dc_C p s m args meth c cX3_measure none 6 RX3 wsX3_measure D ty eo A) {k83 : dK → Int32 → Int32 → Option (dK)} {k106 : dK → Int32 → Int32 → Int32 → Int32 → Option (dK)} (hk83 : ∀ (q : dK) (x1 : Int32) (x2 : Int32) (H : Heap) (locs : List Loc) (ls : Array Slot), k83 q x1 x2 = some o2 → va_P D vwCl (wF ty ad q) H → va_D A (wF ty ad q) → va_S A s.heap H locs → lv_has ls 6 [(0, .ref (ad 32)), (1, .int x1), (2, .int x2)] → W p l e ({ frames := 2, cells := 0, slots := 0, locals := 47 } : Room) s m args below meth c H locs 0 0 (MQ below (va_Qv (fun (u : va_W) => wF ty ad o2 = u) (kz_B D ty A) A) args s 0 0 A) (F0 m 83 ls [])) (hk106 : ∀ (q : dK) (x1 : Int32) (x2 : Int32) (x3 : Int32) (x4 : Int32) (H : Heap) (locs : List Loc) (ls : Array Slot), k106 q x1 x2 x3 x4 = some o2 → va_P D vwCl (wF ty ad q) H → va_D A (wF ty ad q) → va_S A s.heap H locs → lv_has ls 6 [(0, .ref (ad 32)), (1, .int x1), (2, .int x2), (3, .int x3), (4, .int x4)] → W p l e ({ frames := 2, cells := 0, slots := 0, locals := 47 } : Room) s m args below meth c H locs 0 0 (MQ below (va_Qv (fun (u : va_W) => wF ty ad o2 = u) (kz_B D ty A) A) args s 0 0 A) (F0 m 106 ls [])) (q : dK) (x1 : Int32) (x2 : Int32) (x3 : Int32) (x4 : Int32) (H : Heap) (locs : List Loc) (ls : Array Slot) (h : zX3_measure_s32_185 k83 k106 q x1 x2 x3 x4 = some o2) (hP : va_P D vwCl (wF ty ad q) H) (hD : va_D A (wF ty ad q)) (hS : va_S A s.heap H locs) (hl : lv_has ls 6 [(0, .ref (ad 32)), (1, .int x1), (2, .int x2), (3, .int x3), (4, .int x4)]) : W p l e ({ frames := 2, cells := 0, slots := 0, locals := 47 } : Room) s m args below meth c H locs 0 0 (MQ below (va_Qv (fun (u : va_W) => wF ty ad o2 = u) (kz_B D ty A) A) args s 0 0 A) (F0 m 185 ls []) := by
  have C0 := C
  obtain ⟨hx, hb, hr, hts, hown, hlocks, hml, hK, hN, hE, hA⟩ := C
  unfold zX3_measure_s32_185 at h
  refine lv_iinc (v := x4 + 1) (lv' := [(4, .int (x4 + 1)), (0, .ref (ad 32)), (1, .int x1), (2, .int x2), (3, .int x3)]) hx hb dX3_measure_185 hl (k := 4) rfl rfl (by decide) rfl (fun ls hl => ?_)
  refine lv_goto (tgt := 106) hx hb dX3_measure_188 (by decide) ?_
  exact hk106 _ _ _ _ _ _ _ _ h hP hD hS (lv_sub hl [1, 2, 3, 4, 0] rfl)
set_option maxHeartbeats 4000000 in
set_option maxRecDepth 100000 in
theorem WX3_measure_s32_106b {p : Program} {l : Launch} {e : Env} {s : State} {m : MethodId} {args : Array Value} {below : List Frame} {meth : Method} {c : Code} {D : va_G} {ty : Nat → ClassId} {eo : Nat → Nat} {A : Nat → Prop} {ad : Nat → Nat} {o2 : dK} (C : dc_C p s m args meth c cX3_measure none 6 RX3 wsX3_measure D ty eo A) {k83 : dK → Int32 → Int32 → Option (dK)} {k106 : dK → Int32 → Int32 → Int32 → Int32 → Option (dK)} (hk83 : ∀ (q : dK) (x1 : Int32) (x2 : Int32) (H : Heap) (locs : List Loc) (ls : Array Slot), k83 q x1 x2 = some o2 → va_P D vwCl (wF ty ad q) H → va_D A (wF ty ad q) → va_S A s.heap H locs → lv_has ls 6 [(0, .ref (ad 32)), (1, .int x1), (2, .int x2)] → W p l e ({ frames := 2, cells := 0, slots := 0, locals := 47 } : Room) s m args below meth c H locs 0 0 (MQ below (va_Qv (fun (u : va_W) => wF ty ad o2 = u) (kz_B D ty A) A) args s 0 0 A) (F0 m 83 ls [])) (hk106 : ∀ (q : dK) (x1 : Int32) (x2 : Int32) (x3 : Int32) (x4 : Int32) (H : Heap) (locs : List Loc) (ls : Array Slot), k106 q x1 x2 x3 x4 = some o2 → va_P D vwCl (wF ty ad q) H → va_D A (wF ty ad q) → va_S A s.heap H locs → lv_has ls 6 [(0, .ref (ad 32)), (1, .int x1), (2, .int x2), (3, .int x3), (4, .int x4)] → W p l e ({ frames := 2, cells := 0, slots := 0, locals := 47 } : Room) s m args below meth c H locs 0 0 (MQ below (va_Qv (fun (u : va_W) => wF ty ad o2 = u) (kz_B D ty A) A) args s 0 0 A) (F0 m 106 ls [])) (q : dK) (x1 : Int32) (x2 : Int32) (x3 : Int32) (x4 : Int32) (H : Heap) (locs : List Loc) (ls : Array Slot) (h : zX3_measure_s32_106b k83 k106 q x1 x2 x3 x4 = some o2) (hP : va_P D vwCl (wF ty ad q) H) (hD : va_D A (wF ty ad q)) (hS : va_S A s.heap H locs) (hl : lv_has ls 6 [(0, .ref (ad 32)), (1, .int x1), (2, .int x2), (3, .int x3), (4, .int x4)]) : W p l e ({ frames := 2, cells := 0, slots := 0, locals := 47 } : Room) s m args below meth c H locs 0 0 (MQ below (va_Qv (fun (u : va_W) => wF ty ad o2 = u) (kz_B D ty A) A) args s 0 0 A) (F0 m 106 ls []) := by
  have C0 := C
  obtain ⟨hx, hb, hr, hts, hown, hlocks, hml, hK, hN, hE, hA⟩ := C
  unfold zX3_measure_s32_106b at h
  refine lv_iload hx hb dX3_measure_106 (lv_at hl 4 rfl) ?_
  refine lv_aload_n hx hb dX3_measure_108 rfl (lv_at hl 0 rfl) ?_
  refine va_get (D := D) (ci := 3) (v := .int (q.1 32 13)) (C := RX3) (T := TX3) (N := 20) hx hb hts u9_wsX3_measure_X3 hown hK hP 32 rfl rfl 13 (by decide) (hts (.fieldLink RX3 51 "TurnedFloors$Paper" "floors" "I") f9_wsX3_measure_781) (fun _ h9 => h9) rfl dX3_measure_109 ?_
  refine lv_icmp_gt (tgt := 191) hx hb dX3_measure_112 (by decide) (fun c9 => ?_) (fun c9 => ?_)
  · rw [if_pos c9] at h
    refine lv_iinc (v := x2 + 1) (lv' := [(2, .int (x2 + 1)), (0, .ref (ad 32)), (1, .int x1), (3, .int x3), (4, .int x4)]) hx hb dX3_measure_191 hl (k := 2) rfl rfl (by decide) rfl (fun ls hl => ?_)
    refine lv_goto (tgt := 83) hx hb dX3_measure_194 (by decide) ?_
    exact hk83 _ _ _ _ _ _ h hP hD hS (lv_sub hl [1, 2, 0] rfl)
  · rw [if_neg c9] at h
    refine lv_aload_n hx hb dX3_measure_115 rfl (lv_at hl 0 rfl) ?_
    refine lv_iload_n hx hb dX3_measure_116 rfl (lv_at hl 3 rfl) ?_
    refine lv_iload hx hb dX3_measure_117 (lv_at hl 4 rfl) ?_
    obtain ⟨r1, q3, h2, h⟩ := dB_some h
    refine dw_ki (va_runV (As := [.int x3, .int x4]) (rest := []) ⟨hx, hb, hml, hown, hts⟩ (qX3_turned_s32 l D ty eo _ ad q x3 x4 r1 q3 h2) (cwV 2 hts gX3_measure_X3_turned rfl rfl rfl hd_X3_turned_v ⟨Nat.le_of_ble_eq_true rfl, Nat.le_of_ble_eq_true rfl⟩) (pvF_3_32 hK hN hE hP hD hS hA) rfl rfl hl.1 rfl (lv_room (Nat.le_of_ble_eq_true rfl)) dX3_measure_119 ⟨Nat.le_of_ble_eq_true rfl, Nat.le_of_ble_eq_true rfl⟩) hD hS hA (fun r9 u9 H locs hw hp hd hs => ?_)
    clear hP hD hS
    obtain ⟨rfl, rfl⟩ := hw
    have hP := hp; have hD := hd; have hS := hs; clear hp hd hs
    refine lv_istore (lv' := [(5, .int r1), (0, .ref (ad 32)), (1, .int x1), (2, .int x2), (3, .int x3), (4, .int x4)]) hx hb dX3_measure_122 hl (by decide) rfl (fun ls hl => ?_)
    refine lv_aload_n hx hb dX3_measure_124 rfl (lv_at hl 1 rfl) ?_
    refine va_get (D := D) (ci := 3) (v := .ref (ad 42)) (C := RX3) (T := TX3) (N := 20) hx hb hts u9_wsX3_measure_X3 hown hK hP 32 rfl rfl 9 (by decide) (hts (.fieldLink RX3 39 "TurnedFloors$Paper" "toOrder" "[I") f9_wsX3_measure_791) (fun _ h9 => h9) rfl dX3_measure_125 ?_
    refine lv_iload hx hb dX3_measure_128 (lv_at hl 0 rfl) ?_
    obtain ⟨g4, h⟩ := dG_some h
    refine va_iald hx hb hK hP 42 0 rfl rfl (dg_in g4) dX3_measure_130 ?_
    obtain ⟨v5, ev5, h⟩ := dL_some h
    refine kz_topi v5 ev5 ?_
    refine lv_iconst (v := (-1)) hx hb dX3_measure_131 (by decide) ?_
    refine lv_icmp_ne (tgt := 185) hx hb dX3_measure_132 (by decide) (fun c9 => ?_) (fun c9 => ?_)
    · rw [if_neg c9] at h
      exact WX3_measure_s32_185 C0 hk83 hk106 _ _ _ _ _ _ _ _ h hP hD hS (lv_sub hl [1, 2, 3, 4, 5] rfl)
    · rw [if_pos c9] at h
      refine lv_aload_n hx hb dX3_measure_135 rfl (lv_at hl 1 rfl) ?_
      refine va_get (D := D) (ci := 3) (v := .ref (ad 35)) (C := RX3) (T := TX3) (N := 20) hx hb hts u9_wsX3_measure_X3 hown hK hP 32 rfl rfl 2 (by decide) (hts (.fieldLink RX3 18 "TurnedFloors$Paper" "barred" "[I") f9_wsX3_measure_785) (fun _ h9 => h9) rfl dX3_measure_136 ?_
      refine lv_aload_n hx hb dX3_measure_139 rfl (lv_at hl 1 rfl) ?_
      refine lv_iload hx hb dX3_measure_140 (lv_at hl 0 rfl) ?_
      refine lv_iload hx hb dX3_measure_142 (lv_at hl 5 rfl) ?_
      obtain ⟨r6, q8, h7, h⟩ := dB_some h
      refine dw_ki (va_runV (As := [.int r1, .int x4]) (rest := [.ref (ad 35)]) ⟨hx, hb, hml, hown, hts⟩ (qX3_caseOf_s32 l D ty eo _ ad q3 r1 x4 r6 q8 h7) (cwV 2 hts gX3_measure_X3_caseOf rfl rfl rfl hd_X3_caseOf_v ⟨Nat.le_of_ble_eq_true rfl, Nat.le_of_ble_eq_true rfl⟩) (pvF_3_32 hK hN hE hP hD hS hA) rfl rfl hl.1 rfl (lv_room (Nat.le_of_ble_eq_true rfl)) dX3_measure_144 ⟨Nat.le_of_ble_eq_true rfl, Nat.le_of_ble_eq_true rfl⟩) hD hS hA (fun r9 u9 H locs hw hp hd hs => ?_)
      clear hP hD hS
      obtain ⟨rfl, rfl⟩ := hw
      have hP := hp; have hD := hd; have hS := hs; clear hp hd hs
      obtain ⟨g9, h⟩ := dG_some h
      refine va_iald hx hb hK hP 35 0 rfl rfl (dg_in g9) dX3_measure_147 ?_
      obtain ⟨v10, ev10, h⟩ := dL_some h
      refine kz_topi v10 ev10 ?_
      refine lv_if_ne (tgt := 185) hx hb dX3_measure_148 (by decide) (fun c9 => ?_) (fun c9 => ?_)
      · rw [if_neg c9] at h
        exact WX3_measure_s32_185 C0 hk83 hk106 _ _ _ _ _ _ _ _ h hP hD hS (lv_sub hl [1, 2, 3, 4, 5] rfl)
      · rw [if_pos c9] at h
        refine lv_iload_n hx hb dX3_measure_151 rfl (lv_at hl 2 rfl) ?_
        refine lv_aload_n hx hb dX3_measure_152 rfl (lv_at hl 1 rfl) ?_
        refine va_get (D := D) (ci := 3) (v := .int (q8.1 32 14)) (C := RX3) (T := TX3) (N := 20) hx hb hts u9_wsX3_measure_X3 hown hK hP 32 rfl rfl 14 (by decide) (hts (.fieldLink RX3 55 "TurnedFloors$Paper" "size" "I") f9_wsX3_measure_792) (fun _ h9 => h9) rfl dX3_measure_153 ?_
        refine lv_icmp_ge (tgt := 185) hx hb dX3_measure_156 (by decide) (fun c9 => ?_) (fun c9 => ?_)
        · rw [if_pos c9] at h
          exact WX3_measure_s32_185 C0 hk83 hk106 _ _ _ _ _ _ _ _ h hP hD hS (lv_sub hl [1, 2, 3, 4, 5] rfl)
        · rw [if_neg c9] at h
          refine lv_aload_n hx hb dX3_measure_159 rfl (lv_at hl 1 rfl) ?_
          refine va_get (D := D) (ci := 3) (v := .ref (ad 42)) (C := RX3) (T := TX3) (N := 20) hx hb hts u9_wsX3_measure_X3 hown hK hP 32 rfl rfl 9 (by decide) (hts (.fieldLink RX3 39 "TurnedFloors$Paper" "toOrder" "[I") f9_wsX3_measure_791) (fun _ h9 => h9) rfl dX3_measure_160 ?_
          refine lv_iload hx hb dX3_measure_163 (lv_at hl 0 rfl) ?_
          refine lv_aload_n hx hb dX3_measure_165 rfl (lv_at hl 1 rfl) ?_
          refine va_get (D := D) (ci := 3) (v := .ref (ad 42)) (C := RX3) (T := TX3) (N := 20) hx hb hts u9_wsX3_measure_X3 hown hK hP 32 rfl rfl 9 (by decide) (hts (.fieldLink RX3 39 "TurnedFloors$Paper" "toOrder" "[I") f9_wsX3_measure_791) (fun _ h9 => h9) rfl dX3_measure_166 ?_
          refine lv_iload_n hx hb dX3_measure_169 rfl (lv_at hl 4 rfl) ?_
          obtain ⟨g11, h⟩ := dG_some h
          refine va_iald hx hb hK hP 42 0 rfl rfl (dg_in g11) dX3_measure_170 ?_
          obtain ⟨v12, ev12, h⟩ := dL_some h
          refine kz_topi v12 ev12 ?_
          refine lv_iconst (v := 1) hx hb dX3_measure_171 (by decide) ?_
          refine lv_iadd hx hb dX3_measure_172 ?_
          obtain ⟨g13, h⟩ := dG_some h
          refine va_iast hx hb hK hP hD hS 42 0 rfl rfl (dg_in g13) dX3_measure_173 (fun H locs hp hd hs => ?_)
          obtain ⟨q14, eq14, h⟩ := dL_some h
          refine kz_re (w2 := wF ty ad q14) hp hd hs (by rw [← eq14]; exact wF_a42 ty ad q8 (Int32.toNatClampNeg r1) (v12 + 1 : Int32)) ?_
          clear hp hd hs hP hD hS
          intro hP hD hS
          refine lv_aload_n hx hb dX3_measure_174 rfl (lv_at hl 1 rfl) ?_
          refine va_get (D := D) (ci := 3) (v := .ref (ad 44)) (C := RX3) (T := TX3) (N := 20) hx hb hts u9_wsX3_measure_X3 hown hK hP 32 rfl rfl 11 (by decide) (hts (.fieldLink RX3 45 "TurnedFloors$Paper" "line" "[I") f9_wsX3_measure_793) (fun _ h9 => h9) rfl dX3_measure_175 ?_
          refine lv_iload_n hx hb dX3_measure_178 rfl (lv_at hl 2 rfl) ?_
          refine lv_iload hx hb dX3_measure_179 (lv_at hl 0 rfl) ?_
          obtain ⟨g15, h⟩ := dG_some h
          refine va_iast hx hb hK hP hD hS 44 0 rfl rfl (dg_in g15) dX3_measure_181 (fun H locs hp hd hs => ?_)
          obtain ⟨q16, eq16, h⟩ := dL_some h
          refine kz_re (w2 := wF ty ad q16) hp hd hs (by rw [← eq16]; exact wF_a44 ty ad q14 (Int32.toNatClampNeg x1) r1) ?_
          clear hp hd hs hP hD hS
          intro hP hD hS
          refine lv_iinc (v := x1 + 1) (lv' := [(1, .int (x1 + 1)), (5, .int r1), (0, .ref (ad 32)), (2, .int x2), (3, .int x3), (4, .int x4)]) hx hb dX3_measure_182 hl (k := 2) rfl rfl (by decide) rfl (fun ls hl => ?_)
          exact WX3_measure_s32_185 C0 hk83 hk106 _ _ _ _ _ _ _ _ h hP hD hS (lv_sub hl [2, 0, 3, 4, 5] rfl)
set_option maxHeartbeats 4000000 in
set_option maxRecDepth 100000 in
theorem WX3_measure_s32_106 {p : Program} {l : Launch} {e : Env} {s : State} {m : MethodId} {args : Array Value} {below : List Frame} {meth : Method} {c : Code} {D : va_G} {ty : Nat → ClassId} {eo : Nat → Nat} {A : Nat → Prop} {ad : Nat → Nat} {o2 : dK} (C : dc_C p s m args meth c cX3_measure none 6 RX3 wsX3_measure D ty eo A) {k83 : dK → Int32 → Int32 → Option (dK)} (hk83 : ∀ (q : dK) (x1 : Int32) (x2 : Int32) (H : Heap) (locs : List Loc) (ls : Array Slot), k83 q x1 x2 = some o2 → va_P D vwCl (wF ty ad q) H → va_D A (wF ty ad q) → va_S A s.heap H locs → lv_has ls 6 [(0, .ref (ad 32)), (1, .int x1), (2, .int x2)] → W p l e ({ frames := 2, cells := 0, slots := 0, locals := 47 } : Room) s m args below meth c H locs 0 0 (MQ below (va_Qv (fun (u : va_W) => wF ty ad o2 = u) (kz_B D ty A) A) args s 0 0 A) (F0 m 83 ls [])) (n : Nat) (q : dK) (x1 : Int32) (x2 : Int32) (x3 : Int32) (x4 : Int32) (H : Heap) (locs : List Loc) (ls : Array Slot) (h : zX3_measure_s32_106 k83 n q x1 x2 x3 x4 = some o2) (hP : va_P D vwCl (wF ty ad q) H) (hD : va_D A (wF ty ad q)) (hS : va_S A s.heap H locs) (hl : lv_has ls 6 [(0, .ref (ad 32)), (1, .int x1), (2, .int x2), (3, .int x3), (4, .int x4)]) : W p l e ({ frames := 2, cells := 0, slots := 0, locals := 47 } : Room) s m args below meth c H locs 0 0 (MQ below (va_Qv (fun (u : va_W) => wF ty ad o2 = u) (kz_B D ty A) A) args s 0 0 A) (F0 m 106 ls []) := by
  exact dFix_W (F := fun k (a : dK × Int32 × Int32 × Int32 × Int32) => zX3_measure_s32_106b k83 (fun q x1 x2 x3 x4 => k (q, x1, x2, x3, x4)) a.1 a.2.1 a.2.2.1 a.2.2.2.1 a.2.2.2.2) (o := o2) (P := fun (a : dK × Int32 × Int32 × Int32 × Int32) H locs ls => va_P D vwCl (wF ty ad a.1) H ∧ va_D A (wF ty ad a.1) ∧ va_S A s.heap H locs ∧ lv_has ls 6 [(0, .ref (ad 32)), (1, .int a.2.1), (2, .int a.2.2.1), (3, .int a.2.2.2.1), (4, .int a.2.2.2.2)]) (G := fun H locs ls => W p l e ({ frames := 2, cells := 0, slots := 0, locals := 47 } : Room) s m args below meth c H locs 0 0 (MQ below (va_Qv (fun (u : va_W) => wF ty ad o2 = u) (kz_B D ty A) A) args s 0 0 A) (F0 m 106 ls []))
    (fun k hk a H locs ls h hp => WX3_measure_s32_106b C hk83 (fun q x1 x2 x3 x4 H locs ls h h1 h2 h3 h4 => hk (q, x1, x2, x3, x4) H locs ls h ⟨h1, h2, h3, h4⟩) a.1 a.2.1 a.2.2.1 a.2.2.2.1 a.2.2.2.2 H locs ls h hp.1 hp.2.1 hp.2.2.1 hp.2.2.2) n (q, x1, x2, x3, x4) H locs ls h ⟨hP, hD, hS, hl⟩
set_option maxHeartbeats 4000000 in
set_option maxRecDepth 100000 in
theorem WX3_measure_s32_83b {p : Program} {l : Launch} {e : Env} {s : State} {m : MethodId} {args : Array Value} {below : List Frame} {meth : Method} {c : Code} {D : va_G} {ty : Nat → ClassId} {eo : Nat → Nat} {A : Nat → Prop} {ad : Nat → Nat} {o2 : dK} (C : dc_C p s m args meth c cX3_measure none 6 RX3 wsX3_measure D ty eo A) {k83 : dK → Int32 → Int32 → Option (dK)} (hk83 : ∀ (q : dK) (x1 : Int32) (x2 : Int32) (H : Heap) (locs : List Loc) (ls : Array Slot), k83 q x1 x2 = some o2 → va_P D vwCl (wF ty ad q) H → va_D A (wF ty ad q) → va_S A s.heap H locs → lv_has ls 6 [(0, .ref (ad 32)), (1, .int x1), (2, .int x2)] → W p l e ({ frames := 2, cells := 0, slots := 0, locals := 47 } : Room) s m args below meth c H locs 0 0 (MQ below (va_Qv (fun (u : va_W) => wF ty ad o2 = u) (kz_B D ty A) A) args s 0 0 A) (F0 m 83 ls [])) (q : dK) (x1 : Int32) (x2 : Int32) (H : Heap) (locs : List Loc) (ls : Array Slot) (h : zX3_measure_s32_83b k83 q x1 x2 = some o2) (hP : va_P D vwCl (wF ty ad q) H) (hD : va_D A (wF ty ad q)) (hS : va_S A s.heap H locs) (hl : lv_has ls 6 [(0, .ref (ad 32)), (1, .int x1), (2, .int x2)]) : W p l e ({ frames := 2, cells := 0, slots := 0, locals := 47 } : Room) s m args below meth c H locs 0 0 (MQ below (va_Qv (fun (u : va_W) => wF ty ad o2 = u) (kz_B D ty A) A) args s 0 0 A) (F0 m 83 ls []) := by
  have C0 := C
  obtain ⟨hx, hb, hr, hts, hown, hlocks, hml, hK, hN, hE, hA⟩ := C
  unfold zX3_measure_s32_83b at h
  refine lv_iload_n hx hb dX3_measure_83 rfl (lv_at hl 2 rfl) ?_
  refine lv_aload_n hx hb dX3_measure_84 rfl (lv_at hl 0 rfl) ?_
  refine va_get (D := D) (ci := 3) (v := .int (q.1 32 14)) (C := RX3) (T := TX3) (N := 20) hx hb hts u9_wsX3_measure_X3 hown hK hP 32 rfl rfl 14 (by decide) (hts (.fieldLink RX3 55 "TurnedFloors$Paper" "size" "I") f9_wsX3_measure_792) (fun _ h9 => h9) rfl dX3_measure_85 ?_
  refine lv_icmp_ge (tgt := 197) hx hb dX3_measure_88 (by decide) (fun c9 => ?_) (fun c9 => ?_)
  · rw [if_pos c9] at h
    exact WX3_measure_s32_197 C0  _ _ _ _ h hP hD hS (lv_sub hl [0] rfl)
  · rw [if_neg c9] at h
    refine lv_iload_n hx hb dX3_measure_91 rfl (lv_at hl 2 rfl) ?_
    refine lv_iload_n hx hb dX3_measure_92 rfl (lv_at hl 1 rfl) ?_
    refine lv_icmp_ge (tgt := 197) hx hb dX3_measure_93 (by decide) (fun c9 => ?_) (fun c9 => ?_)
    · rw [if_pos c9] at h
      exact WX3_measure_s32_197 C0  _ _ _ _ h hP hD hS (lv_sub hl [0] rfl)
    · rw [if_neg c9] at h
      refine lv_aload_n hx hb dX3_measure_96 rfl (lv_at hl 0 rfl) ?_
      refine va_get (D := D) (ci := 3) (v := .ref (ad 44)) (C := RX3) (T := TX3) (N := 20) hx hb hts u9_wsX3_measure_X3 hown hK hP 32 rfl rfl 11 (by decide) (hts (.fieldLink RX3 45 "TurnedFloors$Paper" "line" "[I") f9_wsX3_measure_793) (fun _ h9 => h9) rfl dX3_measure_97 ?_
      refine lv_iload_n hx hb dX3_measure_100 rfl (lv_at hl 2 rfl) ?_
      obtain ⟨g1, h⟩ := dG_some h
      refine va_iald hx hb hK hP 44 0 rfl rfl (dg_in g1) dX3_measure_101 ?_
      obtain ⟨v2, ev2, h⟩ := dL_some h
      refine kz_topi v2 ev2 ?_
      refine lv_istore_n (lv' := [(3, .int v2), (0, .ref (ad 32)), (1, .int x1), (2, .int x2)]) hx hb dX3_measure_102 rfl hl (by decide) rfl (fun ls hl => ?_)
      refine lv_iconst (v := 1) hx hb dX3_measure_103 (by decide) ?_
      refine lv_istore (lv' := [(4, .int 1), (3, .int v2), (0, .ref (ad 32)), (1, .int x1), (2, .int x2)]) hx hb dX3_measure_104 hl (by decide) rfl (fun ls hl => ?_)
      exact WX3_measure_s32_106 C0 hk83 _ _ _ _ _ _ _ _ _ h hP hD hS (lv_sub hl [2, 3, 4, 1, 0] rfl)
set_option maxHeartbeats 4000000 in
set_option maxRecDepth 100000 in
theorem WX3_measure_s32_83 {p : Program} {l : Launch} {e : Env} {s : State} {m : MethodId} {args : Array Value} {below : List Frame} {meth : Method} {c : Code} {D : va_G} {ty : Nat → ClassId} {eo : Nat → Nat} {A : Nat → Prop} {ad : Nat → Nat} {o2 : dK} (C : dc_C p s m args meth c cX3_measure none 6 RX3 wsX3_measure D ty eo A)   (n : Nat) (q : dK) (x1 : Int32) (x2 : Int32) (H : Heap) (locs : List Loc) (ls : Array Slot) (h : zX3_measure_s32_83  n q x1 x2 = some o2) (hP : va_P D vwCl (wF ty ad q) H) (hD : va_D A (wF ty ad q)) (hS : va_S A s.heap H locs) (hl : lv_has ls 6 [(0, .ref (ad 32)), (1, .int x1), (2, .int x2)]) : W p l e ({ frames := 2, cells := 0, slots := 0, locals := 47 } : Room) s m args below meth c H locs 0 0 (MQ below (va_Qv (fun (u : va_W) => wF ty ad o2 = u) (kz_B D ty A) A) args s 0 0 A) (F0 m 83 ls []) := by
  exact dFix_W (F := fun k (a : dK × Int32 × Int32) => zX3_measure_s32_83b  (fun q x1 x2 => k (q, x1, x2)) a.1 a.2.1 a.2.2) (o := o2) (P := fun (a : dK × Int32 × Int32) H locs ls => va_P D vwCl (wF ty ad a.1) H ∧ va_D A (wF ty ad a.1) ∧ va_S A s.heap H locs ∧ lv_has ls 6 [(0, .ref (ad 32)), (1, .int a.2.1), (2, .int a.2.2)]) (G := fun H locs ls => W p l e ({ frames := 2, cells := 0, slots := 0, locals := 47 } : Room) s m args below meth c H locs 0 0 (MQ below (va_Qv (fun (u : va_W) => wF ty ad o2 = u) (kz_B D ty A) A) args s 0 0 A) (F0 m 83 ls []))
    (fun k hk a H locs ls h hp => WX3_measure_s32_83b C  (fun q x1 x2 H locs ls h h1 h2 h3 h4 => hk (q, x1, x2) H locs ls h ⟨h1, h2, h3, h4⟩) a.1 a.2.1 a.2.2 H locs ls h hp.1 hp.2.1 hp.2.2.1 hp.2.2.2) n (q, x1, x2) H locs ls h ⟨hP, hD, hS, hl⟩
set_option maxHeartbeats 4000000 in
set_option maxRecDepth 100000 in
theorem WX3_measure_s32_81 {p : Program} {l : Launch} {e : Env} {s : State} {m : MethodId} {args : Array Value} {below : List Frame} {meth : Method} {c : Code} {D : va_G} {ty : Nat → ClassId} {eo : Nat → Nat} {A : Nat → Prop} {ad : Nat → Nat} {o2 : dK} (C : dc_C p s m args meth c cX3_measure none 6 RX3 wsX3_measure D ty eo A)   (q : dK) (x1 : Int32) (H : Heap) (locs : List Loc) (ls : Array Slot) (h : zX3_measure_s32_81  q x1 = some o2) (hP : va_P D vwCl (wF ty ad q) H) (hD : va_D A (wF ty ad q)) (hS : va_S A s.heap H locs) (hl : lv_has ls 6 [(0, .ref (ad 32)), (1, .int x1)]) : W p l e ({ frames := 2, cells := 0, slots := 0, locals := 47 } : Room) s m args below meth c H locs 0 0 (MQ below (va_Qv (fun (u : va_W) => wF ty ad o2 = u) (kz_B D ty A) A) args s 0 0 A) (F0 m 81 ls []) := by
  have C0 := C
  obtain ⟨hx, hb, hr, hts, hown, hlocks, hml, hK, hN, hE, hA⟩ := C
  unfold zX3_measure_s32_81 at h
  refine lv_iconst (v := 0) hx hb dX3_measure_81 (by decide) ?_
  refine lv_istore_n (lv' := [(2, .int 0), (0, .ref (ad 32)), (1, .int x1)]) hx hb dX3_measure_82 rfl hl (by decide) rfl (fun ls hl => ?_)
  exact WX3_measure_s32_83 C0  _ _ _ _ _ _ _ h hP hD hS (lv_sub hl [1, 2, 0] rfl)
set_option maxHeartbeats 4000000 in
set_option maxRecDepth 100000 in
theorem WX3_measure_s32_42b {p : Program} {l : Launch} {e : Env} {s : State} {m : MethodId} {args : Array Value} {below : List Frame} {meth : Method} {c : Code} {D : va_G} {ty : Nat → ClassId} {eo : Nat → Nat} {A : Nat → Prop} {ad : Nat → Nat} {o2 : dK} (C : dc_C p s m args meth c cX3_measure none 6 RX3 wsX3_measure D ty eo A) {k42 : dK → Int32 → Int32 → Option (dK)} (hk42 : ∀ (q : dK) (x1 : Int32) (x2 : Int32) (H : Heap) (locs : List Loc) (ls : Array Slot), k42 q x1 x2 = some o2 → va_P D vwCl (wF ty ad q) H → va_D A (wF ty ad q) → va_S A s.heap H locs → lv_has ls 6 [(0, .ref (ad 32)), (1, .int x1), (2, .int x2)] → W p l e ({ frames := 2, cells := 0, slots := 0, locals := 47 } : Room) s m args below meth c H locs 0 0 (MQ below (va_Qv (fun (u : va_W) => wF ty ad o2 = u) (kz_B D ty A) A) args s 0 0 A) (F0 m 42 ls [])) (q : dK) (x1 : Int32) (x2 : Int32) (H : Heap) (locs : List Loc) (ls : Array Slot) (h : zX3_measure_s32_42b k42 q x1 x2 = some o2) (hP : va_P D vwCl (wF ty ad q) H) (hD : va_D A (wF ty ad q)) (hS : va_S A s.heap H locs) (hl : lv_has ls 6 [(0, .ref (ad 32)), (1, .int x1), (2, .int x2)]) : W p l e ({ frames := 2, cells := 0, slots := 0, locals := 47 } : Room) s m args below meth c H locs 0 0 (MQ below (va_Qv (fun (u : va_W) => wF ty ad o2 = u) (kz_B D ty A) A) args s 0 0 A) (F0 m 42 ls []) := by
  have C0 := C
  obtain ⟨hx, hb, hr, hts, hown, hlocks, hml, hK, hN, hE, hA⟩ := C
  unfold zX3_measure_s32_42b at h
  refine lv_iload_n hx hb dX3_measure_42 rfl (lv_at hl 2 rfl) ?_
  refine lv_aload_n hx hb dX3_measure_43 rfl (lv_at hl 0 rfl) ?_
  refine va_get (D := D) (ci := 3) (v := .int (q.1 32 14)) (C := RX3) (T := TX3) (N := 20) hx hb hts u9_wsX3_measure_X3 hown hK hP 32 rfl rfl 14 (by decide) (hts (.fieldLink RX3 55 "TurnedFloors$Paper" "size" "I") f9_wsX3_measure_792) (fun _ h9 => h9) rfl dX3_measure_44 ?_
  refine lv_icmp_ge (tgt := 81) hx hb dX3_measure_47 (by decide) (fun c9 => ?_) (fun c9 => ?_)
  · rw [if_pos c9] at h
    exact WX3_measure_s32_81 C0  _ _ _ _ _ h hP hD hS (lv_sub hl [0, 1] rfl)
  · rw [if_neg c9] at h
    refine lv_aload_n hx hb dX3_measure_50 rfl (lv_at hl 0 rfl) ?_
    refine lv_iload_n hx hb dX3_measure_51 rfl (lv_at hl 2 rfl) ?_
    obtain ⟨r1, q3, h2, h⟩ := dB_some h
    refine dw_ki (va_runV (As := [.int x2]) (rest := []) ⟨hx, hb, hml, hown, hts⟩ (qX3_isOrdered_s32 l D ty eo _ ad q x2 r1 q3 h2) (cwV 1 hts gX3_measure_X3_isOrdered rfl rfl rfl hd_X3_isOrdered_v ⟨Nat.le_of_ble_eq_true rfl, Nat.le_of_ble_eq_true rfl⟩) (pvF_3_32 hK hN hE hP hD hS hA) rfl rfl hl.1 rfl (lv_room (Nat.le_of_ble_eq_true rfl)) dX3_measure_52 ⟨Nat.le_of_ble_eq_true rfl, Nat.le_of_ble_eq_true rfl⟩) hD hS hA (fun r9 u9 H locs hw hp hd hs => ?_)
    clear hP hD hS
    obtain ⟨rfl, rfl⟩ := hw
    have hP := hp; have hD := hd; have hS := hs; clear hp hd hs
    refine lv_if_eq (tgt := 81) hx hb dX3_measure_55 (by decide) (fun c9 => ?_) (fun c9 => ?_)
    · rw [if_pos c9] at h
      exact WX3_measure_s32_81 C0  _ _ _ _ _ h hP hD hS (lv_sub hl [0, 1] rfl)
    · rw [if_neg c9] at h
      refine lv_aload_n hx hb dX3_measure_58 rfl (lv_at hl 0 rfl) ?_
      refine va_get (D := D) (ci := 3) (v := .ref (ad 42)) (C := RX3) (T := TX3) (N := 20) hx hb hts u9_wsX3_measure_X3 hown hK hP 32 rfl rfl 9 (by decide) (hts (.fieldLink RX3 39 "TurnedFloors$Paper" "toOrder" "[I") f9_wsX3_measure_791) (fun _ h9 => h9) rfl dX3_measure_59 ?_
      refine lv_iload_n hx hb dX3_measure_62 rfl (lv_at hl 2 rfl) ?_
      refine lv_iconst (v := 0) hx hb dX3_measure_63 (by decide) ?_
      obtain ⟨g4, h⟩ := dG_some h
      refine va_iast hx hb hK hP hD hS 42 0 rfl rfl (dg_in g4) dX3_measure_64 (fun H locs hp hd hs => ?_)
      obtain ⟨q5, eq5, h⟩ := dL_some h
      refine kz_re (w2 := wF ty ad q5) hp hd hs (by rw [← eq5]; exact wF_a42 ty ad q3 (Int32.toNatClampNeg x2) 0) ?_
      clear hp hd hs hP hD hS
      intro hP hD hS
      refine lv_aload_n hx hb dX3_measure_65 rfl (lv_at hl 0 rfl) ?_
      refine va_get (D := D) (ci := 3) (v := .ref (ad 44)) (C := RX3) (T := TX3) (N := 20) hx hb hts u9_wsX3_measure_X3 hown hK hP 32 rfl rfl 11 (by decide) (hts (.fieldLink RX3 45 "TurnedFloors$Paper" "line" "[I") f9_wsX3_measure_793) (fun _ h9 => h9) rfl dX3_measure_66 ?_
      refine lv_iload_n hx hb dX3_measure_69 rfl (lv_at hl 1 rfl) ?_
      refine lv_iload_n hx hb dX3_measure_70 rfl (lv_at hl 2 rfl) ?_
      obtain ⟨g6, h⟩ := dG_some h
      refine va_iast hx hb hK hP hD hS 44 0 rfl rfl (dg_in g6) dX3_measure_71 (fun H locs hp hd hs => ?_)
      obtain ⟨q7, eq7, h⟩ := dL_some h
      refine kz_re (w2 := wF ty ad q7) hp hd hs (by rw [← eq7]; exact wF_a44 ty ad q5 (Int32.toNatClampNeg x1) x2) ?_
      clear hp hd hs hP hD hS
      intro hP hD hS
      refine lv_iinc (v := x1 + 1) (lv' := [(1, .int (x1 + 1)), (0, .ref (ad 32)), (2, .int x2)]) hx hb dX3_measure_72 hl (k := 1) rfl rfl (by decide) rfl (fun ls hl => ?_)
      refine lv_iinc (v := x2 + 1) (lv' := [(2, .int (x2 + 1)), (1, .int (x1 + 1)), (0, .ref (ad 32))]) hx hb dX3_measure_75 hl (k := 2) rfl rfl (by decide) rfl (fun ls hl => ?_)
      refine lv_goto (tgt := 42) hx hb dX3_measure_78 (by decide) ?_
      exact hk42 _ _ _ _ _ _ h hP hD hS (lv_sub hl [2, 1, 0] rfl)
set_option maxHeartbeats 4000000 in
set_option maxRecDepth 100000 in
theorem WX3_measure_s32_42 {p : Program} {l : Launch} {e : Env} {s : State} {m : MethodId} {args : Array Value} {below : List Frame} {meth : Method} {c : Code} {D : va_G} {ty : Nat → ClassId} {eo : Nat → Nat} {A : Nat → Prop} {ad : Nat → Nat} {o2 : dK} (C : dc_C p s m args meth c cX3_measure none 6 RX3 wsX3_measure D ty eo A)   (n : Nat) (q : dK) (x1 : Int32) (x2 : Int32) (H : Heap) (locs : List Loc) (ls : Array Slot) (h : zX3_measure_s32_42  n q x1 x2 = some o2) (hP : va_P D vwCl (wF ty ad q) H) (hD : va_D A (wF ty ad q)) (hS : va_S A s.heap H locs) (hl : lv_has ls 6 [(0, .ref (ad 32)), (1, .int x1), (2, .int x2)]) : W p l e ({ frames := 2, cells := 0, slots := 0, locals := 47 } : Room) s m args below meth c H locs 0 0 (MQ below (va_Qv (fun (u : va_W) => wF ty ad o2 = u) (kz_B D ty A) A) args s 0 0 A) (F0 m 42 ls []) := by
  exact dFix_W (F := fun k (a : dK × Int32 × Int32) => zX3_measure_s32_42b  (fun q x1 x2 => k (q, x1, x2)) a.1 a.2.1 a.2.2) (o := o2) (P := fun (a : dK × Int32 × Int32) H locs ls => va_P D vwCl (wF ty ad a.1) H ∧ va_D A (wF ty ad a.1) ∧ va_S A s.heap H locs ∧ lv_has ls 6 [(0, .ref (ad 32)), (1, .int a.2.1), (2, .int a.2.2)]) (G := fun H locs ls => W p l e ({ frames := 2, cells := 0, slots := 0, locals := 47 } : Room) s m args below meth c H locs 0 0 (MQ below (va_Qv (fun (u : va_W) => wF ty ad o2 = u) (kz_B D ty A) A) args s 0 0 A) (F0 m 42 ls []))
    (fun k hk a H locs ls h hp => WX3_measure_s32_42b C  (fun q x1 x2 H locs ls h h1 h2 h3 h4 => hk (q, x1, x2) H locs ls h ⟨h1, h2, h3, h4⟩) a.1 a.2.1 a.2.2 H locs ls h hp.1 hp.2.1 hp.2.2.1 hp.2.2.2) n (q, x1, x2) H locs ls h ⟨hP, hD, hS, hl⟩
set_option maxHeartbeats 4000000 in
set_option maxRecDepth 100000 in
theorem WX3_measure_s32_30 {p : Program} {l : Launch} {e : Env} {s : State} {m : MethodId} {args : Array Value} {below : List Frame} {meth : Method} {c : Code} {D : va_G} {ty : Nat → ClassId} {eo : Nat → Nat} {A : Nat → Prop} {ad : Nat → Nat} {o2 : dK} (C : dc_C p s m args meth c cX3_measure none 6 RX3 wsX3_measure D ty eo A)   (q : dK)  (H : Heap) (locs : List Loc) (ls : Array Slot) (h : zX3_measure_s32_30  q = some o2) (hP : va_P D vwCl (wF ty ad q) H) (hD : va_D A (wF ty ad q)) (hS : va_S A s.heap H locs) (hl : lv_has ls 6 [(0, .ref (ad 32))]) : W p l e ({ frames := 2, cells := 0, slots := 0, locals := 47 } : Room) s m args below meth c H locs 0 0 (MQ below (va_Qv (fun (u : va_W) => wF ty ad o2 = u) (kz_B D ty A) A) args s 0 0 A) (F0 m 30 ls []) := by
  have C0 := C
  obtain ⟨hx, hb, hr, hts, hown, hlocks, hml, hK, hN, hE, hA⟩ := C
  unfold zX3_measure_s32_30 at h
  refine lv_aload_n hx hb dX3_measure_30 rfl (lv_at hl 0 rfl) ?_
  refine va_get (D := D) (ci := 3) (v := .ref (ad 42)) (C := RX3) (T := TX3) (N := 20) hx hb hts u9_wsX3_measure_X3 hown hK hP 32 rfl rfl 9 (by decide) (hts (.fieldLink RX3 39 "TurnedFloors$Paper" "toOrder" "[I") f9_wsX3_measure_791) (fun _ h9 => h9) rfl dX3_measure_31 ?_
  refine lv_iconst (v := (-1)) hx hb dX3_measure_34 (by decide) ?_
  refine dw_kv1 (j := 42) rfl (va_runS (As := [.ref (ad 42), .int (-1)]) (rest := []) ⟨hx, hb, hml, hown, hts⟩ (cJ7_fillI l D ty eo _ (ad 42) (Int32.toNatClampNeg (q.1 32 103)) _ (-1) (cl_lt _)) (va_cwS 2 hts gX3_measure_J7_fill_53178 rfl rfl rfl hd_J7_fill_53178 ⟨Nat.le_of_ble_eq_true rfl, Nat.le_of_ble_eq_true rfl⟩) (kz_preS hK hN hE hP hD hS hA [42] (by decide) rfl) rfl rfl hl.1 rfl (lv_room (Nat.le_of_ble_eq_true rfl)) dX3_measure_35 ⟨Nat.le_of_ble_eq_true rfl, Nat.le_of_ble_eq_true rfl⟩) hP hD hS hA (fun u9 h9 => h9.symm) (fun H locs hp hd hs => ?_)
  obtain ⟨q1, eq1, h⟩ := dL_some h
  refine kz_re (w2 := wF ty ad q1) hp hd hs (by rw [← eq1]; exact rfl) ?_
  clear hp hd hs hP hD hS
  intro hP hD hS
  refine lv_iconst (v := 0) hx hb dX3_measure_38 (by decide) ?_
  refine lv_istore_n (lv' := [(1, .int 0), (0, .ref (ad 32))]) hx hb dX3_measure_39 rfl hl (by decide) rfl (fun ls hl => ?_)
  refine lv_iconst (v := 0) hx hb dX3_measure_40 (by decide) ?_
  refine lv_istore_n (lv' := [(2, .int 0), (1, .int 0), (0, .ref (ad 32))]) hx hb dX3_measure_41 rfl hl (by decide) rfl (fun ls hl => ?_)
  exact WX3_measure_s32_42 C0  _ _ _ _ _ _ _ h hP hD hS (lv_sub hl [2, 1, 0] rfl)
set_option maxHeartbeats 4000000 in
set_option maxRecDepth 100000 in
theorem qX3_measure_s32 (l : Launch) (D : va_G) (ty : Nat → ClassId) (eo : Nat → Nat) (sz : Nat) (ad : Nat → Nat) (q : dK)  (o2 : dK) (h : zX3_measure_s32 q = some o2) : Met l yX3_measure wsX3_measure ({ frames := 2, cells := 0, slots := 0, locals := 47 } : Room) (va_Pc [.ref (ad 32)] (kz_pre D ty eo (wF ty ad q) sz)) (va_Qv (fun (u : va_W) => wF ty ad o2 = u) (kz_B D ty (va_A (wF ty ad q) sz)) (va_A (wF ty ad q) sz)) 0 0 (va_A (wF ty ad q) sz) := by
  refine Met.ofW (cc := cX3_measure) (maxL := 6) (ret := none) (by decide) rfl ?_
  intro p e s m args below meth c s₁ B hml hv
  obtain ⟨rfl, hsz, hP, hK, hD0, hN, hE⟩ := hv
  have hx := B.exec
  have hb := B.bytes
  have hr := B.returns
  have hts := atoms_spec (ws := wsX3_measure) B.pre
  have hown : s.vm.findClass RX3 = some m.cls := findClass_of_methodNamed B.named
  have hlocks := B.notSynchronized
  subst hsz
  have hD := hD0.self (sz := s.heap.size)
  generalize hAe : va_A (wF ty ad q) s.heap.size = A at hD hE ⊢
  have hA : ∀ q : Nat, s.heap.size ≤ q → A q := fun q h => by rw [← hAe]; exact Or.inr h
  clear hAe
  have hS : va_S A s.heap s.heap [] := va_S.rf
  have hl := lv_entry ([.ref (ad 32)]) (n := 6) (Nat.le_of_ble_eq_true rfl)
  rw [lg_entry_eq]
  generalize (lg_sl ([.ref (ad 32)]) ++ List.replicate (6 - (lg_sl ([.ref (ad 32)])).length) Slot.unset).toArray = ls at hl ⊢
  have hl : lv_has ls 6 [(0, .ref (ad 32))] := hl
  have C : dc_C p s m _ meth c cX3_measure none 6 RX3 wsX3_measure D ty eo A := ⟨hx, hb, hr, hts, hown, hlocks, hml, hK, hN, hE, hA⟩
  unfold zX3_measure_s32 at h
  refine lv_aload_n hx hb dX3_measure_0 rfl (lv_at hl 0 rfl) ?_
  refine va_get (D := D) (ci := 3) (v := .int (q.1 32 17)) (C := RX3) (T := TX3) (N := 20) hx hb hts u9_wsX3_measure_X3 hown hK hP 32 rfl rfl 17 (by decide) (hts (.fieldLink RX3 64 "TurnedFloors$Paper" "measuredFloors" "I") f9_wsX3_measure_782) (fun _ h9 => h9) rfl dX3_measure_1 ?_
  refine lv_aload_n hx hb dX3_measure_4 rfl (lv_at hl 0 rfl) ?_
  refine va_get (D := D) (ci := 3) (v := .int (q.1 32 13)) (C := RX3) (T := TX3) (N := 20) hx hb hts u9_wsX3_measure_X3 hown hK hP 32 rfl rfl 13 (by decide) (hts (.fieldLink RX3 51 "TurnedFloors$Paper" "floors" "I") f9_wsX3_measure_781) (fun _ h9 => h9) rfl dX3_measure_5 ?_
  refine lv_icmp_ne (tgt := 30) hx hb dX3_measure_8 (by decide) (fun c9 => ?_) (fun c9 => ?_)
  · rw [if_neg c9] at h
    exact WX3_measure_s32_30 C  _ _ _ _ h hP hD hS (lv_sub hl [0] rfl)
  · rw [if_pos c9] at h
    refine lv_aload_n hx hb dX3_measure_11 rfl (lv_at hl 0 rfl) ?_
    refine va_get (D := D) (ci := 3) (v := .int (q.1 32 18)) (C := RX3) (T := TX3) (N := 20) hx hb hts u9_wsX3_measure_X3 hown hK hP 32 rfl rfl 18 (by decide) (hts (.fieldLink RX3 67 "TurnedFloors$Paper" "measuredHeads" "I") f9_wsX3_measure_784) (fun _ h9 => h9) rfl dX3_measure_12 ?_
    refine lv_aload_n hx hb dX3_measure_15 rfl (lv_at hl 0 rfl) ?_
    refine va_get (D := D) (ci := 3) (v := .int (q.1 32 16)) (C := RX3) (T := TX3) (N := 20) hx hb hts u9_wsX3_measure_X3 hown hK hP 32 rfl rfl 16 (by decide) (hts (.fieldLink RX3 61 "TurnedFloors$Paper" "headsMatter" "I") f9_wsX3_measure_783) (fun _ h9 => h9) rfl dX3_measure_16 ?_
    refine lv_icmp_ne (tgt := 30) hx hb dX3_measure_19 (by decide) (fun c9 => ?_) (fun c9 => ?_)
    · rw [if_neg c9] at h
      exact WX3_measure_s32_30 C  _ _ _ _ h hP hD hS (lv_sub hl [0] rfl)
    · rw [if_pos c9] at h
      refine lv_aload_n hx hb dX3_measure_22 rfl (lv_at hl 0 rfl) ?_
      obtain ⟨r1, q3, h2, h⟩ := dB_some h
      refine dw_ki (va_runV (As := []) (rest := []) ⟨hx, hb, hml, hown, hts⟩ (qX3_sameBars_s32 l D ty eo _ ad q  r1 q3 h2) (cwV 0 hts gX3_measure_X3_sameBars rfl rfl rfl hd_X3_sameBars_v ⟨Nat.le_of_ble_eq_true rfl, Nat.le_of_ble_eq_true rfl⟩) (pvF_3_32 hK hN hE hP hD hS hA) rfl rfl hl.1 rfl (lv_room (Nat.le_of_ble_eq_true rfl)) dX3_measure_23 ⟨Nat.le_of_ble_eq_true rfl, Nat.le_of_ble_eq_true rfl⟩) hD hS hA (fun r9 u9 H locs hw hp hd hs => ?_)
      clear hP hD hS
      obtain ⟨rfl, rfl⟩ := hw
      have hP := hp; have hD := hd; have hS := hs; clear hp hd hs
      refine lv_if_eq (tgt := 30) hx hb dX3_measure_26 (by decide) (fun c9 => ?_) (fun c9 => ?_)
      · rw [if_pos c9] at h
        exact WX3_measure_s32_30 C  _ _ _ _ h hP hD hS (lv_sub hl [0] rfl)
      · rw [if_neg c9] at h
        cases h
        exact kz_vret hx hb hr hlocks hP hK hD hS dX3_measure_29 rfl

set_option maxHeartbeats 4000000 in
set_option maxRecDepth 100000 in
theorem WX3_isCloser_s32_50 {p : Program} {l : Launch} {e : Env} {s : State} {m : MethodId} {args : Array Value} {below : List Frame} {meth : Method} {c : Code} {D : va_G} {ty : Nat → ClassId} {eo : Nat → Nat} {A : Nat → Prop} {ad : Nat → Nat} {o1 : Int32} {o2 : dK} (C : dc_C p s m args meth c cX3_isCloser (some .boolean) 3 RX3 wsX3_isCloser D ty eo A)   (q : dK) (y0 : Int32) (H : Heap) (locs : List Loc) (ls : Array Slot) (h : zX3_isCloser_s32_50  q y0 = some (o1, o2)) (hP : va_P D vwCl (wF ty ad q) H) (hD : va_D A (wF ty ad q)) (hS : va_S A s.heap H locs) (hl : lv_has ls 3 []) : W p l e ({ frames := 2, cells := 0, slots := 0, locals := 47 } : Room) s m args below meth c H locs 0 0 (MQ below (va_Qi (fun (r : Int32) (u : va_W) => o1 = r ∧ wF ty ad o2 = u) (kz_B D ty A) A) args s 0 0 A) (F0 m 50 ls [.int y0]) := by
  have C0 := C
  obtain ⟨hx, hb, hr, hts, hown, hlocks, hml, hK, hN, hE, hA⟩ := C
  unfold zX3_isCloser_s32_50 at h
  obtain ⟨g1, h⟩ := dG_some h
  cases h
  exact kz_zret hx hb hr hlocks (dbl_nar g1) hP hK hD hS dX3_isCloser_50 ⟨rfl, rfl⟩
set_option maxHeartbeats 4000000 in
set_option maxRecDepth 100000 in
theorem WX3_isCloser_s32_49 {p : Program} {l : Launch} {e : Env} {s : State} {m : MethodId} {args : Array Value} {below : List Frame} {meth : Method} {c : Code} {D : va_G} {ty : Nat → ClassId} {eo : Nat → Nat} {A : Nat → Prop} {ad : Nat → Nat} {o1 : Int32} {o2 : dK} (C : dc_C p s m args meth c cX3_isCloser (some .boolean) 3 RX3 wsX3_isCloser D ty eo A)   (q : dK)  (H : Heap) (locs : List Loc) (ls : Array Slot) (h : zX3_isCloser_s32_49  q = some (o1, o2)) (hP : va_P D vwCl (wF ty ad q) H) (hD : va_D A (wF ty ad q)) (hS : va_S A s.heap H locs) (hl : lv_has ls 3 []) : W p l e ({ frames := 2, cells := 0, slots := 0, locals := 47 } : Room) s m args below meth c H locs 0 0 (MQ below (va_Qi (fun (r : Int32) (u : va_W) => o1 = r ∧ wF ty ad o2 = u) (kz_B D ty A) A) args s 0 0 A) (F0 m 49 ls []) := by
  have C0 := C
  obtain ⟨hx, hb, hr, hts, hown, hlocks, hml, hK, hN, hE, hA⟩ := C
  unfold zX3_isCloser_s32_49 at h
  refine lv_iconst (v := 0) hx hb dX3_isCloser_49 (by decide) ?_
  exact WX3_isCloser_s32_50 C0  _ _ _ _ _ h hP hD hS (lv_sub hl [] rfl)
set_option maxHeartbeats 4000000 in
set_option maxRecDepth 100000 in
theorem qX3_isCloser_s32 (l : Launch) (D : va_G) (ty : Nat → ClassId) (eo : Nat → Nat) (sz : Nat) (ad : Nat → Nat) (q : dK) (p1 : Int32) (p2 : Int32) (o1 : Int32) (o2 : dK) (h : zX3_isCloser_s32 q p1 p2 = some (o1, o2)) : Met l yX3_isCloser wsX3_isCloser ({ frames := 2, cells := 0, slots := 0, locals := 47 } : Room) (va_Pc [.ref (ad 32), .int p1, .int p2] (kz_pre D ty eo (wF ty ad q) sz)) (va_Qi (fun (r : Int32) (u : va_W) => o1 = r ∧ wF ty ad o2 = u) (kz_B D ty (va_A (wF ty ad q) sz)) (va_A (wF ty ad q) sz)) 0 0 (va_A (wF ty ad q) sz) := by
  refine Met.ofW (cc := cX3_isCloser) (maxL := 3) (ret := (some .boolean)) (by decide) rfl ?_
  intro p e s m args below meth c s₁ B hml hv
  obtain ⟨rfl, hsz, hP, hK, hD0, hN, hE⟩ := hv
  have hx := B.exec
  have hb := B.bytes
  have hr := B.returns
  have hts := atoms_spec (ws := wsX3_isCloser) B.pre
  have hown : s.vm.findClass RX3 = some m.cls := findClass_of_methodNamed B.named
  have hlocks := B.notSynchronized
  subst hsz
  have hD := hD0.self (sz := s.heap.size)
  generalize hAe : va_A (wF ty ad q) s.heap.size = A at hD hE ⊢
  have hA : ∀ q : Nat, s.heap.size ≤ q → A q := fun q h => by rw [← hAe]; exact Or.inr h
  clear hAe
  have hS : va_S A s.heap s.heap [] := va_S.rf
  have hl := lv_entry ([.ref (ad 32), .int p1, .int p2]) (n := 3) (Nat.le_of_ble_eq_true rfl)
  rw [lg_entry_eq]
  generalize (lg_sl ([.ref (ad 32), .int p1, .int p2]) ++ List.replicate (3 - (lg_sl ([.ref (ad 32), .int p1, .int p2])).length) Slot.unset).toArray = ls at hl ⊢
  have hl : lv_has ls 3 [(0, .ref (ad 32)), (1, .int p1), (2, .int p2)] := hl
  have C : dc_C p s m _ meth c cX3_isCloser (some .boolean) 3 RX3 wsX3_isCloser D ty eo A := ⟨hx, hb, hr, hts, hown, hlocks, hml, hK, hN, hE, hA⟩
  unfold zX3_isCloser_s32 at h
  refine lv_aload_n hx hb dX3_isCloser_0 rfl (lv_at hl 0 rfl) ?_
  refine va_get (D := D) (ci := 3) (v := .ref (ad 42)) (C := RX3) (T := TX3) (N := 20) hx hb hts u9_wsX3_isCloser_X3 hown hK hP 32 rfl rfl 9 (by decide) (hts (.fieldLink RX3 39 "TurnedFloors$Paper" "toOrder" "[I") f9_wsX3_isCloser_795) (fun _ h9 => h9) rfl dX3_isCloser_1 ?_
  refine lv_aload_n hx hb dX3_isCloser_4 rfl (lv_at hl 0 rfl) ?_
  refine lv_iload_n hx hb dX3_isCloser_5 rfl (lv_at hl 1 rfl) ?_
  refine lv_iload_n hx hb dX3_isCloser_6 rfl (lv_at hl 2 rfl) ?_
  obtain ⟨r1, q3, h2, h⟩ := dB_some h
  refine dw_ki (va_runV (As := [.int p1, .int p2]) (rest := [.ref (ad 42)]) ⟨hx, hb, hml, hown, hts⟩ (qX3_turned_s32 l D ty eo _ ad q p1 p2 r1 q3 h2) (cwV 2 hts gX3_isCloser_X3_turned rfl rfl rfl hd_X3_turned_v ⟨Nat.le_of_ble_eq_true rfl, Nat.le_of_ble_eq_true rfl⟩) (pvF_3_32 hK hN hE hP hD hS hA) rfl rfl hl.1 rfl (lv_room (Nat.le_of_ble_eq_true rfl)) dX3_isCloser_7 ⟨Nat.le_of_ble_eq_true rfl, Nat.le_of_ble_eq_true rfl⟩) hD hS hA (fun r9 u9 H locs hw hp hd hs => ?_)
  clear hP hD hS
  obtain ⟨rfl, rfl⟩ := hw
  have hP := hp; have hD := hd; have hS := hs; clear hp hd hs
  obtain ⟨g4, h⟩ := dG_some h
  refine va_iald hx hb hK hP 42 0 rfl rfl (dg_in g4) dX3_isCloser_10 ?_
  obtain ⟨v5, ev5, h⟩ := dL_some h
  refine kz_topi v5 ev5 ?_
  refine lv_aload_n hx hb dX3_isCloser_11 rfl (lv_at hl 0 rfl) ?_
  refine va_get (D := D) (ci := 3) (v := .ref (ad 42)) (C := RX3) (T := TX3) (N := 20) hx hb hts u9_wsX3_isCloser_X3 hown hK hP 32 rfl rfl 9 (by decide) (hts (.fieldLink RX3 39 "TurnedFloors$Paper" "toOrder" "[I") f9_wsX3_isCloser_795) (fun _ h9 => h9) rfl dX3_isCloser_12 ?_
  refine lv_iload_n hx hb dX3_isCloser_15 rfl (lv_at hl 1 rfl) ?_
  obtain ⟨g6, h⟩ := dG_some h
  refine va_iald hx hb hK hP 42 0 rfl rfl (dg_in g6) dX3_isCloser_16 ?_
  obtain ⟨v7, ev7, h⟩ := dL_some h
  refine kz_topi v7 ev7 ?_
  refine lv_iconst (v := 1) hx hb dX3_isCloser_17 (by decide) ?_
  refine lv_isub hx hb dX3_isCloser_18 ?_
  refine lv_icmp_ne (tgt := 49) hx hb dX3_isCloser_19 (by decide) (fun c9 => ?_) (fun c9 => ?_)
  · rw [if_neg c9] at h
    exact WX3_isCloser_s32_49 C  _ _ _ _ h hP hD hS (lv_sub hl [] rfl)
  · rw [if_pos c9] at h
    refine lv_aload_n hx hb dX3_isCloser_22 rfl (lv_at hl 0 rfl) ?_
    refine va_get (D := D) (ci := 3) (v := .ref (ad 42)) (C := RX3) (T := TX3) (N := 20) hx hb hts u9_wsX3_isCloser_X3 hown hK hP 32 rfl rfl 9 (by decide) (hts (.fieldLink RX3 39 "TurnedFloors$Paper" "toOrder" "[I") f9_wsX3_isCloser_795) (fun _ h9 => h9) rfl dX3_isCloser_23 ?_
    refine lv_iload_n hx hb dX3_isCloser_26 rfl (lv_at hl 1 rfl) ?_
    obtain ⟨g8, h⟩ := dG_some h
    refine va_iald hx hb hK hP 42 0 rfl rfl (dg_in g8) dX3_isCloser_27 ?_
    obtain ⟨v9, ev9, h⟩ := dL_some h
    refine kz_topi v9 ev9 ?_
    refine lv_if_le (tgt := 49) hx hb dX3_isCloser_28 (by decide) (fun c9 => ?_) (fun c9 => ?_)
    · rw [if_pos c9] at h
      exact WX3_isCloser_s32_49 C  _ _ _ _ h hP hD hS (lv_sub hl [] rfl)
    · rw [if_neg c9] at h
      refine lv_aload_n hx hb dX3_isCloser_31 rfl (lv_at hl 0 rfl) ?_
      refine va_get (D := D) (ci := 3) (v := .ref (ad 35)) (C := RX3) (T := TX3) (N := 20) hx hb hts u9_wsX3_isCloser_X3 hown hK hP 32 rfl rfl 2 (by decide) (hts (.fieldLink RX3 18 "TurnedFloors$Paper" "barred" "[I") f9_wsX3_isCloser_796) (fun _ h9 => h9) rfl dX3_isCloser_32 ?_
      refine lv_aload_n hx hb dX3_isCloser_35 rfl (lv_at hl 0 rfl) ?_
      refine lv_iload_n hx hb dX3_isCloser_36 rfl (lv_at hl 1 rfl) ?_
      refine lv_iload_n hx hb dX3_isCloser_37 rfl (lv_at hl 2 rfl) ?_
      obtain ⟨r10, q12, h11, h⟩ := dB_some h
      refine dw_ki (va_runV (As := [.int p1, .int p2]) (rest := [.ref (ad 35)]) ⟨hx, hb, hml, hown, hts⟩ (qX3_caseOf_s32 l D ty eo _ ad q3 p1 p2 r10 q12 h11) (cwV 2 hts gX3_isCloser_X3_caseOf rfl rfl rfl hd_X3_caseOf_v ⟨Nat.le_of_ble_eq_true rfl, Nat.le_of_ble_eq_true rfl⟩) (pvF_3_32 hK hN hE hP hD hS hA) rfl rfl hl.1 rfl (lv_room (Nat.le_of_ble_eq_true rfl)) dX3_isCloser_38 ⟨Nat.le_of_ble_eq_true rfl, Nat.le_of_ble_eq_true rfl⟩) hD hS hA (fun r9 u9 H locs hw hp hd hs => ?_)
      clear hP hD hS
      obtain ⟨rfl, rfl⟩ := hw
      have hP := hp; have hD := hd; have hS := hs; clear hp hd hs
      obtain ⟨g13, h⟩ := dG_some h
      refine va_iald hx hb hK hP 35 0 rfl rfl (dg_in g13) dX3_isCloser_41 ?_
      obtain ⟨v14, ev14, h⟩ := dL_some h
      refine kz_topi v14 ev14 ?_
      refine lv_if_ne (tgt := 49) hx hb dX3_isCloser_42 (by decide) (fun c9 => ?_) (fun c9 => ?_)
      · rw [if_neg c9] at h
        exact WX3_isCloser_s32_49 C  _ _ _ _ h hP hD hS (lv_sub hl [] rfl)
      · rw [if_pos c9] at h
        refine lv_iconst (v := 1) hx hb dX3_isCloser_45 (by decide) ?_
        refine lv_goto (tgt := 50) hx hb dX3_isCloser_46 (by decide) ?_
        exact WX3_isCloser_s32_50 C  _ _ _ _ _ h hP hD hS (lv_sub hl [] rfl)

set_option maxHeartbeats 4000000 in
set_option maxRecDepth 100000 in
theorem WX3_firstCloser_s32_2b {p : Program} {l : Launch} {e : Env} {s : State} {m : MethodId} {args : Array Value} {below : List Frame} {meth : Method} {c : Code} {D : va_G} {ty : Nat → ClassId} {eo : Nat → Nat} {A : Nat → Prop} {ad : Nat → Nat} {o1 : Int32} {o2 : dK} (C : dc_C p s m args meth c cX3_firstCloser (some .int) 3 RX3 wsX3_firstCloser D ty eo A) {k2 : dK → Int32 → Int32 → Option (Int32 × dK)} (hk2 : ∀ (q : dK) (x1 : Int32) (x2 : Int32) (H : Heap) (locs : List Loc) (ls : Array Slot), k2 q x1 x2 = some (o1, o2) → va_P D vwCl (wF ty ad q) H → va_D A (wF ty ad q) → va_S A s.heap H locs → lv_has ls 3 [(0, .ref (ad 32)), (1, .int x1), (2, .int x2)] → W p l e ({ frames := 3, cells := 0, slots := 0, locals := 69 } : Room) s m args below meth c H locs 0 0 (MQ below (va_Qi (fun (r : Int32) (u : va_W) => o1 = r ∧ wF ty ad o2 = u) (kz_B D ty A) A) args s 0 0 A) (F0 m 2 ls [])) (q : dK) (x1 : Int32) (x2 : Int32) (H : Heap) (locs : List Loc) (ls : Array Slot) (h : zX3_firstCloser_s32_2b k2 q x1 x2 = some (o1, o2)) (hP : va_P D vwCl (wF ty ad q) H) (hD : va_D A (wF ty ad q)) (hS : va_S A s.heap H locs) (hl : lv_has ls 3 [(0, .ref (ad 32)), (1, .int x1), (2, .int x2)]) : W p l e ({ frames := 3, cells := 0, slots := 0, locals := 69 } : Room) s m args below meth c H locs 0 0 (MQ below (va_Qi (fun (r : Int32) (u : va_W) => o1 = r ∧ wF ty ad o2 = u) (kz_B D ty A) A) args s 0 0 A) (F0 m 2 ls []) := by
  have C0 := C
  obtain ⟨hx, hb, hr, hts, hown, hlocks, hml, hK, hN, hE, hA⟩ := C
  unfold zX3_firstCloser_s32_2b at h
  refine lv_iload_n hx hb dX3_firstCloser_2 rfl (lv_at hl 2 rfl) ?_
  refine lv_aload_n hx hb dX3_firstCloser_3 rfl (lv_at hl 0 rfl) ?_
  refine va_get (D := D) (ci := 3) (v := .int (q.1 32 13)) (C := RX3) (T := TX3) (N := 20) hx hb hts u9_wsX3_firstCloser_X3 hown hK hP 32 rfl rfl 13 (by decide) (hts (.fieldLink RX3 51 "TurnedFloors$Paper" "floors" "I") f9_wsX3_firstCloser_798) (fun _ h9 => h9) rfl dX3_firstCloser_4 ?_
  refine lv_icmp_gt (tgt := 27) hx hb dX3_firstCloser_7 (by decide) (fun c9 => ?_) (fun c9 => ?_)
  · rw [if_pos c9] at h
    refine lv_iconst (v := (-1)) hx hb dX3_firstCloser_27 (by decide) ?_
    cases h
    exact kz_iret hx hb hr hlocks hP hK hD hS dX3_firstCloser_28 ⟨rfl, rfl⟩
  · rw [if_neg c9] at h
    refine lv_aload_n hx hb dX3_firstCloser_10 rfl (lv_at hl 0 rfl) ?_
    refine lv_iload_n hx hb dX3_firstCloser_11 rfl (lv_at hl 1 rfl) ?_
    refine lv_iload_n hx hb dX3_firstCloser_12 rfl (lv_at hl 2 rfl) ?_
    obtain ⟨r1, q3, h2, h⟩ := dB_some h
    refine dw_ki (va_runV (As := [.int x1, .int x2]) (rest := []) ⟨hx, hb, hml, hown, hts⟩ (qX3_isCloser_s32 l D ty eo _ ad q x1 x2 r1 q3 h2) (cwV 2 hts gX3_firstCloser_X3_isCloser rfl rfl rfl hd_X3_isCloser_v ⟨Nat.le_of_ble_eq_true rfl, Nat.le_of_ble_eq_true rfl⟩) (pvF_3_32 hK hN hE hP hD hS hA) rfl rfl hl.1 rfl (lv_room (Nat.le_of_ble_eq_true rfl)) dX3_firstCloser_13 ⟨Nat.le_of_ble_eq_true rfl, Nat.le_of_ble_eq_true rfl⟩) hD hS hA (fun r9 u9 H locs hw hp hd hs => ?_)
    clear hP hD hS
    obtain ⟨rfl, rfl⟩ := hw
    have hP := hp; have hD := hd; have hS := hs; clear hp hd hs
    refine lv_if_eq (tgt := 21) hx hb dX3_firstCloser_16 (by decide) (fun c9 => ?_) (fun c9 => ?_)
    · rw [if_pos c9] at h
      refine lv_iinc (v := x2 + 1) (lv' := [(2, .int (x2 + 1)), (0, .ref (ad 32)), (1, .int x1)]) hx hb dX3_firstCloser_21 hl (k := 2) rfl rfl (by decide) rfl (fun ls hl => ?_)
      refine lv_goto (tgt := 2) hx hb dX3_firstCloser_24 (by decide) ?_
      exact hk2 _ _ _ _ _ _ h hP hD hS (lv_sub hl [1, 2, 0] rfl)
    · rw [if_neg c9] at h
      refine lv_iload_n hx hb dX3_firstCloser_19 rfl (lv_at hl 2 rfl) ?_
      cases h
      exact kz_iret hx hb hr hlocks hP hK hD hS dX3_firstCloser_20 ⟨rfl, rfl⟩
set_option maxHeartbeats 4000000 in
set_option maxRecDepth 100000 in
theorem WX3_firstCloser_s32_2 {p : Program} {l : Launch} {e : Env} {s : State} {m : MethodId} {args : Array Value} {below : List Frame} {meth : Method} {c : Code} {D : va_G} {ty : Nat → ClassId} {eo : Nat → Nat} {A : Nat → Prop} {ad : Nat → Nat} {o1 : Int32} {o2 : dK} (C : dc_C p s m args meth c cX3_firstCloser (some .int) 3 RX3 wsX3_firstCloser D ty eo A)   (n : Nat) (q : dK) (x1 : Int32) (x2 : Int32) (H : Heap) (locs : List Loc) (ls : Array Slot) (h : zX3_firstCloser_s32_2  n q x1 x2 = some (o1, o2)) (hP : va_P D vwCl (wF ty ad q) H) (hD : va_D A (wF ty ad q)) (hS : va_S A s.heap H locs) (hl : lv_has ls 3 [(0, .ref (ad 32)), (1, .int x1), (2, .int x2)]) : W p l e ({ frames := 3, cells := 0, slots := 0, locals := 69 } : Room) s m args below meth c H locs 0 0 (MQ below (va_Qi (fun (r : Int32) (u : va_W) => o1 = r ∧ wF ty ad o2 = u) (kz_B D ty A) A) args s 0 0 A) (F0 m 2 ls []) := by
  exact dFix_W (F := fun k (a : dK × Int32 × Int32) => zX3_firstCloser_s32_2b  (fun q x1 x2 => k (q, x1, x2)) a.1 a.2.1 a.2.2) (o := (o1, o2)) (P := fun (a : dK × Int32 × Int32) H locs ls => va_P D vwCl (wF ty ad a.1) H ∧ va_D A (wF ty ad a.1) ∧ va_S A s.heap H locs ∧ lv_has ls 3 [(0, .ref (ad 32)), (1, .int a.2.1), (2, .int a.2.2)]) (G := fun H locs ls => W p l e ({ frames := 3, cells := 0, slots := 0, locals := 69 } : Room) s m args below meth c H locs 0 0 (MQ below (va_Qi (fun (r : Int32) (u : va_W) => o1 = r ∧ wF ty ad o2 = u) (kz_B D ty A) A) args s 0 0 A) (F0 m 2 ls []))
    (fun k hk a H locs ls h hp => WX3_firstCloser_s32_2b C  (fun q x1 x2 H locs ls h h1 h2 h3 h4 => hk (q, x1, x2) H locs ls h ⟨h1, h2, h3, h4⟩) a.1 a.2.1 a.2.2 H locs ls h hp.1 hp.2.1 hp.2.2.1 hp.2.2.2) n (q, x1, x2) H locs ls h ⟨hP, hD, hS, hl⟩
set_option maxHeartbeats 4000000 in
set_option maxRecDepth 100000 in
theorem qX3_firstCloser_s32 (l : Launch) (D : va_G) (ty : Nat → ClassId) (eo : Nat → Nat) (sz : Nat) (ad : Nat → Nat) (q : dK) (p1 : Int32) (o1 : Int32) (o2 : dK) (h : zX3_firstCloser_s32 q p1 = some (o1, o2)) : Met l yX3_firstCloser wsX3_firstCloser ({ frames := 3, cells := 0, slots := 0, locals := 69 } : Room) (va_Pc [.ref (ad 32), .int p1] (kz_pre D ty eo (wF ty ad q) sz)) (va_Qi (fun (r : Int32) (u : va_W) => o1 = r ∧ wF ty ad o2 = u) (kz_B D ty (va_A (wF ty ad q) sz)) (va_A (wF ty ad q) sz)) 0 0 (va_A (wF ty ad q) sz) := by
  refine Met.ofW (cc := cX3_firstCloser) (maxL := 3) (ret := (some .int)) (by decide) rfl ?_
  intro p e s m args below meth c s₁ B hml hv
  obtain ⟨rfl, hsz, hP, hK, hD0, hN, hE⟩ := hv
  have hx := B.exec
  have hb := B.bytes
  have hr := B.returns
  have hts := atoms_spec (ws := wsX3_firstCloser) B.pre
  have hown : s.vm.findClass RX3 = some m.cls := findClass_of_methodNamed B.named
  have hlocks := B.notSynchronized
  subst hsz
  have hD := hD0.self (sz := s.heap.size)
  generalize hAe : va_A (wF ty ad q) s.heap.size = A at hD hE ⊢
  have hA : ∀ q : Nat, s.heap.size ≤ q → A q := fun q h => by rw [← hAe]; exact Or.inr h
  clear hAe
  have hS : va_S A s.heap s.heap [] := va_S.rf
  have hl := lv_entry ([.ref (ad 32), .int p1]) (n := 3) (Nat.le_of_ble_eq_true rfl)
  rw [lg_entry_eq]
  generalize (lg_sl ([.ref (ad 32), .int p1]) ++ List.replicate (3 - (lg_sl ([.ref (ad 32), .int p1])).length) Slot.unset).toArray = ls at hl ⊢
  have hl : lv_has ls 3 [(0, .ref (ad 32)), (1, .int p1)] := hl
  have C : dc_C p s m _ meth c cX3_firstCloser (some .int) 3 RX3 wsX3_firstCloser D ty eo A := ⟨hx, hb, hr, hts, hown, hlocks, hml, hK, hN, hE, hA⟩
  unfold zX3_firstCloser_s32 at h
  refine lv_iconst (v := 1) hx hb dX3_firstCloser_0 (by decide) ?_
  refine lv_istore_n (lv' := [(2, .int 1), (0, .ref (ad 32)), (1, .int p1)]) hx hb dX3_firstCloser_1 rfl hl (by decide) rfl (fun ls hl => ?_)
  exact WX3_firstCloser_s32_2 C  _ _ _ _ _ _ _ h hP hD hS (lv_sub hl [1, 2, 0] rfl)

set_option maxHeartbeats 4000000 in
set_option maxRecDepth 100000 in
theorem WX3_turnOfFirstRow_s32_30b {p : Program} {l : Launch} {e : Env} {s : State} {m : MethodId} {args : Array Value} {below : List Frame} {meth : Method} {c : Code} {D : va_G} {ty : Nat → ClassId} {eo : Nat → Nat} {A : Nat → Prop} {ad : Nat → Nat} {o1 : Int32} {o2 : dK} (C : dc_C p s m args meth c cX3_turnOfFirstRow (some .int) 4 RX3 wsX3_turnOfFirstRow D ty eo A) {k30 : dK → Int32 → Int32 → Int32 → Option (Int32 × dK)} (hk30 : ∀ (q : dK) (x1 : Int32) (x2 : Int32) (x3 : Int32) (H : Heap) (locs : List Loc) (ls : Array Slot), k30 q x1 x2 x3 = some (o1, o2) → va_P D vwCl (wF ty ad q) H → va_D A (wF ty ad q) → va_S A s.heap H locs → lv_has ls 4 [(0, .ref (ad 32)), (1, .int x1), (2, .int x2), (3, .int x3)] → W p l e ({ frames := 4, cells := 0, slots := 0, locals := 91 } : Room) s m args below meth c H locs 0 0 (MQ below (va_Qi (fun (r : Int32) (u : va_W) => o1 = r ∧ wF ty ad o2 = u) (kz_B D ty A) A) args s 0 0 A) (F0 m 30 ls [])) (q : dK) (x1 : Int32) (x2 : Int32) (x3 : Int32) (H : Heap) (locs : List Loc) (ls : Array Slot) (h : zX3_turnOfFirstRow_s32_30b k30 q x1 x2 x3 = some (o1, o2)) (hP : va_P D vwCl (wF ty ad q) H) (hD : va_D A (wF ty ad q)) (hS : va_S A s.heap H locs) (hl : lv_has ls 4 [(0, .ref (ad 32)), (1, .int x1), (2, .int x2), (3, .int x3)]) : W p l e ({ frames := 4, cells := 0, slots := 0, locals := 91 } : Room) s m args below meth c H locs 0 0 (MQ below (va_Qi (fun (r : Int32) (u : va_W) => o1 = r ∧ wF ty ad o2 = u) (kz_B D ty A) A) args s 0 0 A) (F0 m 30 ls []) := by
  have C0 := C
  obtain ⟨hx, hb, hr, hts, hown, hlocks, hml, hK, hN, hE, hA⟩ := C
  unfold zX3_turnOfFirstRow_s32_30b at h
  refine lv_iload_n hx hb dX3_turnOfFirstRow_30 rfl (lv_at hl 3 rfl) ?_
  refine lv_iload_n hx hb dX3_turnOfFirstRow_31 rfl (lv_at hl 1 rfl) ?_
  refine lv_icmp_ge (tgt := 52) hx hb dX3_turnOfFirstRow_32 (by decide) (fun c9 => ?_) (fun c9 => ?_)
  · rw [if_pos c9] at h
    refine lv_aload_n hx hb dX3_turnOfFirstRow_52 rfl (lv_at hl 0 rfl) ?_
    refine lv_iload_n hx hb dX3_turnOfFirstRow_53 rfl (lv_at hl 2 rfl) ?_
    obtain ⟨r1, q3, h2, h⟩ := dB_some h
    refine dw_ki (va_runV (As := [.int x2]) (rest := []) ⟨hx, hb, hml, hown, hts⟩ (qX3_firstCloser_s32 l D ty eo _ ad q x2 r1 q3 h2) (cwV 1 hts gX3_turnOfFirstRow_X3_firstCloser rfl rfl rfl hd_X3_firstCloser_v ⟨Nat.le_of_ble_eq_true rfl, Nat.le_of_ble_eq_true rfl⟩) (pvF_3_32 hK hN hE hP hD hS hA) rfl rfl hl.1 rfl (lv_room (Nat.le_of_ble_eq_true rfl)) dX3_turnOfFirstRow_54 ⟨Nat.le_of_ble_eq_true rfl, Nat.le_of_ble_eq_true rfl⟩) hD hS hA (fun r9 u9 H locs hw hp hd hs => ?_)
    clear hP hD hS
    obtain ⟨rfl, rfl⟩ := hw
    have hP := hp; have hD := hd; have hS := hs; clear hp hd hs
    cases h
    exact kz_iret hx hb hr hlocks hP hK hD hS dX3_turnOfFirstRow_57 ⟨rfl, rfl⟩
  · rw [if_neg c9] at h
    refine lv_aload_n hx hb dX3_turnOfFirstRow_35 rfl (lv_at hl 0 rfl) ?_
    refine lv_iload_n hx hb dX3_turnOfFirstRow_36 rfl (lv_at hl 2 rfl) ?_
    refine lv_aload_n hx hb dX3_turnOfFirstRow_37 rfl (lv_at hl 0 rfl) ?_
    refine lv_iload_n hx hb dX3_turnOfFirstRow_38 rfl (lv_at hl 2 rfl) ?_
    obtain ⟨r4, q6, h5, h⟩ := dB_some h
    refine dw_ki (va_runV (As := [.int x2]) (rest := [.int x2, .ref (ad 32)]) ⟨hx, hb, hml, hown, hts⟩ (qX3_firstCloser_s32 l D ty eo _ ad q x2 r4 q6 h5) (cwV 1 hts gX3_turnOfFirstRow_X3_firstCloser rfl rfl rfl hd_X3_firstCloser_v ⟨Nat.le_of_ble_eq_true rfl, Nat.le_of_ble_eq_true rfl⟩) (pvF_3_32 hK hN hE hP hD hS hA) rfl rfl hl.1 rfl (lv_room (Nat.le_of_ble_eq_true rfl)) dX3_turnOfFirstRow_39 ⟨Nat.le_of_ble_eq_true rfl, Nat.le_of_ble_eq_true rfl⟩) hD hS hA (fun r9 u9 H locs hw hp hd hs => ?_)
    clear hP hD hS
    obtain ⟨rfl, rfl⟩ := hw
    have hP := hp; have hD := hd; have hS := hs; clear hp hd hs
    obtain ⟨r7, q9, h8, h⟩ := dB_some h
    refine dw_ki (va_runV (As := [.int x2, .int r4]) (rest := []) ⟨hx, hb, hml, hown, hts⟩ (qX3_turned_s32 l D ty eo _ ad q6 x2 r4 r7 q9 h8) (cwV 2 hts gX3_turnOfFirstRow_X3_turned rfl rfl rfl hd_X3_turned_v ⟨Nat.le_of_ble_eq_true rfl, Nat.le_of_ble_eq_true rfl⟩) (pvF_3_32 hK hN hE hP hD hS hA) rfl rfl hl.1 rfl (lv_room (Nat.le_of_ble_eq_true rfl)) dX3_turnOfFirstRow_42 ⟨Nat.le_of_ble_eq_true rfl, Nat.le_of_ble_eq_true rfl⟩) hD hS hA (fun r9 u9 H locs hw hp hd hs => ?_)
    clear hP hD hS
    obtain ⟨rfl, rfl⟩ := hw
    have hP := hp; have hD := hd; have hS := hs; clear hp hd hs
    refine lv_istore_n (lv' := [(2, .int r7), (0, .ref (ad 32)), (1, .int x1), (3, .int x3)]) hx hb dX3_turnOfFirstRow_45 rfl hl (by decide) rfl (fun ls hl => ?_)
    refine lv_iinc (v := x3 + 1) (lv' := [(3, .int (x3 + 1)), (2, .int r7), (0, .ref (ad 32)), (1, .int x1)]) hx hb dX3_turnOfFirstRow_46 hl (k := 3) rfl rfl (by decide) rfl (fun ls hl => ?_)
    refine lv_goto (tgt := 30) hx hb dX3_turnOfFirstRow_49 (by decide) ?_
    exact hk30 _ _ _ _ _ _ _ h hP hD hS (lv_sub hl [2, 3, 1, 0] rfl)
set_option maxHeartbeats 4000000 in
set_option maxRecDepth 100000 in
theorem WX3_turnOfFirstRow_s32_30 {p : Program} {l : Launch} {e : Env} {s : State} {m : MethodId} {args : Array Value} {below : List Frame} {meth : Method} {c : Code} {D : va_G} {ty : Nat → ClassId} {eo : Nat → Nat} {A : Nat → Prop} {ad : Nat → Nat} {o1 : Int32} {o2 : dK} (C : dc_C p s m args meth c cX3_turnOfFirstRow (some .int) 4 RX3 wsX3_turnOfFirstRow D ty eo A)   (n : Nat) (q : dK) (x1 : Int32) (x2 : Int32) (x3 : Int32) (H : Heap) (locs : List Loc) (ls : Array Slot) (h : zX3_turnOfFirstRow_s32_30  n q x1 x2 x3 = some (o1, o2)) (hP : va_P D vwCl (wF ty ad q) H) (hD : va_D A (wF ty ad q)) (hS : va_S A s.heap H locs) (hl : lv_has ls 4 [(0, .ref (ad 32)), (1, .int x1), (2, .int x2), (3, .int x3)]) : W p l e ({ frames := 4, cells := 0, slots := 0, locals := 91 } : Room) s m args below meth c H locs 0 0 (MQ below (va_Qi (fun (r : Int32) (u : va_W) => o1 = r ∧ wF ty ad o2 = u) (kz_B D ty A) A) args s 0 0 A) (F0 m 30 ls []) := by
  exact dFix_W (F := fun k (a : dK × Int32 × Int32 × Int32) => zX3_turnOfFirstRow_s32_30b  (fun q x1 x2 x3 => k (q, x1, x2, x3)) a.1 a.2.1 a.2.2.1 a.2.2.2) (o := (o1, o2)) (P := fun (a : dK × Int32 × Int32 × Int32) H locs ls => va_P D vwCl (wF ty ad a.1) H ∧ va_D A (wF ty ad a.1) ∧ va_S A s.heap H locs ∧ lv_has ls 4 [(0, .ref (ad 32)), (1, .int a.2.1), (2, .int a.2.2.1), (3, .int a.2.2.2)]) (G := fun H locs ls => W p l e ({ frames := 4, cells := 0, slots := 0, locals := 91 } : Room) s m args below meth c H locs 0 0 (MQ below (va_Qi (fun (r : Int32) (u : va_W) => o1 = r ∧ wF ty ad o2 = u) (kz_B D ty A) A) args s 0 0 A) (F0 m 30 ls []))
    (fun k hk a H locs ls h hp => WX3_turnOfFirstRow_s32_30b C  (fun q x1 x2 x3 H locs ls h h1 h2 h3 h4 => hk (q, x1, x2, x3) H locs ls h ⟨h1, h2, h3, h4⟩) a.1 a.2.1 a.2.2.1 a.2.2.2 H locs ls h hp.1 hp.2.1 hp.2.2.1 hp.2.2.2) n (q, x1, x2, x3) H locs ls h ⟨hP, hD, hS, hl⟩
set_option maxHeartbeats 4000000 in
set_option maxRecDepth 100000 in
theorem WX3_turnOfFirstRow_s32_21 {p : Program} {l : Launch} {e : Env} {s : State} {m : MethodId} {args : Array Value} {below : List Frame} {meth : Method} {c : Code} {D : va_G} {ty : Nat → ClassId} {eo : Nat → Nat} {A : Nat → Prop} {ad : Nat → Nat} {o1 : Int32} {o2 : dK} (C : dc_C p s m args meth c cX3_turnOfFirstRow (some .int) 4 RX3 wsX3_turnOfFirstRow D ty eo A)   (q : dK)  (H : Heap) (locs : List Loc) (ls : Array Slot) (h : zX3_turnOfFirstRow_s32_21  q = some (o1, o2)) (hP : va_P D vwCl (wF ty ad q) H) (hD : va_D A (wF ty ad q)) (hS : va_S A s.heap H locs) (hl : lv_has ls 4 []) : W p l e ({ frames := 4, cells := 0, slots := 0, locals := 91 } : Room) s m args below meth c H locs 0 0 (MQ below (va_Qi (fun (r : Int32) (u : va_W) => o1 = r ∧ wF ty ad o2 = u) (kz_B D ty A) A) args s 0 0 A) (F0 m 21 ls []) := by
  have C0 := C
  obtain ⟨hx, hb, hr, hts, hown, hlocks, hml, hK, hN, hE, hA⟩ := C
  unfold zX3_turnOfFirstRow_s32_21 at h
  refine lv_iconst (v := (-1)) hx hb dX3_turnOfFirstRow_21 (by decide) ?_
  cases h
  exact kz_iret hx hb hr hlocks hP hK hD hS dX3_turnOfFirstRow_22 ⟨rfl, rfl⟩
set_option maxHeartbeats 4000000 in
set_option maxRecDepth 100000 in
theorem qX3_turnOfFirstRow_s32 (l : Launch) (D : va_G) (ty : Nat → ClassId) (eo : Nat → Nat) (sz : Nat) (ad : Nat → Nat) (q : dK) (p1 : Int32) (o1 : Int32) (o2 : dK) (h : zX3_turnOfFirstRow_s32 q p1 = some (o1, o2)) : Met l yX3_turnOfFirstRow wsX3_turnOfFirstRow ({ frames := 4, cells := 0, slots := 0, locals := 91 } : Room) (va_Pc [.ref (ad 32), .int p1] (kz_pre D ty eo (wF ty ad q) sz)) (va_Qi (fun (r : Int32) (u : va_W) => o1 = r ∧ wF ty ad o2 = u) (kz_B D ty (va_A (wF ty ad q) sz)) (va_A (wF ty ad q) sz)) 0 0 (va_A (wF ty ad q) sz) := by
  refine Met.ofW (cc := cX3_turnOfFirstRow) (maxL := 4) (ret := (some .int)) (by decide) rfl ?_
  intro p e s m args below meth c s₁ B hml hv
  obtain ⟨rfl, hsz, hP, hK, hD0, hN, hE⟩ := hv
  have hx := B.exec
  have hb := B.bytes
  have hr := B.returns
  have hts := atoms_spec (ws := wsX3_turnOfFirstRow) B.pre
  have hown : s.vm.findClass RX3 = some m.cls := findClass_of_methodNamed B.named
  have hlocks := B.notSynchronized
  subst hsz
  have hD := hD0.self (sz := s.heap.size)
  generalize hAe : va_A (wF ty ad q) s.heap.size = A at hD hE ⊢
  have hA : ∀ q : Nat, s.heap.size ≤ q → A q := fun q h => by rw [← hAe]; exact Or.inr h
  clear hAe
  have hS : va_S A s.heap s.heap [] := va_S.rf
  have hl := lv_entry ([.ref (ad 32), .int p1]) (n := 4) (Nat.le_of_ble_eq_true rfl)
  rw [lg_entry_eq]
  generalize (lg_sl ([.ref (ad 32), .int p1]) ++ List.replicate (4 - (lg_sl ([.ref (ad 32), .int p1])).length) Slot.unset).toArray = ls at hl ⊢
  have hl : lv_has ls 4 [(0, .ref (ad 32)), (1, .int p1)] := hl
  have C : dc_C p s m _ meth c cX3_turnOfFirstRow (some .int) 4 RX3 wsX3_turnOfFirstRow D ty eo A := ⟨hx, hb, hr, hts, hown, hlocks, hml, hK, hN, hE, hA⟩
  unfold zX3_turnOfFirstRow_s32 at h
  refine lv_aload_n hx hb dX3_turnOfFirstRow_0 rfl (lv_at hl 0 rfl) ?_
  obtain ⟨q3, h2, h⟩ := dV_some h
  refine dw_kv (va_runV (As := []) (rest := []) ⟨hx, hb, hml, hown, hts⟩ (qX3_measure_s32 l D ty eo _ ad q  q3 h2) (cwV 0 hts gX3_turnOfFirstRow_X3_measure rfl rfl rfl hd_X3_measure_v ⟨Nat.le_of_ble_eq_true rfl, Nat.le_of_ble_eq_true rfl⟩) (pvF_3_32 hK hN hE hP hD hS hA) rfl rfl hl.1 rfl (lv_room (Nat.le_of_ble_eq_true rfl)) dX3_turnOfFirstRow_1 ⟨Nat.le_of_ble_eq_true rfl, Nat.le_of_ble_eq_true rfl⟩) hD hS hA (fun u9 H locs hw hp hd hs => ?_)
  clear hP hD hS
  obtain rfl := hw
  have hP := hp; have hD := hd; have hS := hs; clear hp hd hs
  refine lv_iload_n hx hb dX3_turnOfFirstRow_4 rfl (lv_at hl 1 rfl) ?_
  refine lv_if_lt (tgt := 21) hx hb dX3_turnOfFirstRow_5 (by decide) (fun c9 => ?_) (fun c9 => ?_)
  · rw [if_pos c9] at h
    exact WX3_turnOfFirstRow_s32_21 C  _ _ _ _ h hP hD hS (lv_sub hl [] rfl)
  · rw [if_neg c9] at h
    refine lv_iload_n hx hb dX3_turnOfFirstRow_8 rfl (lv_at hl 1 rfl) ?_
    refine lv_aload_n hx hb dX3_turnOfFirstRow_9 rfl (lv_at hl 0 rfl) ?_
    refine va_get (D := D) (ci := 3) (v := .ref (ad 42)) (C := RX3) (T := TX3) (N := 20) hx hb hts u9_wsX3_turnOfFirstRow_X3 hown hK hP 32 rfl rfl 9 (by decide) (hts (.fieldLink RX3 39 "TurnedFloors$Paper" "toOrder" "[I") f9_wsX3_turnOfFirstRow_800) (fun _ h9 => h9) rfl dX3_turnOfFirstRow_10 ?_
    refine lv_aload_n hx hb dX3_turnOfFirstRow_13 rfl (lv_at hl 0 rfl) ?_
    refine va_get (D := D) (ci := 3) (v := .int (q3.1 32 15)) (C := RX3) (T := TX3) (N := 20) hx hb hts u9_wsX3_turnOfFirstRow_X3 hown hK hP 32 rfl rfl 15 (by decide) (hts (.fieldLink RX3 58 "TurnedFloors$Paper" "start" "I") f9_wsX3_turnOfFirstRow_801) (fun _ h9 => h9) rfl dX3_turnOfFirstRow_14 ?_
    obtain ⟨g4, h⟩ := dG_some h
    refine va_iald hx hb hK hP 42 0 rfl rfl (dg_in g4) dX3_turnOfFirstRow_17 ?_
    obtain ⟨v5, ev5, h⟩ := dL_some h
    refine kz_topi v5 ev5 ?_
    refine lv_icmp_lt (tgt := 23) hx hb dX3_turnOfFirstRow_18 (by decide) (fun c9 => ?_) (fun c9 => ?_)
    · rw [if_pos c9] at h
      refine lv_aload_n hx hb dX3_turnOfFirstRow_23 rfl (lv_at hl 0 rfl) ?_
      refine va_get (D := D) (ci := 3) (v := .int (q3.1 32 15)) (C := RX3) (T := TX3) (N := 20) hx hb hts u9_wsX3_turnOfFirstRow_X3 hown hK hP 32 rfl rfl 15 (by decide) (hts (.fieldLink RX3 58 "TurnedFloors$Paper" "start" "I") f9_wsX3_turnOfFirstRow_801) (fun _ h9 => h9) rfl dX3_turnOfFirstRow_24 ?_
      refine lv_istore_n (lv' := [(2, .int (q3.1 32 15)), (0, .ref (ad 32)), (1, .int p1)]) hx hb dX3_turnOfFirstRow_27 rfl hl (by decide) rfl (fun ls hl => ?_)
      refine lv_iconst (v := 0) hx hb dX3_turnOfFirstRow_28 (by decide) ?_
      refine lv_istore_n (lv' := [(3, .int 0), (2, .int (q3.1 32 15)), (0, .ref (ad 32)), (1, .int p1)]) hx hb dX3_turnOfFirstRow_29 rfl hl (by decide) rfl (fun ls hl => ?_)
      exact WX3_turnOfFirstRow_s32_30 C  _ _ _ _ _ _ _ _ h hP hD hS (lv_sub hl [2, 3, 1, 0] rfl)
    · rw [if_neg c9] at h
      exact WX3_turnOfFirstRow_s32_21 C  _ _ _ _ h hP hD hS (lv_sub hl [] rfl)

set_option maxHeartbeats 4000000 in
set_option maxRecDepth 100000 in
theorem qX3_turnsToOrder_s32 (l : Launch) (D : va_G) (ty : Nat → ClassId) (eo : Nat → Nat) (sz : Nat) (ad : Nat → Nat) (q : dK)  (o1 : Int32) (o2 : dK) (h : zX3_turnsToOrder_s32 q = some (o1, o2)) : Met l yX3_turnsToOrder wsX3_turnsToOrder ({ frames := 3, cells := 0, slots := 0, locals := 72 } : Room) (va_Pc [.ref (ad 32)] (kz_pre D ty eo (wF ty ad q) sz)) (va_Qi (fun (r : Int32) (u : va_W) => o1 = r ∧ wF ty ad o2 = u) (kz_B D ty (va_A (wF ty ad q) sz)) (va_A (wF ty ad q) sz)) 0 0 (va_A (wF ty ad q) sz) := by
  refine Met.ofW (cc := cX3_turnsToOrder) (maxL := 1) (ret := (some .int)) (by decide) rfl ?_
  intro p e s m args below meth c s₁ B hml hv
  obtain ⟨rfl, hsz, hP, hK, hD0, hN, hE⟩ := hv
  have hx := B.exec
  have hb := B.bytes
  have hr := B.returns
  have hts := atoms_spec (ws := wsX3_turnsToOrder) B.pre
  have hown : s.vm.findClass RX3 = some m.cls := findClass_of_methodNamed B.named
  have hlocks := B.notSynchronized
  subst hsz
  have hD := hD0.self (sz := s.heap.size)
  generalize hAe : va_A (wF ty ad q) s.heap.size = A at hD hE ⊢
  have hA : ∀ q : Nat, s.heap.size ≤ q → A q := fun q h => by rw [← hAe]; exact Or.inr h
  clear hAe
  have hS : va_S A s.heap s.heap [] := va_S.rf
  have hl := lv_entry ([.ref (ad 32)]) (n := 1) (Nat.le_of_ble_eq_true rfl)
  rw [lg_entry_eq]
  generalize (lg_sl ([.ref (ad 32)]) ++ List.replicate (1 - (lg_sl ([.ref (ad 32)])).length) Slot.unset).toArray = ls at hl ⊢
  have hl : lv_has ls 1 [(0, .ref (ad 32))] := hl
  have C : dc_C p s m _ meth c cX3_turnsToOrder (some .int) 1 RX3 wsX3_turnsToOrder D ty eo A := ⟨hx, hb, hr, hts, hown, hlocks, hml, hK, hN, hE, hA⟩
  unfold zX3_turnsToOrder_s32 at h
  refine lv_aload_n hx hb dX3_turnsToOrder_0 rfl (lv_at hl 0 rfl) ?_
  obtain ⟨q3, h2, h⟩ := dV_some h
  refine dw_kv (va_runV (As := []) (rest := []) ⟨hx, hb, hml, hown, hts⟩ (qX3_measure_s32 l D ty eo _ ad q  q3 h2) (cwV 0 hts gX3_turnsToOrder_X3_measure rfl rfl rfl hd_X3_measure_v ⟨Nat.le_of_ble_eq_true rfl, Nat.le_of_ble_eq_true rfl⟩) (pvF_3_32 hK hN hE hP hD hS hA) rfl rfl hl.1 rfl (lv_room (Nat.le_of_ble_eq_true rfl)) dX3_turnsToOrder_1 ⟨Nat.le_of_ble_eq_true rfl, Nat.le_of_ble_eq_true rfl⟩) hD hS hA (fun u9 H locs hw hp hd hs => ?_)
  clear hP hD hS
  obtain rfl := hw
  have hP := hp; have hD := hd; have hS := hs; clear hp hd hs
  refine lv_aload_n hx hb dX3_turnsToOrder_4 rfl (lv_at hl 0 rfl) ?_
  refine va_get (D := D) (ci := 3) (v := .ref (ad 42)) (C := RX3) (T := TX3) (N := 20) hx hb hts u9_wsX3_turnsToOrder_X3 hown hK hP 32 rfl rfl 9 (by decide) (hts (.fieldLink RX3 39 "TurnedFloors$Paper" "toOrder" "[I") f9_wsX3_turnsToOrder_803) (fun _ h9 => h9) rfl dX3_turnsToOrder_5 ?_
  refine lv_aload_n hx hb dX3_turnsToOrder_8 rfl (lv_at hl 0 rfl) ?_
  refine va_get (D := D) (ci := 3) (v := .int (q3.1 32 15)) (C := RX3) (T := TX3) (N := 20) hx hb hts u9_wsX3_turnsToOrder_X3 hown hK hP 32 rfl rfl 15 (by decide) (hts (.fieldLink RX3 58 "TurnedFloors$Paper" "start" "I") f9_wsX3_turnsToOrder_804) (fun _ h9 => h9) rfl dX3_turnsToOrder_9 ?_
  obtain ⟨g4, h⟩ := dG_some h
  refine va_iald hx hb hK hP 42 0 rfl rfl (dg_in g4) dX3_turnsToOrder_12 ?_
  obtain ⟨v5, ev5, h⟩ := dL_some h
  refine kz_topi v5 ev5 ?_
  cases h
  exact kz_iret hx hb hr hlocks hP hK hD hS dX3_turnsToOrder_13 ⟨rfl, rfl⟩

set_option maxHeartbeats 4000000 in
set_option maxRecDepth 100000 in
theorem qX9_fewest_s0 (l : Launch) (D : va_G) (ty : Nat → ClassId) (eo : Nat → Nat) (sz : Nat) (ad : Nat → Nat) (nc ns : Nat) (q : dK) (p1 : Int32) (o1 : Int32) (o2 : dK) (h : zX9_fewest_s0 nc ns q p1 = some (o1, o2)) : Met l yX9_fewest wsX9_fewest ({ frames := 6, cells := nc, slots := ns, locals := 160 } : Room) (va_Pc [.ref (ad 0), .int p1] (kz_pre D ty eo (wF ty ad q) sz)) (va_Qi (fun (r : Int32) (u : va_W) => o1 = r ∧ ∃ ad9 : Nat → Nat, dAg ad ad9 ∧ wF ty ad9 o2 = u) (kz_B D ty (va_A (wF ty ad q) sz)) (va_A (wF ty ad q) sz)) nc ns (va_A (wF ty ad q) sz) := by
  have hag : dAg ad ad := fun _ _ => rfl
  refine Met.ofW (cc := cX9_fewest) (maxL := 2) (ret := (some .int)) (by decide) rfl ?_
  intro p e s m args below meth c s₁ B hml hv
  obtain ⟨rfl, hsz, hP, hK, hD0, hN, hE⟩ := hv
  have hx := B.exec
  have hb := B.bytes
  have hr := B.returns
  have hts := atoms_spec (ws := wsX9_fewest) B.pre
  have hown : s.vm.findClass RX9 = some m.cls := findClass_of_methodNamed B.named
  have hlocks := B.notSynchronized
  subst hsz
  have hD := hD0.self (sz := s.heap.size)
  generalize hAe : va_A (wF ty ad q) s.heap.size = A at hD hE ⊢
  have hA : ∀ q : Nat, s.heap.size ≤ q → A q := fun q h => by rw [← hAe]; exact Or.inr h
  clear hAe
  have hS : va_S A s.heap s.heap [] := va_S.rf
  have hl := lv_entry ([.ref (ad 0), .int p1]) (n := 2) (Nat.le_of_ble_eq_true rfl)
  rw [lg_entry_eq]
  generalize (lg_sl ([.ref (ad 0), .int p1]) ++ List.replicate (2 - (lg_sl ([.ref (ad 0), .int p1])).length) Slot.unset).toArray = ls at hl ⊢
  have hl : lv_has ls 2 [(0, .ref (ad 0)), (1, .int p1)] := hl
  have C : dc_C p s m _ meth c cX9_fewest (some .int) 2 RX9 wsX9_fewest D ty eo A := ⟨hx, hb, hr, hts, hown, hlocks, hml, hK, hN, hE, hA⟩
  unfold zX9_fewest_s0 at h
  refine lv_aload_n hx hb dX9_fewest_0 rfl (lv_at hl 0 rfl) ?_
  refine lv_aload_n hx hb dX9_fewest_1 rfl (lv_at hl 0 rfl) ?_
  obtain ⟨q3, h2, h⟩ := dV_some h
  refine dw_kq (va_runV (As := []) (rest := [.ref (ad 0)]) ⟨hx, hb, hml, hown, hts⟩ (qX9_seated_s0 l D ty eo _ ad q  q3 h2) (cwV 0 hts gX9_fewest_X9_seated rfl rfl rfl hd_X9_seated_v ⟨Nat.le_of_ble_eq_true rfl, Nat.le_of_ble_eq_true rfl⟩) (pvF_9_0 hK hN hE hP hD hS hA) rfl rfl hl.1 rfl (lv_room (Nat.le_of_ble_eq_true rfl)) dX9_fewest_2 ⟨Nat.zero_le _, Nat.zero_le _⟩) hP hD hS hA (fun r9 u9 H locs hw hp hd hs => ?_)
  clear hP hD hS
  obtain ⟨rfl, rfl⟩ := hw
  have hP := hp; have hD := hd; have hS := hs; clear hp hd hs
  obtain ⟨q6, h5, h⟩ := dV_some h
  refine dw_kv (va_runV (As := [.ref (ad 20)]) (rest := []) ⟨hx, hb, hml, hown, hts⟩ (qX9_spread_s0_s20 l D ty eo _ ad nc ns q3  q6 h5) (cwV 1 hts gX9_fewest_X9_spread rfl rfl rfl hd_X9_spread_v ⟨Nat.le_of_ble_eq_true rfl, Nat.le_of_ble_eq_true rfl⟩) (pvF_9_0 hK hN hE hP hD hS hA) rfl rfl hl.1 rfl (lv_room (Nat.le_of_ble_eq_true rfl)) dX9_fewest_5 ⟨by show 0 + nc ≤ nc; omega, by show 0 + ns ≤ ns; omega⟩) hD hS hA (fun u9 H locs hw hp hd hs => ?_)
  clear hP hD hS
  obtain ⟨ad, hag1, rfl⟩ := hw
  replace hag := dAg_t hag hag1
  rw [dAg_s hag1 0 (by decide)] at hl
  clear hag1
  refine dw_up (c2 := nc) (s2 := ns) (by omega) (by omega) ?_
  have hP := hp; have hD := hd; have hS := hs; clear hp hd hs
  refine lv_iload_n hx hb dX9_fewest_8 rfl (lv_at hl 1 rfl) ?_
  refine lv_iconst (v := (-1)) hx hb dX9_fewest_9 (by decide) ?_
  refine lv_icmp_ne (tgt := 21) hx hb dX9_fewest_10 (by decide) (fun c9 => ?_) (fun c9 => ?_)
  · rw [if_neg c9] at h
    refine lv_aload_n hx hb dX9_fewest_21 rfl (lv_at hl 0 rfl) ?_
    refine va_get (D := D) (ci := 9) (v := .ref (ad 32)) (C := RX9) (T := TX9) (N := 19) hx hb hts u9_wsX9_fewest_X9 hown hK hP 0 rfl rfl 10 (by decide) (hts (.fieldLink RX9 80 "TurnedFloors" "paper" "LTurnedFloors$Paper;") f9_wsX9_fewest_806) (fun _ h9 => h9) rfl dX9_fewest_22 ?_
    refine lv_iload_n hx hb dX9_fewest_25 rfl (lv_at hl 1 rfl) ?_
    obtain ⟨r7, q9, h8, h⟩ := dB_some h
    refine dw_ki (va_runV (As := [.int p1]) (rest := []) ⟨hx, hb, hml, hown, hts⟩ (qX3_turnOfFirstRow_s32 l D ty eo _ ad q6 p1 r7 q9 h8) (cwV 1 hts gX9_fewest_X3_turnOfFirstRow rfl rfl rfl hd_X3_turnOfFirstRow_v ⟨Nat.le_of_ble_eq_true rfl, Nat.le_of_ble_eq_true rfl⟩) (pvF_3_32 hK hN hE hP hD hS hA) rfl rfl hl.1 rfl (lv_room (Nat.le_of_ble_eq_true rfl)) dX9_fewest_26 ⟨Nat.le_refl _, Nat.le_refl _⟩) hD hS hA (fun r9 u9 H locs hw hp hd hs => ?_)
    clear hP hD hS
    obtain ⟨rfl, rfl⟩ := hw
    have hP := hp; have hD := hd; have hS := hs; clear hp hd hs
    cases h
    exact kz_iret hx hb hr hlocks hP hK hD hS dX9_fewest_29 ⟨rfl, ad, hag, rfl⟩
  · rw [if_pos c9] at h
    refine lv_aload_n hx hb dX9_fewest_13 rfl (lv_at hl 0 rfl) ?_
    refine va_get (D := D) (ci := 9) (v := .ref (ad 32)) (C := RX9) (T := TX9) (N := 19) hx hb hts u9_wsX9_fewest_X9 hown hK hP 0 rfl rfl 10 (by decide) (hts (.fieldLink RX9 80 "TurnedFloors" "paper" "LTurnedFloors$Paper;") f9_wsX9_fewest_806) (fun _ h9 => h9) rfl dX9_fewest_14 ?_
    obtain ⟨r10, q12, h11, h⟩ := dB_some h
    refine dw_ki (va_runV (As := []) (rest := []) ⟨hx, hb, hml, hown, hts⟩ (qX3_turnsToOrder_s32 l D ty eo _ ad q6  r10 q12 h11) (cwV 0 hts gX9_fewest_X3_turnsToOrder rfl rfl rfl hd_X3_turnsToOrder_v ⟨Nat.le_of_ble_eq_true rfl, Nat.le_of_ble_eq_true rfl⟩) (pvF_3_32 hK hN hE hP hD hS hA) rfl rfl hl.1 rfl (lv_room (Nat.le_of_ble_eq_true rfl)) dX9_fewest_17 ⟨Nat.le_refl _, Nat.le_refl _⟩) hD hS hA (fun r9 u9 H locs hw hp hd hs => ?_)
    clear hP hD hS
    obtain ⟨rfl, rfl⟩ := hw
    have hP := hp; have hD := hd; have hS := hs; clear hp hd hs
    cases h
    exact kz_iret hx hb hr hlocks hP hK hD hS dX9_fewest_20 ⟨rfl, ad, hag, rfl⟩
end
section
set_option maxRecDepth 20000 in
theorem ggX3_rowsToOrder_X3_measure : GoodIn wsX3_rowsToOrder wsX3_measure := wd_c vW9_ok mvW9_527
set_option maxRecDepth 20000 in
theorem gX3_rowsToOrder_X3_measure : GoodIn wsX3_rowsToOrder (wsV RX3 113 RX3 yX3_measure wsX3_measure) := goodIn_app (wd_l vW9_ok _ pvW9_14) ggX3_rowsToOrder_X3_measure
set_option maxRecDepth 20000 in
theorem ggX3_rowsToOrder_J7_fill_53178 : GoodIn wsX3_rowsToOrder wsJ7_fill_53178 := wd_l vW9_ok _ (List.forall_mem_cons.mpr ⟨mvW9_512, (fun _ h => absurd h List.not_mem_nil)⟩)
set_option maxRecDepth 20000 in
theorem gX3_rowsToOrder_J7_fill_53178 : GoodIn wsX3_rowsToOrder (va_wsS RX3 122 yJ7_fill_53178 wsJ7_fill_53178) := goodIn_app (wd_l vW9_ok _ pvW9_17) ggX3_rowsToOrder_J7_fill_53178
set_option maxRecDepth 20000 in
theorem ggX3_rowsToOrder_X3_isCloser : GoodIn wsX3_rowsToOrder wsX3_isCloser := wd_c vW9_ok mvW9_558
set_option maxRecDepth 20000 in
theorem gX3_rowsToOrder_X3_isCloser : GoodIn wsX3_rowsToOrder (wsV RX3 129 RX3 yX3_isCloser wsX3_isCloser) := goodIn_app (wd_l vW9_ok _ pvW9_18) ggX3_rowsToOrder_X3_isCloser
set_option maxRecDepth 20000 in
theorem ggX3_rowsToOrder_X3_turned : GoodIn wsX3_rowsToOrder wsX3_turned := wd_c vW9_ok mvW9_542
set_option maxRecDepth 20000 in
theorem gX3_rowsToOrder_X3_turned : GoodIn wsX3_rowsToOrder (wsV RX3 119 RX3 yX3_turned wsX3_turned) := goodIn_app (wd_l vW9_ok _ pvW9_16) ggX3_rowsToOrder_X3_turned
theorem da9_dX3_rowsToOrder_0 : (decode cX3_rowsToOrder 0 = .ok (.aload_n 0, 1)) ∧ (decode cX3_rowsToOrder 1 = .ok (.invokevirtual 113, 3)) ∧ (decode cX3_rowsToOrder 4 = .ok (.aload_n 0, 1)) ∧ (decode cX3_rowsToOrder 5 = .ok (.getfield 39, 3)) ∧ (decode cX3_rowsToOrder 8 = .ok (.aload_n 0, 1)) ∧ (decode cX3_rowsToOrder 9 = .ok (.getfield 58, 3)) ∧ (decode cX3_rowsToOrder 12 = .ok (.iaload, 1)) ∧ (decode cX3_rowsToOrder 13 = .ok (.iconst (-1), 1)) ∧ (decode cX3_rowsToOrder 14 = .ok (.if_icmp .ne 5, 3)) ∧ (decode cX3_rowsToOrder 17 = .ok (.iconst 0, 1)) ∧ (decode cX3_rowsToOrder 18 = .ok (.ireturn, 1)) ∧ (decode cX3_rowsToOrder 19 = .ok (.aload_n 0, 1)) ∧ (decode cX3_rowsToOrder 20 = .ok (.getfield 42, 3)) ∧ (decode cX3_rowsToOrder 23 = .ok (.iconst 0, 1)) ∧ (decode cX3_rowsToOrder 24 = .ok (.invokestatic 122, 3)) ∧ (decode cX3_rowsToOrder 27 = .ok (.aload_n 0, 1)) := by decide +kernel
theorem dX3_rowsToOrder_0 : decode cX3_rowsToOrder 0 = .ok (.aload_n 0, 1) := da9_dX3_rowsToOrder_0.1
theorem dX3_rowsToOrder_1 : decode cX3_rowsToOrder 1 = .ok (.invokevirtual 113, 3) := da9_dX3_rowsToOrder_0.2.1
theorem dX3_rowsToOrder_4 : decode cX3_rowsToOrder 4 = .ok (.aload_n 0, 1) := da9_dX3_rowsToOrder_0.2.2.1
theorem dX3_rowsToOrder_5 : decode cX3_rowsToOrder 5 = .ok (.getfield 39, 3) := da9_dX3_rowsToOrder_0.2.2.2.1
theorem dX3_rowsToOrder_8 : decode cX3_rowsToOrder 8 = .ok (.aload_n 0, 1) := da9_dX3_rowsToOrder_0.2.2.2.2.1
theorem dX3_rowsToOrder_9 : decode cX3_rowsToOrder 9 = .ok (.getfield 58, 3) := da9_dX3_rowsToOrder_0.2.2.2.2.2.1
theorem dX3_rowsToOrder_12 : decode cX3_rowsToOrder 12 = .ok (.iaload, 1) := da9_dX3_rowsToOrder_0.2.2.2.2.2.2.1
theorem dX3_rowsToOrder_13 : decode cX3_rowsToOrder 13 = .ok (.iconst (-1), 1) := da9_dX3_rowsToOrder_0.2.2.2.2.2.2.2.1
theorem dX3_rowsToOrder_14 : decode cX3_rowsToOrder 14 = .ok (.if_icmp .ne 5, 3) := da9_dX3_rowsToOrder_0.2.2.2.2.2.2.2.2.1
theorem dX3_rowsToOrder_17 : decode cX3_rowsToOrder 17 = .ok (.iconst 0, 1) := da9_dX3_rowsToOrder_0.2.2.2.2.2.2.2.2.2.1
theorem dX3_rowsToOrder_18 : decode cX3_rowsToOrder 18 = .ok (.ireturn, 1) := da9_dX3_rowsToOrder_0.2.2.2.2.2.2.2.2.2.2.1
theorem dX3_rowsToOrder_19 : decode cX3_rowsToOrder 19 = .ok (.aload_n 0, 1) := da9_dX3_rowsToOrder_0.2.2.2.2.2.2.2.2.2.2.2.1
theorem dX3_rowsToOrder_20 : decode cX3_rowsToOrder 20 = .ok (.getfield 42, 3) := da9_dX3_rowsToOrder_0.2.2.2.2.2.2.2.2.2.2.2.2.1
theorem dX3_rowsToOrder_23 : decode cX3_rowsToOrder 23 = .ok (.iconst 0, 1) := da9_dX3_rowsToOrder_0.2.2.2.2.2.2.2.2.2.2.2.2.2.1
theorem dX3_rowsToOrder_24 : decode cX3_rowsToOrder 24 = .ok (.invokestatic 122, 3) := da9_dX3_rowsToOrder_0.2.2.2.2.2.2.2.2.2.2.2.2.2.2.1
theorem dX3_rowsToOrder_27 : decode cX3_rowsToOrder 27 = .ok (.aload_n 0, 1) := da9_dX3_rowsToOrder_0.2.2.2.2.2.2.2.2.2.2.2.2.2.2.2
theorem da9_dX3_rowsToOrder_28 : (decode cX3_rowsToOrder 28 = .ok (.getfield 42, 3)) ∧ (decode cX3_rowsToOrder 31 = .ok (.aload_n 0, 1)) ∧ (decode cX3_rowsToOrder 32 = .ok (.getfield 58, 3)) ∧ (decode cX3_rowsToOrder 35 = .ok (.iconst 1, 1)) ∧ (decode cX3_rowsToOrder 36 = .ok (.iastore, 1)) ∧ (decode cX3_rowsToOrder 37 = .ok (.aload_n 0, 1)) ∧ (decode cX3_rowsToOrder 38 = .ok (.getfield 45, 3)) ∧ (decode cX3_rowsToOrder 41 = .ok (.iconst 0, 1)) ∧ (decode cX3_rowsToOrder 42 = .ok (.aload_n 0, 1)) ∧ (decode cX3_rowsToOrder 43 = .ok (.getfield 58, 3)) ∧ (decode cX3_rowsToOrder 46 = .ok (.iastore, 1)) ∧ (decode cX3_rowsToOrder 47 = .ok (.iconst 1, 1)) ∧ (decode cX3_rowsToOrder 48 = .ok (.istore_n 1, 1)) ∧ (decode cX3_rowsToOrder 49 = .ok (.iconst 0, 1)) ∧ (decode cX3_rowsToOrder 50 = .ok (.istore_n 2, 1)) ∧ (decode cX3_rowsToOrder 51 = .ok (.iconst 0, 1)) := by decide +kernel
theorem dX3_rowsToOrder_28 : decode cX3_rowsToOrder 28 = .ok (.getfield 42, 3) := da9_dX3_rowsToOrder_28.1
theorem dX3_rowsToOrder_31 : decode cX3_rowsToOrder 31 = .ok (.aload_n 0, 1) := da9_dX3_rowsToOrder_28.2.1
theorem dX3_rowsToOrder_32 : decode cX3_rowsToOrder 32 = .ok (.getfield 58, 3) := da9_dX3_rowsToOrder_28.2.2.1
theorem dX3_rowsToOrder_35 : decode cX3_rowsToOrder 35 = .ok (.iconst 1, 1) := da9_dX3_rowsToOrder_28.2.2.2.1
theorem dX3_rowsToOrder_36 : decode cX3_rowsToOrder 36 = .ok (.iastore, 1) := da9_dX3_rowsToOrder_28.2.2.2.2.1
theorem dX3_rowsToOrder_37 : decode cX3_rowsToOrder 37 = .ok (.aload_n 0, 1) := da9_dX3_rowsToOrder_28.2.2.2.2.2.1
theorem dX3_rowsToOrder_38 : decode cX3_rowsToOrder 38 = .ok (.getfield 45, 3) := da9_dX3_rowsToOrder_28.2.2.2.2.2.2.1
theorem dX3_rowsToOrder_41 : decode cX3_rowsToOrder 41 = .ok (.iconst 0, 1) := da9_dX3_rowsToOrder_28.2.2.2.2.2.2.2.1
theorem dX3_rowsToOrder_42 : decode cX3_rowsToOrder 42 = .ok (.aload_n 0, 1) := da9_dX3_rowsToOrder_28.2.2.2.2.2.2.2.2.1
theorem dX3_rowsToOrder_43 : decode cX3_rowsToOrder 43 = .ok (.getfield 58, 3) := da9_dX3_rowsToOrder_28.2.2.2.2.2.2.2.2.2.1
theorem dX3_rowsToOrder_46 : decode cX3_rowsToOrder 46 = .ok (.iastore, 1) := da9_dX3_rowsToOrder_28.2.2.2.2.2.2.2.2.2.2.1
theorem dX3_rowsToOrder_47 : decode cX3_rowsToOrder 47 = .ok (.iconst 1, 1) := da9_dX3_rowsToOrder_28.2.2.2.2.2.2.2.2.2.2.2.1
theorem dX3_rowsToOrder_48 : decode cX3_rowsToOrder 48 = .ok (.istore_n 1, 1) := da9_dX3_rowsToOrder_28.2.2.2.2.2.2.2.2.2.2.2.2.1
theorem dX3_rowsToOrder_49 : decode cX3_rowsToOrder 49 = .ok (.iconst 0, 1) := da9_dX3_rowsToOrder_28.2.2.2.2.2.2.2.2.2.2.2.2.2.1
theorem dX3_rowsToOrder_50 : decode cX3_rowsToOrder 50 = .ok (.istore_n 2, 1) := da9_dX3_rowsToOrder_28.2.2.2.2.2.2.2.2.2.2.2.2.2.2.1
theorem dX3_rowsToOrder_51 : decode cX3_rowsToOrder 51 = .ok (.iconst 0, 1) := da9_dX3_rowsToOrder_28.2.2.2.2.2.2.2.2.2.2.2.2.2.2.2
theorem da9_dX3_rowsToOrder_52 : (decode cX3_rowsToOrder 52 = .ok (.istore_n 3, 1)) ∧ (decode cX3_rowsToOrder 53 = .ok (.iload_n 3, 1)) ∧ (decode cX3_rowsToOrder 54 = .ok (.aload_n 0, 1)) ∧ (decode cX3_rowsToOrder 55 = .ok (.getfield 55, 3)) ∧ (decode cX3_rowsToOrder 58 = .ok (.if_icmp .ge 142, 3)) ∧ (decode cX3_rowsToOrder 61 = .ok (.iload_n 3, 1)) ∧ (decode cX3_rowsToOrder 62 = .ok (.iload_n 1, 1)) ∧ (decode cX3_rowsToOrder 63 = .ok (.if_icmp .ge 137, 3)) ∧ (decode cX3_rowsToOrder 66 = .ok (.aload_n 0, 1)) ∧ (decode cX3_rowsToOrder 67 = .ok (.getfield 45, 3)) ∧ (decode cX3_rowsToOrder 70 = .ok (.iload_n 3, 1)) ∧ (decode cX3_rowsToOrder 71 = .ok (.iaload, 1)) ∧ (decode cX3_rowsToOrder 72 = .ok (.istore 4, 2)) ∧ (decode cX3_rowsToOrder 74 = .ok (.aload_n 0, 1)) ∧ (decode cX3_rowsToOrder 75 = .ok (.getfield 39, 3)) ∧ (decode cX3_rowsToOrder 78 = .ok (.iload 4, 2)) := by decide +kernel
theorem dX3_rowsToOrder_52 : decode cX3_rowsToOrder 52 = .ok (.istore_n 3, 1) := da9_dX3_rowsToOrder_52.1
theorem dX3_rowsToOrder_53 : decode cX3_rowsToOrder 53 = .ok (.iload_n 3, 1) := da9_dX3_rowsToOrder_52.2.1
theorem dX3_rowsToOrder_54 : decode cX3_rowsToOrder 54 = .ok (.aload_n 0, 1) := da9_dX3_rowsToOrder_52.2.2.1
theorem dX3_rowsToOrder_55 : decode cX3_rowsToOrder 55 = .ok (.getfield 55, 3) := da9_dX3_rowsToOrder_52.2.2.2.1
theorem dX3_rowsToOrder_58 : decode cX3_rowsToOrder 58 = .ok (.if_icmp .ge 142, 3) := da9_dX3_rowsToOrder_52.2.2.2.2.1
theorem dX3_rowsToOrder_61 : decode cX3_rowsToOrder 61 = .ok (.iload_n 3, 1) := da9_dX3_rowsToOrder_52.2.2.2.2.2.1
theorem dX3_rowsToOrder_62 : decode cX3_rowsToOrder 62 = .ok (.iload_n 1, 1) := da9_dX3_rowsToOrder_52.2.2.2.2.2.2.1
theorem dX3_rowsToOrder_63 : decode cX3_rowsToOrder 63 = .ok (.if_icmp .ge 137, 3) := da9_dX3_rowsToOrder_52.2.2.2.2.2.2.2.1
theorem dX3_rowsToOrder_66 : decode cX3_rowsToOrder 66 = .ok (.aload_n 0, 1) := da9_dX3_rowsToOrder_52.2.2.2.2.2.2.2.2.1
theorem dX3_rowsToOrder_67 : decode cX3_rowsToOrder 67 = .ok (.getfield 45, 3) := da9_dX3_rowsToOrder_52.2.2.2.2.2.2.2.2.2.1
theorem dX3_rowsToOrder_70 : decode cX3_rowsToOrder 70 = .ok (.iload_n 3, 1) := da9_dX3_rowsToOrder_52.2.2.2.2.2.2.2.2.2.2.1
theorem dX3_rowsToOrder_71 : decode cX3_rowsToOrder 71 = .ok (.iaload, 1) := da9_dX3_rowsToOrder_52.2.2.2.2.2.2.2.2.2.2.2.1
theorem dX3_rowsToOrder_72 : decode cX3_rowsToOrder 72 = .ok (.istore 4, 2) := da9_dX3_rowsToOrder_52.2.2.2.2.2.2.2.2.2.2.2.2.1
theorem dX3_rowsToOrder_74 : decode cX3_rowsToOrder 74 = .ok (.aload_n 0, 1) := da9_dX3_rowsToOrder_52.2.2.2.2.2.2.2.2.2.2.2.2.2.1
theorem dX3_rowsToOrder_75 : decode cX3_rowsToOrder 75 = .ok (.getfield 39, 3) := da9_dX3_rowsToOrder_52.2.2.2.2.2.2.2.2.2.2.2.2.2.2.1
theorem dX3_rowsToOrder_78 : decode cX3_rowsToOrder 78 = .ok (.iload 4, 2) := da9_dX3_rowsToOrder_52.2.2.2.2.2.2.2.2.2.2.2.2.2.2.2
theorem da9_dX3_rowsToOrder_80 : (decode cX3_rowsToOrder 80 = .ok (.iaload, 1)) ∧ (decode cX3_rowsToOrder 81 = .ok (.ifCond .ne 18, 3)) ∧ (decode cX3_rowsToOrder 84 = .ok (.ldc 128, 2)) ∧ (decode cX3_rowsToOrder 86 = .ok (.iload_n 2, 1)) ∧ (decode cX3_rowsToOrder 87 = .ok (.aload_n 0, 1)) ∧ (decode cX3_rowsToOrder 88 = .ok (.getfield 42, 3)) ∧ (decode cX3_rowsToOrder 91 = .ok (.iload 4, 2)) ∧ (decode cX3_rowsToOrder 93 = .ok (.iaload, 1)) ∧ (decode cX3_rowsToOrder 94 = .ok (.iadd, 1)) ∧ (decode cX3_rowsToOrder 95 = .ok (.invokestatic 100, 3)) ∧ (decode cX3_rowsToOrder 98 = .ok (.istore_n 2, 1)) ∧ (decode cX3_rowsToOrder 99 = .ok (.iconst 1, 1)) ∧ (decode cX3_rowsToOrder 100 = .ok (.istore 5, 2)) ∧ (decode cX3_rowsToOrder 102 = .ok (.iload 5, 2)) ∧ (decode cX3_rowsToOrder 104 = .ok (.aload_n 0, 1)) ∧ (decode cX3_rowsToOrder 105 = .ok (.getfield 51, 3)) := by decide +kernel
theorem dX3_rowsToOrder_80 : decode cX3_rowsToOrder 80 = .ok (.iaload, 1) := da9_dX3_rowsToOrder_80.1
theorem dX3_rowsToOrder_81 : decode cX3_rowsToOrder 81 = .ok (.ifCond .ne 18, 3) := da9_dX3_rowsToOrder_80.2.1
theorem dX3_rowsToOrder_84 : decode cX3_rowsToOrder 84 = .ok (.ldc 128, 2) := da9_dX3_rowsToOrder_80.2.2.1
theorem dX3_rowsToOrder_86 : decode cX3_rowsToOrder 86 = .ok (.iload_n 2, 1) := da9_dX3_rowsToOrder_80.2.2.2.1
theorem dX3_rowsToOrder_87 : decode cX3_rowsToOrder 87 = .ok (.aload_n 0, 1) := da9_dX3_rowsToOrder_80.2.2.2.2.1
theorem dX3_rowsToOrder_88 : decode cX3_rowsToOrder 88 = .ok (.getfield 42, 3) := da9_dX3_rowsToOrder_80.2.2.2.2.2.1
theorem dX3_rowsToOrder_91 : decode cX3_rowsToOrder 91 = .ok (.iload 4, 2) := da9_dX3_rowsToOrder_80.2.2.2.2.2.2.1
theorem dX3_rowsToOrder_93 : decode cX3_rowsToOrder 93 = .ok (.iaload, 1) := da9_dX3_rowsToOrder_80.2.2.2.2.2.2.2.1
theorem dX3_rowsToOrder_94 : decode cX3_rowsToOrder 94 = .ok (.iadd, 1) := da9_dX3_rowsToOrder_80.2.2.2.2.2.2.2.2.1
theorem dX3_rowsToOrder_95 : decode cX3_rowsToOrder 95 = .ok (.invokestatic 100, 3) := da9_dX3_rowsToOrder_80.2.2.2.2.2.2.2.2.2.1
theorem dX3_rowsToOrder_98 : decode cX3_rowsToOrder 98 = .ok (.istore_n 2, 1) := da9_dX3_rowsToOrder_80.2.2.2.2.2.2.2.2.2.2.1
theorem dX3_rowsToOrder_99 : decode cX3_rowsToOrder 99 = .ok (.iconst 1, 1) := da9_dX3_rowsToOrder_80.2.2.2.2.2.2.2.2.2.2.2.1
theorem dX3_rowsToOrder_100 : decode cX3_rowsToOrder 100 = .ok (.istore 5, 2) := da9_dX3_rowsToOrder_80.2.2.2.2.2.2.2.2.2.2.2.2.1
theorem dX3_rowsToOrder_102 : decode cX3_rowsToOrder 102 = .ok (.iload 5, 2) := da9_dX3_rowsToOrder_80.2.2.2.2.2.2.2.2.2.2.2.2.2.1
theorem dX3_rowsToOrder_104 : decode cX3_rowsToOrder 104 = .ok (.aload_n 0, 1) := da9_dX3_rowsToOrder_80.2.2.2.2.2.2.2.2.2.2.2.2.2.2.1
theorem dX3_rowsToOrder_105 : decode cX3_rowsToOrder 105 = .ok (.getfield 51, 3) := da9_dX3_rowsToOrder_80.2.2.2.2.2.2.2.2.2.2.2.2.2.2.2
theorem da9_dX3_rowsToOrder_108 : (decode cX3_rowsToOrder 108 = .ok (.if_icmp .gt 86, 3)) ∧ (decode cX3_rowsToOrder 111 = .ok (.aload_n 0, 1)) ∧ (decode cX3_rowsToOrder 112 = .ok (.iload 4, 2)) ∧ (decode cX3_rowsToOrder 114 = .ok (.iload 5, 2)) ∧ (decode cX3_rowsToOrder 116 = .ok (.invokevirtual 129, 3)) ∧ (decode cX3_rowsToOrder 119 = .ok (.ifCond .eq 69, 3)) ∧ (decode cX3_rowsToOrder 122 = .ok (.aload_n 0, 1)) ∧ (decode cX3_rowsToOrder 123 = .ok (.iload 4, 2)) ∧ (decode cX3_rowsToOrder 125 = .ok (.iload 5, 2)) ∧ (decode cX3_rowsToOrder 127 = .ok (.invokevirtual 119, 3)) ∧ (decode cX3_rowsToOrder 130 = .ok (.istore 6, 2)) ∧ (decode cX3_rowsToOrder 132 = .ok (.aload_n 0, 1)) ∧ (decode cX3_rowsToOrder 133 = .ok (.getfield 42, 3)) ∧ (decode cX3_rowsToOrder 136 = .ok (.iload 6, 2)) ∧ (decode cX3_rowsToOrder 138 = .ok (.iaload, 1)) ∧ (decode cX3_rowsToOrder 139 = .ok (.ifCond .ne 22, 3)) := by decide +kernel
theorem dX3_rowsToOrder_108 : decode cX3_rowsToOrder 108 = .ok (.if_icmp .gt 86, 3) := da9_dX3_rowsToOrder_108.1
theorem dX3_rowsToOrder_111 : decode cX3_rowsToOrder 111 = .ok (.aload_n 0, 1) := da9_dX3_rowsToOrder_108.2.1
theorem dX3_rowsToOrder_112 : decode cX3_rowsToOrder 112 = .ok (.iload 4, 2) := da9_dX3_rowsToOrder_108.2.2.1
theorem dX3_rowsToOrder_114 : decode cX3_rowsToOrder 114 = .ok (.iload 5, 2) := da9_dX3_rowsToOrder_108.2.2.2.1
theorem dX3_rowsToOrder_116 : decode cX3_rowsToOrder 116 = .ok (.invokevirtual 129, 3) := da9_dX3_rowsToOrder_108.2.2.2.2.1
theorem dX3_rowsToOrder_119 : decode cX3_rowsToOrder 119 = .ok (.ifCond .eq 69, 3) := da9_dX3_rowsToOrder_108.2.2.2.2.2.1
theorem dX3_rowsToOrder_122 : decode cX3_rowsToOrder 122 = .ok (.aload_n 0, 1) := da9_dX3_rowsToOrder_108.2.2.2.2.2.2.1
theorem dX3_rowsToOrder_123 : decode cX3_rowsToOrder 123 = .ok (.iload 4, 2) := da9_dX3_rowsToOrder_108.2.2.2.2.2.2.2.1
theorem dX3_rowsToOrder_125 : decode cX3_rowsToOrder 125 = .ok (.iload 5, 2) := da9_dX3_rowsToOrder_108.2.2.2.2.2.2.2.2.1
theorem dX3_rowsToOrder_127 : decode cX3_rowsToOrder 127 = .ok (.invokevirtual 119, 3) := da9_dX3_rowsToOrder_108.2.2.2.2.2.2.2.2.2.1
theorem dX3_rowsToOrder_130 : decode cX3_rowsToOrder 130 = .ok (.istore 6, 2) := da9_dX3_rowsToOrder_108.2.2.2.2.2.2.2.2.2.2.1
theorem dX3_rowsToOrder_132 : decode cX3_rowsToOrder 132 = .ok (.aload_n 0, 1) := da9_dX3_rowsToOrder_108.2.2.2.2.2.2.2.2.2.2.2.1
theorem dX3_rowsToOrder_133 : decode cX3_rowsToOrder 133 = .ok (.getfield 42, 3) := da9_dX3_rowsToOrder_108.2.2.2.2.2.2.2.2.2.2.2.2.1
theorem dX3_rowsToOrder_136 : decode cX3_rowsToOrder 136 = .ok (.iload 6, 2) := da9_dX3_rowsToOrder_108.2.2.2.2.2.2.2.2.2.2.2.2.2.1
theorem dX3_rowsToOrder_138 : decode cX3_rowsToOrder 138 = .ok (.iaload, 1) := da9_dX3_rowsToOrder_108.2.2.2.2.2.2.2.2.2.2.2.2.2.2.1
theorem dX3_rowsToOrder_139 : decode cX3_rowsToOrder 139 = .ok (.ifCond .ne 22, 3) := da9_dX3_rowsToOrder_108.2.2.2.2.2.2.2.2.2.2.2.2.2.2.2
theorem da9_dX3_rowsToOrder_142 : (decode cX3_rowsToOrder 142 = .ok (.iload_n 1, 1)) ∧ (decode cX3_rowsToOrder 143 = .ok (.aload_n 0, 1)) ∧ (decode cX3_rowsToOrder 144 = .ok (.getfield 55, 3)) ∧ (decode cX3_rowsToOrder 147 = .ok (.if_icmp .ge 14, 3)) ∧ (decode cX3_rowsToOrder 150 = .ok (.aload_n 0, 1)) ∧ (decode cX3_rowsToOrder 151 = .ok (.getfield 45, 3)) ∧ (decode cX3_rowsToOrder 154 = .ok (.iload_n 1, 1)) ∧ (decode cX3_rowsToOrder 155 = .ok (.iload 6, 2)) ∧ (decode cX3_rowsToOrder 157 = .ok (.iastore, 1)) ∧ (decode cX3_rowsToOrder 158 = .ok (.iinc 1 1, 3)) ∧ (decode cX3_rowsToOrder 161 = .ok (.aload_n 0, 1)) ∧ (decode cX3_rowsToOrder 162 = .ok (.getfield 42, 3)) ∧ (decode cX3_rowsToOrder 165 = .ok (.iload 6, 2)) ∧ (decode cX3_rowsToOrder 167 = .ok (.ldc 128, 2)) ∧ (decode cX3_rowsToOrder 169 = .ok (.aload_n 0, 1)) ∧ (decode cX3_rowsToOrder 170 = .ok (.getfield 42, 3)) := by decide +kernel
theorem dX3_rowsToOrder_142 : decode cX3_rowsToOrder 142 = .ok (.iload_n 1, 1) := da9_dX3_rowsToOrder_142.1
theorem dX3_rowsToOrder_143 : decode cX3_rowsToOrder 143 = .ok (.aload_n 0, 1) := da9_dX3_rowsToOrder_142.2.1
theorem dX3_rowsToOrder_144 : decode cX3_rowsToOrder 144 = .ok (.getfield 55, 3) := da9_dX3_rowsToOrder_142.2.2.1
theorem dX3_rowsToOrder_147 : decode cX3_rowsToOrder 147 = .ok (.if_icmp .ge 14, 3) := da9_dX3_rowsToOrder_142.2.2.2.1
theorem dX3_rowsToOrder_150 : decode cX3_rowsToOrder 150 = .ok (.aload_n 0, 1) := da9_dX3_rowsToOrder_142.2.2.2.2.1
theorem dX3_rowsToOrder_151 : decode cX3_rowsToOrder 151 = .ok (.getfield 45, 3) := da9_dX3_rowsToOrder_142.2.2.2.2.2.1
theorem dX3_rowsToOrder_154 : decode cX3_rowsToOrder 154 = .ok (.iload_n 1, 1) := da9_dX3_rowsToOrder_142.2.2.2.2.2.2.1
theorem dX3_rowsToOrder_155 : decode cX3_rowsToOrder 155 = .ok (.iload 6, 2) := da9_dX3_rowsToOrder_142.2.2.2.2.2.2.2.1
theorem dX3_rowsToOrder_157 : decode cX3_rowsToOrder 157 = .ok (.iastore, 1) := da9_dX3_rowsToOrder_142.2.2.2.2.2.2.2.2.1
theorem dX3_rowsToOrder_158 : decode cX3_rowsToOrder 158 = .ok (.iinc 1 1, 3) := da9_dX3_rowsToOrder_142.2.2.2.2.2.2.2.2.2.1
theorem dX3_rowsToOrder_161 : decode cX3_rowsToOrder 161 = .ok (.aload_n 0, 1) := da9_dX3_rowsToOrder_142.2.2.2.2.2.2.2.2.2.2.1
theorem dX3_rowsToOrder_162 : decode cX3_rowsToOrder 162 = .ok (.getfield 42, 3) := da9_dX3_rowsToOrder_142.2.2.2.2.2.2.2.2.2.2.2.1
theorem dX3_rowsToOrder_165 : decode cX3_rowsToOrder 165 = .ok (.iload 6, 2) := da9_dX3_rowsToOrder_142.2.2.2.2.2.2.2.2.2.2.2.2.1
theorem dX3_rowsToOrder_167 : decode cX3_rowsToOrder 167 = .ok (.ldc 128, 2) := da9_dX3_rowsToOrder_142.2.2.2.2.2.2.2.2.2.2.2.2.2.1
theorem dX3_rowsToOrder_169 : decode cX3_rowsToOrder 169 = .ok (.aload_n 0, 1) := da9_dX3_rowsToOrder_142.2.2.2.2.2.2.2.2.2.2.2.2.2.2.1
theorem dX3_rowsToOrder_170 : decode cX3_rowsToOrder 170 = .ok (.getfield 42, 3) := da9_dX3_rowsToOrder_142.2.2.2.2.2.2.2.2.2.2.2.2.2.2.2
theorem da9_dX3_rowsToOrder_173 : (decode cX3_rowsToOrder 173 = .ok (.iload 6, 2)) ∧ (decode cX3_rowsToOrder 175 = .ok (.iaload, 1)) ∧ (decode cX3_rowsToOrder 176 = .ok (.aload_n 0, 1)) ∧ (decode cX3_rowsToOrder 177 = .ok (.getfield 42, 3)) ∧ (decode cX3_rowsToOrder 180 = .ok (.iload 4, 2)) ∧ (decode cX3_rowsToOrder 182 = .ok (.iaload, 1)) ∧ (decode cX3_rowsToOrder 183 = .ok (.iadd, 1)) ∧ (decode cX3_rowsToOrder 184 = .ok (.invokestatic 100, 3)) ∧ (decode cX3_rowsToOrder 187 = .ok (.iastore, 1)) ∧ (decode cX3_rowsToOrder 188 = .ok (.iinc 5 1, 3)) ∧ (decode cX3_rowsToOrder 191 = .ok (.goto (-89), 3)) ∧ (decode cX3_rowsToOrder 194 = .ok (.iinc 3 1, 3)) ∧ (decode cX3_rowsToOrder 197 = .ok (.goto (-144), 3)) ∧ (decode cX3_rowsToOrder 200 = .ok (.iload_n 2, 1)) ∧ (decode cX3_rowsToOrder 201 = .ok (.ireturn, 1)) := by decide +kernel
theorem dX3_rowsToOrder_173 : decode cX3_rowsToOrder 173 = .ok (.iload 6, 2) := da9_dX3_rowsToOrder_173.1
theorem dX3_rowsToOrder_175 : decode cX3_rowsToOrder 175 = .ok (.iaload, 1) := da9_dX3_rowsToOrder_173.2.1
theorem dX3_rowsToOrder_176 : decode cX3_rowsToOrder 176 = .ok (.aload_n 0, 1) := da9_dX3_rowsToOrder_173.2.2.1
theorem dX3_rowsToOrder_177 : decode cX3_rowsToOrder 177 = .ok (.getfield 42, 3) := da9_dX3_rowsToOrder_173.2.2.2.1
theorem dX3_rowsToOrder_180 : decode cX3_rowsToOrder 180 = .ok (.iload 4, 2) := da9_dX3_rowsToOrder_173.2.2.2.2.1
theorem dX3_rowsToOrder_182 : decode cX3_rowsToOrder 182 = .ok (.iaload, 1) := da9_dX3_rowsToOrder_173.2.2.2.2.2.1
theorem dX3_rowsToOrder_183 : decode cX3_rowsToOrder 183 = .ok (.iadd, 1) := da9_dX3_rowsToOrder_173.2.2.2.2.2.2.1
theorem dX3_rowsToOrder_184 : decode cX3_rowsToOrder 184 = .ok (.invokestatic 100, 3) := da9_dX3_rowsToOrder_173.2.2.2.2.2.2.2.1
theorem dX3_rowsToOrder_187 : decode cX3_rowsToOrder 187 = .ok (.iastore, 1) := da9_dX3_rowsToOrder_173.2.2.2.2.2.2.2.2.1
theorem dX3_rowsToOrder_188 : decode cX3_rowsToOrder 188 = .ok (.iinc 5 1, 3) := da9_dX3_rowsToOrder_173.2.2.2.2.2.2.2.2.2.1
theorem dX3_rowsToOrder_191 : decode cX3_rowsToOrder 191 = .ok (.goto (-89), 3) := da9_dX3_rowsToOrder_173.2.2.2.2.2.2.2.2.2.2.1
theorem dX3_rowsToOrder_194 : decode cX3_rowsToOrder 194 = .ok (.iinc 3 1, 3) := da9_dX3_rowsToOrder_173.2.2.2.2.2.2.2.2.2.2.2.1
theorem dX3_rowsToOrder_197 : decode cX3_rowsToOrder 197 = .ok (.goto (-144), 3) := da9_dX3_rowsToOrder_173.2.2.2.2.2.2.2.2.2.2.2.2.1
theorem dX3_rowsToOrder_200 : decode cX3_rowsToOrder 200 = .ok (.iload_n 2, 1) := da9_dX3_rowsToOrder_173.2.2.2.2.2.2.2.2.2.2.2.2.2.1
theorem dX3_rowsToOrder_201 : decode cX3_rowsToOrder 201 = .ok (.ireturn, 1) := da9_dX3_rowsToOrder_173.2.2.2.2.2.2.2.2.2.2.2.2.2.2
set_option maxRecDepth 20000 in
theorem ggX9_many_X9_seated : GoodIn wsX9_many wsX9_seated := wd_c vW9_ok mvW9_44
set_option maxRecDepth 20000 in
theorem gX9_many_X9_seated : GoodIn wsX9_many (wsV RX9 144 RX9 yX9_seated wsX9_seated) := goodIn_app (wd_l vW9_ok _ pvW9_97) ggX9_many_X9_seated
set_option maxRecDepth 20000 in
theorem ggX9_many_X9_spread : GoodIn wsX9_many wsX9_spread := wd_c vW9_ok mvW9_457
set_option maxRecDepth 20000 in
theorem gX9_many_X9_spread : GoodIn wsX9_many (wsV RX9 226 RX9 yX9_spread wsX9_spread) := goodIn_app (wd_l vW9_ok _ pvW9_114) ggX9_many_X9_spread
set_option maxRecDepth 20000 in
theorem ggX9_many_X3_rowsToOrder : GoodIn wsX9_many wsX3_rowsToOrder := wd_c vW9_ok mvW9_562
set_option maxRecDepth 20000 in
theorem gX9_many_X3_rowsToOrder : GoodIn wsX9_many (wsV RX9 237 RX3 yX3_rowsToOrder wsX3_rowsToOrder) := goodIn_app (wd_l vW9_ok _ pvW9_117) ggX9_many_X3_rowsToOrder
theorem da9_dX9_many_0 : (decode cX9_many 0 = .ok (.aload_n 0, 1)) ∧ (decode cX9_many 1 = .ok (.aload_n 0, 1)) ∧ (decode cX9_many 2 = .ok (.invokevirtual 144, 3)) ∧ (decode cX9_many 5 = .ok (.invokevirtual 226, 3)) ∧ (decode cX9_many 8 = .ok (.aload_n 0, 1)) ∧ (decode cX9_many 9 = .ok (.getfield 80, 3)) ∧ (decode cX9_many 12 = .ok (.invokevirtual 237, 3)) ∧ (decode cX9_many 15 = .ok (.ireturn, 1)) := by decide +kernel
theorem dX9_many_0 : decode cX9_many 0 = .ok (.aload_n 0, 1) := da9_dX9_many_0.1
theorem dX9_many_1 : decode cX9_many 1 = .ok (.aload_n 0, 1) := da9_dX9_many_0.2.1
theorem dX9_many_2 : decode cX9_many 2 = .ok (.invokevirtual 144, 3) := da9_dX9_many_0.2.2.1
theorem dX9_many_5 : decode cX9_many 5 = .ok (.invokevirtual 226, 3) := da9_dX9_many_0.2.2.2.1
theorem dX9_many_8 : decode cX9_many 8 = .ok (.aload_n 0, 1) := da9_dX9_many_0.2.2.2.2.1
theorem dX9_many_9 : decode cX9_many 9 = .ok (.getfield 80, 3) := da9_dX9_many_0.2.2.2.2.2.1
theorem dX9_many_12 : decode cX9_many 12 = .ok (.invokevirtual 237, 3) := da9_dX9_many_0.2.2.2.2.2.2.1
theorem dX9_many_15 : decode cX9_many 15 = .ok (.ireturn, 1) := da9_dX9_many_0.2.2.2.2.2.2.2
end
section
theorem u9_wsX3_rowsToOrder_X3 : ∀ w ∈ u_ws RX3 TX3 20, w ∈ wsX3_rowsToOrder := fun w h => List.mem_cons_of_mem _ (vW9_wsX30 w h)
theorem f9_wsX3_rowsToOrder_808 : (Cond.fieldLink RX3 42 "TurnedFloors$Paper" "marks" "[I") ∈ wsX3_rowsToOrder := List.mem_cons_of_mem _ mvW9_476
theorem f9_wsX3_rowsToOrder_809 : (Cond.constant RX3 128 1000000000) ∈ wsX3_rowsToOrder := List.mem_cons_of_mem _ mvW9_563
theorem f9_wsX3_rowsToOrder_810 : (Cond.methodLink RX3 100 Lib.Math.min.name) ∈ wsX3_rowsToOrder := List.mem_cons_of_mem _ mvW9_470
theorem f9_wsX3_rowsToOrder_811 : (Cond.static Lib.Math.min.name) ∈ wsX3_rowsToOrder := List.mem_cons_of_mem _ mvW9_86
theorem f9_wsX3_rowsToOrder_812 : (Cond.initialized "java/lang/Math") ∈ wsX3_rowsToOrder := List.mem_cons_of_mem _ mvW9_87
theorem f9_wsX3_rowsToOrder_813 : (Cond.code Lib.Math.min.name Lib.Math.min.code 2 (some .int)) ∈ wsX3_rowsToOrder := List.mem_cons_of_mem _ mvW9_88
theorem f9_wsX3_rowsToOrder_814 : (Cond.fieldLink RX3 51 "TurnedFloors$Paper" "floors" "I") ∈ wsX3_rowsToOrder := List.mem_cons_of_mem _ mvW9_463
theorem f9_wsX3_rowsToOrder_815 : (Cond.fieldLink RX3 55 "TurnedFloors$Paper" "size" "I") ∈ wsX3_rowsToOrder := List.mem_cons_of_mem _ mvW9_466
theorem f9_wsX3_rowsToOrder_816 : (Cond.fieldLink RX3 45 "TurnedFloors$Paper" "line" "[I") ∈ wsX3_rowsToOrder := List.mem_cons_of_mem _ mvW9_477
theorem f9_wsX3_rowsToOrder_817 : (Cond.fieldLink RX3 39 "TurnedFloors$Paper" "toOrder" "[I") ∈ wsX3_rowsToOrder := List.mem_cons_of_mem _ mvW9_467
theorem f9_wsX3_rowsToOrder_818 : (Cond.fieldLink RX3 58 "TurnedFloors$Paper" "start" "I") ∈ wsX3_rowsToOrder := List.mem_cons_of_mem _ mvW9_471
theorem u9_wsX9_many_X9 : ∀ w ∈ u_ws RX9 TX9 19, w ∈ wsX9_many := fun w h => List.mem_cons_of_mem _ (vW9_wsX90 w h)
theorem f9_wsX9_many_820 : (Cond.fieldLink RX9 80 "TurnedFloors" "paper" "LTurnedFloors$Paper;") ∈ wsX9_many := List.mem_cons_of_mem _ mvW9_453
set_option maxHeartbeats 4000000 in
set_option maxRecDepth 100000 in
theorem WX3_rowsToOrder_s32_200 {p : Program} {l : Launch} {e : Env} {s : State} {m : MethodId} {args : Array Value} {below : List Frame} {meth : Method} {c : Code} {D : va_G} {ty : Nat → ClassId} {eo : Nat → Nat} {A : Nat → Prop} {ad : Nat → Nat} {o1 : Int32} {o2 : dK} (C : dc_C p s m args meth c cX3_rowsToOrder (some .int) 7 RX3 wsX3_rowsToOrder D ty eo A)   (q : dK) (x2 : Int32) (H : Heap) (locs : List Loc) (ls : Array Slot) (h : zX3_rowsToOrder_s32_200  q x2 = some (o1, o2)) (hP : va_P D vwCl (wF ty ad q) H) (hD : va_D A (wF ty ad q)) (hS : va_S A s.heap H locs) (hl : lv_has ls 7 [(2, .int x2)]) : W p l e ({ frames := 3, cells := 0, slots := 0, locals := 72 } : Room) s m args below meth c H locs 0 0 (MQ below (va_Qi (fun (r : Int32) (u : va_W) => o1 = r ∧ wF ty ad o2 = u) (kz_B D ty A) A) args s 0 0 A) (F0 m 200 ls []) := by
  have C0 := C
  obtain ⟨hx, hb, hr, hts, hown, hlocks, hml, hK, hN, hE, hA⟩ := C
  unfold zX3_rowsToOrder_s32_200 at h
  refine lv_iload_n hx hb dX3_rowsToOrder_200 rfl (lv_at hl 0 rfl) ?_
  cases h
  exact kz_iret hx hb hr hlocks hP hK hD hS dX3_rowsToOrder_201 ⟨rfl, rfl⟩
set_option maxHeartbeats 4000000 in
set_option maxRecDepth 100000 in
theorem WX3_rowsToOrder_s32_188 {p : Program} {l : Launch} {e : Env} {s : State} {m : MethodId} {args : Array Value} {below : List Frame} {meth : Method} {c : Code} {D : va_G} {ty : Nat → ClassId} {eo : Nat → Nat} {A : Nat → Prop} {ad : Nat → Nat} {o1 : Int32} {o2 : dK} (C : dc_C p s m args meth c cX3_rowsToOrder (some .int) 7 RX3 wsX3_rowsToOrder D ty eo A) {k53 : dK → Int32 → Int32 → Int32 → Option (Int32 × dK)} {k102 : dK → Int32 → Int32 → Int32 → Int32 → Int32 → Option (Int32 × dK)} (hk53 : ∀ (q : dK) (x1 : Int32) (x2 : Int32) (x3 : Int32) (H : Heap) (locs : List Loc) (ls : Array Slot), k53 q x1 x2 x3 = some (o1, o2) → va_P D vwCl (wF ty ad q) H → va_D A (wF ty ad q) → va_S A s.heap H locs → lv_has ls 7 [(0, .ref (ad 32)), (1, .int x1), (2, .int x2), (3, .int x3)] → W p l e ({ frames := 3, cells := 0, slots := 0, locals := 72 } : Room) s m args below meth c H locs 0 0 (MQ below (va_Qi (fun (r : Int32) (u : va_W) => o1 = r ∧ wF ty ad o2 = u) (kz_B D ty A) A) args s 0 0 A) (F0 m 53 ls [])) (hk102 : ∀ (q : dK) (x1 : Int32) (x2 : Int32) (x3 : Int32) (x4 : Int32) (x5 : Int32) (H : Heap) (locs : List Loc) (ls : Array Slot), k102 q x1 x2 x3 x4 x5 = some (o1, o2) → va_P D vwCl (wF ty ad q) H → va_D A (wF ty ad q) → va_S A s.heap H locs → lv_has ls 7 [(0, .ref (ad 32)), (1, .int x1), (2, .int x2), (3, .int x3), (4, .int x4), (5, .int x5)] → W p l e ({ frames := 3, cells := 0, slots := 0, locals := 72 } : Room) s m args below meth c H locs 0 0 (MQ below (va_Qi (fun (r : Int32) (u : va_W) => o1 = r ∧ wF ty ad o2 = u) (kz_B D ty A) A) args s 0 0 A) (F0 m 102 ls [])) (q : dK) (x1 : Int32) (x2 : Int32) (x3 : Int32) (x4 : Int32) (x5 : Int32) (H : Heap) (locs : List Loc) (ls : Array Slot) (h : zX3_rowsToOrder_s32_188 k53 k102 q x1 x2 x3 x4 x5 = some (o1, o2)) (hP : va_P D vwCl (wF ty ad q) H) (hD : va_D A (wF ty ad q)) (hS : va_S A s.heap H locs) (hl : lv_has ls 7 [(0, .ref (ad 32)), (1, .int x1), (2, .int x2), (3, .int x3), (4, .int x4), (5, .int x5)]) : W p l e ({ frames := 3, cells := 0, slots := 0, locals := 72 } : Room) s m args below meth c H locs 0 0 (MQ below (va_Qi (fun (r : Int32) (u : va_W) => o1 = r ∧ wF ty ad o2 = u) (kz_B D ty A) A) args s 0 0 A) (F0 m 188 ls []) := by
  have C0 := C
  obtain ⟨hx, hb, hr, hts, hown, hlocks, hml, hK, hN, hE, hA⟩ := C
  unfold zX3_rowsToOrder_s32_188 at h
  refine lv_iinc (v := x5 + 1) (lv' := [(5, .int (x5 + 1)), (0, .ref (ad 32)), (1, .int x1), (2, .int x2), (3, .int x3), (4, .int x4)]) hx hb dX3_rowsToOrder_188 hl (k := 5) rfl rfl (by decide) rfl (fun ls hl => ?_)
  refine lv_goto (tgt := 102) hx hb dX3_rowsToOrder_191 (by decide) ?_
  exact hk102 _ _ _ _ _ _ _ _ _ h hP hD hS (lv_sub hl [1, 2, 3, 4, 5, 0] rfl)
set_option maxHeartbeats 4000000 in
set_option maxRecDepth 100000 in
theorem WX3_rowsToOrder_s32_161 {p : Program} {l : Launch} {e : Env} {s : State} {m : MethodId} {args : Array Value} {below : List Frame} {meth : Method} {c : Code} {D : va_G} {ty : Nat → ClassId} {eo : Nat → Nat} {A : Nat → Prop} {ad : Nat → Nat} {o1 : Int32} {o2 : dK} (C : dc_C p s m args meth c cX3_rowsToOrder (some .int) 7 RX3 wsX3_rowsToOrder D ty eo A) {k53 : dK → Int32 → Int32 → Int32 → Option (Int32 × dK)} {k102 : dK → Int32 → Int32 → Int32 → Int32 → Int32 → Option (Int32 × dK)} (hk53 : ∀ (q : dK) (x1 : Int32) (x2 : Int32) (x3 : Int32) (H : Heap) (locs : List Loc) (ls : Array Slot), k53 q x1 x2 x3 = some (o1, o2) → va_P D vwCl (wF ty ad q) H → va_D A (wF ty ad q) → va_S A s.heap H locs → lv_has ls 7 [(0, .ref (ad 32)), (1, .int x1), (2, .int x2), (3, .int x3)] → W p l e ({ frames := 3, cells := 0, slots := 0, locals := 72 } : Room) s m args below meth c H locs 0 0 (MQ below (va_Qi (fun (r : Int32) (u : va_W) => o1 = r ∧ wF ty ad o2 = u) (kz_B D ty A) A) args s 0 0 A) (F0 m 53 ls [])) (hk102 : ∀ (q : dK) (x1 : Int32) (x2 : Int32) (x3 : Int32) (x4 : Int32) (x5 : Int32) (H : Heap) (locs : List Loc) (ls : Array Slot), k102 q x1 x2 x3 x4 x5 = some (o1, o2) → va_P D vwCl (wF ty ad q) H → va_D A (wF ty ad q) → va_S A s.heap H locs → lv_has ls 7 [(0, .ref (ad 32)), (1, .int x1), (2, .int x2), (3, .int x3), (4, .int x4), (5, .int x5)] → W p l e ({ frames := 3, cells := 0, slots := 0, locals := 72 } : Room) s m args below meth c H locs 0 0 (MQ below (va_Qi (fun (r : Int32) (u : va_W) => o1 = r ∧ wF ty ad o2 = u) (kz_B D ty A) A) args s 0 0 A) (F0 m 102 ls [])) (q : dK) (x1 : Int32) (x2 : Int32) (x3 : Int32) (x4 : Int32) (x5 : Int32) (x6 : Int32) (H : Heap) (locs : List Loc) (ls : Array Slot) (h : zX3_rowsToOrder_s32_161 k53 k102 q x1 x2 x3 x4 x5 x6 = some (o1, o2)) (hP : va_P D vwCl (wF ty ad q) H) (hD : va_D A (wF ty ad q)) (hS : va_S A s.heap H locs) (hl : lv_has ls 7 [(0, .ref (ad 32)), (1, .int x1), (2, .int x2), (3, .int x3), (4, .int x4), (5, .int x5), (6, .int x6)]) : W p l e ({ frames := 3, cells := 0, slots := 0, locals := 72 } : Room) s m args below meth c H locs 0 0 (MQ below (va_Qi (fun (r : Int32) (u : va_W) => o1 = r ∧ wF ty ad o2 = u) (kz_B D ty A) A) args s 0 0 A) (F0 m 161 ls []) := by
  have C0 := C
  obtain ⟨hx, hb, hr, hts, hown, hlocks, hml, hK, hN, hE, hA⟩ := C
  unfold zX3_rowsToOrder_s32_161 at h
  refine lv_aload_n hx hb dX3_rowsToOrder_161 rfl (lv_at hl 0 rfl) ?_
  refine va_get (D := D) (ci := 3) (v := .ref (ad 43)) (C := RX3) (T := TX3) (N := 20) hx hb hts u9_wsX3_rowsToOrder_X3 hown hK hP 32 rfl rfl 10 (by decide) (hts (.fieldLink RX3 42 "TurnedFloors$Paper" "marks" "[I") f9_wsX3_rowsToOrder_808) (fun _ h9 => h9) rfl dX3_rowsToOrder_162 ?_
  refine lv_iload hx hb dX3_rowsToOrder_165 (lv_at hl 6 rfl) ?_
  refine lv_ldc (v := 1000000000) hx hb hown (hts (.constant RX3 128 1000000000) f9_wsX3_rowsToOrder_809) dX3_rowsToOrder_167 ?_
  refine lv_aload_n hx hb dX3_rowsToOrder_169 rfl (lv_at hl 0 rfl) ?_
  refine va_get (D := D) (ci := 3) (v := .ref (ad 43)) (C := RX3) (T := TX3) (N := 20) hx hb hts u9_wsX3_rowsToOrder_X3 hown hK hP 32 rfl rfl 10 (by decide) (hts (.fieldLink RX3 42 "TurnedFloors$Paper" "marks" "[I") f9_wsX3_rowsToOrder_808) (fun _ h9 => h9) rfl dX3_rowsToOrder_170 ?_
  refine lv_iload hx hb dX3_rowsToOrder_173 (lv_at hl 6 rfl) ?_
  obtain ⟨g1, h⟩ := dG_some h
  refine va_iald hx hb hK hP 43 0 rfl rfl (dg_in g1) dX3_rowsToOrder_175 ?_
  obtain ⟨v2, ev2, h⟩ := dL_some h
  refine kz_topi v2 ev2 ?_
  refine lv_aload_n hx hb dX3_rowsToOrder_176 rfl (lv_at hl 0 rfl) ?_
  refine va_get (D := D) (ci := 3) (v := .ref (ad 43)) (C := RX3) (T := TX3) (N := 20) hx hb hts u9_wsX3_rowsToOrder_X3 hown hK hP 32 rfl rfl 10 (by decide) (hts (.fieldLink RX3 42 "TurnedFloors$Paper" "marks" "[I") f9_wsX3_rowsToOrder_808) (fun _ h9 => h9) rfl dX3_rowsToOrder_177 ?_
  refine lv_iload hx hb dX3_rowsToOrder_180 (lv_at hl 4 rfl) ?_
  obtain ⟨g3, h⟩ := dG_some h
  refine va_iald hx hb hK hP 43 0 rfl rfl (dg_in g3) dX3_rowsToOrder_182 ?_
  obtain ⟨v4, ev4, h⟩ := dL_some h
  refine kz_topi v4 ev4 ?_
  refine lv_iadd hx hb dX3_rowsToOrder_183 ?_
  refine va_mmin hx hb (hml.trans hl.1.symm) hown (hts (.methodLink RX3 100 Lib.Math.min.name) f9_wsX3_rowsToOrder_810) (hts (.static Lib.Math.min.name) f9_wsX3_rowsToOrder_811) (hts (.initialized "java/lang/Math") f9_wsX3_rowsToOrder_812) (hts (.code Lib.Math.min.name Lib.Math.min.code 2 (some .int)) f9_wsX3_rowsToOrder_813) (Nat.le_of_ble_eq_true rfl) (Nat.le_of_ble_eq_true rfl) (Nat.le_of_ble_eq_true rfl) (Nat.le_of_ble_eq_true rfl) dX3_rowsToOrder_184 ?_
  refine kz_topi (mnI 1000000000 (v2 + v4)) rfl ?_
  obtain ⟨g5, h⟩ := dG_some h
  refine va_iast hx hb hK hP hD hS 43 0 rfl rfl (dg_in g5) dX3_rowsToOrder_187 (fun H locs hp hd hs => ?_)
  obtain ⟨q6, eq6, h⟩ := dL_some h
  refine kz_re (w2 := wF ty ad q6) hp hd hs (by rw [← eq6]; exact wF_a43 ty ad q (Int32.toNatClampNeg x6) (mnI 1000000000 (v2 + v4))) ?_
  clear hp hd hs hP hD hS
  intro hP hD hS
  exact WX3_rowsToOrder_s32_188 C0 hk53 hk102 _ _ _ _ _ _ _ _ _ h hP hD hS (lv_sub hl [0, 1, 2, 3, 4, 5] rfl)
set_option maxHeartbeats 4000000 in
set_option maxRecDepth 100000 in
theorem WX3_rowsToOrder_s32_102b {p : Program} {l : Launch} {e : Env} {s : State} {m : MethodId} {args : Array Value} {below : List Frame} {meth : Method} {c : Code} {D : va_G} {ty : Nat → ClassId} {eo : Nat → Nat} {A : Nat → Prop} {ad : Nat → Nat} {o1 : Int32} {o2 : dK} (C : dc_C p s m args meth c cX3_rowsToOrder (some .int) 7 RX3 wsX3_rowsToOrder D ty eo A) {k53 : dK → Int32 → Int32 → Int32 → Option (Int32 × dK)} {k102 : dK → Int32 → Int32 → Int32 → Int32 → Int32 → Option (Int32 × dK)} (hk53 : ∀ (q : dK) (x1 : Int32) (x2 : Int32) (x3 : Int32) (H : Heap) (locs : List Loc) (ls : Array Slot), k53 q x1 x2 x3 = some (o1, o2) → va_P D vwCl (wF ty ad q) H → va_D A (wF ty ad q) → va_S A s.heap H locs → lv_has ls 7 [(0, .ref (ad 32)), (1, .int x1), (2, .int x2), (3, .int x3)] → W p l e ({ frames := 3, cells := 0, slots := 0, locals := 72 } : Room) s m args below meth c H locs 0 0 (MQ below (va_Qi (fun (r : Int32) (u : va_W) => o1 = r ∧ wF ty ad o2 = u) (kz_B D ty A) A) args s 0 0 A) (F0 m 53 ls [])) (hk102 : ∀ (q : dK) (x1 : Int32) (x2 : Int32) (x3 : Int32) (x4 : Int32) (x5 : Int32) (H : Heap) (locs : List Loc) (ls : Array Slot), k102 q x1 x2 x3 x4 x5 = some (o1, o2) → va_P D vwCl (wF ty ad q) H → va_D A (wF ty ad q) → va_S A s.heap H locs → lv_has ls 7 [(0, .ref (ad 32)), (1, .int x1), (2, .int x2), (3, .int x3), (4, .int x4), (5, .int x5)] → W p l e ({ frames := 3, cells := 0, slots := 0, locals := 72 } : Room) s m args below meth c H locs 0 0 (MQ below (va_Qi (fun (r : Int32) (u : va_W) => o1 = r ∧ wF ty ad o2 = u) (kz_B D ty A) A) args s 0 0 A) (F0 m 102 ls [])) (q : dK) (x1 : Int32) (x2 : Int32) (x3 : Int32) (x4 : Int32) (x5 : Int32) (H : Heap) (locs : List Loc) (ls : Array Slot) (h : zX3_rowsToOrder_s32_102b k53 k102 q x1 x2 x3 x4 x5 = some (o1, o2)) (hP : va_P D vwCl (wF ty ad q) H) (hD : va_D A (wF ty ad q)) (hS : va_S A s.heap H locs) (hl : lv_has ls 7 [(0, .ref (ad 32)), (1, .int x1), (2, .int x2), (3, .int x3), (4, .int x4), (5, .int x5)]) : W p l e ({ frames := 3, cells := 0, slots := 0, locals := 72 } : Room) s m args below meth c H locs 0 0 (MQ below (va_Qi (fun (r : Int32) (u : va_W) => o1 = r ∧ wF ty ad o2 = u) (kz_B D ty A) A) args s 0 0 A) (F0 m 102 ls []) := by
  have C0 := C
  obtain ⟨hx, hb, hr, hts, hown, hlocks, hml, hK, hN, hE, hA⟩ := C
  unfold zX3_rowsToOrder_s32_102b at h
  refine lv_iload hx hb dX3_rowsToOrder_102 (lv_at hl 5 rfl) ?_
  refine lv_aload_n hx hb dX3_rowsToOrder_104 rfl (lv_at hl 0 rfl) ?_
  refine va_get (D := D) (ci := 3) (v := .int (q.1 32 13)) (C := RX3) (T := TX3) (N := 20) hx hb hts u9_wsX3_rowsToOrder_X3 hown hK hP 32 rfl rfl 13 (by decide) (hts (.fieldLink RX3 51 "TurnedFloors$Paper" "floors" "I") f9_wsX3_rowsToOrder_814) (fun _ h9 => h9) rfl dX3_rowsToOrder_105 ?_
  refine lv_icmp_gt (tgt := 194) hx hb dX3_rowsToOrder_108 (by decide) (fun c9 => ?_) (fun c9 => ?_)
  · rw [if_pos c9] at h
    refine lv_iinc (v := x3 + 1) (lv' := [(3, .int (x3 + 1)), (0, .ref (ad 32)), (1, .int x1), (2, .int x2), (4, .int x4), (5, .int x5)]) hx hb dX3_rowsToOrder_194 hl (k := 3) rfl rfl (by decide) rfl (fun ls hl => ?_)
    refine lv_goto (tgt := 53) hx hb dX3_rowsToOrder_197 (by decide) ?_
    exact hk53 _ _ _ _ _ _ _ h hP hD hS (lv_sub hl [1, 2, 3, 0] rfl)
  · rw [if_neg c9] at h
    refine lv_aload_n hx hb dX3_rowsToOrder_111 rfl (lv_at hl 0 rfl) ?_
    refine lv_iload hx hb dX3_rowsToOrder_112 (lv_at hl 4 rfl) ?_
    refine lv_iload hx hb dX3_rowsToOrder_114 (lv_at hl 5 rfl) ?_
    obtain ⟨r1, q3, h2, h⟩ := dB_some h
    refine dw_ki (va_runV (As := [.int x4, .int x5]) (rest := []) ⟨hx, hb, hml, hown, hts⟩ (qX3_isCloser_s32 l D ty eo _ ad q x4 x5 r1 q3 h2) (cwV 2 hts gX3_rowsToOrder_X3_isCloser rfl rfl rfl hd_X3_isCloser_v ⟨Nat.le_of_ble_eq_true rfl, Nat.le_of_ble_eq_true rfl⟩) (pvF_3_32 hK hN hE hP hD hS hA) rfl rfl hl.1 rfl (lv_room (Nat.le_of_ble_eq_true rfl)) dX3_rowsToOrder_116 ⟨Nat.le_of_ble_eq_true rfl, Nat.le_of_ble_eq_true rfl⟩) hD hS hA (fun r9 u9 H locs hw hp hd hs => ?_)
    clear hP hD hS
    obtain ⟨rfl, rfl⟩ := hw
    have hP := hp; have hD := hd; have hS := hs; clear hp hd hs
    refine lv_if_eq (tgt := 188) hx hb dX3_rowsToOrder_119 (by decide) (fun c9 => ?_) (fun c9 => ?_)
    · rw [if_pos c9] at h
      exact WX3_rowsToOrder_s32_188 C0 hk53 hk102 _ _ _ _ _ _ _ _ _ h hP hD hS (lv_sub hl [0, 1, 2, 3, 4, 5] rfl)
    · rw [if_neg c9] at h
      refine lv_aload_n hx hb dX3_rowsToOrder_122 rfl (lv_at hl 0 rfl) ?_
      refine lv_iload hx hb dX3_rowsToOrder_123 (lv_at hl 4 rfl) ?_
      refine lv_iload hx hb dX3_rowsToOrder_125 (lv_at hl 5 rfl) ?_
      obtain ⟨r4, q6, h5, h⟩ := dB_some h
      refine dw_ki (va_runV (As := [.int x4, .int x5]) (rest := []) ⟨hx, hb, hml, hown, hts⟩ (qX3_turned_s32 l D ty eo _ ad q3 x4 x5 r4 q6 h5) (cwV 2 hts gX3_rowsToOrder_X3_turned rfl rfl rfl hd_X3_turned_v ⟨Nat.le_of_ble_eq_true rfl, Nat.le_of_ble_eq_true rfl⟩) (pvF_3_32 hK hN hE hP hD hS hA) rfl rfl hl.1 rfl (lv_room (Nat.le_of_ble_eq_true rfl)) dX3_rowsToOrder_127 ⟨Nat.le_of_ble_eq_true rfl, Nat.le_of_ble_eq_true rfl⟩) hD hS hA (fun r9 u9 H locs hw hp hd hs => ?_)
      clear hP hD hS
      obtain ⟨rfl, rfl⟩ := hw
      have hP := hp; have hD := hd; have hS := hs; clear hp hd hs
      refine lv_istore (lv' := [(6, .int r4), (0, .ref (ad 32)), (1, .int x1), (2, .int x2), (3, .int x3), (4, .int x4), (5, .int x5)]) hx hb dX3_rowsToOrder_130 hl (by decide) rfl (fun ls hl => ?_)
      refine lv_aload_n hx hb dX3_rowsToOrder_132 rfl (lv_at hl 1 rfl) ?_
      refine va_get (D := D) (ci := 3) (v := .ref (ad 43)) (C := RX3) (T := TX3) (N := 20) hx hb hts u9_wsX3_rowsToOrder_X3 hown hK hP 32 rfl rfl 10 (by decide) (hts (.fieldLink RX3 42 "TurnedFloors$Paper" "marks" "[I") f9_wsX3_rowsToOrder_808) (fun _ h9 => h9) rfl dX3_rowsToOrder_133 ?_
      refine lv_iload hx hb dX3_rowsToOrder_136 (lv_at hl 0 rfl) ?_
      obtain ⟨g7, h⟩ := dG_some h
      refine va_iald hx hb hK hP 43 0 rfl rfl (dg_in g7) dX3_rowsToOrder_138 ?_
      obtain ⟨v8, ev8, h⟩ := dL_some h
      refine kz_topi v8 ev8 ?_
      refine lv_if_ne (tgt := 161) hx hb dX3_rowsToOrder_139 (by decide) (fun c9 => ?_) (fun c9 => ?_)
      · rw [if_neg c9] at h
        exact WX3_rowsToOrder_s32_161 C0 hk53 hk102 _ _ _ _ _ _ _ _ _ _ h hP hD hS (lv_sub hl [1, 2, 3, 4, 5, 6, 0] rfl)
      · rw [if_pos c9] at h
        refine lv_iload_n hx hb dX3_rowsToOrder_142 rfl (lv_at hl 2 rfl) ?_
        refine lv_aload_n hx hb dX3_rowsToOrder_143 rfl (lv_at hl 1 rfl) ?_
        refine va_get (D := D) (ci := 3) (v := .int (q6.1 32 14)) (C := RX3) (T := TX3) (N := 20) hx hb hts u9_wsX3_rowsToOrder_X3 hown hK hP 32 rfl rfl 14 (by decide) (hts (.fieldLink RX3 55 "TurnedFloors$Paper" "size" "I") f9_wsX3_rowsToOrder_815) (fun _ h9 => h9) rfl dX3_rowsToOrder_144 ?_
        refine lv_icmp_ge (tgt := 161) hx hb dX3_rowsToOrder_147 (by decide) (fun c9 => ?_) (fun c9 => ?_)
        · rw [if_pos c9] at h
          exact WX3_rowsToOrder_s32_161 C0 hk53 hk102 _ _ _ _ _ _ _ _ _ _ h hP hD hS (lv_sub hl [1, 2, 3, 4, 5, 6, 0] rfl)
        · rw [if_neg c9] at h
          refine lv_aload_n hx hb dX3_rowsToOrder_150 rfl (lv_at hl 1 rfl) ?_
          refine va_get (D := D) (ci := 3) (v := .ref (ad 44)) (C := RX3) (T := TX3) (N := 20) hx hb hts u9_wsX3_rowsToOrder_X3 hown hK hP 32 rfl rfl 11 (by decide) (hts (.fieldLink RX3 45 "TurnedFloors$Paper" "line" "[I") f9_wsX3_rowsToOrder_816) (fun _ h9 => h9) rfl dX3_rowsToOrder_151 ?_
          refine lv_iload_n hx hb dX3_rowsToOrder_154 rfl (lv_at hl 2 rfl) ?_
          refine lv_iload hx hb dX3_rowsToOrder_155 (lv_at hl 0 rfl) ?_
          obtain ⟨g9, h⟩ := dG_some h
          refine va_iast hx hb hK hP hD hS 44 0 rfl rfl (dg_in g9) dX3_rowsToOrder_157 (fun H locs hp hd hs => ?_)
          obtain ⟨q10, eq10, h⟩ := dL_some h
          refine kz_re (w2 := wF ty ad q10) hp hd hs (by rw [← eq10]; exact wF_a44 ty ad q6 (Int32.toNatClampNeg x1) r4) ?_
          clear hp hd hs hP hD hS
          intro hP hD hS
          refine lv_iinc (v := x1 + 1) (lv' := [(1, .int (x1 + 1)), (6, .int r4), (0, .ref (ad 32)), (2, .int x2), (3, .int x3), (4, .int x4), (5, .int x5)]) hx hb dX3_rowsToOrder_158 hl (k := 2) rfl rfl (by decide) rfl (fun ls hl => ?_)
          exact WX3_rowsToOrder_s32_161 C0 hk53 hk102 _ _ _ _ _ _ _ _ _ _ h hP hD hS (lv_sub hl [2, 0, 3, 4, 5, 6, 1] rfl)
set_option maxHeartbeats 4000000 in
set_option maxRecDepth 100000 in
theorem WX3_rowsToOrder_s32_102 {p : Program} {l : Launch} {e : Env} {s : State} {m : MethodId} {args : Array Value} {below : List Frame} {meth : Method} {c : Code} {D : va_G} {ty : Nat → ClassId} {eo : Nat → Nat} {A : Nat → Prop} {ad : Nat → Nat} {o1 : Int32} {o2 : dK} (C : dc_C p s m args meth c cX3_rowsToOrder (some .int) 7 RX3 wsX3_rowsToOrder D ty eo A) {k53 : dK → Int32 → Int32 → Int32 → Option (Int32 × dK)} (hk53 : ∀ (q : dK) (x1 : Int32) (x2 : Int32) (x3 : Int32) (H : Heap) (locs : List Loc) (ls : Array Slot), k53 q x1 x2 x3 = some (o1, o2) → va_P D vwCl (wF ty ad q) H → va_D A (wF ty ad q) → va_S A s.heap H locs → lv_has ls 7 [(0, .ref (ad 32)), (1, .int x1), (2, .int x2), (3, .int x3)] → W p l e ({ frames := 3, cells := 0, slots := 0, locals := 72 } : Room) s m args below meth c H locs 0 0 (MQ below (va_Qi (fun (r : Int32) (u : va_W) => o1 = r ∧ wF ty ad o2 = u) (kz_B D ty A) A) args s 0 0 A) (F0 m 53 ls [])) (n : Nat) (q : dK) (x1 : Int32) (x2 : Int32) (x3 : Int32) (x4 : Int32) (x5 : Int32) (H : Heap) (locs : List Loc) (ls : Array Slot) (h : zX3_rowsToOrder_s32_102 k53 n q x1 x2 x3 x4 x5 = some (o1, o2)) (hP : va_P D vwCl (wF ty ad q) H) (hD : va_D A (wF ty ad q)) (hS : va_S A s.heap H locs) (hl : lv_has ls 7 [(0, .ref (ad 32)), (1, .int x1), (2, .int x2), (3, .int x3), (4, .int x4), (5, .int x5)]) : W p l e ({ frames := 3, cells := 0, slots := 0, locals := 72 } : Room) s m args below meth c H locs 0 0 (MQ below (va_Qi (fun (r : Int32) (u : va_W) => o1 = r ∧ wF ty ad o2 = u) (kz_B D ty A) A) args s 0 0 A) (F0 m 102 ls []) := by
  exact dFix_W (F := fun k (a : dK × Int32 × Int32 × Int32 × Int32 × Int32) => zX3_rowsToOrder_s32_102b k53 (fun q x1 x2 x3 x4 x5 => k (q, x1, x2, x3, x4, x5)) a.1 a.2.1 a.2.2.1 a.2.2.2.1 a.2.2.2.2.1 a.2.2.2.2.2) (o := (o1, o2)) (P := fun (a : dK × Int32 × Int32 × Int32 × Int32 × Int32) H locs ls => va_P D vwCl (wF ty ad a.1) H ∧ va_D A (wF ty ad a.1) ∧ va_S A s.heap H locs ∧ lv_has ls 7 [(0, .ref (ad 32)), (1, .int a.2.1), (2, .int a.2.2.1), (3, .int a.2.2.2.1), (4, .int a.2.2.2.2.1), (5, .int a.2.2.2.2.2)]) (G := fun H locs ls => W p l e ({ frames := 3, cells := 0, slots := 0, locals := 72 } : Room) s m args below meth c H locs 0 0 (MQ below (va_Qi (fun (r : Int32) (u : va_W) => o1 = r ∧ wF ty ad o2 = u) (kz_B D ty A) A) args s 0 0 A) (F0 m 102 ls []))
    (fun k hk a H locs ls h hp => WX3_rowsToOrder_s32_102b C hk53 (fun q x1 x2 x3 x4 x5 H locs ls h h1 h2 h3 h4 => hk (q, x1, x2, x3, x4, x5) H locs ls h ⟨h1, h2, h3, h4⟩) a.1 a.2.1 a.2.2.1 a.2.2.2.1 a.2.2.2.2.1 a.2.2.2.2.2 H locs ls h hp.1 hp.2.1 hp.2.2.1 hp.2.2.2) n (q, x1, x2, x3, x4, x5) H locs ls h ⟨hP, hD, hS, hl⟩
set_option maxHeartbeats 4000000 in
set_option maxRecDepth 100000 in
theorem WX3_rowsToOrder_s32_99 {p : Program} {l : Launch} {e : Env} {s : State} {m : MethodId} {args : Array Value} {below : List Frame} {meth : Method} {c : Code} {D : va_G} {ty : Nat → ClassId} {eo : Nat → Nat} {A : Nat → Prop} {ad : Nat → Nat} {o1 : Int32} {o2 : dK} (C : dc_C p s m args meth c cX3_rowsToOrder (some .int) 7 RX3 wsX3_rowsToOrder D ty eo A) {k53 : dK → Int32 → Int32 → Int32 → Option (Int32 × dK)} (hk53 : ∀ (q : dK) (x1 : Int32) (x2 : Int32) (x3 : Int32) (H : Heap) (locs : List Loc) (ls : Array Slot), k53 q x1 x2 x3 = some (o1, o2) → va_P D vwCl (wF ty ad q) H → va_D A (wF ty ad q) → va_S A s.heap H locs → lv_has ls 7 [(0, .ref (ad 32)), (1, .int x1), (2, .int x2), (3, .int x3)] → W p l e ({ frames := 3, cells := 0, slots := 0, locals := 72 } : Room) s m args below meth c H locs 0 0 (MQ below (va_Qi (fun (r : Int32) (u : va_W) => o1 = r ∧ wF ty ad o2 = u) (kz_B D ty A) A) args s 0 0 A) (F0 m 53 ls [])) (q : dK) (x1 : Int32) (x2 : Int32) (x3 : Int32) (x4 : Int32) (H : Heap) (locs : List Loc) (ls : Array Slot) (h : zX3_rowsToOrder_s32_99 k53 q x1 x2 x3 x4 = some (o1, o2)) (hP : va_P D vwCl (wF ty ad q) H) (hD : va_D A (wF ty ad q)) (hS : va_S A s.heap H locs) (hl : lv_has ls 7 [(0, .ref (ad 32)), (1, .int x1), (2, .int x2), (3, .int x3), (4, .int x4)]) : W p l e ({ frames := 3, cells := 0, slots := 0, locals := 72 } : Room) s m args below meth c H locs 0 0 (MQ below (va_Qi (fun (r : Int32) (u : va_W) => o1 = r ∧ wF ty ad o2 = u) (kz_B D ty A) A) args s 0 0 A) (F0 m 99 ls []) := by
  have C0 := C
  obtain ⟨hx, hb, hr, hts, hown, hlocks, hml, hK, hN, hE, hA⟩ := C
  unfold zX3_rowsToOrder_s32_99 at h
  refine lv_iconst (v := 1) hx hb dX3_rowsToOrder_99 (by decide) ?_
  refine lv_istore (lv' := [(5, .int 1), (0, .ref (ad 32)), (1, .int x1), (2, .int x2), (3, .int x3), (4, .int x4)]) hx hb dX3_rowsToOrder_100 hl (by decide) rfl (fun ls hl => ?_)
  exact WX3_rowsToOrder_s32_102 C0 hk53 _ _ _ _ _ _ _ _ _ _ h hP hD hS (lv_sub hl [1, 2, 3, 4, 5, 0] rfl)
set_option maxHeartbeats 4000000 in
set_option maxRecDepth 100000 in
theorem WX3_rowsToOrder_s32_53b {p : Program} {l : Launch} {e : Env} {s : State} {m : MethodId} {args : Array Value} {below : List Frame} {meth : Method} {c : Code} {D : va_G} {ty : Nat → ClassId} {eo : Nat → Nat} {A : Nat → Prop} {ad : Nat → Nat} {o1 : Int32} {o2 : dK} (C : dc_C p s m args meth c cX3_rowsToOrder (some .int) 7 RX3 wsX3_rowsToOrder D ty eo A) {k53 : dK → Int32 → Int32 → Int32 → Option (Int32 × dK)} (hk53 : ∀ (q : dK) (x1 : Int32) (x2 : Int32) (x3 : Int32) (H : Heap) (locs : List Loc) (ls : Array Slot), k53 q x1 x2 x3 = some (o1, o2) → va_P D vwCl (wF ty ad q) H → va_D A (wF ty ad q) → va_S A s.heap H locs → lv_has ls 7 [(0, .ref (ad 32)), (1, .int x1), (2, .int x2), (3, .int x3)] → W p l e ({ frames := 3, cells := 0, slots := 0, locals := 72 } : Room) s m args below meth c H locs 0 0 (MQ below (va_Qi (fun (r : Int32) (u : va_W) => o1 = r ∧ wF ty ad o2 = u) (kz_B D ty A) A) args s 0 0 A) (F0 m 53 ls [])) (q : dK) (x1 : Int32) (x2 : Int32) (x3 : Int32) (H : Heap) (locs : List Loc) (ls : Array Slot) (h : zX3_rowsToOrder_s32_53b k53 q x1 x2 x3 = some (o1, o2)) (hP : va_P D vwCl (wF ty ad q) H) (hD : va_D A (wF ty ad q)) (hS : va_S A s.heap H locs) (hl : lv_has ls 7 [(0, .ref (ad 32)), (1, .int x1), (2, .int x2), (3, .int x3)]) : W p l e ({ frames := 3, cells := 0, slots := 0, locals := 72 } : Room) s m args below meth c H locs 0 0 (MQ below (va_Qi (fun (r : Int32) (u : va_W) => o1 = r ∧ wF ty ad o2 = u) (kz_B D ty A) A) args s 0 0 A) (F0 m 53 ls []) := by
  have C0 := C
  obtain ⟨hx, hb, hr, hts, hown, hlocks, hml, hK, hN, hE, hA⟩ := C
  unfold zX3_rowsToOrder_s32_53b at h
  refine lv_iload_n hx hb dX3_rowsToOrder_53 rfl (lv_at hl 3 rfl) ?_
  refine lv_aload_n hx hb dX3_rowsToOrder_54 rfl (lv_at hl 0 rfl) ?_
  refine va_get (D := D) (ci := 3) (v := .int (q.1 32 14)) (C := RX3) (T := TX3) (N := 20) hx hb hts u9_wsX3_rowsToOrder_X3 hown hK hP 32 rfl rfl 14 (by decide) (hts (.fieldLink RX3 55 "TurnedFloors$Paper" "size" "I") f9_wsX3_rowsToOrder_815) (fun _ h9 => h9) rfl dX3_rowsToOrder_55 ?_
  refine lv_icmp_ge (tgt := 200) hx hb dX3_rowsToOrder_58 (by decide) (fun c9 => ?_) (fun c9 => ?_)
  · rw [if_pos c9] at h
    exact WX3_rowsToOrder_s32_200 C0  _ _ _ _ _ h hP hD hS (lv_sub hl [2] rfl)
  · rw [if_neg c9] at h
    refine lv_iload_n hx hb dX3_rowsToOrder_61 rfl (lv_at hl 3 rfl) ?_
    refine lv_iload_n hx hb dX3_rowsToOrder_62 rfl (lv_at hl 1 rfl) ?_
    refine lv_icmp_ge (tgt := 200) hx hb dX3_rowsToOrder_63 (by decide) (fun c9 => ?_) (fun c9 => ?_)
    · rw [if_pos c9] at h
      exact WX3_rowsToOrder_s32_200 C0  _ _ _ _ _ h hP hD hS (lv_sub hl [2] rfl)
    · rw [if_neg c9] at h
      refine lv_aload_n hx hb dX3_rowsToOrder_66 rfl (lv_at hl 0 rfl) ?_
      refine va_get (D := D) (ci := 3) (v := .ref (ad 44)) (C := RX3) (T := TX3) (N := 20) hx hb hts u9_wsX3_rowsToOrder_X3 hown hK hP 32 rfl rfl 11 (by decide) (hts (.fieldLink RX3 45 "TurnedFloors$Paper" "line" "[I") f9_wsX3_rowsToOrder_816) (fun _ h9 => h9) rfl dX3_rowsToOrder_67 ?_
      refine lv_iload_n hx hb dX3_rowsToOrder_70 rfl (lv_at hl 3 rfl) ?_
      obtain ⟨g1, h⟩ := dG_some h
      refine va_iald hx hb hK hP 44 0 rfl rfl (dg_in g1) dX3_rowsToOrder_71 ?_
      obtain ⟨v2, ev2, h⟩ := dL_some h
      refine kz_topi v2 ev2 ?_
      refine lv_istore (lv' := [(4, .int v2), (0, .ref (ad 32)), (1, .int x1), (2, .int x2), (3, .int x3)]) hx hb dX3_rowsToOrder_72 hl (by decide) rfl (fun ls hl => ?_)
      refine lv_aload_n hx hb dX3_rowsToOrder_74 rfl (lv_at hl 1 rfl) ?_
      refine va_get (D := D) (ci := 3) (v := .ref (ad 42)) (C := RX3) (T := TX3) (N := 20) hx hb hts u9_wsX3_rowsToOrder_X3 hown hK hP 32 rfl rfl 9 (by decide) (hts (.fieldLink RX3 39 "TurnedFloors$Paper" "toOrder" "[I") f9_wsX3_rowsToOrder_817) (fun _ h9 => h9) rfl dX3_rowsToOrder_75 ?_
      refine lv_iload hx hb dX3_rowsToOrder_78 (lv_at hl 0 rfl) ?_
      obtain ⟨g3, h⟩ := dG_some h
      refine va_iald hx hb hK hP 42 0 rfl rfl (dg_in g3) dX3_rowsToOrder_80 ?_
      obtain ⟨v4, ev4, h⟩ := dL_some h
      refine kz_topi v4 ev4 ?_
      refine lv_if_ne (tgt := 99) hx hb dX3_rowsToOrder_81 (by decide) (fun c9 => ?_) (fun c9 => ?_)
      · rw [if_neg c9] at h
        exact WX3_rowsToOrder_s32_99 C0 hk53 _ _ _ _ _ _ _ _ h hP hD hS (lv_sub hl [1, 2, 3, 4, 0] rfl)
      · rw [if_pos c9] at h
        refine lv_ldc (v := 1000000000) hx hb hown (hts (.constant RX3 128 1000000000) f9_wsX3_rowsToOrder_809) dX3_rowsToOrder_84 ?_
        refine lv_iload_n hx hb dX3_rowsToOrder_86 rfl (lv_at hl 3 rfl) ?_
        refine lv_aload_n hx hb dX3_rowsToOrder_87 rfl (lv_at hl 1 rfl) ?_
        refine va_get (D := D) (ci := 3) (v := .ref (ad 43)) (C := RX3) (T := TX3) (N := 20) hx hb hts u9_wsX3_rowsToOrder_X3 hown hK hP 32 rfl rfl 10 (by decide) (hts (.fieldLink RX3 42 "TurnedFloors$Paper" "marks" "[I") f9_wsX3_rowsToOrder_808) (fun _ h9 => h9) rfl dX3_rowsToOrder_88 ?_
        refine lv_iload hx hb dX3_rowsToOrder_91 (lv_at hl 0 rfl) ?_
        obtain ⟨g5, h⟩ := dG_some h
        refine va_iald hx hb hK hP 43 0 rfl rfl (dg_in g5) dX3_rowsToOrder_93 ?_
        obtain ⟨v6, ev6, h⟩ := dL_some h
        refine kz_topi v6 ev6 ?_
        refine lv_iadd hx hb dX3_rowsToOrder_94 ?_
        refine va_mmin hx hb (hml.trans hl.1.symm) hown (hts (.methodLink RX3 100 Lib.Math.min.name) f9_wsX3_rowsToOrder_810) (hts (.static Lib.Math.min.name) f9_wsX3_rowsToOrder_811) (hts (.initialized "java/lang/Math") f9_wsX3_rowsToOrder_812) (hts (.code Lib.Math.min.name Lib.Math.min.code 2 (some .int)) f9_wsX3_rowsToOrder_813) (Nat.le_of_ble_eq_true rfl) (Nat.le_of_ble_eq_true rfl) (Nat.le_of_ble_eq_true rfl) (Nat.le_of_ble_eq_true rfl) dX3_rowsToOrder_95 ?_
        refine kz_topi (mnI 1000000000 (x2 + v6)) rfl ?_
        refine lv_istore_n (lv' := [(2, .int (mnI 1000000000 (x2 + v6))), (4, .int v2), (0, .ref (ad 32)), (1, .int x1), (3, .int x3)]) hx hb dX3_rowsToOrder_98 rfl hl (by decide) rfl (fun ls hl => ?_)
        exact WX3_rowsToOrder_s32_99 C0 hk53 _ _ _ _ _ _ _ _ h hP hD hS (lv_sub hl [2, 3, 0, 4, 1] rfl)
set_option maxHeartbeats 4000000 in
set_option maxRecDepth 100000 in
theorem WX3_rowsToOrder_s32_53 {p : Program} {l : Launch} {e : Env} {s : State} {m : MethodId} {args : Array Value} {below : List Frame} {meth : Method} {c : Code} {D : va_G} {ty : Nat → ClassId} {eo : Nat → Nat} {A : Nat → Prop} {ad : Nat → Nat} {o1 : Int32} {o2 : dK} (C : dc_C p s m args meth c cX3_rowsToOrder (some .int) 7 RX3 wsX3_rowsToOrder D ty eo A)   (n : Nat) (q : dK) (x1 : Int32) (x2 : Int32) (x3 : Int32) (H : Heap) (locs : List Loc) (ls : Array Slot) (h : zX3_rowsToOrder_s32_53  n q x1 x2 x3 = some (o1, o2)) (hP : va_P D vwCl (wF ty ad q) H) (hD : va_D A (wF ty ad q)) (hS : va_S A s.heap H locs) (hl : lv_has ls 7 [(0, .ref (ad 32)), (1, .int x1), (2, .int x2), (3, .int x3)]) : W p l e ({ frames := 3, cells := 0, slots := 0, locals := 72 } : Room) s m args below meth c H locs 0 0 (MQ below (va_Qi (fun (r : Int32) (u : va_W) => o1 = r ∧ wF ty ad o2 = u) (kz_B D ty A) A) args s 0 0 A) (F0 m 53 ls []) := by
  exact dFix_W (F := fun k (a : dK × Int32 × Int32 × Int32) => zX3_rowsToOrder_s32_53b  (fun q x1 x2 x3 => k (q, x1, x2, x3)) a.1 a.2.1 a.2.2.1 a.2.2.2) (o := (o1, o2)) (P := fun (a : dK × Int32 × Int32 × Int32) H locs ls => va_P D vwCl (wF ty ad a.1) H ∧ va_D A (wF ty ad a.1) ∧ va_S A s.heap H locs ∧ lv_has ls 7 [(0, .ref (ad 32)), (1, .int a.2.1), (2, .int a.2.2.1), (3, .int a.2.2.2)]) (G := fun H locs ls => W p l e ({ frames := 3, cells := 0, slots := 0, locals := 72 } : Room) s m args below meth c H locs 0 0 (MQ below (va_Qi (fun (r : Int32) (u : va_W) => o1 = r ∧ wF ty ad o2 = u) (kz_B D ty A) A) args s 0 0 A) (F0 m 53 ls []))
    (fun k hk a H locs ls h hp => WX3_rowsToOrder_s32_53b C  (fun q x1 x2 x3 H locs ls h h1 h2 h3 h4 => hk (q, x1, x2, x3) H locs ls h ⟨h1, h2, h3, h4⟩) a.1 a.2.1 a.2.2.1 a.2.2.2 H locs ls h hp.1 hp.2.1 hp.2.2.1 hp.2.2.2) n (q, x1, x2, x3) H locs ls h ⟨hP, hD, hS, hl⟩
set_option maxHeartbeats 4000000 in
set_option maxRecDepth 100000 in
theorem qX3_rowsToOrder_s32 (l : Launch) (D : va_G) (ty : Nat → ClassId) (eo : Nat → Nat) (sz : Nat) (ad : Nat → Nat) (q : dK)  (o1 : Int32) (o2 : dK) (h : zX3_rowsToOrder_s32 q = some (o1, o2)) : Met l yX3_rowsToOrder wsX3_rowsToOrder ({ frames := 3, cells := 0, slots := 0, locals := 72 } : Room) (va_Pc [.ref (ad 32)] (kz_pre D ty eo (wF ty ad q) sz)) (va_Qi (fun (r : Int32) (u : va_W) => o1 = r ∧ wF ty ad o2 = u) (kz_B D ty (va_A (wF ty ad q) sz)) (va_A (wF ty ad q) sz)) 0 0 (va_A (wF ty ad q) sz) := by
  refine Met.ofW (cc := cX3_rowsToOrder) (maxL := 7) (ret := (some .int)) (by decide) rfl ?_
  intro p e s m args below meth c s₁ B hml hv
  obtain ⟨rfl, hsz, hP, hK, hD0, hN, hE⟩ := hv
  have hx := B.exec
  have hb := B.bytes
  have hr := B.returns
  have hts := atoms_spec (ws := wsX3_rowsToOrder) B.pre
  have hown : s.vm.findClass RX3 = some m.cls := findClass_of_methodNamed B.named
  have hlocks := B.notSynchronized
  subst hsz
  have hD := hD0.self (sz := s.heap.size)
  generalize hAe : va_A (wF ty ad q) s.heap.size = A at hD hE ⊢
  have hA : ∀ q : Nat, s.heap.size ≤ q → A q := fun q h => by rw [← hAe]; exact Or.inr h
  clear hAe
  have hS : va_S A s.heap s.heap [] := va_S.rf
  have hl := lv_entry ([.ref (ad 32)]) (n := 7) (Nat.le_of_ble_eq_true rfl)
  rw [lg_entry_eq]
  generalize (lg_sl ([.ref (ad 32)]) ++ List.replicate (7 - (lg_sl ([.ref (ad 32)])).length) Slot.unset).toArray = ls at hl ⊢
  have hl : lv_has ls 7 [(0, .ref (ad 32))] := hl
  have C : dc_C p s m _ meth c cX3_rowsToOrder (some .int) 7 RX3 wsX3_rowsToOrder D ty eo A := ⟨hx, hb, hr, hts, hown, hlocks, hml, hK, hN, hE, hA⟩
  unfold zX3_rowsToOrder_s32 at h
  refine lv_aload_n hx hb dX3_rowsToOrder_0 rfl (lv_at hl 0 rfl) ?_
  obtain ⟨q3, h2, h⟩ := dV_some h
  refine dw_kv (va_runV (As := []) (rest := []) ⟨hx, hb, hml, hown, hts⟩ (qX3_measure_s32 l D ty eo _ ad q  q3 h2) (cwV 0 hts gX3_rowsToOrder_X3_measure rfl rfl rfl hd_X3_measure_v ⟨Nat.le_of_ble_eq_true rfl, Nat.le_of_ble_eq_true rfl⟩) (pvF_3_32 hK hN hE hP hD hS hA) rfl rfl hl.1 rfl (lv_room (Nat.le_of_ble_eq_true rfl)) dX3_rowsToOrder_1 ⟨Nat.le_of_ble_eq_true rfl, Nat.le_of_ble_eq_true rfl⟩) hD hS hA (fun u9 H locs hw hp hd hs => ?_)
  clear hP hD hS
  obtain rfl := hw
  have hP := hp; have hD := hd; have hS := hs; clear hp hd hs
  refine lv_aload_n hx hb dX3_rowsToOrder_4 rfl (lv_at hl 0 rfl) ?_
  refine va_get (D := D) (ci := 3) (v := .ref (ad 42)) (C := RX3) (T := TX3) (N := 20) hx hb hts u9_wsX3_rowsToOrder_X3 hown hK hP 32 rfl rfl 9 (by decide) (hts (.fieldLink RX3 39 "TurnedFloors$Paper" "toOrder" "[I") f9_wsX3_rowsToOrder_817) (fun _ h9 => h9) rfl dX3_rowsToOrder_5 ?_
  refine lv_aload_n hx hb dX3_rowsToOrder_8 rfl (lv_at hl 0 rfl) ?_
  refine va_get (D := D) (ci := 3) (v := .int (q3.1 32 15)) (C := RX3) (T := TX3) (N := 20) hx hb hts u9_wsX3_rowsToOrder_X3 hown hK hP 32 rfl rfl 15 (by decide) (hts (.fieldLink RX3 58 "TurnedFloors$Paper" "start" "I") f9_wsX3_rowsToOrder_818) (fun _ h9 => h9) rfl dX3_rowsToOrder_9 ?_
  obtain ⟨g4, h⟩ := dG_some h
  refine va_iald hx hb hK hP 42 0 rfl rfl (dg_in g4) dX3_rowsToOrder_12 ?_
  obtain ⟨v5, ev5, h⟩ := dL_some h
  refine kz_topi v5 ev5 ?_
  refine lv_iconst (v := (-1)) hx hb dX3_rowsToOrder_13 (by decide) ?_
  refine lv_icmp_ne (tgt := 19) hx hb dX3_rowsToOrder_14 (by decide) (fun c9 => ?_) (fun c9 => ?_)
  · rw [if_neg c9] at h
    refine lv_aload_n hx hb dX3_rowsToOrder_19 rfl (lv_at hl 0 rfl) ?_
    refine va_get (D := D) (ci := 3) (v := .ref (ad 43)) (C := RX3) (T := TX3) (N := 20) hx hb hts u9_wsX3_rowsToOrder_X3 hown hK hP 32 rfl rfl 10 (by decide) (hts (.fieldLink RX3 42 "TurnedFloors$Paper" "marks" "[I") f9_wsX3_rowsToOrder_808) (fun _ h9 => h9) rfl dX3_rowsToOrder_20 ?_
    refine lv_iconst (v := 0) hx hb dX3_rowsToOrder_23 (by decide) ?_
    refine dw_kv1 (j := 43) rfl (va_runS (As := [.ref (ad 43), .int 0]) (rest := []) ⟨hx, hb, hml, hown, hts⟩ (cJ7_fillI l D ty eo _ (ad 43) (Int32.toNatClampNeg (q3.1 32 104)) _ 0 (cl_lt _)) (va_cwS 2 hts gX3_rowsToOrder_J7_fill_53178 rfl rfl rfl hd_J7_fill_53178 ⟨Nat.le_of_ble_eq_true rfl, Nat.le_of_ble_eq_true rfl⟩) (kz_preS hK hN hE hP hD hS hA [43] (by decide) rfl) rfl rfl hl.1 rfl (lv_room (Nat.le_of_ble_eq_true rfl)) dX3_rowsToOrder_24 ⟨Nat.le_of_ble_eq_true rfl, Nat.le_of_ble_eq_true rfl⟩) hP hD hS hA (fun u9 h9 => h9.symm) (fun H locs hp hd hs => ?_)
    obtain ⟨q6, eq6, h⟩ := dL_some h
    refine kz_re (w2 := wF ty ad q6) hp hd hs (by rw [← eq6]; exact rfl) ?_
    clear hp hd hs hP hD hS
    intro hP hD hS
    refine lv_aload_n hx hb dX3_rowsToOrder_27 rfl (lv_at hl 0 rfl) ?_
    refine va_get (D := D) (ci := 3) (v := .ref (ad 43)) (C := RX3) (T := TX3) (N := 20) hx hb hts u9_wsX3_rowsToOrder_X3 hown hK hP 32 rfl rfl 10 (by decide) (hts (.fieldLink RX3 42 "TurnedFloors$Paper" "marks" "[I") f9_wsX3_rowsToOrder_808) (fun _ h9 => h9) rfl dX3_rowsToOrder_28 ?_
    refine lv_aload_n hx hb dX3_rowsToOrder_31 rfl (lv_at hl 0 rfl) ?_
    refine va_get (D := D) (ci := 3) (v := .int (q6.1 32 15)) (C := RX3) (T := TX3) (N := 20) hx hb hts u9_wsX3_rowsToOrder_X3 hown hK hP 32 rfl rfl 15 (by decide) (hts (.fieldLink RX3 58 "TurnedFloors$Paper" "start" "I") f9_wsX3_rowsToOrder_818) (fun _ h9 => h9) rfl dX3_rowsToOrder_32 ?_
    refine lv_iconst (v := 1) hx hb dX3_rowsToOrder_35 (by decide) ?_
    obtain ⟨g7, h⟩ := dG_some h
    refine va_iast hx hb hK hP hD hS 43 0 rfl rfl (dg_in g7) dX3_rowsToOrder_36 (fun H locs hp hd hs => ?_)
    obtain ⟨q8, eq8, h⟩ := dL_some h
    refine kz_re (w2 := wF ty ad q8) hp hd hs (by rw [← eq8]; exact wF_a43 ty ad q6 (Int32.toNatClampNeg (q6.1 32 15)) 1) ?_
    clear hp hd hs hP hD hS
    intro hP hD hS
    refine lv_aload_n hx hb dX3_rowsToOrder_37 rfl (lv_at hl 0 rfl) ?_
    refine va_get (D := D) (ci := 3) (v := .ref (ad 44)) (C := RX3) (T := TX3) (N := 20) hx hb hts u9_wsX3_rowsToOrder_X3 hown hK hP 32 rfl rfl 11 (by decide) (hts (.fieldLink RX3 45 "TurnedFloors$Paper" "line" "[I") f9_wsX3_rowsToOrder_816) (fun _ h9 => h9) rfl dX3_rowsToOrder_38 ?_
    refine lv_iconst (v := 0) hx hb dX3_rowsToOrder_41 (by decide) ?_
    refine lv_aload_n hx hb dX3_rowsToOrder_42 rfl (lv_at hl 0 rfl) ?_
    refine va_get (D := D) (ci := 3) (v := .int (q8.1 32 15)) (C := RX3) (T := TX3) (N := 20) hx hb hts u9_wsX3_rowsToOrder_X3 hown hK hP 32 rfl rfl 15 (by decide) (hts (.fieldLink RX3 58 "TurnedFloors$Paper" "start" "I") f9_wsX3_rowsToOrder_818) (fun _ h9 => h9) rfl dX3_rowsToOrder_43 ?_
    obtain ⟨g9, h⟩ := dG_some h
    refine va_iast hx hb hK hP hD hS 44 0 rfl rfl (dg_in g9) dX3_rowsToOrder_46 (fun H locs hp hd hs => ?_)
    obtain ⟨q10, eq10, h⟩ := dL_some h
    refine kz_re (w2 := wF ty ad q10) hp hd hs (by rw [(by decide +kernel : Int32.toNatClampNeg 0 = 0), ← eq10]; exact wF_a44 ty ad q8 0 (q8.1 32 15)) ?_
    clear hp hd hs hP hD hS
    intro hP hD hS
    refine lv_iconst (v := 1) hx hb dX3_rowsToOrder_47 (by decide) ?_
    refine lv_istore_n (lv' := [(1, .int 1), (0, .ref (ad 32))]) hx hb dX3_rowsToOrder_48 rfl hl (by decide) rfl (fun ls hl => ?_)
    refine lv_iconst (v := 0) hx hb dX3_rowsToOrder_49 (by decide) ?_
    refine lv_istore_n (lv' := [(2, .int 0), (1, .int 1), (0, .ref (ad 32))]) hx hb dX3_rowsToOrder_50 rfl hl (by decide) rfl (fun ls hl => ?_)
    refine lv_iconst (v := 0) hx hb dX3_rowsToOrder_51 (by decide) ?_
    refine lv_istore_n (lv' := [(3, .int 0), (2, .int 0), (1, .int 1), (0, .ref (ad 32))]) hx hb dX3_rowsToOrder_52 rfl hl (by decide) rfl (fun ls hl => ?_)
    exact WX3_rowsToOrder_s32_53 C  _ _ _ _ _ _ _ _ h hP hD hS (lv_sub hl [3, 2, 1, 0] rfl)
  · rw [if_pos c9] at h
    refine lv_iconst (v := 0) hx hb dX3_rowsToOrder_17 (by decide) ?_
    cases h
    exact kz_iret hx hb hr hlocks hP hK hD hS dX3_rowsToOrder_18 ⟨rfl, rfl⟩

set_option maxHeartbeats 4000000 in
set_option maxRecDepth 100000 in
theorem qX9_many_s0 (l : Launch) (D : va_G) (ty : Nat → ClassId) (eo : Nat → Nat) (sz : Nat) (ad : Nat → Nat) (nc ns : Nat) (q : dK)  (o1 : Int32) (o2 : dK) (h : zX9_many_s0 nc ns q = some (o1, o2)) : Met l yX9_many wsX9_many ({ frames := 6, cells := nc, slots := ns, locals := 160 } : Room) (va_Pc [.ref (ad 0)] (kz_pre D ty eo (wF ty ad q) sz)) (va_Qi (fun (r : Int32) (u : va_W) => o1 = r ∧ ∃ ad9 : Nat → Nat, dAg ad ad9 ∧ wF ty ad9 o2 = u) (kz_B D ty (va_A (wF ty ad q) sz)) (va_A (wF ty ad q) sz)) nc ns (va_A (wF ty ad q) sz) := by
  have hag : dAg ad ad := fun _ _ => rfl
  refine Met.ofW (cc := cX9_many) (maxL := 1) (ret := (some .int)) (by decide) rfl ?_
  intro p e s m args below meth c s₁ B hml hv
  obtain ⟨rfl, hsz, hP, hK, hD0, hN, hE⟩ := hv
  have hx := B.exec
  have hb := B.bytes
  have hr := B.returns
  have hts := atoms_spec (ws := wsX9_many) B.pre
  have hown : s.vm.findClass RX9 = some m.cls := findClass_of_methodNamed B.named
  have hlocks := B.notSynchronized
  subst hsz
  have hD := hD0.self (sz := s.heap.size)
  generalize hAe : va_A (wF ty ad q) s.heap.size = A at hD hE ⊢
  have hA : ∀ q : Nat, s.heap.size ≤ q → A q := fun q h => by rw [← hAe]; exact Or.inr h
  clear hAe
  have hS : va_S A s.heap s.heap [] := va_S.rf
  have hl := lv_entry ([.ref (ad 0)]) (n := 1) (Nat.le_of_ble_eq_true rfl)
  rw [lg_entry_eq]
  generalize (lg_sl ([.ref (ad 0)]) ++ List.replicate (1 - (lg_sl ([.ref (ad 0)])).length) Slot.unset).toArray = ls at hl ⊢
  have hl : lv_has ls 1 [(0, .ref (ad 0))] := hl
  have C : dc_C p s m _ meth c cX9_many (some .int) 1 RX9 wsX9_many D ty eo A := ⟨hx, hb, hr, hts, hown, hlocks, hml, hK, hN, hE, hA⟩
  unfold zX9_many_s0 at h
  refine lv_aload_n hx hb dX9_many_0 rfl (lv_at hl 0 rfl) ?_
  refine lv_aload_n hx hb dX9_many_1 rfl (lv_at hl 0 rfl) ?_
  obtain ⟨q3, h2, h⟩ := dV_some h
  refine dw_kq (va_runV (As := []) (rest := [.ref (ad 0)]) ⟨hx, hb, hml, hown, hts⟩ (qX9_seated_s0 l D ty eo _ ad q  q3 h2) (cwV 0 hts gX9_many_X9_seated rfl rfl rfl hd_X9_seated_v ⟨Nat.le_of_ble_eq_true rfl, Nat.le_of_ble_eq_true rfl⟩) (pvF_9_0 hK hN hE hP hD hS hA) rfl rfl hl.1 rfl (lv_room (Nat.le_of_ble_eq_true rfl)) dX9_many_2 ⟨Nat.zero_le _, Nat.zero_le _⟩) hP hD hS hA (fun r9 u9 H locs hw hp hd hs => ?_)
  clear hP hD hS
  obtain ⟨rfl, rfl⟩ := hw
  have hP := hp; have hD := hd; have hS := hs; clear hp hd hs
  obtain ⟨q6, h5, h⟩ := dV_some h
  refine dw_kv (va_runV (As := [.ref (ad 20)]) (rest := []) ⟨hx, hb, hml, hown, hts⟩ (qX9_spread_s0_s20 l D ty eo _ ad nc ns q3  q6 h5) (cwV 1 hts gX9_many_X9_spread rfl rfl rfl hd_X9_spread_v ⟨Nat.le_of_ble_eq_true rfl, Nat.le_of_ble_eq_true rfl⟩) (pvF_9_0 hK hN hE hP hD hS hA) rfl rfl hl.1 rfl (lv_room (Nat.le_of_ble_eq_true rfl)) dX9_many_5 ⟨by show 0 + nc ≤ nc; omega, by show 0 + ns ≤ ns; omega⟩) hD hS hA (fun u9 H locs hw hp hd hs => ?_)
  clear hP hD hS
  obtain ⟨ad, hag1, rfl⟩ := hw
  replace hag := dAg_t hag hag1
  rw [dAg_s hag1 0 (by decide)] at hl
  clear hag1
  refine dw_up (c2 := nc) (s2 := ns) (by omega) (by omega) ?_
  have hP := hp; have hD := hd; have hS := hs; clear hp hd hs
  refine lv_aload_n hx hb dX9_many_8 rfl (lv_at hl 0 rfl) ?_
  refine va_get (D := D) (ci := 9) (v := .ref (ad 32)) (C := RX9) (T := TX9) (N := 19) hx hb hts u9_wsX9_many_X9 hown hK hP 0 rfl rfl 10 (by decide) (hts (.fieldLink RX9 80 "TurnedFloors" "paper" "LTurnedFloors$Paper;") f9_wsX9_many_820) (fun _ h9 => h9) rfl dX9_many_9 ?_
  obtain ⟨r7, q9, h8, h⟩ := dB_some h
  refine dw_ki (va_runV (As := []) (rest := []) ⟨hx, hb, hml, hown, hts⟩ (qX3_rowsToOrder_s32 l D ty eo _ ad q6  r7 q9 h8) (cwV 0 hts gX9_many_X3_rowsToOrder rfl rfl rfl hd_X3_rowsToOrder_v ⟨Nat.le_of_ble_eq_true rfl, Nat.le_of_ble_eq_true rfl⟩) (pvF_3_32 hK hN hE hP hD hS hA) rfl rfl hl.1 rfl (lv_room (Nat.le_of_ble_eq_true rfl)) dX9_many_12 ⟨Nat.le_refl _, Nat.le_refl _⟩) hD hS hA (fun r9 u9 H locs hw hp hd hs => ?_)
  clear hP hD hS
  obtain ⟨rfl, rfl⟩ := hw
  have hP := hp; have hD := hd; have hS := hs; clear hp hd hs
  cases h
  exact kz_iret hx hb hr hlocks hP hK hD hS dX9_many_15 ⟨rfl, ad, hag, rfl⟩
end
section
theorem da9_dX3_putInBucket_0 : (decode cX3_putInBucket 0 = .ok (.aload_n 0, 1)) ∧ (decode cX3_putInBucket 1 = .ok (.getfield 42, 3)) ∧ (decode cX3_putInBucket 4 = .ok (.iload_n 1, 1)) ∧ (decode cX3_putInBucket 5 = .ok (.iaload, 1)) ∧ (decode cX3_putInBucket 6 = .ok (.bipush 100, 2)) ∧ (decode cX3_putInBucket 8 = .ok (.irem, 1)) ∧ (decode cX3_putInBucket 9 = .ok (.istore_n 2, 1)) ∧ (decode cX3_putInBucket 10 = .ok (.aload_n 0, 1)) ∧ (decode cX3_putInBucket 11 = .ok (.getfield 45, 3)) ∧ (decode cX3_putInBucket 14 = .ok (.iload_n 1, 1)) ∧ (decode cX3_putInBucket 15 = .ok (.aload_n 0, 1)) ∧ (decode cX3_putInBucket 16 = .ok (.getfield 27, 3)) ∧ (decode cX3_putInBucket 19 = .ok (.iload_n 2, 1)) ∧ (decode cX3_putInBucket 20 = .ok (.iaload, 1)) ∧ (decode cX3_putInBucket 21 = .ok (.iastore, 1)) ∧ (decode cX3_putInBucket 22 = .ok (.aload_n 0, 1)) := by decide +kernel
theorem dX3_putInBucket_0 : decode cX3_putInBucket 0 = .ok (.aload_n 0, 1) := da9_dX3_putInBucket_0.1
theorem dX3_putInBucket_1 : decode cX3_putInBucket 1 = .ok (.getfield 42, 3) := da9_dX3_putInBucket_0.2.1
theorem dX3_putInBucket_4 : decode cX3_putInBucket 4 = .ok (.iload_n 1, 1) := da9_dX3_putInBucket_0.2.2.1
theorem dX3_putInBucket_5 : decode cX3_putInBucket 5 = .ok (.iaload, 1) := da9_dX3_putInBucket_0.2.2.2.1
theorem dX3_putInBucket_6 : decode cX3_putInBucket 6 = .ok (.bipush 100, 2) := da9_dX3_putInBucket_0.2.2.2.2.1
theorem dX3_putInBucket_8 : decode cX3_putInBucket 8 = .ok (.irem, 1) := da9_dX3_putInBucket_0.2.2.2.2.2.1
theorem dX3_putInBucket_9 : decode cX3_putInBucket 9 = .ok (.istore_n 2, 1) := da9_dX3_putInBucket_0.2.2.2.2.2.2.1
theorem dX3_putInBucket_10 : decode cX3_putInBucket 10 = .ok (.aload_n 0, 1) := da9_dX3_putInBucket_0.2.2.2.2.2.2.2.1
theorem dX3_putInBucket_11 : decode cX3_putInBucket 11 = .ok (.getfield 45, 3) := da9_dX3_putInBucket_0.2.2.2.2.2.2.2.2.1
theorem dX3_putInBucket_14 : decode cX3_putInBucket 14 = .ok (.iload_n 1, 1) := da9_dX3_putInBucket_0.2.2.2.2.2.2.2.2.2.1
theorem dX3_putInBucket_15 : decode cX3_putInBucket 15 = .ok (.aload_n 0, 1) := da9_dX3_putInBucket_0.2.2.2.2.2.2.2.2.2.2.1
theorem dX3_putInBucket_16 : decode cX3_putInBucket 16 = .ok (.getfield 27, 3) := da9_dX3_putInBucket_0.2.2.2.2.2.2.2.2.2.2.2.1
theorem dX3_putInBucket_19 : decode cX3_putInBucket 19 = .ok (.iload_n 2, 1) := da9_dX3_putInBucket_0.2.2.2.2.2.2.2.2.2.2.2.2.1
theorem dX3_putInBucket_20 : decode cX3_putInBucket 20 = .ok (.iaload, 1) := da9_dX3_putInBucket_0.2.2.2.2.2.2.2.2.2.2.2.2.2.1
theorem dX3_putInBucket_21 : decode cX3_putInBucket 21 = .ok (.iastore, 1) := da9_dX3_putInBucket_0.2.2.2.2.2.2.2.2.2.2.2.2.2.2.1
theorem dX3_putInBucket_22 : decode cX3_putInBucket 22 = .ok (.aload_n 0, 1) := da9_dX3_putInBucket_0.2.2.2.2.2.2.2.2.2.2.2.2.2.2.2
theorem da9_dX3_putInBucket_23 : (decode cX3_putInBucket 23 = .ok (.getfield 48, 3)) ∧ (decode cX3_putInBucket 26 = .ok (.iload_n 1, 1)) ∧ (decode cX3_putInBucket 27 = .ok (.iconst (-1), 1)) ∧ (decode cX3_putInBucket 28 = .ok (.iastore, 1)) ∧ (decode cX3_putInBucket 29 = .ok (.aload_n 0, 1)) ∧ (decode cX3_putInBucket 30 = .ok (.getfield 45, 3)) ∧ (decode cX3_putInBucket 33 = .ok (.iload_n 1, 1)) ∧ (decode cX3_putInBucket 34 = .ok (.iaload, 1)) ∧ (decode cX3_putInBucket 35 = .ok (.iconst (-1), 1)) ∧ (decode cX3_putInBucket 36 = .ok (.if_icmp .eq 15, 3)) ∧ (decode cX3_putInBucket 39 = .ok (.aload_n 0, 1)) ∧ (decode cX3_putInBucket 40 = .ok (.getfield 48, 3)) ∧ (decode cX3_putInBucket 43 = .ok (.aload_n 0, 1)) ∧ (decode cX3_putInBucket 44 = .ok (.getfield 45, 3)) ∧ (decode cX3_putInBucket 47 = .ok (.iload_n 1, 1)) ∧ (decode cX3_putInBucket 48 = .ok (.iaload, 1)) := by decide +kernel
theorem dX3_putInBucket_23 : decode cX3_putInBucket 23 = .ok (.getfield 48, 3) := da9_dX3_putInBucket_23.1
theorem dX3_putInBucket_26 : decode cX3_putInBucket 26 = .ok (.iload_n 1, 1) := da9_dX3_putInBucket_23.2.1
theorem dX3_putInBucket_27 : decode cX3_putInBucket 27 = .ok (.iconst (-1), 1) := da9_dX3_putInBucket_23.2.2.1
theorem dX3_putInBucket_28 : decode cX3_putInBucket 28 = .ok (.iastore, 1) := da9_dX3_putInBucket_23.2.2.2.1
theorem dX3_putInBucket_29 : decode cX3_putInBucket 29 = .ok (.aload_n 0, 1) := da9_dX3_putInBucket_23.2.2.2.2.1
theorem dX3_putInBucket_30 : decode cX3_putInBucket 30 = .ok (.getfield 45, 3) := da9_dX3_putInBucket_23.2.2.2.2.2.1
theorem dX3_putInBucket_33 : decode cX3_putInBucket 33 = .ok (.iload_n 1, 1) := da9_dX3_putInBucket_23.2.2.2.2.2.2.1
theorem dX3_putInBucket_34 : decode cX3_putInBucket 34 = .ok (.iaload, 1) := da9_dX3_putInBucket_23.2.2.2.2.2.2.2.1
theorem dX3_putInBucket_35 : decode cX3_putInBucket 35 = .ok (.iconst (-1), 1) := da9_dX3_putInBucket_23.2.2.2.2.2.2.2.2.1
theorem dX3_putInBucket_36 : decode cX3_putInBucket 36 = .ok (.if_icmp .eq 15, 3) := da9_dX3_putInBucket_23.2.2.2.2.2.2.2.2.2.1
theorem dX3_putInBucket_39 : decode cX3_putInBucket 39 = .ok (.aload_n 0, 1) := da9_dX3_putInBucket_23.2.2.2.2.2.2.2.2.2.2.1
theorem dX3_putInBucket_40 : decode cX3_putInBucket 40 = .ok (.getfield 48, 3) := da9_dX3_putInBucket_23.2.2.2.2.2.2.2.2.2.2.2.1
theorem dX3_putInBucket_43 : decode cX3_putInBucket 43 = .ok (.aload_n 0, 1) := da9_dX3_putInBucket_23.2.2.2.2.2.2.2.2.2.2.2.2.1
theorem dX3_putInBucket_44 : decode cX3_putInBucket 44 = .ok (.getfield 45, 3) := da9_dX3_putInBucket_23.2.2.2.2.2.2.2.2.2.2.2.2.2.1
theorem dX3_putInBucket_47 : decode cX3_putInBucket 47 = .ok (.iload_n 1, 1) := da9_dX3_putInBucket_23.2.2.2.2.2.2.2.2.2.2.2.2.2.2.1
theorem dX3_putInBucket_48 : decode cX3_putInBucket 48 = .ok (.iaload, 1) := da9_dX3_putInBucket_23.2.2.2.2.2.2.2.2.2.2.2.2.2.2.2
theorem da9_dX3_putInBucket_49 : (decode cX3_putInBucket 49 = .ok (.iload_n 1, 1)) ∧ (decode cX3_putInBucket 50 = .ok (.iastore, 1)) ∧ (decode cX3_putInBucket 51 = .ok (.aload_n 0, 1)) ∧ (decode cX3_putInBucket 52 = .ok (.getfield 27, 3)) ∧ (decode cX3_putInBucket 55 = .ok (.iload_n 2, 1)) ∧ (decode cX3_putInBucket 56 = .ok (.iload_n 1, 1)) ∧ (decode cX3_putInBucket 57 = .ok (.iastore, 1)) ∧ (decode cX3_putInBucket 58 = .ok (.return_, 1)) := by decide +kernel
theorem dX3_putInBucket_49 : decode cX3_putInBucket 49 = .ok (.iload_n 1, 1) := da9_dX3_putInBucket_49.1
theorem dX3_putInBucket_50 : decode cX3_putInBucket 50 = .ok (.iastore, 1) := da9_dX3_putInBucket_49.2.1
theorem dX3_putInBucket_51 : decode cX3_putInBucket 51 = .ok (.aload_n 0, 1) := da9_dX3_putInBucket_49.2.2.1
theorem dX3_putInBucket_52 : decode cX3_putInBucket 52 = .ok (.getfield 27, 3) := da9_dX3_putInBucket_49.2.2.2.1
theorem dX3_putInBucket_55 : decode cX3_putInBucket 55 = .ok (.iload_n 2, 1) := da9_dX3_putInBucket_49.2.2.2.2.1
theorem dX3_putInBucket_56 : decode cX3_putInBucket 56 = .ok (.iload_n 1, 1) := da9_dX3_putInBucket_49.2.2.2.2.2.1
theorem dX3_putInBucket_57 : decode cX3_putInBucket 57 = .ok (.iastore, 1) := da9_dX3_putInBucket_49.2.2.2.2.2.2.1
theorem dX3_putInBucket_58 : decode cX3_putInBucket 58 = .ok (.return_, 1) := da9_dX3_putInBucket_49.2.2.2.2.2.2.2
theorem da9_dX3_takeFromBucket_0 : (decode cX3_takeFromBucket 0 = .ok (.aload_n 0, 1)) ∧ (decode cX3_takeFromBucket 1 = .ok (.getfield 48, 3)) ∧ (decode cX3_takeFromBucket 4 = .ok (.iload_n 1, 1)) ∧ (decode cX3_takeFromBucket 5 = .ok (.iaload, 1)) ∧ (decode cX3_takeFromBucket 6 = .ok (.iconst (-1), 1)) ∧ (decode cX3_takeFromBucket 7 = .ok (.if_icmp .ne 26, 3)) ∧ (decode cX3_takeFromBucket 10 = .ok (.aload_n 0, 1)) ∧ (decode cX3_takeFromBucket 11 = .ok (.getfield 27, 3)) ∧ (decode cX3_takeFromBucket 14 = .ok (.aload_n 0, 1)) ∧ (decode cX3_takeFromBucket 15 = .ok (.getfield 42, 3)) ∧ (decode cX3_takeFromBucket 18 = .ok (.iload_n 1, 1)) ∧ (decode cX3_takeFromBucket 19 = .ok (.iaload, 1)) ∧ (decode cX3_takeFromBucket 20 = .ok (.bipush 100, 2)) ∧ (decode cX3_takeFromBucket 22 = .ok (.irem, 1)) ∧ (decode cX3_takeFromBucket 23 = .ok (.aload_n 0, 1)) ∧ (decode cX3_takeFromBucket 24 = .ok (.getfield 45, 3)) := by decide +kernel
theorem dX3_takeFromBucket_0 : decode cX3_takeFromBucket 0 = .ok (.aload_n 0, 1) := da9_dX3_takeFromBucket_0.1
theorem dX3_takeFromBucket_1 : decode cX3_takeFromBucket 1 = .ok (.getfield 48, 3) := da9_dX3_takeFromBucket_0.2.1
theorem dX3_takeFromBucket_4 : decode cX3_takeFromBucket 4 = .ok (.iload_n 1, 1) := da9_dX3_takeFromBucket_0.2.2.1
theorem dX3_takeFromBucket_5 : decode cX3_takeFromBucket 5 = .ok (.iaload, 1) := da9_dX3_takeFromBucket_0.2.2.2.1
theorem dX3_takeFromBucket_6 : decode cX3_takeFromBucket 6 = .ok (.iconst (-1), 1) := da9_dX3_takeFromBucket_0.2.2.2.2.1
theorem dX3_takeFromBucket_7 : decode cX3_takeFromBucket 7 = .ok (.if_icmp .ne 26, 3) := da9_dX3_takeFromBucket_0.2.2.2.2.2.1
theorem dX3_takeFromBucket_10 : decode cX3_takeFromBucket 10 = .ok (.aload_n 0, 1) := da9_dX3_takeFromBucket_0.2.2.2.2.2.2.1
theorem dX3_takeFromBucket_11 : decode cX3_takeFromBucket 11 = .ok (.getfield 27, 3) := da9_dX3_takeFromBucket_0.2.2.2.2.2.2.2.1
theorem dX3_takeFromBucket_14 : decode cX3_takeFromBucket 14 = .ok (.aload_n 0, 1) := da9_dX3_takeFromBucket_0.2.2.2.2.2.2.2.2.1
theorem dX3_takeFromBucket_15 : decode cX3_takeFromBucket 15 = .ok (.getfield 42, 3) := da9_dX3_takeFromBucket_0.2.2.2.2.2.2.2.2.2.1
theorem dX3_takeFromBucket_18 : decode cX3_takeFromBucket 18 = .ok (.iload_n 1, 1) := da9_dX3_takeFromBucket_0.2.2.2.2.2.2.2.2.2.2.1
theorem dX3_takeFromBucket_19 : decode cX3_takeFromBucket 19 = .ok (.iaload, 1) := da9_dX3_takeFromBucket_0.2.2.2.2.2.2.2.2.2.2.2.1
theorem dX3_takeFromBucket_20 : decode cX3_takeFromBucket 20 = .ok (.bipush 100, 2) := da9_dX3_takeFromBucket_0.2.2.2.2.2.2.2.2.2.2.2.2.1
theorem dX3_takeFromBucket_22 : decode cX3_takeFromBucket 22 = .ok (.irem, 1) := da9_dX3_takeFromBucket_0.2.2.2.2.2.2.2.2.2.2.2.2.2.1
theorem dX3_takeFromBucket_23 : decode cX3_takeFromBucket 23 = .ok (.aload_n 0, 1) := da9_dX3_takeFromBucket_0.2.2.2.2.2.2.2.2.2.2.2.2.2.2.1
theorem dX3_takeFromBucket_24 : decode cX3_takeFromBucket 24 = .ok (.getfield 45, 3) := da9_dX3_takeFromBucket_0.2.2.2.2.2.2.2.2.2.2.2.2.2.2.2
theorem da9_dX3_takeFromBucket_27 : (decode cX3_takeFromBucket 27 = .ok (.iload_n 1, 1)) ∧ (decode cX3_takeFromBucket 28 = .ok (.iaload, 1)) ∧ (decode cX3_takeFromBucket 29 = .ok (.iastore, 1)) ∧ (decode cX3_takeFromBucket 30 = .ok (.goto 20, 3)) ∧ (decode cX3_takeFromBucket 33 = .ok (.aload_n 0, 1)) ∧ (decode cX3_takeFromBucket 34 = .ok (.getfield 45, 3)) ∧ (decode cX3_takeFromBucket 37 = .ok (.aload_n 0, 1)) ∧ (decode cX3_takeFromBucket 38 = .ok (.getfield 48, 3)) ∧ (decode cX3_takeFromBucket 41 = .ok (.iload_n 1, 1)) ∧ (decode cX3_takeFromBucket 42 = .ok (.iaload, 1)) ∧ (decode cX3_takeFromBucket 43 = .ok (.aload_n 0, 1)) ∧ (decode cX3_takeFromBucket 44 = .ok (.getfield 45, 3)) ∧ (decode cX3_takeFromBucket 47 = .ok (.iload_n 1, 1)) ∧ (decode cX3_takeFromBucket 48 = .ok (.iaload, 1)) ∧ (decode cX3_takeFromBucket 49 = .ok (.iastore, 1)) ∧ (decode cX3_takeFromBucket 50 = .ok (.aload_n 0, 1)) := by decide +kernel
theorem dX3_takeFromBucket_27 : decode cX3_takeFromBucket 27 = .ok (.iload_n 1, 1) := da9_dX3_takeFromBucket_27.1
theorem dX3_takeFromBucket_28 : decode cX3_takeFromBucket 28 = .ok (.iaload, 1) := da9_dX3_takeFromBucket_27.2.1
theorem dX3_takeFromBucket_29 : decode cX3_takeFromBucket 29 = .ok (.iastore, 1) := da9_dX3_takeFromBucket_27.2.2.1
theorem dX3_takeFromBucket_30 : decode cX3_takeFromBucket 30 = .ok (.goto 20, 3) := da9_dX3_takeFromBucket_27.2.2.2.1
theorem dX3_takeFromBucket_33 : decode cX3_takeFromBucket 33 = .ok (.aload_n 0, 1) := da9_dX3_takeFromBucket_27.2.2.2.2.1
theorem dX3_takeFromBucket_34 : decode cX3_takeFromBucket 34 = .ok (.getfield 45, 3) := da9_dX3_takeFromBucket_27.2.2.2.2.2.1
theorem dX3_takeFromBucket_37 : decode cX3_takeFromBucket 37 = .ok (.aload_n 0, 1) := da9_dX3_takeFromBucket_27.2.2.2.2.2.2.1
theorem dX3_takeFromBucket_38 : decode cX3_takeFromBucket 38 = .ok (.getfield 48, 3) := da9_dX3_takeFromBucket_27.2.2.2.2.2.2.2.1
theorem dX3_takeFromBucket_41 : decode cX3_takeFromBucket 41 = .ok (.iload_n 1, 1) := da9_dX3_takeFromBucket_27.2.2.2.2.2.2.2.2.1
theorem dX3_takeFromBucket_42 : decode cX3_takeFromBucket 42 = .ok (.iaload, 1) := da9_dX3_takeFromBucket_27.2.2.2.2.2.2.2.2.2.1
theorem dX3_takeFromBucket_43 : decode cX3_takeFromBucket 43 = .ok (.aload_n 0, 1) := da9_dX3_takeFromBucket_27.2.2.2.2.2.2.2.2.2.2.1
theorem dX3_takeFromBucket_44 : decode cX3_takeFromBucket 44 = .ok (.getfield 45, 3) := da9_dX3_takeFromBucket_27.2.2.2.2.2.2.2.2.2.2.2.1
theorem dX3_takeFromBucket_47 : decode cX3_takeFromBucket 47 = .ok (.iload_n 1, 1) := da9_dX3_takeFromBucket_27.2.2.2.2.2.2.2.2.2.2.2.2.1
theorem dX3_takeFromBucket_48 : decode cX3_takeFromBucket 48 = .ok (.iaload, 1) := da9_dX3_takeFromBucket_27.2.2.2.2.2.2.2.2.2.2.2.2.2.1
theorem dX3_takeFromBucket_49 : decode cX3_takeFromBucket 49 = .ok (.iastore, 1) := da9_dX3_takeFromBucket_27.2.2.2.2.2.2.2.2.2.2.2.2.2.2.1
theorem dX3_takeFromBucket_50 : decode cX3_takeFromBucket 50 = .ok (.aload_n 0, 1) := da9_dX3_takeFromBucket_27.2.2.2.2.2.2.2.2.2.2.2.2.2.2.2
theorem da9_dX3_takeFromBucket_51 : (decode cX3_takeFromBucket 51 = .ok (.getfield 45, 3)) ∧ (decode cX3_takeFromBucket 54 = .ok (.iload_n 1, 1)) ∧ (decode cX3_takeFromBucket 55 = .ok (.iaload, 1)) ∧ (decode cX3_takeFromBucket 56 = .ok (.iconst (-1), 1)) ∧ (decode cX3_takeFromBucket 57 = .ok (.if_icmp .eq 20, 3)) ∧ (decode cX3_takeFromBucket 60 = .ok (.aload_n 0, 1)) ∧ (decode cX3_takeFromBucket 61 = .ok (.getfield 48, 3)) ∧ (decode cX3_takeFromBucket 64 = .ok (.aload_n 0, 1)) ∧ (decode cX3_takeFromBucket 65 = .ok (.getfield 45, 3)) ∧ (decode cX3_takeFromBucket 68 = .ok (.iload_n 1, 1)) ∧ (decode cX3_takeFromBucket 69 = .ok (.iaload, 1)) ∧ (decode cX3_takeFromBucket 70 = .ok (.aload_n 0, 1)) ∧ (decode cX3_takeFromBucket 71 = .ok (.getfield 48, 3)) ∧ (decode cX3_takeFromBucket 74 = .ok (.iload_n 1, 1)) ∧ (decode cX3_takeFromBucket 75 = .ok (.iaload, 1)) ∧ (decode cX3_takeFromBucket 76 = .ok (.iastore, 1)) := by decide +kernel
theorem dX3_takeFromBucket_51 : decode cX3_takeFromBucket 51 = .ok (.getfield 45, 3) := da9_dX3_takeFromBucket_51.1
theorem dX3_takeFromBucket_54 : decode cX3_takeFromBucket 54 = .ok (.iload_n 1, 1) := da9_dX3_takeFromBucket_51.2.1
theorem dX3_takeFromBucket_55 : decode cX3_takeFromBucket 55 = .ok (.iaload, 1) := da9_dX3_takeFromBucket_51.2.2.1
theorem dX3_takeFromBucket_56 : decode cX3_takeFromBucket 56 = .ok (.iconst (-1), 1) := da9_dX3_takeFromBucket_51.2.2.2.1
theorem dX3_takeFromBucket_57 : decode cX3_takeFromBucket 57 = .ok (.if_icmp .eq 20, 3) := da9_dX3_takeFromBucket_51.2.2.2.2.1
theorem dX3_takeFromBucket_60 : decode cX3_takeFromBucket 60 = .ok (.aload_n 0, 1) := da9_dX3_takeFromBucket_51.2.2.2.2.2.1
theorem dX3_takeFromBucket_61 : decode cX3_takeFromBucket 61 = .ok (.getfield 48, 3) := da9_dX3_takeFromBucket_51.2.2.2.2.2.2.1
theorem dX3_takeFromBucket_64 : decode cX3_takeFromBucket 64 = .ok (.aload_n 0, 1) := da9_dX3_takeFromBucket_51.2.2.2.2.2.2.2.1
theorem dX3_takeFromBucket_65 : decode cX3_takeFromBucket 65 = .ok (.getfield 45, 3) := da9_dX3_takeFromBucket_51.2.2.2.2.2.2.2.2.1
theorem dX3_takeFromBucket_68 : decode cX3_takeFromBucket 68 = .ok (.iload_n 1, 1) := da9_dX3_takeFromBucket_51.2.2.2.2.2.2.2.2.2.1
theorem dX3_takeFromBucket_69 : decode cX3_takeFromBucket 69 = .ok (.iaload, 1) := da9_dX3_takeFromBucket_51.2.2.2.2.2.2.2.2.2.2.1
theorem dX3_takeFromBucket_70 : decode cX3_takeFromBucket 70 = .ok (.aload_n 0, 1) := da9_dX3_takeFromBucket_51.2.2.2.2.2.2.2.2.2.2.2.1
theorem dX3_takeFromBucket_71 : decode cX3_takeFromBucket 71 = .ok (.getfield 48, 3) := da9_dX3_takeFromBucket_51.2.2.2.2.2.2.2.2.2.2.2.2.1
theorem dX3_takeFromBucket_74 : decode cX3_takeFromBucket 74 = .ok (.iload_n 1, 1) := da9_dX3_takeFromBucket_51.2.2.2.2.2.2.2.2.2.2.2.2.2.1
theorem dX3_takeFromBucket_75 : decode cX3_takeFromBucket 75 = .ok (.iaload, 1) := da9_dX3_takeFromBucket_51.2.2.2.2.2.2.2.2.2.2.2.2.2.2.1
theorem dX3_takeFromBucket_76 : decode cX3_takeFromBucket 76 = .ok (.iastore, 1) := da9_dX3_takeFromBucket_51.2.2.2.2.2.2.2.2.2.2.2.2.2.2.2
theorem dX3_takeFromBucket_77 : decode cX3_takeFromBucket 77 = .ok (.return_, 1) := by decide +kernel
theorem da9_dX3_askCases_12 : (decode cX3_askCases 12 = .ok (.aload_n 0, 1)) ∧ (decode cX3_askCases 13 = .ok (.getfield 21, 3)) := by decide +kernel
theorem dX3_askCases_12 : decode cX3_askCases 12 = .ok (.aload_n 0, 1) := da9_dX3_askCases_12.1
theorem dX3_askCases_13 : decode cX3_askCases 13 = .ok (.getfield 21, 3) := da9_dX3_askCases_12.2
end
