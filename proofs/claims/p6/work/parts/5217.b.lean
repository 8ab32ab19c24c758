theorem u9_wsX3_lay_X3 : ∀ w ∈ u_ws RX3 TX3 20, w ∈ wsX3_lay := by
  first | exact fun w h => List.mem_cons_of_mem _ (List.mem_append_right _ h) | decide +kernel
theorem u9_wsX3_lay_X8 : ∀ w ∈ u_ws RX8 TX8 5, w ∈ wsX3_lay := by
  first | exact fun w h => List.mem_cons_of_mem _ (List.mem_append_right _ h) | decide +kernel
theorem f9_wsX3_lay_750 : (Cond.fieldLink RX3 51 "TurnedFloors$Paper" "floors" "I") ∈ wsX3_lay := by decide +kernel
theorem f9_wsX3_lay_751 : (Cond.fieldLink RX3 55 "TurnedFloors$Paper" "size" "I") ∈ wsX3_lay := by decide +kernel
theorem f9_wsX3_lay_752 : (Cond.methodLink RX3 100 Lib.Math.min.name) ∈ wsX3_lay := by decide +kernel
theorem f9_wsX3_lay_753 : (Cond.static Lib.Math.min.name) ∈ wsX3_lay := by decide +kernel
theorem f9_wsX3_lay_754 : (Cond.initialized "java/lang/Math") ∈ wsX3_lay := by decide +kernel
theorem f9_wsX3_lay_755 : (Cond.code Lib.Math.min.name Lib.Math.min.code 2 (some .int)) ∈ wsX3_lay := by decide +kernel
theorem f9_wsX3_lay_756 : (Cond.fieldLink RX3 58 "TurnedFloors$Paper" "start" "I") ∈ wsX3_lay := by decide +kernel
theorem f9_wsX3_lay_757 : (Cond.fieldLink RX3 15 "TurnedFloors$Paper" "digits" "[I") ∈ wsX3_lay := by decide +kernel
theorem f9_wsX3_lay_758 : (Cond.fieldLink RX3 9 "TurnedFloors$Paper" "ranks" "[I") ∈ wsX3_lay := by decide +kernel
theorem f9_wsX3_lay_759 : (Cond.fieldLink RX3 61 "TurnedFloors$Paper" "headsMatter" "I") ∈ wsX3_lay := by decide +kernel
theorem f9_wsX3_lay_760 : (Cond.fieldLink RX3 76 "TurnedFloors$Paper" "FACTORIALS" "[I") ∈ wsX3_lay := by decide +kernel
theorem f9_wsX3_lay_761 : (Cond.fieldLink RX3 39 "TurnedFloors$Paper" "toOrder" "[I") ∈ wsX3_lay := by decide +kernel
theorem u9_wsX9_spread_X9 : ∀ w ∈ u_ws RX9 TX9 19, w ∈ wsX9_spread := by
  first | exact fun w h => List.mem_cons_of_mem _ (List.mem_append_right _ h) | decide +kernel
theorem u9_wsX9_spread_X6 : ∀ w ∈ u_ws RX6 TX6 10, w ∈ wsX9_spread := by
  first | exact fun w h => List.mem_cons_of_mem _ (List.mem_append_right _ h) | decide +kernel
theorem f9_wsX9_spread_764 : (Cond.fieldLink RX9 80 "TurnedFloors" "paper" "LTurnedFloors$Paper;") ∈ wsX9_spread := by decide +kernel
theorem f9_wsX9_spread_765 : (Cond.fieldLink RX9 10 "TurnedFloors" "state" "LTurnedFloors$State;") ∈ wsX9_spread := by decide +kernel
theorem u9_wsX3_sameBars_X3 : ∀ w ∈ u_ws RX3 TX3 20, w ∈ wsX3_sameBars := by
  first | exact fun w h => List.mem_cons_of_mem _ (List.mem_append_right _ h) | decide +kernel
theorem f9_wsX3_sameBars_767 : (Cond.fieldLink RX3 18 "TurnedFloors$Paper" "barred" "[I") ∈ wsX3_sameBars := by decide +kernel
theorem f9_wsX3_sameBars_768 : (Cond.fieldLink RX3 24 "TurnedFloors$Paper" "measuredBarred" "[I") ∈ wsX3_sameBars := by decide +kernel
theorem u9_wsX3_isOrdered_X3 : ∀ w ∈ u_ws RX3 TX3 20, w ∈ wsX3_isOrdered := by
  first | exact fun w h => List.mem_cons_of_mem _ (List.mem_append_right _ h) | decide +kernel
theorem f9_wsX3_isOrdered_770 : (Cond.fieldLink RX3 61 "TurnedFloors$Paper" "headsMatter" "I") ∈ wsX3_isOrdered := by decide +kernel
theorem f9_wsX3_isOrdered_771 : (Cond.fieldLink RX3 51 "TurnedFloors$Paper" "floors" "I") ∈ wsX3_isOrdered := by decide +kernel
theorem u9_wsX3_turned_X3 : ∀ w ∈ u_ws RX3 TX3 20, w ∈ wsX3_turned := by
  first | exact fun w h => List.mem_cons_of_mem _ (List.mem_append_right _ h) | decide +kernel
theorem f9_wsX3_turned_773 : (Cond.fieldLink RX3 51 "TurnedFloors$Paper" "floors" "I") ∈ wsX3_turned := by decide +kernel
theorem f9_wsX3_turned_774 : (Cond.fieldLink RX3 33 "TurnedFloors$Paper" "turnedOrders" "[I") ∈ wsX3_turned := by decide +kernel
theorem f9_wsX3_turned_775 : (Cond.fieldLink RX3 36 "TurnedFloors$Paper" "turnedHeads" "[I") ∈ wsX3_turned := by decide +kernel
theorem f9_wsX3_turned_776 : (Cond.fieldLink RX3 55 "TurnedFloors$Paper" "size" "I") ∈ wsX3_turned := by decide +kernel
theorem u9_wsX3_caseOf_X3 : ∀ w ∈ u_ws RX3 TX3 20, w ∈ wsX3_caseOf := by
  first | exact fun w h => List.mem_cons_of_mem _ (List.mem_append_right _ h) | decide +kernel
theorem f9_wsX3_caseOf_778 : (Cond.fieldLink RX3 30 "TurnedFloors$Paper" "orders" "[I") ∈ wsX3_caseOf := by decide +kernel
theorem f9_wsX3_caseOf_779 : (Cond.fieldLink RX3 51 "TurnedFloors$Paper" "floors" "I") ∈ wsX3_caseOf := by decide +kernel
set_option maxHeartbeats 4000000 in
set_option maxRecDepth 100000 in
theorem WX3_lay_s32_s2_s20_163 {p : Program} {l : Launch} {e : Env} {s : State} {m : MethodId} {args : Array Value} {below : List Frame} {meth : Method} {c : Code} {D : va_G} {ty : Nat → ClassId} {eo : Nat → Nat} {A : Nat → Prop} {ad : Nat → Nat} {o2 : dK} {nc ns : Nat} {ad0 : Nat → Nat} (hag : dAg ad0 ad) (C : dc_C p s m args meth c cX3_lay none 7 RX3 wsX3_lay D ty eo A) {k99 : dK → Int32 → Int32 → Option (dK)} (hk99 : ∀ (q : dK) (x5 : Int32) (x6 : Int32) (H : Heap) (locs : List Loc) (ls : Array Slot), k99 q x5 x6 = some o2 → va_P D vwCl (wF ty ad q) H → va_D A (wF ty ad q) → va_S A s.heap H locs → lv_has ls 7 [(0, .ref (ad 32)), (1, .ref (ad 2)), (2, .ref (ad 20)), (5, .int x5), (6, .int x6)] → W p l e ({ frames := 4, cells := nc, slots := ns, locals := 113 } : Room) s m args below meth c H locs nc ns (MQ below (va_Qv (fun (u : va_W) => ∃ ad9 : Nat → Nat, dAg ad0 ad9 ∧ wF ty ad9 o2 = u) (kz_B D ty A) A) args s nc ns A) (F0 m 99 ls [])) (q : dK) (x6 : Int32) (y0 : Int32) (y1 : Int32) (H : Heap) (locs : List Loc) (ls : Array Slot) (h : zX3_lay_s32_s2_s20_163 nc ns k99 q x6 y0 y1 = some o2) (hP : va_P D vwCl (wF ty ad q) H) (hD : va_D A (wF ty ad q)) (hS : va_S A s.heap H locs) (hl : lv_has ls 7 [(0, .ref (ad 32)), (1, .ref (ad 2)), (2, .ref (ad 20)), (6, .int x6)]) : W p l e ({ frames := 4, cells := nc, slots := ns, locals := 113 } : Room) s m args below meth c H locs nc ns (MQ below (va_Qv (fun (u : va_W) => ∃ ad9 : Nat → Nat, dAg ad0 ad9 ∧ wF ty ad9 o2 = u) (kz_B D ty A) A) args s nc ns A) (F0 m 163 ls [.int y0, .int y1]) := by
  have C0 := C
  obtain ⟨hx, hb, hr, hts, hown, hlocks, hml, hK, hN, hE, hA⟩ := C
  unfold zX3_lay_s32_s2_s20_163 at h
  refine lv_ior hx hb dX3_lay_163 ?_
  refine lv_istore (lv' := [(5, .int (y1 ||| y0)), (0, .ref (ad 32)), (1, .ref (ad 2)), (2, .ref (ad 20)), (6, .int x6)]) hx hb dX3_lay_164 hl (by decide) rfl (fun ls hl => ?_)
  refine lv_iinc (v := x6 + 1) (lv' := [(6, .int (x6 + 1)), (5, .int (y1 ||| y0)), (0, .ref (ad 32)), (1, .ref (ad 2)), (2, .ref (ad 20))]) hx hb dX3_lay_166 hl (k := 4) rfl rfl (by decide) rfl (fun ls hl => ?_)
  refine lv_goto (tgt := 99) hx hb dX3_lay_169 (by decide) ?_
  exact hk99 _ _ _ _ _ _ h hP hD hS (lv_sub hl [2, 3, 4, 1, 0] rfl)
set_option maxHeartbeats 4000000 in
set_option maxRecDepth 100000 in
theorem WX3_lay_s32_s2_s20_137 {p : Program} {l : Launch} {e : Env} {s : State} {m : MethodId} {args : Array Value} {below : List Frame} {meth : Method} {c : Code} {D : va_G} {ty : Nat → ClassId} {eo : Nat → Nat} {A : Nat → Prop} {ad : Nat → Nat} {o2 : dK} {nc ns : Nat} {ad0 : Nat → Nat} (hag : dAg ad0 ad) (C : dc_C p s m args meth c cX3_lay none 7 RX3 wsX3_lay D ty eo A) {k99 : dK → Int32 → Int32 → Option (dK)} (hk99 : ∀ (q : dK) (x5 : Int32) (x6 : Int32) (H : Heap) (locs : List Loc) (ls : Array Slot), k99 q x5 x6 = some o2 → va_P D vwCl (wF ty ad q) H → va_D A (wF ty ad q) → va_S A s.heap H locs → lv_has ls 7 [(0, .ref (ad 32)), (1, .ref (ad 2)), (2, .ref (ad 20)), (5, .int x5), (6, .int x6)] → W p l e ({ frames := 4, cells := nc, slots := ns, locals := 113 } : Room) s m args below meth c H locs nc ns (MQ below (va_Qv (fun (u : va_W) => ∃ ad9 : Nat → Nat, dAg ad0 ad9 ∧ wF ty ad9 o2 = u) (kz_B D ty A) A) args s nc ns A) (F0 m 99 ls [])) (q : dK) (x5 : Int32) (x6 : Int32) (y0 : Int32) (y1 : Int32) (H : Heap) (locs : List Loc) (ls : Array Slot) (h : zX3_lay_s32_s2_s20_137 nc ns k99 q x5 x6 y0 y1 = some o2) (hP : va_P D vwCl (wF ty ad q) H) (hD : va_D A (wF ty ad q)) (hS : va_S A s.heap H locs) (hl : lv_has ls 7 [(0, .ref (ad 32)), (1, .ref (ad 2)), (2, .ref (ad 20)), (5, .int x5), (6, .int x6)]) : W p l e ({ frames := 4, cells := nc, slots := ns, locals := 113 } : Room) s m args below meth c H locs nc ns (MQ below (va_Qv (fun (u : va_W) => ∃ ad9 : Nat → Nat, dAg ad0 ad9 ∧ wF ty ad9 o2 = u) (kz_B D ty A) A) args s nc ns A) (F0 m 137 ls [.int y0, .int y1, .ref (ad 34)]) := by
  have C0 := C
  obtain ⟨hx, hb, hr, hts, hown, hlocks, hml, hK, hN, hE, hA⟩ := C
  unfold zX3_lay_s32_s2_s20_137 at h
  obtain ⟨g1, h⟩ := dG_some h
  refine va_iast hx hb hK hP hD hS 34 0 rfl rfl (dg_in g1) dX3_lay_137 (fun H locs hp hd hs => ?_)
  obtain ⟨q2, eq2, h⟩ := dL_some h
  refine kz_re (w2 := wF ty ad q2) hp hd hs (by rw [← eq2]; exact wF_a34 ty ad q (Int32.toNatClampNeg y1) y0) ?_
  clear hp hd hs hP hD hS
  intro hP hD hS
  refine lv_iload hx hb dX3_lay_138 (lv_at hl 3 rfl) ?_
  refine lv_iload hx hb dX3_lay_140 (lv_at hl 4 rfl) ?_
  refine lv_aload_n hx hb dX3_lay_142 rfl (lv_at hl 0 rfl) ?_
  refine va_get (D := D) (ci := 3) (v := .int (q2.1 32 13)) (C := RX3) (T := TX3) (N := 20) hx hb hts u9_wsX3_lay_X3 hown hK hP 32 rfl rfl 13 (by decide) (hts (.fieldLink RX3 51 "TurnedFloors$Paper" "floors" "I") f9_wsX3_lay_750) (fun _ h9 => h9) rfl dX3_lay_143 ?_
  refine lv_icmp_ge (tgt := 162) hx hb dX3_lay_146 (by decide) (fun c9 => ?_) (fun c9 => ?_)
  · rw [if_pos c9] at h
    refine lv_iconst (v := 0) hx hb dX3_lay_162 (by decide) ?_
    exact WX3_lay_s32_s2_s20_163 hag C0 hk99 _ _ _ _ _ _ _ h hP hD hS (lv_sub hl [0, 1, 2, 4] rfl)
  · rw [if_neg c9] at h
    refine lv_aload_n hx hb dX3_lay_149 rfl (lv_at hl 1 rfl) ?_
    refine va_getN (D := D) (ci := 8) (v := .ref (ad 4)) (C := RX8) (T := TX8) (N := 5) hx hb hts u9_wsX3_lay_X8 hown hK hP 2 rfl rfl 1 (by decide) (hN.use (.fieldLinkNest "TurnedFloors$Paper" 93 "TurnedFloors$Tower" "head" "[I" "TurnedFloors") (by decide +kernel)) (fun _ h9 => h9) rfl dX3_lay_150 ?_
    refine lv_iload hx hb dX3_lay_153 (lv_at hl 4 rfl) ?_
    obtain ⟨g3, h⟩ := dG_some h
    refine va_iald hx hb hK hP 4 0 rfl rfl (dg_in g3) dX3_lay_155 ?_
    obtain ⟨v4, ev4, h⟩ := dL_some h
    refine kz_topi v4 ev4 ?_
    refine lv_iload hx hb dX3_lay_156 (lv_at hl 4 rfl) ?_
    refine lv_ishl hx hb dX3_lay_158 ?_
    refine lv_goto (tgt := 163) hx hb dX3_lay_159 (by decide) ?_
    exact WX3_lay_s32_s2_s20_163 hag C0 hk99 _ _ _ _ _ _ _ h hP hD hS (lv_sub hl [0, 1, 2, 4] rfl)
set_option maxHeartbeats 4000000 in
set_option maxRecDepth 100000 in
theorem WX3_lay_s32_s2_s20_99b {p : Program} {l : Launch} {e : Env} {s : State} {m : MethodId} {args : Array Value} {below : List Frame} {meth : Method} {c : Code} {D : va_G} {ty : Nat → ClassId} {eo : Nat → Nat} {A : Nat → Prop} {ad : Nat → Nat} {o2 : dK} {nc ns : Nat} {ad0 : Nat → Nat} (hag : dAg ad0 ad) (C : dc_C p s m args meth c cX3_lay none 7 RX3 wsX3_lay D ty eo A) {k99 : dK → Int32 → Int32 → Option (dK)} (hk99 : ∀ (q : dK) (x5 : Int32) (x6 : Int32) (H : Heap) (locs : List Loc) (ls : Array Slot), k99 q x5 x6 = some o2 → va_P D vwCl (wF ty ad q) H → va_D A (wF ty ad q) → va_S A s.heap H locs → lv_has ls 7 [(0, .ref (ad 32)), (1, .ref (ad 2)), (2, .ref (ad 20)), (5, .int x5), (6, .int x6)] → W p l e ({ frames := 4, cells := nc, slots := ns, locals := 113 } : Room) s m args below meth c H locs nc ns (MQ below (va_Qv (fun (u : va_W) => ∃ ad9 : Nat → Nat, dAg ad0 ad9 ∧ wF ty ad9 o2 = u) (kz_B D ty A) A) args s nc ns A) (F0 m 99 ls [])) (q : dK) (x5 : Int32) (x6 : Int32) (H : Heap) (locs : List Loc) (ls : Array Slot) (h : zX3_lay_s32_s2_s20_99b nc ns k99 q x5 x6 = some o2) (hP : va_P D vwCl (wF ty ad q) H) (hD : va_D A (wF ty ad q)) (hS : va_S A s.heap H locs) (hl : lv_has ls 7 [(0, .ref (ad 32)), (1, .ref (ad 2)), (2, .ref (ad 20)), (5, .int x5), (6, .int x6)]) : W p l e ({ frames := 4, cells := nc, slots := ns, locals := 113 } : Room) s m args below meth c H locs nc ns (MQ below (va_Qv (fun (u : va_W) => ∃ ad9 : Nat → Nat, dAg ad0 ad9 ∧ wF ty ad9 o2 = u) (kz_B D ty A) A) args s nc ns A) (F0 m 99 ls []) := by
  have C0 := C
  obtain ⟨hx, hb, hr, hts, hown, hlocks, hml, hK, hN, hE, hA⟩ := C
  unfold zX3_lay_s32_s2_s20_99b at h
  refine lv_iload hx hb dX3_lay_99 (lv_at hl 4 rfl) ?_
  refine lv_bipush (v := 6) hx hb dX3_lay_101 (by decide) ?_
  refine lv_icmp_ge (tgt := 172) hx hb dX3_lay_103 (by decide) (fun c9 => ?_) (fun c9 => ?_)
  · rw [if_pos c9] at h
    refine lv_aload_n hx hb dX3_lay_172 rfl (lv_at hl 0 rfl) ?_
    refine lv_aload_n hx hb dX3_lay_173 rfl (lv_at hl 0 rfl) ?_
    refine va_get (D := D) (ci := 3) (v := .int (q.1 32 14)) (C := RX3) (T := TX3) (N := 20) hx hb hts u9_wsX3_lay_X3 hown hK hP 32 rfl rfl 14 (by decide) (hts (.fieldLink RX3 55 "TurnedFloors$Paper" "size" "I") f9_wsX3_lay_751) (fun _ h9 => h9) rfl dX3_lay_174 ?_
    refine lv_iconst (v := 1) hx hb dX3_lay_177 (by decide) ?_
    refine lv_isub hx hb dX3_lay_178 ?_
    refine lv_aload_n hx hb dX3_lay_179 rfl (lv_at hl 0 rfl) ?_
    obtain ⟨r1, q3, h2, h⟩ := dB_some h
    refine dw_ki (va_runV (As := []) (rest := [.int ((q.1 32 14) - 1 : Int32), .ref (ad 32)]) ⟨hx, hb, hml, hown, hts⟩ (qX3_numberOfOrder_s32 l D ty eo _ ad q  r1 q3 h2) (cwV 0 hts gX3_lay_X3_numberOfOrder rfl rfl rfl (by decide +kernel) ⟨Nat.le_of_ble_eq_true rfl, Nat.le_of_ble_eq_true rfl⟩) (dw_preV (ci := 3) (q0 := 32) hK hN hE hP hD hS hA rfl rfl) rfl rfl hl.1 rfl (lv_room (Nat.le_of_ble_eq_true rfl)) dX3_lay_180 ⟨Nat.le_refl _, Nat.le_refl _⟩) hD hS hA (fun r9 u9 H locs hw hp hd hs => ?_)
    clear hP hD hS
    obtain ⟨rfl, rfl⟩ := hw
    have hP := hp; have hD := hd; have hS := hs; clear hp hd hs
    refine lv_aload_n hx hb dX3_lay_183 rfl (lv_at hl 0 rfl) ?_
    refine va_get (D := D) (ci := 3) (v := .int (q3.1 32 13)) (C := RX3) (T := TX3) (N := 20) hx hb hts u9_wsX3_lay_X3 hown hK hP 32 rfl rfl 13 (by decide) (hts (.fieldLink RX3 51 "TurnedFloors$Paper" "floors" "I") f9_wsX3_lay_750) (fun _ h9 => h9) rfl dX3_lay_184 ?_
    refine lv_ishl hx hb dX3_lay_187 ?_
    refine lv_iload hx hb dX3_lay_188 (lv_at hl 3 rfl) ?_
    refine lv_ior hx hb dX3_lay_190 ?_
    refine va_mmin hx hb (hml.trans hl.1.symm) hown (hts (.methodLink RX3 100 Lib.Math.min.name) f9_wsX3_lay_752) (hts (.static Lib.Math.min.name) f9_wsX3_lay_753) (hts (.initialized "java/lang/Math") f9_wsX3_lay_754) (hts (.code Lib.Math.min.name Lib.Math.min.code 2 (some .int)) f9_wsX3_lay_755) (Nat.le_of_ble_eq_true rfl) (Nat.le_of_ble_eq_true rfl) (Nat.le_refl _) (Nat.le_refl _) dX3_lay_191 ?_
    refine kz_topi (mnI ((q.1 32 14) - 1 : Int32) ((r1 <<< ((q3.1 32 13 : Int32) &&& 31)) ||| x5)) rfl ?_
    refine va_put (D := D) (ci := 3) (v := .int (mnI ((q.1 32 14) - 1 : Int32) ((r1 <<< ((q3.1 32 13 : Int32) &&& 31)) ||| x5))) (ty := .int) (C := RX3) (T := TX3) (N := 20) hx hb hts u9_wsX3_lay_X3 tyX3 tyX3_ok nmX3 hown hK hP hD hS 32 rfl rfl 15 (by decide) (hts (.fieldLink RX3 58 "TurnedFloors$Paper" "start" "I") f9_wsX3_lay_756) (fun _ h9 => h9) rfl (by decide +kernel) rfl rfl (Nat.le_of_ble_eq_true rfl) dX3_lay_194 (fun H locs hp hd hs => ?_)
    obtain ⟨q4, eq4, h⟩ := dL_some h
    refine kz_re (w2 := wF ty ad q4) hp hd hs (by rw [← eq4]; exact wF_f32_15 ty ad q3 (mnI ((q.1 32 14) - 1 : Int32) ((r1 <<< ((q3.1 32 13 : Int32) &&& 31)) ||| x5))) ?_
    clear hp hd hs hP hD hS
    intro hP hD hS
    refine lv_aload_n hx hb dX3_lay_197 rfl (lv_at hl 0 rfl) ?_
    refine lv_aload_n hx hb dX3_lay_198 rfl (lv_at hl 2 rfl) ?_
    refine lv_aload_n hx hb dX3_lay_199 rfl (lv_at hl 1 rfl) ?_
    refine va_getN (D := D) (ci := 8) (v := .int (q4.1 2 4)) (C := RX8) (T := TX8) (N := 5) hx hb hts u9_wsX3_lay_X8 hown hK hP 2 rfl rfl 4 (by decide) (hN.use (.fieldLinkNest "TurnedFloors$Paper" 106 "TurnedFloors$Tower" "year" "I" "TurnedFloors") (by decide +kernel)) (fun _ h9 => h9) rfl dX3_lay_200 ?_
    refine lv_iconst (v := 1) hx hb dX3_lay_203 (by decide) ?_
    obtain ⟨q7, h6, h⟩ := dV_some h
    refine dw_kv (va_runV (As := [.ref (ad 20), .int (q4.1 2 4), .int 1]) (rest := []) ⟨hx, hb, hml, hown, hts⟩ (qX3_askCases_s32_s20_c1 l D ty eo _ ad q4 (q4.1 2 4) q7 h6) (cwV 3 hts gX3_lay_X3_askCases rfl rfl rfl (by decide +kernel) ⟨Nat.le_of_ble_eq_true rfl, Nat.le_of_ble_eq_true rfl⟩) (dw_preV (ci := 3) (q0 := 32) hK hN hE hP hD hS hA rfl rfl) rfl rfl hl.1 rfl (lv_room (Nat.le_of_ble_eq_true rfl)) dX3_lay_204 ⟨Nat.le_refl _, Nat.le_refl _⟩) hD hS hA (fun u9 H locs hw hp hd hs => ?_)
    clear hP hD hS
    obtain rfl := hw
    have hP := hp; have hD := hd; have hS := hs; clear hp hd hs
    cases h
    exact kz_vret hx hb hr hlocks hP hK hD hS dX3_lay_207 ⟨ad, hag, rfl⟩
  · rw [if_neg c9] at h
    refine lv_aload_n hx hb dX3_lay_106 rfl (lv_at hl 0 rfl) ?_
    refine va_get (D := D) (ci := 3) (v := .ref (ad 34)) (C := RX3) (T := TX3) (N := 20) hx hb hts u9_wsX3_lay_X3 hown hK hP 32 rfl rfl 1 (by decide) (hts (.fieldLink RX3 15 "TurnedFloors$Paper" "digits" "[I") f9_wsX3_lay_757) (fun _ h9 => h9) rfl dX3_lay_107 ?_
    refine lv_iload hx hb dX3_lay_110 (lv_at hl 4 rfl) ?_
    refine lv_iload hx hb dX3_lay_112 (lv_at hl 4 rfl) ?_
    refine lv_aload_n hx hb dX3_lay_114 rfl (lv_at hl 0 rfl) ?_
    refine va_get (D := D) (ci := 3) (v := .int (q.1 32 13)) (C := RX3) (T := TX3) (N := 20) hx hb hts u9_wsX3_lay_X3 hown hK hP 32 rfl rfl 13 (by decide) (hts (.fieldLink RX3 51 "TurnedFloors$Paper" "floors" "I") f9_wsX3_lay_750) (fun _ h9 => h9) rfl dX3_lay_115 ?_
    refine lv_icmp_ge (tgt := 135) hx hb dX3_lay_118 (by decide) (fun c9 => ?_) (fun c9 => ?_)
    · rw [if_pos c9] at h
      refine lv_iload hx hb dX3_lay_135 (lv_at hl 4 rfl) ?_
      exact WX3_lay_s32_s2_s20_137 hag C0 hk99 _ _ _ _ _ _ _ _ h hP hD hS (lv_sub hl [0, 1, 2, 3, 4] rfl)
    · rw [if_neg c9] at h
      refine lv_aload_n hx hb dX3_lay_121 rfl (lv_at hl 0 rfl) ?_
      refine lv_aload_n hx hb dX3_lay_122 rfl (lv_at hl 1 rfl) ?_
      refine va_getN (D := D) (ci := 8) (v := .ref (ad 3)) (C := RX8) (T := TX8) (N := 5) hx hb hts u9_wsX3_lay_X8 hown hK hP 2 rfl rfl 0 (by decide) (hN.use (.fieldLinkNest "TurnedFloors$Paper" 86 "TurnedFloors$Tower" "rank" "[I" "TurnedFloors") (by decide +kernel)) (fun _ h9 => h9) rfl dX3_lay_123 ?_
      refine lv_iload hx hb dX3_lay_126 (lv_at hl 4 rfl) ?_
      obtain ⟨g8, h⟩ := dG_some h
      refine va_iald hx hb hK hP 3 0 rfl rfl (dg_in g8) dX3_lay_128 ?_
      obtain ⟨v9, ev9, h⟩ := dL_some h
      refine kz_topi v9 ev9 ?_
      obtain ⟨r10, q12, h11, h⟩ := dB_some h
      refine dw_ki (va_runV (As := [.int v9]) (rest := [.int x6, .ref (ad 34)]) ⟨hx, hb, hml, hown, hts⟩ (qX3_indexOfRank_s32 l D ty eo _ ad q v9 r10 q12 h11) (cwV 1 hts gX3_lay_X3_indexOfRank rfl rfl rfl (by decide +kernel) ⟨Nat.le_of_ble_eq_true rfl, Nat.le_of_ble_eq_true rfl⟩) (dw_preV (ci := 3) (q0 := 32) hK hN hE hP hD hS hA rfl rfl) rfl rfl hl.1 rfl (lv_room (Nat.le_of_ble_eq_true rfl)) dX3_lay_129 ⟨Nat.le_refl _, Nat.le_refl _⟩) hD hS hA (fun r9 u9 H locs hw hp hd hs => ?_)
      clear hP hD hS
      obtain ⟨rfl, rfl⟩ := hw
      have hP := hp; have hD := hd; have hS := hs; clear hp hd hs
      refine lv_goto (tgt := 137) hx hb dX3_lay_132 (by decide) ?_
      exact WX3_lay_s32_s2_s20_137 hag C0 hk99 _ _ _ _ _ _ _ _ h hP hD hS (lv_sub hl [0, 1, 2, 3, 4] rfl)
set_option maxHeartbeats 4000000 in
set_option maxRecDepth 100000 in
theorem WX3_lay_s32_s2_s20_99 {p : Program} {l : Launch} {e : Env} {s : State} {m : MethodId} {args : Array Value} {below : List Frame} {meth : Method} {c : Code} {D : va_G} {ty : Nat → ClassId} {eo : Nat → Nat} {A : Nat → Prop} {ad : Nat → Nat} {o2 : dK} {nc ns : Nat} {ad0 : Nat → Nat} (hag : dAg ad0 ad) (C : dc_C p s m args meth c cX3_lay none 7 RX3 wsX3_lay D ty eo A)   (n : Nat) (q : dK) (x5 : Int32) (x6 : Int32) (H : Heap) (locs : List Loc) (ls : Array Slot) (h : zX3_lay_s32_s2_s20_99 nc ns  n q x5 x6 = some o2) (hP : va_P D vwCl (wF ty ad q) H) (hD : va_D A (wF ty ad q)) (hS : va_S A s.heap H locs) (hl : lv_has ls 7 [(0, .ref (ad 32)), (1, .ref (ad 2)), (2, .ref (ad 20)), (5, .int x5), (6, .int x6)]) : W p l e ({ frames := 4, cells := nc, slots := ns, locals := 113 } : Room) s m args below meth c H locs nc ns (MQ below (va_Qv (fun (u : va_W) => ∃ ad9 : Nat → Nat, dAg ad0 ad9 ∧ wF ty ad9 o2 = u) (kz_B D ty A) A) args s nc ns A) (F0 m 99 ls []) := by
  exact dFix_W (F := fun k (a : dK × Int32 × Int32) => zX3_lay_s32_s2_s20_99b nc ns  (fun q x5 x6 => k (q, x5, x6)) a.1 a.2.1 a.2.2) (o := o2) (P := fun (a : dK × Int32 × Int32) H locs ls => va_P D vwCl (wF ty ad a.1) H ∧ va_D A (wF ty ad a.1) ∧ va_S A s.heap H locs ∧ lv_has ls 7 [(0, .ref (ad 32)), (1, .ref (ad 2)), (2, .ref (ad 20)), (5, .int a.2.1), (6, .int a.2.2)]) (G := fun H locs ls => W p l e ({ frames := 4, cells := nc, slots := ns, locals := 113 } : Room) s m args below meth c H locs nc ns (MQ below (va_Qv (fun (u : va_W) => ∃ ad9 : Nat → Nat, dAg ad0 ad9 ∧ wF ty ad9 o2 = u) (kz_B D ty A) A) args s nc ns A) (F0 m 99 ls []))
    (fun k hk a H locs ls h hp => WX3_lay_s32_s2_s20_99b hag C  (fun q x5 x6 H locs ls h h1 h2 h3 h4 => hk (q, x5, x6) H locs ls h ⟨h1, h2, h3, h4⟩) a.1 a.2.1 a.2.2 H locs ls h hp.1 hp.2.1 hp.2.2.1 hp.2.2.2) n (q, x5, x6) H locs ls h ⟨hP, hD, hS, hl⟩
set_option maxHeartbeats 4000000 in
set_option maxRecDepth 100000 in
theorem WX3_lay_s32_s2_s20_87 {p : Program} {l : Launch} {e : Env} {s : State} {m : MethodId} {args : Array Value} {below : List Frame} {meth : Method} {c : Code} {D : va_G} {ty : Nat → ClassId} {eo : Nat → Nat} {A : Nat → Prop} {ad : Nat → Nat} {o2 : dK} {nc ns : Nat} {ad0 : Nat → Nat} (hag : dAg ad0 ad) (C : dc_C p s m args meth c cX3_lay none 7 RX3 wsX3_lay D ty eo A) {k52 : dK → Int32 → Int32 → Option (dK)} (hk52 : ∀ (q : dK) (x4 : Int32) (x5 : Int32) (H : Heap) (locs : List Loc) (ls : Array Slot), k52 q x4 x5 = some o2 → va_P D vwCl (wF ty ad q) H → va_D A (wF ty ad q) → va_S A s.heap H locs → lv_has ls 7 [(0, .ref (ad 32)), (1, .ref (ad 2)), (2, .ref (ad 20)), (4, .int x4), (5, .int x5)] → W p l e ({ frames := 4, cells := nc, slots := ns, locals := 113 } : Room) s m args below meth c H locs nc ns (MQ below (va_Qv (fun (u : va_W) => ∃ ad9 : Nat → Nat, dAg ad0 ad9 ∧ wF ty ad9 o2 = u) (kz_B D ty A) A) args s nc ns A) (F0 m 52 ls [])) (q : dK) (x4 : Int32) (x5 : Int32) (H : Heap) (locs : List Loc) (ls : Array Slot) (h : zX3_lay_s32_s2_s20_87 nc ns k52 q x4 x5 = some o2) (hP : va_P D vwCl (wF ty ad q) H) (hD : va_D A (wF ty ad q)) (hS : va_S A s.heap H locs) (hl : lv_has ls 7 [(0, .ref (ad 32)), (1, .ref (ad 2)), (2, .ref (ad 20)), (4, .int x4), (5, .int x5)]) : W p l e ({ frames := 4, cells := nc, slots := ns, locals := 113 } : Room) s m args below meth c H locs nc ns (MQ below (va_Qv (fun (u : va_W) => ∃ ad9 : Nat → Nat, dAg ad0 ad9 ∧ wF ty ad9 o2 = u) (kz_B D ty A) A) args s nc ns A) (F0 m 87 ls []) := by
  have C0 := C
  obtain ⟨hx, hb, hr, hts, hown, hlocks, hml, hK, hN, hE, hA⟩ := C
  unfold zX3_lay_s32_s2_s20_87 at h
  refine lv_iinc (v := x5 + 1) (lv' := [(5, .int (x5 + 1)), (0, .ref (ad 32)), (1, .ref (ad 2)), (2, .ref (ad 20)), (4, .int x4)]) hx hb dX3_lay_87 hl (k := 4) rfl rfl (by decide) rfl (fun ls hl => ?_)
  refine lv_goto (tgt := 52) hx hb dX3_lay_90 (by decide) ?_
  exact hk52 _ _ _ _ _ _ h hP hD hS (lv_sub hl [1, 2, 3, 4, 0] rfl)
set_option maxHeartbeats 4000000 in
set_option maxRecDepth 100000 in
theorem WX3_lay_s32_s2_s20_52b {p : Program} {l : Launch} {e : Env} {s : State} {m : MethodId} {args : Array Value} {below : List Frame} {meth : Method} {c : Code} {D : va_G} {ty : Nat → ClassId} {eo : Nat → Nat} {A : Nat → Prop} {ad : Nat → Nat} {o2 : dK} {nc ns : Nat} {ad0 : Nat → Nat} (hag : dAg ad0 ad) (C : dc_C p s m args meth c cX3_lay none 7 RX3 wsX3_lay D ty eo A) {k52 : dK → Int32 → Int32 → Option (dK)} (hk52 : ∀ (q : dK) (x4 : Int32) (x5 : Int32) (H : Heap) (locs : List Loc) (ls : Array Slot), k52 q x4 x5 = some o2 → va_P D vwCl (wF ty ad q) H → va_D A (wF ty ad q) → va_S A s.heap H locs → lv_has ls 7 [(0, .ref (ad 32)), (1, .ref (ad 2)), (2, .ref (ad 20)), (4, .int x4), (5, .int x5)] → W p l e ({ frames := 4, cells := nc, slots := ns, locals := 113 } : Room) s m args below meth c H locs nc ns (MQ below (va_Qv (fun (u : va_W) => ∃ ad9 : Nat → Nat, dAg ad0 ad9 ∧ wF ty ad9 o2 = u) (kz_B D ty A) A) args s nc ns A) (F0 m 52 ls [])) (q : dK) (x4 : Int32) (x5 : Int32) (H : Heap) (locs : List Loc) (ls : Array Slot) (h : zX3_lay_s32_s2_s20_52b nc ns k52 q x4 x5 = some o2) (hP : va_P D vwCl (wF ty ad q) H) (hD : va_D A (wF ty ad q)) (hS : va_S A s.heap H locs) (hl : lv_has ls 7 [(0, .ref (ad 32)), (1, .ref (ad 2)), (2, .ref (ad 20)), (4, .int x4), (5, .int x5)]) : W p l e ({ frames := 4, cells := nc, slots := ns, locals := 113 } : Room) s m args below meth c H locs nc ns (MQ below (va_Qv (fun (u : va_W) => ∃ ad9 : Nat → Nat, dAg ad0 ad9 ∧ wF ty ad9 o2 = u) (kz_B D ty A) A) args s nc ns A) (F0 m 52 ls []) := by
  have C0 := C
  obtain ⟨hx, hb, hr, hts, hown, hlocks, hml, hK, hN, hE, hA⟩ := C
  unfold zX3_lay_s32_s2_s20_52b at h
  refine lv_iload hx hb dX3_lay_52 (lv_at hl 4 rfl) ?_
  refine lv_bipush (v := 6) hx hb dX3_lay_54 (by decide) ?_
  refine lv_icmp_ge (tgt := 93) hx hb dX3_lay_56 (by decide) (fun c9 => ?_) (fun c9 => ?_)
  · rw [if_pos c9] at h
    refine lv_iconst (v := 0) hx hb dX3_lay_93 (by decide) ?_
    refine lv_istore (lv' := [(5, .int 0), (0, .ref (ad 32)), (1, .ref (ad 2)), (2, .ref (ad 20)), (4, .int x4)]) hx hb dX3_lay_94 hl (by decide) rfl (fun ls hl => ?_)
    refine lv_iconst (v := 0) hx hb dX3_lay_96 (by decide) ?_
    refine lv_istore (lv' := [(6, .int 0), (5, .int 0), (0, .ref (ad 32)), (1, .ref (ad 2)), (2, .ref (ad 20)), (4, .int x4)]) hx hb dX3_lay_97 hl (by decide) rfl (fun ls hl => ?_)
    exact WX3_lay_s32_s2_s20_99 hag C0  _ _ _ _ _ _ _ h hP hD hS (lv_sub hl [2, 3, 4, 1, 0] rfl)
  · rw [if_neg c9] at h
    refine lv_aload_n hx hb dX3_lay_59 rfl (lv_at hl 1 rfl) ?_
    refine lv_iload hx hb dX3_lay_60 (lv_at hl 4 rfl) ?_
    obtain ⟨r1, q3, h2, h⟩ := dB_some h
    refine dw_ki (va_runV (As := [.int x5]) (rest := []) ⟨hx, hb, hml, hown, hts⟩ (qX8_has_s2 l D ty eo _ ad q x5 r1 q3 h2) (cwV 1 hts gX3_lay_X8_has rfl rfl rfl (by decide +kernel) ⟨Nat.le_of_ble_eq_true rfl, Nat.le_of_ble_eq_true rfl⟩) (dw_preV (ci := 8) (q0 := 2) hK hN hE hP hD hS hA rfl rfl) rfl rfl hl.1 rfl (lv_room (Nat.le_of_ble_eq_true rfl)) dX3_lay_62 ⟨Nat.le_refl _, Nat.le_refl _⟩) hD hS hA (fun r9 u9 H locs hw hp hd hs => ?_)
    clear hP hD hS
    obtain ⟨rfl, rfl⟩ := hw
    have hP := hp; have hD := hd; have hS := hs; clear hp hd hs
    refine lv_if_eq (tgt := 87) hx hb dX3_lay_65 (by decide) (fun c9 => ?_) (fun c9 => ?_)
    · rw [if_pos c9] at h
      exact WX3_lay_s32_s2_s20_87 hag C0 hk52 _ _ _ _ _ _ h hP hD hS (lv_sub hl [0, 1, 2, 3, 4] rfl)
    · rw [if_neg c9] at h
      refine lv_iload hx hb dX3_lay_68 (lv_at hl 3 rfl) ?_
      refine lv_bipush (v := 6) hx hb dX3_lay_70 (by decide) ?_
      refine lv_icmp_ge (tgt := 87) hx hb dX3_lay_72 (by decide) (fun c9 => ?_) (fun c9 => ?_)
      · rw [if_pos c9] at h
        exact WX3_lay_s32_s2_s20_87 hag C0 hk52 _ _ _ _ _ _ h hP hD hS (lv_sub hl [0, 1, 2, 3, 4] rfl)
      · rw [if_neg c9] at h
        refine lv_aload_n hx hb dX3_lay_75 rfl (lv_at hl 0 rfl) ?_
        refine va_get (D := D) (ci := 3) (v := .ref (ad 33)) (C := RX3) (T := TX3) (N := 20) hx hb hts u9_wsX3_lay_X3 hown hK hP 32 rfl rfl 0 (by decide) (hts (.fieldLink RX3 9 "TurnedFloors$Paper" "ranks" "[I") f9_wsX3_lay_758) (fun _ h9 => h9) rfl dX3_lay_76 ?_
        refine lv_iload hx hb dX3_lay_79 (lv_at hl 3 rfl) ?_
        refine lv_iload hx hb dX3_lay_81 (lv_at hl 4 rfl) ?_
        obtain ⟨g4, h⟩ := dG_some h
        refine va_iast hx hb hK hP hD hS 33 0 rfl rfl (dg_in g4) dX3_lay_83 (fun H locs hp hd hs => ?_)
        obtain ⟨q5, eq5, h⟩ := dL_some h
        refine kz_re (w2 := wF ty ad q5) hp hd hs (by rw [← eq5]; exact wF_a33 ty ad q3 (Int32.toNatClampNeg x4) x5) ?_
        clear hp hd hs hP hD hS
        intro hP hD hS
        refine lv_iinc (v := x4 + 1) (lv' := [(4, .int (x4 + 1)), (0, .ref (ad 32)), (1, .ref (ad 2)), (2, .ref (ad 20)), (5, .int x5)]) hx hb dX3_lay_84 hl (k := 3) rfl rfl (by decide) rfl (fun ls hl => ?_)
        exact WX3_lay_s32_s2_s20_87 hag C0 hk52 _ _ _ _ _ _ h hP hD hS (lv_sub hl [1, 2, 3, 0, 4] rfl)
set_option maxHeartbeats 4000000 in
set_option maxRecDepth 100000 in
theorem WX3_lay_s32_s2_s20_52 {p : Program} {l : Launch} {e : Env} {s : State} {m : MethodId} {args : Array Value} {below : List Frame} {meth : Method} {c : Code} {D : va_G} {ty : Nat → ClassId} {eo : Nat → Nat} {A : Nat → Prop} {ad : Nat → Nat} {o2 : dK} {nc ns : Nat} {ad0 : Nat → Nat} (hag : dAg ad0 ad) (C : dc_C p s m args meth c cX3_lay none 7 RX3 wsX3_lay D ty eo A)   (n : Nat) (q : dK) (x4 : Int32) (x5 : Int32) (H : Heap) (locs : List Loc) (ls : Array Slot) (h : zX3_lay_s32_s2_s20_52 nc ns  n q x4 x5 = some o2) (hP : va_P D vwCl (wF ty ad q) H) (hD : va_D A (wF ty ad q)) (hS : va_S A s.heap H locs) (hl : lv_has ls 7 [(0, .ref (ad 32)), (1, .ref (ad 2)), (2, .ref (ad 20)), (4, .int x4), (5, .int x5)]) : W p l e ({ frames := 4, cells := nc, slots := ns, locals := 113 } : Room) s m args below meth c H locs nc ns (MQ below (va_Qv (fun (u : va_W) => ∃ ad9 : Nat → Nat, dAg ad0 ad9 ∧ wF ty ad9 o2 = u) (kz_B D ty A) A) args s nc ns A) (F0 m 52 ls []) := by
  exact dFix_W (F := fun k (a : dK × Int32 × Int32) => zX3_lay_s32_s2_s20_52b nc ns  (fun q x4 x5 => k (q, x4, x5)) a.1 a.2.1 a.2.2) (o := o2) (P := fun (a : dK × Int32 × Int32) H locs ls => va_P D vwCl (wF ty ad a.1) H ∧ va_D A (wF ty ad a.1) ∧ va_S A s.heap H locs ∧ lv_has ls 7 [(0, .ref (ad 32)), (1, .ref (ad 2)), (2, .ref (ad 20)), (4, .int a.2.1), (5, .int a.2.2)]) (G := fun H locs ls => W p l e ({ frames := 4, cells := nc, slots := ns, locals := 113 } : Room) s m args below meth c H locs nc ns (MQ below (va_Qv (fun (u : va_W) => ∃ ad9 : Nat → Nat, dAg ad0 ad9 ∧ wF ty ad9 o2 = u) (kz_B D ty A) A) args s nc ns A) (F0 m 52 ls []))
    (fun k hk a H locs ls h hp => WX3_lay_s32_s2_s20_52b hag C  (fun q x4 x5 H locs ls h h1 h2 h3 h4 => hk (q, x4, x5) H locs ls h ⟨h1, h2, h3, h4⟩) a.1 a.2.1 a.2.2 H locs ls h hp.1 hp.2.1 hp.2.2.1 hp.2.2.2) n (q, x4, x5) H locs ls h ⟨hP, hD, hS, hl⟩
set_option maxHeartbeats 4000000 in
set_option maxRecDepth 100000 in
theorem WX3_lay_s32_s2_s20_46 {p : Program} {l : Launch} {e : Env} {s : State} {m : MethodId} {args : Array Value} {below : List Frame} {meth : Method} {c : Code} {D : va_G} {ty : Nat → ClassId} {eo : Nat → Nat} {A : Nat → Prop} {ad : Nat → Nat} {o2 : dK} {nc ns : Nat} {ad0 : Nat → Nat} (hag : dAg ad0 ad) (C : dc_C p s m args meth c cX3_lay none 7 RX3 wsX3_lay D ty eo A)   (q : dK)  (H : Heap) (locs : List Loc) (ls : Array Slot) (h : zX3_lay_s32_s2_s20_46 nc ns  q = some o2) (hP : va_P D vwCl (wF ty ad q) H) (hD : va_D A (wF ty ad q)) (hS : va_S A s.heap H locs) (hl : lv_has ls 7 [(0, .ref (ad 32)), (1, .ref (ad 2)), (2, .ref (ad 20))]) : W p l e ({ frames := 4, cells := nc, slots := ns, locals := 113 } : Room) s m args below meth c H locs nc ns (MQ below (va_Qv (fun (u : va_W) => ∃ ad9 : Nat → Nat, dAg ad0 ad9 ∧ wF ty ad9 o2 = u) (kz_B D ty A) A) args s nc ns A) (F0 m 46 ls []) := by
  have C0 := C
  obtain ⟨hx, hb, hr, hts, hown, hlocks, hml, hK, hN, hE, hA⟩ := C
  unfold zX3_lay_s32_s2_s20_46 at h
  refine lv_iconst (v := 0) hx hb dX3_lay_46 (by decide) ?_
  refine lv_istore (lv' := [(4, .int 0), (0, .ref (ad 32)), (1, .ref (ad 2)), (2, .ref (ad 20))]) hx hb dX3_lay_47 hl (by decide) rfl (fun ls hl => ?_)
  refine lv_iconst (v := 0) hx hb dX3_lay_49 (by decide) ?_
  refine lv_istore (lv' := [(5, .int 0), (4, .int 0), (0, .ref (ad 32)), (1, .ref (ad 2)), (2, .ref (ad 20))]) hx hb dX3_lay_50 hl (by decide) rfl (fun ls hl => ?_)
  exact WX3_lay_s32_s2_s20_52 hag C0  _ _ _ _ _ _ _ h hP hD hS (lv_sub hl [2, 3, 4, 1, 0] rfl)
set_option maxHeartbeats 4000000 in
set_option maxRecDepth 100000 in
theorem qX3_lay_s32_s2_s20 (l : Launch) (D : va_G) (ty : Nat → ClassId) (eo : Nat → Nat) (sz : Nat) (ad : Nat → Nat) (nc ns : Nat) (q : dK) (p3 : Int32) (o2 : dK) (h : zX3_lay_s32_s2_s20 nc ns q p3 = some o2) : Met l yX3_lay wsX3_lay ({ frames := 4, cells := nc, slots := ns, locals := 113 } : Room) (va_Pc [.ref (ad 32), .ref (ad 2), .ref (ad 20), .int p3] (kz_pre D ty eo (wF ty ad q) sz)) (va_Qv (fun (u : va_W) => ∃ ad9 : Nat → Nat, dAg ad ad9 ∧ wF ty ad9 o2 = u) (kz_B D ty (va_A (wF ty ad q) sz)) (va_A (wF ty ad q) sz)) nc ns (va_A (wF ty ad q) sz) := by
  have hag : dAg ad ad := fun _ _ => rfl
  refine Met.ofW (cc := cX3_lay) (maxL := 7) (ret := none) (by decide) rfl ?_
  intro p e s m args below meth c s₁ B hml hv
  obtain ⟨rfl, hsz, hP, hK, hD0, hN, hE⟩ := hv
  have hx := B.exec
  have hb := B.bytes
  have hr := B.returns
  have hts := atoms_spec (ws := wsX3_lay) B.pre
  have hown : s.vm.findClass RX3 = some m.cls := findClass_of_methodNamed B.named
  have hlocks := B.notSynchronized
  subst hsz
  have hD := hD0.self (sz := s.heap.size)
  generalize hAe : va_A (wF ty ad q) s.heap.size = A at hD hE ⊢
  have hA : ∀ q : Nat, s.heap.size ≤ q → A q := fun q h => by rw [← hAe]; exact Or.inr h
  clear hAe
  have hS : va_S A s.heap s.heap [] := va_S.rf
  have hl := lv_entry ([.ref (ad 32), .ref (ad 2), .ref (ad 20), .int p3]) (n := 7) (Nat.le_of_ble_eq_true rfl)
  rw [lg_entry_eq]
  generalize (lg_sl ([.ref (ad 32), .ref (ad 2), .ref (ad 20), .int p3]) ++ List.replicate (7 - (lg_sl ([.ref (ad 32), .ref (ad 2), .ref (ad 20), .int p3])).length) Slot.unset).toArray = ls at hl ⊢
  have hl : lv_has ls 7 [(0, .ref (ad 32)), (1, .ref (ad 2)), (2, .ref (ad 20)), (3, .int p3)] := hl
  have C : dc_C p s m _ meth c cX3_lay none 7 RX3 wsX3_lay D ty eo A := ⟨hx, hb, hr, hts, hown, hlocks, hml, hK, hN, hE, hA⟩
  unfold zX3_lay_s32_s2_s20 at h
  refine lv_aload_n hx hb dX3_lay_0 rfl (lv_at hl 0 rfl) ?_
  refine lv_aload_n hx hb dX3_lay_1 rfl (lv_at hl 1 rfl) ?_
  refine va_getN (D := D) (ci := 8) (v := .int (q.1 2 2)) (C := RX8) (T := TX8) (N := 5) hx hb hts u9_wsX3_lay_X8 hown hK hP 2 rfl rfl 2 (by decide) (hN.use (.fieldLinkNest "TurnedFloors$Paper" 73 "TurnedFloors$Tower" "floors" "I" "TurnedFloors") (by decide +kernel)) (fun _ h9 => h9) rfl dX3_lay_2 ?_
  refine va_put (D := D) (ci := 3) (v := .int (q.1 2 2)) (ty := .int) (C := RX3) (T := TX3) (N := 20) hx hb hts u9_wsX3_lay_X3 tyX3 tyX3_ok nmX3 hown hK hP hD hS 32 rfl rfl 13 (by decide) (hts (.fieldLink RX3 51 "TurnedFloors$Paper" "floors" "I") f9_wsX3_lay_750) (fun _ h9 => h9) rfl (by decide +kernel) rfl rfl (Nat.le_of_ble_eq_true rfl) dX3_lay_5 (fun H locs hp hd hs => ?_)
  obtain ⟨q1, eq1, h⟩ := dL_some h
  refine kz_re (w2 := wF ty ad q1) hp hd hs (by rw [← eq1]; exact wF_f32_13 ty ad q (q.1 2 2)) ?_
  clear hp hd hs hP hD hS
  intro hP hD hS
  refine lv_aload_n hx hb dX3_lay_8 rfl (lv_at hl 0 rfl) ?_
  refine lv_iload_n hx hb dX3_lay_9 rfl (lv_at hl 3 rfl) ?_
  refine va_put (D := D) (ci := 3) (v := .int p3) (ty := .int) (C := RX3) (T := TX3) (N := 20) hx hb hts u9_wsX3_lay_X3 tyX3 tyX3_ok nmX3 hown hK hP hD hS 32 rfl rfl 16 (by decide) (hts (.fieldLink RX3 61 "TurnedFloors$Paper" "headsMatter" "I") f9_wsX3_lay_759) (fun _ h9 => h9) rfl (by decide +kernel) rfl rfl (Nat.le_of_ble_eq_true rfl) dX3_lay_10 (fun H locs hp hd hs => ?_)
  obtain ⟨q2, eq2, h⟩ := dL_some h
  refine kz_re (w2 := wF ty ad q2) hp hd hs (by rw [← eq2]; exact wF_f32_16 ty ad q1 p3) ?_
  clear hp hd hs hP hD hS
  intro hP hD hS
  refine lv_aload_n hx hb dX3_lay_13 rfl (lv_at hl 0 rfl) ?_
  refine va_gets hx hb hE.1 hS hown (hts (.fieldLink RX3 76 "TurnedFloors$Paper" "FACTORIALS" "[I") f9_wsX3_lay_760) (fun _ h9 => h9) dX3_lay_14 ?_
  refine lv_aload_n hx hb dX3_lay_17 rfl (lv_at hl 0 rfl) ?_
  refine va_get (D := D) (ci := 3) (v := .int (q2.1 32 13)) (C := RX3) (T := TX3) (N := 20) hx hb hts u9_wsX3_lay_X3 hown hK hP 32 rfl rfl 13 (by decide) (hts (.fieldLink RX3 51 "TurnedFloors$Paper" "floors" "I") f9_wsX3_lay_750) (fun _ h9 => h9) rfl dX3_lay_18 ?_
  obtain ⟨g3, h⟩ := dG_some h
  refine va_ti (v := .int (([1, 1, 2, 6, 24, 120, 720] : List Int32).getD (Int32.toNatClampNeg (q2.1 32 13)) 0)) hx hb hE.2.1 hS (dg_in g3) rfl dX3_lay_21 ?_
  obtain ⟨v4, ev4, h⟩ := dL_some h
  refine kz_topi v4 ev4 ?_
  refine lv_aload_n hx hb dX3_lay_22 rfl (lv_at hl 0 rfl) ?_
  refine va_get (D := D) (ci := 3) (v := .int (q2.1 32 13)) (C := RX3) (T := TX3) (N := 20) hx hb hts u9_wsX3_lay_X3 hown hK hP 32 rfl rfl 13 (by decide) (hts (.fieldLink RX3 51 "TurnedFloors$Paper" "floors" "I") f9_wsX3_lay_750) (fun _ h9 => h9) rfl dX3_lay_23 ?_
  refine lv_ishl hx hb dX3_lay_26 ?_
  refine va_put (D := D) (ci := 3) (v := .int (v4 <<< ((q2.1 32 13 : Int32) &&& 31))) (ty := .int) (C := RX3) (T := TX3) (N := 20) hx hb hts u9_wsX3_lay_X3 tyX3 tyX3_ok nmX3 hown hK hP hD hS 32 rfl rfl 14 (by decide) (hts (.fieldLink RX3 55 "TurnedFloors$Paper" "size" "I") f9_wsX3_lay_751) (fun _ h9 => h9) rfl (by decide +kernel) rfl rfl (Nat.le_of_ble_eq_true rfl) dX3_lay_27 (fun H locs hp hd hs => ?_)
  obtain ⟨q5, eq5, h⟩ := dL_some h
  refine kz_re (w2 := wF ty ad q5) hp hd hs (by rw [← eq5]; exact wF_f32_14 ty ad q2 (v4 <<< ((q2.1 32 13 : Int32) &&& 31))) ?_
  clear hp hd hs hP hD hS
  intro hP hD hS
  refine lv_aload_n hx hb dX3_lay_30 rfl (lv_at hl 0 rfl) ?_
  refine va_get (D := D) (ci := 3) (v := .int (q5.1 32 14)) (C := RX3) (T := TX3) (N := 20) hx hb hts u9_wsX3_lay_X3 hown hK hP 32 rfl rfl 14 (by decide) (hts (.fieldLink RX3 55 "TurnedFloors$Paper" "size" "I") f9_wsX3_lay_751) (fun _ h9 => h9) rfl dX3_lay_31 ?_
  refine lv_aload_n hx hb dX3_lay_34 rfl (lv_at hl 0 rfl) ?_
  refine va_get (D := D) (ci := 3) (v := .ref (ad 42)) (C := RX3) (T := TX3) (N := 20) hx hb hts u9_wsX3_lay_X3 hown hK hP 32 rfl rfl 9 (by decide) (hts (.fieldLink RX3 39 "TurnedFloors$Paper" "toOrder" "[I") f9_wsX3_lay_761) (fun _ h9 => h9) rfl dX3_lay_35 ?_
  refine va_alen (v := Int32.ofNat (Int32.toNatClampNeg (q5.1 32 103))) hx hb hK hP 42 0 rfl rfl rfl dX3_lay_38 ?_
  refine lv_icmp_le (tgt := 46) hx hb dX3_lay_39 (by decide) (fun c9 => ?_) (fun c9 => ?_)
  · rw [if_pos c9] at h
    refine dw_up (c2 := nc) (s2 := ns) (Nat.zero_le _) (Nat.zero_le _) ?_
    exact WX3_lay_s32_s2_s20_46 hag C  _ _ _ _ h hP hD hS (lv_sub hl [0, 1, 2] rfl)
  · rw [if_neg c9] at h
    refine lv_aload_n hx hb dX3_lay_42 rfl (lv_at hl 0 rfl) ?_
    obtain ⟨q8, h7, h⟩ := dV_some h
    refine dw_kv (va_runV (As := []) (rest := []) ⟨hx, hb, hml, hown, hts⟩ (qX3_makeRoom_s32 l D ty eo _ ad nc ns q5  q8 h7) (cwV 0 hts gX3_lay_X3_makeRoom rfl rfl rfl (by decide +kernel) ⟨Nat.le_of_ble_eq_true rfl, Nat.le_of_ble_eq_true rfl⟩) (dw_preV (ci := 3) (q0 := 32) hK hN hE hP hD hS hA rfl rfl) rfl rfl hl.1 rfl (lv_room (Nat.le_of_ble_eq_true rfl)) dX3_lay_43 ⟨by show 0 + nc ≤ nc; omega, by show 0 + ns ≤ ns; omega⟩) hD hS hA (fun u9 H locs hw hp hd hs => ?_)
    clear hP hD hS
    obtain ⟨ad, hag1, rfl⟩ := hw
    replace hag := dAg_t hag hag1
    rw [dAg_s hag1 32 (by decide)] at hl
    rw [dAg_s hag1 2 (by decide)] at hl
    rw [dAg_s hag1 20 (by decide)] at hl
    clear hag1
    refine dw_up (c2 := nc) (s2 := ns) (by omega) (by omega) ?_
    have hP := hp; have hD := hd; have hS := hs; clear hp hd hs
    exact WX3_lay_s32_s2_s20_46 hag C  _ _ _ _ h hP hD hS (lv_sub hl [0, 1, 2] rfl)

set_option maxHeartbeats 4000000 in
set_option maxRecDepth 100000 in
theorem qX9_spread_s0_s20 (l : Launch) (D : va_G) (ty : Nat → ClassId) (eo : Nat → Nat) (sz : Nat) (ad : Nat → Nat) (nc ns : Nat) (q : dK)  (o2 : dK) (h : zX9_spread_s0_s20 nc ns q = some o2) : Met l yX9_spread wsX9_spread ({ frames := 5, cells := nc, slots := ns, locals := 139 } : Room) (va_Pc [.ref (ad 0), .ref (ad 20)] (kz_pre D ty eo (wF ty ad q) sz)) (va_Qv (fun (u : va_W) => ∃ ad9 : Nat → Nat, dAg ad ad9 ∧ wF ty ad9 o2 = u) (kz_B D ty (va_A (wF ty ad q) sz)) (va_A (wF ty ad q) sz)) nc ns (va_A (wF ty ad q) sz) := by
  have hag : dAg ad ad := fun _ _ => rfl
  refine Met.ofW (cc := cX9_spread) (maxL := 2) (ret := none) (by decide) rfl ?_
  intro p e s m args below meth c s₁ B hml hv
  obtain ⟨rfl, hsz, hP, hK, hD0, hN, hE⟩ := hv
  have hx := B.exec
  have hb := B.bytes
  have hr := B.returns
  have hts := atoms_spec (ws := wsX9_spread) B.pre
  have hown : s.vm.findClass RX9 = some m.cls := findClass_of_methodNamed B.named
  have hlocks := B.notSynchronized
  subst hsz
  have hD := hD0.self (sz := s.heap.size)
  generalize hAe : va_A (wF ty ad q) s.heap.size = A at hD hE ⊢
  have hA : ∀ q : Nat, s.heap.size ≤ q → A q := fun q h => by rw [← hAe]; exact Or.inr h
  clear hAe
  have hS : va_S A s.heap s.heap [] := va_S.rf
  have hl := lv_entry ([.ref (ad 0), .ref (ad 20)]) (n := 2) (Nat.le_of_ble_eq_true rfl)
  rw [lg_entry_eq]
  generalize (lg_sl ([.ref (ad 0), .ref (ad 20)]) ++ List.replicate (2 - (lg_sl ([.ref (ad 0), .ref (ad 20)])).length) Slot.unset).toArray = ls at hl ⊢
  have hl : lv_has ls 2 [(0, .ref (ad 0)), (1, .ref (ad 20))] := hl
  have C : dc_C p s m _ meth c cX9_spread none 2 RX9 wsX9_spread D ty eo A := ⟨hx, hb, hr, hts, hown, hlocks, hml, hK, hN, hE, hA⟩
  unfold zX9_spread_s0_s20 at h
  refine lv_aload_n hx hb dX9_spread_0 rfl (lv_at hl 0 rfl) ?_
  refine va_get (D := D) (ci := 9) (v := .ref (ad 32)) (C := RX9) (T := TX9) (N := 19) hx hb hts u9_wsX9_spread_X9 hown hK hP 0 rfl rfl 10 (by decide) (hts (.fieldLink RX9 80 "TurnedFloors" "paper" "LTurnedFloors$Paper;") f9_wsX9_spread_764) (fun _ h9 => h9) rfl dX9_spread_1 ?_
  refine lv_aload_n hx hb dX9_spread_4 rfl (lv_at hl 0 rfl) ?_
  refine va_get (D := D) (ci := 9) (v := .ref (ad 1)) (C := RX9) (T := TX9) (N := 19) hx hb hts u9_wsX9_spread_X9 hown hK hP 0 rfl rfl 0 (by decide) (hts (.fieldLink RX9 10 "TurnedFloors" "state" "LTurnedFloors$State;") f9_wsX9_spread_765) (fun _ h9 => h9) rfl dX9_spread_5 ?_
  refine va_getN (D := D) (ci := 6) (v := .ref (ad 2)) (C := RX6) (T := TX6) (N := 10) hx hb hts u9_wsX9_spread_X6 hown hK hP 1 rfl rfl 0 (by decide) (hN.use (.fieldLinkNest "TurnedFloors" 122 "TurnedFloors$State" "tower" "LTurnedFloors$Tower;" "TurnedFloors") (by decide +kernel)) (fun _ h9 => h9) rfl dX9_spread_8 ?_
  refine lv_aload_n hx hb dX9_spread_11 rfl (lv_at hl 1 rfl) ?_
  refine lv_aload_n hx hb dX9_spread_12 rfl (lv_at hl 0 rfl) ?_
  refine va_get (D := D) (ci := 9) (v := .ref (ad 1)) (C := RX9) (T := TX9) (N := 19) hx hb hts u9_wsX9_spread_X9 hown hK hP 0 rfl rfl 0 (by decide) (hts (.fieldLink RX9 10 "TurnedFloors" "state" "LTurnedFloors$State;") f9_wsX9_spread_765) (fun _ h9 => h9) rfl dX9_spread_13 ?_
  refine va_getN (D := D) (ci := 6) (v := .int (q.1 1 3)) (C := RX6) (T := TX6) (N := 10) hx hb hts u9_wsX9_spread_X6 hown hK hP 1 rfl rfl 3 (by decide) (hN.use (.fieldLinkNest "TurnedFloors" 267 "TurnedFloors$State" "headsMatter" "I" "TurnedFloors") (by decide +kernel)) (fun _ h9 => h9) rfl dX9_spread_16 ?_
  obtain ⟨q3, h2, h⟩ := dV_some h
  refine dw_kv (va_runV (As := [.ref (ad 2), .ref (ad 20), .int (q.1 1 3)]) (rest := []) ⟨hx, hb, hml, hown, hts⟩ (qX3_lay_s32_s2_s20 l D ty eo _ ad nc ns q (q.1 1 3) q3 h2) (cwV 3 hts gX9_spread_X3_lay rfl rfl rfl (by decide +kernel) ⟨Nat.le_of_ble_eq_true rfl, Nat.le_of_ble_eq_true rfl⟩) (dw_preV (ci := 3) (q0 := 32) hK hN hE hP hD hS hA rfl rfl) rfl rfl hl.1 rfl (lv_room (Nat.le_of_ble_eq_true rfl)) dX9_spread_19 ⟨by show 0 + nc ≤ nc; omega, by show 0 + ns ≤ ns; omega⟩) hD hS hA (fun u9 H locs hw hp hd hs => ?_)
  clear hP hD hS
  obtain ⟨ad, hag1, rfl⟩ := hw
  replace hag := dAg_t hag hag1
  rw [dAg_s hag1 0 (by decide)] at hl
  rw [dAg_s hag1 20 (by decide)] at hl
  clear hag1
  refine dw_up (c2 := nc) (s2 := ns) (by omega) (by omega) ?_
  have hP := hp; have hD := hd; have hS := hs; clear hp hd hs
  cases h
  exact kz_vret hx hb hr hlocks hP hK hD hS dX9_spread_22 ⟨ad, hag, rfl⟩

set_option maxHeartbeats 4000000 in
set_option maxRecDepth 100000 in
theorem WX3_sameBars_s32_2b {p : Program} {l : Launch} {e : Env} {s : State} {m : MethodId} {args : Array Value} {below : List Frame} {meth : Method} {c : Code} {D : va_G} {ty : Nat → ClassId} {eo : Nat → Nat} {A : Nat → Prop} {ad : Nat → Nat} {o1 : Int32} {o2 : dK} (C : dc_C p s m args meth c cX3_sameBars (some .boolean) 2 RX3 wsX3_sameBars D ty eo A) {k2 : dK → Int32 → Option (Int32 × dK)} (hk2 : ∀ (q : dK) (x1 : Int32) (H : Heap) (locs : List Loc) (ls : Array Slot), k2 q x1 = some (o1, o2) → va_P D vwCl (wF ty ad q) H → va_D A (wF ty ad q) → va_S A s.heap H locs → lv_has ls 2 [(0, .ref (ad 32)), (1, .int x1)] → W p l e ({ frames := 0, cells := 0, slots := 0, locals := 0 } : Room) s m args below meth c H locs 0 0 (MQ below (va_Qi (fun (r : Int32) (u : va_W) => o1 = r ∧ wF ty ad o2 = u) (kz_B D ty A) A) args s 0 0 A) (F0 m 2 ls [])) (q : dK) (x1 : Int32) (H : Heap) (locs : List Loc) (ls : Array Slot) (h : zX3_sameBars_s32_2b k2 q x1 = some (o1, o2)) (hP : va_P D vwCl (wF ty ad q) H) (hD : va_D A (wF ty ad q)) (hS : va_S A s.heap H locs) (hl : lv_has ls 2 [(0, .ref (ad 32)), (1, .int x1)]) : W p l e ({ frames := 0, cells := 0, slots := 0, locals := 0 } : Room) s m args below meth c H locs 0 0 (MQ below (va_Qi (fun (r : Int32) (u : va_W) => o1 = r ∧ wF ty ad o2 = u) (kz_B D ty A) A) args s 0 0 A) (F0 m 2 ls []) := by
  have C0 := C
  obtain ⟨hx, hb, hr, hts, hown, hlocks, hml, hK, hN, hE, hA⟩ := C
  unfold zX3_sameBars_s32_2b at h
  refine lv_iload_n hx hb dX3_sameBars_2 rfl (lv_at hl 1 rfl) ?_
  refine lv_sipush (v := 504) hx hb dX3_sameBars_3 (by decide) ?_
  refine lv_icmp_ge (tgt := 32) hx hb dX3_sameBars_6 (by decide) (fun c9 => ?_) (fun c9 => ?_)
  · rw [if_pos c9] at h
    refine lv_iconst (v := 1) hx hb dX3_sameBars_32 (by decide) ?_
    cases h
    exact kz_zret hx hb hr hlocks rfl hP hK hD hS dX3_sameBars_33 ⟨rfl, rfl⟩
  · rw [if_neg c9] at h
    refine lv_aload_n hx hb dX3_sameBars_9 rfl (lv_at hl 0 rfl) ?_
    refine va_get (D := D) (ci := 3) (v := .ref (ad 35)) (C := RX3) (T := TX3) (N := 20) hx hb hts u9_wsX3_sameBars_X3 hown hK hP 32 rfl rfl 2 (by decide) (hts (.fieldLink RX3 18 "TurnedFloors$Paper" "barred" "[I") f9_wsX3_sameBars_767) (fun _ h9 => h9) rfl dX3_sameBars_10 ?_
    refine lv_iload_n hx hb dX3_sameBars_13 rfl (lv_at hl 1 rfl) ?_
    obtain ⟨g1, h⟩ := dG_some h
    refine va_iald hx hb hK hP 35 0 rfl rfl (dg_in g1) dX3_sameBars_14 ?_
    obtain ⟨v2, ev2, h⟩ := dL_some h
    refine kz_topi v2 ev2 ?_
    refine lv_aload_n hx hb dX3_sameBars_15 rfl (lv_at hl 0 rfl) ?_
    refine va_get (D := D) (ci := 3) (v := .ref (ad 37)) (C := RX3) (T := TX3) (N := 20) hx hb hts u9_wsX3_sameBars_X3 hown hK hP 32 rfl rfl 4 (by decide) (hts (.fieldLink RX3 24 "TurnedFloors$Paper" "measuredBarred" "[I") f9_wsX3_sameBars_768) (fun _ h9 => h9) rfl dX3_sameBars_16 ?_
    refine lv_iload_n hx hb dX3_sameBars_19 rfl (lv_at hl 1 rfl) ?_
    obtain ⟨g3, h⟩ := dG_some h
    refine va_iald hx hb hK hP 37 0 rfl rfl (dg_in g3) dX3_sameBars_20 ?_
    obtain ⟨v4, ev4, h⟩ := dL_some h
    refine kz_topi v4 ev4 ?_
    refine lv_icmp_eq (tgt := 26) hx hb dX3_sameBars_21 (by decide) (fun c9 => ?_) (fun c9 => ?_)
    · rw [if_pos c9] at h
      refine lv_iinc (v := x1 + 1) (lv' := [(1, .int (x1 + 1)), (0, .ref (ad 32))]) hx hb dX3_sameBars_26 hl (k := 1) rfl rfl (by decide) rfl (fun ls hl => ?_)
      refine lv_goto (tgt := 2) hx hb dX3_sameBars_29 (by decide) ?_
      exact hk2 _ _ _ _ _ h hP hD hS (lv_sub hl [1, 0] rfl)
    · rw [if_neg c9] at h
      refine lv_iconst (v := 0) hx hb dX3_sameBars_24 (by decide) ?_
      cases h
      exact kz_zret hx hb hr hlocks rfl hP hK hD hS dX3_sameBars_25 ⟨rfl, rfl⟩
set_option maxHeartbeats 4000000 in
set_option maxRecDepth 100000 in
theorem WX3_sameBars_s32_2 {p : Program} {l : Launch} {e : Env} {s : State} {m : MethodId} {args : Array Value} {below : List Frame} {meth : Method} {c : Code} {D : va_G} {ty : Nat → ClassId} {eo : Nat → Nat} {A : Nat → Prop} {ad : Nat → Nat} {o1 : Int32} {o2 : dK} (C : dc_C p s m args meth c cX3_sameBars (some .boolean) 2 RX3 wsX3_sameBars D ty eo A)   (n : Nat) (q : dK) (x1 : Int32) (H : Heap) (locs : List Loc) (ls : Array Slot) (h : zX3_sameBars_s32_2  n q x1 = some (o1, o2)) (hP : va_P D vwCl (wF ty ad q) H) (hD : va_D A (wF ty ad q)) (hS : va_S A s.heap H locs) (hl : lv_has ls 2 [(0, .ref (ad 32)), (1, .int x1)]) : W p l e ({ frames := 0, cells := 0, slots := 0, locals := 0 } : Room) s m args below meth c H locs 0 0 (MQ below (va_Qi (fun (r : Int32) (u : va_W) => o1 = r ∧ wF ty ad o2 = u) (kz_B D ty A) A) args s 0 0 A) (F0 m 2 ls []) := by
  exact dFix_W (F := fun k (a : dK × Int32) => zX3_sameBars_s32_2b  (fun q x1 => k (q, x1)) a.1 a.2) (o := (o1, o2)) (P := fun (a : dK × Int32) H locs ls => va_P D vwCl (wF ty ad a.1) H ∧ va_D A (wF ty ad a.1) ∧ va_S A s.heap H locs ∧ lv_has ls 2 [(0, .ref (ad 32)), (1, .int a.2)]) (G := fun H locs ls => W p l e ({ frames := 0, cells := 0, slots := 0, locals := 0 } : Room) s m args below meth c H locs 0 0 (MQ below (va_Qi (fun (r : Int32) (u : va_W) => o1 = r ∧ wF ty ad o2 = u) (kz_B D ty A) A) args s 0 0 A) (F0 m 2 ls []))
    (fun k hk a H locs ls h hp => WX3_sameBars_s32_2b C  (fun q x1 H locs ls h h1 h2 h3 h4 => hk (q, x1) H locs ls h ⟨h1, h2, h3, h4⟩) a.1 a.2 H locs ls h hp.1 hp.2.1 hp.2.2.1 hp.2.2.2) n (q, x1) H locs ls h ⟨hP, hD, hS, hl⟩
set_option maxHeartbeats 4000000 in
set_option maxRecDepth 100000 in
theorem qX3_sameBars_s32 (l : Launch) (D : va_G) (ty : Nat → ClassId) (eo : Nat → Nat) (sz : Nat) (ad : Nat → Nat) (q : dK)  (o1 : Int32) (o2 : dK) (h : zX3_sameBars_s32 q = some (o1, o2)) : Met l yX3_sameBars wsX3_sameBars ({ frames := 0, cells := 0, slots := 0, locals := 0 } : Room) (va_Pc [.ref (ad 32)] (kz_pre D ty eo (wF ty ad q) sz)) (va_Qi (fun (r : Int32) (u : va_W) => o1 = r ∧ wF ty ad o2 = u) (kz_B D ty (va_A (wF ty ad q) sz)) (va_A (wF ty ad q) sz)) 0 0 (va_A (wF ty ad q) sz) := by
  refine Met.ofW (cc := cX3_sameBars) (maxL := 2) (ret := (some .boolean)) (by decide) rfl ?_
  intro p e s m args below meth c s₁ B hml hv
  obtain ⟨rfl, hsz, hP, hK, hD0, hN, hE⟩ := hv
  have hx := B.exec
  have hb := B.bytes
  have hr := B.returns
  have hts := atoms_spec (ws := wsX3_sameBars) B.pre
  have hown : s.vm.findClass RX3 = some m.cls := findClass_of_methodNamed B.named
  have hlocks := B.notSynchronized
  subst hsz
  have hD := hD0.self (sz := s.heap.size)
  generalize hAe : va_A (wF ty ad q) s.heap.size = A at hD hE ⊢
  have hA : ∀ q : Nat, s.heap.size ≤ q → A q := fun q h => by rw [← hAe]; exact Or.inr h
  clear hAe
  have hS : va_S A s.heap s.heap [] := va_S.rf
  have hl := lv_entry ([.ref (ad 32)]) (n := 2) (Nat.le_of_ble_eq_true rfl)
  rw [lg_entry_eq]
  generalize (lg_sl ([.ref (ad 32)]) ++ List.replicate (2 - (lg_sl ([.ref (ad 32)])).length) Slot.unset).toArray = ls at hl ⊢
  have hl : lv_has ls 2 [(0, .ref (ad 32))] := hl
  have C : dc_C p s m _ meth c cX3_sameBars (some .boolean) 2 RX3 wsX3_sameBars D ty eo A := ⟨hx, hb, hr, hts, hown, hlocks, hml, hK, hN, hE, hA⟩
  unfold zX3_sameBars_s32 at h
  refine lv_iconst (v := 0) hx hb dX3_sameBars_0 (by decide) ?_
  refine lv_istore_n (lv' := [(1, .int 0), (0, .ref (ad 32))]) hx hb dX3_sameBars_1 rfl hl (by decide) rfl (fun ls hl => ?_)
  exact WX3_sameBars_s32_2 C  _ _ _ _ _ _ h hP hD hS (lv_sub hl [1, 0] rfl)

set_option maxHeartbeats 4000000 in
set_option maxRecDepth 100000 in
theorem WX3_isOrdered_s32_34 {p : Program} {l : Launch} {e : Env} {s : State} {m : MethodId} {args : Array Value} {below : List Frame} {meth : Method} {c : Code} {D : va_G} {ty : Nat → ClassId} {eo : Nat → Nat} {A : Nat → Prop} {ad : Nat → Nat} {o1 : Int32} {o2 : dK} (C : dc_C p s m args meth c cX3_isOrdered (some .boolean) 2 RX3 wsX3_isOrdered D ty eo A)   (q : dK) (y0 : Int32) (H : Heap) (locs : List Loc) (ls : Array Slot) (h : zX3_isOrdered_s32_34  q y0 = some (o1, o2)) (hP : va_P D vwCl (wF ty ad q) H) (hD : va_D A (wF ty ad q)) (hS : va_S A s.heap H locs) (hl : lv_has ls 2 []) : W p l e ({ frames := 0, cells := 0, slots := 0, locals := 0 } : Room) s m args below meth c H locs 0 0 (MQ below (va_Qi (fun (r : Int32) (u : va_W) => o1 = r ∧ wF ty ad o2 = u) (kz_B D ty A) A) args s 0 0 A) (F0 m 34 ls [.int y0]) := by
  have C0 := C
  obtain ⟨hx, hb, hr, hts, hown, hlocks, hml, hK, hN, hE, hA⟩ := C
  unfold zX3_isOrdered_s32_34 at h
  obtain ⟨g1, h⟩ := dG_some h
  cases h
  exact kz_zret hx hb hr hlocks (dbl_nar g1) hP hK hD hS dX3_isOrdered_34 ⟨rfl, rfl⟩
set_option maxHeartbeats 4000000 in
set_option maxRecDepth 100000 in
theorem qX3_isOrdered_s32 (l : Launch) (D : va_G) (ty : Nat → ClassId) (eo : Nat → Nat) (sz : Nat) (ad : Nat → Nat) (q : dK) (p1 : Int32) (o1 : Int32) (o2 : dK) (h : zX3_isOrdered_s32 q p1 = some (o1, o2)) : Met l yX3_isOrdered wsX3_isOrdered ({ frames := 0, cells := 0, slots := 0, locals := 0 } : Room) (va_Pc [.ref (ad 32), .int p1] (kz_pre D ty eo (wF ty ad q) sz)) (va_Qi (fun (r : Int32) (u : va_W) => o1 = r ∧ wF ty ad o2 = u) (kz_B D ty (va_A (wF ty ad q) sz)) (va_A (wF ty ad q) sz)) 0 0 (va_A (wF ty ad q) sz) := by
  refine Met.ofW (cc := cX3_isOrdered) (maxL := 2) (ret := (some .boolean)) (by decide) rfl ?_
  intro p e s m args below meth c s₁ B hml hv
  obtain ⟨rfl, hsz, hP, hK, hD0, hN, hE⟩ := hv
  have hx := B.exec
  have hb := B.bytes
  have hr := B.returns
  have hts := atoms_spec (ws := wsX3_isOrdered) B.pre
  have hown : s.vm.findClass RX3 = some m.cls := findClass_of_methodNamed B.named
  have hlocks := B.notSynchronized
  subst hsz
  have hD := hD0.self (sz := s.heap.size)
  generalize hAe : va_A (wF ty ad q) s.heap.size = A at hD hE ⊢
  have hA : ∀ q : Nat, s.heap.size ≤ q → A q := fun q h => by rw [← hAe]; exact Or.inr h
  clear hAe
  have hS : va_S A s.heap s.heap [] := va_S.rf
  have hl := lv_entry ([.ref (ad 32), .int p1]) (n := 2) (Nat.le_of_ble_eq_true rfl)
  rw [lg_entry_eq]
  generalize (lg_sl ([.ref (ad 32), .int p1]) ++ List.replicate (2 - (lg_sl ([.ref (ad 32), .int p1])).length) Slot.unset).toArray = ls at hl ⊢
  have hl : lv_has ls 2 [(0, .ref (ad 32)), (1, .int p1)] := hl
  have C : dc_C p s m _ meth c cX3_isOrdered (some .boolean) 2 RX3 wsX3_isOrdered D ty eo A := ⟨hx, hb, hr, hts, hown, hlocks, hml, hK, hN, hE, hA⟩
  unfold zX3_isOrdered_s32 at h
  refine lv_aload_n hx hb dX3_isOrdered_0 rfl (lv_at hl 0 rfl) ?_
  refine va_get (D := D) (ci := 3) (v := .int (q.1 32 16)) (C := RX3) (T := TX3) (N := 20) hx hb hts u9_wsX3_isOrdered_X3 hown hK hP 32 rfl rfl 16 (by decide) (hts (.fieldLink RX3 61 "TurnedFloors$Paper" "headsMatter" "I") f9_wsX3_isOrdered_770) (fun _ h9 => h9) rfl dX3_isOrdered_1 ?_
  refine lv_iconst (v := 1) hx hb dX3_isOrdered_4 (by decide) ?_
  refine lv_icmp_ne (tgt := 20) hx hb dX3_isOrdered_5 (by decide) (fun c9 => ?_) (fun c9 => ?_)
  · rw [if_neg c9] at h
    refine lv_iload_n hx hb dX3_isOrdered_20 rfl (lv_at hl 1 rfl) ?_
    refine lv_aload_n hx hb dX3_isOrdered_21 rfl (lv_at hl 0 rfl) ?_
    refine va_get (D := D) (ci := 3) (v := .int (q.1 32 13)) (C := RX3) (T := TX3) (N := 20) hx hb hts u9_wsX3_isOrdered_X3 hown hK hP 32 rfl rfl 13 (by decide) (hts (.fieldLink RX3 51 "TurnedFloors$Paper" "floors" "I") f9_wsX3_isOrdered_771) (fun _ h9 => h9) rfl dX3_isOrdered_22 ?_
    refine lv_ishr hx hb dX3_isOrdered_25 ?_
    refine lv_if_ne (tgt := 33) hx hb dX3_isOrdered_26 (by decide) (fun c9 => ?_) (fun c9 => ?_)
    · rw [if_neg c9] at h
      refine lv_iconst (v := 0) hx hb dX3_isOrdered_33 (by decide) ?_
      exact WX3_isOrdered_s32_34 C  _ _ _ _ _ h hP hD hS (lv_sub hl [] rfl)
    · rw [if_pos c9] at h
      refine lv_iconst (v := 1) hx hb dX3_isOrdered_29 (by decide) ?_
      refine lv_goto (tgt := 34) hx hb dX3_isOrdered_30 (by decide) ?_
      exact WX3_isOrdered_s32_34 C  _ _ _ _ _ h hP hD hS (lv_sub hl [] rfl)
  · rw [if_pos c9] at h
    refine lv_iload_n hx hb dX3_isOrdered_8 rfl (lv_at hl 1 rfl) ?_
    refine lv_if_ne (tgt := 16) hx hb dX3_isOrdered_9 (by decide) (fun c9 => ?_) (fun c9 => ?_)
    · rw [if_neg c9] at h
      refine lv_iconst (v := 0) hx hb dX3_isOrdered_16 (by decide) ?_
      refine lv_goto (tgt := 34) hx hb dX3_isOrdered_17 (by decide) ?_
      exact WX3_isOrdered_s32_34 C  _ _ _ _ _ h hP hD hS (lv_sub hl [] rfl)
    · rw [if_pos c9] at h
      refine lv_iconst (v := 1) hx hb dX3_isOrdered_12 (by decide) ?_
      refine lv_goto (tgt := 34) hx hb dX3_isOrdered_13 (by decide) ?_
      exact WX3_isOrdered_s32_34 C  _ _ _ _ _ h hP hD hS (lv_sub hl [] rfl)

set_option maxHeartbeats 4000000 in
set_option maxRecDepth 100000 in
theorem WX3_turned_s32_84 {p : Program} {l : Launch} {e : Env} {s : State} {m : MethodId} {args : Array Value} {below : List Frame} {meth : Method} {c : Code} {D : va_G} {ty : Nat → ClassId} {eo : Nat → Nat} {A : Nat → Prop} {ad : Nat → Nat} {o1 : Int32} {o2 : dK} (C : dc_C p s m args meth c cX3_turned (some .int) 6 RX3 wsX3_turned D ty eo A)   (q : dK) (y0 : Int32) (H : Heap) (locs : List Loc) (ls : Array Slot) (h : zX3_turned_s32_84  q y0 = some (o1, o2)) (hP : va_P D vwCl (wF ty ad q) H) (hD : va_D A (wF ty ad q)) (hS : va_S A s.heap H locs) (hl : lv_has ls 6 []) : W p l e ({ frames := 0, cells := 0, slots := 0, locals := 0 } : Room) s m args below meth c H locs 0 0 (MQ below (va_Qi (fun (r : Int32) (u : va_W) => o1 = r ∧ wF ty ad o2 = u) (kz_B D ty A) A) args s 0 0 A) (F0 m 84 ls [.int y0]) := by
  have C0 := C
  obtain ⟨hx, hb, hr, hts, hown, hlocks, hml, hK, hN, hE, hA⟩ := C
  unfold zX3_turned_s32_84 at h
  cases h
  exact kz_iret hx hb hr hlocks hP hK hD hS dX3_turned_84 ⟨rfl, rfl⟩
set_option maxHeartbeats 4000000 in
set_option maxRecDepth 100000 in
theorem WX3_turned_s32_13 {p : Program} {l : Launch} {e : Env} {s : State} {m : MethodId} {args : Array Value} {below : List Frame} {meth : Method} {c : Code} {D : va_G} {ty : Nat → ClassId} {eo : Nat → Nat} {A : Nat → Prop} {ad : Nat → Nat} {o1 : Int32} {o2 : dK} (C : dc_C p s m args meth c cX3_turned (some .int) 6 RX3 wsX3_turned D ty eo A)   (q : dK) (x1 : Int32) (H : Heap) (locs : List Loc) (ls : Array Slot) (h : zX3_turned_s32_13  q x1 = some (o1, o2)) (hP : va_P D vwCl (wF ty ad q) H) (hD : va_D A (wF ty ad q)) (hS : va_S A s.heap H locs) (hl : lv_has ls 6 [(1, .int x1)]) : W p l e ({ frames := 0, cells := 0, slots := 0, locals := 0 } : Room) s m args below meth c H locs 0 0 (MQ below (va_Qi (fun (r : Int32) (u : va_W) => o1 = r ∧ wF ty ad o2 = u) (kz_B D ty A) A) args s 0 0 A) (F0 m 13 ls []) := by
  have C0 := C
  obtain ⟨hx, hb, hr, hts, hown, hlocks, hml, hK, hN, hE, hA⟩ := C
  unfold zX3_turned_s32_13 at h
  refine lv_iload_n hx hb dX3_turned_13 rfl (lv_at hl 0 rfl) ?_
  cases h
  exact kz_iret hx hb hr hlocks hP hK hD hS dX3_turned_14 ⟨rfl, rfl⟩
set_option maxHeartbeats 4000000 in
set_option maxRecDepth 100000 in
theorem qX3_turned_s32 (l : Launch) (D : va_G) (ty : Nat → ClassId) (eo : Nat → Nat) (sz : Nat) (ad : Nat → Nat) (q : dK) (p1 : Int32) (p2 : Int32) (o1 : Int32) (o2 : dK) (h : zX3_turned_s32 q p1 p2 = some (o1, o2)) : Met l yX3_turned wsX3_turned ({ frames := 0, cells := 0, slots := 0, locals := 0 } : Room) (va_Pc [.ref (ad 32), .int p1, .int p2] (kz_pre D ty eo (wF ty ad q) sz)) (va_Qi (fun (r : Int32) (u : va_W) => o1 = r ∧ wF ty ad o2 = u) (kz_B D ty (va_A (wF ty ad q) sz)) (va_A (wF ty ad q) sz)) 0 0 (va_A (wF ty ad q) sz) := by
  refine Met.ofW (cc := cX3_turned) (maxL := 6) (ret := (some .int)) (by decide) rfl ?_
  intro p e s m args below meth c s₁ B hml hv
  obtain ⟨rfl, hsz, hP, hK, hD0, hN, hE⟩ := hv
  have hx := B.exec
  have hb := B.bytes
  have hr := B.returns
  have hts := atoms_spec (ws := wsX3_turned) B.pre
  have hown : s.vm.findClass RX3 = some m.cls := findClass_of_methodNamed B.named
  have hlocks := B.notSynchronized
  subst hsz
  have hD := hD0.self (sz := s.heap.size)
  generalize hAe : va_A (wF ty ad q) s.heap.size = A at hD hE ⊢
  have hA : ∀ q : Nat, s.heap.size ≤ q → A q := fun q h => by rw [← hAe]; exact Or.inr h
  clear hAe
  have hS : va_S A s.heap s.heap [] := va_S.rf
  have hl := lv_entry ([.ref (ad 32), .int p1, .int p2]) (n := 6) (Nat.le_of_ble_eq_true rfl)
  rw [lg_entry_eq]
  generalize (lg_sl ([.ref (ad 32), .int p1, .int p2]) ++ List.replicate (6 - (lg_sl ([.ref (ad 32), .int p1, .int p2])).length) Slot.unset).toArray = ls at hl ⊢
  have hl : lv_has ls 6 [(0, .ref (ad 32)), (1, .int p1), (2, .int p2)] := hl
  have C : dc_C p s m _ meth c cX3_turned (some .int) 6 RX3 wsX3_turned D ty eo A := ⟨hx, hb, hr, hts, hown, hlocks, hml, hK, hN, hE, hA⟩
  unfold zX3_turned_s32 at h
  refine lv_iload_n hx hb dX3_turned_0 rfl (lv_at hl 2 rfl) ?_
  refine lv_iconst (v := 1) hx hb dX3_turned_1 (by decide) ?_
  refine lv_icmp_lt (tgt := 13) hx hb dX3_turned_2 (by decide) (fun c9 => ?_) (fun c9 => ?_)
  · rw [if_pos c9] at h
    exact WX3_turned_s32_13 C  _ _ _ _ _ h hP hD hS (lv_sub hl [1] rfl)
  · rw [if_neg c9] at h
    refine lv_iload_n hx hb dX3_turned_5 rfl (lv_at hl 2 rfl) ?_
    refine lv_aload_n hx hb dX3_turned_6 rfl (lv_at hl 0 rfl) ?_
    refine va_get (D := D) (ci := 3) (v := .int (q.1 32 13)) (C := RX3) (T := TX3) (N := 20) hx hb hts u9_wsX3_turned_X3 hown hK hP 32 rfl rfl 13 (by decide) (hts (.fieldLink RX3 51 "TurnedFloors$Paper" "floors" "I") f9_wsX3_turned_773) (fun _ h9 => h9) rfl dX3_turned_7 ?_
    refine lv_icmp_le (tgt := 15) hx hb dX3_turned_10 (by decide) (fun c9 => ?_) (fun c9 => ?_)
    · rw [if_pos c9] at h
      refine lv_iload_n hx hb dX3_turned_15 rfl (lv_at hl 1 rfl) ?_
      refine lv_iconst (v := 1) hx hb dX3_turned_16 (by decide) ?_
      refine lv_aload_n hx hb dX3_turned_17 rfl (lv_at hl 0 rfl) ?_
      refine va_get (D := D) (ci := 3) (v := .int (q.1 32 13)) (C := RX3) (T := TX3) (N := 20) hx hb hts u9_wsX3_turned_X3 hown hK hP 32 rfl rfl 13 (by decide) (hts (.fieldLink RX3 51 "TurnedFloors$Paper" "floors" "I") f9_wsX3_turned_773) (fun _ h9 => h9) rfl dX3_turned_18 ?_
      refine lv_ishl hx hb dX3_turned_21 ?_
      refine lv_iconst (v := 1) hx hb dX3_turned_22 (by decide) ?_
      refine lv_isub hx hb dX3_turned_23 ?_
      refine lv_iand hx hb dX3_turned_24 ?_
      obtain ⟨v1, ev1, h⟩ := dL_some h
      refine kz_topi v1 ev1 ?_
      refine lv_istore_n (lv' := [(3, .int v1), (0, .ref (ad 32)), (1, .int p1), (2, .int p2)]) hx hb dX3_turned_25 rfl hl (by decide) rfl (fun ls hl => ?_)
      refine lv_aload_n hx hb dX3_turned_26 rfl (lv_at hl 1 rfl) ?_
      refine va_get (D := D) (ci := 3) (v := .ref (ad 40)) (C := RX3) (T := TX3) (N := 20) hx hb hts u9_wsX3_turned_X3 hown hK hP 32 rfl rfl 7 (by decide) (hts (.fieldLink RX3 33 "TurnedFloors$Paper" "turnedOrders" "[I") f9_wsX3_turned_774) (fun _ h9 => h9) rfl dX3_turned_27 ?_
      refine lv_iload_n hx hb dX3_turned_30 rfl (lv_at hl 2 rfl) ?_
      refine lv_aload_n hx hb dX3_turned_31 rfl (lv_at hl 1 rfl) ?_
      refine va_get (D := D) (ci := 3) (v := .int (q.1 32 13)) (C := RX3) (T := TX3) (N := 20) hx hb hts u9_wsX3_turned_X3 hown hK hP 32 rfl rfl 13 (by decide) (hts (.fieldLink RX3 51 "TurnedFloors$Paper" "floors" "I") f9_wsX3_turned_773) (fun _ h9 => h9) rfl dX3_turned_32 ?_
      refine lv_ishr hx hb dX3_turned_35 ?_
      refine lv_bipush (v := 6) hx hb dX3_turned_36 (by decide) ?_
      refine lv_imul hx hb dX3_turned_38 ?_
      refine lv_iload_n hx hb dX3_turned_39 rfl (lv_at hl 3 rfl) ?_
      refine lv_iadd hx hb dX3_turned_40 ?_
      refine lv_iconst (v := 1) hx hb dX3_turned_41 (by decide) ?_
      refine lv_isub hx hb dX3_turned_42 ?_
      obtain ⟨v2, ev2, h⟩ := dL_some h
      refine kz_topi v2 ev2 ?_
      obtain ⟨g3, h⟩ := dG_some h
      refine va_iald hx hb hK hP 40 0 rfl rfl (dg_in g3) dX3_turned_43 ?_
      obtain ⟨v4, ev4, h⟩ := dL_some h
      refine kz_topi v4 ev4 ?_
      refine lv_istore (lv' := [(4, .int v4), (3, .int v1), (0, .ref (ad 32)), (1, .int p1), (2, .int p2)]) hx hb dX3_turned_44 hl (by decide) rfl (fun ls hl => ?_)
      refine lv_iload hx hb dX3_turned_46 (lv_at hl 0 rfl) ?_
      refine lv_aload_n hx hb dX3_turned_48 rfl (lv_at hl 2 rfl) ?_
      refine va_get (D := D) (ci := 3) (v := .int (q.1 32 13)) (C := RX3) (T := TX3) (N := 20) hx hb hts u9_wsX3_turned_X3 hown hK hP 32 rfl rfl 13 (by decide) (hts (.fieldLink RX3 51 "TurnedFloors$Paper" "floors" "I") f9_wsX3_turned_773) (fun _ h9 => h9) rfl dX3_turned_49 ?_
      refine lv_ishl hx hb dX3_turned_52 ?_
      refine lv_aload_n hx hb dX3_turned_53 rfl (lv_at hl 2 rfl) ?_
      refine va_get (D := D) (ci := 3) (v := .ref (ad 41)) (C := RX3) (T := TX3) (N := 20) hx hb hts u9_wsX3_turned_X3 hown hK hP 32 rfl rfl 8 (by decide) (hts (.fieldLink RX3 36 "TurnedFloors$Paper" "turnedHeads" "[I") f9_wsX3_turned_775) (fun _ h9 => h9) rfl dX3_turned_54 ?_
      refine lv_iload_n hx hb dX3_turned_57 rfl (lv_at hl 1 rfl) ?_
      refine lv_bipush (v := 6) hx hb dX3_turned_58 (by decide) ?_
      refine lv_imul hx hb dX3_turned_60 ?_
      refine lv_iload_n hx hb dX3_turned_61 rfl (lv_at hl 4 rfl) ?_
      refine lv_iadd hx hb dX3_turned_62 ?_
      refine lv_iconst (v := 1) hx hb dX3_turned_63 (by decide) ?_
      refine lv_isub hx hb dX3_turned_64 ?_
      obtain ⟨g5, h⟩ := dG_some h
      refine va_iald hx hb hK hP 41 0 rfl rfl (dg_in g5) dX3_turned_65 ?_
      obtain ⟨v6, ev6, h⟩ := dL_some h
      refine kz_topi v6 ev6 ?_
      refine lv_ior hx hb dX3_turned_66 ?_
      refine lv_istore (lv' := [(5, .int ((v4 <<< ((q.1 32 13 : Int32) &&& 31)) ||| v6)), (4, .int v4), (3, .int v1), (0, .ref (ad 32)), (1, .int p1), (2, .int p2)]) hx hb dX3_turned_67 hl (by decide) rfl (fun ls hl => ?_)
      refine lv_iload hx hb dX3_turned_69 (lv_at hl 0 rfl) ?_
      refine lv_aload_n hx hb dX3_turned_71 rfl (lv_at hl 3 rfl) ?_
      refine va_get (D := D) (ci := 3) (v := .int (q.1 32 14)) (C := RX3) (T := TX3) (N := 20) hx hb hts u9_wsX3_turned_X3 hown hK hP 32 rfl rfl 14 (by decide) (hts (.fieldLink RX3 55 "TurnedFloors$Paper" "size" "I") f9_wsX3_turned_776) (fun _ h9 => h9) rfl dX3_turned_72 ?_
      refine lv_icmp_ge (tgt := 83) hx hb dX3_turned_75 (by decide) (fun c9 => ?_) (fun c9 => ?_)
      · rw [if_pos c9] at h
        refine lv_iload_n hx hb dX3_turned_83 rfl (lv_at hl 4 rfl) ?_
        exact WX3_turned_s32_84 C  _ _ _ _ _ h hP hD hS (lv_sub hl [] rfl)
      · rw [if_neg c9] at h
        refine lv_iload hx hb dX3_turned_78 (lv_at hl 0 rfl) ?_
        refine lv_goto (tgt := 84) hx hb dX3_turned_80 (by decide) ?_
        exact WX3_turned_s32_84 C  _ _ _ _ _ h hP hD hS (lv_sub hl [] rfl)
    · rw [if_neg c9] at h
      exact WX3_turned_s32_13 C  _ _ _ _ _ h hP hD hS (lv_sub hl [1] rfl)

set_option maxHeartbeats 4000000 in
set_option maxRecDepth 100000 in
theorem WX3_caseOf_s32_33 {p : Program} {l : Launch} {e : Env} {s : State} {m : MethodId} {args : Array Value} {below : List Frame} {meth : Method} {c : Code} {D : va_G} {ty : Nat → ClassId} {eo : Nat → Nat} {A : Nat → Prop} {ad : Nat → Nat} {o1 : Int32} {o2 : dK} (C : dc_C p s m args meth c cX3_caseOf (some .int) 5 RX3 wsX3_caseOf D ty eo A)   (q : dK) (x1 : Int32) (x2 : Int32) (x3 : Int32) (y0 : Int32) (H : Heap) (locs : List Loc) (ls : Array Slot) (h : zX3_caseOf_s32_33  q x1 x2 x3 y0 = some (o1, o2)) (hP : va_P D vwCl (wF ty ad q) H) (hD : va_D A (wF ty ad q)) (hS : va_S A s.heap H locs) (hl : lv_has ls 5 [(1, .int x1), (2, .int x2), (3, .int x3)]) : W p l e ({ frames := 1, cells := 0, slots := 0, locals := 23 } : Room) s m args below meth c H locs 0 0 (MQ below (va_Qi (fun (r : Int32) (u : va_W) => o1 = r ∧ wF ty ad o2 = u) (kz_B D ty A) A) args s 0 0 A) (F0 m 33 ls [.int y0]) := by
  have C0 := C
  obtain ⟨hx, hb, hr, hts, hown, hlocks, hml, hK, hN, hE, hA⟩ := C
  unfold zX3_caseOf_s32_33 at h
  refine lv_istore (lv' := [(4, .int y0), (1, .int x1), (2, .int x2), (3, .int x3)]) hx hb dX3_caseOf_33 hl (by decide) rfl (fun ls hl => ?_)
  refine lv_iload_n hx hb dX3_caseOf_35 rfl (lv_at hl 2 rfl) ?_
  refine lv_iload_n hx hb dX3_caseOf_36 rfl (lv_at hl 3 rfl) ?_
  refine lv_bipush (v := 7) hx hb dX3_caseOf_37 (by decide) ?_
  refine lv_iand hx hb dX3_caseOf_39 ?_
  refine lv_iload hx hb dX3_caseOf_40 (lv_at hl 0 rfl) ?_
  refine lv_iload_n hx hb dX3_caseOf_42 rfl (lv_at hl 1 rfl) ?_
  refine lv_iconst (v := 1) hx hb dX3_caseOf_43 (by decide) ?_
  refine lv_iand hx hb dX3_caseOf_44 ?_
  obtain ⟨r1, h2, h⟩ := dV_some h
  refine dw_ks (va_runS (As := [.int x2, .int (x3 &&& 7 : Int32), .int y0, .int (x1 &&& 1 : Int32)]) (rest := []) ⟨hx, hb, hml, hown, hts⟩ (qX3_caseNumber l D ty eo _ x2 (x3 &&& 7 : Int32) y0 (x1 &&& 1 : Int32) _ h2) (va_cwS 4 hts gX3_caseOf_X3_caseNumber rfl rfl rfl (by decide +kernel) ⟨Nat.le_of_ble_eq_true rfl, Nat.le_of_ble_eq_true rfl⟩) (kz_preS hK hN hE hP hD hS hA [] (by decide) rfl) rfl rfl hl.1 rfl (lv_room (Nat.le_of_ble_eq_true rfl)) dX3_caseOf_45 ⟨Nat.le_of_ble_eq_true rfl, Nat.le_of_ble_eq_true rfl⟩) hP hD hS hA (fun _ _ h9 => h9.2.symm) (fun r9 u9 H locs hw hp hd hs => ?_)
  obtain ⟨rfl, -⟩ := hw
  clear hP hD hS
  have hP := hp; have hD := hd; have hS := hs; clear hp hd hs
  cases h
  exact kz_iret hx hb hr hlocks hP hK hD hS dX3_caseOf_48 ⟨rfl, rfl⟩
set_option maxHeartbeats 4000000 in
set_option maxRecDepth 100000 in
theorem qX3_caseOf_s32 (l : Launch) (D : va_G) (ty : Nat → ClassId) (eo : Nat → Nat) (sz : Nat) (ad : Nat → Nat) (q : dK) (p1 : Int32) (p2 : Int32) (o1 : Int32) (o2 : dK) (h : zX3_caseOf_s32 q p1 p2 = some (o1, o2)) : Met l yX3_caseOf wsX3_caseOf ({ frames := 1, cells := 0, slots := 0, locals := 23 } : Room) (va_Pc [.ref (ad 32), .int p1, .int p2] (kz_pre D ty eo (wF ty ad q) sz)) (va_Qi (fun (r : Int32) (u : va_W) => o1 = r ∧ wF ty ad o2 = u) (kz_B D ty (va_A (wF ty ad q) sz)) (va_A (wF ty ad q) sz)) 0 0 (va_A (wF ty ad q) sz) := by
  refine Met.ofW (cc := cX3_caseOf) (maxL := 5) (ret := (some .int)) (by decide) rfl ?_
  intro p e s m args below meth c s₁ B hml hv
  obtain ⟨rfl, hsz, hP, hK, hD0, hN, hE⟩ := hv
  have hx := B.exec
  have hb := B.bytes
  have hr := B.returns
  have hts := atoms_spec (ws := wsX3_caseOf) B.pre
  have hown : s.vm.findClass RX3 = some m.cls := findClass_of_methodNamed B.named
  have hlocks := B.notSynchronized
  subst hsz
  have hD := hD0.self (sz := s.heap.size)
  generalize hAe : va_A (wF ty ad q) s.heap.size = A at hD hE ⊢
  have hA : ∀ q : Nat, s.heap.size ≤ q → A q := fun q h => by rw [← hAe]; exact Or.inr h
  clear hAe
  have hS : va_S A s.heap s.heap [] := va_S.rf
  have hl := lv_entry ([.ref (ad 32), .int p1, .int p2]) (n := 5) (Nat.le_of_ble_eq_true rfl)
  rw [lg_entry_eq]
  generalize (lg_sl ([.ref (ad 32), .int p1, .int p2]) ++ List.replicate (5 - (lg_sl ([.ref (ad 32), .int p1, .int p2])).length) Slot.unset).toArray = ls at hl ⊢
  have hl : lv_has ls 5 [(0, .ref (ad 32)), (1, .int p1), (2, .int p2)] := hl
  have C : dc_C p s m _ meth c cX3_caseOf (some .int) 5 RX3 wsX3_caseOf D ty eo A := ⟨hx, hb, hr, hts, hown, hlocks, hml, hK, hN, hE, hA⟩
  unfold zX3_caseOf_s32 at h
  refine lv_aload_n hx hb dX3_caseOf_0 rfl (lv_at hl 0 rfl) ?_
  refine va_get (D := D) (ci := 3) (v := .ref (ad 39)) (C := RX3) (T := TX3) (N := 20) hx hb hts u9_wsX3_caseOf_X3 hown hK hP 32 rfl rfl 6 (by decide) (hts (.fieldLink RX3 30 "TurnedFloors$Paper" "orders" "[I") f9_wsX3_caseOf_778) (fun _ h9 => h9) rfl dX3_caseOf_1 ?_
  refine lv_iload_n hx hb dX3_caseOf_4 rfl (lv_at hl 1 rfl) ?_
  refine lv_aload_n hx hb dX3_caseOf_5 rfl (lv_at hl 0 rfl) ?_
  refine va_get (D := D) (ci := 3) (v := .int (q.1 32 13)) (C := RX3) (T := TX3) (N := 20) hx hb hts u9_wsX3_caseOf_X3 hown hK hP 32 rfl rfl 13 (by decide) (hts (.fieldLink RX3 51 "TurnedFloors$Paper" "floors" "I") f9_wsX3_caseOf_779) (fun _ h9 => h9) rfl dX3_caseOf_6 ?_
  refine lv_ishr hx hb dX3_caseOf_9 ?_
  obtain ⟨g1, h⟩ := dG_some h
  refine va_iald hx hb hK hP 39 0 rfl rfl (dg_in g1) dX3_caseOf_10 ?_
  obtain ⟨v2, ev2, h⟩ := dL_some h
  refine kz_topi v2 ev2 ?_
  refine lv_istore_n (lv' := [(3, .int v2), (0, .ref (ad 32)), (1, .int p1), (2, .int p2)]) hx hb dX3_caseOf_11 rfl hl (by decide) rfl (fun ls hl => ?_)
  refine lv_iload_n hx hb dX3_caseOf_12 rfl (lv_at hl 3 rfl) ?_
  refine lv_aload_n hx hb dX3_caseOf_13 rfl (lv_at hl 1 rfl) ?_
  refine va_get (D := D) (ci := 3) (v := .int (q.1 32 13)) (C := RX3) (T := TX3) (N := 20) hx hb hts u9_wsX3_caseOf_X3 hown hK hP 32 rfl rfl 13 (by decide) (hts (.fieldLink RX3 51 "TurnedFloors$Paper" "floors" "I") f9_wsX3_caseOf_779) (fun _ h9 => h9) rfl dX3_caseOf_14 ?_
  refine lv_icmp_ge (tgt := 31) hx hb dX3_caseOf_17 (by decide) (fun c9 => ?_) (fun c9 => ?_)
  · rw [if_pos c9] at h
    refine lv_bipush (v := 6) hx hb dX3_caseOf_31 (by decide) ?_
    exact WX3_caseOf_s32_33 C  _ _ _ _ _ _ _ _ h hP hD hS (lv_sub hl [2, 3, 0] rfl)
  · rw [if_neg c9] at h
    refine lv_iload_n hx hb dX3_caseOf_20 rfl (lv_at hl 0 rfl) ?_
    refine lv_iconst (v := 3) hx hb dX3_caseOf_21 (by decide) ?_
    refine lv_iload_n hx hb dX3_caseOf_22 rfl (lv_at hl 3 rfl) ?_
    refine lv_imul hx hb dX3_caseOf_23 ?_
    refine lv_ishr hx hb dX3_caseOf_24 ?_
    refine lv_bipush (v := 7) hx hb dX3_caseOf_25 (by decide) ?_
    refine lv_iand hx hb dX3_caseOf_27 ?_
    refine lv_goto (tgt := 33) hx hb dX3_caseOf_28 (by decide) ?_
    exact WX3_caseOf_s32_33 C  _ _ _ _ _ _ _ _ h hP hD hS (lv_sub hl [2, 3, 0] rfl)
