section
theorem u9_wsX10_cheapest_X10 : ∀ w ∈ u_ws RX10 TX10 56, w ∈ wsX10_cheapest := fun w h => List.mem_cons_of_mem _ (vW10_wsX100 w h)
theorem f9_wsX10_cheapest_224 : (Cond.fieldLink RX10 91 "TurnedFloorsModel" "dist" "[I") ∈ wsX10_cheapest := List.mem_cons_of_mem _ mvW10_330
theorem f9_wsX10_cheapest_225 : (Cond.fieldLink RX10 100 "TurnedFloorsModel" "waits" "[Z") ∈ wsX10_cheapest := List.mem_cons_of_mem _ mvW10_398
theorem f9_wsX10_cheapest_226 : (Cond.fieldLink RX10 97 "TurnedFloorsModel" "queue" "[I") ∈ wsX10_cheapest := List.mem_cons_of_mem _ mvW10_337
theorem f9_wsX10_cheapest_227 : (Cond.constant RX10 90 46080) ∈ wsX10_cheapest := List.mem_cons_of_mem _ mvW10_399
theorem f9_wsX10_cheapest_228 : (Cond.constant RX10 188 1000000) ∈ wsX10_cheapest := List.mem_cons_of_mem _ mvW10_172
theorem f9_wsX10_cheapest_229 : (Cond.fieldLink RX10 386 "TurnedFloorsModel" "orderMany" "I") ∈ wsX10_cheapest := List.mem_cons_of_mem _ mvW10_335
theorem u9_wsX10_laysReach_X10 : ∀ w ∈ u_ws RX10 TX10 56, w ∈ wsX10_laysReach := fun w h => List.mem_cons_of_mem _ (vW10_wsX100 w h)
theorem f9_wsX10_laysReach_231 : (Cond.fieldLink RX10 97 "TurnedFloorsModel" "queue" "[I") ∈ wsX10_laysReach := List.mem_cons_of_mem _ mvW10_337
theorem f9_wsX10_laysReach_232 : (Cond.fieldLink RX10 91 "TurnedFloorsModel" "dist" "[I") ∈ wsX10_laysReach := List.mem_cons_of_mem _ mvW10_330
theorem f9_wsX10_laysReach_233 : (Cond.constant RX10 188 1000000) ∈ wsX10_laysReach := List.mem_cons_of_mem _ mvW10_172
theorem f9_wsX10_laysReach_234 : (Cond.fieldLink RX10 386 "TurnedFloorsModel" "orderMany" "I") ∈ wsX10_laysReach := List.mem_cons_of_mem _ mvW10_335
theorem u9_wsX10_isOrder_X10 : ∀ w ∈ u_ws RX10 TX10 56, w ∈ wsX10_isOrder := fun w h => List.mem_cons_of_mem _ (vW10_wsX100 w h)
theorem f9_wsX10_isOrder_236 : (Cond.fieldLink RX10 84 "TurnedFloorsModel" "line" "[I") ∈ wsX10_isOrder := List.mem_cons_of_mem _ mvW10_349
theorem u9_wsX10_comes_X10 : ∀ w ∈ u_ws RX10 TX10 56, w ∈ wsX10_comes := fun w h => List.mem_cons_of_mem _ (vW10_wsX100 w h)
theorem f9_wsX10_comes_238 : (Cond.fieldLink RX10 389 "TurnedFloorsModel" "headMany" "I") ∈ wsX10_comes := List.mem_cons_of_mem _ mvW10_348
theorem f9_wsX10_comes_239 : (Cond.constant RX10 188 1000000) ∈ wsX10_comes := List.mem_cons_of_mem _ mvW10_172
theorem f9_wsX10_comes_240 : (Cond.fieldLink RX10 91 "TurnedFloorsModel" "dist" "[I") ∈ wsX10_comes := List.mem_cons_of_mem _ mvW10_330
set_option maxHeartbeats 4000000 in
set_option maxRecDepth 100000 in
theorem WX10_cheapest_259 {p : Program} {l : Launch} {e : Env} {s : State} {m : MethodId} {args : Array Value} {below : List Frame} {meth : Method} {c : Code} {D : va_G} {ty : Nat → ClassId} {eo : Nat → Nat} {A : Nat → Prop} {ad : Nat → Nat} {o1 : Int32} {o2 : dS} (C : dc_C p s m args meth c cX10_cheapest (some .int) 7 RX10 wsX10_cheapest D ty eo A)   (q : dS) (y0 : Int32) (H : Heap) (locs : List Loc) (ls : Array Slot) (h : zX10_cheapest_259  q y0 = some (o1, o2)) (hP : va_P D vwCl (w10 ty ad q) H) (hD : va_D A (w10 ty ad q)) (hS : va_S A s.heap H locs) (hl : lv_has ls 7 []) : W p l e ({ frames := 88, cells := 0, slots := 0, locals := 2247 } : Room) s m args below meth c H locs 0 0 (MQ below (va_Qi (fun (r : Int32) (u : va_W) => o1 = r ∧ w10 ty ad o2 = u) (kz_B D ty A) A) args s 0 0 A) (F0 m 259 ls [.int y0]) := by
  have C0 := C
  obtain ⟨hx, hb, hr, hts, hown, hlocks, hml, hK, hN, hE, hA⟩ := C
  unfold zX10_cheapest_259 at h
  cases h
  exact kz_iret hx hb hr hlocks hP hK hD hS dX10_cheapest_259 ⟨rfl, rfl⟩
set_option maxHeartbeats 4000000 in
set_option maxRecDepth 100000 in
theorem WX10_cheapest_229 {p : Program} {l : Launch} {e : Env} {s : State} {m : MethodId} {args : Array Value} {below : List Frame} {meth : Method} {c : Code} {D : va_G} {ty : Nat → ClassId} {eo : Nat → Nat} {A : Nat → Prop} {ad : Nat → Nat} {o1 : Int32} {o2 : dS} (C : dc_C p s m args meth c cX10_cheapest (some .int) 7 RX10 wsX10_cheapest D ty eo A) {k89 : dS → Int32 → Int32 → Option (Int32 × dS)} {k120 : dS → Int32 → Int32 → Int32 → Int32 → Option (Int32 × dS)} (hk89 : ∀ (q : dS) (x1 : Int32) (x2 : Int32) (H : Heap) (locs : List Loc) (ls : Array Slot), k89 q x1 x2 = some (o1, o2) → va_P D vwCl (w10 ty ad q) H → va_D A (w10 ty ad q) → va_S A s.heap H locs → lv_has ls 7 [(0, .ref (ad 0)), (1, .int x1), (2, .int x2)] → W p l e ({ frames := 88, cells := 0, slots := 0, locals := 2247 } : Room) s m args below meth c H locs 0 0 (MQ below (va_Qi (fun (r : Int32) (u : va_W) => o1 = r ∧ w10 ty ad o2 = u) (kz_B D ty A) A) args s 0 0 A) (F0 m 89 ls [])) (hk120 : ∀ (q : dS) (x1 : Int32) (x2 : Int32) (x3 : Int32) (x4 : Int32) (H : Heap) (locs : List Loc) (ls : Array Slot), k120 q x1 x2 x3 x4 = some (o1, o2) → va_P D vwCl (w10 ty ad q) H → va_D A (w10 ty ad q) → va_S A s.heap H locs → lv_has ls 7 [(0, .ref (ad 0)), (1, .int x1), (2, .int x2), (3, .int x3), (4, .int x4)] → W p l e ({ frames := 88, cells := 0, slots := 0, locals := 2247 } : Room) s m args below meth c H locs 0 0 (MQ below (va_Qi (fun (r : Int32) (u : va_W) => o1 = r ∧ w10 ty ad o2 = u) (kz_B D ty A) A) args s 0 0 A) (F0 m 120 ls [])) (q : dS) (x1 : Int32) (x2 : Int32) (x3 : Int32) (x4 : Int32) (H : Heap) (locs : List Loc) (ls : Array Slot) (h : zX10_cheapest_229 k89 k120 q x1 x2 x3 x4 = some (o1, o2)) (hP : va_P D vwCl (w10 ty ad q) H) (hD : va_D A (w10 ty ad q)) (hS : va_S A s.heap H locs) (hl : lv_has ls 7 [(0, .ref (ad 0)), (1, .int x1), (2, .int x2), (3, .int x3), (4, .int x4)]) : W p l e ({ frames := 88, cells := 0, slots := 0, locals := 2247 } : Room) s m args below meth c H locs 0 0 (MQ below (va_Qi (fun (r : Int32) (u : va_W) => o1 = r ∧ w10 ty ad o2 = u) (kz_B D ty A) A) args s 0 0 A) (F0 m 229 ls []) := by
  have C0 := C
  obtain ⟨hx, hb, hr, hts, hown, hlocks, hml, hK, hN, hE, hA⟩ := C
  unfold zX10_cheapest_229 at h
  refine lv_iinc (v := x4 + 1) (lv' := [(4, .int (x4 + 1)), (0, .ref (ad 0)), (1, .int x1), (2, .int x2), (3, .int x3)]) hx hb dX10_cheapest_229 hl (k := 4) rfl rfl (by decide) rfl (fun ls hl => ?_)
  refine lv_goto (tgt := 120) hx hb dX10_cheapest_232 (by decide) ?_
  exact hk120 _ _ _ _ _ _ _ _ h hP hD hS (lv_sub hl [1, 2, 3, 4, 0] rfl)
set_option maxHeartbeats 4000000 in
set_option maxRecDepth 100000 in
theorem WX10_cheapest_120b {p : Program} {l : Launch} {e : Env} {s : State} {m : MethodId} {args : Array Value} {below : List Frame} {meth : Method} {c : Code} {D : va_G} {ty : Nat → ClassId} {eo : Nat → Nat} {A : Nat → Prop} {ad : Nat → Nat} {o1 : Int32} {o2 : dS} (C : dc_C p s m args meth c cX10_cheapest (some .int) 7 RX10 wsX10_cheapest D ty eo A) {k89 : dS → Int32 → Int32 → Option (Int32 × dS)} {k120 : dS → Int32 → Int32 → Int32 → Int32 → Option (Int32 × dS)} (hk89 : ∀ (q : dS) (x1 : Int32) (x2 : Int32) (H : Heap) (locs : List Loc) (ls : Array Slot), k89 q x1 x2 = some (o1, o2) → va_P D vwCl (w10 ty ad q) H → va_D A (w10 ty ad q) → va_S A s.heap H locs → lv_has ls 7 [(0, .ref (ad 0)), (1, .int x1), (2, .int x2)] → W p l e ({ frames := 88, cells := 0, slots := 0, locals := 2247 } : Room) s m args below meth c H locs 0 0 (MQ below (va_Qi (fun (r : Int32) (u : va_W) => o1 = r ∧ w10 ty ad o2 = u) (kz_B D ty A) A) args s 0 0 A) (F0 m 89 ls [])) (hk120 : ∀ (q : dS) (x1 : Int32) (x2 : Int32) (x3 : Int32) (x4 : Int32) (H : Heap) (locs : List Loc) (ls : Array Slot), k120 q x1 x2 x3 x4 = some (o1, o2) → va_P D vwCl (w10 ty ad q) H → va_D A (w10 ty ad q) → va_S A s.heap H locs → lv_has ls 7 [(0, .ref (ad 0)), (1, .int x1), (2, .int x2), (3, .int x3), (4, .int x4)] → W p l e ({ frames := 88, cells := 0, slots := 0, locals := 2247 } : Room) s m args below meth c H locs 0 0 (MQ below (va_Qi (fun (r : Int32) (u : va_W) => o1 = r ∧ w10 ty ad o2 = u) (kz_B D ty A) A) args s 0 0 A) (F0 m 120 ls [])) (q : dS) (x1 : Int32) (x2 : Int32) (x3 : Int32) (x4 : Int32) (H : Heap) (locs : List Loc) (ls : Array Slot) (h : zX10_cheapest_120b k89 k120 q x1 x2 x3 x4 = some (o1, o2)) (hP : va_P D vwCl (w10 ty ad q) H) (hD : va_D A (w10 ty ad q)) (hS : va_S A s.heap H locs) (hl : lv_has ls 7 [(0, .ref (ad 0)), (1, .int x1), (2, .int x2), (3, .int x3), (4, .int x4)]) : W p l e ({ frames := 88, cells := 0, slots := 0, locals := 2247 } : Room) s m args below meth c H locs 0 0 (MQ below (va_Qi (fun (r : Int32) (u : va_W) => o1 = r ∧ w10 ty ad o2 = u) (kz_B D ty A) A) args s 0 0 A) (F0 m 120 ls []) := by
  have C0 := C
  obtain ⟨hx, hb, hr, hts, hown, hlocks, hml, hK, hN, hE, hA⟩ := C
  unfold zX10_cheapest_120b at h
  refine lv_iload hx hb dX10_cheapest_120 (lv_at hl 4 rfl) ?_
  refine lv_aload_n hx hb dX10_cheapest_122 rfl (lv_at hl 0 rfl) ?_
  obtain ⟨r1, q3, h2, h⟩ := dB_some h
  refine dw_ki (va_runV (As := []) (rest := [.int x4]) ⟨hx, hb, hml, hown, hts⟩ (qX10_size l D ty eo _ ad q  r1 q3 h2) (cwV 0 hts gX10_cheapest_X10_size rfl rfl rfl hd_X10_size_v ⟨Nat.le_of_ble_eq_true rfl, Nat.le_of_ble_eq_true rfl⟩) (pv10_10_0 hK hN hE hP hD hS hA) rfl rfl hl.1 rfl (lv_room (Nat.le_of_ble_eq_true rfl)) dX10_cheapest_123 ⟨Nat.le_of_ble_eq_true rfl, Nat.le_of_ble_eq_true rfl⟩) hD hS hA (fun r9 u9 H locs hw hp hd hs => ?_)
  clear hP hD hS
  obtain ⟨rfl, rfl⟩ := hw
  have hP := hp; have hD := hd; have hS := hs; clear hp hd hs
  refine lv_icmp_gt (tgt := 235) hx hb dX10_cheapest_126 (by decide) (fun c9 => ?_) (fun c9 => ?_)
  · rw [if_pos c9] at h
    refine lv_goto (tgt := 89) hx hb dX10_cheapest_235 (by decide) ?_
    exact hk89 _ _ _ _ _ _ h hP hD hS (lv_sub hl [0, 1, 2] rfl)
  · rw [if_neg c9] at h
    refine lv_aload_n hx hb dX10_cheapest_129 rfl (lv_at hl 0 rfl) ?_
    refine lv_iload_n hx hb dX10_cheapest_130 rfl (lv_at hl 3 rfl) ?_
    refine lv_iload hx hb dX10_cheapest_131 (lv_at hl 4 rfl) ?_
    obtain ⟨r4, q6, h5, h⟩ := dB_some h
    refine dw_ki (va_runV (As := [.int x3, .int x4]) (rest := []) ⟨hx, hb, hml, hown, hts⟩ (qX10_behind l D ty eo _ ad q3 x3 x4 r4 q6 h5) (cwV 2 hts gX10_cheapest_X10_behind rfl rfl rfl hd_X10_behind_v ⟨Nat.le_of_ble_eq_true rfl, Nat.le_of_ble_eq_true rfl⟩) (pv10_10_0 hK hN hE hP hD hS hA) rfl rfl hl.1 rfl (lv_room (Nat.le_of_ble_eq_true rfl)) dX10_cheapest_133 ⟨Nat.le_of_ble_eq_true rfl, Nat.le_of_ble_eq_true rfl⟩) hD hS hA (fun r9 u9 H locs hw hp hd hs => ?_)
    clear hP hD hS
    obtain ⟨rfl, rfl⟩ := hw
    have hP := hp; have hD := hd; have hS := hs; clear hp hd hs
    refine lv_istore (lv' := [(5, .int r4), (0, .ref (ad 0)), (1, .int x1), (2, .int x2), (3, .int x3), (4, .int x4)]) hx hb dX10_cheapest_136 hl (by decide) rfl (fun ls hl => ?_)
    refine lv_aload_n hx hb dX10_cheapest_138 rfl (lv_at hl 1 rfl) ?_
    refine lv_iload hx hb dX10_cheapest_139 (lv_at hl 0 rfl) ?_
    refine lv_iload hx hb dX10_cheapest_141 (lv_at hl 5 rfl) ?_
    obtain ⟨r7, q9, h8, h⟩ := dB_some h
    refine dw_ki (va_runV (As := [.int r4, .int x4]) (rest := []) ⟨hx, hb, hml, hown, hts⟩ (qX10_priceOf l D ty eo _ ad q6 r4 x4 r7 q9 h8) (cwV 2 hts gX10_cheapest_X10_priceOf rfl rfl rfl hd_X10_priceOf_v ⟨Nat.le_of_ble_eq_true rfl, Nat.le_of_ble_eq_true rfl⟩) (pv10_10_0 hK hN hE hP hD hS hA) rfl rfl hl.1 rfl (lv_room (Nat.le_of_ble_eq_true rfl)) dX10_cheapest_143 ⟨Nat.le_of_ble_eq_true rfl, Nat.le_of_ble_eq_true rfl⟩) hD hS hA (fun r9 u9 H locs hw hp hd hs => ?_)
    clear hP hD hS
    obtain ⟨rfl, rfl⟩ := hw
    have hP := hp; have hD := hd; have hS := hs; clear hp hd hs
    refine lv_istore (lv' := [(6, .int r7), (5, .int r4), (0, .ref (ad 0)), (1, .int x1), (2, .int x2), (3, .int x3), (4, .int x4)]) hx hb dX10_cheapest_146 hl (by decide) rfl (fun ls hl => ?_)
    refine lv_iload hx hb dX10_cheapest_148 (lv_at hl 0 rfl) ?_
    refine lv_iconst (v := (-1)) hx hb dX10_cheapest_150 (by decide) ?_
    refine lv_icmp_eq (tgt := 229) hx hb dX10_cheapest_151 (by decide) (fun c9 => ?_) (fun c9 => ?_)
    · rw [if_pos c9] at h
      exact WX10_cheapest_229 C0 hk89 hk120 _ _ _ _ _ _ _ _ h hP hD hS (lv_sub hl [2, 3, 4, 5, 6] rfl)
    · rw [if_neg c9] at h
      refine lv_aload_n hx hb dX10_cheapest_154 rfl (lv_at hl 2 rfl) ?_
      refine va_get (D := D) (ci := 10) (v := .ref (ad 21)) (C := RX10) (T := TX10) (N := 56) hx hb hts u9_wsX10_cheapest_X10 hown hK hP 0 rfl rfl 40 (by decide) (hts (.fieldLink RX10 91 "TurnedFloorsModel" "dist" "[I") f9_wsX10_cheapest_224) (fun _ h9 => h9) rfl dX10_cheapest_155 ?_
      refine lv_iload_n hx hb dX10_cheapest_158 rfl (lv_at hl 5 rfl) ?_
      obtain ⟨g10, h⟩ := dG_some h
      refine va_iald hx hb hK hP 21 0 rfl rfl (dg_in g10) dX10_cheapest_159 ?_
      obtain ⟨v11, ev11, h⟩ := dL_some h
      refine kz_topi v11 ev11 ?_
      refine lv_iload hx hb dX10_cheapest_160 (lv_at hl 0 rfl) ?_
      refine lv_iadd hx hb dX10_cheapest_162 ?_
      refine lv_aload_n hx hb dX10_cheapest_163 rfl (lv_at hl 2 rfl) ?_
      refine va_get (D := D) (ci := 10) (v := .ref (ad 21)) (C := RX10) (T := TX10) (N := 56) hx hb hts u9_wsX10_cheapest_X10 hown hK hP 0 rfl rfl 40 (by decide) (hts (.fieldLink RX10 91 "TurnedFloorsModel" "dist" "[I") f9_wsX10_cheapest_224) (fun _ h9 => h9) rfl dX10_cheapest_164 ?_
      refine lv_iload hx hb dX10_cheapest_167 (lv_at hl 1 rfl) ?_
      obtain ⟨g12, h⟩ := dG_some h
      refine va_iald hx hb hK hP 21 0 rfl rfl (dg_in g12) dX10_cheapest_169 ?_
      obtain ⟨v13, ev13, h⟩ := dL_some h
      refine kz_topi v13 ev13 ?_
      refine lv_icmp_lt (tgt := 176) hx hb dX10_cheapest_170 (by decide) (fun c9 => ?_) (fun c9 => ?_)
      · rw [if_pos c9] at h
        refine lv_aload_n hx hb dX10_cheapest_176 rfl (lv_at hl 2 rfl) ?_
        refine va_get (D := D) (ci := 10) (v := .ref (ad 21)) (C := RX10) (T := TX10) (N := 56) hx hb hts u9_wsX10_cheapest_X10 hown hK hP 0 rfl rfl 40 (by decide) (hts (.fieldLink RX10 91 "TurnedFloorsModel" "dist" "[I") f9_wsX10_cheapest_224) (fun _ h9 => h9) rfl dX10_cheapest_177 ?_
        refine lv_iload hx hb dX10_cheapest_180 (lv_at hl 1 rfl) ?_
        refine lv_aload_n hx hb dX10_cheapest_182 rfl (lv_at hl 2 rfl) ?_
        refine va_get (D := D) (ci := 10) (v := .ref (ad 21)) (C := RX10) (T := TX10) (N := 56) hx hb hts u9_wsX10_cheapest_X10 hown hK hP 0 rfl rfl 40 (by decide) (hts (.fieldLink RX10 91 "TurnedFloorsModel" "dist" "[I") f9_wsX10_cheapest_224) (fun _ h9 => h9) rfl dX10_cheapest_183 ?_
        refine lv_iload_n hx hb dX10_cheapest_186 rfl (lv_at hl 5 rfl) ?_
        obtain ⟨g14, h⟩ := dG_some h
        refine va_iald hx hb hK hP 21 0 rfl rfl (dg_in g14) dX10_cheapest_187 ?_
        obtain ⟨v15, ev15, h⟩ := dL_some h
        refine kz_topi v15 ev15 ?_
        refine lv_iload hx hb dX10_cheapest_188 (lv_at hl 0 rfl) ?_
        refine lv_iadd hx hb dX10_cheapest_190 ?_
        obtain ⟨g16, h⟩ := dG_some h
        refine va_iast hx hb hK hP hD hS 21 0 rfl rfl (dg_in g16) dX10_cheapest_191 (fun H locs hp hd hs => ?_)
        obtain ⟨q17, eq17, h⟩ := dL_some h
        refine kz_re (w2 := w10 ty ad q17) hp hd hs (by rw [← eq17]; exact w10_a21 ty ad q9 (Int32.toNatClampNeg r4) (v15 + r7)) ?_
        clear hp hd hs hP hD hS
        intro hP hD hS
        refine lv_aload_n hx hb dX10_cheapest_192 rfl (lv_at hl 2 rfl) ?_
        refine va_get (D := D) (ci := 10) (v := .ref (ad 24)) (C := RX10) (T := TX10) (N := 56) hx hb hts u9_wsX10_cheapest_X10 hown hK hP 0 rfl rfl 43 (by decide) (hts (.fieldLink RX10 100 "TurnedFloorsModel" "waits" "[Z") f9_wsX10_cheapest_225) (fun _ h9 => h9) rfl dX10_cheapest_193 ?_
        refine lv_iload hx hb dX10_cheapest_196 (lv_at hl 1 rfl) ?_
        obtain ⟨g18, h⟩ := dG_some h
        refine va_zald hx hb hK hP 24 2 rfl rfl (dg_in g18) dX10_cheapest_198 ?_
        obtain ⟨v19, ev19, h⟩ := dL_some h
        refine kz_topi v19 ev19 ?_
        refine lv_if_eq (tgt := 205) hx hb dX10_cheapest_199 (by decide) (fun c9 => ?_) (fun c9 => ?_)
        · rw [if_pos c9] at h
          refine lv_aload_n hx hb dX10_cheapest_205 rfl (lv_at hl 2 rfl) ?_
          refine va_get (D := D) (ci := 10) (v := .ref (ad 24)) (C := RX10) (T := TX10) (N := 56) hx hb hts u9_wsX10_cheapest_X10 hown hK hP 0 rfl rfl 43 (by decide) (hts (.fieldLink RX10 100 "TurnedFloorsModel" "waits" "[Z") f9_wsX10_cheapest_225) (fun _ h9 => h9) rfl dX10_cheapest_206 ?_
          refine lv_iload hx hb dX10_cheapest_209 (lv_at hl 1 rfl) ?_
          refine lv_iconst (v := 1) hx hb dX10_cheapest_211 (by decide) ?_
          obtain ⟨g20, h⟩ := dG_some h
          refine va_zast hx hb hK hP hD hS 24 2 rfl rfl (dg_in g20) dX10_cheapest_212 (fun H locs hp hd hs => ?_)
          obtain ⟨q21, eq21, h⟩ := dL_some h
          refine kz_re (w2 := w10 ty ad q21) hp hd hs (by rw [← eq21]; exact w10_a24 ty ad q17 (Int32.toNatClampNeg r4) (vp_nar .boolean 1)) ?_
          clear hp hd hs hP hD hS
          intro hP hD hS
          refine lv_aload_n hx hb dX10_cheapest_213 rfl (lv_at hl 2 rfl) ?_
          refine va_get (D := D) (ci := 10) (v := .ref (ad 23)) (C := RX10) (T := TX10) (N := 56) hx hb hts u9_wsX10_cheapest_X10 hown hK hP 0 rfl rfl 42 (by decide) (hts (.fieldLink RX10 97 "TurnedFloorsModel" "queue" "[I") f9_wsX10_cheapest_226) (fun _ h9 => h9) rfl dX10_cheapest_214 ?_
          refine lv_iload_n hx hb dX10_cheapest_217 rfl (lv_at hl 4 rfl) ?_
          refine lv_iload_n hx hb dX10_cheapest_218 rfl (lv_at hl 3 rfl) ?_
          refine lv_iadd hx hb dX10_cheapest_219 ?_
          refine lv_ldc (v := 46080) hx hb hown (hts (.constant RX10 90 46080) f9_wsX10_cheapest_227) dX10_cheapest_220 ?_
          refine lv_irem hx hb dX10_cheapest_222 (by decide) ?_
          refine lv_iload hx hb dX10_cheapest_223 (lv_at hl 1 rfl) ?_
          obtain ⟨g22, h⟩ := dG_some h
          refine va_iast hx hb hK hP hD hS 23 0 rfl rfl (dg_in g22) dX10_cheapest_225 (fun H locs hp hd hs => ?_)
          obtain ⟨q23, eq23, h⟩ := dL_some h
          refine kz_re (w2 := w10 ty ad q23) hp hd hs (by rw [← eq23]; exact w10_a23 ty ad q21 (Int32.toNatClampNeg ((x2 + x1) - (x2 + x1) / 46080 * 46080 : Int32)) r4) ?_
          clear hp hd hs hP hD hS
          intro hP hD hS
          refine lv_iinc (v := x1 + 1) (lv' := [(1, .int (x1 + 1)), (6, .int r7), (5, .int r4), (0, .ref (ad 0)), (2, .int x2), (3, .int x3), (4, .int x4)]) hx hb dX10_cheapest_226 hl (k := 3) rfl rfl (by decide) rfl (fun ls hl => ?_)
          exact WX10_cheapest_229 C0 hk89 hk120 _ _ _ _ _ _ _ _ h hP hD hS (lv_sub hl [3, 0, 4, 5, 6] rfl)
        · rw [if_neg c9] at h
          refine lv_goto (tgt := 229) hx hb dX10_cheapest_202 (by decide) ?_
          exact WX10_cheapest_229 C0 hk89 hk120 _ _ _ _ _ _ _ _ h hP hD hS (lv_sub hl [2, 3, 4, 5, 6] rfl)
      · rw [if_neg c9] at h
        refine lv_goto (tgt := 229) hx hb dX10_cheapest_173 (by decide) ?_
        exact WX10_cheapest_229 C0 hk89 hk120 _ _ _ _ _ _ _ _ h hP hD hS (lv_sub hl [2, 3, 4, 5, 6] rfl)
set_option maxHeartbeats 4000000 in
set_option maxRecDepth 100000 in
theorem WX10_cheapest_120 {p : Program} {l : Launch} {e : Env} {s : State} {m : MethodId} {args : Array Value} {below : List Frame} {meth : Method} {c : Code} {D : va_G} {ty : Nat → ClassId} {eo : Nat → Nat} {A : Nat → Prop} {ad : Nat → Nat} {o1 : Int32} {o2 : dS} (C : dc_C p s m args meth c cX10_cheapest (some .int) 7 RX10 wsX10_cheapest D ty eo A) {k89 : dS → Int32 → Int32 → Option (Int32 × dS)} (hk89 : ∀ (q : dS) (x1 : Int32) (x2 : Int32) (H : Heap) (locs : List Loc) (ls : Array Slot), k89 q x1 x2 = some (o1, o2) → va_P D vwCl (w10 ty ad q) H → va_D A (w10 ty ad q) → va_S A s.heap H locs → lv_has ls 7 [(0, .ref (ad 0)), (1, .int x1), (2, .int x2)] → W p l e ({ frames := 88, cells := 0, slots := 0, locals := 2247 } : Room) s m args below meth c H locs 0 0 (MQ below (va_Qi (fun (r : Int32) (u : va_W) => o1 = r ∧ w10 ty ad o2 = u) (kz_B D ty A) A) args s 0 0 A) (F0 m 89 ls [])) (n : Nat) (q : dS) (x1 : Int32) (x2 : Int32) (x3 : Int32) (x4 : Int32) (H : Heap) (locs : List Loc) (ls : Array Slot) (h : zX10_cheapest_120 k89 n q x1 x2 x3 x4 = some (o1, o2)) (hP : va_P D vwCl (w10 ty ad q) H) (hD : va_D A (w10 ty ad q)) (hS : va_S A s.heap H locs) (hl : lv_has ls 7 [(0, .ref (ad 0)), (1, .int x1), (2, .int x2), (3, .int x3), (4, .int x4)]) : W p l e ({ frames := 88, cells := 0, slots := 0, locals := 2247 } : Room) s m args below meth c H locs 0 0 (MQ below (va_Qi (fun (r : Int32) (u : va_W) => o1 = r ∧ w10 ty ad o2 = u) (kz_B D ty A) A) args s 0 0 A) (F0 m 120 ls []) := by
  exact dFix_W (F := fun k (a : dS × Int32 × Int32 × Int32 × Int32) => zX10_cheapest_120b k89 (fun q x1 x2 x3 x4 => k (q, x1, x2, x3, x4)) a.1 a.2.1 a.2.2.1 a.2.2.2.1 a.2.2.2.2) (o := (o1, o2)) (P := fun (a : dS × Int32 × Int32 × Int32 × Int32) H locs ls => va_P D vwCl (w10 ty ad a.1) H ∧ va_D A (w10 ty ad a.1) ∧ va_S A s.heap H locs ∧ lv_has ls 7 [(0, .ref (ad 0)), (1, .int a.2.1), (2, .int a.2.2.1), (3, .int a.2.2.2.1), (4, .int a.2.2.2.2)]) (G := fun H locs ls => W p l e ({ frames := 88, cells := 0, slots := 0, locals := 2247 } : Room) s m args below meth c H locs 0 0 (MQ below (va_Qi (fun (r : Int32) (u : va_W) => o1 = r ∧ w10 ty ad o2 = u) (kz_B D ty A) A) args s 0 0 A) (F0 m 120 ls []))
    (fun k hk a H locs ls h hp => WX10_cheapest_120b C hk89 (fun q x1 x2 x3 x4 H locs ls h h1 h2 h3 h4 => hk (q, x1, x2, x3, x4) H locs ls h ⟨h1, h2, h3, h4⟩) a.1 a.2.1 a.2.2.1 a.2.2.2.1 a.2.2.2.2 H locs ls h hp.1 hp.2.1 hp.2.2.1 hp.2.2.2) n (q, x1, x2, x3, x4) H locs ls h ⟨hP, hD, hS, hl⟩
set_option maxHeartbeats 4000000 in
set_option maxRecDepth 100000 in
theorem WX10_cheapest_89b {p : Program} {l : Launch} {e : Env} {s : State} {m : MethodId} {args : Array Value} {below : List Frame} {meth : Method} {c : Code} {D : va_G} {ty : Nat → ClassId} {eo : Nat → Nat} {A : Nat → Prop} {ad : Nat → Nat} {o1 : Int32} {o2 : dS} (C : dc_C p s m args meth c cX10_cheapest (some .int) 7 RX10 wsX10_cheapest D ty eo A) {k89 : dS → Int32 → Int32 → Option (Int32 × dS)} (hk89 : ∀ (q : dS) (x1 : Int32) (x2 : Int32) (H : Heap) (locs : List Loc) (ls : Array Slot), k89 q x1 x2 = some (o1, o2) → va_P D vwCl (w10 ty ad q) H → va_D A (w10 ty ad q) → va_S A s.heap H locs → lv_has ls 7 [(0, .ref (ad 0)), (1, .int x1), (2, .int x2)] → W p l e ({ frames := 88, cells := 0, slots := 0, locals := 2247 } : Room) s m args below meth c H locs 0 0 (MQ below (va_Qi (fun (r : Int32) (u : va_W) => o1 = r ∧ w10 ty ad o2 = u) (kz_B D ty A) A) args s 0 0 A) (F0 m 89 ls [])) (q : dS) (x1 : Int32) (x2 : Int32) (H : Heap) (locs : List Loc) (ls : Array Slot) (h : zX10_cheapest_89b k89 q x1 x2 = some (o1, o2)) (hP : va_P D vwCl (w10 ty ad q) H) (hD : va_D A (w10 ty ad q)) (hS : va_S A s.heap H locs) (hl : lv_has ls 7 [(0, .ref (ad 0)), (1, .int x1), (2, .int x2)]) : W p l e ({ frames := 88, cells := 0, slots := 0, locals := 2247 } : Room) s m args below meth c H locs 0 0 (MQ below (va_Qi (fun (r : Int32) (u : va_W) => o1 = r ∧ w10 ty ad o2 = u) (kz_B D ty A) A) args s 0 0 A) (F0 m 89 ls []) := by
  have C0 := C
  obtain ⟨hx, hb, hr, hts, hown, hlocks, hml, hK, hN, hE, hA⟩ := C
  unfold zX10_cheapest_89b at h
  refine lv_iload_n hx hb dX10_cheapest_89 rfl (lv_at hl 1 rfl) ?_
  refine lv_if_le (tgt := 238) hx hb dX10_cheapest_90 (by decide) (fun c9 => ?_) (fun c9 => ?_)
  · rw [if_pos c9] at h
    refine lv_aload_n hx hb dX10_cheapest_238 rfl (lv_at hl 0 rfl) ?_
    refine va_get (D := D) (ci := 10) (v := .ref (ad 21)) (C := RX10) (T := TX10) (N := 56) hx hb hts u9_wsX10_cheapest_X10 hown hK hP 0 rfl rfl 40 (by decide) (hts (.fieldLink RX10 91 "TurnedFloorsModel" "dist" "[I") f9_wsX10_cheapest_224) (fun _ h9 => h9) rfl dX10_cheapest_239 ?_
    refine lv_aload_n hx hb dX10_cheapest_242 rfl (lv_at hl 0 rfl) ?_
    obtain ⟨r1, q3, h2, h⟩ := dB_some h
    refine dw_ki (va_runV (As := []) (rest := [.ref (ad 21)]) ⟨hx, hb, hml, hown, hts⟩ (qX10_towerNow l D ty eo _ ad q  r1 q3 h2) (cwV 0 hts gX10_cheapest_X10_towerNow rfl rfl rfl hd_X10_towerNow_v ⟨Nat.le_of_ble_eq_true rfl, Nat.le_of_ble_eq_true rfl⟩) (pv10_10_0 hK hN hE hP hD hS hA) rfl rfl hl.1 rfl (lv_room (Nat.le_of_ble_eq_true rfl)) dX10_cheapest_243 ⟨Nat.le_of_ble_eq_true rfl, Nat.le_of_ble_eq_true rfl⟩) hD hS hA (fun r9 u9 H locs hw hp hd hs => ?_)
    clear hP hD hS
    obtain ⟨rfl, rfl⟩ := hw
    have hP := hp; have hD := hd; have hS := hs; clear hp hd hs
    obtain ⟨g4, h⟩ := dG_some h
    refine va_iald hx hb hK hP 21 0 rfl rfl (dg_in g4) dX10_cheapest_246 ?_
    obtain ⟨v5, ev5, h⟩ := dL_some h
    refine kz_topi v5 ev5 ?_
    refine lv_istore_n (lv' := [(3, .int v5), (0, .ref (ad 0)), (1, .int x1), (2, .int x2)]) hx hb dX10_cheapest_247 rfl hl (by decide) rfl (fun ls hl => ?_)
    refine lv_iload_n hx hb dX10_cheapest_248 rfl (lv_at hl 0 rfl) ?_
    refine lv_ldc (v := 1000000) hx hb hown (hts (.constant RX10 188 1000000) f9_wsX10_cheapest_228) dX10_cheapest_249 ?_
    refine lv_icmp_ne (tgt := 258) hx hb dX10_cheapest_251 (by decide) (fun c9 => ?_) (fun c9 => ?_)
    · rw [if_neg c9] at h
      refine lv_iload_n hx hb dX10_cheapest_258 rfl (lv_at hl 0 rfl) ?_
      exact WX10_cheapest_259 C0  _ _ _ _ _ h hP hD hS (lv_sub hl [] rfl)
    · rw [if_pos c9] at h
      refine lv_iconst (v := (-1)) hx hb dX10_cheapest_254 (by decide) ?_
      refine lv_goto (tgt := 259) hx hb dX10_cheapest_255 (by decide) ?_
      exact WX10_cheapest_259 C0  _ _ _ _ _ h hP hD hS (lv_sub hl [] rfl)
  · rw [if_neg c9] at h
    refine lv_aload_n hx hb dX10_cheapest_93 rfl (lv_at hl 0 rfl) ?_
    refine va_get (D := D) (ci := 10) (v := .ref (ad 23)) (C := RX10) (T := TX10) (N := 56) hx hb hts u9_wsX10_cheapest_X10 hown hK hP 0 rfl rfl 42 (by decide) (hts (.fieldLink RX10 97 "TurnedFloorsModel" "queue" "[I") f9_wsX10_cheapest_226) (fun _ h9 => h9) rfl dX10_cheapest_94 ?_
    refine lv_iload_n hx hb dX10_cheapest_97 rfl (lv_at hl 2 rfl) ?_
    obtain ⟨g6, h⟩ := dG_some h
    refine va_iald hx hb hK hP 23 0 rfl rfl (dg_in g6) dX10_cheapest_98 ?_
    obtain ⟨v7, ev7, h⟩ := dL_some h
    refine kz_topi v7 ev7 ?_
    refine lv_istore_n (lv' := [(3, .int v7), (0, .ref (ad 0)), (1, .int x1), (2, .int x2)]) hx hb dX10_cheapest_99 rfl hl (by decide) rfl (fun ls hl => ?_)
    refine lv_iload_n hx hb dX10_cheapest_100 rfl (lv_at hl 3 rfl) ?_
    refine lv_iconst (v := 1) hx hb dX10_cheapest_101 (by decide) ?_
    refine lv_iadd hx hb dX10_cheapest_102 ?_
    refine lv_ldc (v := 46080) hx hb hown (hts (.constant RX10 90 46080) f9_wsX10_cheapest_227) dX10_cheapest_103 ?_
    refine lv_irem hx hb dX10_cheapest_105 (by decide) ?_
    obtain ⟨v8, ev8, h⟩ := dL_some h
    refine kz_topi v8 ev8 ?_
    refine lv_istore_n (lv' := [(2, .int v8), (3, .int v7), (0, .ref (ad 0)), (1, .int x1)]) hx hb dX10_cheapest_106 rfl hl (by decide) rfl (fun ls hl => ?_)
    refine lv_iinc (v := x1 + (-1)) (lv' := [(1, .int (x1 + (-1))), (2, .int v8), (3, .int v7), (0, .ref (ad 0))]) hx hb dX10_cheapest_107 hl (k := 3) rfl rfl (by decide) rfl (fun ls hl => ?_)
    refine lv_aload_n hx hb dX10_cheapest_110 rfl (lv_at hl 3 rfl) ?_
    refine va_get (D := D) (ci := 10) (v := .ref (ad 24)) (C := RX10) (T := TX10) (N := 56) hx hb hts u9_wsX10_cheapest_X10 hown hK hP 0 rfl rfl 43 (by decide) (hts (.fieldLink RX10 100 "TurnedFloorsModel" "waits" "[Z") f9_wsX10_cheapest_225) (fun _ h9 => h9) rfl dX10_cheapest_111 ?_
    refine lv_iload_n hx hb dX10_cheapest_114 rfl (lv_at hl 2 rfl) ?_
    refine lv_iconst (v := 0) hx hb dX10_cheapest_115 (by decide) ?_
    obtain ⟨g9, h⟩ := dG_some h
    refine va_zast hx hb hK hP hD hS 24 2 rfl rfl (dg_in g9) dX10_cheapest_116 (fun H locs hp hd hs => ?_)
    obtain ⟨q10, eq10, h⟩ := dL_some h
    refine kz_re (w2 := w10 ty ad q10) hp hd hs (by rw [← eq10]; exact w10_a24 ty ad q (Int32.toNatClampNeg v7) (vp_nar .boolean 0)) ?_
    clear hp hd hs hP hD hS
    intro hP hD hS
    refine lv_iconst (v := 1) hx hb dX10_cheapest_117 (by decide) ?_
    refine lv_istore (lv' := [(4, .int 1), (1, .int (x1 + (-1))), (2, .int v8), (3, .int v7), (0, .ref (ad 0))]) hx hb dX10_cheapest_118 hl (by decide) rfl (fun ls hl => ?_)
    exact WX10_cheapest_120 C0 hk89 _ _ _ _ _ _ _ _ _ h hP hD hS (lv_sub hl [4, 1, 2, 3, 0] rfl)
set_option maxHeartbeats 4000000 in
set_option maxRecDepth 100000 in
theorem WX10_cheapest_89 {p : Program} {l : Launch} {e : Env} {s : State} {m : MethodId} {args : Array Value} {below : List Frame} {meth : Method} {c : Code} {D : va_G} {ty : Nat → ClassId} {eo : Nat → Nat} {A : Nat → Prop} {ad : Nat → Nat} {o1 : Int32} {o2 : dS} (C : dc_C p s m args meth c cX10_cheapest (some .int) 7 RX10 wsX10_cheapest D ty eo A)   (n : Nat) (q : dS) (x1 : Int32) (x2 : Int32) (H : Heap) (locs : List Loc) (ls : Array Slot) (h : zX10_cheapest_89  n q x1 x2 = some (o1, o2)) (hP : va_P D vwCl (w10 ty ad q) H) (hD : va_D A (w10 ty ad q)) (hS : va_S A s.heap H locs) (hl : lv_has ls 7 [(0, .ref (ad 0)), (1, .int x1), (2, .int x2)]) : W p l e ({ frames := 88, cells := 0, slots := 0, locals := 2247 } : Room) s m args below meth c H locs 0 0 (MQ below (va_Qi (fun (r : Int32) (u : va_W) => o1 = r ∧ w10 ty ad o2 = u) (kz_B D ty A) A) args s 0 0 A) (F0 m 89 ls []) := by
  exact dFix_W (F := fun k (a : dS × Int32 × Int32) => zX10_cheapest_89b  (fun q x1 x2 => k (q, x1, x2)) a.1 a.2.1 a.2.2) (o := (o1, o2)) (P := fun (a : dS × Int32 × Int32) H locs ls => va_P D vwCl (w10 ty ad a.1) H ∧ va_D A (w10 ty ad a.1) ∧ va_S A s.heap H locs ∧ lv_has ls 7 [(0, .ref (ad 0)), (1, .int a.2.1), (2, .int a.2.2)]) (G := fun H locs ls => W p l e ({ frames := 88, cells := 0, slots := 0, locals := 2247 } : Room) s m args below meth c H locs 0 0 (MQ below (va_Qi (fun (r : Int32) (u : va_W) => o1 = r ∧ w10 ty ad o2 = u) (kz_B D ty A) A) args s 0 0 A) (F0 m 89 ls []))
    (fun k hk a H locs ls h hp => WX10_cheapest_89b C  (fun q x1 x2 H locs ls h h1 h2 h3 h4 => hk (q, x1, x2) H locs ls h ⟨h1, h2, h3, h4⟩) a.1 a.2.1 a.2.2 H locs ls h hp.1 hp.2.1 hp.2.2.1 hp.2.2.2) n (q, x1, x2) H locs ls h ⟨hP, hD, hS, hl⟩
set_option maxHeartbeats 4000000 in
set_option maxRecDepth 100000 in
theorem WX10_cheapest_81 {p : Program} {l : Launch} {e : Env} {s : State} {m : MethodId} {args : Array Value} {below : List Frame} {meth : Method} {c : Code} {D : va_G} {ty : Nat → ClassId} {eo : Nat → Nat} {A : Nat → Prop} {ad : Nat → Nat} {o1 : Int32} {o2 : dS} (C : dc_C p s m args meth c cX10_cheapest (some .int) 7 RX10 wsX10_cheapest D ty eo A) {k8 : dS → Int32 → Int32 → Option (Int32 × dS)} (hk8 : ∀ (q : dS) (x1 : Int32) (x2 : Int32) (H : Heap) (locs : List Loc) (ls : Array Slot), k8 q x1 x2 = some (o1, o2) → va_P D vwCl (w10 ty ad q) H → va_D A (w10 ty ad q) → va_S A s.heap H locs → lv_has ls 7 [(0, .ref (ad 0)), (1, .int x1), (2, .int x2)] → W p l e ({ frames := 88, cells := 0, slots := 0, locals := 2247 } : Room) s m args below meth c H locs 0 0 (MQ below (va_Qi (fun (r : Int32) (u : va_W) => o1 = r ∧ w10 ty ad o2 = u) (kz_B D ty A) A) args s 0 0 A) (F0 m 8 ls [])) (q : dS) (x1 : Int32) (x2 : Int32) (H : Heap) (locs : List Loc) (ls : Array Slot) (h : zX10_cheapest_81 k8 q x1 x2 = some (o1, o2)) (hP : va_P D vwCl (w10 ty ad q) H) (hD : va_D A (w10 ty ad q)) (hS : va_S A s.heap H locs) (hl : lv_has ls 7 [(0, .ref (ad 0)), (1, .int x1), (2, .int x2)]) : W p l e ({ frames := 88, cells := 0, slots := 0, locals := 2247 } : Room) s m args below meth c H locs 0 0 (MQ below (va_Qi (fun (r : Int32) (u : va_W) => o1 = r ∧ w10 ty ad o2 = u) (kz_B D ty A) A) args s 0 0 A) (F0 m 81 ls []) := by
  have C0 := C
  obtain ⟨hx, hb, hr, hts, hown, hlocks, hml, hK, hN, hE, hA⟩ := C
  unfold zX10_cheapest_81 at h
  refine lv_iinc (v := x2 + 1) (lv' := [(2, .int (x2 + 1)), (0, .ref (ad 0)), (1, .int x1)]) hx hb dX10_cheapest_81 hl (k := 2) rfl rfl (by decide) rfl (fun ls hl => ?_)
  refine lv_goto (tgt := 8) hx hb dX10_cheapest_84 (by decide) ?_
  exact hk8 _ _ _ _ _ _ h hP hD hS (lv_sub hl [1, 2, 0] rfl)
set_option maxHeartbeats 4000000 in
set_option maxRecDepth 100000 in
theorem WX10_cheapest_56 {p : Program} {l : Launch} {e : Env} {s : State} {m : MethodId} {args : Array Value} {below : List Frame} {meth : Method} {c : Code} {D : va_G} {ty : Nat → ClassId} {eo : Nat → Nat} {A : Nat → Prop} {ad : Nat → Nat} {o1 : Int32} {o2 : dS} (C : dc_C p s m args meth c cX10_cheapest (some .int) 7 RX10 wsX10_cheapest D ty eo A) {k8 : dS → Int32 → Int32 → Option (Int32 × dS)} (hk8 : ∀ (q : dS) (x1 : Int32) (x2 : Int32) (H : Heap) (locs : List Loc) (ls : Array Slot), k8 q x1 x2 = some (o1, o2) → va_P D vwCl (w10 ty ad q) H → va_D A (w10 ty ad q) → va_S A s.heap H locs → lv_has ls 7 [(0, .ref (ad 0)), (1, .int x1), (2, .int x2)] → W p l e ({ frames := 88, cells := 0, slots := 0, locals := 2247 } : Room) s m args below meth c H locs 0 0 (MQ below (va_Qi (fun (r : Int32) (u : va_W) => o1 = r ∧ w10 ty ad o2 = u) (kz_B D ty A) A) args s 0 0 A) (F0 m 8 ls [])) (q : dS) (x1 : Int32) (x2 : Int32) (x3 : Int32) (y0 : Int32) (y1 : Int32) (H : Heap) (locs : List Loc) (ls : Array Slot) (h : zX10_cheapest_56 k8 q x1 x2 x3 y0 y1 = some (o1, o2)) (hP : va_P D vwCl (w10 ty ad q) H) (hD : va_D A (w10 ty ad q)) (hS : va_S A s.heap H locs) (hl : lv_has ls 7 [(0, .ref (ad 0)), (1, .int x1), (2, .int x2), (3, .int x3)]) : W p l e ({ frames := 88, cells := 0, slots := 0, locals := 2247 } : Room) s m args below meth c H locs 0 0 (MQ below (va_Qi (fun (r : Int32) (u : va_W) => o1 = r ∧ w10 ty ad o2 = u) (kz_B D ty A) A) args s 0 0 A) (F0 m 56 ls [.int y0, .int y1, .ref (ad 21)]) := by
  have C0 := C
  obtain ⟨hx, hb, hr, hts, hown, hlocks, hml, hK, hN, hE, hA⟩ := C
  unfold zX10_cheapest_56 at h
  obtain ⟨g1, h⟩ := dG_some h
  refine va_iast hx hb hK hP hD hS 21 0 rfl rfl (dg_in g1) dX10_cheapest_56 (fun H locs hp hd hs => ?_)
  obtain ⟨q2, eq2, h⟩ := dL_some h
  refine kz_re (w2 := w10 ty ad q2) hp hd hs (by rw [← eq2]; exact w10_a21 ty ad q (Int32.toNatClampNeg y1) y0) ?_
  clear hp hd hs hP hD hS
  intro hP hD hS
  refine lv_aload_n hx hb dX10_cheapest_57 rfl (lv_at hl 0 rfl) ?_
  refine va_get (D := D) (ci := 10) (v := .ref (ad 24)) (C := RX10) (T := TX10) (N := 56) hx hb hts u9_wsX10_cheapest_X10 hown hK hP 0 rfl rfl 43 (by decide) (hts (.fieldLink RX10 100 "TurnedFloorsModel" "waits" "[Z") f9_wsX10_cheapest_225) (fun _ h9 => h9) rfl dX10_cheapest_58 ?_
  refine lv_iload_n hx hb dX10_cheapest_61 rfl (lv_at hl 2 rfl) ?_
  refine lv_iload_n hx hb dX10_cheapest_62 rfl (lv_at hl 3 rfl) ?_
  obtain ⟨g3, h⟩ := dG_some h
  refine va_zast hx hb hK hP hD hS 24 2 rfl rfl (dg_in g3) dX10_cheapest_63 (fun H locs hp hd hs => ?_)
  obtain ⟨q4, eq4, h⟩ := dL_some h
  refine kz_re (w2 := w10 ty ad q4) hp hd hs (by rw [← eq4]; exact w10_a24 ty ad q2 (Int32.toNatClampNeg x2) (vp_nar .boolean x3)) ?_
  clear hp hd hs hP hD hS
  intro hP hD hS
  refine lv_iload_n hx hb dX10_cheapest_64 rfl (lv_at hl 3 rfl) ?_
  refine lv_if_ne (tgt := 71) hx hb dX10_cheapest_65 (by decide) (fun c9 => ?_) (fun c9 => ?_)
  · rw [if_neg c9] at h
    refine lv_aload_n hx hb dX10_cheapest_71 rfl (lv_at hl 0 rfl) ?_
    refine va_get (D := D) (ci := 10) (v := .ref (ad 23)) (C := RX10) (T := TX10) (N := 56) hx hb hts u9_wsX10_cheapest_X10 hown hK hP 0 rfl rfl 42 (by decide) (hts (.fieldLink RX10 97 "TurnedFloorsModel" "queue" "[I") f9_wsX10_cheapest_226) (fun _ h9 => h9) rfl dX10_cheapest_72 ?_
    refine lv_iload_n hx hb dX10_cheapest_75 rfl (lv_at hl 1 rfl) ?_
    refine lv_iload_n hx hb dX10_cheapest_76 rfl (lv_at hl 2 rfl) ?_
    obtain ⟨g5, h⟩ := dG_some h
    refine va_iast hx hb hK hP hD hS 23 0 rfl rfl (dg_in g5) dX10_cheapest_77 (fun H locs hp hd hs => ?_)
    obtain ⟨q6, eq6, h⟩ := dL_some h
    refine kz_re (w2 := w10 ty ad q6) hp hd hs (by rw [← eq6]; exact w10_a23 ty ad q4 (Int32.toNatClampNeg x1) x2) ?_
    clear hp hd hs hP hD hS
    intro hP hD hS
    refine lv_iinc (v := x1 + 1) (lv' := [(1, .int (x1 + 1)), (0, .ref (ad 0)), (2, .int x2), (3, .int x3)]) hx hb dX10_cheapest_78 hl (k := 1) rfl rfl (by decide) rfl (fun ls hl => ?_)
    exact WX10_cheapest_81 C0 hk8 _ _ _ _ _ _ h hP hD hS (lv_sub hl [1, 0, 2] rfl)
  · rw [if_pos c9] at h
    refine lv_goto (tgt := 81) hx hb dX10_cheapest_68 (by decide) ?_
    exact WX10_cheapest_81 C0 hk8 _ _ _ _ _ _ h hP hD hS (lv_sub hl [0, 1, 2] rfl)
set_option maxHeartbeats 4000000 in
set_option maxRecDepth 100000 in
theorem WX10_cheapest_40 {p : Program} {l : Launch} {e : Env} {s : State} {m : MethodId} {args : Array Value} {below : List Frame} {meth : Method} {c : Code} {D : va_G} {ty : Nat → ClassId} {eo : Nat → Nat} {A : Nat → Prop} {ad : Nat → Nat} {o1 : Int32} {o2 : dS} (C : dc_C p s m args meth c cX10_cheapest (some .int) 7 RX10 wsX10_cheapest D ty eo A) {k8 : dS → Int32 → Int32 → Option (Int32 × dS)} (hk8 : ∀ (q : dS) (x1 : Int32) (x2 : Int32) (H : Heap) (locs : List Loc) (ls : Array Slot), k8 q x1 x2 = some (o1, o2) → va_P D vwCl (w10 ty ad q) H → va_D A (w10 ty ad q) → va_S A s.heap H locs → lv_has ls 7 [(0, .ref (ad 0)), (1, .int x1), (2, .int x2)] → W p l e ({ frames := 88, cells := 0, slots := 0, locals := 2247 } : Room) s m args below meth c H locs 0 0 (MQ below (va_Qi (fun (r : Int32) (u : va_W) => o1 = r ∧ w10 ty ad o2 = u) (kz_B D ty A) A) args s 0 0 A) (F0 m 8 ls [])) (q : dS) (x1 : Int32) (x2 : Int32) (y0 : Int32) (H : Heap) (locs : List Loc) (ls : Array Slot) (h : zX10_cheapest_40 k8 q x1 x2 y0 = some (o1, o2)) (hP : va_P D vwCl (w10 ty ad q) H) (hD : va_D A (w10 ty ad q)) (hS : va_S A s.heap H locs) (hl : lv_has ls 7 [(0, .ref (ad 0)), (1, .int x1), (2, .int x2)]) : W p l e ({ frames := 88, cells := 0, slots := 0, locals := 2247 } : Room) s m args below meth c H locs 0 0 (MQ below (va_Qi (fun (r : Int32) (u : va_W) => o1 = r ∧ w10 ty ad o2 = u) (kz_B D ty A) A) args s 0 0 A) (F0 m 40 ls [.int y0]) := by
  have C0 := C
  obtain ⟨hx, hb, hr, hts, hown, hlocks, hml, hK, hN, hE, hA⟩ := C
  unfold zX10_cheapest_40 at h
  refine lv_istore_n (lv' := [(3, .int y0), (0, .ref (ad 0)), (1, .int x1), (2, .int x2)]) hx hb dX10_cheapest_40 rfl hl (by decide) rfl (fun ls hl => ?_)
  refine lv_aload_n hx hb dX10_cheapest_41 rfl (lv_at hl 1 rfl) ?_
  refine va_get (D := D) (ci := 10) (v := .ref (ad 21)) (C := RX10) (T := TX10) (N := 56) hx hb hts u9_wsX10_cheapest_X10 hown hK hP 0 rfl rfl 40 (by decide) (hts (.fieldLink RX10 91 "TurnedFloorsModel" "dist" "[I") f9_wsX10_cheapest_224) (fun _ h9 => h9) rfl dX10_cheapest_42 ?_
  refine lv_iload_n hx hb dX10_cheapest_45 rfl (lv_at hl 3 rfl) ?_
  refine lv_iload_n hx hb dX10_cheapest_46 rfl (lv_at hl 0 rfl) ?_
  refine lv_if_eq (tgt := 54) hx hb dX10_cheapest_47 (by decide) (fun c9 => ?_) (fun c9 => ?_)
  · rw [if_pos c9] at h
    refine lv_ldc (v := 1000000) hx hb hown (hts (.constant RX10 188 1000000) f9_wsX10_cheapest_228) dX10_cheapest_54 ?_
    exact WX10_cheapest_56 C0 hk8 _ _ _ _ _ _ _ _ _ h hP hD hS (lv_sub hl [1, 2, 3, 0] rfl)
  · rw [if_neg c9] at h
    refine lv_iconst (v := 0) hx hb dX10_cheapest_50 (by decide) ?_
    refine lv_goto (tgt := 56) hx hb dX10_cheapest_51 (by decide) ?_
    exact WX10_cheapest_56 C0 hk8 _ _ _ _ _ _ _ _ _ h hP hD hS (lv_sub hl [1, 2, 3, 0] rfl)
set_option maxHeartbeats 4000000 in
set_option maxRecDepth 100000 in
theorem WX10_cheapest_39 {p : Program} {l : Launch} {e : Env} {s : State} {m : MethodId} {args : Array Value} {below : List Frame} {meth : Method} {c : Code} {D : va_G} {ty : Nat → ClassId} {eo : Nat → Nat} {A : Nat → Prop} {ad : Nat → Nat} {o1 : Int32} {o2 : dS} (C : dc_C p s m args meth c cX10_cheapest (some .int) 7 RX10 wsX10_cheapest D ty eo A) {k8 : dS → Int32 → Int32 → Option (Int32 × dS)} (hk8 : ∀ (q : dS) (x1 : Int32) (x2 : Int32) (H : Heap) (locs : List Loc) (ls : Array Slot), k8 q x1 x2 = some (o1, o2) → va_P D vwCl (w10 ty ad q) H → va_D A (w10 ty ad q) → va_S A s.heap H locs → lv_has ls 7 [(0, .ref (ad 0)), (1, .int x1), (2, .int x2)] → W p l e ({ frames := 88, cells := 0, slots := 0, locals := 2247 } : Room) s m args below meth c H locs 0 0 (MQ below (va_Qi (fun (r : Int32) (u : va_W) => o1 = r ∧ w10 ty ad o2 = u) (kz_B D ty A) A) args s 0 0 A) (F0 m 8 ls [])) (q : dS) (x1 : Int32) (x2 : Int32) (H : Heap) (locs : List Loc) (ls : Array Slot) (h : zX10_cheapest_39 k8 q x1 x2 = some (o1, o2)) (hP : va_P D vwCl (w10 ty ad q) H) (hD : va_D A (w10 ty ad q)) (hS : va_S A s.heap H locs) (hl : lv_has ls 7 [(0, .ref (ad 0)), (1, .int x1), (2, .int x2)]) : W p l e ({ frames := 88, cells := 0, slots := 0, locals := 2247 } : Room) s m args below meth c H locs 0 0 (MQ below (va_Qi (fun (r : Int32) (u : va_W) => o1 = r ∧ w10 ty ad o2 = u) (kz_B D ty A) A) args s 0 0 A) (F0 m 39 ls []) := by
  have C0 := C
  obtain ⟨hx, hb, hr, hts, hown, hlocks, hml, hK, hN, hE, hA⟩ := C
  unfold zX10_cheapest_39 at h
  refine lv_iconst (v := 0) hx hb dX10_cheapest_39 (by decide) ?_
  exact WX10_cheapest_40 C0 hk8 _ _ _ _ _ _ _ h hP hD hS (lv_sub hl [0, 1, 2] rfl)
set_option maxHeartbeats 4000000 in
set_option maxRecDepth 100000 in
theorem WX10_cheapest_8b {p : Program} {l : Launch} {e : Env} {s : State} {m : MethodId} {args : Array Value} {below : List Frame} {meth : Method} {c : Code} {D : va_G} {ty : Nat → ClassId} {eo : Nat → Nat} {A : Nat → Prop} {ad : Nat → Nat} {o1 : Int32} {o2 : dS} (C : dc_C p s m args meth c cX10_cheapest (some .int) 7 RX10 wsX10_cheapest D ty eo A) {k8 : dS → Int32 → Int32 → Option (Int32 × dS)} (hk8 : ∀ (q : dS) (x1 : Int32) (x2 : Int32) (H : Heap) (locs : List Loc) (ls : Array Slot), k8 q x1 x2 = some (o1, o2) → va_P D vwCl (w10 ty ad q) H → va_D A (w10 ty ad q) → va_S A s.heap H locs → lv_has ls 7 [(0, .ref (ad 0)), (1, .int x1), (2, .int x2)] → W p l e ({ frames := 88, cells := 0, slots := 0, locals := 2247 } : Room) s m args below meth c H locs 0 0 (MQ below (va_Qi (fun (r : Int32) (u : va_W) => o1 = r ∧ w10 ty ad o2 = u) (kz_B D ty A) A) args s 0 0 A) (F0 m 8 ls [])) (q : dS) (x1 : Int32) (x2 : Int32) (H : Heap) (locs : List Loc) (ls : Array Slot) (h : zX10_cheapest_8b k8 q x1 x2 = some (o1, o2)) (hP : va_P D vwCl (w10 ty ad q) H) (hD : va_D A (w10 ty ad q)) (hS : va_S A s.heap H locs) (hl : lv_has ls 7 [(0, .ref (ad 0)), (1, .int x1), (2, .int x2)]) : W p l e ({ frames := 88, cells := 0, slots := 0, locals := 2247 } : Room) s m args below meth c H locs 0 0 (MQ below (va_Qi (fun (r : Int32) (u : va_W) => o1 = r ∧ w10 ty ad o2 = u) (kz_B D ty A) A) args s 0 0 A) (F0 m 8 ls []) := by
  have C0 := C
  obtain ⟨hx, hb, hr, hts, hown, hlocks, hml, hK, hN, hE, hA⟩ := C
  unfold zX10_cheapest_8b at h
  refine lv_iload_n hx hb dX10_cheapest_8 rfl (lv_at hl 2 rfl) ?_
  refine lv_bipush (v := 64) hx hb dX10_cheapest_9 (by decide) ?_
  refine lv_aload_n hx hb dX10_cheapest_11 rfl (lv_at hl 0 rfl) ?_
  refine va_get (D := D) (ci := 10) (v := .int (q.1 0 37)) (C := RX10) (T := TX10) (N := 56) hx hb hts u9_wsX10_cheapest_X10 hown hK hP 0 rfl rfl 37 (by decide) (hts (.fieldLink RX10 386 "TurnedFloorsModel" "orderMany" "I") f9_wsX10_cheapest_229) (fun _ h9 => h9) rfl dX10_cheapest_12 ?_
  refine lv_imul hx hb dX10_cheapest_15 ?_
  refine lv_icmp_ge (tgt := 87) hx hb dX10_cheapest_16 (by decide) (fun c9 => ?_) (fun c9 => ?_)
  · rw [if_pos c9] at h
    refine lv_iconst (v := 0) hx hb dX10_cheapest_87 (by decide) ?_
    refine lv_istore_n (lv' := [(2, .int 0), (0, .ref (ad 0)), (1, .int x1)]) hx hb dX10_cheapest_88 rfl hl (by decide) rfl (fun ls hl => ?_)
    exact WX10_cheapest_89 C0  _ _ _ _ _ _ _ h hP hD hS (lv_sub hl [1, 2, 0] rfl)
  · rw [if_neg c9] at h
    refine lv_aload_n hx hb dX10_cheapest_19 rfl (lv_at hl 0 rfl) ?_
    refine lv_iload_n hx hb dX10_cheapest_20 rfl (lv_at hl 2 rfl) ?_
    obtain ⟨r1, q3, h2, h⟩ := dB_some h
    refine dw_ki (va_runV (As := [.int x2]) (rest := []) ⟨hx, hb, hml, hown, hts⟩ (qX10_isThere l D ty eo _ ad q x2 r1 q3 h2) (cwV 1 hts gX10_cheapest_X10_isThere rfl rfl rfl hd_X10_isThere_v ⟨Nat.le_of_ble_eq_true rfl, Nat.le_of_ble_eq_true rfl⟩) (pv10_10_0 hK hN hE hP hD hS hA) rfl rfl hl.1 rfl (lv_room (Nat.le_of_ble_eq_true rfl)) dX10_cheapest_21 ⟨Nat.le_of_ble_eq_true rfl, Nat.le_of_ble_eq_true rfl⟩) hD hS hA (fun r9 u9 H locs hw hp hd hs => ?_)
    clear hP hD hS
    obtain ⟨rfl, rfl⟩ := hw
    have hP := hp; have hD := hd; have hS := hs; clear hp hd hs
    refine lv_if_eq (tgt := 39) hx hb dX10_cheapest_24 (by decide) (fun c9 => ?_) (fun c9 => ?_)
    · rw [if_pos c9] at h
      exact WX10_cheapest_39 C0 hk8 _ _ _ _ _ _ h hP hD hS (lv_sub hl [0, 1, 2] rfl)
    · rw [if_neg c9] at h
      refine lv_aload_n hx hb dX10_cheapest_27 rfl (lv_at hl 0 rfl) ?_
      refine lv_iload_n hx hb dX10_cheapest_28 rfl (lv_at hl 2 rfl) ?_
      obtain ⟨r4, q6, h5, h⟩ := dB_some h
      refine dw_ki (va_runV (As := [.int x2]) (rest := []) ⟨hx, hb, hml, hown, hts⟩ (qX10_isOrdered l D ty eo _ ad q3 x2 r4 q6 h5) (cwV 1 hts gX10_cheapest_X10_isOrdered rfl rfl rfl hd_X10_isOrdered_v ⟨Nat.le_of_ble_eq_true rfl, Nat.le_of_ble_eq_true rfl⟩) (pv10_10_0 hK hN hE hP hD hS hA) rfl rfl hl.1 rfl (lv_room (Nat.le_of_ble_eq_true rfl)) dX10_cheapest_29 ⟨Nat.le_of_ble_eq_true rfl, Nat.le_of_ble_eq_true rfl⟩) hD hS hA (fun r9 u9 H locs hw hp hd hs => ?_)
      clear hP hD hS
      obtain ⟨rfl, rfl⟩ := hw
      have hP := hp; have hD := hd; have hS := hs; clear hp hd hs
      refine lv_if_eq (tgt := 39) hx hb dX10_cheapest_32 (by decide) (fun c9 => ?_) (fun c9 => ?_)
      · rw [if_pos c9] at h
        exact WX10_cheapest_39 C0 hk8 _ _ _ _ _ _ h hP hD hS (lv_sub hl [0, 1, 2] rfl)
      · rw [if_neg c9] at h
        refine lv_iconst (v := 1) hx hb dX10_cheapest_35 (by decide) ?_
        refine lv_goto (tgt := 40) hx hb dX10_cheapest_36 (by decide) ?_
        exact WX10_cheapest_40 C0 hk8 _ _ _ _ _ _ _ h hP hD hS (lv_sub hl [0, 1, 2] rfl)
set_option maxHeartbeats 4000000 in
set_option maxRecDepth 100000 in
theorem WX10_cheapest_8 {p : Program} {l : Launch} {e : Env} {s : State} {m : MethodId} {args : Array Value} {below : List Frame} {meth : Method} {c : Code} {D : va_G} {ty : Nat → ClassId} {eo : Nat → Nat} {A : Nat → Prop} {ad : Nat → Nat} {o1 : Int32} {o2 : dS} (C : dc_C p s m args meth c cX10_cheapest (some .int) 7 RX10 wsX10_cheapest D ty eo A)   (n : Nat) (q : dS) (x1 : Int32) (x2 : Int32) (H : Heap) (locs : List Loc) (ls : Array Slot) (h : zX10_cheapest_8  n q x1 x2 = some (o1, o2)) (hP : va_P D vwCl (w10 ty ad q) H) (hD : va_D A (w10 ty ad q)) (hS : va_S A s.heap H locs) (hl : lv_has ls 7 [(0, .ref (ad 0)), (1, .int x1), (2, .int x2)]) : W p l e ({ frames := 88, cells := 0, slots := 0, locals := 2247 } : Room) s m args below meth c H locs 0 0 (MQ below (va_Qi (fun (r : Int32) (u : va_W) => o1 = r ∧ w10 ty ad o2 = u) (kz_B D ty A) A) args s 0 0 A) (F0 m 8 ls []) := by
  exact dFix_W (F := fun k (a : dS × Int32 × Int32) => zX10_cheapest_8b  (fun q x1 x2 => k (q, x1, x2)) a.1 a.2.1 a.2.2) (o := (o1, o2)) (P := fun (a : dS × Int32 × Int32) H locs ls => va_P D vwCl (w10 ty ad a.1) H ∧ va_D A (w10 ty ad a.1) ∧ va_S A s.heap H locs ∧ lv_has ls 7 [(0, .ref (ad 0)), (1, .int a.2.1), (2, .int a.2.2)]) (G := fun H locs ls => W p l e ({ frames := 88, cells := 0, slots := 0, locals := 2247 } : Room) s m args below meth c H locs 0 0 (MQ below (va_Qi (fun (r : Int32) (u : va_W) => o1 = r ∧ w10 ty ad o2 = u) (kz_B D ty A) A) args s 0 0 A) (F0 m 8 ls []))
    (fun k hk a H locs ls h hp => WX10_cheapest_8b C  (fun q x1 x2 H locs ls h h1 h2 h3 h4 => hk (q, x1, x2) H locs ls h ⟨h1, h2, h3, h4⟩) a.1 a.2.1 a.2.2 H locs ls h hp.1 hp.2.1 hp.2.2.1 hp.2.2.2) n (q, x1, x2) H locs ls h ⟨hP, hD, hS, hl⟩
set_option maxHeartbeats 4000000 in
set_option maxRecDepth 100000 in
theorem qX10_cheapest (l : Launch) (D : va_G) (ty : Nat → ClassId) (eo : Nat → Nat) (sz : Nat) (ad : Nat → Nat) (q : dS)  (o1 : Int32) (o2 : dS) (h : zX10_cheapest q = some (o1, o2)) : Met l yX10_cheapest wsX10_cheapest ({ frames := 88, cells := 0, slots := 0, locals := 2247 } : Room) (va_Pc [.ref (ad 0)] (kz_pre D ty eo (w10 ty ad q) sz)) (va_Qi (fun (r : Int32) (u : va_W) => o1 = r ∧ w10 ty ad o2 = u) (kz_B D ty (va_A (w10 ty ad q) sz)) (va_A (w10 ty ad q) sz)) 0 0 (va_A (w10 ty ad q) sz) := by
  refine Met.ofW (cc := cX10_cheapest) (maxL := 7) (ret := (some .int)) (by decide) rfl ?_
  intro p e s m args below meth c s₁ B hml hv
  obtain ⟨rfl, hsz, hP, hK, hD0, hN, hE⟩ := hv
  have hx := B.exec
  have hb := B.bytes
  have hr := B.returns
  have hts := atoms_spec (ws := wsX10_cheapest) B.pre
  have hown : s.vm.findClass RX10 = some m.cls := findClass_of_methodNamed B.named
  have hlocks := B.notSynchronized
  subst hsz
  have hD := hD0.self (sz := s.heap.size)
  generalize hAe : va_A (w10 ty ad q) s.heap.size = A at hD hE ⊢
  have hA : ∀ q : Nat, s.heap.size ≤ q → A q := fun q h => by rw [← hAe]; exact Or.inr h
  clear hAe
  have hS : va_S A s.heap s.heap [] := va_S.rf
  have hl := lv_entry ([.ref (ad 0)]) (n := 7) (Nat.le_of_ble_eq_true rfl)
  rw [lg_entry_eq]
  generalize (lg_sl ([.ref (ad 0)]) ++ List.replicate (7 - (lg_sl ([.ref (ad 0)])).length) Slot.unset).toArray = ls at hl ⊢
  have hl : lv_has ls 7 [(0, .ref (ad 0))] := hl
  have C : dc_C p s m _ meth c cX10_cheapest (some .int) 7 RX10 wsX10_cheapest D ty eo A := ⟨hx, hb, hr, hts, hown, hlocks, hml, hK, hN, hE, hA⟩
  unfold zX10_cheapest at h
  refine lv_aload_n hx hb dX10_cheapest_0 rfl (lv_at hl 0 rfl) ?_
  obtain ⟨q3, h2, h⟩ := dV_some h
  refine dw_kv (va_runV (As := []) (rest := []) ⟨hx, hb, hml, hown, hts⟩ (qX10_laysPrices l D ty eo _ ad q  q3 h2) (cwV 0 hts gX10_cheapest_X10_laysPrices rfl rfl rfl hd_X10_laysPrices_v ⟨Nat.le_of_ble_eq_true rfl, Nat.le_of_ble_eq_true rfl⟩) (pv10_10_0 hK hN hE hP hD hS hA) rfl rfl hl.1 rfl (lv_room (Nat.le_of_ble_eq_true rfl)) dX10_cheapest_1 ⟨Nat.le_of_ble_eq_true rfl, Nat.le_of_ble_eq_true rfl⟩) hD hS hA (fun u9 H locs hw hp hd hs => ?_)
  clear hP hD hS
  obtain rfl := hw
  have hP := hp; have hD := hd; have hS := hs; clear hp hd hs
  refine lv_iconst (v := 0) hx hb dX10_cheapest_4 (by decide) ?_
  refine lv_istore_n (lv' := [(1, .int 0), (0, .ref (ad 0))]) hx hb dX10_cheapest_5 rfl hl (by decide) rfl (fun ls hl => ?_)
  refine lv_iconst (v := 0) hx hb dX10_cheapest_6 (by decide) ?_
  refine lv_istore_n (lv' := [(2, .int 0), (1, .int 0), (0, .ref (ad 0))]) hx hb dX10_cheapest_7 rfl hl (by decide) rfl (fun ls hl => ?_)
  exact WX10_cheapest_8 C  _ _ _ _ _ _ _ h hP hD hS (lv_sub hl [2, 1, 0] rfl)

set_option maxHeartbeats 4000000 in
set_option maxRecDepth 100000 in
theorem WX10_laysReach_146 {p : Program} {l : Launch} {e : Env} {s : State} {m : MethodId} {args : Array Value} {below : List Frame} {meth : Method} {c : Code} {D : va_G} {ty : Nat → ClassId} {eo : Nat → Nat} {A : Nat → Prop} {ad : Nat → Nat} {o1 : Int32} {o2 : dS} (C : dc_C p s m args meth c cX10_laysReach (some .int) 5 RX10 wsX10_laysReach D ty eo A) {k57 : dS → Int32 → Int32 → Option (Int32 × dS)} {k64 : dS → Int32 → Int32 → Int32 → Option (Int32 × dS)} (hk57 : ∀ (q : dS) (x1 : Int32) (x2 : Int32) (H : Heap) (locs : List Loc) (ls : Array Slot), k57 q x1 x2 = some (o1, o2) → va_P D vwCl (w10 ty ad q) H → va_D A (w10 ty ad q) → va_S A s.heap H locs → lv_has ls 5 [(0, .ref (ad 0)), (1, .int x1), (2, .int x2)] → W p l e ({ frames := 88, cells := 0, slots := 0, locals := 2247 } : Room) s m args below meth c H locs 0 0 (MQ below (va_Qi (fun (r : Int32) (u : va_W) => o1 = r ∧ w10 ty ad o2 = u) (kz_B D ty A) A) args s 0 0 A) (F0 m 57 ls [])) (hk64 : ∀ (q : dS) (x1 : Int32) (x2 : Int32) (x3 : Int32) (H : Heap) (locs : List Loc) (ls : Array Slot), k64 q x1 x2 x3 = some (o1, o2) → va_P D vwCl (w10 ty ad q) H → va_D A (w10 ty ad q) → va_S A s.heap H locs → lv_has ls 5 [(0, .ref (ad 0)), (1, .int x1), (2, .int x2), (3, .int x3)] → W p l e ({ frames := 88, cells := 0, slots := 0, locals := 2247 } : Room) s m args below meth c H locs 0 0 (MQ below (va_Qi (fun (r : Int32) (u : va_W) => o1 = r ∧ w10 ty ad o2 = u) (kz_B D ty A) A) args s 0 0 A) (F0 m 64 ls [])) (q : dS) (x1 : Int32) (x2 : Int32) (x3 : Int32) (H : Heap) (locs : List Loc) (ls : Array Slot) (h : zX10_laysReach_146 k57 k64 q x1 x2 x3 = some (o1, o2)) (hP : va_P D vwCl (w10 ty ad q) H) (hD : va_D A (w10 ty ad q)) (hS : va_S A s.heap H locs) (hl : lv_has ls 5 [(0, .ref (ad 0)), (1, .int x1), (2, .int x2), (3, .int x3)]) : W p l e ({ frames := 88, cells := 0, slots := 0, locals := 2247 } : Room) s m args below meth c H locs 0 0 (MQ below (va_Qi (fun (r : Int32) (u : va_W) => o1 = r ∧ w10 ty ad o2 = u) (kz_B D ty A) A) args s 0 0 A) (F0 m 146 ls []) := by
  have C0 := C
  obtain ⟨hx, hb, hr, hts, hown, hlocks, hml, hK, hN, hE, hA⟩ := C
  unfold zX10_laysReach_146 at h
  refine lv_iinc (v := x3 + 1) (lv' := [(3, .int (x3 + 1)), (0, .ref (ad 0)), (1, .int x1), (2, .int x2)]) hx hb dX10_laysReach_146 hl (k := 3) rfl rfl (by decide) rfl (fun ls hl => ?_)
  refine lv_goto (tgt := 64) hx hb dX10_laysReach_149 (by decide) ?_
  exact hk64 _ _ _ _ _ _ _ h hP hD hS (lv_sub hl [1, 2, 3, 0] rfl)
set_option maxHeartbeats 4000000 in
set_option maxRecDepth 100000 in
theorem WX10_laysReach_64b {p : Program} {l : Launch} {e : Env} {s : State} {m : MethodId} {args : Array Value} {below : List Frame} {meth : Method} {c : Code} {D : va_G} {ty : Nat → ClassId} {eo : Nat → Nat} {A : Nat → Prop} {ad : Nat → Nat} {o1 : Int32} {o2 : dS} (C : dc_C p s m args meth c cX10_laysReach (some .int) 5 RX10 wsX10_laysReach D ty eo A) {k57 : dS → Int32 → Int32 → Option (Int32 × dS)} {k64 : dS → Int32 → Int32 → Int32 → Option (Int32 × dS)} (hk57 : ∀ (q : dS) (x1 : Int32) (x2 : Int32) (H : Heap) (locs : List Loc) (ls : Array Slot), k57 q x1 x2 = some (o1, o2) → va_P D vwCl (w10 ty ad q) H → va_D A (w10 ty ad q) → va_S A s.heap H locs → lv_has ls 5 [(0, .ref (ad 0)), (1, .int x1), (2, .int x2)] → W p l e ({ frames := 88, cells := 0, slots := 0, locals := 2247 } : Room) s m args below meth c H locs 0 0 (MQ below (va_Qi (fun (r : Int32) (u : va_W) => o1 = r ∧ w10 ty ad o2 = u) (kz_B D ty A) A) args s 0 0 A) (F0 m 57 ls [])) (hk64 : ∀ (q : dS) (x1 : Int32) (x2 : Int32) (x3 : Int32) (H : Heap) (locs : List Loc) (ls : Array Slot), k64 q x1 x2 x3 = some (o1, o2) → va_P D vwCl (w10 ty ad q) H → va_D A (w10 ty ad q) → va_S A s.heap H locs → lv_has ls 5 [(0, .ref (ad 0)), (1, .int x1), (2, .int x2), (3, .int x3)] → W p l e ({ frames := 88, cells := 0, slots := 0, locals := 2247 } : Room) s m args below meth c H locs 0 0 (MQ below (va_Qi (fun (r : Int32) (u : va_W) => o1 = r ∧ w10 ty ad o2 = u) (kz_B D ty A) A) args s 0 0 A) (F0 m 64 ls [])) (q : dS) (x1 : Int32) (x2 : Int32) (x3 : Int32) (H : Heap) (locs : List Loc) (ls : Array Slot) (h : zX10_laysReach_64b k57 k64 q x1 x2 x3 = some (o1, o2)) (hP : va_P D vwCl (w10 ty ad q) H) (hD : va_D A (w10 ty ad q)) (hS : va_S A s.heap H locs) (hl : lv_has ls 5 [(0, .ref (ad 0)), (1, .int x1), (2, .int x2), (3, .int x3)]) : W p l e ({ frames := 88, cells := 0, slots := 0, locals := 2247 } : Room) s m args below meth c H locs 0 0 (MQ below (va_Qi (fun (r : Int32) (u : va_W) => o1 = r ∧ w10 ty ad o2 = u) (kz_B D ty A) A) args s 0 0 A) (F0 m 64 ls []) := by
  have C0 := C
  obtain ⟨hx, hb, hr, hts, hown, hlocks, hml, hK, hN, hE, hA⟩ := C
  unfold zX10_laysReach_64b at h
  refine lv_iload_n hx hb dX10_laysReach_64 rfl (lv_at hl 3 rfl) ?_
  refine lv_aload_n hx hb dX10_laysReach_65 rfl (lv_at hl 0 rfl) ?_
  obtain ⟨r1, q3, h2, h⟩ := dB_some h
  refine dw_ki (va_runV (As := []) (rest := [.int x3]) ⟨hx, hb, hml, hown, hts⟩ (qX10_size l D ty eo _ ad q  r1 q3 h2) (cwV 0 hts gX10_laysReach_X10_size rfl rfl rfl hd_X10_size_v ⟨Nat.le_of_ble_eq_true rfl, Nat.le_of_ble_eq_true rfl⟩) (pv10_10_0 hK hN hE hP hD hS hA) rfl rfl hl.1 rfl (lv_room (Nat.le_of_ble_eq_true rfl)) dX10_laysReach_66 ⟨Nat.le_of_ble_eq_true rfl, Nat.le_of_ble_eq_true rfl⟩) hD hS hA (fun r9 u9 H locs hw hp hd hs => ?_)
  clear hP hD hS
  obtain ⟨rfl, rfl⟩ := hw
  have hP := hp; have hD := hd; have hS := hs; clear hp hd hs
  refine lv_icmp_gt (tgt := 152) hx hb dX10_laysReach_69 (by decide) (fun c9 => ?_) (fun c9 => ?_)
  · rw [if_pos c9] at h
    refine lv_iinc (v := x2 + 1) (lv' := [(2, .int (x2 + 1)), (0, .ref (ad 0)), (1, .int x1), (3, .int x3)]) hx hb dX10_laysReach_152 hl (k := 2) rfl rfl (by decide) rfl (fun ls hl => ?_)
    refine lv_goto (tgt := 57) hx hb dX10_laysReach_155 (by decide) ?_
    exact hk57 _ _ _ _ _ _ h hP hD hS (lv_sub hl [1, 2, 0] rfl)
  · rw [if_neg c9] at h
    refine lv_aload_n hx hb dX10_laysReach_72 rfl (lv_at hl 0 rfl) ?_
    refine lv_aload_n hx hb dX10_laysReach_73 rfl (lv_at hl 0 rfl) ?_
    refine va_get (D := D) (ci := 10) (v := .ref (ad 23)) (C := RX10) (T := TX10) (N := 56) hx hb hts u9_wsX10_laysReach_X10 hown hK hP 0 rfl rfl 42 (by decide) (hts (.fieldLink RX10 97 "TurnedFloorsModel" "queue" "[I") f9_wsX10_laysReach_231) (fun _ h9 => h9) rfl dX10_laysReach_74 ?_
    refine lv_iload_n hx hb dX10_laysReach_77 rfl (lv_at hl 2 rfl) ?_
    obtain ⟨g4, h⟩ := dG_some h
    refine va_iald hx hb hK hP 23 0 rfl rfl (dg_in g4) dX10_laysReach_78 ?_
    obtain ⟨v5, ev5, h⟩ := dL_some h
    refine kz_topi v5 ev5 ?_
    refine lv_iload_n hx hb dX10_laysReach_79 rfl (lv_at hl 3 rfl) ?_
    obtain ⟨r6, q8, h7, h⟩ := dB_some h
    refine dw_ki (va_runV (As := [.int v5, .int x3]) (rest := []) ⟨hx, hb, hml, hown, hts⟩ (qX10_behind l D ty eo _ ad q3 v5 x3 r6 q8 h7) (cwV 2 hts gX10_laysReach_X10_behind rfl rfl rfl hd_X10_behind_v ⟨Nat.le_of_ble_eq_true rfl, Nat.le_of_ble_eq_true rfl⟩) (pv10_10_0 hK hN hE hP hD hS hA) rfl rfl hl.1 rfl (lv_room (Nat.le_of_ble_eq_true rfl)) dX10_laysReach_80 ⟨Nat.le_of_ble_eq_true rfl, Nat.le_of_ble_eq_true rfl⟩) hD hS hA (fun r9 u9 H locs hw hp hd hs => ?_)
    clear hP hD hS
    obtain ⟨rfl, rfl⟩ := hw
    have hP := hp; have hD := hd; have hS := hs; clear hp hd hs
    refine lv_istore (lv' := [(4, .int r6), (0, .ref (ad 0)), (1, .int x1), (2, .int x2), (3, .int x3)]) hx hb dX10_laysReach_83 hl (by decide) rfl (fun ls hl => ?_)
    refine lv_aload_n hx hb dX10_laysReach_85 rfl (lv_at hl 1 rfl) ?_
    refine lv_aload_n hx hb dX10_laysReach_86 rfl (lv_at hl 1 rfl) ?_
    refine va_get (D := D) (ci := 10) (v := .ref (ad 23)) (C := RX10) (T := TX10) (N := 56) hx hb hts u9_wsX10_laysReach_X10 hown hK hP 0 rfl rfl 42 (by decide) (hts (.fieldLink RX10 97 "TurnedFloorsModel" "queue" "[I") f9_wsX10_laysReach_231) (fun _ h9 => h9) rfl dX10_laysReach_87 ?_
    refine lv_iload_n hx hb dX10_laysReach_90 rfl (lv_at hl 3 rfl) ?_
    obtain ⟨g9, h⟩ := dG_some h
    refine va_iald hx hb hK hP 23 0 rfl rfl (dg_in g9) dX10_laysReach_91 ?_
    obtain ⟨v10, ev10, h⟩ := dL_some h
    refine kz_topi v10 ev10 ?_
    refine lv_iload_n hx hb dX10_laysReach_92 rfl (lv_at hl 4 rfl) ?_
    obtain ⟨r11, q13, h12, h⟩ := dB_some h
    refine dw_ki (va_runV (As := [.int v10, .int x3]) (rest := []) ⟨hx, hb, hml, hown, hts⟩ (qX10_priceOf l D ty eo _ ad q8 v10 x3 r11 q13 h12) (cwV 2 hts gX10_laysReach_X10_priceOf rfl rfl rfl hd_X10_priceOf_v ⟨Nat.le_of_ble_eq_true rfl, Nat.le_of_ble_eq_true rfl⟩) (pv10_10_0 hK hN hE hP hD hS hA) rfl rfl hl.1 rfl (lv_room (Nat.le_of_ble_eq_true rfl)) dX10_laysReach_93 ⟨Nat.le_of_ble_eq_true rfl, Nat.le_of_ble_eq_true rfl⟩) hD hS hA (fun r9 u9 H locs hw hp hd hs => ?_)
    clear hP hD hS
    obtain ⟨rfl, rfl⟩ := hw
    have hP := hp; have hD := hd; have hS := hs; clear hp hd hs
    refine lv_iconst (v := (-1)) hx hb dX10_laysReach_96 (by decide) ?_
    refine lv_icmp_eq (tgt := 146) hx hb dX10_laysReach_97 (by decide) (fun c9 => ?_) (fun c9 => ?_)
    · rw [if_pos c9] at h
      exact WX10_laysReach_146 C0 hk57 hk64 _ _ _ _ _ _ _ h hP hD hS (lv_sub hl [1, 2, 3, 4] rfl)
    · rw [if_neg c9] at h
      refine lv_aload_n hx hb dX10_laysReach_100 rfl (lv_at hl 1 rfl) ?_
      refine va_get (D := D) (ci := 10) (v := .ref (ad 21)) (C := RX10) (T := TX10) (N := 56) hx hb hts u9_wsX10_laysReach_X10 hown hK hP 0 rfl rfl 40 (by decide) (hts (.fieldLink RX10 91 "TurnedFloorsModel" "dist" "[I") f9_wsX10_laysReach_232) (fun _ h9 => h9) rfl dX10_laysReach_101 ?_
      refine lv_iload hx hb dX10_laysReach_104 (lv_at hl 0 rfl) ?_
      obtain ⟨g14, h⟩ := dG_some h
      refine va_iald hx hb hK hP 21 0 rfl rfl (dg_in g14) dX10_laysReach_106 ?_
      obtain ⟨v15, ev15, h⟩ := dL_some h
      refine kz_topi v15 ev15 ?_
      refine lv_ldc (v := 1000000) hx hb hown (hts (.constant RX10 188 1000000) f9_wsX10_laysReach_233) dX10_laysReach_107 ?_
      refine lv_icmp_ge (tgt := 115) hx hb dX10_laysReach_109 (by decide) (fun c9 => ?_) (fun c9 => ?_)
      · rw [if_pos c9] at h
        refine lv_aload_n hx hb dX10_laysReach_115 rfl (lv_at hl 1 rfl) ?_
        refine va_get (D := D) (ci := 10) (v := .ref (ad 21)) (C := RX10) (T := TX10) (N := 56) hx hb hts u9_wsX10_laysReach_X10 hown hK hP 0 rfl rfl 40 (by decide) (hts (.fieldLink RX10 91 "TurnedFloorsModel" "dist" "[I") f9_wsX10_laysReach_232) (fun _ h9 => h9) rfl dX10_laysReach_116 ?_
        refine lv_iload hx hb dX10_laysReach_119 (lv_at hl 0 rfl) ?_
        refine lv_aload_n hx hb dX10_laysReach_121 rfl (lv_at hl 1 rfl) ?_
        refine va_get (D := D) (ci := 10) (v := .ref (ad 21)) (C := RX10) (T := TX10) (N := 56) hx hb hts u9_wsX10_laysReach_X10 hown hK hP 0 rfl rfl 40 (by decide) (hts (.fieldLink RX10 91 "TurnedFloorsModel" "dist" "[I") f9_wsX10_laysReach_232) (fun _ h9 => h9) rfl dX10_laysReach_122 ?_
        refine lv_aload_n hx hb dX10_laysReach_125 rfl (lv_at hl 1 rfl) ?_
        refine va_get (D := D) (ci := 10) (v := .ref (ad 23)) (C := RX10) (T := TX10) (N := 56) hx hb hts u9_wsX10_laysReach_X10 hown hK hP 0 rfl rfl 42 (by decide) (hts (.fieldLink RX10 97 "TurnedFloorsModel" "queue" "[I") f9_wsX10_laysReach_231) (fun _ h9 => h9) rfl dX10_laysReach_126 ?_
        refine lv_iload_n hx hb dX10_laysReach_129 rfl (lv_at hl 3 rfl) ?_
        obtain ⟨g16, h⟩ := dG_some h
        refine va_iald hx hb hK hP 23 0 rfl rfl (dg_in g16) dX10_laysReach_130 ?_
        obtain ⟨v17, ev17, h⟩ := dL_some h
        refine kz_topi v17 ev17 ?_
        obtain ⟨g18, h⟩ := dG_some h
        refine va_iald hx hb hK hP 21 0 rfl rfl (dg_in g18) dX10_laysReach_131 ?_
        obtain ⟨v19, ev19, h⟩ := dL_some h
        refine kz_topi v19 ev19 ?_
        refine lv_iconst (v := 1) hx hb dX10_laysReach_132 (by decide) ?_
        refine lv_iadd hx hb dX10_laysReach_133 ?_
        obtain ⟨g20, h⟩ := dG_some h
        refine va_iast hx hb hK hP hD hS 21 0 rfl rfl (dg_in g20) dX10_laysReach_134 (fun H locs hp hd hs => ?_)
        obtain ⟨q21, eq21, h⟩ := dL_some h
        refine kz_re (w2 := w10 ty ad q21) hp hd hs (by rw [← eq21]; exact w10_a21 ty ad q13 (Int32.toNatClampNeg r6) (v19 + 1 : Int32)) ?_
        clear hp hd hs hP hD hS
        intro hP hD hS
        refine lv_aload_n hx hb dX10_laysReach_135 rfl (lv_at hl 1 rfl) ?_
        refine va_get (D := D) (ci := 10) (v := .ref (ad 23)) (C := RX10) (T := TX10) (N := 56) hx hb hts u9_wsX10_laysReach_X10 hown hK hP 0 rfl rfl 42 (by decide) (hts (.fieldLink RX10 97 "TurnedFloorsModel" "queue" "[I") f9_wsX10_laysReach_231) (fun _ h9 => h9) rfl dX10_laysReach_136 ?_
        refine lv_iload_n hx hb dX10_laysReach_139 rfl (lv_at hl 2 rfl) ?_
        refine lv_iload hx hb dX10_laysReach_140 (lv_at hl 0 rfl) ?_
        obtain ⟨g22, h⟩ := dG_some h
        refine va_iast hx hb hK hP hD hS 23 0 rfl rfl (dg_in g22) dX10_laysReach_142 (fun H locs hp hd hs => ?_)
        obtain ⟨q23, eq23, h⟩ := dL_some h
        refine kz_re (w2 := w10 ty ad q23) hp hd hs (by rw [← eq23]; exact w10_a23 ty ad q21 (Int32.toNatClampNeg x1) r6) ?_
        clear hp hd hs hP hD hS
        intro hP hD hS
        refine lv_iinc (v := x1 + 1) (lv' := [(1, .int (x1 + 1)), (4, .int r6), (0, .ref (ad 0)), (2, .int x2), (3, .int x3)]) hx hb dX10_laysReach_143 hl (k := 2) rfl rfl (by decide) rfl (fun ls hl => ?_)
        exact WX10_laysReach_146 C0 hk57 hk64 _ _ _ _ _ _ _ h hP hD hS (lv_sub hl [2, 0, 3, 4] rfl)
      · rw [if_neg c9] at h
        refine lv_goto (tgt := 146) hx hb dX10_laysReach_112 (by decide) ?_
        exact WX10_laysReach_146 C0 hk57 hk64 _ _ _ _ _ _ _ h hP hD hS (lv_sub hl [1, 2, 3, 4] rfl)
set_option maxHeartbeats 4000000 in
set_option maxRecDepth 100000 in
theorem WX10_laysReach_64 {p : Program} {l : Launch} {e : Env} {s : State} {m : MethodId} {args : Array Value} {below : List Frame} {meth : Method} {c : Code} {D : va_G} {ty : Nat → ClassId} {eo : Nat → Nat} {A : Nat → Prop} {ad : Nat → Nat} {o1 : Int32} {o2 : dS} (C : dc_C p s m args meth c cX10_laysReach (some .int) 5 RX10 wsX10_laysReach D ty eo A) {k57 : dS → Int32 → Int32 → Option (Int32 × dS)} (hk57 : ∀ (q : dS) (x1 : Int32) (x2 : Int32) (H : Heap) (locs : List Loc) (ls : Array Slot), k57 q x1 x2 = some (o1, o2) → va_P D vwCl (w10 ty ad q) H → va_D A (w10 ty ad q) → va_S A s.heap H locs → lv_has ls 5 [(0, .ref (ad 0)), (1, .int x1), (2, .int x2)] → W p l e ({ frames := 88, cells := 0, slots := 0, locals := 2247 } : Room) s m args below meth c H locs 0 0 (MQ below (va_Qi (fun (r : Int32) (u : va_W) => o1 = r ∧ w10 ty ad o2 = u) (kz_B D ty A) A) args s 0 0 A) (F0 m 57 ls [])) (n : Nat) (q : dS) (x1 : Int32) (x2 : Int32) (x3 : Int32) (H : Heap) (locs : List Loc) (ls : Array Slot) (h : zX10_laysReach_64 k57 n q x1 x2 x3 = some (o1, o2)) (hP : va_P D vwCl (w10 ty ad q) H) (hD : va_D A (w10 ty ad q)) (hS : va_S A s.heap H locs) (hl : lv_has ls 5 [(0, .ref (ad 0)), (1, .int x1), (2, .int x2), (3, .int x3)]) : W p l e ({ frames := 88, cells := 0, slots := 0, locals := 2247 } : Room) s m args below meth c H locs 0 0 (MQ below (va_Qi (fun (r : Int32) (u : va_W) => o1 = r ∧ w10 ty ad o2 = u) (kz_B D ty A) A) args s 0 0 A) (F0 m 64 ls []) := by
  exact dFix_W (F := fun k (a : dS × Int32 × Int32 × Int32) => zX10_laysReach_64b k57 (fun q x1 x2 x3 => k (q, x1, x2, x3)) a.1 a.2.1 a.2.2.1 a.2.2.2) (o := (o1, o2)) (P := fun (a : dS × Int32 × Int32 × Int32) H locs ls => va_P D vwCl (w10 ty ad a.1) H ∧ va_D A (w10 ty ad a.1) ∧ va_S A s.heap H locs ∧ lv_has ls 5 [(0, .ref (ad 0)), (1, .int a.2.1), (2, .int a.2.2.1), (3, .int a.2.2.2)]) (G := fun H locs ls => W p l e ({ frames := 88, cells := 0, slots := 0, locals := 2247 } : Room) s m args below meth c H locs 0 0 (MQ below (va_Qi (fun (r : Int32) (u : va_W) => o1 = r ∧ w10 ty ad o2 = u) (kz_B D ty A) A) args s 0 0 A) (F0 m 64 ls []))
    (fun k hk a H locs ls h hp => WX10_laysReach_64b C hk57 (fun q x1 x2 x3 H locs ls h h1 h2 h3 h4 => hk (q, x1, x2, x3) H locs ls h ⟨h1, h2, h3, h4⟩) a.1 a.2.1 a.2.2.1 a.2.2.2 H locs ls h hp.1 hp.2.1 hp.2.2.1 hp.2.2.2) n (q, x1, x2, x3) H locs ls h ⟨hP, hD, hS, hl⟩
set_option maxHeartbeats 4000000 in
set_option maxRecDepth 100000 in
theorem WX10_laysReach_57b {p : Program} {l : Launch} {e : Env} {s : State} {m : MethodId} {args : Array Value} {below : List Frame} {meth : Method} {c : Code} {D : va_G} {ty : Nat → ClassId} {eo : Nat → Nat} {A : Nat → Prop} {ad : Nat → Nat} {o1 : Int32} {o2 : dS} (C : dc_C p s m args meth c cX10_laysReach (some .int) 5 RX10 wsX10_laysReach D ty eo A) {k57 : dS → Int32 → Int32 → Option (Int32 × dS)} (hk57 : ∀ (q : dS) (x1 : Int32) (x2 : Int32) (H : Heap) (locs : List Loc) (ls : Array Slot), k57 q x1 x2 = some (o1, o2) → va_P D vwCl (w10 ty ad q) H → va_D A (w10 ty ad q) → va_S A s.heap H locs → lv_has ls 5 [(0, .ref (ad 0)), (1, .int x1), (2, .int x2)] → W p l e ({ frames := 88, cells := 0, slots := 0, locals := 2247 } : Room) s m args below meth c H locs 0 0 (MQ below (va_Qi (fun (r : Int32) (u : va_W) => o1 = r ∧ w10 ty ad o2 = u) (kz_B D ty A) A) args s 0 0 A) (F0 m 57 ls [])) (q : dS) (x1 : Int32) (x2 : Int32) (H : Heap) (locs : List Loc) (ls : Array Slot) (h : zX10_laysReach_57b k57 q x1 x2 = some (o1, o2)) (hP : va_P D vwCl (w10 ty ad q) H) (hD : va_D A (w10 ty ad q)) (hS : va_S A s.heap H locs) (hl : lv_has ls 5 [(0, .ref (ad 0)), (1, .int x1), (2, .int x2)]) : W p l e ({ frames := 88, cells := 0, slots := 0, locals := 2247 } : Room) s m args below meth c H locs 0 0 (MQ below (va_Qi (fun (r : Int32) (u : va_W) => o1 = r ∧ w10 ty ad o2 = u) (kz_B D ty A) A) args s 0 0 A) (F0 m 57 ls []) := by
  have C0 := C
  obtain ⟨hx, hb, hr, hts, hown, hlocks, hml, hK, hN, hE, hA⟩ := C
  unfold zX10_laysReach_57b at h
  refine lv_iload_n hx hb dX10_laysReach_57 rfl (lv_at hl 2 rfl) ?_
  refine lv_iload_n hx hb dX10_laysReach_58 rfl (lv_at hl 1 rfl) ?_
  refine lv_icmp_ge (tgt := 158) hx hb dX10_laysReach_59 (by decide) (fun c9 => ?_) (fun c9 => ?_)
  · rw [if_pos c9] at h
    refine lv_iload_n hx hb dX10_laysReach_158 rfl (lv_at hl 1 rfl) ?_
    cases h
    exact kz_iret hx hb hr hlocks hP hK hD hS dX10_laysReach_159 ⟨rfl, rfl⟩
  · rw [if_neg c9] at h
    refine lv_iconst (v := 1) hx hb dX10_laysReach_62 (by decide) ?_
    refine lv_istore_n (lv' := [(3, .int 1), (0, .ref (ad 0)), (1, .int x1), (2, .int x2)]) hx hb dX10_laysReach_63 rfl hl (by decide) rfl (fun ls hl => ?_)
    exact WX10_laysReach_64 C0 hk57 _ _ _ _ _ _ _ _ h hP hD hS (lv_sub hl [1, 2, 3, 0] rfl)
set_option maxHeartbeats 4000000 in
set_option maxRecDepth 100000 in
theorem WX10_laysReach_57 {p : Program} {l : Launch} {e : Env} {s : State} {m : MethodId} {args : Array Value} {below : List Frame} {meth : Method} {c : Code} {D : va_G} {ty : Nat → ClassId} {eo : Nat → Nat} {A : Nat → Prop} {ad : Nat → Nat} {o1 : Int32} {o2 : dS} (C : dc_C p s m args meth c cX10_laysReach (some .int) 5 RX10 wsX10_laysReach D ty eo A)   (n : Nat) (q : dS) (x1 : Int32) (x2 : Int32) (H : Heap) (locs : List Loc) (ls : Array Slot) (h : zX10_laysReach_57  n q x1 x2 = some (o1, o2)) (hP : va_P D vwCl (w10 ty ad q) H) (hD : va_D A (w10 ty ad q)) (hS : va_S A s.heap H locs) (hl : lv_has ls 5 [(0, .ref (ad 0)), (1, .int x1), (2, .int x2)]) : W p l e ({ frames := 88, cells := 0, slots := 0, locals := 2247 } : Room) s m args below meth c H locs 0 0 (MQ below (va_Qi (fun (r : Int32) (u : va_W) => o1 = r ∧ w10 ty ad o2 = u) (kz_B D ty A) A) args s 0 0 A) (F0 m 57 ls []) := by
  exact dFix_W (F := fun k (a : dS × Int32 × Int32) => zX10_laysReach_57b  (fun q x1 x2 => k (q, x1, x2)) a.1 a.2.1 a.2.2) (o := (o1, o2)) (P := fun (a : dS × Int32 × Int32) H locs ls => va_P D vwCl (w10 ty ad a.1) H ∧ va_D A (w10 ty ad a.1) ∧ va_S A s.heap H locs ∧ lv_has ls 5 [(0, .ref (ad 0)), (1, .int a.2.1), (2, .int a.2.2)]) (G := fun H locs ls => W p l e ({ frames := 88, cells := 0, slots := 0, locals := 2247 } : Room) s m args below meth c H locs 0 0 (MQ below (va_Qi (fun (r : Int32) (u : va_W) => o1 = r ∧ w10 ty ad o2 = u) (kz_B D ty A) A) args s 0 0 A) (F0 m 57 ls []))
    (fun k hk a H locs ls h hp => WX10_laysReach_57b C  (fun q x1 x2 H locs ls h h1 h2 h3 h4 => hk (q, x1, x2) H locs ls h ⟨h1, h2, h3, h4⟩) a.1 a.2.1 a.2.2 H locs ls h hp.1 hp.2.1 hp.2.2.1 hp.2.2.2) n (q, x1, x2) H locs ls h ⟨hP, hD, hS, hl⟩
set_option maxHeartbeats 4000000 in
set_option maxRecDepth 100000 in
theorem WX10_laysReach_6b {p : Program} {l : Launch} {e : Env} {s : State} {m : MethodId} {args : Array Value} {below : List Frame} {meth : Method} {c : Code} {D : va_G} {ty : Nat → ClassId} {eo : Nat → Nat} {A : Nat → Prop} {ad : Nat → Nat} {o1 : Int32} {o2 : dS} (C : dc_C p s m args meth c cX10_laysReach (some .int) 5 RX10 wsX10_laysReach D ty eo A) {k6 : dS → Int32 → Option (Int32 × dS)} (hk6 : ∀ (q : dS) (x1 : Int32) (H : Heap) (locs : List Loc) (ls : Array Slot), k6 q x1 = some (o1, o2) → va_P D vwCl (w10 ty ad q) H → va_D A (w10 ty ad q) → va_S A s.heap H locs → lv_has ls 5 [(0, .ref (ad 0)), (1, .int x1)] → W p l e ({ frames := 88, cells := 0, slots := 0, locals := 2247 } : Room) s m args below meth c H locs 0 0 (MQ below (va_Qi (fun (r : Int32) (u : va_W) => o1 = r ∧ w10 ty ad o2 = u) (kz_B D ty A) A) args s 0 0 A) (F0 m 6 ls [])) (q : dS) (x1 : Int32) (H : Heap) (locs : List Loc) (ls : Array Slot) (h : zX10_laysReach_6b k6 q x1 = some (o1, o2)) (hP : va_P D vwCl (w10 ty ad q) H) (hD : va_D A (w10 ty ad q)) (hS : va_S A s.heap H locs) (hl : lv_has ls 5 [(0, .ref (ad 0)), (1, .int x1)]) : W p l e ({ frames := 88, cells := 0, slots := 0, locals := 2247 } : Room) s m args below meth c H locs 0 0 (MQ below (va_Qi (fun (r : Int32) (u : va_W) => o1 = r ∧ w10 ty ad o2 = u) (kz_B D ty A) A) args s 0 0 A) (F0 m 6 ls []) := by
  have C0 := C
  obtain ⟨hx, hb, hr, hts, hown, hlocks, hml, hK, hN, hE, hA⟩ := C
  unfold zX10_laysReach_6b at h
  refine lv_iload_n hx hb dX10_laysReach_6 rfl (lv_at hl 1 rfl) ?_
  refine lv_bipush (v := 64) hx hb dX10_laysReach_7 (by decide) ?_
  refine lv_aload_n hx hb dX10_laysReach_9 rfl (lv_at hl 0 rfl) ?_
  refine va_get (D := D) (ci := 10) (v := .int (q.1 0 37)) (C := RX10) (T := TX10) (N := 56) hx hb hts u9_wsX10_laysReach_X10 hown hK hP 0 rfl rfl 37 (by decide) (hts (.fieldLink RX10 386 "TurnedFloorsModel" "orderMany" "I") f9_wsX10_laysReach_234) (fun _ h9 => h9) rfl dX10_laysReach_10 ?_
  refine lv_imul hx hb dX10_laysReach_13 ?_
  refine lv_icmp_ge (tgt := 31) hx hb dX10_laysReach_14 (by decide) (fun c9 => ?_) (fun c9 => ?_)
  · rw [if_pos c9] at h
    refine lv_iconst (v := 1) hx hb dX10_laysReach_31 (by decide) ?_
    refine lv_istore_n (lv' := [(1, .int 1), (0, .ref (ad 0))]) hx hb dX10_laysReach_32 rfl hl (by decide) rfl (fun ls hl => ?_)
    refine lv_aload_n hx hb dX10_laysReach_33 rfl (lv_at hl 1 rfl) ?_
    refine va_get (D := D) (ci := 10) (v := .ref (ad 23)) (C := RX10) (T := TX10) (N := 56) hx hb hts u9_wsX10_laysReach_X10 hown hK hP 0 rfl rfl 42 (by decide) (hts (.fieldLink RX10 97 "TurnedFloorsModel" "queue" "[I") f9_wsX10_laysReach_231) (fun _ h9 => h9) rfl dX10_laysReach_34 ?_
    refine lv_iconst (v := 0) hx hb dX10_laysReach_37 (by decide) ?_
    refine lv_aload_n hx hb dX10_laysReach_38 rfl (lv_at hl 1 rfl) ?_
    obtain ⟨r1, q3, h2, h⟩ := dB_some h
    refine dw_ki (va_runV (As := []) (rest := [.int 0, .ref (ad 23)]) ⟨hx, hb, hml, hown, hts⟩ (qX10_towerNow l D ty eo _ ad q  r1 q3 h2) (cwV 0 hts gX10_laysReach_X10_towerNow rfl rfl rfl hd_X10_towerNow_v ⟨Nat.le_of_ble_eq_true rfl, Nat.le_of_ble_eq_true rfl⟩) (pv10_10_0 hK hN hE hP hD hS hA) rfl rfl hl.1 rfl (lv_room (Nat.le_of_ble_eq_true rfl)) dX10_laysReach_39 ⟨Nat.le_of_ble_eq_true rfl, Nat.le_of_ble_eq_true rfl⟩) hD hS hA (fun r9 u9 H locs hw hp hd hs => ?_)
    clear hP hD hS
    obtain ⟨rfl, rfl⟩ := hw
    have hP := hp; have hD := hd; have hS := hs; clear hp hd hs
    refine va_iast hx hb hK hP hD hS 23 0 rfl rfl (by simp only [vp_in]; decide) dX10_laysReach_42 (fun H locs hp hd hs => ?_)
    obtain ⟨q4, eq4, h⟩ := dL_some h
    refine kz_re (w2 := w10 ty ad q4) hp hd hs (by rw [(by decide +kernel : Int32.toNatClampNeg 0 = 0), ← eq4]; exact w10_a23 ty ad q3 0 r1) ?_
    clear hp hd hs hP hD hS
    intro hP hD hS
    refine lv_aload_n hx hb dX10_laysReach_43 rfl (lv_at hl 1 rfl) ?_
    refine va_get (D := D) (ci := 10) (v := .ref (ad 21)) (C := RX10) (T := TX10) (N := 56) hx hb hts u9_wsX10_laysReach_X10 hown hK hP 0 rfl rfl 40 (by decide) (hts (.fieldLink RX10 91 "TurnedFloorsModel" "dist" "[I") f9_wsX10_laysReach_232) (fun _ h9 => h9) rfl dX10_laysReach_44 ?_
    refine lv_aload_n hx hb dX10_laysReach_47 rfl (lv_at hl 1 rfl) ?_
    refine va_get (D := D) (ci := 10) (v := .ref (ad 23)) (C := RX10) (T := TX10) (N := 56) hx hb hts u9_wsX10_laysReach_X10 hown hK hP 0 rfl rfl 42 (by decide) (hts (.fieldLink RX10 97 "TurnedFloorsModel" "queue" "[I") f9_wsX10_laysReach_231) (fun _ h9 => h9) rfl dX10_laysReach_48 ?_
    refine lv_iconst (v := 0) hx hb dX10_laysReach_51 (by decide) ?_
    refine va_iald hx hb hK hP 23 0 rfl rfl (by simp only [vp_in]; decide) dX10_laysReach_52 ?_
    refine kz_topi (q4.1 23 0) (congrArg (q4.1 23) (by decide +kernel : Int32.toNatClampNeg 0 = 0)) ?_
    refine lv_iconst (v := 0) hx hb dX10_laysReach_53 (by decide) ?_
    obtain ⟨g5, h⟩ := dG_some h
    refine va_iast hx hb hK hP hD hS 21 0 rfl rfl (dg_in g5) dX10_laysReach_54 (fun H locs hp hd hs => ?_)
    obtain ⟨q6, eq6, h⟩ := dL_some h
    refine kz_re (w2 := w10 ty ad q6) hp hd hs (by rw [← eq6]; exact w10_a21 ty ad q4 (Int32.toNatClampNeg (q4.1 23 0)) 0) ?_
    clear hp hd hs hP hD hS
    intro hP hD hS
    refine lv_iconst (v := 0) hx hb dX10_laysReach_55 (by decide) ?_
    refine lv_istore_n (lv' := [(2, .int 0), (1, .int 1), (0, .ref (ad 0))]) hx hb dX10_laysReach_56 rfl hl (by decide) rfl (fun ls hl => ?_)
    exact WX10_laysReach_57 C0  _ _ _ _ _ _ _ h hP hD hS (lv_sub hl [2, 1, 0] rfl)
  · rw [if_neg c9] at h
    refine lv_aload_n hx hb dX10_laysReach_17 rfl (lv_at hl 0 rfl) ?_
    refine va_get (D := D) (ci := 10) (v := .ref (ad 21)) (C := RX10) (T := TX10) (N := 56) hx hb hts u9_wsX10_laysReach_X10 hown hK hP 0 rfl rfl 40 (by decide) (hts (.fieldLink RX10 91 "TurnedFloorsModel" "dist" "[I") f9_wsX10_laysReach_232) (fun _ h9 => h9) rfl dX10_laysReach_18 ?_
    refine lv_iload_n hx hb dX10_laysReach_21 rfl (lv_at hl 1 rfl) ?_
    refine lv_ldc (v := 1000000) hx hb hown (hts (.constant RX10 188 1000000) f9_wsX10_laysReach_233) dX10_laysReach_22 ?_
    obtain ⟨g7, h⟩ := dG_some h
    refine va_iast hx hb hK hP hD hS 21 0 rfl rfl (dg_in g7) dX10_laysReach_24 (fun H locs hp hd hs => ?_)
    obtain ⟨q8, eq8, h⟩ := dL_some h
    refine kz_re (w2 := w10 ty ad q8) hp hd hs (by rw [← eq8]; exact w10_a21 ty ad q (Int32.toNatClampNeg x1) 1000000) ?_
    clear hp hd hs hP hD hS
    intro hP hD hS
    refine lv_iinc (v := x1 + 1) (lv' := [(1, .int (x1 + 1)), (0, .ref (ad 0))]) hx hb dX10_laysReach_25 hl (k := 1) rfl rfl (by decide) rfl (fun ls hl => ?_)
    refine lv_goto (tgt := 6) hx hb dX10_laysReach_28 (by decide) ?_
    exact hk6 _ _ _ _ _ h hP hD hS (lv_sub hl [1, 0] rfl)
set_option maxHeartbeats 4000000 in
set_option maxRecDepth 100000 in
theorem WX10_laysReach_6 {p : Program} {l : Launch} {e : Env} {s : State} {m : MethodId} {args : Array Value} {below : List Frame} {meth : Method} {c : Code} {D : va_G} {ty : Nat → ClassId} {eo : Nat → Nat} {A : Nat → Prop} {ad : Nat → Nat} {o1 : Int32} {o2 : dS} (C : dc_C p s m args meth c cX10_laysReach (some .int) 5 RX10 wsX10_laysReach D ty eo A)   (n : Nat) (q : dS) (x1 : Int32) (H : Heap) (locs : List Loc) (ls : Array Slot) (h : zX10_laysReach_6  n q x1 = some (o1, o2)) (hP : va_P D vwCl (w10 ty ad q) H) (hD : va_D A (w10 ty ad q)) (hS : va_S A s.heap H locs) (hl : lv_has ls 5 [(0, .ref (ad 0)), (1, .int x1)]) : W p l e ({ frames := 88, cells := 0, slots := 0, locals := 2247 } : Room) s m args below meth c H locs 0 0 (MQ below (va_Qi (fun (r : Int32) (u : va_W) => o1 = r ∧ w10 ty ad o2 = u) (kz_B D ty A) A) args s 0 0 A) (F0 m 6 ls []) := by
  exact dFix_W (F := fun k (a : dS × Int32) => zX10_laysReach_6b  (fun q x1 => k (q, x1)) a.1 a.2) (o := (o1, o2)) (P := fun (a : dS × Int32) H locs ls => va_P D vwCl (w10 ty ad a.1) H ∧ va_D A (w10 ty ad a.1) ∧ va_S A s.heap H locs ∧ lv_has ls 5 [(0, .ref (ad 0)), (1, .int a.2)]) (G := fun H locs ls => W p l e ({ frames := 88, cells := 0, slots := 0, locals := 2247 } : Room) s m args below meth c H locs 0 0 (MQ below (va_Qi (fun (r : Int32) (u : va_W) => o1 = r ∧ w10 ty ad o2 = u) (kz_B D ty A) A) args s 0 0 A) (F0 m 6 ls []))
    (fun k hk a H locs ls h hp => WX10_laysReach_6b C  (fun q x1 H locs ls h h1 h2 h3 h4 => hk (q, x1) H locs ls h ⟨h1, h2, h3, h4⟩) a.1 a.2 H locs ls h hp.1 hp.2.1 hp.2.2.1 hp.2.2.2) n (q, x1) H locs ls h ⟨hP, hD, hS, hl⟩
set_option maxHeartbeats 4000000 in
set_option maxRecDepth 100000 in
theorem qX10_laysReach (l : Launch) (D : va_G) (ty : Nat → ClassId) (eo : Nat → Nat) (sz : Nat) (ad : Nat → Nat) (q : dS)  (o1 : Int32) (o2 : dS) (h : zX10_laysReach q = some (o1, o2)) : Met l yX10_laysReach wsX10_laysReach ({ frames := 88, cells := 0, slots := 0, locals := 2247 } : Room) (va_Pc [.ref (ad 0)] (kz_pre D ty eo (w10 ty ad q) sz)) (va_Qi (fun (r : Int32) (u : va_W) => o1 = r ∧ w10 ty ad o2 = u) (kz_B D ty (va_A (w10 ty ad q) sz)) (va_A (w10 ty ad q) sz)) 0 0 (va_A (w10 ty ad q) sz) := by
  refine Met.ofW (cc := cX10_laysReach) (maxL := 5) (ret := (some .int)) (by decide) rfl ?_
  intro p e s m args below meth c s₁ B hml hv
  obtain ⟨rfl, hsz, hP, hK, hD0, hN, hE⟩ := hv
  have hx := B.exec
  have hb := B.bytes
  have hr := B.returns
  have hts := atoms_spec (ws := wsX10_laysReach) B.pre
  have hown : s.vm.findClass RX10 = some m.cls := findClass_of_methodNamed B.named
  have hlocks := B.notSynchronized
  subst hsz
  have hD := hD0.self (sz := s.heap.size)
  generalize hAe : va_A (w10 ty ad q) s.heap.size = A at hD hE ⊢
  have hA : ∀ q : Nat, s.heap.size ≤ q → A q := fun q h => by rw [← hAe]; exact Or.inr h
  clear hAe
  have hS : va_S A s.heap s.heap [] := va_S.rf
  have hl := lv_entry ([.ref (ad 0)]) (n := 5) (Nat.le_of_ble_eq_true rfl)
  rw [lg_entry_eq]
  generalize (lg_sl ([.ref (ad 0)]) ++ List.replicate (5 - (lg_sl ([.ref (ad 0)])).length) Slot.unset).toArray = ls at hl ⊢
  have hl : lv_has ls 5 [(0, .ref (ad 0))] := hl
  have C : dc_C p s m _ meth c cX10_laysReach (some .int) 5 RX10 wsX10_laysReach D ty eo A := ⟨hx, hb, hr, hts, hown, hlocks, hml, hK, hN, hE, hA⟩
  unfold zX10_laysReach at h
  refine lv_aload_n hx hb dX10_laysReach_0 rfl (lv_at hl 0 rfl) ?_
  obtain ⟨q3, h2, h⟩ := dV_some h
  refine dw_kv (va_runV (As := []) (rest := []) ⟨hx, hb, hml, hown, hts⟩ (qX10_laysPrices l D ty eo _ ad q  q3 h2) (cwV 0 hts gX10_laysReach_X10_laysPrices rfl rfl rfl hd_X10_laysPrices_v ⟨Nat.le_of_ble_eq_true rfl, Nat.le_of_ble_eq_true rfl⟩) (pv10_10_0 hK hN hE hP hD hS hA) rfl rfl hl.1 rfl (lv_room (Nat.le_of_ble_eq_true rfl)) dX10_laysReach_1 ⟨Nat.le_of_ble_eq_true rfl, Nat.le_of_ble_eq_true rfl⟩) hD hS hA (fun u9 H locs hw hp hd hs => ?_)
  clear hP hD hS
  obtain rfl := hw
  have hP := hp; have hD := hd; have hS := hs; clear hp hd hs
  refine lv_iconst (v := 0) hx hb dX10_laysReach_4 (by decide) ?_
  refine lv_istore_n (lv' := [(1, .int 0), (0, .ref (ad 0))]) hx hb dX10_laysReach_5 rfl hl (by decide) rfl (fun ls hl => ?_)
  exact WX10_laysReach_6 C  _ _ _ _ _ _ h hP hD hS (lv_sub hl [1, 0] rfl)

set_option maxHeartbeats 4000000 in
set_option maxRecDepth 100000 in
theorem qX10_reach (l : Launch) (D : va_G) (ty : Nat → ClassId) (eo : Nat → Nat) (sz : Nat) (ad : Nat → Nat) (q : dS)  (o1 : Int32) (o2 : dS) (h : zX10_reach q = some (o1, o2)) : Met l yX10_reach wsX10_reach ({ frames := 89, cells := 0, slots := 0, locals := 2271 } : Room) (va_Pc [.ref (ad 0)] (kz_pre D ty eo (w10 ty ad q) sz)) (va_Qi (fun (r : Int32) (u : va_W) => o1 = r ∧ w10 ty ad o2 = u) (kz_B D ty (va_A (w10 ty ad q) sz)) (va_A (w10 ty ad q) sz)) 0 0 (va_A (w10 ty ad q) sz) := by
  refine Met.ofW (cc := cX10_reach) (maxL := 1) (ret := (some .int)) (by decide) rfl ?_
  intro p e s m args below meth c s₁ B hml hv
  obtain ⟨rfl, hsz, hP, hK, hD0, hN, hE⟩ := hv
  have hx := B.exec
  have hb := B.bytes
  have hr := B.returns
  have hts := atoms_spec (ws := wsX10_reach) B.pre
  have hown : s.vm.findClass RX10 = some m.cls := findClass_of_methodNamed B.named
  have hlocks := B.notSynchronized
  subst hsz
  have hD := hD0.self (sz := s.heap.size)
  generalize hAe : va_A (w10 ty ad q) s.heap.size = A at hD hE ⊢
  have hA : ∀ q : Nat, s.heap.size ≤ q → A q := fun q h => by rw [← hAe]; exact Or.inr h
  clear hAe
  have hS : va_S A s.heap s.heap [] := va_S.rf
  have hl := lv_entry ([.ref (ad 0)]) (n := 1) (Nat.le_of_ble_eq_true rfl)
  rw [lg_entry_eq]
  generalize (lg_sl ([.ref (ad 0)]) ++ List.replicate (1 - (lg_sl ([.ref (ad 0)])).length) Slot.unset).toArray = ls at hl ⊢
  have hl : lv_has ls 1 [(0, .ref (ad 0))] := hl
  have C : dc_C p s m _ meth c cX10_reach (some .int) 1 RX10 wsX10_reach D ty eo A := ⟨hx, hb, hr, hts, hown, hlocks, hml, hK, hN, hE, hA⟩
  unfold zX10_reach at h
  refine lv_aload_n hx hb dX10_reach_0 rfl (lv_at hl 0 rfl) ?_
  obtain ⟨r1, q3, h2, h⟩ := dB_some h
  refine dw_ki (va_runV (As := []) (rest := []) ⟨hx, hb, hml, hown, hts⟩ (qX10_laysReach l D ty eo _ ad q  r1 q3 h2) (cwV 0 hts gX10_reach_X10_laysReach rfl rfl rfl hd_X10_laysReach_v ⟨Nat.le_of_ble_eq_true rfl, Nat.le_of_ble_eq_true rfl⟩) (pv10_10_0 hK hN hE hP hD hS hA) rfl rfl hl.1 rfl (lv_room (Nat.le_of_ble_eq_true rfl)) dX10_reach_1 ⟨Nat.le_of_ble_eq_true rfl, Nat.le_of_ble_eq_true rfl⟩) hD hS hA (fun r9 u9 H locs hw hp hd hs => ?_)
  clear hP hD hS
  obtain ⟨rfl, rfl⟩ := hw
  have hP := hp; have hD := hd; have hS := hs; clear hp hd hs
  cases h
  exact kz_iret hx hb hr hlocks hP hK hD hS dX10_reach_4 ⟨rfl, rfl⟩

set_option maxHeartbeats 4000000 in
set_option maxRecDepth 100000 in
theorem WX10_isOrder_121 {p : Program} {l : Launch} {e : Env} {s : State} {m : MethodId} {args : Array Value} {below : List Frame} {meth : Method} {c : Code} {D : va_G} {ty : Nat → ClassId} {eo : Nat → Nat} {A : Nat → Prop} {ad : Nat → Nat} {o1 : Int32} {o2 : dS} (C : dc_C p s m args meth c cX10_isOrder (some .boolean) 6 RX10 wsX10_isOrder D ty eo A)   (q : dS) (y0 : Int32) (H : Heap) (locs : List Loc) (ls : Array Slot) (h : zX10_isOrder_121  q y0 = some (o1, o2)) (hP : va_P D vwCl (w10 ty ad q) H) (hD : va_D A (w10 ty ad q)) (hS : va_S A s.heap H locs) (hl : lv_has ls 6 []) : W p l e ({ frames := 2, cells := 0, slots := 0, locals := 43 } : Room) s m args below meth c H locs 0 0 (MQ below (va_Qi (fun (r : Int32) (u : va_W) => o1 = r ∧ w10 ty ad o2 = u) (kz_B D ty A) A) args s 0 0 A) (F0 m 121 ls [.int y0]) := by
  have C0 := C
  obtain ⟨hx, hb, hr, hts, hown, hlocks, hml, hK, hN, hE, hA⟩ := C
  unfold zX10_isOrder_121 at h
  obtain ⟨g1, h⟩ := dG_some h
  cases h
  exact kz_zret hx hb hr hlocks (dbl_nar g1) hP hK hD hS dX10_isOrder_121 ⟨rfl, rfl⟩
set_option maxHeartbeats 4000000 in
set_option maxRecDepth 100000 in
theorem WX10_isOrder_120 {p : Program} {l : Launch} {e : Env} {s : State} {m : MethodId} {args : Array Value} {below : List Frame} {meth : Method} {c : Code} {D : va_G} {ty : Nat → ClassId} {eo : Nat → Nat} {A : Nat → Prop} {ad : Nat → Nat} {o1 : Int32} {o2 : dS} (C : dc_C p s m args meth c cX10_isOrder (some .boolean) 6 RX10 wsX10_isOrder D ty eo A)   (q : dS)  (H : Heap) (locs : List Loc) (ls : Array Slot) (h : zX10_isOrder_120  q = some (o1, o2)) (hP : va_P D vwCl (w10 ty ad q) H) (hD : va_D A (w10 ty ad q)) (hS : va_S A s.heap H locs) (hl : lv_has ls 6 []) : W p l e ({ frames := 2, cells := 0, slots := 0, locals := 43 } : Room) s m args below meth c H locs 0 0 (MQ below (va_Qi (fun (r : Int32) (u : va_W) => o1 = r ∧ w10 ty ad o2 = u) (kz_B D ty A) A) args s 0 0 A) (F0 m 120 ls []) := by
  have C0 := C
  obtain ⟨hx, hb, hr, hts, hown, hlocks, hml, hK, hN, hE, hA⟩ := C
  unfold zX10_isOrder_120 at h
  refine lv_iconst (v := 0) hx hb dX10_isOrder_120 (by decide) ?_
  exact WX10_isOrder_121 C0  _ _ _ _ _ h hP hD hS (lv_sub hl [] rfl)
set_option maxHeartbeats 4000000 in
set_option maxRecDepth 100000 in
theorem WX10_isOrder_95 {p : Program} {l : Launch} {e : Env} {s : State} {m : MethodId} {args : Array Value} {below : List Frame} {meth : Method} {c : Code} {D : va_G} {ty : Nat → ClassId} {eo : Nat → Nat} {A : Nat → Prop} {ad : Nat → Nat} {o1 : Int32} {o2 : dS} (C : dc_C p s m args meth c cX10_isOrder (some .boolean) 6 RX10 wsX10_isOrder D ty eo A) {k23 : dS → Int32 → Int32 → Int32 → Int32 → Option (Int32 × dS)} (hk23 : ∀ (q : dS) (x2 : Int32) (x3 : Int32) (x4 : Int32) (x5 : Int32) (H : Heap) (locs : List Loc) (ls : Array Slot), k23 q x2 x3 x4 x5 = some (o1, o2) → va_P D vwCl (w10 ty ad q) H → va_D A (w10 ty ad q) → va_S A s.heap H locs → lv_has ls 6 [(0, .ref (ad 0)), (2, .int x2), (3, .int x3), (4, .int x4), (5, .int x5)] → W p l e ({ frames := 2, cells := 0, slots := 0, locals := 43 } : Room) s m args below meth c H locs 0 0 (MQ below (va_Qi (fun (r : Int32) (u : va_W) => o1 = r ∧ w10 ty ad o2 = u) (kz_B D ty A) A) args s 0 0 A) (F0 m 23 ls [])) (q : dS) (x2 : Int32) (x3 : Int32) (x4 : Int32) (x5 : Int32) (y0 : Int32) (y1 : Int32) (H : Heap) (locs : List Loc) (ls : Array Slot) (h : zX10_isOrder_95 k23 q x2 x3 x4 x5 y0 y1 = some (o1, o2)) (hP : va_P D vwCl (w10 ty ad q) H) (hD : va_D A (w10 ty ad q)) (hS : va_S A s.heap H locs) (hl : lv_has ls 6 [(0, .ref (ad 0)), (2, .int x2), (3, .int x3), (4, .int x4), (5, .int x5)]) : W p l e ({ frames := 2, cells := 0, slots := 0, locals := 43 } : Room) s m args below meth c H locs 0 0 (MQ below (va_Qi (fun (r : Int32) (u : va_W) => o1 = r ∧ w10 ty ad o2 = u) (kz_B D ty A) A) args s 0 0 A) (F0 m 95 ls [.int y0, .int y1, .ref (ad 19)]) := by
  have C0 := C
  obtain ⟨hx, hb, hr, hts, hown, hlocks, hml, hK, hN, hE, hA⟩ := C
  unfold zX10_isOrder_95 at h
  obtain ⟨g1, h⟩ := dG_some h
  refine va_iast hx hb hK hP hD hS 19 0 rfl rfl (dg_in g1) dX10_isOrder_95 (fun H locs hp hd hs => ?_)
  obtain ⟨q2, eq2, h⟩ := dL_some h
  refine kz_re (w2 := w10 ty ad q2) hp hd hs (by rw [← eq2]; exact w10_a19 ty ad q (Int32.toNatClampNeg y1) y0) ?_
  clear hp hd hs hP hD hS
  intro hP hD hS
  refine lv_iload_n hx hb dX10_isOrder_96 rfl (lv_at hl 1 rfl) ?_
  refine lv_bipush (v := 10) hx hb dX10_isOrder_97 (by decide) ?_
  refine lv_idiv hx hb dX10_isOrder_99 (by decide) ?_
  refine lv_istore_n (lv' := [(2, .int (x2 / 10 : Int32)), (0, .ref (ad 0)), (3, .int x3), (4, .int x4), (5, .int x5)]) hx hb dX10_isOrder_100 rfl hl (by decide) rfl (fun ls hl => ?_)
  refine lv_iinc (v := x5 + (-1)) (lv' := [(5, .int (x5 + (-1))), (2, .int (x2 / 10 : Int32)), (0, .ref (ad 0)), (3, .int x3), (4, .int x4)]) hx hb dX10_isOrder_101 hl (k := 4) rfl rfl (by decide) rfl (fun ls hl => ?_)
  refine lv_goto (tgt := 23) hx hb dX10_isOrder_104 (by decide) ?_
  exact hk23 _ _ _ _ _ _ _ _ h hP hD hS (lv_sub hl [2, 1, 3, 4, 0] rfl)
set_option maxHeartbeats 4000000 in
set_option maxRecDepth 100000 in
theorem WX10_isOrder_61 {p : Program} {l : Launch} {e : Env} {s : State} {m : MethodId} {args : Array Value} {below : List Frame} {meth : Method} {c : Code} {D : va_G} {ty : Nat → ClassId} {eo : Nat → Nat} {A : Nat → Prop} {ad : Nat → Nat} {o1 : Int32} {o2 : dS} (C : dc_C p s m args meth c cX10_isOrder (some .boolean) 6 RX10 wsX10_isOrder D ty eo A) {k23 : dS → Int32 → Int32 → Int32 → Int32 → Option (Int32 × dS)} (hk23 : ∀ (q : dS) (x2 : Int32) (x3 : Int32) (x4 : Int32) (x5 : Int32) (H : Heap) (locs : List Loc) (ls : Array Slot), k23 q x2 x3 x4 x5 = some (o1, o2) → va_P D vwCl (w10 ty ad q) H → va_D A (w10 ty ad q) → va_S A s.heap H locs → lv_has ls 6 [(0, .ref (ad 0)), (2, .int x2), (3, .int x3), (4, .int x4), (5, .int x5)] → W p l e ({ frames := 2, cells := 0, slots := 0, locals := 43 } : Room) s m args below meth c H locs 0 0 (MQ below (va_Qi (fun (r : Int32) (u : va_W) => o1 = r ∧ w10 ty ad o2 = u) (kz_B D ty A) A) args s 0 0 A) (F0 m 23 ls [])) (q : dS) (x2 : Int32) (x3 : Int32) (x5 : Int32) (y0 : Int32) (H : Heap) (locs : List Loc) (ls : Array Slot) (h : zX10_isOrder_61 k23 q x2 x3 x5 y0 = some (o1, o2)) (hP : va_P D vwCl (w10 ty ad q) H) (hD : va_D A (w10 ty ad q)) (hS : va_S A s.heap H locs) (hl : lv_has ls 6 [(0, .ref (ad 0)), (2, .int x2), (3, .int x3), (5, .int x5)]) : W p l e ({ frames := 2, cells := 0, slots := 0, locals := 43 } : Room) s m args below meth c H locs 0 0 (MQ below (va_Qi (fun (r : Int32) (u : va_W) => o1 = r ∧ w10 ty ad o2 = u) (kz_B D ty A) A) args s 0 0 A) (F0 m 61 ls [.int y0]) := by
  have C0 := C
  obtain ⟨hx, hb, hr, hts, hown, hlocks, hml, hK, hN, hE, hA⟩ := C
  unfold zX10_isOrder_61 at h
  refine lv_istore (lv' := [(4, .int y0), (0, .ref (ad 0)), (2, .int x2), (3, .int x3), (5, .int x5)]) hx hb dX10_isOrder_61 hl (by decide) rfl (fun ls hl => ?_)
  refine lv_iload_n hx hb dX10_isOrder_63 rfl (lv_at hl 3 rfl) ?_
  refine lv_iconst (v := 1) hx hb dX10_isOrder_64 (by decide) ?_
  refine lv_iload_n hx hb dX10_isOrder_65 rfl (lv_at hl 2 rfl) ?_
  refine lv_bipush (v := 10) hx hb dX10_isOrder_66 (by decide) ?_
  refine lv_irem hx hb dX10_isOrder_68 (by decide) ?_
  refine lv_ishl hx hb dX10_isOrder_69 ?_
  obtain ⟨v1, ev1, h⟩ := dL_some h
  refine kz_topi v1 ev1 ?_
  refine lv_ior hx hb dX10_isOrder_70 ?_
  refine lv_istore_n (lv' := [(3, .int (x3 ||| v1)), (4, .int y0), (0, .ref (ad 0)), (2, .int x2), (5, .int x5)]) hx hb dX10_isOrder_71 rfl hl (by decide) rfl (fun ls hl => ?_)
  refine lv_aload_n hx hb dX10_isOrder_72 rfl (lv_at hl 2 rfl) ?_
  refine va_get (D := D) (ci := 10) (v := .ref (ad 19)) (C := RX10) (T := TX10) (N := 56) hx hb hts u9_wsX10_isOrder_X10 hown hK hP 0 rfl rfl 36 (by decide) (hts (.fieldLink RX10 84 "TurnedFloorsModel" "line" "[I") f9_wsX10_isOrder_236) (fun _ h9 => h9) rfl dX10_isOrder_73 ?_
  refine lv_iload hx hb dX10_isOrder_76 (lv_at hl 4 rfl) ?_
  refine lv_iload hx hb dX10_isOrder_78 (lv_at hl 1 rfl) ?_
  refine lv_if_eq (tgt := 94) hx hb dX10_isOrder_80 (by decide) (fun c9 => ?_) (fun c9 => ?_)
  · rw [if_pos c9] at h
    refine lv_iconst (v := 0) hx hb dX10_isOrder_94 (by decide) ?_
    exact WX10_isOrder_95 C0 hk23 _ _ _ _ _ _ _ _ _ _ h hP hD hS (lv_sub hl [2, 3, 0, 1, 4] rfl)
  · rw [if_neg c9] at h
    refine lv_aload_n hx hb dX10_isOrder_83 rfl (lv_at hl 2 rfl) ?_
    refine lv_iload_n hx hb dX10_isOrder_84 rfl (lv_at hl 3 rfl) ?_
    refine lv_bipush (v := 10) hx hb dX10_isOrder_85 (by decide) ?_
    refine lv_irem hx hb dX10_isOrder_87 (by decide) ?_
    obtain ⟨r2, q4, h3, h⟩ := dB_some h
    refine dw_ki (va_runV (As := [.int (x2 - x2 / 10 * 10 : Int32)]) (rest := [.int x5, .ref (ad 19)]) ⟨hx, hb, hml, hown, hts⟩ (qX10_lessThan l D ty eo _ ad q (x2 - x2 / 10 * 10 : Int32) r2 q4 h3) (cwV 1 hts gX10_isOrder_X10_lessThan rfl rfl rfl hd_X10_lessThan_v ⟨Nat.le_of_ble_eq_true rfl, Nat.le_of_ble_eq_true rfl⟩) (pv10_10_0 hK hN hE hP hD hS hA) rfl rfl hl.1 rfl (lv_room (Nat.le_of_ble_eq_true rfl)) dX10_isOrder_88 ⟨Nat.le_of_ble_eq_true rfl, Nat.le_of_ble_eq_true rfl⟩) hD hS hA (fun r9 u9 H locs hw hp hd hs => ?_)
    clear hP hD hS
    obtain ⟨rfl, rfl⟩ := hw
    have hP := hp; have hD := hd; have hS := hs; clear hp hd hs
    refine lv_goto (tgt := 95) hx hb dX10_isOrder_91 (by decide) ?_
    exact WX10_isOrder_95 C0 hk23 _ _ _ _ _ _ _ _ _ _ h hP hD hS (lv_sub hl [2, 3, 0, 1, 4] rfl)
set_option maxHeartbeats 4000000 in
set_option maxRecDepth 100000 in
theorem WX10_isOrder_60 {p : Program} {l : Launch} {e : Env} {s : State} {m : MethodId} {args : Array Value} {below : List Frame} {meth : Method} {c : Code} {D : va_G} {ty : Nat → ClassId} {eo : Nat → Nat} {A : Nat → Prop} {ad : Nat → Nat} {o1 : Int32} {o2 : dS} (C : dc_C p s m args meth c cX10_isOrder (some .boolean) 6 RX10 wsX10_isOrder D ty eo A) {k23 : dS → Int32 → Int32 → Int32 → Int32 → Option (Int32 × dS)} (hk23 : ∀ (q : dS) (x2 : Int32) (x3 : Int32) (x4 : Int32) (x5 : Int32) (H : Heap) (locs : List Loc) (ls : Array Slot), k23 q x2 x3 x4 x5 = some (o1, o2) → va_P D vwCl (w10 ty ad q) H → va_D A (w10 ty ad q) → va_S A s.heap H locs → lv_has ls 6 [(0, .ref (ad 0)), (2, .int x2), (3, .int x3), (4, .int x4), (5, .int x5)] → W p l e ({ frames := 2, cells := 0, slots := 0, locals := 43 } : Room) s m args below meth c H locs 0 0 (MQ below (va_Qi (fun (r : Int32) (u : va_W) => o1 = r ∧ w10 ty ad o2 = u) (kz_B D ty A) A) args s 0 0 A) (F0 m 23 ls [])) (q : dS) (x2 : Int32) (x3 : Int32) (x5 : Int32) (H : Heap) (locs : List Loc) (ls : Array Slot) (h : zX10_isOrder_60 k23 q x2 x3 x5 = some (o1, o2)) (hP : va_P D vwCl (w10 ty ad q) H) (hD : va_D A (w10 ty ad q)) (hS : va_S A s.heap H locs) (hl : lv_has ls 6 [(0, .ref (ad 0)), (2, .int x2), (3, .int x3), (5, .int x5)]) : W p l e ({ frames := 2, cells := 0, slots := 0, locals := 43 } : Room) s m args below meth c H locs 0 0 (MQ below (va_Qi (fun (r : Int32) (u : va_W) => o1 = r ∧ w10 ty ad o2 = u) (kz_B D ty A) A) args s 0 0 A) (F0 m 60 ls []) := by
  have C0 := C
  obtain ⟨hx, hb, hr, hts, hown, hlocks, hml, hK, hN, hE, hA⟩ := C
  unfold zX10_isOrder_60 at h
  refine lv_iconst (v := 0) hx hb dX10_isOrder_60 (by decide) ?_
  exact WX10_isOrder_61 C0 hk23 _ _ _ _ _ _ _ _ h hP hD hS (lv_sub hl [0, 1, 2, 3] rfl)
set_option maxHeartbeats 4000000 in
set_option maxRecDepth 100000 in
theorem WX10_isOrder_23b {p : Program} {l : Launch} {e : Env} {s : State} {m : MethodId} {args : Array Value} {below : List Frame} {meth : Method} {c : Code} {D : va_G} {ty : Nat → ClassId} {eo : Nat → Nat} {A : Nat → Prop} {ad : Nat → Nat} {o1 : Int32} {o2 : dS} (C : dc_C p s m args meth c cX10_isOrder (some .boolean) 6 RX10 wsX10_isOrder D ty eo A) {k23 : dS → Int32 → Int32 → Int32 → Int32 → Option (Int32 × dS)} (hk23 : ∀ (q : dS) (x2 : Int32) (x3 : Int32) (x4 : Int32) (x5 : Int32) (H : Heap) (locs : List Loc) (ls : Array Slot), k23 q x2 x3 x4 x5 = some (o1, o2) → va_P D vwCl (w10 ty ad q) H → va_D A (w10 ty ad q) → va_S A s.heap H locs → lv_has ls 6 [(0, .ref (ad 0)), (2, .int x2), (3, .int x3), (4, .int x4), (5, .int x5)] → W p l e ({ frames := 2, cells := 0, slots := 0, locals := 43 } : Room) s m args below meth c H locs 0 0 (MQ below (va_Qi (fun (r : Int32) (u : va_W) => o1 = r ∧ w10 ty ad o2 = u) (kz_B D ty A) A) args s 0 0 A) (F0 m 23 ls [])) (q : dS) (x2 : Int32) (x3 : Int32) (x4 : Int32) (x5 : Int32) (H : Heap) (locs : List Loc) (ls : Array Slot) (h : zX10_isOrder_23b k23 q x2 x3 x4 x5 = some (o1, o2)) (hP : va_P D vwCl (w10 ty ad q) H) (hD : va_D A (w10 ty ad q)) (hS : va_S A s.heap H locs) (hl : lv_has ls 6 [(0, .ref (ad 0)), (2, .int x2), (3, .int x3), (4, .int x4), (5, .int x5)]) : W p l e ({ frames := 2, cells := 0, slots := 0, locals := 43 } : Room) s m args below meth c H locs 0 0 (MQ below (va_Qi (fun (r : Int32) (u : va_W) => o1 = r ∧ w10 ty ad o2 = u) (kz_B D ty A) A) args s 0 0 A) (F0 m 23 ls []) := by
  have C0 := C
  obtain ⟨hx, hb, hr, hts, hown, hlocks, hml, hK, hN, hE, hA⟩ := C
  unfold zX10_isOrder_23b at h
  refine lv_iload hx hb dX10_isOrder_23 (lv_at hl 4 rfl) ?_
  refine lv_if_lt (tgt := 107) hx hb dX10_isOrder_25 (by decide) (fun c9 => ?_) (fun c9 => ?_)
  · rw [if_pos c9] at h
    refine lv_iload hx hb dX10_isOrder_107 (lv_at hl 3 rfl) ?_
    refine lv_if_eq (tgt := 120) hx hb dX10_isOrder_109 (by decide) (fun c9 => ?_) (fun c9 => ?_)
    · rw [if_pos c9] at h
      exact WX10_isOrder_120 C0  _ _ _ _ h hP hD hS (lv_sub hl [] rfl)
    · rw [if_neg c9] at h
      refine lv_iload_n hx hb dX10_isOrder_112 rfl (lv_at hl 1 rfl) ?_
      refine lv_if_ne (tgt := 120) hx hb dX10_isOrder_113 (by decide) (fun c9 => ?_) (fun c9 => ?_)
      · rw [if_neg c9] at h
        exact WX10_isOrder_120 C0  _ _ _ _ h hP hD hS (lv_sub hl [] rfl)
      · rw [if_pos c9] at h
        refine lv_iconst (v := 1) hx hb dX10_isOrder_116 (by decide) ?_
        refine lv_goto (tgt := 121) hx hb dX10_isOrder_117 (by decide) ?_
        exact WX10_isOrder_121 C0  _ _ _ _ _ h hP hD hS (lv_sub hl [] rfl)
  · rw [if_neg c9] at h
    refine lv_iload hx hb dX10_isOrder_28 (lv_at hl 3 rfl) ?_
    refine lv_if_eq (tgt := 60) hx hb dX10_isOrder_30 (by decide) (fun c9 => ?_) (fun c9 => ?_)
    · rw [if_pos c9] at h
      exact WX10_isOrder_60 C0 hk23 _ _ _ _ _ _ _ h hP hD hS (lv_sub hl [0, 1, 2, 4] rfl)
    · rw [if_neg c9] at h
      refine lv_aload_n hx hb dX10_isOrder_33 rfl (lv_at hl 0 rfl) ?_
      refine lv_iload_n hx hb dX10_isOrder_34 rfl (lv_at hl 1 rfl) ?_
      refine lv_bipush (v := 10) hx hb dX10_isOrder_35 (by decide) ?_
      refine lv_irem hx hb dX10_isOrder_37 (by decide) ?_
      obtain ⟨r1, q3, h2, h⟩ := dB_some h
      refine dw_ki (va_runV (As := [.int (x2 - x2 / 10 * 10 : Int32)]) (rest := []) ⟨hx, hb, hml, hown, hts⟩ (qX10_placeOf l D ty eo _ ad q (x2 - x2 / 10 * 10 : Int32) r1 q3 h2) (cwV 1 hts gX10_isOrder_X10_placeOf rfl rfl rfl hd_X10_placeOf_v ⟨Nat.le_of_ble_eq_true rfl, Nat.le_of_ble_eq_true rfl⟩) (pv10_10_0 hK hN hE hP hD hS hA) rfl rfl hl.1 rfl (lv_room (Nat.le_of_ble_eq_true rfl)) dX10_isOrder_38 ⟨Nat.le_of_ble_eq_true rfl, Nat.le_of_ble_eq_true rfl⟩) hD hS hA (fun r9 u9 H locs hw hp hd hs => ?_)
      clear hP hD hS
      obtain ⟨rfl, rfl⟩ := hw
      have hP := hp; have hD := hd; have hS := hs; clear hp hd hs
      refine lv_iconst (v := (-1)) hx hb dX10_isOrder_41 (by decide) ?_
      refine lv_icmp_eq (tgt := 60) hx hb dX10_isOrder_42 (by decide) (fun c9 => ?_) (fun c9 => ?_)
      · rw [if_pos c9] at h
        exact WX10_isOrder_60 C0 hk23 _ _ _ _ _ _ _ h hP hD hS (lv_sub hl [0, 1, 2, 4] rfl)
      · rw [if_neg c9] at h
        refine lv_iload_n hx hb dX10_isOrder_45 rfl (lv_at hl 2 rfl) ?_
        refine lv_iload_n hx hb dX10_isOrder_46 rfl (lv_at hl 1 rfl) ?_
        refine lv_bipush (v := 10) hx hb dX10_isOrder_47 (by decide) ?_
        refine lv_irem hx hb dX10_isOrder_49 (by decide) ?_
        obtain ⟨r4, h5, h⟩ := dV_some h
        refine dw_ks (va_runS (As := [.int x3, .int (x2 - x2 / 10 * 10 : Int32)]) (rest := []) ⟨hx, hb, hml, hown, hts⟩ (qX10_isIn l D ty eo _ x3 (x2 - x2 / 10 * 10 : Int32) _ h5) (va_cwS 2 hts gX10_isOrder_X10_isIn rfl rfl rfl hd_X10_isIn ⟨Nat.le_of_ble_eq_true rfl, Nat.le_of_ble_eq_true rfl⟩) (pvS_0 hK hN hE hP hD hS hA) rfl rfl hl.1 rfl (lv_room (Nat.le_of_ble_eq_true rfl)) dX10_isOrder_50 ⟨Nat.le_of_ble_eq_true rfl, Nat.le_of_ble_eq_true rfl⟩) hP hD hS hA (fun _ _ h9 => h9.2.symm) (fun r9 u9 H locs hw hp hd hs => ?_)
        obtain ⟨rfl, -⟩ := hw
        clear hP hD hS
        have hP := hp; have hD := hd; have hS := hs; clear hp hd hs
        refine lv_if_ne (tgt := 60) hx hb dX10_isOrder_53 (by decide) (fun c9 => ?_) (fun c9 => ?_)
        · rw [if_neg c9] at h
          exact WX10_isOrder_60 C0 hk23 _ _ _ _ _ _ _ h hP hD hS (lv_sub hl [0, 1, 2, 4] rfl)
        · rw [if_pos c9] at h
          refine lv_iconst (v := 1) hx hb dX10_isOrder_56 (by decide) ?_
          refine lv_goto (tgt := 61) hx hb dX10_isOrder_57 (by decide) ?_
          exact WX10_isOrder_61 C0 hk23 _ _ _ _ _ _ _ _ h hP hD hS (lv_sub hl [0, 1, 2, 4] rfl)
set_option maxHeartbeats 4000000 in
set_option maxRecDepth 100000 in
theorem WX10_isOrder_23 {p : Program} {l : Launch} {e : Env} {s : State} {m : MethodId} {args : Array Value} {below : List Frame} {meth : Method} {c : Code} {D : va_G} {ty : Nat → ClassId} {eo : Nat → Nat} {A : Nat → Prop} {ad : Nat → Nat} {o1 : Int32} {o2 : dS} (C : dc_C p s m args meth c cX10_isOrder (some .boolean) 6 RX10 wsX10_isOrder D ty eo A)   (n : Nat) (q : dS) (x2 : Int32) (x3 : Int32) (x4 : Int32) (x5 : Int32) (H : Heap) (locs : List Loc) (ls : Array Slot) (h : zX10_isOrder_23  n q x2 x3 x4 x5 = some (o1, o2)) (hP : va_P D vwCl (w10 ty ad q) H) (hD : va_D A (w10 ty ad q)) (hS : va_S A s.heap H locs) (hl : lv_has ls 6 [(0, .ref (ad 0)), (2, .int x2), (3, .int x3), (4, .int x4), (5, .int x5)]) : W p l e ({ frames := 2, cells := 0, slots := 0, locals := 43 } : Room) s m args below meth c H locs 0 0 (MQ below (va_Qi (fun (r : Int32) (u : va_W) => o1 = r ∧ w10 ty ad o2 = u) (kz_B D ty A) A) args s 0 0 A) (F0 m 23 ls []) := by
  exact dFix_W (F := fun k (a : dS × Int32 × Int32 × Int32 × Int32) => zX10_isOrder_23b  (fun q x2 x3 x4 x5 => k (q, x2, x3, x4, x5)) a.1 a.2.1 a.2.2.1 a.2.2.2.1 a.2.2.2.2) (o := (o1, o2)) (P := fun (a : dS × Int32 × Int32 × Int32 × Int32) H locs ls => va_P D vwCl (w10 ty ad a.1) H ∧ va_D A (w10 ty ad a.1) ∧ va_S A s.heap H locs ∧ lv_has ls 6 [(0, .ref (ad 0)), (2, .int a.2.1), (3, .int a.2.2.1), (4, .int a.2.2.2.1), (5, .int a.2.2.2.2)]) (G := fun H locs ls => W p l e ({ frames := 2, cells := 0, slots := 0, locals := 43 } : Room) s m args below meth c H locs 0 0 (MQ below (va_Qi (fun (r : Int32) (u : va_W) => o1 = r ∧ w10 ty ad o2 = u) (kz_B D ty A) A) args s 0 0 A) (F0 m 23 ls []))
    (fun k hk a H locs ls h hp => WX10_isOrder_23b C  (fun q x2 x3 x4 x5 H locs ls h h1 h2 h3 h4 => hk (q, x2, x3, x4, x5) H locs ls h ⟨h1, h2, h3, h4⟩) a.1 a.2.1 a.2.2.1 a.2.2.2.1 a.2.2.2.2 H locs ls h hp.1 hp.2.1 hp.2.2.1 hp.2.2.2) n (q, x2, x3, x4, x5) H locs ls h ⟨hP, hD, hS, hl⟩
set_option maxHeartbeats 4000000 in
set_option maxRecDepth 100000 in
theorem WX10_isOrder_13 {p : Program} {l : Launch} {e : Env} {s : State} {m : MethodId} {args : Array Value} {below : List Frame} {meth : Method} {c : Code} {D : va_G} {ty : Nat → ClassId} {eo : Nat → Nat} {A : Nat → Prop} {ad : Nat → Nat} {o1 : Int32} {o2 : dS} (C : dc_C p s m args meth c cX10_isOrder (some .boolean) 6 RX10 wsX10_isOrder D ty eo A)   (q : dS) (x2 : Int32) (x3 : Int32) (y0 : Int32) (H : Heap) (locs : List Loc) (ls : Array Slot) (h : zX10_isOrder_13  q x2 x3 y0 = some (o1, o2)) (hP : va_P D vwCl (w10 ty ad q) H) (hD : va_D A (w10 ty ad q)) (hS : va_S A s.heap H locs) (hl : lv_has ls 6 [(0, .ref (ad 0)), (2, .int x2), (3, .int x3)]) : W p l e ({ frames := 2, cells := 0, slots := 0, locals := 43 } : Room) s m args below meth c H locs 0 0 (MQ below (va_Qi (fun (r : Int32) (u : va_W) => o1 = r ∧ w10 ty ad o2 = u) (kz_B D ty A) A) args s 0 0 A) (F0 m 13 ls [.int y0]) := by
  have C0 := C
  obtain ⟨hx, hb, hr, hts, hown, hlocks, hml, hK, hN, hE, hA⟩ := C
  unfold zX10_isOrder_13 at h
  refine lv_istore (lv' := [(4, .int y0), (0, .ref (ad 0)), (2, .int x2), (3, .int x3)]) hx hb dX10_isOrder_13 hl (by decide) rfl (fun ls hl => ?_)
  refine lv_aload_n hx hb dX10_isOrder_15 rfl (lv_at hl 1 rfl) ?_
  obtain ⟨r1, q3, h2, h⟩ := dB_some h
  refine dw_ki (va_runV (As := []) (rest := []) ⟨hx, hb, hml, hown, hts⟩ (qX10_size l D ty eo _ ad q  r1 q3 h2) (cwV 0 hts gX10_isOrder_X10_size rfl rfl rfl hd_X10_size_v ⟨Nat.le_of_ble_eq_true rfl, Nat.le_of_ble_eq_true rfl⟩) (pv10_10_0 hK hN hE hP hD hS hA) rfl rfl hl.1 rfl (lv_room (Nat.le_of_ble_eq_true rfl)) dX10_isOrder_16 ⟨Nat.le_of_ble_eq_true rfl, Nat.le_of_ble_eq_true rfl⟩) hD hS hA (fun r9 u9 H locs hw hp hd hs => ?_)
  clear hP hD hS
  obtain ⟨rfl, rfl⟩ := hw
  have hP := hp; have hD := hd; have hS := hs; clear hp hd hs
  refine lv_iconst (v := 1) hx hb dX10_isOrder_19 (by decide) ?_
  refine lv_isub hx hb dX10_isOrder_20 ?_
  refine lv_istore (lv' := [(5, .int (r1 - 1 : Int32)), (4, .int y0), (0, .ref (ad 0)), (2, .int x2), (3, .int x3)]) hx hb dX10_isOrder_21 hl (by decide) rfl (fun ls hl => ?_)
  exact WX10_isOrder_23 C0  _ _ _ _ _ _ _ _ _ h hP hD hS (lv_sub hl [2, 3, 4, 1, 0] rfl)
set_option maxHeartbeats 4000000 in
set_option maxRecDepth 100000 in
theorem qX10_isOrder (l : Launch) (D : va_G) (ty : Nat → ClassId) (eo : Nat → Nat) (sz : Nat) (ad : Nat → Nat) (q : dS) (p1 : Int32) (o1 : Int32) (o2 : dS) (h : zX10_isOrder q p1 = some (o1, o2)) : Met l yX10_isOrder wsX10_isOrder ({ frames := 2, cells := 0, slots := 0, locals := 43 } : Room) (va_Pc [.ref (ad 0), .int p1] (kz_pre D ty eo (w10 ty ad q) sz)) (va_Qi (fun (r : Int32) (u : va_W) => o1 = r ∧ w10 ty ad o2 = u) (kz_B D ty (va_A (w10 ty ad q) sz)) (va_A (w10 ty ad q) sz)) 0 0 (va_A (w10 ty ad q) sz) := by
  refine Met.ofW (cc := cX10_isOrder) (maxL := 6) (ret := (some .boolean)) (by decide) rfl ?_
  intro p e s m args below meth c s₁ B hml hv
  obtain ⟨rfl, hsz, hP, hK, hD0, hN, hE⟩ := hv
  have hx := B.exec
  have hb := B.bytes
  have hr := B.returns
  have hts := atoms_spec (ws := wsX10_isOrder) B.pre
  have hown : s.vm.findClass RX10 = some m.cls := findClass_of_methodNamed B.named
  have hlocks := B.notSynchronized
  subst hsz
  have hD := hD0.self (sz := s.heap.size)
  generalize hAe : va_A (w10 ty ad q) s.heap.size = A at hD hE ⊢
  have hA : ∀ q : Nat, s.heap.size ≤ q → A q := fun q h => by rw [← hAe]; exact Or.inr h
  clear hAe
  have hS : va_S A s.heap s.heap [] := va_S.rf
  have hl := lv_entry ([.ref (ad 0), .int p1]) (n := 6) (Nat.le_of_ble_eq_true rfl)
  rw [lg_entry_eq]
  generalize (lg_sl ([.ref (ad 0), .int p1]) ++ List.replicate (6 - (lg_sl ([.ref (ad 0), .int p1])).length) Slot.unset).toArray = ls at hl ⊢
  have hl : lv_has ls 6 [(0, .ref (ad 0)), (1, .int p1)] := hl
  have C : dc_C p s m _ meth c cX10_isOrder (some .boolean) 6 RX10 wsX10_isOrder D ty eo A := ⟨hx, hb, hr, hts, hown, hlocks, hml, hK, hN, hE, hA⟩
  unfold zX10_isOrder at h
  refine lv_iload_n hx hb dX10_isOrder_0 rfl (lv_at hl 1 rfl) ?_
  refine lv_istore_n (lv' := [(2, .int p1), (0, .ref (ad 0)), (1, .int p1)]) hx hb dX10_isOrder_1 rfl hl (by decide) rfl (fun ls hl => ?_)
  refine lv_iconst (v := 0) hx hb dX10_isOrder_2 (by decide) ?_
  refine lv_istore_n (lv' := [(3, .int 0), (2, .int p1), (0, .ref (ad 0)), (1, .int p1)]) hx hb dX10_isOrder_3 rfl hl (by decide) rfl (fun ls hl => ?_)
  refine lv_iload_n hx hb dX10_isOrder_4 rfl (lv_at hl 3 rfl) ?_
  refine lv_if_lt (tgt := 12) hx hb dX10_isOrder_5 (by decide) (fun c9 => ?_) (fun c9 => ?_)
  · rw [if_pos c9] at h
    refine lv_iconst (v := 0) hx hb dX10_isOrder_12 (by decide) ?_
    exact WX10_isOrder_13 C  _ _ _ _ _ _ _ h hP hD hS (lv_sub hl [2, 1, 0] rfl)
  · rw [if_neg c9] at h
    refine lv_iconst (v := 1) hx hb dX10_isOrder_8 (by decide) ?_
    refine lv_goto (tgt := 13) hx hb dX10_isOrder_9 (by decide) ?_
    exact WX10_isOrder_13 C  _ _ _ _ _ _ _ h hP hD hS (lv_sub hl [2, 1, 0] rfl)

set_option maxHeartbeats 4000000 in
set_option maxRecDepth 100000 in
theorem WX10_comes_69 {p : Program} {l : Launch} {e : Env} {s : State} {m : MethodId} {args : Array Value} {below : List Frame} {meth : Method} {c : Code} {D : va_G} {ty : Nat → ClassId} {eo : Nat → Nat} {A : Nat → Prop} {ad : Nat → Nat} {o1 : Int32} {o2 : dS} (C : dc_C p s m args meth c cX10_comes (some .int) 5 RX10 wsX10_comes D ty eo A)   (q : dS) (y0 : Int32) (H : Heap) (locs : List Loc) (ls : Array Slot) (h : zX10_comes_69  q y0 = some (o1, o2)) (hP : va_P D vwCl (w10 ty ad q) H) (hD : va_D A (w10 ty ad q)) (hS : va_S A s.heap H locs) (hl : lv_has ls 5 []) : W p l e ({ frames := 89, cells := 0, slots := 0, locals := 2271 } : Room) s m args below meth c H locs 0 0 (MQ below (va_Qi (fun (r : Int32) (u : va_W) => o1 = r ∧ w10 ty ad o2 = u) (kz_B D ty A) A) args s 0 0 A) (F0 m 69 ls [.int y0]) := by
  have C0 := C
  obtain ⟨hx, hb, hr, hts, hown, hlocks, hml, hK, hN, hE, hA⟩ := C
  unfold zX10_comes_69 at h
  cases h
  exact kz_iret hx hb hr hlocks hP hK hD hS dX10_comes_69 ⟨rfl, rfl⟩
set_option maxHeartbeats 4000000 in
set_option maxRecDepth 100000 in
theorem WX10_comes_26b {p : Program} {l : Launch} {e : Env} {s : State} {m : MethodId} {args : Array Value} {below : List Frame} {meth : Method} {c : Code} {D : va_G} {ty : Nat → ClassId} {eo : Nat → Nat} {A : Nat → Prop} {ad : Nat → Nat} {o1 : Int32} {o2 : dS} (C : dc_C p s m args meth c cX10_comes (some .int) 5 RX10 wsX10_comes D ty eo A) {k26 : dS → Int32 → Int32 → Int32 → Option (Int32 × dS)} (hk26 : ∀ (q : dS) (x2 : Int32) (x3 : Int32) (x4 : Int32) (H : Heap) (locs : List Loc) (ls : Array Slot), k26 q x2 x3 x4 = some (o1, o2) → va_P D vwCl (w10 ty ad q) H → va_D A (w10 ty ad q) → va_S A s.heap H locs → lv_has ls 5 [(0, .ref (ad 0)), (2, .int x2), (3, .int x3), (4, .int x4)] → W p l e ({ frames := 89, cells := 0, slots := 0, locals := 2271 } : Room) s m args below meth c H locs 0 0 (MQ below (va_Qi (fun (r : Int32) (u : va_W) => o1 = r ∧ w10 ty ad o2 = u) (kz_B D ty A) A) args s 0 0 A) (F0 m 26 ls [])) (q : dS) (x2 : Int32) (x3 : Int32) (x4 : Int32) (H : Heap) (locs : List Loc) (ls : Array Slot) (h : zX10_comes_26b k26 q x2 x3 x4 = some (o1, o2)) (hP : va_P D vwCl (w10 ty ad q) H) (hD : va_D A (w10 ty ad q)) (hS : va_S A s.heap H locs) (hl : lv_has ls 5 [(0, .ref (ad 0)), (2, .int x2), (3, .int x3), (4, .int x4)]) : W p l e ({ frames := 89, cells := 0, slots := 0, locals := 2271 } : Room) s m args below meth c H locs 0 0 (MQ below (va_Qi (fun (r : Int32) (u : va_W) => o1 = r ∧ w10 ty ad o2 = u) (kz_B D ty A) A) args s 0 0 A) (F0 m 26 ls []) := by
  have C0 := C
  obtain ⟨hx, hb, hr, hts, hown, hlocks, hml, hK, hN, hE, hA⟩ := C
  unfold zX10_comes_26b at h
  refine lv_iload hx hb dX10_comes_26 (lv_at hl 3 rfl) ?_
  refine lv_aload_n hx hb dX10_comes_28 rfl (lv_at hl 0 rfl) ?_
  refine va_get (D := D) (ci := 10) (v := .int (q.1 0 38)) (C := RX10) (T := TX10) (N := 56) hx hb hts u9_wsX10_comes_X10 hown hK hP 0 rfl rfl 38 (by decide) (hts (.fieldLink RX10 389 "TurnedFloorsModel" "headMany" "I") f9_wsX10_comes_238) (fun _ h9 => h9) rfl dX10_comes_29 ?_
  refine lv_icmp_ge (tgt := 58) hx hb dX10_comes_32 (by decide) (fun c9 => ?_) (fun c9 => ?_)
  · rw [if_pos c9] at h
    refine lv_iload_n hx hb dX10_comes_58 rfl (lv_at hl 2 rfl) ?_
    refine lv_ldc (v := 1000000) hx hb hown (hts (.constant RX10 188 1000000) f9_wsX10_comes_239) dX10_comes_59 ?_
    refine lv_icmp_ne (tgt := 68) hx hb dX10_comes_61 (by decide) (fun c9 => ?_) (fun c9 => ?_)
    · rw [if_neg c9] at h
      refine lv_iload_n hx hb dX10_comes_68 rfl (lv_at hl 2 rfl) ?_
      exact WX10_comes_69 C0  _ _ _ _ _ h hP hD hS (lv_sub hl [] rfl)
    · rw [if_pos c9] at h
      refine lv_iconst (v := (-1)) hx hb dX10_comes_64 (by decide) ?_
      refine lv_goto (tgt := 69) hx hb dX10_comes_65 (by decide) ?_
      exact WX10_comes_69 C0  _ _ _ _ _ h hP hD hS (lv_sub hl [] rfl)
  · rw [if_neg c9] at h
    refine lv_iload_n hx hb dX10_comes_35 rfl (lv_at hl 2 rfl) ?_
    refine lv_aload_n hx hb dX10_comes_36 rfl (lv_at hl 0 rfl) ?_
    refine va_get (D := D) (ci := 10) (v := .ref (ad 21)) (C := RX10) (T := TX10) (N := 56) hx hb hts u9_wsX10_comes_X10 hown hK hP 0 rfl rfl 40 (by decide) (hts (.fieldLink RX10 91 "TurnedFloorsModel" "dist" "[I") f9_wsX10_comes_240) (fun _ h9 => h9) rfl dX10_comes_37 ?_
    refine lv_bipush (v := 64) hx hb dX10_comes_40 (by decide) ?_
    refine lv_iload_n hx hb dX10_comes_42 rfl (lv_at hl 1 rfl) ?_
    refine lv_imul hx hb dX10_comes_43 ?_
    refine lv_iload hx hb dX10_comes_44 (lv_at hl 3 rfl) ?_
    refine lv_iadd hx hb dX10_comes_46 ?_
    obtain ⟨g1, h⟩ := dG_some h
    refine va_iald hx hb hK hP 21 0 rfl rfl (dg_in g1) dX10_comes_47 ?_
    obtain ⟨v2, ev2, h⟩ := dL_some h
    refine kz_topi v2 ev2 ?_
    obtain ⟨r3, h4, h⟩ := dV_some h
    refine dw_ks (va_runS (As := [.int x3, .int v2]) (rest := []) ⟨hx, hb, hml, hown, hts⟩ (qX10_lesser l D ty eo _ x3 v2 _ h4) (va_cwS 2 hts gX10_comes_X10_lesser rfl rfl rfl hd_X10_lesser ⟨Nat.le_of_ble_eq_true rfl, Nat.le_of_ble_eq_true rfl⟩) (pvS_0 hK hN hE hP hD hS hA) rfl rfl hl.1 rfl (lv_room (Nat.le_of_ble_eq_true rfl)) dX10_comes_48 ⟨Nat.le_of_ble_eq_true rfl, Nat.le_of_ble_eq_true rfl⟩) hP hD hS hA (fun _ _ h9 => h9.2.symm) (fun r9 u9 H locs hw hp hd hs => ?_)
    obtain ⟨rfl, -⟩ := hw
    clear hP hD hS
    have hP := hp; have hD := hd; have hS := hs; clear hp hd hs
    refine lv_istore_n (lv' := [(3, .int r3), (0, .ref (ad 0)), (2, .int x2), (4, .int x4)]) hx hb dX10_comes_51 rfl hl (by decide) rfl (fun ls hl => ?_)
    refine lv_iinc (v := x4 + 1) (lv' := [(4, .int (x4 + 1)), (3, .int r3), (0, .ref (ad 0)), (2, .int x2)]) hx hb dX10_comes_52 hl (k := 3) rfl rfl (by decide) rfl (fun ls hl => ?_)
    refine lv_goto (tgt := 26) hx hb dX10_comes_55 (by decide) ?_
    exact hk26 _ _ _ _ _ _ _ h hP hD hS (lv_sub hl [2, 3, 1, 0] rfl)
set_option maxHeartbeats 4000000 in
set_option maxRecDepth 100000 in
theorem WX10_comes_26 {p : Program} {l : Launch} {e : Env} {s : State} {m : MethodId} {args : Array Value} {below : List Frame} {meth : Method} {c : Code} {D : va_G} {ty : Nat → ClassId} {eo : Nat → Nat} {A : Nat → Prop} {ad : Nat → Nat} {o1 : Int32} {o2 : dS} (C : dc_C p s m args meth c cX10_comes (some .int) 5 RX10 wsX10_comes D ty eo A)   (n : Nat) (q : dS) (x2 : Int32) (x3 : Int32) (x4 : Int32) (H : Heap) (locs : List Loc) (ls : Array Slot) (h : zX10_comes_26  n q x2 x3 x4 = some (o1, o2)) (hP : va_P D vwCl (w10 ty ad q) H) (hD : va_D A (w10 ty ad q)) (hS : va_S A s.heap H locs) (hl : lv_has ls 5 [(0, .ref (ad 0)), (2, .int x2), (3, .int x3), (4, .int x4)]) : W p l e ({ frames := 89, cells := 0, slots := 0, locals := 2271 } : Room) s m args below meth c H locs 0 0 (MQ below (va_Qi (fun (r : Int32) (u : va_W) => o1 = r ∧ w10 ty ad o2 = u) (kz_B D ty A) A) args s 0 0 A) (F0 m 26 ls []) := by
  exact dFix_W (F := fun k (a : dS × Int32 × Int32 × Int32) => zX10_comes_26b  (fun q x2 x3 x4 => k (q, x2, x3, x4)) a.1 a.2.1 a.2.2.1 a.2.2.2) (o := (o1, o2)) (P := fun (a : dS × Int32 × Int32 × Int32) H locs ls => va_P D vwCl (w10 ty ad a.1) H ∧ va_D A (w10 ty ad a.1) ∧ va_S A s.heap H locs ∧ lv_has ls 5 [(0, .ref (ad 0)), (2, .int a.2.1), (3, .int a.2.2.1), (4, .int a.2.2.2)]) (G := fun H locs ls => W p l e ({ frames := 89, cells := 0, slots := 0, locals := 2271 } : Room) s m args below meth c H locs 0 0 (MQ below (va_Qi (fun (r : Int32) (u : va_W) => o1 = r ∧ w10 ty ad o2 = u) (kz_B D ty A) A) args s 0 0 A) (F0 m 26 ls []))
    (fun k hk a H locs ls h hp => WX10_comes_26b C  (fun q x2 x3 x4 H locs ls h h1 h2 h3 h4 => hk (q, x2, x3, x4) H locs ls h ⟨h1, h2, h3, h4⟩) a.1 a.2.1 a.2.2.1 a.2.2.2 H locs ls h hp.1 hp.2.1 hp.2.2.1 hp.2.2.2) n (q, x2, x3, x4) H locs ls h ⟨hP, hD, hS, hl⟩
set_option maxHeartbeats 4000000 in
set_option maxRecDepth 100000 in
theorem qX10_comes (l : Launch) (D : va_G) (ty : Nat → ClassId) (eo : Nat → Nat) (sz : Nat) (ad : Nat → Nat) (q : dS) (p1 : Int32) (o1 : Int32) (o2 : dS) (h : zX10_comes q p1 = some (o1, o2)) : Met l yX10_comes wsX10_comes ({ frames := 89, cells := 0, slots := 0, locals := 2271 } : Room) (va_Pc [.ref (ad 0), .int p1] (kz_pre D ty eo (w10 ty ad q) sz)) (va_Qi (fun (r : Int32) (u : va_W) => o1 = r ∧ w10 ty ad o2 = u) (kz_B D ty (va_A (w10 ty ad q) sz)) (va_A (w10 ty ad q) sz)) 0 0 (va_A (w10 ty ad q) sz) := by
  refine Met.ofW (cc := cX10_comes) (maxL := 5) (ret := (some .int)) (by decide) rfl ?_
  intro p e s m args below meth c s₁ B hml hv
  obtain ⟨rfl, hsz, hP, hK, hD0, hN, hE⟩ := hv
  have hx := B.exec
  have hb := B.bytes
  have hr := B.returns
  have hts := atoms_spec (ws := wsX10_comes) B.pre
  have hown : s.vm.findClass RX10 = some m.cls := findClass_of_methodNamed B.named
  have hlocks := B.notSynchronized
  subst hsz
  have hD := hD0.self (sz := s.heap.size)
  generalize hAe : va_A (w10 ty ad q) s.heap.size = A at hD hE ⊢
  have hA : ∀ q : Nat, s.heap.size ≤ q → A q := fun q h => by rw [← hAe]; exact Or.inr h
  clear hAe
  have hS : va_S A s.heap s.heap [] := va_S.rf
  have hl := lv_entry ([.ref (ad 0), .int p1]) (n := 5) (Nat.le_of_ble_eq_true rfl)
  rw [lg_entry_eq]
  generalize (lg_sl ([.ref (ad 0), .int p1]) ++ List.replicate (5 - (lg_sl ([.ref (ad 0), .int p1])).length) Slot.unset).toArray = ls at hl ⊢
  have hl : lv_has ls 5 [(0, .ref (ad 0)), (1, .int p1)] := hl
  have C : dc_C p s m _ meth c cX10_comes (some .int) 5 RX10 wsX10_comes D ty eo A := ⟨hx, hb, hr, hts, hown, hlocks, hml, hK, hN, hE, hA⟩
  unfold zX10_comes at h
  refine lv_aload_n hx hb dX10_comes_0 rfl (lv_at hl 0 rfl) ?_
  refine lv_iload_n hx hb dX10_comes_1 rfl (lv_at hl 1 rfl) ?_
  obtain ⟨r1, q3, h2, h⟩ := dB_some h
  refine dw_ki (va_runV (As := [.int p1]) (rest := []) ⟨hx, hb, hml, hown, hts⟩ (qX10_isOrder l D ty eo _ ad q p1 r1 q3 h2) (cwV 1 hts gX10_comes_X10_isOrder rfl rfl rfl hd_X10_isOrder_v ⟨Nat.le_of_ble_eq_true rfl, Nat.le_of_ble_eq_true rfl⟩) (pv10_10_0 hK hN hE hP hD hS hA) rfl rfl hl.1 rfl (lv_room (Nat.le_of_ble_eq_true rfl)) dX10_comes_2 ⟨Nat.le_of_ble_eq_true rfl, Nat.le_of_ble_eq_true rfl⟩) hD hS hA (fun r9 u9 H locs hw hp hd hs => ?_)
  clear hP hD hS
  obtain ⟨rfl, rfl⟩ := hw
  have hP := hp; have hD := hd; have hS := hs; clear hp hd hs
  refine lv_if_ne (tgt := 10) hx hb dX10_comes_5 (by decide) (fun c9 => ?_) (fun c9 => ?_)
  · rw [if_neg c9] at h
    refine lv_aload_n hx hb dX10_comes_10 rfl (lv_at hl 0 rfl) ?_
    obtain ⟨r4, q6, h5, h⟩ := dB_some h
    refine dw_ki (va_runV (As := []) (rest := []) ⟨hx, hb, hml, hown, hts⟩ (qX10_numberOf l D ty eo _ ad q3  r4 q6 h5) (cwV 0 hts gX10_comes_X10_numberOf rfl rfl rfl hd_X10_numberOf_v ⟨Nat.le_of_ble_eq_true rfl, Nat.le_of_ble_eq_true rfl⟩) (pv10_10_0 hK hN hE hP hD hS hA) rfl rfl hl.1 rfl (lv_room (Nat.le_of_ble_eq_true rfl)) dX10_comes_11 ⟨Nat.le_of_ble_eq_true rfl, Nat.le_of_ble_eq_true rfl⟩) hD hS hA (fun r9 u9 H locs hw hp hd hs => ?_)
    clear hP hD hS
    obtain ⟨rfl, rfl⟩ := hw
    have hP := hp; have hD := hd; have hS := hs; clear hp hd hs
    refine lv_istore_n (lv' := [(2, .int r4), (0, .ref (ad 0)), (1, .int p1)]) hx hb dX10_comes_14 rfl hl (by decide) rfl (fun ls hl => ?_)
    refine lv_aload_n hx hb dX10_comes_15 rfl (lv_at hl 1 rfl) ?_
    obtain ⟨r7, q9, h8, h⟩ := dB_some h
    refine dw_ki (va_runV (As := []) (rest := []) ⟨hx, hb, hml, hown, hts⟩ (qX10_laysReach l D ty eo _ ad q6  r7 q9 h8) (cwV 0 hts gX10_comes_X10_laysReach rfl rfl rfl hd_X10_laysReach_v ⟨Nat.le_of_ble_eq_true rfl, Nat.le_of_ble_eq_true rfl⟩) (pv10_10_0 hK hN hE hP hD hS hA) rfl rfl hl.1 rfl (lv_room (Nat.le_of_ble_eq_true rfl)) dX10_comes_16 ⟨Nat.le_of_ble_eq_true rfl, Nat.le_of_ble_eq_true rfl⟩) hD hS hA (fun r9 u9 H locs hw hp hd hs => ?_)
    clear hP hD hS
    obtain ⟨rfl, rfl⟩ := hw
    have hP := hp; have hD := hd; have hS := hs; clear hp hd hs
    refine lv_pop hx hb dX10_comes_19 rfl ?_
    refine lv_ldc (v := 1000000) hx hb hown (hts (.constant RX10 188 1000000) f9_wsX10_comes_239) dX10_comes_20 ?_
    refine lv_istore_n (lv' := [(3, .int 1000000), (2, .int r4), (0, .ref (ad 0)), (1, .int p1)]) hx hb dX10_comes_22 rfl hl (by decide) rfl (fun ls hl => ?_)
    refine lv_iconst (v := 0) hx hb dX10_comes_23 (by decide) ?_
    refine lv_istore (lv' := [(4, .int 0), (3, .int 1000000), (2, .int r4), (0, .ref (ad 0)), (1, .int p1)]) hx hb dX10_comes_24 hl (by decide) rfl (fun ls hl => ?_)
    exact WX10_comes_26 C  _ _ _ _ _ _ _ _ h hP hD hS (lv_sub hl [3, 2, 1, 0] rfl)
  · rw [if_pos c9] at h
    refine lv_iconst (v := (-1)) hx hb dX10_comes_8 (by decide) ?_
    cases h
    exact kz_iret hx hb hr hlocks hP hK hD hS dX10_comes_9 ⟨rfl, rfl⟩
end
section
set_option maxRecDepth 20000 in
theorem ggX10_view_X10_isRank : GoodIn wsX10_view wsX10_isRank := wd_c vW10_ok mvW10_3
set_option maxRecDepth 20000 in
theorem gX10_view_X10_isRank : GoodIn wsX10_view (va_wsS RX10 129 yX10_isRank wsX10_isRank) := goodIn_app (wd_l vW10_ok _ pvW10_145) ggX10_view_X10_isRank
set_option maxRecDepth 20000 in
theorem ggX10_view_X10_placeOf : GoodIn wsX10_view wsX10_placeOf := wd_c vW10_ok mvW10_19
set_option maxRecDepth 20000 in
theorem gX10_view_X10_placeOf : GoodIn wsX10_view (wsV RX10 136 RX10 yX10_placeOf wsX10_placeOf) := goodIn_app (wd_l vW10_ok _ pvW10_147) ggX10_view_X10_placeOf
set_option maxRecDepth 20000 in
theorem ggX10_view_X10_laysReach : GoodIn wsX10_view wsX10_laysReach := wd_c vW10_ok mvW10_406
set_option maxRecDepth 20000 in
theorem gX10_view_X10_laysReach : GoodIn wsX10_view (wsV RX10 442 RX10 yX10_laysReach wsX10_laysReach) := goodIn_app (wd_l vW10_ok _ pvW10_225) ggX10_view_X10_laysReach
set_option maxRecDepth 20000 in
theorem ggX10_view_X10_isThere : GoodIn wsX10_view wsX10_isThere := wd_c vW10_ok mvW10_381
set_option maxRecDepth 20000 in
theorem gX10_view_X10_isThere : GoodIn wsX10_view (wsV RX10 417 RX10 yX10_isThere wsX10_isThere) := goodIn_app (wd_l vW10_ok _ pvW10_217) ggX10_view_X10_isThere
set_option maxRecDepth 20000 in
theorem ggX10_view_X10_lessThan : GoodIn wsX10_view wsX10_lessThan := wd_c vW10_ok mvW10_106
set_option maxRecDepth 20000 in
theorem gX10_view_X10_lessThan : GoodIn wsX10_view (wsV RX10 401 RX10 yX10_lessThan wsX10_lessThan) := goodIn_app (wd_l vW10_ok _ pvW10_212) ggX10_view_X10_lessThan
set_option maxRecDepth 20000 in
theorem ggX10_view_X10_lesser : GoodIn wsX10_view wsX10_lesser := wd_c vW10_ok mvW10_317
set_option maxRecDepth 20000 in
theorem gX10_view_X10_lesser : GoodIn wsX10_view (va_wsS RX10 350 yX10_lesser wsX10_lesser) := goodIn_app (wd_l vW10_ok _ pvW10_197) ggX10_view_X10_lesser
theorem da9_dX10_view_0 : (decode cX10_view 0 = .ok (.iload_n 1, 1)) ∧ (decode cX10_view 1 = .ok (.invokestatic 129, 3)) ∧ (decode cX10_view 4 = .ok (.ifCond .eq 12, 3)) ∧ (decode cX10_view 7 = .ok (.aload_n 0, 1)) ∧ (decode cX10_view 8 = .ok (.iload_n 1, 1)) ∧ (decode cX10_view 9 = .ok (.invokevirtual 136, 3)) ∧ (decode cX10_view 12 = .ok (.iconst (-1), 1)) ∧ (decode cX10_view 13 = .ok (.if_icmp .ne 5, 3)) ∧ (decode cX10_view 16 = .ok (.iconst (-1), 1)) ∧ (decode cX10_view 17 = .ok (.ireturn, 1)) ∧ (decode cX10_view 18 = .ok (.aload_n 0, 1)) ∧ (decode cX10_view 19 = .ok (.invokevirtual 442, 3)) ∧ (decode cX10_view 22 = .ok (.pop, 1)) ∧ (decode cX10_view 23 = .ok (.ldc 188, 2)) ∧ (decode cX10_view 25 = .ok (.istore_n 2, 1)) ∧ (decode cX10_view 26 = .ok (.iconst 0, 1)) := by decide +kernel
theorem dX10_view_0 : decode cX10_view 0 = .ok (.iload_n 1, 1) := da9_dX10_view_0.1
theorem dX10_view_1 : decode cX10_view 1 = .ok (.invokestatic 129, 3) := da9_dX10_view_0.2.1
theorem dX10_view_4 : decode cX10_view 4 = .ok (.ifCond .eq 12, 3) := da9_dX10_view_0.2.2.1
theorem dX10_view_7 : decode cX10_view 7 = .ok (.aload_n 0, 1) := da9_dX10_view_0.2.2.2.1
theorem dX10_view_8 : decode cX10_view 8 = .ok (.iload_n 1, 1) := da9_dX10_view_0.2.2.2.2.1
theorem dX10_view_9 : decode cX10_view 9 = .ok (.invokevirtual 136, 3) := da9_dX10_view_0.2.2.2.2.2.1
theorem dX10_view_12 : decode cX10_view 12 = .ok (.iconst (-1), 1) := da9_dX10_view_0.2.2.2.2.2.2.1
theorem dX10_view_13 : decode cX10_view 13 = .ok (.if_icmp .ne 5, 3) := da9_dX10_view_0.2.2.2.2.2.2.2.1
theorem dX10_view_16 : decode cX10_view 16 = .ok (.iconst (-1), 1) := da9_dX10_view_0.2.2.2.2.2.2.2.2.1
theorem dX10_view_17 : decode cX10_view 17 = .ok (.ireturn, 1) := da9_dX10_view_0.2.2.2.2.2.2.2.2.2.1
theorem dX10_view_18 : decode cX10_view 18 = .ok (.aload_n 0, 1) := da9_dX10_view_0.2.2.2.2.2.2.2.2.2.2.1
theorem dX10_view_19 : decode cX10_view 19 = .ok (.invokevirtual 442, 3) := da9_dX10_view_0.2.2.2.2.2.2.2.2.2.2.2.1
theorem dX10_view_22 : decode cX10_view 22 = .ok (.pop, 1) := da9_dX10_view_0.2.2.2.2.2.2.2.2.2.2.2.2.1
theorem dX10_view_23 : decode cX10_view 23 = .ok (.ldc 188, 2) := da9_dX10_view_0.2.2.2.2.2.2.2.2.2.2.2.2.2.1
theorem dX10_view_25 : decode cX10_view 25 = .ok (.istore_n 2, 1) := da9_dX10_view_0.2.2.2.2.2.2.2.2.2.2.2.2.2.2.1
theorem dX10_view_26 : decode cX10_view 26 = .ok (.iconst 0, 1) := da9_dX10_view_0.2.2.2.2.2.2.2.2.2.2.2.2.2.2.2
theorem da9_dX10_view_27 : (decode cX10_view 27 = .ok (.istore_n 3, 1)) ∧ (decode cX10_view 28 = .ok (.iload_n 3, 1)) ∧ (decode cX10_view 29 = .ok (.bipush 64, 2)) ∧ (decode cX10_view 31 = .ok (.aload_n 0, 1)) ∧ (decode cX10_view 32 = .ok (.getfield 386, 3)) ∧ (decode cX10_view 35 = .ok (.imul, 1)) ∧ (decode cX10_view 36 = .ok (.if_icmp .ge 48, 3)) ∧ (decode cX10_view 39 = .ok (.aload_n 0, 1)) ∧ (decode cX10_view 40 = .ok (.iload_n 3, 1)) ∧ (decode cX10_view 41 = .ok (.invokevirtual 417, 3)) ∧ (decode cX10_view 44 = .ok (.ifCond .eq 34, 3)) ∧ (decode cX10_view 47 = .ok (.aload_n 0, 1)) ∧ (decode cX10_view 48 = .ok (.getfield 75, 3)) ∧ (decode cX10_view 51 = .ok (.bipush 6, 2)) ∧ (decode cX10_view 53 = .ok (.iload_n 3, 1)) ∧ (decode cX10_view 54 = .ok (.bipush 64, 2)) := by decide +kernel
theorem dX10_view_27 : decode cX10_view 27 = .ok (.istore_n 3, 1) := da9_dX10_view_27.1
theorem dX10_view_28 : decode cX10_view 28 = .ok (.iload_n 3, 1) := da9_dX10_view_27.2.1
theorem dX10_view_29 : decode cX10_view 29 = .ok (.bipush 64, 2) := da9_dX10_view_27.2.2.1
theorem dX10_view_31 : decode cX10_view 31 = .ok (.aload_n 0, 1) := da9_dX10_view_27.2.2.2.1
theorem dX10_view_32 : decode cX10_view 32 = .ok (.getfield 386, 3) := da9_dX10_view_27.2.2.2.2.1
theorem dX10_view_35 : decode cX10_view 35 = .ok (.imul, 1) := da9_dX10_view_27.2.2.2.2.2.1
theorem dX10_view_36 : decode cX10_view 36 = .ok (.if_icmp .ge 48, 3) := da9_dX10_view_27.2.2.2.2.2.2.1
theorem dX10_view_39 : decode cX10_view 39 = .ok (.aload_n 0, 1) := da9_dX10_view_27.2.2.2.2.2.2.2.1
theorem dX10_view_40 : decode cX10_view 40 = .ok (.iload_n 3, 1) := da9_dX10_view_27.2.2.2.2.2.2.2.2.1
theorem dX10_view_41 : decode cX10_view 41 = .ok (.invokevirtual 417, 3) := da9_dX10_view_27.2.2.2.2.2.2.2.2.2.1
theorem dX10_view_44 : decode cX10_view 44 = .ok (.ifCond .eq 34, 3) := da9_dX10_view_27.2.2.2.2.2.2.2.2.2.2.1
theorem dX10_view_47 : decode cX10_view 47 = .ok (.aload_n 0, 1) := da9_dX10_view_27.2.2.2.2.2.2.2.2.2.2.2.1
theorem dX10_view_48 : decode cX10_view 48 = .ok (.getfield 75, 3) := da9_dX10_view_27.2.2.2.2.2.2.2.2.2.2.2.2.1
theorem dX10_view_51 : decode cX10_view 51 = .ok (.bipush 6, 2) := da9_dX10_view_27.2.2.2.2.2.2.2.2.2.2.2.2.2.1
theorem dX10_view_53 : decode cX10_view 53 = .ok (.iload_n 3, 1) := da9_dX10_view_27.2.2.2.2.2.2.2.2.2.2.2.2.2.2.1
theorem dX10_view_54 : decode cX10_view 54 = .ok (.bipush 64, 2) := da9_dX10_view_27.2.2.2.2.2.2.2.2.2.2.2.2.2.2.2
theorem da9_dX10_view_56 : (decode cX10_view 56 = .ok (.idiv, 1)) ∧ (decode cX10_view 57 = .ok (.imul, 1)) ∧ (decode cX10_view 58 = .ok (.iaload, 1)) ∧ (decode cX10_view 59 = .ok (.aload_n 0, 1)) ∧ (decode cX10_view 60 = .ok (.iload_n 1, 1)) ∧ (decode cX10_view 61 = .ok (.invokevirtual 401, 3)) ∧ (decode cX10_view 64 = .ok (.if_icmp .ne 14, 3)) ∧ (decode cX10_view 67 = .ok (.iload_n 2, 1)) ∧ (decode cX10_view 68 = .ok (.aload_n 0, 1)) ∧ (decode cX10_view 69 = .ok (.getfield 91, 3)) ∧ (decode cX10_view 72 = .ok (.iload_n 3, 1)) ∧ (decode cX10_view 73 = .ok (.iaload, 1)) ∧ (decode cX10_view 74 = .ok (.invokestatic 350, 3)) ∧ (decode cX10_view 77 = .ok (.istore_n 2, 1)) ∧ (decode cX10_view 78 = .ok (.iinc 3 1, 3)) ∧ (decode cX10_view 81 = .ok (.goto (-53), 3)) := by decide +kernel
theorem dX10_view_56 : decode cX10_view 56 = .ok (.idiv, 1) := da9_dX10_view_56.1
theorem dX10_view_57 : decode cX10_view 57 = .ok (.imul, 1) := da9_dX10_view_56.2.1
theorem dX10_view_58 : decode cX10_view 58 = .ok (.iaload, 1) := da9_dX10_view_56.2.2.1
theorem dX10_view_59 : decode cX10_view 59 = .ok (.aload_n 0, 1) := da9_dX10_view_56.2.2.2.1
theorem dX10_view_60 : decode cX10_view 60 = .ok (.iload_n 1, 1) := da9_dX10_view_56.2.2.2.2.1
theorem dX10_view_61 : decode cX10_view 61 = .ok (.invokevirtual 401, 3) := da9_dX10_view_56.2.2.2.2.2.1
theorem dX10_view_64 : decode cX10_view 64 = .ok (.if_icmp .ne 14, 3) := da9_dX10_view_56.2.2.2.2.2.2.1
theorem dX10_view_67 : decode cX10_view 67 = .ok (.iload_n 2, 1) := da9_dX10_view_56.2.2.2.2.2.2.2.1
theorem dX10_view_68 : decode cX10_view 68 = .ok (.aload_n 0, 1) := da9_dX10_view_56.2.2.2.2.2.2.2.2.1
theorem dX10_view_69 : decode cX10_view 69 = .ok (.getfield 91, 3) := da9_dX10_view_56.2.2.2.2.2.2.2.2.2.1
theorem dX10_view_72 : decode cX10_view 72 = .ok (.iload_n 3, 1) := da9_dX10_view_56.2.2.2.2.2.2.2.2.2.2.1
theorem dX10_view_73 : decode cX10_view 73 = .ok (.iaload, 1) := da9_dX10_view_56.2.2.2.2.2.2.2.2.2.2.2.1
theorem dX10_view_74 : decode cX10_view 74 = .ok (.invokestatic 350, 3) := da9_dX10_view_56.2.2.2.2.2.2.2.2.2.2.2.2.1
theorem dX10_view_77 : decode cX10_view 77 = .ok (.istore_n 2, 1) := da9_dX10_view_56.2.2.2.2.2.2.2.2.2.2.2.2.2.1
theorem dX10_view_78 : decode cX10_view 78 = .ok (.iinc 3 1, 3) := da9_dX10_view_56.2.2.2.2.2.2.2.2.2.2.2.2.2.2.1
theorem dX10_view_81 : decode cX10_view 81 = .ok (.goto (-53), 3) := da9_dX10_view_56.2.2.2.2.2.2.2.2.2.2.2.2.2.2.2
theorem da9_dX10_view_84 : (decode cX10_view 84 = .ok (.iload_n 2, 1)) ∧ (decode cX10_view 85 = .ok (.ldc 188, 2)) ∧ (decode cX10_view 87 = .ok (.if_icmp .ne 7, 3)) ∧ (decode cX10_view 90 = .ok (.iconst (-1), 1)) ∧ (decode cX10_view 91 = .ok (.goto 4, 3)) ∧ (decode cX10_view 94 = .ok (.iload_n 2, 1)) ∧ (decode cX10_view 95 = .ok (.ireturn, 1)) := by decide +kernel
theorem dX10_view_84 : decode cX10_view 84 = .ok (.iload_n 2, 1) := da9_dX10_view_84.1
theorem dX10_view_85 : decode cX10_view 85 = .ok (.ldc 188, 2) := da9_dX10_view_84.2.1
theorem dX10_view_87 : decode cX10_view 87 = .ok (.if_icmp .ne 7, 3) := da9_dX10_view_84.2.2.1
theorem dX10_view_90 : decode cX10_view 90 = .ok (.iconst (-1), 1) := da9_dX10_view_84.2.2.2.1
theorem dX10_view_91 : decode cX10_view 91 = .ok (.goto 4, 3) := da9_dX10_view_84.2.2.2.2.1
theorem dX10_view_94 : decode cX10_view 94 = .ok (.iload_n 2, 1) := da9_dX10_view_84.2.2.2.2.2.1
theorem dX10_view_95 : decode cX10_view 95 = .ok (.ireturn, 1) := da9_dX10_view_84.2.2.2.2.2.2
set_option maxRecDepth 20000 in
theorem ggX10_canStay_X10_size : GoodIn wsX10_canStay wsX10_size := wd_c vW10_ok mvW10_24
set_option maxRecDepth 20000 in
theorem gX10_canStay_X10_size : GoodIn wsX10_canStay (wsV RX10 125 RX10 yX10_size wsX10_size) := goodIn_app (wd_l vW10_ok _ pvW10_144) ggX10_canStay_X10_size
set_option maxRecDepth 20000 in
theorem ggX10_canStay_X10_isIn : GoodIn wsX10_canStay wsX10_isIn := wd_c vW10_ok mvW10_362
set_option maxRecDepth 20000 in
theorem gX10_canStay_X10_isIn : GoodIn wsX10_canStay (va_wsS RX10 383 yX10_isIn wsX10_isIn) := goodIn_app (wd_l vW10_ok _ pvW10_208) ggX10_canStay_X10_isIn
theorem da9_dX10_canStay_0 : (decode cX10_canStay 0 = .ok (.iconst (-1), 1)) ∧ (decode cX10_canStay 1 = .ok (.istore_n 2, 1)) ∧ (decode cX10_canStay 2 = .ok (.iconst 1, 1)) ∧ (decode cX10_canStay 3 = .ok (.istore_n 3, 1)) ∧ (decode cX10_canStay 4 = .ok (.iconst 0, 1)) ∧ (decode cX10_canStay 5 = .ok (.istore 4, 2)) ∧ (decode cX10_canStay 7 = .ok (.iload 4, 2)) ∧ (decode cX10_canStay 9 = .ok (.aload_n 0, 1)) ∧ (decode cX10_canStay 10 = .ok (.invokevirtual 125, 3)) ∧ (decode cX10_canStay 13 = .ok (.if_icmp .ge 77, 3)) ∧ (decode cX10_canStay 16 = .ok (.iload_n 1, 1)) ∧ (decode cX10_canStay 17 = .ok (.iload 4, 2)) ∧ (decode cX10_canStay 19 = .ok (.invokestatic 383, 3)) ∧ (decode cX10_canStay 22 = .ok (.ifCond .ne 6, 3)) ∧ (decode cX10_canStay 25 = .ok (.goto 59, 3)) ∧ (decode cX10_canStay 28 = .ok (.iload_n 3, 1)) := by decide +kernel
theorem dX10_canStay_0 : decode cX10_canStay 0 = .ok (.iconst (-1), 1) := da9_dX10_canStay_0.1
theorem dX10_canStay_1 : decode cX10_canStay 1 = .ok (.istore_n 2, 1) := da9_dX10_canStay_0.2.1
theorem dX10_canStay_2 : decode cX10_canStay 2 = .ok (.iconst 1, 1) := da9_dX10_canStay_0.2.2.1
theorem dX10_canStay_3 : decode cX10_canStay 3 = .ok (.istore_n 3, 1) := da9_dX10_canStay_0.2.2.2.1
theorem dX10_canStay_4 : decode cX10_canStay 4 = .ok (.iconst 0, 1) := da9_dX10_canStay_0.2.2.2.2.1
theorem dX10_canStay_5 : decode cX10_canStay 5 = .ok (.istore 4, 2) := da9_dX10_canStay_0.2.2.2.2.2.1
theorem dX10_canStay_7 : decode cX10_canStay 7 = .ok (.iload 4, 2) := da9_dX10_canStay_0.2.2.2.2.2.2.1
theorem dX10_canStay_9 : decode cX10_canStay 9 = .ok (.aload_n 0, 1) := da9_dX10_canStay_0.2.2.2.2.2.2.2.1
theorem dX10_canStay_10 : decode cX10_canStay 10 = .ok (.invokevirtual 125, 3) := da9_dX10_canStay_0.2.2.2.2.2.2.2.2.1
theorem dX10_canStay_13 : decode cX10_canStay 13 = .ok (.if_icmp .ge 77, 3) := da9_dX10_canStay_0.2.2.2.2.2.2.2.2.2.1
theorem dX10_canStay_16 : decode cX10_canStay 16 = .ok (.iload_n 1, 1) := da9_dX10_canStay_0.2.2.2.2.2.2.2.2.2.2.1
theorem dX10_canStay_17 : decode cX10_canStay 17 = .ok (.iload 4, 2) := da9_dX10_canStay_0.2.2.2.2.2.2.2.2.2.2.2.1
theorem dX10_canStay_19 : decode cX10_canStay 19 = .ok (.invokestatic 383, 3) := da9_dX10_canStay_0.2.2.2.2.2.2.2.2.2.2.2.2.1
theorem dX10_canStay_22 : decode cX10_canStay 22 = .ok (.ifCond .ne 6, 3) := da9_dX10_canStay_0.2.2.2.2.2.2.2.2.2.2.2.2.2.1
theorem dX10_canStay_25 : decode cX10_canStay 25 = .ok (.goto 59, 3) := da9_dX10_canStay_0.2.2.2.2.2.2.2.2.2.2.2.2.2.2.1
theorem dX10_canStay_28 : decode cX10_canStay 28 = .ok (.iload_n 3, 1) := da9_dX10_canStay_0.2.2.2.2.2.2.2.2.2.2.2.2.2.2.2
theorem da9_dX10_canStay_29 : (decode cX10_canStay 29 = .ok (.ifCond .eq 43, 3)) ∧ (decode cX10_canStay 32 = .ok (.aload_n 0, 1)) ∧ (decode cX10_canStay 33 = .ok (.getfield 28, 3)) ∧ (decode cX10_canStay 36 = .ok (.iconst 0, 1)) ∧ (decode cX10_canStay 37 = .ok (.iload 4, 2)) ∧ (decode cX10_canStay 39 = .ok (.iadd, 1)) ∧ (decode cX10_canStay 40 = .ok (.iaload, 1)) ∧ (decode cX10_canStay 41 = .ok (.iload_n 2, 1)) ∧ (decode cX10_canStay 42 = .ok (.if_icmp .le 30, 3)) ∧ (decode cX10_canStay 45 = .ok (.aload_n 0, 1)) ∧ (decode cX10_canStay 46 = .ok (.getfield 28, 3)) ∧ (decode cX10_canStay 49 = .ok (.bipush 28, 2)) ∧ (decode cX10_canStay 51 = .ok (.iaload, 1)) ∧ (decode cX10_canStay 52 = .ok (.ifCond .eq 16, 3)) ∧ (decode cX10_canStay 55 = .ok (.aload_n 0, 1)) ∧ (decode cX10_canStay 56 = .ok (.getfield 28, 3)) := by decide +kernel
theorem dX10_canStay_29 : decode cX10_canStay 29 = .ok (.ifCond .eq 43, 3) := da9_dX10_canStay_29.1
theorem dX10_canStay_32 : decode cX10_canStay 32 = .ok (.aload_n 0, 1) := da9_dX10_canStay_29.2.1
theorem dX10_canStay_33 : decode cX10_canStay 33 = .ok (.getfield 28, 3) := da9_dX10_canStay_29.2.2.1
theorem dX10_canStay_36 : decode cX10_canStay 36 = .ok (.iconst 0, 1) := da9_dX10_canStay_29.2.2.2.1
theorem dX10_canStay_37 : decode cX10_canStay 37 = .ok (.iload 4, 2) := da9_dX10_canStay_29.2.2.2.2.1
theorem dX10_canStay_39 : decode cX10_canStay 39 = .ok (.iadd, 1) := da9_dX10_canStay_29.2.2.2.2.2.1
theorem dX10_canStay_40 : decode cX10_canStay 40 = .ok (.iaload, 1) := da9_dX10_canStay_29.2.2.2.2.2.2.1
theorem dX10_canStay_41 : decode cX10_canStay 41 = .ok (.iload_n 2, 1) := da9_dX10_canStay_29.2.2.2.2.2.2.2.1
theorem dX10_canStay_42 : decode cX10_canStay 42 = .ok (.if_icmp .le 30, 3) := da9_dX10_canStay_29.2.2.2.2.2.2.2.2.1
theorem dX10_canStay_45 : decode cX10_canStay 45 = .ok (.aload_n 0, 1) := da9_dX10_canStay_29.2.2.2.2.2.2.2.2.2.1
theorem dX10_canStay_46 : decode cX10_canStay 46 = .ok (.getfield 28, 3) := da9_dX10_canStay_29.2.2.2.2.2.2.2.2.2.2.1
theorem dX10_canStay_49 : decode cX10_canStay 49 = .ok (.bipush 28, 2) := da9_dX10_canStay_29.2.2.2.2.2.2.2.2.2.2.2.1
theorem dX10_canStay_51 : decode cX10_canStay 51 = .ok (.iaload, 1) := da9_dX10_canStay_29.2.2.2.2.2.2.2.2.2.2.2.2.1
theorem dX10_canStay_52 : decode cX10_canStay 52 = .ok (.ifCond .eq 16, 3) := da9_dX10_canStay_29.2.2.2.2.2.2.2.2.2.2.2.2.2.1
theorem dX10_canStay_55 : decode cX10_canStay 55 = .ok (.aload_n 0, 1) := da9_dX10_canStay_29.2.2.2.2.2.2.2.2.2.2.2.2.2.2.1
theorem dX10_canStay_56 : decode cX10_canStay 56 = .ok (.getfield 28, 3) := da9_dX10_canStay_29.2.2.2.2.2.2.2.2.2.2.2.2.2.2.2
theorem da9_dX10_canStay_59 : (decode cX10_canStay 59 = .ok (.bipush 6, 2)) ∧ (decode cX10_canStay 61 = .ok (.iload 4, 2)) ∧ (decode cX10_canStay 63 = .ok (.iadd, 1)) ∧ (decode cX10_canStay 64 = .ok (.iaload, 1)) ∧ (decode cX10_canStay 65 = .ok (.ifCond .ne 7, 3)) ∧ (decode cX10_canStay 68 = .ok (.iconst 1, 1)) ∧ (decode cX10_canStay 69 = .ok (.goto 4, 3)) ∧ (decode cX10_canStay 72 = .ok (.iconst 0, 1)) ∧ (decode cX10_canStay 73 = .ok (.istore_n 3, 1)) ∧ (decode cX10_canStay 74 = .ok (.aload_n 0, 1)) ∧ (decode cX10_canStay 75 = .ok (.getfield 28, 3)) ∧ (decode cX10_canStay 78 = .ok (.iconst 0, 1)) ∧ (decode cX10_canStay 79 = .ok (.iload 4, 2)) ∧ (decode cX10_canStay 81 = .ok (.iadd, 1)) ∧ (decode cX10_canStay 82 = .ok (.iaload, 1)) ∧ (decode cX10_canStay 83 = .ok (.istore_n 2, 1)) := by decide +kernel
theorem dX10_canStay_59 : decode cX10_canStay 59 = .ok (.bipush 6, 2) := da9_dX10_canStay_59.1
theorem dX10_canStay_61 : decode cX10_canStay 61 = .ok (.iload 4, 2) := da9_dX10_canStay_59.2.1
theorem dX10_canStay_63 : decode cX10_canStay 63 = .ok (.iadd, 1) := da9_dX10_canStay_59.2.2.1
theorem dX10_canStay_64 : decode cX10_canStay 64 = .ok (.iaload, 1) := da9_dX10_canStay_59.2.2.2.1
theorem dX10_canStay_65 : decode cX10_canStay 65 = .ok (.ifCond .ne 7, 3) := da9_dX10_canStay_59.2.2.2.2.1
theorem dX10_canStay_68 : decode cX10_canStay 68 = .ok (.iconst 1, 1) := da9_dX10_canStay_59.2.2.2.2.2.1
theorem dX10_canStay_69 : decode cX10_canStay 69 = .ok (.goto 4, 3) := da9_dX10_canStay_59.2.2.2.2.2.2.1
theorem dX10_canStay_72 : decode cX10_canStay 72 = .ok (.iconst 0, 1) := da9_dX10_canStay_59.2.2.2.2.2.2.2.1
theorem dX10_canStay_73 : decode cX10_canStay 73 = .ok (.istore_n 3, 1) := da9_dX10_canStay_59.2.2.2.2.2.2.2.2.1
theorem dX10_canStay_74 : decode cX10_canStay 74 = .ok (.aload_n 0, 1) := da9_dX10_canStay_59.2.2.2.2.2.2.2.2.2.1
theorem dX10_canStay_75 : decode cX10_canStay 75 = .ok (.getfield 28, 3) := da9_dX10_canStay_59.2.2.2.2.2.2.2.2.2.2.1
theorem dX10_canStay_78 : decode cX10_canStay 78 = .ok (.iconst 0, 1) := da9_dX10_canStay_59.2.2.2.2.2.2.2.2.2.2.2.1
theorem dX10_canStay_79 : decode cX10_canStay 79 = .ok (.iload 4, 2) := da9_dX10_canStay_59.2.2.2.2.2.2.2.2.2.2.2.2.1
theorem dX10_canStay_81 : decode cX10_canStay 81 = .ok (.iadd, 1) := da9_dX10_canStay_59.2.2.2.2.2.2.2.2.2.2.2.2.2.1
theorem dX10_canStay_82 : decode cX10_canStay 82 = .ok (.iaload, 1) := da9_dX10_canStay_59.2.2.2.2.2.2.2.2.2.2.2.2.2.2.1
theorem dX10_canStay_83 : decode cX10_canStay 83 = .ok (.istore_n 2, 1) := da9_dX10_canStay_59.2.2.2.2.2.2.2.2.2.2.2.2.2.2.2
theorem da9_dX10_canStay_84 : (decode cX10_canStay 84 = .ok (.iinc 4 1, 3)) ∧ (decode cX10_canStay 87 = .ok (.goto (-80), 3)) ∧ (decode cX10_canStay 90 = .ok (.iload_n 3, 1)) ∧ (decode cX10_canStay 91 = .ok (.ireturn, 1)) := by decide +kernel
theorem dX10_canStay_84 : decode cX10_canStay 84 = .ok (.iinc 4 1, 3) := da9_dX10_canStay_84.1
theorem dX10_canStay_87 : decode cX10_canStay 87 = .ok (.goto (-80), 3) := da9_dX10_canStay_84.2.1
theorem dX10_canStay_90 : decode cX10_canStay 90 = .ok (.iload_n 3, 1) := da9_dX10_canStay_84.2.2.1
theorem dX10_canStay_91 : decode cX10_canStay 91 = .ok (.ireturn, 1) := da9_dX10_canStay_84.2.2.2
set_option maxRecDepth 20000 in
theorem ggX10_stays_X10_lies : GoodIn wsX10_stays wsX10_lies := wd_c vW10_ok mvW10_6
set_option maxRecDepth 20000 in
theorem gX10_stays_X10_lies : GoodIn wsX10_stays (va_wsS RX10 18 yX10_lies wsX10_lies) := goodIn_app (wd_l vW10_ok _ pvW10_141) ggX10_stays_X10_lies
set_option maxRecDepth 20000 in
theorem ggX10_stays_X10_size : GoodIn wsX10_stays wsX10_size := wd_c vW10_ok mvW10_24
set_option maxRecDepth 20000 in
theorem gX10_stays_X10_size : GoodIn wsX10_stays (wsV RX10 125 RX10 yX10_size wsX10_size) := goodIn_app (wd_l vW10_ok _ pvW10_144) ggX10_stays_X10_size
set_option maxRecDepth 20000 in
theorem ggX10_stays_X10_ones : GoodIn wsX10_stays wsX10_ones := wd_c vW10_ok mvW10_413
set_option maxRecDepth 20000 in
theorem gX10_stays_X10_ones : GoodIn wsX10_stays (va_wsS RX10 448 yX10_ones wsX10_ones) := goodIn_app (wd_l vW10_ok _ pvW10_227) ggX10_stays_X10_ones
set_option maxRecDepth 20000 in
theorem ggX10_stays_X10_canStay : GoodIn wsX10_stays wsX10_canStay := wd_c vW10_ok mvW10_417
set_option maxRecDepth 20000 in
theorem gX10_stays_X10_canStay : GoodIn wsX10_stays (wsV RX10 451 RX10 yX10_canStay wsX10_canStay) := goodIn_app (wd_l vW10_ok _ pvW10_228) ggX10_stays_X10_canStay
theorem da9_dX10_stays_0 : (decode cX10_stays 0 = .ok (.iload_n 1, 1)) ∧ (decode cX10_stays 1 = .ok (.iconst 0, 1)) ∧ (decode cX10_stays 2 = .ok (.iconst 1, 1)) ∧ (decode cX10_stays 3 = .ok (.invokestatic 18, 3)) ∧ (decode cX10_stays 6 = .ok (.ifCond .ne 5, 3)) ∧ (decode cX10_stays 9 = .ok (.iconst (-1), 1)) ∧ (decode cX10_stays 10 = .ok (.ireturn, 1)) ∧ (decode cX10_stays 11 = .ok (.iconst 0, 1)) ∧ (decode cX10_stays 12 = .ok (.istore_n 2, 1)) ∧ (decode cX10_stays 13 = .ok (.iconst 0, 1)) ∧ (decode cX10_stays 14 = .ok (.istore_n 3, 1)) ∧ (decode cX10_stays 15 = .ok (.iload_n 3, 1)) ∧ (decode cX10_stays 16 = .ok (.iconst 1, 1)) ∧ (decode cX10_stays 17 = .ok (.aload_n 0, 1)) ∧ (decode cX10_stays 18 = .ok (.invokevirtual 125, 3)) ∧ (decode cX10_stays 21 = .ok (.ishl, 1)) := by decide +kernel
theorem dX10_stays_0 : decode cX10_stays 0 = .ok (.iload_n 1, 1) := da9_dX10_stays_0.1
theorem dX10_stays_1 : decode cX10_stays 1 = .ok (.iconst 0, 1) := da9_dX10_stays_0.2.1
theorem dX10_stays_2 : decode cX10_stays 2 = .ok (.iconst 1, 1) := da9_dX10_stays_0.2.2.1
theorem dX10_stays_3 : decode cX10_stays 3 = .ok (.invokestatic 18, 3) := da9_dX10_stays_0.2.2.2.1
theorem dX10_stays_6 : decode cX10_stays 6 = .ok (.ifCond .ne 5, 3) := da9_dX10_stays_0.2.2.2.2.1
theorem dX10_stays_9 : decode cX10_stays 9 = .ok (.iconst (-1), 1) := da9_dX10_stays_0.2.2.2.2.2.1
theorem dX10_stays_10 : decode cX10_stays 10 = .ok (.ireturn, 1) := da9_dX10_stays_0.2.2.2.2.2.2.1
theorem dX10_stays_11 : decode cX10_stays 11 = .ok (.iconst 0, 1) := da9_dX10_stays_0.2.2.2.2.2.2.2.1
theorem dX10_stays_12 : decode cX10_stays 12 = .ok (.istore_n 2, 1) := da9_dX10_stays_0.2.2.2.2.2.2.2.2.1
theorem dX10_stays_13 : decode cX10_stays 13 = .ok (.iconst 0, 1) := da9_dX10_stays_0.2.2.2.2.2.2.2.2.2.1
theorem dX10_stays_14 : decode cX10_stays 14 = .ok (.istore_n 3, 1) := da9_dX10_stays_0.2.2.2.2.2.2.2.2.2.2.1
theorem dX10_stays_15 : decode cX10_stays 15 = .ok (.iload_n 3, 1) := da9_dX10_stays_0.2.2.2.2.2.2.2.2.2.2.2.1
theorem dX10_stays_16 : decode cX10_stays 16 = .ok (.iconst 1, 1) := da9_dX10_stays_0.2.2.2.2.2.2.2.2.2.2.2.2.1
theorem dX10_stays_17 : decode cX10_stays 17 = .ok (.aload_n 0, 1) := da9_dX10_stays_0.2.2.2.2.2.2.2.2.2.2.2.2.2.1
theorem dX10_stays_18 : decode cX10_stays 18 = .ok (.invokevirtual 125, 3) := da9_dX10_stays_0.2.2.2.2.2.2.2.2.2.2.2.2.2.2.1
theorem dX10_stays_21 : decode cX10_stays 21 = .ok (.ishl, 1) := da9_dX10_stays_0.2.2.2.2.2.2.2.2.2.2.2.2.2.2.2
theorem da9_dX10_stays_22 : (decode cX10_stays 22 = .ok (.if_icmp .ge 30, 3)) ∧ (decode cX10_stays 25 = .ok (.iload_n 3, 1)) ∧ (decode cX10_stays 26 = .ok (.invokestatic 448, 3)) ∧ (decode cX10_stays 29 = .ok (.iload_n 2, 1)) ∧ (decode cX10_stays 30 = .ok (.invokestatic 448, 3)) ∧ (decode cX10_stays 33 = .ok (.if_icmp .le 13, 3)) ∧ (decode cX10_stays 36 = .ok (.aload_n 0, 1)) ∧ (decode cX10_stays 37 = .ok (.iload_n 3, 1)) ∧ (decode cX10_stays 38 = .ok (.invokevirtual 451, 3)) ∧ (decode cX10_stays 41 = .ok (.ifCond .eq 5, 3)) ∧ (decode cX10_stays 44 = .ok (.iload_n 3, 1)) ∧ (decode cX10_stays 45 = .ok (.istore_n 2, 1)) ∧ (decode cX10_stays 46 = .ok (.iinc 3 1, 3)) ∧ (decode cX10_stays 49 = .ok (.goto (-34), 3)) ∧ (decode cX10_stays 52 = .ok (.iload_n 1, 1)) ∧ (decode cX10_stays 53 = .ok (.ifCond .ne 10, 3)) := by decide +kernel
theorem dX10_stays_22 : decode cX10_stays 22 = .ok (.if_icmp .ge 30, 3) := da9_dX10_stays_22.1
theorem dX10_stays_25 : decode cX10_stays 25 = .ok (.iload_n 3, 1) := da9_dX10_stays_22.2.1
theorem dX10_stays_26 : decode cX10_stays 26 = .ok (.invokestatic 448, 3) := da9_dX10_stays_22.2.2.1
theorem dX10_stays_29 : decode cX10_stays 29 = .ok (.iload_n 2, 1) := da9_dX10_stays_22.2.2.2.1
theorem dX10_stays_30 : decode cX10_stays 30 = .ok (.invokestatic 448, 3) := da9_dX10_stays_22.2.2.2.2.1
theorem dX10_stays_33 : decode cX10_stays 33 = .ok (.if_icmp .le 13, 3) := da9_dX10_stays_22.2.2.2.2.2.1
theorem dX10_stays_36 : decode cX10_stays 36 = .ok (.aload_n 0, 1) := da9_dX10_stays_22.2.2.2.2.2.2.1
theorem dX10_stays_37 : decode cX10_stays 37 = .ok (.iload_n 3, 1) := da9_dX10_stays_22.2.2.2.2.2.2.2.1
theorem dX10_stays_38 : decode cX10_stays 38 = .ok (.invokevirtual 451, 3) := da9_dX10_stays_22.2.2.2.2.2.2.2.2.1
theorem dX10_stays_41 : decode cX10_stays 41 = .ok (.ifCond .eq 5, 3) := da9_dX10_stays_22.2.2.2.2.2.2.2.2.2.1
theorem dX10_stays_44 : decode cX10_stays 44 = .ok (.iload_n 3, 1) := da9_dX10_stays_22.2.2.2.2.2.2.2.2.2.2.1
theorem dX10_stays_45 : decode cX10_stays 45 = .ok (.istore_n 2, 1) := da9_dX10_stays_22.2.2.2.2.2.2.2.2.2.2.2.1
theorem dX10_stays_46 : decode cX10_stays 46 = .ok (.iinc 3 1, 3) := da9_dX10_stays_22.2.2.2.2.2.2.2.2.2.2.2.2.1
theorem dX10_stays_49 : decode cX10_stays 49 = .ok (.goto (-34), 3) := da9_dX10_stays_22.2.2.2.2.2.2.2.2.2.2.2.2.2.1
theorem dX10_stays_52 : decode cX10_stays 52 = .ok (.iload_n 1, 1) := da9_dX10_stays_22.2.2.2.2.2.2.2.2.2.2.2.2.2.2.1
theorem dX10_stays_53 : decode cX10_stays 53 = .ok (.ifCond .ne 10, 3) := da9_dX10_stays_22.2.2.2.2.2.2.2.2.2.2.2.2.2.2.2
theorem da9_dX10_stays_56 : (decode cX10_stays 56 = .ok (.iload_n 2, 1)) ∧ (decode cX10_stays 57 = .ok (.invokestatic 448, 3)) ∧ (decode cX10_stays 60 = .ok (.goto 4, 3)) ∧ (decode cX10_stays 63 = .ok (.iload_n 2, 1)) ∧ (decode cX10_stays 64 = .ok (.ireturn, 1)) := by decide +kernel
theorem dX10_stays_56 : decode cX10_stays 56 = .ok (.iload_n 2, 1) := da9_dX10_stays_56.1
theorem dX10_stays_57 : decode cX10_stays 57 = .ok (.invokestatic 448, 3) := da9_dX10_stays_56.2.1
theorem dX10_stays_60 : decode cX10_stays 60 = .ok (.goto 4, 3) := da9_dX10_stays_56.2.2.1
theorem dX10_stays_63 : decode cX10_stays 63 = .ok (.iload_n 2, 1) := da9_dX10_stays_56.2.2.2.1
theorem dX10_stays_64 : decode cX10_stays 64 = .ok (.ireturn, 1) := da9_dX10_stays_56.2.2.2.2
set_option maxRecDepth 20000 in
theorem ggX10_seen_X10_isRank : GoodIn wsX10_seen wsX10_isRank := wd_c vW10_ok mvW10_3
set_option maxRecDepth 20000 in
theorem gX10_seen_X10_isRank : GoodIn wsX10_seen (va_wsS RX10 129 yX10_isRank wsX10_isRank) := goodIn_app (wd_l vW10_ok _ pvW10_145) ggX10_seen_X10_isRank
set_option maxRecDepth 20000 in
theorem ggX10_seen_X10_refuses : GoodIn wsX10_seen wsX10_refuses := wd_c vW10_ok mvW10_13
set_option maxRecDepth 20000 in
theorem gX10_seen_X10_refuses : GoodIn wsX10_seen (wsV RX10 119 RX10 yX10_refuses wsX10_refuses) := goodIn_app (wd_l vW10_ok _ pvW10_142) ggX10_seen_X10_refuses
set_option maxRecDepth 20000 in
theorem ggX10_seen_X10_good : GoodIn wsX10_seen wsX10_good := wd_c vW10_ok mvW10_37
set_option maxRecDepth 20000 in
theorem gX10_seen_X10_good : GoodIn wsX10_seen (wsV RX10 14 RX10 yX10_good wsX10_good) := goodIn_app (wd_l vW10_ok _ pvW10_140) ggX10_seen_X10_good
theorem da9_dX10_seen_0 : (decode cX10_seen 0 = .ok (.iload_n 1, 1)) ∧ (decode cX10_seen 1 = .ok (.invokestatic 129, 3)) ∧ (decode cX10_seen 4 = .ok (.ifCond .eq 10, 3)) ∧ (decode cX10_seen 7 = .ok (.iload_n 2, 1)) ∧ (decode cX10_seen 8 = .ok (.invokestatic 129, 3)) ∧ (decode cX10_seen 11 = .ok (.ifCond .ne 9, 3)) ∧ (decode cX10_seen 14 = .ok (.aload_n 0, 1)) ∧ (decode cX10_seen 15 = .ok (.iconst (-1), 1)) ∧ (decode cX10_seen 16 = .ok (.invokevirtual 119, 3)) ∧ (decode cX10_seen 19 = .ok (.ireturn, 1)) ∧ (decode cX10_seen 20 = .ok (.bipush 14, 2)) ∧ (decode cX10_seen 22 = .ok (.iconst 2, 1)) ∧ (decode cX10_seen 23 = .ok (.aload_n 0, 1)) ∧ (decode cX10_seen 24 = .ok (.getfield 28, 3)) ∧ (decode cX10_seen 27 = .ok (.bipush 30, 2)) ∧ (decode cX10_seen 29 = .ok (.iaload, 1)) := by decide +kernel
theorem dX10_seen_0 : decode cX10_seen 0 = .ok (.iload_n 1, 1) := da9_dX10_seen_0.1
theorem dX10_seen_1 : decode cX10_seen 1 = .ok (.invokestatic 129, 3) := da9_dX10_seen_0.2.1
theorem dX10_seen_4 : decode cX10_seen 4 = .ok (.ifCond .eq 10, 3) := da9_dX10_seen_0.2.2.1
theorem dX10_seen_7 : decode cX10_seen 7 = .ok (.iload_n 2, 1) := da9_dX10_seen_0.2.2.2.1
theorem dX10_seen_8 : decode cX10_seen 8 = .ok (.invokestatic 129, 3) := da9_dX10_seen_0.2.2.2.2.1
theorem dX10_seen_11 : decode cX10_seen 11 = .ok (.ifCond .ne 9, 3) := da9_dX10_seen_0.2.2.2.2.2.1
theorem dX10_seen_14 : decode cX10_seen 14 = .ok (.aload_n 0, 1) := da9_dX10_seen_0.2.2.2.2.2.2.1
theorem dX10_seen_15 : decode cX10_seen 15 = .ok (.iconst (-1), 1) := da9_dX10_seen_0.2.2.2.2.2.2.2.1
theorem dX10_seen_16 : decode cX10_seen 16 = .ok (.invokevirtual 119, 3) := da9_dX10_seen_0.2.2.2.2.2.2.2.2.1
theorem dX10_seen_19 : decode cX10_seen 19 = .ok (.ireturn, 1) := da9_dX10_seen_0.2.2.2.2.2.2.2.2.2.1
theorem dX10_seen_20 : decode cX10_seen 20 = .ok (.bipush 14, 2) := da9_dX10_seen_0.2.2.2.2.2.2.2.2.2.2.1
theorem dX10_seen_22 : decode cX10_seen 22 = .ok (.iconst 2, 1) := da9_dX10_seen_0.2.2.2.2.2.2.2.2.2.2.2.1
theorem dX10_seen_23 : decode cX10_seen 23 = .ok (.aload_n 0, 1) := da9_dX10_seen_0.2.2.2.2.2.2.2.2.2.2.2.2.1
theorem dX10_seen_24 : decode cX10_seen 24 = .ok (.getfield 28, 3) := da9_dX10_seen_0.2.2.2.2.2.2.2.2.2.2.2.2.2.1
theorem dX10_seen_27 : decode cX10_seen 27 = .ok (.bipush 30, 2) := da9_dX10_seen_0.2.2.2.2.2.2.2.2.2.2.2.2.2.2.1
theorem dX10_seen_29 : decode cX10_seen 29 = .ok (.iaload, 1) := da9_dX10_seen_0.2.2.2.2.2.2.2.2.2.2.2.2.2.2.2
theorem da9_dX10_seen_30 : (decode cX10_seen 30 = .ok (.imul, 1)) ∧ (decode cX10_seen 31 = .ok (.iadd, 1)) ∧ (decode cX10_seen 32 = .ok (.istore_n 3, 1)) ∧ (decode cX10_seen 33 = .ok (.aload_n 0, 1)) ∧ (decode cX10_seen 34 = .ok (.getfield 28, 3)) ∧ (decode cX10_seen 37 = .ok (.bipush 30, 2)) ∧ (decode cX10_seen 39 = .ok (.iaload, 1)) ∧ (decode cX10_seen 40 = .ok (.bipush 6, 2)) ∧ (decode cX10_seen 42 = .ok (.if_icmp .ne 10, 3)) ∧ (decode cX10_seen 45 = .ok (.aload_n 0, 1)) ∧ (decode cX10_seen 46 = .ok (.bipush (-5), 2)) ∧ (decode cX10_seen 48 = .ok (.invokevirtual 119, 3)) ∧ (decode cX10_seen 51 = .ok (.ireturn, 1)) ∧ (decode cX10_seen 52 = .ok (.aload_n 0, 1)) ∧ (decode cX10_seen 53 = .ok (.getfield 28, 3)) ∧ (decode cX10_seen 56 = .ok (.iload_n 3, 1)) := by decide +kernel
theorem dX10_seen_30 : decode cX10_seen 30 = .ok (.imul, 1) := da9_dX10_seen_30.1
theorem dX10_seen_31 : decode cX10_seen 31 = .ok (.iadd, 1) := da9_dX10_seen_30.2.1
theorem dX10_seen_32 : decode cX10_seen 32 = .ok (.istore_n 3, 1) := da9_dX10_seen_30.2.2.1
theorem dX10_seen_33 : decode cX10_seen 33 = .ok (.aload_n 0, 1) := da9_dX10_seen_30.2.2.2.1
theorem dX10_seen_34 : decode cX10_seen 34 = .ok (.getfield 28, 3) := da9_dX10_seen_30.2.2.2.2.1
theorem dX10_seen_37 : decode cX10_seen 37 = .ok (.bipush 30, 2) := da9_dX10_seen_30.2.2.2.2.2.1
theorem dX10_seen_39 : decode cX10_seen 39 = .ok (.iaload, 1) := da9_dX10_seen_30.2.2.2.2.2.2.1
theorem dX10_seen_40 : decode cX10_seen 40 = .ok (.bipush 6, 2) := da9_dX10_seen_30.2.2.2.2.2.2.2.1
theorem dX10_seen_42 : decode cX10_seen 42 = .ok (.if_icmp .ne 10, 3) := da9_dX10_seen_30.2.2.2.2.2.2.2.2.1
theorem dX10_seen_45 : decode cX10_seen 45 = .ok (.aload_n 0, 1) := da9_dX10_seen_30.2.2.2.2.2.2.2.2.2.1
theorem dX10_seen_46 : decode cX10_seen 46 = .ok (.bipush (-5), 2) := da9_dX10_seen_30.2.2.2.2.2.2.2.2.2.2.1
theorem dX10_seen_48 : decode cX10_seen 48 = .ok (.invokevirtual 119, 3) := da9_dX10_seen_30.2.2.2.2.2.2.2.2.2.2.2.1
theorem dX10_seen_51 : decode cX10_seen 51 = .ok (.ireturn, 1) := da9_dX10_seen_30.2.2.2.2.2.2.2.2.2.2.2.2.1
theorem dX10_seen_52 : decode cX10_seen 52 = .ok (.aload_n 0, 1) := da9_dX10_seen_30.2.2.2.2.2.2.2.2.2.2.2.2.2.1
theorem dX10_seen_53 : decode cX10_seen 53 = .ok (.getfield 28, 3) := da9_dX10_seen_30.2.2.2.2.2.2.2.2.2.2.2.2.2.2.1
theorem dX10_seen_56 : decode cX10_seen 56 = .ok (.iload_n 3, 1) := da9_dX10_seen_30.2.2.2.2.2.2.2.2.2.2.2.2.2.2.2
theorem da9_dX10_seen_57 : (decode cX10_seen 57 = .ok (.iload_n 1, 1)) ∧ (decode cX10_seen 58 = .ok (.iastore, 1)) ∧ (decode cX10_seen 59 = .ok (.aload_n 0, 1)) ∧ (decode cX10_seen 60 = .ok (.getfield 28, 3)) ∧ (decode cX10_seen 63 = .ok (.iload_n 3, 1)) ∧ (decode cX10_seen 64 = .ok (.iconst 1, 1)) ∧ (decode cX10_seen 65 = .ok (.iadd, 1)) ∧ (decode cX10_seen 66 = .ok (.iload_n 2, 1)) ∧ (decode cX10_seen 67 = .ok (.iastore, 1)) ∧ (decode cX10_seen 68 = .ok (.aload_n 0, 1)) ∧ (decode cX10_seen 69 = .ok (.getfield 28, 3)) ∧ (decode cX10_seen 72 = .ok (.bipush 30, 2)) ∧ (decode cX10_seen 74 = .ok (.dup2, 1)) ∧ (decode cX10_seen 75 = .ok (.iaload, 1)) ∧ (decode cX10_seen 76 = .ok (.iconst 1, 1)) ∧ (decode cX10_seen 77 = .ok (.iadd, 1)) := by decide +kernel
theorem dX10_seen_57 : decode cX10_seen 57 = .ok (.iload_n 1, 1) := da9_dX10_seen_57.1
theorem dX10_seen_58 : decode cX10_seen 58 = .ok (.iastore, 1) := da9_dX10_seen_57.2.1
theorem dX10_seen_59 : decode cX10_seen 59 = .ok (.aload_n 0, 1) := da9_dX10_seen_57.2.2.1
theorem dX10_seen_60 : decode cX10_seen 60 = .ok (.getfield 28, 3) := da9_dX10_seen_57.2.2.2.1
theorem dX10_seen_63 : decode cX10_seen 63 = .ok (.iload_n 3, 1) := da9_dX10_seen_57.2.2.2.2.1
theorem dX10_seen_64 : decode cX10_seen 64 = .ok (.iconst 1, 1) := da9_dX10_seen_57.2.2.2.2.2.1
theorem dX10_seen_65 : decode cX10_seen 65 = .ok (.iadd, 1) := da9_dX10_seen_57.2.2.2.2.2.2.1
theorem dX10_seen_66 : decode cX10_seen 66 = .ok (.iload_n 2, 1) := da9_dX10_seen_57.2.2.2.2.2.2.2.1
theorem dX10_seen_67 : decode cX10_seen 67 = .ok (.iastore, 1) := da9_dX10_seen_57.2.2.2.2.2.2.2.2.1
theorem dX10_seen_68 : decode cX10_seen 68 = .ok (.aload_n 0, 1) := da9_dX10_seen_57.2.2.2.2.2.2.2.2.2.1
theorem dX10_seen_69 : decode cX10_seen 69 = .ok (.getfield 28, 3) := da9_dX10_seen_57.2.2.2.2.2.2.2.2.2.2.1
theorem dX10_seen_72 : decode cX10_seen 72 = .ok (.bipush 30, 2) := da9_dX10_seen_57.2.2.2.2.2.2.2.2.2.2.2.1
theorem dX10_seen_74 : decode cX10_seen 74 = .ok (.dup2, 1) := da9_dX10_seen_57.2.2.2.2.2.2.2.2.2.2.2.2.1
theorem dX10_seen_75 : decode cX10_seen 75 = .ok (.iaload, 1) := da9_dX10_seen_57.2.2.2.2.2.2.2.2.2.2.2.2.2.1
theorem dX10_seen_76 : decode cX10_seen 76 = .ok (.iconst 1, 1) := da9_dX10_seen_57.2.2.2.2.2.2.2.2.2.2.2.2.2.2.1
theorem dX10_seen_77 : decode cX10_seen 77 = .ok (.iadd, 1) := da9_dX10_seen_57.2.2.2.2.2.2.2.2.2.2.2.2.2.2.2
theorem da9_dX10_seen_78 : (decode cX10_seen 78 = .ok (.iastore, 1)) ∧ (decode cX10_seen 79 = .ok (.aload_n 0, 1)) ∧ (decode cX10_seen 80 = .ok (.aload_n 0, 1)) ∧ (decode cX10_seen 81 = .ok (.getfield 28, 3)) ∧ (decode cX10_seen 84 = .ok (.bipush 30, 2)) ∧ (decode cX10_seen 86 = .ok (.iaload, 1)) ∧ (decode cX10_seen 87 = .ok (.invokevirtual 14, 3)) ∧ (decode cX10_seen 90 = .ok (.ireturn, 1)) := by decide +kernel
theorem dX10_seen_78 : decode cX10_seen 78 = .ok (.iastore, 1) := da9_dX10_seen_78.1
theorem dX10_seen_79 : decode cX10_seen 79 = .ok (.aload_n 0, 1) := da9_dX10_seen_78.2.1
theorem dX10_seen_80 : decode cX10_seen 80 = .ok (.aload_n 0, 1) := da9_dX10_seen_78.2.2.1
theorem dX10_seen_81 : decode cX10_seen 81 = .ok (.getfield 28, 3) := da9_dX10_seen_78.2.2.2.1
theorem dX10_seen_84 : decode cX10_seen 84 = .ok (.bipush 30, 2) := da9_dX10_seen_78.2.2.2.2.1
theorem dX10_seen_86 : decode cX10_seen 86 = .ok (.iaload, 1) := da9_dX10_seen_78.2.2.2.2.2.1
theorem dX10_seen_87 : decode cX10_seen 87 = .ok (.invokevirtual 14, 3) := da9_dX10_seen_78.2.2.2.2.2.2.1
theorem dX10_seen_90 : decode cX10_seen 90 = .ok (.ireturn, 1) := da9_dX10_seen_78.2.2.2.2.2.2.2
theorem da9_dX10_forget_0 : (decode cX10_forget 0 = .ok (.aload_n 0, 1)) ∧ (decode cX10_forget 1 = .ok (.getfield 28, 3)) ∧ (decode cX10_forget 4 = .ok (.bipush 30, 2)) ∧ (decode cX10_forget 6 = .ok (.iaload, 1)) ∧ (decode cX10_forget 7 = .ok (.istore_n 1, 1)) ∧ (decode cX10_forget 8 = .ok (.aload_n 0, 1)) ∧ (decode cX10_forget 9 = .ok (.getfield 28, 3)) ∧ (decode cX10_forget 12 = .ok (.bipush 30, 2)) ∧ (decode cX10_forget 14 = .ok (.iconst 0, 1)) ∧ (decode cX10_forget 15 = .ok (.iastore, 1)) ∧ (decode cX10_forget 16 = .ok (.iload_n 1, 1)) ∧ (decode cX10_forget 17 = .ok (.ireturn, 1)) := by decide +kernel
theorem dX10_forget_0 : decode cX10_forget 0 = .ok (.aload_n 0, 1) := da9_dX10_forget_0.1
theorem dX10_forget_1 : decode cX10_forget 1 = .ok (.getfield 28, 3) := da9_dX10_forget_0.2.1
theorem dX10_forget_4 : decode cX10_forget 4 = .ok (.bipush 30, 2) := da9_dX10_forget_0.2.2.1
theorem dX10_forget_6 : decode cX10_forget 6 = .ok (.iaload, 1) := da9_dX10_forget_0.2.2.2.1
theorem dX10_forget_7 : decode cX10_forget 7 = .ok (.istore_n 1, 1) := da9_dX10_forget_0.2.2.2.2.1
theorem dX10_forget_8 : decode cX10_forget 8 = .ok (.aload_n 0, 1) := da9_dX10_forget_0.2.2.2.2.2.1
theorem dX10_forget_9 : decode cX10_forget 9 = .ok (.getfield 28, 3) := da9_dX10_forget_0.2.2.2.2.2.2.1
theorem dX10_forget_12 : decode cX10_forget 12 = .ok (.bipush 30, 2) := da9_dX10_forget_0.2.2.2.2.2.2.2.1
theorem dX10_forget_14 : decode cX10_forget 14 = .ok (.iconst 0, 1) := da9_dX10_forget_0.2.2.2.2.2.2.2.2.1
theorem dX10_forget_15 : decode cX10_forget 15 = .ok (.iastore, 1) := da9_dX10_forget_0.2.2.2.2.2.2.2.2.2.1
theorem dX10_forget_16 : decode cX10_forget 16 = .ok (.iload_n 1, 1) := da9_dX10_forget_0.2.2.2.2.2.2.2.2.2.2.1
theorem dX10_forget_17 : decode cX10_forget 17 = .ok (.ireturn, 1) := da9_dX10_forget_0.2.2.2.2.2.2.2.2.2.2.2
set_option maxRecDepth 20000 in
theorem ggX10_rankBehind_X10_isPlace : GoodIn wsX10_rankBehind wsX10_isPlace := wd_c vW10_ok mvW10_41
set_option maxRecDepth 20000 in
theorem gX10_rankBehind_X10_isPlace : GoodIn wsX10_rankBehind (wsV RX10 143 RX10 yX10_isPlace wsX10_isPlace) := goodIn_app (wd_l vW10_ok _ pvW10_149) ggX10_rankBehind_X10_isPlace
theorem da9_dX10_rankBehind_0 : (decode cX10_rankBehind 0 = .ok (.aload_n 0, 1)) ∧ (decode cX10_rankBehind 1 = .ok (.iload_n 2, 1)) ∧ (decode cX10_rankBehind 2 = .ok (.invokevirtual 143, 3)) ∧ (decode cX10_rankBehind 5 = .ok (.ifCond .ne 7, 3)) ∧ (decode cX10_rankBehind 8 = .ok (.iconst (-1), 1)) ∧ (decode cX10_rankBehind 9 = .ok (.goto 24, 3)) ∧ (decode cX10_rankBehind 12 = .ok (.aload_n 0, 1)) ∧ (decode cX10_rankBehind 13 = .ok (.getfield 28, 3)) ∧ (decode cX10_rankBehind 16 = .ok (.iconst 0, 1)) ∧ (decode cX10_rankBehind 17 = .ok (.iload_n 2, 1)) ∧ (decode cX10_rankBehind 18 = .ok (.iload_n 1, 1)) ∧ (decode cX10_rankBehind 19 = .ok (.if_icmp .ge 11, 3)) ∧ (decode cX10_rankBehind 22 = .ok (.iload_n 1, 1)) ∧ (decode cX10_rankBehind 23 = .ok (.iconst 1, 1)) ∧ (decode cX10_rankBehind 24 = .ok (.isub, 1)) ∧ (decode cX10_rankBehind 25 = .ok (.iload_n 2, 1)) := by decide +kernel
theorem dX10_rankBehind_0 : decode cX10_rankBehind 0 = .ok (.aload_n 0, 1) := da9_dX10_rankBehind_0.1
theorem dX10_rankBehind_1 : decode cX10_rankBehind 1 = .ok (.iload_n 2, 1) := da9_dX10_rankBehind_0.2.1
theorem dX10_rankBehind_2 : decode cX10_rankBehind 2 = .ok (.invokevirtual 143, 3) := da9_dX10_rankBehind_0.2.2.1
theorem dX10_rankBehind_5 : decode cX10_rankBehind 5 = .ok (.ifCond .ne 7, 3) := da9_dX10_rankBehind_0.2.2.2.1
theorem dX10_rankBehind_8 : decode cX10_rankBehind 8 = .ok (.iconst (-1), 1) := da9_dX10_rankBehind_0.2.2.2.2.1
theorem dX10_rankBehind_9 : decode cX10_rankBehind 9 = .ok (.goto 24, 3) := da9_dX10_rankBehind_0.2.2.2.2.2.1
theorem dX10_rankBehind_12 : decode cX10_rankBehind 12 = .ok (.aload_n 0, 1) := da9_dX10_rankBehind_0.2.2.2.2.2.2.1
theorem dX10_rankBehind_13 : decode cX10_rankBehind 13 = .ok (.getfield 28, 3) := da9_dX10_rankBehind_0.2.2.2.2.2.2.2.1
theorem dX10_rankBehind_16 : decode cX10_rankBehind 16 = .ok (.iconst 0, 1) := da9_dX10_rankBehind_0.2.2.2.2.2.2.2.2.1
theorem dX10_rankBehind_17 : decode cX10_rankBehind 17 = .ok (.iload_n 2, 1) := da9_dX10_rankBehind_0.2.2.2.2.2.2.2.2.2.1
theorem dX10_rankBehind_18 : decode cX10_rankBehind 18 = .ok (.iload_n 1, 1) := da9_dX10_rankBehind_0.2.2.2.2.2.2.2.2.2.2.1
theorem dX10_rankBehind_19 : decode cX10_rankBehind 19 = .ok (.if_icmp .ge 11, 3) := da9_dX10_rankBehind_0.2.2.2.2.2.2.2.2.2.2.2.1
theorem dX10_rankBehind_22 : decode cX10_rankBehind 22 = .ok (.iload_n 1, 1) := da9_dX10_rankBehind_0.2.2.2.2.2.2.2.2.2.2.2.2.1
theorem dX10_rankBehind_23 : decode cX10_rankBehind 23 = .ok (.iconst 1, 1) := da9_dX10_rankBehind_0.2.2.2.2.2.2.2.2.2.2.2.2.2.1
theorem dX10_rankBehind_24 : decode cX10_rankBehind 24 = .ok (.isub, 1) := da9_dX10_rankBehind_0.2.2.2.2.2.2.2.2.2.2.2.2.2.2.1
theorem dX10_rankBehind_25 : decode cX10_rankBehind 25 = .ok (.iload_n 2, 1) := da9_dX10_rankBehind_0.2.2.2.2.2.2.2.2.2.2.2.2.2.2.2
theorem da9_dX10_rankBehind_26 : (decode cX10_rankBehind 26 = .ok (.isub, 1)) ∧ (decode cX10_rankBehind 27 = .ok (.goto 4, 3)) ∧ (decode cX10_rankBehind 30 = .ok (.iload_n 2, 1)) ∧ (decode cX10_rankBehind 31 = .ok (.iadd, 1)) ∧ (decode cX10_rankBehind 32 = .ok (.iaload, 1)) ∧ (decode cX10_rankBehind 33 = .ok (.ireturn, 1)) := by decide +kernel
theorem dX10_rankBehind_26 : decode cX10_rankBehind 26 = .ok (.isub, 1) := da9_dX10_rankBehind_26.1
theorem dX10_rankBehind_27 : decode cX10_rankBehind 27 = .ok (.goto 4, 3) := da9_dX10_rankBehind_26.2.1
theorem dX10_rankBehind_30 : decode cX10_rankBehind 30 = .ok (.iload_n 2, 1) := da9_dX10_rankBehind_26.2.2.1
theorem dX10_rankBehind_31 : decode cX10_rankBehind 31 = .ok (.iadd, 1) := da9_dX10_rankBehind_26.2.2.2.1
theorem dX10_rankBehind_32 : decode cX10_rankBehind 32 = .ok (.iaload, 1) := da9_dX10_rankBehind_26.2.2.2.2.1
theorem dX10_rankBehind_33 : decode cX10_rankBehind 33 = .ok (.ireturn, 1) := da9_dX10_rankBehind_26.2.2.2.2.2
set_option maxRecDepth 20000 in
theorem ggX10_itWas_X10_canTurn : GoodIn wsX10_itWas wsX10_canTurn := wd_c vW10_ok mvW10_310
set_option maxRecDepth 20000 in
theorem gX10_itWas_X10_canTurn : GoodIn wsX10_itWas (wsV RX10 353 RX10 yX10_canTurn wsX10_canTurn) := goodIn_app (wd_l vW10_ok _ pvW10_198) ggX10_itWas_X10_canTurn
set_option maxRecDepth 20000 in
theorem ggX10_itWas_X10_rankBehind : GoodIn wsX10_itWas wsX10_rankBehind := wd_c vW10_ok mvW10_425
set_option maxRecDepth 20000 in
theorem gX10_itWas_X10_rankBehind : GoodIn wsX10_itWas (wsV RX10 454 RX10 yX10_rankBehind wsX10_rankBehind) := goodIn_app (wd_l vW10_ok _ pvW10_229) ggX10_itWas_X10_rankBehind
theorem da9_dX10_itWas_0 : (decode cX10_itWas 0 = .ok (.aload_n 0, 1)) ∧ (decode cX10_itWas 1 = .ok (.iload_n 1, 1)) ∧ (decode cX10_itWas 2 = .ok (.invokevirtual 353, 3)) ∧ (decode cX10_itWas 5 = .ok (.istore_n 2, 1)) ∧ (decode cX10_itWas 6 = .ok (.iconst 0, 1)) ∧ (decode cX10_itWas 7 = .ok (.istore_n 3, 1)) ∧ (decode cX10_itWas 8 = .ok (.iload_n 3, 1)) ∧ (decode cX10_itWas 9 = .ok (.aload_n 0, 1)) ∧ (decode cX10_itWas 10 = .ok (.getfield 28, 3)) ∧ (decode cX10_itWas 13 = .ok (.bipush 30, 2)) ∧ (decode cX10_itWas 15 = .ok (.iaload, 1)) ∧ (decode cX10_itWas 16 = .ok (.if_icmp .ge 51, 3)) ∧ (decode cX10_itWas 19 = .ok (.iload_n 2, 1)) ∧ (decode cX10_itWas 20 = .ok (.ifCond .eq 47, 3)) ∧ (decode cX10_itWas 23 = .ok (.aload_n 0, 1)) ∧ (decode cX10_itWas 24 = .ok (.iload_n 1, 1)) := by decide +kernel
theorem dX10_itWas_0 : decode cX10_itWas 0 = .ok (.aload_n 0, 1) := da9_dX10_itWas_0.1
theorem dX10_itWas_1 : decode cX10_itWas 1 = .ok (.iload_n 1, 1) := da9_dX10_itWas_0.2.1
theorem dX10_itWas_2 : decode cX10_itWas 2 = .ok (.invokevirtual 353, 3) := da9_dX10_itWas_0.2.2.1
theorem dX10_itWas_5 : decode cX10_itWas 5 = .ok (.istore_n 2, 1) := da9_dX10_itWas_0.2.2.2.1
theorem dX10_itWas_6 : decode cX10_itWas 6 = .ok (.iconst 0, 1) := da9_dX10_itWas_0.2.2.2.2.1
theorem dX10_itWas_7 : decode cX10_itWas 7 = .ok (.istore_n 3, 1) := da9_dX10_itWas_0.2.2.2.2.2.1
theorem dX10_itWas_8 : decode cX10_itWas 8 = .ok (.iload_n 3, 1) := da9_dX10_itWas_0.2.2.2.2.2.2.1
theorem dX10_itWas_9 : decode cX10_itWas 9 = .ok (.aload_n 0, 1) := da9_dX10_itWas_0.2.2.2.2.2.2.2.1
theorem dX10_itWas_10 : decode cX10_itWas 10 = .ok (.getfield 28, 3) := da9_dX10_itWas_0.2.2.2.2.2.2.2.2.1
theorem dX10_itWas_13 : decode cX10_itWas 13 = .ok (.bipush 30, 2) := da9_dX10_itWas_0.2.2.2.2.2.2.2.2.2.1
theorem dX10_itWas_15 : decode cX10_itWas 15 = .ok (.iaload, 1) := da9_dX10_itWas_0.2.2.2.2.2.2.2.2.2.2.1
theorem dX10_itWas_16 : decode cX10_itWas 16 = .ok (.if_icmp .ge 51, 3) := da9_dX10_itWas_0.2.2.2.2.2.2.2.2.2.2.2.1
theorem dX10_itWas_19 : decode cX10_itWas 19 = .ok (.iload_n 2, 1) := da9_dX10_itWas_0.2.2.2.2.2.2.2.2.2.2.2.2.1
theorem dX10_itWas_20 : decode cX10_itWas 20 = .ok (.ifCond .eq 47, 3) := da9_dX10_itWas_0.2.2.2.2.2.2.2.2.2.2.2.2.2.1
theorem dX10_itWas_23 : decode cX10_itWas 23 = .ok (.aload_n 0, 1) := da9_dX10_itWas_0.2.2.2.2.2.2.2.2.2.2.2.2.2.2.1
theorem dX10_itWas_24 : decode cX10_itWas 24 = .ok (.iload_n 1, 1) := da9_dX10_itWas_0.2.2.2.2.2.2.2.2.2.2.2.2.2.2.2
theorem da9_dX10_itWas_25 : (decode cX10_itWas 25 = .ok (.aload_n 0, 1)) ∧ (decode cX10_itWas 26 = .ok (.getfield 28, 3)) ∧ (decode cX10_itWas 29 = .ok (.bipush 14, 2)) ∧ (decode cX10_itWas 31 = .ok (.iconst 2, 1)) ∧ (decode cX10_itWas 32 = .ok (.iload_n 3, 1)) ∧ (decode cX10_itWas 33 = .ok (.imul, 1)) ∧ (decode cX10_itWas 34 = .ok (.iadd, 1)) ∧ (decode cX10_itWas 35 = .ok (.iaload, 1)) ∧ (decode cX10_itWas 36 = .ok (.invokevirtual 454, 3)) ∧ (decode cX10_itWas 39 = .ok (.aload_n 0, 1)) ∧ (decode cX10_itWas 40 = .ok (.getfield 28, 3)) ∧ (decode cX10_itWas 43 = .ok (.bipush 14, 2)) ∧ (decode cX10_itWas 45 = .ok (.iconst 2, 1)) ∧ (decode cX10_itWas 46 = .ok (.iload_n 3, 1)) ∧ (decode cX10_itWas 47 = .ok (.imul, 1)) ∧ (decode cX10_itWas 48 = .ok (.iadd, 1)) := by decide +kernel
theorem dX10_itWas_25 : decode cX10_itWas 25 = .ok (.aload_n 0, 1) := da9_dX10_itWas_25.1
theorem dX10_itWas_26 : decode cX10_itWas 26 = .ok (.getfield 28, 3) := da9_dX10_itWas_25.2.1
theorem dX10_itWas_29 : decode cX10_itWas 29 = .ok (.bipush 14, 2) := da9_dX10_itWas_25.2.2.1
theorem dX10_itWas_31 : decode cX10_itWas 31 = .ok (.iconst 2, 1) := da9_dX10_itWas_25.2.2.2.1
theorem dX10_itWas_32 : decode cX10_itWas 32 = .ok (.iload_n 3, 1) := da9_dX10_itWas_25.2.2.2.2.1
theorem dX10_itWas_33 : decode cX10_itWas 33 = .ok (.imul, 1) := da9_dX10_itWas_25.2.2.2.2.2.1
theorem dX10_itWas_34 : decode cX10_itWas 34 = .ok (.iadd, 1) := da9_dX10_itWas_25.2.2.2.2.2.2.1
theorem dX10_itWas_35 : decode cX10_itWas 35 = .ok (.iaload, 1) := da9_dX10_itWas_25.2.2.2.2.2.2.2.1
theorem dX10_itWas_36 : decode cX10_itWas 36 = .ok (.invokevirtual 454, 3) := da9_dX10_itWas_25.2.2.2.2.2.2.2.2.1
theorem dX10_itWas_39 : decode cX10_itWas 39 = .ok (.aload_n 0, 1) := da9_dX10_itWas_25.2.2.2.2.2.2.2.2.2.1
theorem dX10_itWas_40 : decode cX10_itWas 40 = .ok (.getfield 28, 3) := da9_dX10_itWas_25.2.2.2.2.2.2.2.2.2.2.1
theorem dX10_itWas_43 : decode cX10_itWas 43 = .ok (.bipush 14, 2) := da9_dX10_itWas_25.2.2.2.2.2.2.2.2.2.2.2.1
theorem dX10_itWas_45 : decode cX10_itWas 45 = .ok (.iconst 2, 1) := da9_dX10_itWas_25.2.2.2.2.2.2.2.2.2.2.2.2.1
theorem dX10_itWas_46 : decode cX10_itWas 46 = .ok (.iload_n 3, 1) := da9_dX10_itWas_25.2.2.2.2.2.2.2.2.2.2.2.2.2.1
theorem dX10_itWas_47 : decode cX10_itWas 47 = .ok (.imul, 1) := da9_dX10_itWas_25.2.2.2.2.2.2.2.2.2.2.2.2.2.2.1
theorem dX10_itWas_48 : decode cX10_itWas 48 = .ok (.iadd, 1) := da9_dX10_itWas_25.2.2.2.2.2.2.2.2.2.2.2.2.2.2.2
theorem da9_dX10_itWas_49 : (decode cX10_itWas 49 = .ok (.iconst 1, 1)) ∧ (decode cX10_itWas 50 = .ok (.iadd, 1)) ∧ (decode cX10_itWas 51 = .ok (.iaload, 1)) ∧ (decode cX10_itWas 52 = .ok (.if_icmp .ne 7, 3)) ∧ (decode cX10_itWas 55 = .ok (.iconst 1, 1)) ∧ (decode cX10_itWas 56 = .ok (.goto 4, 3)) ∧ (decode cX10_itWas 59 = .ok (.iconst 0, 1)) ∧ (decode cX10_itWas 60 = .ok (.istore_n 2, 1)) ∧ (decode cX10_itWas 61 = .ok (.iinc 3 1, 3)) ∧ (decode cX10_itWas 64 = .ok (.goto (-56), 3)) ∧ (decode cX10_itWas 67 = .ok (.iload_n 2, 1)) ∧ (decode cX10_itWas 68 = .ok (.ireturn, 1)) := by decide +kernel
theorem dX10_itWas_49 : decode cX10_itWas 49 = .ok (.iconst 1, 1) := da9_dX10_itWas_49.1
theorem dX10_itWas_50 : decode cX10_itWas 50 = .ok (.iadd, 1) := da9_dX10_itWas_49.2.1
theorem dX10_itWas_51 : decode cX10_itWas 51 = .ok (.iaload, 1) := da9_dX10_itWas_49.2.2.1
theorem dX10_itWas_52 : decode cX10_itWas 52 = .ok (.if_icmp .ne 7, 3) := da9_dX10_itWas_49.2.2.2.1
theorem dX10_itWas_55 : decode cX10_itWas 55 = .ok (.iconst 1, 1) := da9_dX10_itWas_49.2.2.2.2.1
theorem dX10_itWas_56 : decode cX10_itWas 56 = .ok (.goto 4, 3) := da9_dX10_itWas_49.2.2.2.2.2.1
theorem dX10_itWas_59 : decode cX10_itWas 59 = .ok (.iconst 0, 1) := da9_dX10_itWas_49.2.2.2.2.2.2.1
theorem dX10_itWas_60 : decode cX10_itWas 60 = .ok (.istore_n 2, 1) := da9_dX10_itWas_49.2.2.2.2.2.2.2.1
theorem dX10_itWas_61 : decode cX10_itWas 61 = .ok (.iinc 3 1, 3) := da9_dX10_itWas_49.2.2.2.2.2.2.2.2.1
theorem dX10_itWas_64 : decode cX10_itWas 64 = .ok (.goto (-56), 3) := da9_dX10_itWas_49.2.2.2.2.2.2.2.2.2.1
theorem dX10_itWas_67 : decode cX10_itWas 67 = .ok (.iload_n 2, 1) := da9_dX10_itWas_49.2.2.2.2.2.2.2.2.2.2.1
theorem dX10_itWas_68 : decode cX10_itWas 68 = .ok (.ireturn, 1) := da9_dX10_itWas_49.2.2.2.2.2.2.2.2.2.2.2
set_option maxRecDepth 20000 in
theorem ggX10_was_X10_size : GoodIn wsX10_was wsX10_size := wd_c vW10_ok mvW10_24
set_option maxRecDepth 20000 in
theorem gX10_was_X10_size : GoodIn wsX10_was (wsV RX10 125 RX10 yX10_size wsX10_size) := goodIn_app (wd_l vW10_ok _ pvW10_144) ggX10_was_X10_size
set_option maxRecDepth 20000 in
theorem ggX10_was_X10_itWas : GoodIn wsX10_was wsX10_itWas := wd_c vW10_ok mvW10_421
set_option maxRecDepth 20000 in
theorem gX10_was_X10_itWas : GoodIn wsX10_was (wsV RX10 457 RX10 yX10_itWas wsX10_itWas) := goodIn_app (wd_l vW10_ok _ pvW10_230) ggX10_was_X10_itWas
theorem da9_dX10_was_0 : (decode cX10_was 0 = .ok (.iconst 0, 1)) ∧ (decode cX10_was 1 = .ok (.istore_n 1, 1)) ∧ (decode cX10_was 2 = .ok (.iconst 1, 1)) ∧ (decode cX10_was 3 = .ok (.istore_n 2, 1)) ∧ (decode cX10_was 4 = .ok (.iload_n 2, 1)) ∧ (decode cX10_was 5 = .ok (.aload_n 0, 1)) ∧ (decode cX10_was 6 = .ok (.invokevirtual 125, 3)) ∧ (decode cX10_was 9 = .ok (.if_icmp .gt 27, 3)) ∧ (decode cX10_was 12 = .ok (.iload_n 1, 1)) ∧ (decode cX10_was 13 = .ok (.aload_n 0, 1)) ∧ (decode cX10_was 14 = .ok (.iload_n 2, 1)) ∧ (decode cX10_was 15 = .ok (.invokevirtual 457, 3)) ∧ (decode cX10_was 18 = .ok (.ifCond .eq 9, 3)) ∧ (decode cX10_was 21 = .ok (.iconst 1, 1)) ∧ (decode cX10_was 22 = .ok (.iload_n 2, 1)) ∧ (decode cX10_was 23 = .ok (.ishl, 1)) := by decide +kernel
theorem dX10_was_0 : decode cX10_was 0 = .ok (.iconst 0, 1) := da9_dX10_was_0.1
theorem dX10_was_1 : decode cX10_was 1 = .ok (.istore_n 1, 1) := da9_dX10_was_0.2.1
theorem dX10_was_2 : decode cX10_was 2 = .ok (.iconst 1, 1) := da9_dX10_was_0.2.2.1
theorem dX10_was_3 : decode cX10_was 3 = .ok (.istore_n 2, 1) := da9_dX10_was_0.2.2.2.1
theorem dX10_was_4 : decode cX10_was 4 = .ok (.iload_n 2, 1) := da9_dX10_was_0.2.2.2.2.1
theorem dX10_was_5 : decode cX10_was 5 = .ok (.aload_n 0, 1) := da9_dX10_was_0.2.2.2.2.2.1
theorem dX10_was_6 : decode cX10_was 6 = .ok (.invokevirtual 125, 3) := da9_dX10_was_0.2.2.2.2.2.2.1
theorem dX10_was_9 : decode cX10_was 9 = .ok (.if_icmp .gt 27, 3) := da9_dX10_was_0.2.2.2.2.2.2.2.1
theorem dX10_was_12 : decode cX10_was 12 = .ok (.iload_n 1, 1) := da9_dX10_was_0.2.2.2.2.2.2.2.2.1
theorem dX10_was_13 : decode cX10_was 13 = .ok (.aload_n 0, 1) := da9_dX10_was_0.2.2.2.2.2.2.2.2.2.1
theorem dX10_was_14 : decode cX10_was 14 = .ok (.iload_n 2, 1) := da9_dX10_was_0.2.2.2.2.2.2.2.2.2.2.1
theorem dX10_was_15 : decode cX10_was 15 = .ok (.invokevirtual 457, 3) := da9_dX10_was_0.2.2.2.2.2.2.2.2.2.2.2.1
theorem dX10_was_18 : decode cX10_was 18 = .ok (.ifCond .eq 9, 3) := da9_dX10_was_0.2.2.2.2.2.2.2.2.2.2.2.2.1
theorem dX10_was_21 : decode cX10_was 21 = .ok (.iconst 1, 1) := da9_dX10_was_0.2.2.2.2.2.2.2.2.2.2.2.2.2.1
theorem dX10_was_22 : decode cX10_was 22 = .ok (.iload_n 2, 1) := da9_dX10_was_0.2.2.2.2.2.2.2.2.2.2.2.2.2.2.1
theorem dX10_was_23 : decode cX10_was 23 = .ok (.ishl, 1) := da9_dX10_was_0.2.2.2.2.2.2.2.2.2.2.2.2.2.2.2
theorem da9_dX10_was_24 : (decode cX10_was 24 = .ok (.goto 4, 3)) ∧ (decode cX10_was 27 = .ok (.iconst 0, 1)) ∧ (decode cX10_was 28 = .ok (.ior, 1)) ∧ (decode cX10_was 29 = .ok (.istore_n 1, 1)) ∧ (decode cX10_was 30 = .ok (.iinc 2 1, 3)) ∧ (decode cX10_was 33 = .ok (.goto (-29), 3)) ∧ (decode cX10_was 36 = .ok (.iload_n 1, 1)) ∧ (decode cX10_was 37 = .ok (.ireturn, 1)) := by decide +kernel
theorem dX10_was_24 : decode cX10_was 24 = .ok (.goto 4, 3) := da9_dX10_was_24.1
theorem dX10_was_27 : decode cX10_was 27 = .ok (.iconst 0, 1) := da9_dX10_was_24.2.1
theorem dX10_was_28 : decode cX10_was 28 = .ok (.ior, 1) := da9_dX10_was_24.2.2.1
theorem dX10_was_29 : decode cX10_was 29 = .ok (.istore_n 1, 1) := da9_dX10_was_24.2.2.2.1
theorem dX10_was_30 : decode cX10_was 30 = .ok (.iinc 2 1, 3) := da9_dX10_was_24.2.2.2.2.1
theorem dX10_was_33 : decode cX10_was 33 = .ok (.goto (-29), 3) := da9_dX10_was_24.2.2.2.2.2.1
theorem dX10_was_36 : decode cX10_was 36 = .ok (.iload_n 1, 1) := da9_dX10_was_24.2.2.2.2.2.2.1
theorem dX10_was_37 : decode cX10_was 37 = .ok (.ireturn, 1) := da9_dX10_was_24.2.2.2.2.2.2.2
set_option maxRecDepth 20000 in
theorem ggX10_mostAlike_X10_size : GoodIn wsX10_mostAlike wsX10_size := wd_c vW10_ok mvW10_24
set_option maxRecDepth 20000 in
theorem gX10_mostAlike_X10_size : GoodIn wsX10_mostAlike (wsV RX10 125 RX10 yX10_size wsX10_size) := goodIn_app (wd_l vW10_ok _ pvW10_144) ggX10_mostAlike_X10_size
set_option maxRecDepth 20000 in
theorem ggX10_mostAlike_X10_isIn : GoodIn wsX10_mostAlike wsX10_isIn := wd_c vW10_ok mvW10_362
set_option maxRecDepth 20000 in
theorem gX10_mostAlike_X10_isIn : GoodIn wsX10_mostAlike (va_wsS RX10 383 yX10_isIn wsX10_isIn) := goodIn_app (wd_l vW10_ok _ pvW10_208) ggX10_mostAlike_X10_isIn
set_option maxRecDepth 20000 in
theorem ggX10_mostAlike_X10_rankBehind : GoodIn wsX10_mostAlike wsX10_rankBehind := wd_c vW10_ok mvW10_425
set_option maxRecDepth 20000 in
theorem gX10_mostAlike_X10_rankBehind : GoodIn wsX10_mostAlike (wsV RX10 454 RX10 yX10_rankBehind wsX10_rankBehind) := goodIn_app (wd_l vW10_ok _ pvW10_229) ggX10_mostAlike_X10_rankBehind
set_option maxRecDepth 20000 in
theorem ggX10_mostAlike_X10_greater : GoodIn wsX10_mostAlike wsX10_greater := wd_c vW10_ok mvW10_402
set_option maxRecDepth 20000 in
theorem gX10_mostAlike_X10_greater : GoodIn wsX10_mostAlike (va_wsS RX10 439 yX10_greater wsX10_greater) := goodIn_app (wd_l vW10_ok _ pvW10_224) ggX10_mostAlike_X10_greater
theorem da9_dX10_mostAlike_0 : (decode cX10_mostAlike 0 = .ok (.iconst 0, 1)) ∧ (decode cX10_mostAlike 1 = .ok (.istore_n 3, 1)) ∧ (decode cX10_mostAlike 2 = .ok (.iload_n 3, 1)) ∧ (decode cX10_mostAlike 3 = .ok (.bipush 6, 2)) ∧ (decode cX10_mostAlike 5 = .ok (.if_icmp .ge 16, 3)) ∧ (decode cX10_mostAlike 8 = .ok (.aload_n 0, 1)) ∧ (decode cX10_mostAlike 9 = .ok (.getfield 103, 3)) ∧ (decode cX10_mostAlike 12 = .ok (.iload_n 3, 1)) ∧ (decode cX10_mostAlike 13 = .ok (.iconst 0, 1)) ∧ (decode cX10_mostAlike 14 = .ok (.iastore, 1)) ∧ (decode cX10_mostAlike 15 = .ok (.iinc 3 1, 3)) ∧ (decode cX10_mostAlike 18 = .ok (.goto (-16), 3)) ∧ (decode cX10_mostAlike 21 = .ok (.iconst 0, 1)) ∧ (decode cX10_mostAlike 22 = .ok (.istore_n 3, 1)) ∧ (decode cX10_mostAlike 23 = .ok (.iconst 1, 1)) ∧ (decode cX10_mostAlike 24 = .ok (.istore 4, 2)) := by decide +kernel
theorem dX10_mostAlike_0 : decode cX10_mostAlike 0 = .ok (.iconst 0, 1) := da9_dX10_mostAlike_0.1
theorem dX10_mostAlike_1 : decode cX10_mostAlike 1 = .ok (.istore_n 3, 1) := da9_dX10_mostAlike_0.2.1
theorem dX10_mostAlike_2 : decode cX10_mostAlike 2 = .ok (.iload_n 3, 1) := da9_dX10_mostAlike_0.2.2.1
theorem dX10_mostAlike_3 : decode cX10_mostAlike 3 = .ok (.bipush 6, 2) := da9_dX10_mostAlike_0.2.2.2.1
theorem dX10_mostAlike_5 : decode cX10_mostAlike 5 = .ok (.if_icmp .ge 16, 3) := da9_dX10_mostAlike_0.2.2.2.2.1
theorem dX10_mostAlike_8 : decode cX10_mostAlike 8 = .ok (.aload_n 0, 1) := da9_dX10_mostAlike_0.2.2.2.2.2.1
theorem dX10_mostAlike_9 : decode cX10_mostAlike 9 = .ok (.getfield 103, 3) := da9_dX10_mostAlike_0.2.2.2.2.2.2.1
theorem dX10_mostAlike_12 : decode cX10_mostAlike 12 = .ok (.iload_n 3, 1) := da9_dX10_mostAlike_0.2.2.2.2.2.2.2.1
theorem dX10_mostAlike_13 : decode cX10_mostAlike 13 = .ok (.iconst 0, 1) := da9_dX10_mostAlike_0.2.2.2.2.2.2.2.2.1
theorem dX10_mostAlike_14 : decode cX10_mostAlike 14 = .ok (.iastore, 1) := da9_dX10_mostAlike_0.2.2.2.2.2.2.2.2.2.1
theorem dX10_mostAlike_15 : decode cX10_mostAlike 15 = .ok (.iinc 3 1, 3) := da9_dX10_mostAlike_0.2.2.2.2.2.2.2.2.2.2.1
theorem dX10_mostAlike_18 : decode cX10_mostAlike 18 = .ok (.goto (-16), 3) := da9_dX10_mostAlike_0.2.2.2.2.2.2.2.2.2.2.2.1
theorem dX10_mostAlike_21 : decode cX10_mostAlike 21 = .ok (.iconst 0, 1) := da9_dX10_mostAlike_0.2.2.2.2.2.2.2.2.2.2.2.2.1
theorem dX10_mostAlike_22 : decode cX10_mostAlike 22 = .ok (.istore_n 3, 1) := da9_dX10_mostAlike_0.2.2.2.2.2.2.2.2.2.2.2.2.2.1
theorem dX10_mostAlike_23 : decode cX10_mostAlike 23 = .ok (.iconst 1, 1) := da9_dX10_mostAlike_0.2.2.2.2.2.2.2.2.2.2.2.2.2.2.1
theorem dX10_mostAlike_24 : decode cX10_mostAlike 24 = .ok (.istore 4, 2) := da9_dX10_mostAlike_0.2.2.2.2.2.2.2.2.2.2.2.2.2.2.2
theorem da9_dX10_mostAlike_26 : (decode cX10_mostAlike 26 = .ok (.iload 4, 2)) ∧ (decode cX10_mostAlike 28 = .ok (.aload_n 0, 1)) ∧ (decode cX10_mostAlike 29 = .ok (.invokevirtual 125, 3)) ∧ (decode cX10_mostAlike 32 = .ok (.if_icmp .gt 53, 3)) ∧ (decode cX10_mostAlike 35 = .ok (.iload_n 1, 1)) ∧ (decode cX10_mostAlike 36 = .ok (.iload 4, 2)) ∧ (decode cX10_mostAlike 38 = .ok (.invokestatic 383, 3)) ∧ (decode cX10_mostAlike 41 = .ok (.ifCond .ne 6, 3)) ∧ (decode cX10_mostAlike 44 = .ok (.goto 35, 3)) ∧ (decode cX10_mostAlike 47 = .ok (.aload_n 0, 1)) ∧ (decode cX10_mostAlike 48 = .ok (.iload 4, 2)) ∧ (decode cX10_mostAlike 50 = .ok (.iload_n 2, 1)) ∧ (decode cX10_mostAlike 51 = .ok (.invokevirtual 454, 3)) ∧ (decode cX10_mostAlike 54 = .ok (.istore 5, 2)) ∧ (decode cX10_mostAlike 56 = .ok (.aload_n 0, 1)) ∧ (decode cX10_mostAlike 57 = .ok (.getfield 103, 3)) := by decide +kernel
theorem dX10_mostAlike_26 : decode cX10_mostAlike 26 = .ok (.iload 4, 2) := da9_dX10_mostAlike_26.1
theorem dX10_mostAlike_28 : decode cX10_mostAlike 28 = .ok (.aload_n 0, 1) := da9_dX10_mostAlike_26.2.1
theorem dX10_mostAlike_29 : decode cX10_mostAlike 29 = .ok (.invokevirtual 125, 3) := da9_dX10_mostAlike_26.2.2.1
theorem dX10_mostAlike_32 : decode cX10_mostAlike 32 = .ok (.if_icmp .gt 53, 3) := da9_dX10_mostAlike_26.2.2.2.1
theorem dX10_mostAlike_35 : decode cX10_mostAlike 35 = .ok (.iload_n 1, 1) := da9_dX10_mostAlike_26.2.2.2.2.1
theorem dX10_mostAlike_36 : decode cX10_mostAlike 36 = .ok (.iload 4, 2) := da9_dX10_mostAlike_26.2.2.2.2.2.1
theorem dX10_mostAlike_38 : decode cX10_mostAlike 38 = .ok (.invokestatic 383, 3) := da9_dX10_mostAlike_26.2.2.2.2.2.2.1
theorem dX10_mostAlike_41 : decode cX10_mostAlike 41 = .ok (.ifCond .ne 6, 3) := da9_dX10_mostAlike_26.2.2.2.2.2.2.2.1
theorem dX10_mostAlike_44 : decode cX10_mostAlike 44 = .ok (.goto 35, 3) := da9_dX10_mostAlike_26.2.2.2.2.2.2.2.2.1
theorem dX10_mostAlike_47 : decode cX10_mostAlike 47 = .ok (.aload_n 0, 1) := da9_dX10_mostAlike_26.2.2.2.2.2.2.2.2.2.1
theorem dX10_mostAlike_48 : decode cX10_mostAlike 48 = .ok (.iload 4, 2) := da9_dX10_mostAlike_26.2.2.2.2.2.2.2.2.2.2.1
theorem dX10_mostAlike_50 : decode cX10_mostAlike 50 = .ok (.iload_n 2, 1) := da9_dX10_mostAlike_26.2.2.2.2.2.2.2.2.2.2.2.1
theorem dX10_mostAlike_51 : decode cX10_mostAlike 51 = .ok (.invokevirtual 454, 3) := da9_dX10_mostAlike_26.2.2.2.2.2.2.2.2.2.2.2.2.1
theorem dX10_mostAlike_54 : decode cX10_mostAlike 54 = .ok (.istore 5, 2) := da9_dX10_mostAlike_26.2.2.2.2.2.2.2.2.2.2.2.2.2.1
theorem dX10_mostAlike_56 : decode cX10_mostAlike 56 = .ok (.aload_n 0, 1) := da9_dX10_mostAlike_26.2.2.2.2.2.2.2.2.2.2.2.2.2.2.1
theorem dX10_mostAlike_57 : decode cX10_mostAlike 57 = .ok (.getfield 103, 3) := da9_dX10_mostAlike_26.2.2.2.2.2.2.2.2.2.2.2.2.2.2.2
theorem da9_dX10_mostAlike_60 : (decode cX10_mostAlike 60 = .ok (.iload 5, 2)) ∧ (decode cX10_mostAlike 62 = .ok (.dup2, 1)) ∧ (decode cX10_mostAlike 63 = .ok (.iaload, 1)) ∧ (decode cX10_mostAlike 64 = .ok (.iconst 1, 1)) ∧ (decode cX10_mostAlike 65 = .ok (.iadd, 1)) ∧ (decode cX10_mostAlike 66 = .ok (.iastore, 1)) ∧ (decode cX10_mostAlike 67 = .ok (.iload_n 3, 1)) ∧ (decode cX10_mostAlike 68 = .ok (.aload_n 0, 1)) ∧ (decode cX10_mostAlike 69 = .ok (.getfield 103, 3)) ∧ (decode cX10_mostAlike 72 = .ok (.iload 5, 2)) ∧ (decode cX10_mostAlike 74 = .ok (.iaload, 1)) ∧ (decode cX10_mostAlike 75 = .ok (.invokestatic 439, 3)) ∧ (decode cX10_mostAlike 78 = .ok (.istore_n 3, 1)) ∧ (decode cX10_mostAlike 79 = .ok (.iinc 4 1, 3)) ∧ (decode cX10_mostAlike 82 = .ok (.goto (-56), 3)) ∧ (decode cX10_mostAlike 85 = .ok (.iload_n 3, 1)) := by decide +kernel
theorem dX10_mostAlike_60 : decode cX10_mostAlike 60 = .ok (.iload 5, 2) := da9_dX10_mostAlike_60.1
theorem dX10_mostAlike_62 : decode cX10_mostAlike 62 = .ok (.dup2, 1) := da9_dX10_mostAlike_60.2.1
theorem dX10_mostAlike_63 : decode cX10_mostAlike 63 = .ok (.iaload, 1) := da9_dX10_mostAlike_60.2.2.1
theorem dX10_mostAlike_64 : decode cX10_mostAlike 64 = .ok (.iconst 1, 1) := da9_dX10_mostAlike_60.2.2.2.1
theorem dX10_mostAlike_65 : decode cX10_mostAlike 65 = .ok (.iadd, 1) := da9_dX10_mostAlike_60.2.2.2.2.1
theorem dX10_mostAlike_66 : decode cX10_mostAlike 66 = .ok (.iastore, 1) := da9_dX10_mostAlike_60.2.2.2.2.2.1
theorem dX10_mostAlike_67 : decode cX10_mostAlike 67 = .ok (.iload_n 3, 1) := da9_dX10_mostAlike_60.2.2.2.2.2.2.1
theorem dX10_mostAlike_68 : decode cX10_mostAlike 68 = .ok (.aload_n 0, 1) := da9_dX10_mostAlike_60.2.2.2.2.2.2.2.1
theorem dX10_mostAlike_69 : decode cX10_mostAlike 69 = .ok (.getfield 103, 3) := da9_dX10_mostAlike_60.2.2.2.2.2.2.2.2.1
theorem dX10_mostAlike_72 : decode cX10_mostAlike 72 = .ok (.iload 5, 2) := da9_dX10_mostAlike_60.2.2.2.2.2.2.2.2.2.1
theorem dX10_mostAlike_74 : decode cX10_mostAlike 74 = .ok (.iaload, 1) := da9_dX10_mostAlike_60.2.2.2.2.2.2.2.2.2.2.1
theorem dX10_mostAlike_75 : decode cX10_mostAlike 75 = .ok (.invokestatic 439, 3) := da9_dX10_mostAlike_60.2.2.2.2.2.2.2.2.2.2.2.1
theorem dX10_mostAlike_78 : decode cX10_mostAlike 78 = .ok (.istore_n 3, 1) := da9_dX10_mostAlike_60.2.2.2.2.2.2.2.2.2.2.2.2.1
theorem dX10_mostAlike_79 : decode cX10_mostAlike 79 = .ok (.iinc 4 1, 3) := da9_dX10_mostAlike_60.2.2.2.2.2.2.2.2.2.2.2.2.2.1
theorem dX10_mostAlike_82 : decode cX10_mostAlike 82 = .ok (.goto (-56), 3) := da9_dX10_mostAlike_60.2.2.2.2.2.2.2.2.2.2.2.2.2.2.1
theorem dX10_mostAlike_85 : decode cX10_mostAlike 85 = .ok (.iload_n 3, 1) := da9_dX10_mostAlike_60.2.2.2.2.2.2.2.2.2.2.2.2.2.2.2
theorem dX10_mostAlike_86 : decode cX10_mostAlike 86 = .ok (.ireturn, 1) := by decide +kernel
end
section
theorem u9_wsX10_view_X10 : ∀ w ∈ u_ws RX10 TX10 56, w ∈ wsX10_view := fun w h => List.mem_cons_of_mem _ (vW10_wsX100 w h)
theorem f9_wsX10_view_242 : (Cond.fieldLink RX10 386 "TurnedFloorsModel" "orderMany" "I") ∈ wsX10_view := List.mem_cons_of_mem _ mvW10_335
theorem f9_wsX10_view_243 : (Cond.constant RX10 188 1000000) ∈ wsX10_view := List.mem_cons_of_mem _ mvW10_172
theorem f9_wsX10_view_244 : (Cond.fieldLink RX10 75 "TurnedFloorsModel" "rankAt" "[I") ∈ wsX10_view := List.mem_cons_of_mem _ mvW10_350
theorem f9_wsX10_view_245 : (Cond.fieldLink RX10 91 "TurnedFloorsModel" "dist" "[I") ∈ wsX10_view := List.mem_cons_of_mem _ mvW10_330
theorem u9_wsX10_canStay_X10 : ∀ w ∈ u_ws RX10 TX10 56, w ∈ wsX10_canStay := fun w h => List.mem_cons_of_mem _ (vW10_wsX100 w h)
theorem f9_wsX10_canStay_247 : (Cond.fieldLink RX10 28 "TurnedFloorsModel" "kept" "[I") ∈ wsX10_canStay := List.mem_cons_of_mem _ mvW10_20
theorem u9_wsX10_seen_X10 : ∀ w ∈ u_ws RX10 TX10 56, w ∈ wsX10_seen := fun w h => List.mem_cons_of_mem _ (vW10_wsX100 w h)
theorem f9_wsX10_seen_249 : (Cond.fieldLink RX10 28 "TurnedFloorsModel" "kept" "[I") ∈ wsX10_seen := List.mem_cons_of_mem _ mvW10_20
theorem u9_wsX10_forget_X10 : ∀ w ∈ u_ws RX10 TX10 56, w ∈ wsX10_forget := fun w h => List.mem_cons_of_mem _ (vW10_wsX100 w h)
theorem f9_wsX10_forget_251 : (Cond.fieldLink RX10 28 "TurnedFloorsModel" "kept" "[I") ∈ wsX10_forget := List.mem_cons_of_mem _ mvW10_20
theorem u9_wsX10_rankBehind_X10 : ∀ w ∈ u_ws RX10 TX10 56, w ∈ wsX10_rankBehind := fun w h => List.mem_cons_of_mem _ (vW10_wsX100 w h)
theorem f9_wsX10_rankBehind_253 : (Cond.fieldLink RX10 28 "TurnedFloorsModel" "kept" "[I") ∈ wsX10_rankBehind := List.mem_cons_of_mem _ mvW10_20
theorem u9_wsX10_itWas_X10 : ∀ w ∈ u_ws RX10 TX10 56, w ∈ wsX10_itWas := fun w h => List.mem_cons_of_mem _ (vW10_wsX100 w h)
theorem f9_wsX10_itWas_255 : (Cond.fieldLink RX10 28 "TurnedFloorsModel" "kept" "[I") ∈ wsX10_itWas := List.mem_cons_of_mem _ mvW10_20
theorem u9_wsX10_mostAlike_X10 : ∀ w ∈ u_ws RX10 TX10 56, w ∈ wsX10_mostAlike := fun w h => List.mem_cons_of_mem _ (vW10_wsX100 w h)
theorem f9_wsX10_mostAlike_257 : (Cond.fieldLink RX10 103 "TurnedFloorsModel" "alike" "[I") ∈ wsX10_mostAlike := List.mem_cons_of_mem _ mvW10_434
set_option maxHeartbeats 4000000 in
set_option maxRecDepth 100000 in
theorem WX10_view_95 {p : Program} {l : Launch} {e : Env} {s : State} {m : MethodId} {args : Array Value} {below : List Frame} {meth : Method} {c : Code} {D : va_G} {ty : Nat → ClassId} {eo : Nat → Nat} {A : Nat → Prop} {ad : Nat → Nat} {o1 : Int32} {o2 : dS} (C : dc_C p s m args meth c cX10_view (some .int) 4 RX10 wsX10_view D ty eo A)   (q : dS) (y0 : Int32) (H : Heap) (locs : List Loc) (ls : Array Slot) (h : zX10_view_95  q y0 = some (o1, o2)) (hP : va_P D vwCl (w10 ty ad q) H) (hD : va_D A (w10 ty ad q)) (hS : va_S A s.heap H locs) (hl : lv_has ls 4 []) : W p l e ({ frames := 89, cells := 0, slots := 0, locals := 2271 } : Room) s m args below meth c H locs 0 0 (MQ below (va_Qi (fun (r : Int32) (u : va_W) => o1 = r ∧ w10 ty ad o2 = u) (kz_B D ty A) A) args s 0 0 A) (F0 m 95 ls [.int y0]) := by
  have C0 := C
  obtain ⟨hx, hb, hr, hts, hown, hlocks, hml, hK, hN, hE, hA⟩ := C
  unfold zX10_view_95 at h
  cases h
  exact kz_iret hx hb hr hlocks hP hK hD hS dX10_view_95 ⟨rfl, rfl⟩
set_option maxHeartbeats 4000000 in
set_option maxRecDepth 100000 in
theorem WX10_view_78 {p : Program} {l : Launch} {e : Env} {s : State} {m : MethodId} {args : Array Value} {below : List Frame} {meth : Method} {c : Code} {D : va_G} {ty : Nat → ClassId} {eo : Nat → Nat} {A : Nat → Prop} {ad : Nat → Nat} {o1 : Int32} {o2 : dS} (C : dc_C p s m args meth c cX10_view (some .int) 4 RX10 wsX10_view D ty eo A) {k28 : dS → Int32 → Int32 → Int32 → Option (Int32 × dS)} (hk28 : ∀ (q : dS) (x1 : Int32) (x2 : Int32) (x3 : Int32) (H : Heap) (locs : List Loc) (ls : Array Slot), k28 q x1 x2 x3 = some (o1, o2) → va_P D vwCl (w10 ty ad q) H → va_D A (w10 ty ad q) → va_S A s.heap H locs → lv_has ls 4 [(0, .ref (ad 0)), (1, .int x1), (2, .int x2), (3, .int x3)] → W p l e ({ frames := 89, cells := 0, slots := 0, locals := 2271 } : Room) s m args below meth c H locs 0 0 (MQ below (va_Qi (fun (r : Int32) (u : va_W) => o1 = r ∧ w10 ty ad o2 = u) (kz_B D ty A) A) args s 0 0 A) (F0 m 28 ls [])) (q : dS) (x1 : Int32) (x2 : Int32) (x3 : Int32) (H : Heap) (locs : List Loc) (ls : Array Slot) (h : zX10_view_78 k28 q x1 x2 x3 = some (o1, o2)) (hP : va_P D vwCl (w10 ty ad q) H) (hD : va_D A (w10 ty ad q)) (hS : va_S A s.heap H locs) (hl : lv_has ls 4 [(0, .ref (ad 0)), (1, .int x1), (2, .int x2), (3, .int x3)]) : W p l e ({ frames := 89, cells := 0, slots := 0, locals := 2271 } : Room) s m args below meth c H locs 0 0 (MQ below (va_Qi (fun (r : Int32) (u : va_W) => o1 = r ∧ w10 ty ad o2 = u) (kz_B D ty A) A) args s 0 0 A) (F0 m 78 ls []) := by
  have C0 := C
  obtain ⟨hx, hb, hr, hts, hown, hlocks, hml, hK, hN, hE, hA⟩ := C
  unfold zX10_view_78 at h
  refine lv_iinc (v := x3 + 1) (lv' := [(3, .int (x3 + 1)), (0, .ref (ad 0)), (1, .int x1), (2, .int x2)]) hx hb dX10_view_78 hl (k := 3) rfl rfl (by decide) rfl (fun ls hl => ?_)
  refine lv_goto (tgt := 28) hx hb dX10_view_81 (by decide) ?_
  exact hk28 _ _ _ _ _ _ _ h hP hD hS (lv_sub hl [1, 2, 3, 0] rfl)
set_option maxHeartbeats 4000000 in
set_option maxRecDepth 100000 in
theorem WX10_view_28b {p : Program} {l : Launch} {e : Env} {s : State} {m : MethodId} {args : Array Value} {below : List Frame} {meth : Method} {c : Code} {D : va_G} {ty : Nat → ClassId} {eo : Nat → Nat} {A : Nat → Prop} {ad : Nat → Nat} {o1 : Int32} {o2 : dS} (C : dc_C p s m args meth c cX10_view (some .int) 4 RX10 wsX10_view D ty eo A) {k28 : dS → Int32 → Int32 → Int32 → Option (Int32 × dS)} (hk28 : ∀ (q : dS) (x1 : Int32) (x2 : Int32) (x3 : Int32) (H : Heap) (locs : List Loc) (ls : Array Slot), k28 q x1 x2 x3 = some (o1, o2) → va_P D vwCl (w10 ty ad q) H → va_D A (w10 ty ad q) → va_S A s.heap H locs → lv_has ls 4 [(0, .ref (ad 0)), (1, .int x1), (2, .int x2), (3, .int x3)] → W p l e ({ frames := 89, cells := 0, slots := 0, locals := 2271 } : Room) s m args below meth c H locs 0 0 (MQ below (va_Qi (fun (r : Int32) (u : va_W) => o1 = r ∧ w10 ty ad o2 = u) (kz_B D ty A) A) args s 0 0 A) (F0 m 28 ls [])) (q : dS) (x1 : Int32) (x2 : Int32) (x3 : Int32) (H : Heap) (locs : List Loc) (ls : Array Slot) (h : zX10_view_28b k28 q x1 x2 x3 = some (o1, o2)) (hP : va_P D vwCl (w10 ty ad q) H) (hD : va_D A (w10 ty ad q)) (hS : va_S A s.heap H locs) (hl : lv_has ls 4 [(0, .ref (ad 0)), (1, .int x1), (2, .int x2), (3, .int x3)]) : W p l e ({ frames := 89, cells := 0, slots := 0, locals := 2271 } : Room) s m args below meth c H locs 0 0 (MQ below (va_Qi (fun (r : Int32) (u : va_W) => o1 = r ∧ w10 ty ad o2 = u) (kz_B D ty A) A) args s 0 0 A) (F0 m 28 ls []) := by
  have C0 := C
  obtain ⟨hx, hb, hr, hts, hown, hlocks, hml, hK, hN, hE, hA⟩ := C
  unfold zX10_view_28b at h
  refine lv_iload_n hx hb dX10_view_28 rfl (lv_at hl 3 rfl) ?_
  refine lv_bipush (v := 64) hx hb dX10_view_29 (by decide) ?_
  refine lv_aload_n hx hb dX10_view_31 rfl (lv_at hl 0 rfl) ?_
  refine va_get (D := D) (ci := 10) (v := .int (q.1 0 37)) (C := RX10) (T := TX10) (N := 56) hx hb hts u9_wsX10_view_X10 hown hK hP 0 rfl rfl 37 (by decide) (hts (.fieldLink RX10 386 "TurnedFloorsModel" "orderMany" "I") f9_wsX10_view_242) (fun _ h9 => h9) rfl dX10_view_32 ?_
  refine lv_imul hx hb dX10_view_35 ?_
  refine lv_icmp_ge (tgt := 84) hx hb dX10_view_36 (by decide) (fun c9 => ?_) (fun c9 => ?_)
  · rw [if_pos c9] at h
    refine lv_iload_n hx hb dX10_view_84 rfl (lv_at hl 2 rfl) ?_
    refine lv_ldc (v := 1000000) hx hb hown (hts (.constant RX10 188 1000000) f9_wsX10_view_243) dX10_view_85 ?_
    refine lv_icmp_ne (tgt := 94) hx hb dX10_view_87 (by decide) (fun c9 => ?_) (fun c9 => ?_)
    · rw [if_neg c9] at h
      refine lv_iload_n hx hb dX10_view_94 rfl (lv_at hl 2 rfl) ?_
      exact WX10_view_95 C0  _ _ _ _ _ h hP hD hS (lv_sub hl [] rfl)
    · rw [if_pos c9] at h
      refine lv_iconst (v := (-1)) hx hb dX10_view_90 (by decide) ?_
      refine lv_goto (tgt := 95) hx hb dX10_view_91 (by decide) ?_
      exact WX10_view_95 C0  _ _ _ _ _ h hP hD hS (lv_sub hl [] rfl)
  · rw [if_neg c9] at h
    refine lv_aload_n hx hb dX10_view_39 rfl (lv_at hl 0 rfl) ?_
    refine lv_iload_n hx hb dX10_view_40 rfl (lv_at hl 3 rfl) ?_
    obtain ⟨r1, q3, h2, h⟩ := dB_some h
    refine dw_ki (va_runV (As := [.int x3]) (rest := []) ⟨hx, hb, hml, hown, hts⟩ (qX10_isThere l D ty eo _ ad q x3 r1 q3 h2) (cwV 1 hts gX10_view_X10_isThere rfl rfl rfl hd_X10_isThere_v ⟨Nat.le_of_ble_eq_true rfl, Nat.le_of_ble_eq_true rfl⟩) (pv10_10_0 hK hN hE hP hD hS hA) rfl rfl hl.1 rfl (lv_room (Nat.le_of_ble_eq_true rfl)) dX10_view_41 ⟨Nat.le_of_ble_eq_true rfl, Nat.le_of_ble_eq_true rfl⟩) hD hS hA (fun r9 u9 H locs hw hp hd hs => ?_)
    clear hP hD hS
    obtain ⟨rfl, rfl⟩ := hw
    have hP := hp; have hD := hd; have hS := hs; clear hp hd hs
    refine lv_if_eq (tgt := 78) hx hb dX10_view_44 (by decide) (fun c9 => ?_) (fun c9 => ?_)
    · rw [if_pos c9] at h
      exact WX10_view_78 C0 hk28 _ _ _ _ _ _ _ h hP hD hS (lv_sub hl [0, 1, 2, 3] rfl)
    · rw [if_neg c9] at h
      refine lv_aload_n hx hb dX10_view_47 rfl (lv_at hl 0 rfl) ?_
      refine va_get (D := D) (ci := 10) (v := .ref (ad 16)) (C := RX10) (T := TX10) (N := 56) hx hb hts u9_wsX10_view_X10 hown hK hP 0 rfl rfl 33 (by decide) (hts (.fieldLink RX10 75 "TurnedFloorsModel" "rankAt" "[I") f9_wsX10_view_244) (fun _ h9 => h9) rfl dX10_view_48 ?_
      refine lv_bipush (v := 6) hx hb dX10_view_51 (by decide) ?_
      refine lv_iload_n hx hb dX10_view_53 rfl (lv_at hl 3 rfl) ?_
      refine lv_bipush (v := 64) hx hb dX10_view_54 (by decide) ?_
      refine lv_idiv hx hb dX10_view_56 (by decide) ?_
      refine lv_imul hx hb dX10_view_57 ?_
      obtain ⟨g4, h⟩ := dG_some h
      refine va_iald hx hb hK hP 16 0 rfl rfl (dg_in g4) dX10_view_58 ?_
      obtain ⟨v5, ev5, h⟩ := dL_some h
      refine kz_topi v5 ev5 ?_
      refine lv_aload_n hx hb dX10_view_59 rfl (lv_at hl 0 rfl) ?_
      refine lv_iload_n hx hb dX10_view_60 rfl (lv_at hl 1 rfl) ?_
      obtain ⟨r6, q8, h7, h⟩ := dB_some h
      refine dw_ki (va_runV (As := [.int x1]) (rest := [.int v5]) ⟨hx, hb, hml, hown, hts⟩ (qX10_lessThan l D ty eo _ ad q3 x1 r6 q8 h7) (cwV 1 hts gX10_view_X10_lessThan rfl rfl rfl hd_X10_lessThan_v ⟨Nat.le_of_ble_eq_true rfl, Nat.le_of_ble_eq_true rfl⟩) (pv10_10_0 hK hN hE hP hD hS hA) rfl rfl hl.1 rfl (lv_room (Nat.le_of_ble_eq_true rfl)) dX10_view_61 ⟨Nat.le_of_ble_eq_true rfl, Nat.le_of_ble_eq_true rfl⟩) hD hS hA (fun r9 u9 H locs hw hp hd hs => ?_)
      clear hP hD hS
      obtain ⟨rfl, rfl⟩ := hw
      have hP := hp; have hD := hd; have hS := hs; clear hp hd hs
      refine lv_icmp_ne (tgt := 78) hx hb dX10_view_64 (by decide) (fun c9 => ?_) (fun c9 => ?_)
      · rw [if_neg c9] at h
        exact WX10_view_78 C0 hk28 _ _ _ _ _ _ _ h hP hD hS (lv_sub hl [0, 1, 2, 3] rfl)
      · rw [if_pos c9] at h
        refine lv_iload_n hx hb dX10_view_67 rfl (lv_at hl 2 rfl) ?_
        refine lv_aload_n hx hb dX10_view_68 rfl (lv_at hl 0 rfl) ?_
        refine va_get (D := D) (ci := 10) (v := .ref (ad 21)) (C := RX10) (T := TX10) (N := 56) hx hb hts u9_wsX10_view_X10 hown hK hP 0 rfl rfl 40 (by decide) (hts (.fieldLink RX10 91 "TurnedFloorsModel" "dist" "[I") f9_wsX10_view_245) (fun _ h9 => h9) rfl dX10_view_69 ?_
        refine lv_iload_n hx hb dX10_view_72 rfl (lv_at hl 3 rfl) ?_
        obtain ⟨g9, h⟩ := dG_some h
        refine va_iald hx hb hK hP 21 0 rfl rfl (dg_in g9) dX10_view_73 ?_
        obtain ⟨v10, ev10, h⟩ := dL_some h
        refine kz_topi v10 ev10 ?_
        obtain ⟨r11, h12, h⟩ := dV_some h
        refine dw_ks (va_runS (As := [.int x2, .int v10]) (rest := []) ⟨hx, hb, hml, hown, hts⟩ (qX10_lesser l D ty eo _ x2 v10 _ h12) (va_cwS 2 hts gX10_view_X10_lesser rfl rfl rfl hd_X10_lesser ⟨Nat.le_of_ble_eq_true rfl, Nat.le_of_ble_eq_true rfl⟩) (pvS_0 hK hN hE hP hD hS hA) rfl rfl hl.1 rfl (lv_room (Nat.le_of_ble_eq_true rfl)) dX10_view_74 ⟨Nat.le_of_ble_eq_true rfl, Nat.le_of_ble_eq_true rfl⟩) hP hD hS hA (fun _ _ h9 => h9.2.symm) (fun r9 u9 H locs hw hp hd hs => ?_)
        obtain ⟨rfl, -⟩ := hw
        clear hP hD hS
        have hP := hp; have hD := hd; have hS := hs; clear hp hd hs
        refine lv_istore_n (lv' := [(2, .int r11), (0, .ref (ad 0)), (1, .int x1), (3, .int x3)]) hx hb dX10_view_77 rfl hl (by decide) rfl (fun ls hl => ?_)
        exact WX10_view_78 C0 hk28 _ _ _ _ _ _ _ h hP hD hS (lv_sub hl [1, 2, 0, 3] rfl)
set_option maxHeartbeats 4000000 in
set_option maxRecDepth 100000 in
theorem WX10_view_28 {p : Program} {l : Launch} {e : Env} {s : State} {m : MethodId} {args : Array Value} {below : List Frame} {meth : Method} {c : Code} {D : va_G} {ty : Nat → ClassId} {eo : Nat → Nat} {A : Nat → Prop} {ad : Nat → Nat} {o1 : Int32} {o2 : dS} (C : dc_C p s m args meth c cX10_view (some .int) 4 RX10 wsX10_view D ty eo A)   (n : Nat) (q : dS) (x1 : Int32) (x2 : Int32) (x3 : Int32) (H : Heap) (locs : List Loc) (ls : Array Slot) (h : zX10_view_28  n q x1 x2 x3 = some (o1, o2)) (hP : va_P D vwCl (w10 ty ad q) H) (hD : va_D A (w10 ty ad q)) (hS : va_S A s.heap H locs) (hl : lv_has ls 4 [(0, .ref (ad 0)), (1, .int x1), (2, .int x2), (3, .int x3)]) : W p l e ({ frames := 89, cells := 0, slots := 0, locals := 2271 } : Room) s m args below meth c H locs 0 0 (MQ below (va_Qi (fun (r : Int32) (u : va_W) => o1 = r ∧ w10 ty ad o2 = u) (kz_B D ty A) A) args s 0 0 A) (F0 m 28 ls []) := by
  exact dFix_W (F := fun k (a : dS × Int32 × Int32 × Int32) => zX10_view_28b  (fun q x1 x2 x3 => k (q, x1, x2, x3)) a.1 a.2.1 a.2.2.1 a.2.2.2) (o := (o1, o2)) (P := fun (a : dS × Int32 × Int32 × Int32) H locs ls => va_P D vwCl (w10 ty ad a.1) H ∧ va_D A (w10 ty ad a.1) ∧ va_S A s.heap H locs ∧ lv_has ls 4 [(0, .ref (ad 0)), (1, .int a.2.1), (2, .int a.2.2.1), (3, .int a.2.2.2)]) (G := fun H locs ls => W p l e ({ frames := 89, cells := 0, slots := 0, locals := 2271 } : Room) s m args below meth c H locs 0 0 (MQ below (va_Qi (fun (r : Int32) (u : va_W) => o1 = r ∧ w10 ty ad o2 = u) (kz_B D ty A) A) args s 0 0 A) (F0 m 28 ls []))
    (fun k hk a H locs ls h hp => WX10_view_28b C  (fun q x1 x2 x3 H locs ls h h1 h2 h3 h4 => hk (q, x1, x2, x3) H locs ls h ⟨h1, h2, h3, h4⟩) a.1 a.2.1 a.2.2.1 a.2.2.2 H locs ls h hp.1 hp.2.1 hp.2.2.1 hp.2.2.2) n (q, x1, x2, x3) H locs ls h ⟨hP, hD, hS, hl⟩
set_option maxHeartbeats 4000000 in
set_option maxRecDepth 100000 in
theorem WX10_view_16 {p : Program} {l : Launch} {e : Env} {s : State} {m : MethodId} {args : Array Value} {below : List Frame} {meth : Method} {c : Code} {D : va_G} {ty : Nat → ClassId} {eo : Nat → Nat} {A : Nat → Prop} {ad : Nat → Nat} {o1 : Int32} {o2 : dS} (C : dc_C p s m args meth c cX10_view (some .int) 4 RX10 wsX10_view D ty eo A)   (q : dS)  (H : Heap) (locs : List Loc) (ls : Array Slot) (h : zX10_view_16  q = some (o1, o2)) (hP : va_P D vwCl (w10 ty ad q) H) (hD : va_D A (w10 ty ad q)) (hS : va_S A s.heap H locs) (hl : lv_has ls 4 []) : W p l e ({ frames := 89, cells := 0, slots := 0, locals := 2271 } : Room) s m args below meth c H locs 0 0 (MQ below (va_Qi (fun (r : Int32) (u : va_W) => o1 = r ∧ w10 ty ad o2 = u) (kz_B D ty A) A) args s 0 0 A) (F0 m 16 ls []) := by
  have C0 := C
  obtain ⟨hx, hb, hr, hts, hown, hlocks, hml, hK, hN, hE, hA⟩ := C
  unfold zX10_view_16 at h
  refine lv_iconst (v := (-1)) hx hb dX10_view_16 (by decide) ?_
  cases h
  exact kz_iret hx hb hr hlocks hP hK hD hS dX10_view_17 ⟨rfl, rfl⟩
set_option maxHeartbeats 4000000 in
set_option maxRecDepth 100000 in
theorem qX10_view (l : Launch) (D : va_G) (ty : Nat → ClassId) (eo : Nat → Nat) (sz : Nat) (ad : Nat → Nat) (q : dS) (p1 : Int32) (o1 : Int32) (o2 : dS) (h : zX10_view q p1 = some (o1, o2)) : Met l yX10_view wsX10_view ({ frames := 89, cells := 0, slots := 0, locals := 2271 } : Room) (va_Pc [.ref (ad 0), .int p1] (kz_pre D ty eo (w10 ty ad q) sz)) (va_Qi (fun (r : Int32) (u : va_W) => o1 = r ∧ w10 ty ad o2 = u) (kz_B D ty (va_A (w10 ty ad q) sz)) (va_A (w10 ty ad q) sz)) 0 0 (va_A (w10 ty ad q) sz) := by
  refine Met.ofW (cc := cX10_view) (maxL := 4) (ret := (some .int)) (by decide) rfl ?_
  intro p e s m args below meth c s₁ B hml hv
  obtain ⟨rfl, hsz, hP, hK, hD0, hN, hE⟩ := hv
  have hx := B.exec
  have hb := B.bytes
  have hr := B.returns
  have hts := atoms_spec (ws := wsX10_view) B.pre
  have hown : s.vm.findClass RX10 = some m.cls := findClass_of_methodNamed B.named
  have hlocks := B.notSynchronized
  subst hsz
  have hD := hD0.self (sz := s.heap.size)
  generalize hAe : va_A (w10 ty ad q) s.heap.size = A at hD hE ⊢
  have hA : ∀ q : Nat, s.heap.size ≤ q → A q := fun q h => by rw [← hAe]; exact Or.inr h
  clear hAe
  have hS : va_S A s.heap s.heap [] := va_S.rf
  have hl := lv_entry ([.ref (ad 0), .int p1]) (n := 4) (Nat.le_of_ble_eq_true rfl)
  rw [lg_entry_eq]
  generalize (lg_sl ([.ref (ad 0), .int p1]) ++ List.replicate (4 - (lg_sl ([.ref (ad 0), .int p1])).length) Slot.unset).toArray = ls at hl ⊢
  have hl : lv_has ls 4 [(0, .ref (ad 0)), (1, .int p1)] := hl
  have C : dc_C p s m _ meth c cX10_view (some .int) 4 RX10 wsX10_view D ty eo A := ⟨hx, hb, hr, hts, hown, hlocks, hml, hK, hN, hE, hA⟩
  unfold zX10_view at h
  refine lv_iload_n hx hb dX10_view_0 rfl (lv_at hl 1 rfl) ?_
  obtain ⟨r1, h2, h⟩ := dV_some h
  refine dw_ks (va_runS (As := [.int p1]) (rest := []) ⟨hx, hb, hml, hown, hts⟩ (qX10_isRank l D ty eo _ p1 _ h2) (va_cwS 1 hts gX10_view_X10_isRank rfl rfl rfl hd_X10_isRank ⟨Nat.le_of_ble_eq_true rfl, Nat.le_of_ble_eq_true rfl⟩) (pvS_0 hK hN hE hP hD hS hA) rfl rfl hl.1 rfl (lv_room (Nat.le_of_ble_eq_true rfl)) dX10_view_1 ⟨Nat.le_of_ble_eq_true rfl, Nat.le_of_ble_eq_true rfl⟩) hP hD hS hA (fun _ _ h9 => h9.2.symm) (fun r9 u9 H locs hw hp hd hs => ?_)
  obtain ⟨rfl, -⟩ := hw
  clear hP hD hS
  have hP := hp; have hD := hd; have hS := hs; clear hp hd hs
  refine lv_if_eq (tgt := 16) hx hb dX10_view_4 (by decide) (fun c9 => ?_) (fun c9 => ?_)
  · rw [if_pos c9] at h
    exact WX10_view_16 C  _ _ _ _ h hP hD hS (lv_sub hl [] rfl)
  · rw [if_neg c9] at h
    refine lv_aload_n hx hb dX10_view_7 rfl (lv_at hl 0 rfl) ?_
    refine lv_iload_n hx hb dX10_view_8 rfl (lv_at hl 1 rfl) ?_
    obtain ⟨r3, q5, h4, h⟩ := dB_some h
    refine dw_ki (va_runV (As := [.int p1]) (rest := []) ⟨hx, hb, hml, hown, hts⟩ (qX10_placeOf l D ty eo _ ad q p1 r3 q5 h4) (cwV 1 hts gX10_view_X10_placeOf rfl rfl rfl hd_X10_placeOf_v ⟨Nat.le_of_ble_eq_true rfl, Nat.le_of_ble_eq_true rfl⟩) (pv10_10_0 hK hN hE hP hD hS hA) rfl rfl hl.1 rfl (lv_room (Nat.le_of_ble_eq_true rfl)) dX10_view_9 ⟨Nat.le_of_ble_eq_true rfl, Nat.le_of_ble_eq_true rfl⟩) hD hS hA (fun r9 u9 H locs hw hp hd hs => ?_)
    clear hP hD hS
    obtain ⟨rfl, rfl⟩ := hw
    have hP := hp; have hD := hd; have hS := hs; clear hp hd hs
    refine lv_iconst (v := (-1)) hx hb dX10_view_12 (by decide) ?_
    refine lv_icmp_ne (tgt := 18) hx hb dX10_view_13 (by decide) (fun c9 => ?_) (fun c9 => ?_)
    · rw [if_neg c9] at h
      refine lv_aload_n hx hb dX10_view_18 rfl (lv_at hl 0 rfl) ?_
      obtain ⟨r6, q8, h7, h⟩ := dB_some h
      refine dw_ki (va_runV (As := []) (rest := []) ⟨hx, hb, hml, hown, hts⟩ (qX10_laysReach l D ty eo _ ad q5  r6 q8 h7) (cwV 0 hts gX10_view_X10_laysReach rfl rfl rfl hd_X10_laysReach_v ⟨Nat.le_of_ble_eq_true rfl, Nat.le_of_ble_eq_true rfl⟩) (pv10_10_0 hK hN hE hP hD hS hA) rfl rfl hl.1 rfl (lv_room (Nat.le_of_ble_eq_true rfl)) dX10_view_19 ⟨Nat.le_of_ble_eq_true rfl, Nat.le_of_ble_eq_true rfl⟩) hD hS hA (fun r9 u9 H locs hw hp hd hs => ?_)
      clear hP hD hS
      obtain ⟨rfl, rfl⟩ := hw
      have hP := hp; have hD := hd; have hS := hs; clear hp hd hs
      refine lv_pop hx hb dX10_view_22 rfl ?_
      refine lv_ldc (v := 1000000) hx hb hown (hts (.constant RX10 188 1000000) f9_wsX10_view_243) dX10_view_23 ?_
      refine lv_istore_n (lv' := [(2, .int 1000000), (0, .ref (ad 0)), (1, .int p1)]) hx hb dX10_view_25 rfl hl (by decide) rfl (fun ls hl => ?_)
      refine lv_iconst (v := 0) hx hb dX10_view_26 (by decide) ?_
      refine lv_istore_n (lv' := [(3, .int 0), (2, .int 1000000), (0, .ref (ad 0)), (1, .int p1)]) hx hb dX10_view_27 rfl hl (by decide) rfl (fun ls hl => ?_)
      exact WX10_view_28 C  _ _ _ _ _ _ _ _ h hP hD hS (lv_sub hl [2, 3, 1, 0] rfl)
    · rw [if_pos c9] at h
      exact WX10_view_16 C  _ _ _ _ h hP hD hS (lv_sub hl [] rfl)

set_option maxHeartbeats 4000000 in
set_option maxRecDepth 100000 in
theorem WX10_canStay_84 {p : Program} {l : Launch} {e : Env} {s : State} {m : MethodId} {args : Array Value} {below : List Frame} {meth : Method} {c : Code} {D : va_G} {ty : Nat → ClassId} {eo : Nat → Nat} {A : Nat → Prop} {ad : Nat → Nat} {o1 : Int32} {o2 : dS} (C : dc_C p s m args meth c cX10_canStay (some .boolean) 5 RX10 wsX10_canStay D ty eo A) {k7 : dS → Int32 → Int32 → Int32 → Int32 → Option (Int32 × dS)} (hk7 : ∀ (q : dS) (x1 : Int32) (x2 : Int32) (x3 : Int32) (x4 : Int32) (H : Heap) (locs : List Loc) (ls : Array Slot), k7 q x1 x2 x3 x4 = some (o1, o2) → va_P D vwCl (w10 ty ad q) H → va_D A (w10 ty ad q) → va_S A s.heap H locs → lv_has ls 5 [(0, .ref (ad 0)), (1, .int x1), (2, .int x2), (3, .int x3), (4, .int x4)] → W p l e ({ frames := 1, cells := 0, slots := 0, locals := 21 } : Room) s m args below meth c H locs 0 0 (MQ below (va_Qi (fun (r : Int32) (u : va_W) => o1 = r ∧ w10 ty ad o2 = u) (kz_B D ty A) A) args s 0 0 A) (F0 m 7 ls [])) (q : dS) (x1 : Int32) (x2 : Int32) (x3 : Int32) (x4 : Int32) (H : Heap) (locs : List Loc) (ls : Array Slot) (h : zX10_canStay_84 k7 q x1 x2 x3 x4 = some (o1, o2)) (hP : va_P D vwCl (w10 ty ad q) H) (hD : va_D A (w10 ty ad q)) (hS : va_S A s.heap H locs) (hl : lv_has ls 5 [(0, .ref (ad 0)), (1, .int x1), (2, .int x2), (3, .int x3), (4, .int x4)]) : W p l e ({ frames := 1, cells := 0, slots := 0, locals := 21 } : Room) s m args below meth c H locs 0 0 (MQ below (va_Qi (fun (r : Int32) (u : va_W) => o1 = r ∧ w10 ty ad o2 = u) (kz_B D ty A) A) args s 0 0 A) (F0 m 84 ls []) := by
  have C0 := C
  obtain ⟨hx, hb, hr, hts, hown, hlocks, hml, hK, hN, hE, hA⟩ := C
  unfold zX10_canStay_84 at h
  refine lv_iinc (v := x4 + 1) (lv' := [(4, .int (x4 + 1)), (0, .ref (ad 0)), (1, .int x1), (2, .int x2), (3, .int x3)]) hx hb dX10_canStay_84 hl (k := 4) rfl rfl (by decide) rfl (fun ls hl => ?_)
  refine lv_goto (tgt := 7) hx hb dX10_canStay_87 (by decide) ?_
  exact hk7 _ _ _ _ _ _ _ _ h hP hD hS (lv_sub hl [1, 2, 3, 4, 0] rfl)
set_option maxHeartbeats 4000000 in
set_option maxRecDepth 100000 in
theorem WX10_canStay_73 {p : Program} {l : Launch} {e : Env} {s : State} {m : MethodId} {args : Array Value} {below : List Frame} {meth : Method} {c : Code} {D : va_G} {ty : Nat → ClassId} {eo : Nat → Nat} {A : Nat → Prop} {ad : Nat → Nat} {o1 : Int32} {o2 : dS} (C : dc_C p s m args meth c cX10_canStay (some .boolean) 5 RX10 wsX10_canStay D ty eo A) {k7 : dS → Int32 → Int32 → Int32 → Int32 → Option (Int32 × dS)} (hk7 : ∀ (q : dS) (x1 : Int32) (x2 : Int32) (x3 : Int32) (x4 : Int32) (H : Heap) (locs : List Loc) (ls : Array Slot), k7 q x1 x2 x3 x4 = some (o1, o2) → va_P D vwCl (w10 ty ad q) H → va_D A (w10 ty ad q) → va_S A s.heap H locs → lv_has ls 5 [(0, .ref (ad 0)), (1, .int x1), (2, .int x2), (3, .int x3), (4, .int x4)] → W p l e ({ frames := 1, cells := 0, slots := 0, locals := 21 } : Room) s m args below meth c H locs 0 0 (MQ below (va_Qi (fun (r : Int32) (u : va_W) => o1 = r ∧ w10 ty ad o2 = u) (kz_B D ty A) A) args s 0 0 A) (F0 m 7 ls [])) (q : dS) (x1 : Int32) (x4 : Int32) (y0 : Int32) (H : Heap) (locs : List Loc) (ls : Array Slot) (h : zX10_canStay_73 k7 q x1 x4 y0 = some (o1, o2)) (hP : va_P D vwCl (w10 ty ad q) H) (hD : va_D A (w10 ty ad q)) (hS : va_S A s.heap H locs) (hl : lv_has ls 5 [(0, .ref (ad 0)), (1, .int x1), (4, .int x4)]) : W p l e ({ frames := 1, cells := 0, slots := 0, locals := 21 } : Room) s m args below meth c H locs 0 0 (MQ below (va_Qi (fun (r : Int32) (u : va_W) => o1 = r ∧ w10 ty ad o2 = u) (kz_B D ty A) A) args s 0 0 A) (F0 m 73 ls [.int y0]) := by
  have C0 := C
  obtain ⟨hx, hb, hr, hts, hown, hlocks, hml, hK, hN, hE, hA⟩ := C
  unfold zX10_canStay_73 at h
  refine lv_istore_n (lv' := [(3, .int y0), (0, .ref (ad 0)), (1, .int x1), (4, .int x4)]) hx hb dX10_canStay_73 rfl hl (by decide) rfl (fun ls hl => ?_)
  refine lv_aload_n hx hb dX10_canStay_74 rfl (lv_at hl 1 rfl) ?_
  refine va_get (D := D) (ci := 10) (v := .ref (ad 2)) (C := RX10) (T := TX10) (N := 56) hx hb hts u9_wsX10_canStay_X10 hown hK hP 0 rfl rfl 2 (by decide) (hts (.fieldLink RX10 28 "TurnedFloorsModel" "kept" "[I") f9_wsX10_canStay_247) (fun _ h9 => h9) rfl dX10_canStay_75 ?_
  refine lv_iconst (v := 0) hx hb dX10_canStay_78 (by decide) ?_
  refine lv_iload hx hb dX10_canStay_79 (lv_at hl 3 rfl) ?_
  refine lv_iadd hx hb dX10_canStay_81 ?_
  obtain ⟨g1, h⟩ := dG_some h
  refine va_iald hx hb hK hP 2 0 rfl rfl (dg_in g1) dX10_canStay_82 ?_
  obtain ⟨v2, ev2, h⟩ := dL_some h
  refine kz_topi v2 ev2 ?_
  refine lv_istore_n (lv' := [(2, .int v2), (3, .int y0), (0, .ref (ad 0)), (1, .int x1), (4, .int x4)]) hx hb dX10_canStay_83 rfl hl (by decide) rfl (fun ls hl => ?_)
  exact WX10_canStay_84 C0 hk7 _ _ _ _ _ _ _ _ h hP hD hS (lv_sub hl [2, 3, 0, 1, 4] rfl)
set_option maxHeartbeats 4000000 in
set_option maxRecDepth 100000 in
theorem WX10_canStay_72 {p : Program} {l : Launch} {e : Env} {s : State} {m : MethodId} {args : Array Value} {below : List Frame} {meth : Method} {c : Code} {D : va_G} {ty : Nat → ClassId} {eo : Nat → Nat} {A : Nat → Prop} {ad : Nat → Nat} {o1 : Int32} {o2 : dS} (C : dc_C p s m args meth c cX10_canStay (some .boolean) 5 RX10 wsX10_canStay D ty eo A) {k7 : dS → Int32 → Int32 → Int32 → Int32 → Option (Int32 × dS)} (hk7 : ∀ (q : dS) (x1 : Int32) (x2 : Int32) (x3 : Int32) (x4 : Int32) (H : Heap) (locs : List Loc) (ls : Array Slot), k7 q x1 x2 x3 x4 = some (o1, o2) → va_P D vwCl (w10 ty ad q) H → va_D A (w10 ty ad q) → va_S A s.heap H locs → lv_has ls 5 [(0, .ref (ad 0)), (1, .int x1), (2, .int x2), (3, .int x3), (4, .int x4)] → W p l e ({ frames := 1, cells := 0, slots := 0, locals := 21 } : Room) s m args below meth c H locs 0 0 (MQ below (va_Qi (fun (r : Int32) (u : va_W) => o1 = r ∧ w10 ty ad o2 = u) (kz_B D ty A) A) args s 0 0 A) (F0 m 7 ls [])) (q : dS) (x1 : Int32) (x4 : Int32) (H : Heap) (locs : List Loc) (ls : Array Slot) (h : zX10_canStay_72 k7 q x1 x4 = some (o1, o2)) (hP : va_P D vwCl (w10 ty ad q) H) (hD : va_D A (w10 ty ad q)) (hS : va_S A s.heap H locs) (hl : lv_has ls 5 [(0, .ref (ad 0)), (1, .int x1), (4, .int x4)]) : W p l e ({ frames := 1, cells := 0, slots := 0, locals := 21 } : Room) s m args below meth c H locs 0 0 (MQ below (va_Qi (fun (r : Int32) (u : va_W) => o1 = r ∧ w10 ty ad o2 = u) (kz_B D ty A) A) args s 0 0 A) (F0 m 72 ls []) := by
  have C0 := C
  obtain ⟨hx, hb, hr, hts, hown, hlocks, hml, hK, hN, hE, hA⟩ := C
  unfold zX10_canStay_72 at h
  refine lv_iconst (v := 0) hx hb dX10_canStay_72 (by decide) ?_
  exact WX10_canStay_73 C0 hk7 _ _ _ _ _ _ _ h hP hD hS (lv_sub hl [0, 1, 2] rfl)
set_option maxHeartbeats 4000000 in
set_option maxRecDepth 100000 in
theorem WX10_canStay_68 {p : Program} {l : Launch} {e : Env} {s : State} {m : MethodId} {args : Array Value} {below : List Frame} {meth : Method} {c : Code} {D : va_G} {ty : Nat → ClassId} {eo : Nat → Nat} {A : Nat → Prop} {ad : Nat → Nat} {o1 : Int32} {o2 : dS} (C : dc_C p s m args meth c cX10_canStay (some .boolean) 5 RX10 wsX10_canStay D ty eo A) {k7 : dS → Int32 → Int32 → Int32 → Int32 → Option (Int32 × dS)} (hk7 : ∀ (q : dS) (x1 : Int32) (x2 : Int32) (x3 : Int32) (x4 : Int32) (H : Heap) (locs : List Loc) (ls : Array Slot), k7 q x1 x2 x3 x4 = some (o1, o2) → va_P D vwCl (w10 ty ad q) H → va_D A (w10 ty ad q) → va_S A s.heap H locs → lv_has ls 5 [(0, .ref (ad 0)), (1, .int x1), (2, .int x2), (3, .int x3), (4, .int x4)] → W p l e ({ frames := 1, cells := 0, slots := 0, locals := 21 } : Room) s m args below meth c H locs 0 0 (MQ below (va_Qi (fun (r : Int32) (u : va_W) => o1 = r ∧ w10 ty ad o2 = u) (kz_B D ty A) A) args s 0 0 A) (F0 m 7 ls [])) (q : dS) (x1 : Int32) (x4 : Int32) (H : Heap) (locs : List Loc) (ls : Array Slot) (h : zX10_canStay_68 k7 q x1 x4 = some (o1, o2)) (hP : va_P D vwCl (w10 ty ad q) H) (hD : va_D A (w10 ty ad q)) (hS : va_S A s.heap H locs) (hl : lv_has ls 5 [(0, .ref (ad 0)), (1, .int x1), (4, .int x4)]) : W p l e ({ frames := 1, cells := 0, slots := 0, locals := 21 } : Room) s m args below meth c H locs 0 0 (MQ below (va_Qi (fun (r : Int32) (u : va_W) => o1 = r ∧ w10 ty ad o2 = u) (kz_B D ty A) A) args s 0 0 A) (F0 m 68 ls []) := by
  have C0 := C
  obtain ⟨hx, hb, hr, hts, hown, hlocks, hml, hK, hN, hE, hA⟩ := C
  unfold zX10_canStay_68 at h
  refine lv_iconst (v := 1) hx hb dX10_canStay_68 (by decide) ?_
  refine lv_goto (tgt := 73) hx hb dX10_canStay_69 (by decide) ?_
  exact WX10_canStay_73 C0 hk7 _ _ _ _ _ _ _ h hP hD hS (lv_sub hl [0, 1, 2] rfl)
set_option maxHeartbeats 4000000 in
set_option maxRecDepth 100000 in
theorem WX10_canStay_7b {p : Program} {l : Launch} {e : Env} {s : State} {m : MethodId} {args : Array Value} {below : List Frame} {meth : Method} {c : Code} {D : va_G} {ty : Nat → ClassId} {eo : Nat → Nat} {A : Nat → Prop} {ad : Nat → Nat} {o1 : Int32} {o2 : dS} (C : dc_C p s m args meth c cX10_canStay (some .boolean) 5 RX10 wsX10_canStay D ty eo A) {k7 : dS → Int32 → Int32 → Int32 → Int32 → Option (Int32 × dS)} (hk7 : ∀ (q : dS) (x1 : Int32) (x2 : Int32) (x3 : Int32) (x4 : Int32) (H : Heap) (locs : List Loc) (ls : Array Slot), k7 q x1 x2 x3 x4 = some (o1, o2) → va_P D vwCl (w10 ty ad q) H → va_D A (w10 ty ad q) → va_S A s.heap H locs → lv_has ls 5 [(0, .ref (ad 0)), (1, .int x1), (2, .int x2), (3, .int x3), (4, .int x4)] → W p l e ({ frames := 1, cells := 0, slots := 0, locals := 21 } : Room) s m args below meth c H locs 0 0 (MQ below (va_Qi (fun (r : Int32) (u : va_W) => o1 = r ∧ w10 ty ad o2 = u) (kz_B D ty A) A) args s 0 0 A) (F0 m 7 ls [])) (q : dS) (x1 : Int32) (x2 : Int32) (x3 : Int32) (x4 : Int32) (H : Heap) (locs : List Loc) (ls : Array Slot) (h : zX10_canStay_7b k7 q x1 x2 x3 x4 = some (o1, o2)) (hP : va_P D vwCl (w10 ty ad q) H) (hD : va_D A (w10 ty ad q)) (hS : va_S A s.heap H locs) (hl : lv_has ls 5 [(0, .ref (ad 0)), (1, .int x1), (2, .int x2), (3, .int x3), (4, .int x4)]) : W p l e ({ frames := 1, cells := 0, slots := 0, locals := 21 } : Room) s m args below meth c H locs 0 0 (MQ below (va_Qi (fun (r : Int32) (u : va_W) => o1 = r ∧ w10 ty ad o2 = u) (kz_B D ty A) A) args s 0 0 A) (F0 m 7 ls []) := by
  have C0 := C
  obtain ⟨hx, hb, hr, hts, hown, hlocks, hml, hK, hN, hE, hA⟩ := C
  unfold zX10_canStay_7b at h
  refine lv_iload hx hb dX10_canStay_7 (lv_at hl 4 rfl) ?_
  refine lv_aload_n hx hb dX10_canStay_9 rfl (lv_at hl 0 rfl) ?_
  obtain ⟨r1, q3, h2, h⟩ := dB_some h
  refine dw_ki (va_runV (As := []) (rest := [.int x4]) ⟨hx, hb, hml, hown, hts⟩ (qX10_size l D ty eo _ ad q  r1 q3 h2) (cwV 0 hts gX10_canStay_X10_size rfl rfl rfl hd_X10_size_v ⟨Nat.le_of_ble_eq_true rfl, Nat.le_of_ble_eq_true rfl⟩) (pv10_10_0 hK hN hE hP hD hS hA) rfl rfl hl.1 rfl (lv_room (Nat.le_of_ble_eq_true rfl)) dX10_canStay_10 ⟨Nat.le_of_ble_eq_true rfl, Nat.le_of_ble_eq_true rfl⟩) hD hS hA (fun r9 u9 H locs hw hp hd hs => ?_)
  clear hP hD hS
  obtain ⟨rfl, rfl⟩ := hw
  have hP := hp; have hD := hd; have hS := hs; clear hp hd hs
  refine lv_icmp_ge (tgt := 90) hx hb dX10_canStay_13 (by decide) (fun c9 => ?_) (fun c9 => ?_)
  · rw [if_pos c9] at h
    refine lv_iload_n hx hb dX10_canStay_90 rfl (lv_at hl 3 rfl) ?_
    obtain ⟨g4, h⟩ := dG_some h
    cases h
    exact kz_zret hx hb hr hlocks (dbl_nar g4) hP hK hD hS dX10_canStay_91 ⟨rfl, rfl⟩
  · rw [if_neg c9] at h
    refine lv_iload_n hx hb dX10_canStay_16 rfl (lv_at hl 1 rfl) ?_
    refine lv_iload hx hb dX10_canStay_17 (lv_at hl 4 rfl) ?_
    obtain ⟨r5, h6, h⟩ := dV_some h
    refine dw_ks (va_runS (As := [.int x1, .int x4]) (rest := []) ⟨hx, hb, hml, hown, hts⟩ (qX10_isIn l D ty eo _ x1 x4 _ h6) (va_cwS 2 hts gX10_canStay_X10_isIn rfl rfl rfl hd_X10_isIn ⟨Nat.le_of_ble_eq_true rfl, Nat.le_of_ble_eq_true rfl⟩) (pvS_0 hK hN hE hP hD hS hA) rfl rfl hl.1 rfl (lv_room (Nat.le_of_ble_eq_true rfl)) dX10_canStay_19 ⟨Nat.le_of_ble_eq_true rfl, Nat.le_of_ble_eq_true rfl⟩) hP hD hS hA (fun _ _ h9 => h9.2.symm) (fun r9 u9 H locs hw hp hd hs => ?_)
    obtain ⟨rfl, -⟩ := hw
    clear hP hD hS
    have hP := hp; have hD := hd; have hS := hs; clear hp hd hs
    refine lv_if_ne (tgt := 28) hx hb dX10_canStay_22 (by decide) (fun c9 => ?_) (fun c9 => ?_)
    · rw [if_neg c9] at h
      refine lv_iload_n hx hb dX10_canStay_28 rfl (lv_at hl 3 rfl) ?_
      refine lv_if_eq (tgt := 72) hx hb dX10_canStay_29 (by decide) (fun c9 => ?_) (fun c9 => ?_)
      · rw [if_pos c9] at h
        exact WX10_canStay_72 C0 hk7 _ _ _ _ _ _ h hP hD hS (lv_sub hl [0, 1, 4] rfl)
      · rw [if_neg c9] at h
        refine lv_aload_n hx hb dX10_canStay_32 rfl (lv_at hl 0 rfl) ?_
        refine va_get (D := D) (ci := 10) (v := .ref (ad 2)) (C := RX10) (T := TX10) (N := 56) hx hb hts u9_wsX10_canStay_X10 hown hK hP 0 rfl rfl 2 (by decide) (hts (.fieldLink RX10 28 "TurnedFloorsModel" "kept" "[I") f9_wsX10_canStay_247) (fun _ h9 => h9) rfl dX10_canStay_33 ?_
        refine lv_iconst (v := 0) hx hb dX10_canStay_36 (by decide) ?_
        refine lv_iload hx hb dX10_canStay_37 (lv_at hl 4 rfl) ?_
        refine lv_iadd hx hb dX10_canStay_39 ?_
        obtain ⟨g7, h⟩ := dG_some h
        refine va_iald hx hb hK hP 2 0 rfl rfl (dg_in g7) dX10_canStay_40 ?_
        obtain ⟨v8, ev8, h⟩ := dL_some h
        refine kz_topi v8 ev8 ?_
        refine lv_iload_n hx hb dX10_canStay_41 rfl (lv_at hl 2 rfl) ?_
        refine lv_icmp_le (tgt := 72) hx hb dX10_canStay_42 (by decide) (fun c9 => ?_) (fun c9 => ?_)
        · rw [if_pos c9] at h
          exact WX10_canStay_72 C0 hk7 _ _ _ _ _ _ h hP hD hS (lv_sub hl [0, 1, 4] rfl)
        · rw [if_neg c9] at h
          refine lv_aload_n hx hb dX10_canStay_45 rfl (lv_at hl 0 rfl) ?_
          refine va_get (D := D) (ci := 10) (v := .ref (ad 2)) (C := RX10) (T := TX10) (N := 56) hx hb hts u9_wsX10_canStay_X10 hown hK hP 0 rfl rfl 2 (by decide) (hts (.fieldLink RX10 28 "TurnedFloorsModel" "kept" "[I") f9_wsX10_canStay_247) (fun _ h9 => h9) rfl dX10_canStay_46 ?_
          refine lv_bipush (v := 28) hx hb dX10_canStay_49 (by decide) ?_
          refine va_iald hx hb hK hP 2 0 rfl rfl (by simp only [vp_in]; decide) dX10_canStay_51 ?_
          refine kz_topi (q3.1 2 28) (congrArg (q3.1 2) (by decide +kernel : Int32.toNatClampNeg 28 = 28)) ?_
          refine lv_if_eq (tgt := 68) hx hb dX10_canStay_52 (by decide) (fun c9 => ?_) (fun c9 => ?_)
          · rw [if_pos c9] at h
            exact WX10_canStay_68 C0 hk7 _ _ _ _ _ _ h hP hD hS (lv_sub hl [0, 1, 4] rfl)
          · rw [if_neg c9] at h
            refine lv_aload_n hx hb dX10_canStay_55 rfl (lv_at hl 0 rfl) ?_
            refine va_get (D := D) (ci := 10) (v := .ref (ad 2)) (C := RX10) (T := TX10) (N := 56) hx hb hts u9_wsX10_canStay_X10 hown hK hP 0 rfl rfl 2 (by decide) (hts (.fieldLink RX10 28 "TurnedFloorsModel" "kept" "[I") f9_wsX10_canStay_247) (fun _ h9 => h9) rfl dX10_canStay_56 ?_
            refine lv_bipush (v := 6) hx hb dX10_canStay_59 (by decide) ?_
            refine lv_iload hx hb dX10_canStay_61 (lv_at hl 4 rfl) ?_
            refine lv_iadd hx hb dX10_canStay_63 ?_
            obtain ⟨g9, h⟩ := dG_some h
            refine va_iald hx hb hK hP 2 0 rfl rfl (dg_in g9) dX10_canStay_64 ?_
            obtain ⟨v10, ev10, h⟩ := dL_some h
            refine kz_topi v10 ev10 ?_
            refine lv_if_ne (tgt := 72) hx hb dX10_canStay_65 (by decide) (fun c9 => ?_) (fun c9 => ?_)
            · rw [if_neg c9] at h
              exact WX10_canStay_72 C0 hk7 _ _ _ _ _ _ h hP hD hS (lv_sub hl [0, 1, 4] rfl)
            · rw [if_pos c9] at h
              exact WX10_canStay_68 C0 hk7 _ _ _ _ _ _ h hP hD hS (lv_sub hl [0, 1, 4] rfl)
    · rw [if_pos c9] at h
      refine lv_goto (tgt := 84) hx hb dX10_canStay_25 (by decide) ?_
      exact WX10_canStay_84 C0 hk7 _ _ _ _ _ _ _ _ h hP hD hS (lv_sub hl [0, 1, 2, 3, 4] rfl)
set_option maxHeartbeats 4000000 in
set_option maxRecDepth 100000 in
theorem WX10_canStay_7 {p : Program} {l : Launch} {e : Env} {s : State} {m : MethodId} {args : Array Value} {below : List Frame} {meth : Method} {c : Code} {D : va_G} {ty : Nat → ClassId} {eo : Nat → Nat} {A : Nat → Prop} {ad : Nat → Nat} {o1 : Int32} {o2 : dS} (C : dc_C p s m args meth c cX10_canStay (some .boolean) 5 RX10 wsX10_canStay D ty eo A)   (n : Nat) (q : dS) (x1 : Int32) (x2 : Int32) (x3 : Int32) (x4 : Int32) (H : Heap) (locs : List Loc) (ls : Array Slot) (h : zX10_canStay_7  n q x1 x2 x3 x4 = some (o1, o2)) (hP : va_P D vwCl (w10 ty ad q) H) (hD : va_D A (w10 ty ad q)) (hS : va_S A s.heap H locs) (hl : lv_has ls 5 [(0, .ref (ad 0)), (1, .int x1), (2, .int x2), (3, .int x3), (4, .int x4)]) : W p l e ({ frames := 1, cells := 0, slots := 0, locals := 21 } : Room) s m args below meth c H locs 0 0 (MQ below (va_Qi (fun (r : Int32) (u : va_W) => o1 = r ∧ w10 ty ad o2 = u) (kz_B D ty A) A) args s 0 0 A) (F0 m 7 ls []) := by
  exact dFix_W (F := fun k (a : dS × Int32 × Int32 × Int32 × Int32) => zX10_canStay_7b  (fun q x1 x2 x3 x4 => k (q, x1, x2, x3, x4)) a.1 a.2.1 a.2.2.1 a.2.2.2.1 a.2.2.2.2) (o := (o1, o2)) (P := fun (a : dS × Int32 × Int32 × Int32 × Int32) H locs ls => va_P D vwCl (w10 ty ad a.1) H ∧ va_D A (w10 ty ad a.1) ∧ va_S A s.heap H locs ∧ lv_has ls 5 [(0, .ref (ad 0)), (1, .int a.2.1), (2, .int a.2.2.1), (3, .int a.2.2.2.1), (4, .int a.2.2.2.2)]) (G := fun H locs ls => W p l e ({ frames := 1, cells := 0, slots := 0, locals := 21 } : Room) s m args below meth c H locs 0 0 (MQ below (va_Qi (fun (r : Int32) (u : va_W) => o1 = r ∧ w10 ty ad o2 = u) (kz_B D ty A) A) args s 0 0 A) (F0 m 7 ls []))
    (fun k hk a H locs ls h hp => WX10_canStay_7b C  (fun q x1 x2 x3 x4 H locs ls h h1 h2 h3 h4 => hk (q, x1, x2, x3, x4) H locs ls h ⟨h1, h2, h3, h4⟩) a.1 a.2.1 a.2.2.1 a.2.2.2.1 a.2.2.2.2 H locs ls h hp.1 hp.2.1 hp.2.2.1 hp.2.2.2) n (q, x1, x2, x3, x4) H locs ls h ⟨hP, hD, hS, hl⟩
set_option maxHeartbeats 4000000 in
set_option maxRecDepth 100000 in
theorem qX10_canStay (l : Launch) (D : va_G) (ty : Nat → ClassId) (eo : Nat → Nat) (sz : Nat) (ad : Nat → Nat) (q : dS) (p1 : Int32) (o1 : Int32) (o2 : dS) (h : zX10_canStay q p1 = some (o1, o2)) : Met l yX10_canStay wsX10_canStay ({ frames := 1, cells := 0, slots := 0, locals := 21 } : Room) (va_Pc [.ref (ad 0), .int p1] (kz_pre D ty eo (w10 ty ad q) sz)) (va_Qi (fun (r : Int32) (u : va_W) => o1 = r ∧ w10 ty ad o2 = u) (kz_B D ty (va_A (w10 ty ad q) sz)) (va_A (w10 ty ad q) sz)) 0 0 (va_A (w10 ty ad q) sz) := by
  refine Met.ofW (cc := cX10_canStay) (maxL := 5) (ret := (some .boolean)) (by decide) rfl ?_
  intro p e s m args below meth c s₁ B hml hv
  obtain ⟨rfl, hsz, hP, hK, hD0, hN, hE⟩ := hv
  have hx := B.exec
  have hb := B.bytes
  have hr := B.returns
  have hts := atoms_spec (ws := wsX10_canStay) B.pre
  have hown : s.vm.findClass RX10 = some m.cls := findClass_of_methodNamed B.named
  have hlocks := B.notSynchronized
  subst hsz
  have hD := hD0.self (sz := s.heap.size)
  generalize hAe : va_A (w10 ty ad q) s.heap.size = A at hD hE ⊢
  have hA : ∀ q : Nat, s.heap.size ≤ q → A q := fun q h => by rw [← hAe]; exact Or.inr h
  clear hAe
  have hS : va_S A s.heap s.heap [] := va_S.rf
  have hl := lv_entry ([.ref (ad 0), .int p1]) (n := 5) (Nat.le_of_ble_eq_true rfl)
  rw [lg_entry_eq]
  generalize (lg_sl ([.ref (ad 0), .int p1]) ++ List.replicate (5 - (lg_sl ([.ref (ad 0), .int p1])).length) Slot.unset).toArray = ls at hl ⊢
  have hl : lv_has ls 5 [(0, .ref (ad 0)), (1, .int p1)] := hl
  have C : dc_C p s m _ meth c cX10_canStay (some .boolean) 5 RX10 wsX10_canStay D ty eo A := ⟨hx, hb, hr, hts, hown, hlocks, hml, hK, hN, hE, hA⟩
  unfold zX10_canStay at h
  refine lv_iconst (v := (-1)) hx hb dX10_canStay_0 (by decide) ?_
  refine lv_istore_n (lv' := [(2, .int (-1)), (0, .ref (ad 0)), (1, .int p1)]) hx hb dX10_canStay_1 rfl hl (by decide) rfl (fun ls hl => ?_)
  refine lv_iconst (v := 1) hx hb dX10_canStay_2 (by decide) ?_
  refine lv_istore_n (lv' := [(3, .int 1), (2, .int (-1)), (0, .ref (ad 0)), (1, .int p1)]) hx hb dX10_canStay_3 rfl hl (by decide) rfl (fun ls hl => ?_)
  refine lv_iconst (v := 0) hx hb dX10_canStay_4 (by decide) ?_
  refine lv_istore (lv' := [(4, .int 0), (3, .int 1), (2, .int (-1)), (0, .ref (ad 0)), (1, .int p1)]) hx hb dX10_canStay_5 hl (by decide) rfl (fun ls hl => ?_)
  exact WX10_canStay_7 C  _ _ _ _ _ _ _ _ _ h hP hD hS (lv_sub hl [3, 4, 2, 1, 0] rfl)

set_option maxHeartbeats 4000000 in
set_option maxRecDepth 100000 in
theorem WX10_stays_64 {p : Program} {l : Launch} {e : Env} {s : State} {m : MethodId} {args : Array Value} {below : List Frame} {meth : Method} {c : Code} {D : va_G} {ty : Nat → ClassId} {eo : Nat → Nat} {A : Nat → Prop} {ad : Nat → Nat} {o1 : Int32} {o2 : dS} (C : dc_C p s m args meth c cX10_stays (some .int) 4 RX10 wsX10_stays D ty eo A)   (q : dS) (y0 : Int32) (H : Heap) (locs : List Loc) (ls : Array Slot) (h : zX10_stays_64  q y0 = some (o1, o2)) (hP : va_P D vwCl (w10 ty ad q) H) (hD : va_D A (w10 ty ad q)) (hS : va_S A s.heap H locs) (hl : lv_has ls 4 []) : W p l e ({ frames := 2, cells := 0, slots := 0, locals := 45 } : Room) s m args below meth c H locs 0 0 (MQ below (va_Qi (fun (r : Int32) (u : va_W) => o1 = r ∧ w10 ty ad o2 = u) (kz_B D ty A) A) args s 0 0 A) (F0 m 64 ls [.int y0]) := by
  have C0 := C
  obtain ⟨hx, hb, hr, hts, hown, hlocks, hml, hK, hN, hE, hA⟩ := C
  unfold zX10_stays_64 at h
  cases h
  exact kz_iret hx hb hr hlocks hP hK hD hS dX10_stays_64 ⟨rfl, rfl⟩
set_option maxHeartbeats 4000000 in
set_option maxRecDepth 100000 in
theorem WX10_stays_46 {p : Program} {l : Launch} {e : Env} {s : State} {m : MethodId} {args : Array Value} {below : List Frame} {meth : Method} {c : Code} {D : va_G} {ty : Nat → ClassId} {eo : Nat → Nat} {A : Nat → Prop} {ad : Nat → Nat} {o1 : Int32} {o2 : dS} (C : dc_C p s m args meth c cX10_stays (some .int) 4 RX10 wsX10_stays D ty eo A) {k15 : dS → Int32 → Int32 → Int32 → Option (Int32 × dS)} (hk15 : ∀ (q : dS) (x1 : Int32) (x2 : Int32) (x3 : Int32) (H : Heap) (locs : List Loc) (ls : Array Slot), k15 q x1 x2 x3 = some (o1, o2) → va_P D vwCl (w10 ty ad q) H → va_D A (w10 ty ad q) → va_S A s.heap H locs → lv_has ls 4 [(0, .ref (ad 0)), (1, .int x1), (2, .int x2), (3, .int x3)] → W p l e ({ frames := 2, cells := 0, slots := 0, locals := 45 } : Room) s m args below meth c H locs 0 0 (MQ below (va_Qi (fun (r : Int32) (u : va_W) => o1 = r ∧ w10 ty ad o2 = u) (kz_B D ty A) A) args s 0 0 A) (F0 m 15 ls [])) (q : dS) (x1 : Int32) (x2 : Int32) (x3 : Int32) (H : Heap) (locs : List Loc) (ls : Array Slot) (h : zX10_stays_46 k15 q x1 x2 x3 = some (o1, o2)) (hP : va_P D vwCl (w10 ty ad q) H) (hD : va_D A (w10 ty ad q)) (hS : va_S A s.heap H locs) (hl : lv_has ls 4 [(0, .ref (ad 0)), (1, .int x1), (2, .int x2), (3, .int x3)]) : W p l e ({ frames := 2, cells := 0, slots := 0, locals := 45 } : Room) s m args below meth c H locs 0 0 (MQ below (va_Qi (fun (r : Int32) (u : va_W) => o1 = r ∧ w10 ty ad o2 = u) (kz_B D ty A) A) args s 0 0 A) (F0 m 46 ls []) := by
  have C0 := C
  obtain ⟨hx, hb, hr, hts, hown, hlocks, hml, hK, hN, hE, hA⟩ := C
  unfold zX10_stays_46 at h
  refine lv_iinc (v := x3 + 1) (lv' := [(3, .int (x3 + 1)), (0, .ref (ad 0)), (1, .int x1), (2, .int x2)]) hx hb dX10_stays_46 hl (k := 3) rfl rfl (by decide) rfl (fun ls hl => ?_)
  refine lv_goto (tgt := 15) hx hb dX10_stays_49 (by decide) ?_
  exact hk15 _ _ _ _ _ _ _ h hP hD hS (lv_sub hl [1, 2, 3, 0] rfl)
set_option maxHeartbeats 4000000 in
set_option maxRecDepth 100000 in
theorem WX10_stays_15b {p : Program} {l : Launch} {e : Env} {s : State} {m : MethodId} {args : Array Value} {below : List Frame} {meth : Method} {c : Code} {D : va_G} {ty : Nat → ClassId} {eo : Nat → Nat} {A : Nat → Prop} {ad : Nat → Nat} {o1 : Int32} {o2 : dS} (C : dc_C p s m args meth c cX10_stays (some .int) 4 RX10 wsX10_stays D ty eo A) {k15 : dS → Int32 → Int32 → Int32 → Option (Int32 × dS)} (hk15 : ∀ (q : dS) (x1 : Int32) (x2 : Int32) (x3 : Int32) (H : Heap) (locs : List Loc) (ls : Array Slot), k15 q x1 x2 x3 = some (o1, o2) → va_P D vwCl (w10 ty ad q) H → va_D A (w10 ty ad q) → va_S A s.heap H locs → lv_has ls 4 [(0, .ref (ad 0)), (1, .int x1), (2, .int x2), (3, .int x3)] → W p l e ({ frames := 2, cells := 0, slots := 0, locals := 45 } : Room) s m args below meth c H locs 0 0 (MQ below (va_Qi (fun (r : Int32) (u : va_W) => o1 = r ∧ w10 ty ad o2 = u) (kz_B D ty A) A) args s 0 0 A) (F0 m 15 ls [])) (q : dS) (x1 : Int32) (x2 : Int32) (x3 : Int32) (H : Heap) (locs : List Loc) (ls : Array Slot) (h : zX10_stays_15b k15 q x1 x2 x3 = some (o1, o2)) (hP : va_P D vwCl (w10 ty ad q) H) (hD : va_D A (w10 ty ad q)) (hS : va_S A s.heap H locs) (hl : lv_has ls 4 [(0, .ref (ad 0)), (1, .int x1), (2, .int x2), (3, .int x3)]) : W p l e ({ frames := 2, cells := 0, slots := 0, locals := 45 } : Room) s m args below meth c H locs 0 0 (MQ below (va_Qi (fun (r : Int32) (u : va_W) => o1 = r ∧ w10 ty ad o2 = u) (kz_B D ty A) A) args s 0 0 A) (F0 m 15 ls []) := by
  have C0 := C
  obtain ⟨hx, hb, hr, hts, hown, hlocks, hml, hK, hN, hE, hA⟩ := C
  unfold zX10_stays_15b at h
  refine lv_iload_n hx hb dX10_stays_15 rfl (lv_at hl 3 rfl) ?_
  refine lv_iconst (v := 1) hx hb dX10_stays_16 (by decide) ?_
  refine lv_aload_n hx hb dX10_stays_17 rfl (lv_at hl 0 rfl) ?_
  obtain ⟨r1, q3, h2, h⟩ := dB_some h
  refine dw_ki (va_runV (As := []) (rest := [.int 1, .int x3]) ⟨hx, hb, hml, hown, hts⟩ (qX10_size l D ty eo _ ad q  r1 q3 h2) (cwV 0 hts gX10_stays_X10_size rfl rfl rfl hd_X10_size_v ⟨Nat.le_of_ble_eq_true rfl, Nat.le_of_ble_eq_true rfl⟩) (pv10_10_0 hK hN hE hP hD hS hA) rfl rfl hl.1 rfl (lv_room (Nat.le_of_ble_eq_true rfl)) dX10_stays_18 ⟨Nat.le_of_ble_eq_true rfl, Nat.le_of_ble_eq_true rfl⟩) hD hS hA (fun r9 u9 H locs hw hp hd hs => ?_)
  clear hP hD hS
  obtain ⟨rfl, rfl⟩ := hw
  have hP := hp; have hD := hd; have hS := hs; clear hp hd hs
  refine lv_ishl hx hb dX10_stays_21 ?_
  refine lv_icmp_ge (tgt := 52) hx hb dX10_stays_22 (by decide) (fun c9 => ?_) (fun c9 => ?_)
  · rw [if_pos c9] at h
    refine lv_iload_n hx hb dX10_stays_52 rfl (lv_at hl 1 rfl) ?_
    refine lv_if_ne (tgt := 63) hx hb dX10_stays_53 (by decide) (fun c9 => ?_) (fun c9 => ?_)
    · rw [if_neg c9] at h
      refine lv_iload_n hx hb dX10_stays_63 rfl (lv_at hl 2 rfl) ?_
      exact WX10_stays_64 C0  _ _ _ _ _ h hP hD hS (lv_sub hl [] rfl)
    · rw [if_pos c9] at h
      refine lv_iload_n hx hb dX10_stays_56 rfl (lv_at hl 2 rfl) ?_
      obtain ⟨r4, h5, h⟩ := dV_some h
      refine dw_ks (va_runS (As := [.int x2]) (rest := []) ⟨hx, hb, hml, hown, hts⟩ (qX10_ones l D ty eo _ x2 _ h5) (va_cwS 1 hts gX10_stays_X10_ones rfl rfl rfl hd_X10_ones ⟨Nat.le_of_ble_eq_true rfl, Nat.le_of_ble_eq_true rfl⟩) (pvS_0 hK hN hE hP hD hS hA) rfl rfl hl.1 rfl (lv_room (Nat.le_of_ble_eq_true rfl)) dX10_stays_57 ⟨Nat.le_of_ble_eq_true rfl, Nat.le_of_ble_eq_true rfl⟩) hP hD hS hA (fun _ _ h9 => h9.2.symm) (fun r9 u9 H locs hw hp hd hs => ?_)
      obtain ⟨rfl, -⟩ := hw
      clear hP hD hS
      have hP := hp; have hD := hd; have hS := hs; clear hp hd hs
      refine lv_goto (tgt := 64) hx hb dX10_stays_60 (by decide) ?_
      exact WX10_stays_64 C0  _ _ _ _ _ h hP hD hS (lv_sub hl [] rfl)
  · rw [if_neg c9] at h
    refine lv_iload_n hx hb dX10_stays_25 rfl (lv_at hl 3 rfl) ?_
    obtain ⟨r6, h7, h⟩ := dV_some h
    refine dw_ks (va_runS (As := [.int x3]) (rest := []) ⟨hx, hb, hml, hown, hts⟩ (qX10_ones l D ty eo _ x3 _ h7) (va_cwS 1 hts gX10_stays_X10_ones rfl rfl rfl hd_X10_ones ⟨Nat.le_of_ble_eq_true rfl, Nat.le_of_ble_eq_true rfl⟩) (pvS_0 hK hN hE hP hD hS hA) rfl rfl hl.1 rfl (lv_room (Nat.le_of_ble_eq_true rfl)) dX10_stays_26 ⟨Nat.le_of_ble_eq_true rfl, Nat.le_of_ble_eq_true rfl⟩) hP hD hS hA (fun _ _ h9 => h9.2.symm) (fun r9 u9 H locs hw hp hd hs => ?_)
    obtain ⟨rfl, -⟩ := hw
    clear hP hD hS
    have hP := hp; have hD := hd; have hS := hs; clear hp hd hs
    refine lv_iload_n hx hb dX10_stays_29 rfl (lv_at hl 2 rfl) ?_
    obtain ⟨r8, h9, h⟩ := dV_some h
    refine dw_ks (va_runS (As := [.int x2]) (rest := [.int r6]) ⟨hx, hb, hml, hown, hts⟩ (qX10_ones l D ty eo _ x2 _ h9) (va_cwS 1 hts gX10_stays_X10_ones rfl rfl rfl hd_X10_ones ⟨Nat.le_of_ble_eq_true rfl, Nat.le_of_ble_eq_true rfl⟩) (pvS_0 hK hN hE hP hD hS hA) rfl rfl hl.1 rfl (lv_room (Nat.le_of_ble_eq_true rfl)) dX10_stays_30 ⟨Nat.le_of_ble_eq_true rfl, Nat.le_of_ble_eq_true rfl⟩) hP hD hS hA (fun _ _ h9 => h9.2.symm) (fun r9 u9 H locs hw hp hd hs => ?_)
    obtain ⟨rfl, -⟩ := hw
    clear hP hD hS
    have hP := hp; have hD := hd; have hS := hs; clear hp hd hs
    refine lv_icmp_le (tgt := 46) hx hb dX10_stays_33 (by decide) (fun c9 => ?_) (fun c9 => ?_)
    · rw [if_pos c9] at h
      exact WX10_stays_46 C0 hk15 _ _ _ _ _ _ _ h hP hD hS (lv_sub hl [0, 1, 2, 3] rfl)
    · rw [if_neg c9] at h
      refine lv_aload_n hx hb dX10_stays_36 rfl (lv_at hl 0 rfl) ?_
      refine lv_iload_n hx hb dX10_stays_37 rfl (lv_at hl 3 rfl) ?_
      obtain ⟨r10, q12, h11, h⟩ := dB_some h
      refine dw_ki (va_runV (As := [.int x3]) (rest := []) ⟨hx, hb, hml, hown, hts⟩ (qX10_canStay l D ty eo _ ad q3 x3 r10 q12 h11) (cwV 1 hts gX10_stays_X10_canStay rfl rfl rfl hd_X10_canStay_v ⟨Nat.le_of_ble_eq_true rfl, Nat.le_of_ble_eq_true rfl⟩) (pv10_10_0 hK hN hE hP hD hS hA) rfl rfl hl.1 rfl (lv_room (Nat.le_of_ble_eq_true rfl)) dX10_stays_38 ⟨Nat.le_of_ble_eq_true rfl, Nat.le_of_ble_eq_true rfl⟩) hD hS hA (fun r9 u9 H locs hw hp hd hs => ?_)
      clear hP hD hS
      obtain ⟨rfl, rfl⟩ := hw
      have hP := hp; have hD := hd; have hS := hs; clear hp hd hs
      refine lv_if_eq (tgt := 46) hx hb dX10_stays_41 (by decide) (fun c9 => ?_) (fun c9 => ?_)
      · rw [if_pos c9] at h
        exact WX10_stays_46 C0 hk15 _ _ _ _ _ _ _ h hP hD hS (lv_sub hl [0, 1, 2, 3] rfl)
      · rw [if_neg c9] at h
        refine lv_iload_n hx hb dX10_stays_44 rfl (lv_at hl 3 rfl) ?_
        refine lv_istore_n (lv' := [(2, .int x3), (0, .ref (ad 0)), (1, .int x1), (3, .int x3)]) hx hb dX10_stays_45 rfl hl (by decide) rfl (fun ls hl => ?_)
        exact WX10_stays_46 C0 hk15 _ _ _ _ _ _ _ h hP hD hS (lv_sub hl [1, 2, 0, 3] rfl)
set_option maxHeartbeats 4000000 in
set_option maxRecDepth 100000 in
theorem WX10_stays_15 {p : Program} {l : Launch} {e : Env} {s : State} {m : MethodId} {args : Array Value} {below : List Frame} {meth : Method} {c : Code} {D : va_G} {ty : Nat → ClassId} {eo : Nat → Nat} {A : Nat → Prop} {ad : Nat → Nat} {o1 : Int32} {o2 : dS} (C : dc_C p s m args meth c cX10_stays (some .int) 4 RX10 wsX10_stays D ty eo A)   (n : Nat) (q : dS) (x1 : Int32) (x2 : Int32) (x3 : Int32) (H : Heap) (locs : List Loc) (ls : Array Slot) (h : zX10_stays_15  n q x1 x2 x3 = some (o1, o2)) (hP : va_P D vwCl (w10 ty ad q) H) (hD : va_D A (w10 ty ad q)) (hS : va_S A s.heap H locs) (hl : lv_has ls 4 [(0, .ref (ad 0)), (1, .int x1), (2, .int x2), (3, .int x3)]) : W p l e ({ frames := 2, cells := 0, slots := 0, locals := 45 } : Room) s m args below meth c H locs 0 0 (MQ below (va_Qi (fun (r : Int32) (u : va_W) => o1 = r ∧ w10 ty ad o2 = u) (kz_B D ty A) A) args s 0 0 A) (F0 m 15 ls []) := by
  exact dFix_W (F := fun k (a : dS × Int32 × Int32 × Int32) => zX10_stays_15b  (fun q x1 x2 x3 => k (q, x1, x2, x3)) a.1 a.2.1 a.2.2.1 a.2.2.2) (o := (o1, o2)) (P := fun (a : dS × Int32 × Int32 × Int32) H locs ls => va_P D vwCl (w10 ty ad a.1) H ∧ va_D A (w10 ty ad a.1) ∧ va_S A s.heap H locs ∧ lv_has ls 4 [(0, .ref (ad 0)), (1, .int a.2.1), (2, .int a.2.2.1), (3, .int a.2.2.2)]) (G := fun H locs ls => W p l e ({ frames := 2, cells := 0, slots := 0, locals := 45 } : Room) s m args below meth c H locs 0 0 (MQ below (va_Qi (fun (r : Int32) (u : va_W) => o1 = r ∧ w10 ty ad o2 = u) (kz_B D ty A) A) args s 0 0 A) (F0 m 15 ls []))
    (fun k hk a H locs ls h hp => WX10_stays_15b C  (fun q x1 x2 x3 H locs ls h h1 h2 h3 h4 => hk (q, x1, x2, x3) H locs ls h ⟨h1, h2, h3, h4⟩) a.1 a.2.1 a.2.2.1 a.2.2.2 H locs ls h hp.1 hp.2.1 hp.2.2.1 hp.2.2.2) n (q, x1, x2, x3) H locs ls h ⟨hP, hD, hS, hl⟩
set_option maxHeartbeats 4000000 in
set_option maxRecDepth 100000 in
theorem qX10_stays (l : Launch) (D : va_G) (ty : Nat → ClassId) (eo : Nat → Nat) (sz : Nat) (ad : Nat → Nat) (q : dS) (p1 : Int32) (o1 : Int32) (o2 : dS) (h : zX10_stays q p1 = some (o1, o2)) : Met l yX10_stays wsX10_stays ({ frames := 2, cells := 0, slots := 0, locals := 45 } : Room) (va_Pc [.ref (ad 0), .int p1] (kz_pre D ty eo (w10 ty ad q) sz)) (va_Qi (fun (r : Int32) (u : va_W) => o1 = r ∧ w10 ty ad o2 = u) (kz_B D ty (va_A (w10 ty ad q) sz)) (va_A (w10 ty ad q) sz)) 0 0 (va_A (w10 ty ad q) sz) := by
  refine Met.ofW (cc := cX10_stays) (maxL := 4) (ret := (some .int)) (by decide) rfl ?_
  intro p e s m args below meth c s₁ B hml hv
  obtain ⟨rfl, hsz, hP, hK, hD0, hN, hE⟩ := hv
  have hx := B.exec
  have hb := B.bytes
  have hr := B.returns
  have hts := atoms_spec (ws := wsX10_stays) B.pre
  have hown : s.vm.findClass RX10 = some m.cls := findClass_of_methodNamed B.named
  have hlocks := B.notSynchronized
  subst hsz
  have hD := hD0.self (sz := s.heap.size)
  generalize hAe : va_A (w10 ty ad q) s.heap.size = A at hD hE ⊢
  have hA : ∀ q : Nat, s.heap.size ≤ q → A q := fun q h => by rw [← hAe]; exact Or.inr h
  clear hAe
  have hS : va_S A s.heap s.heap [] := va_S.rf
  have hl := lv_entry ([.ref (ad 0), .int p1]) (n := 4) (Nat.le_of_ble_eq_true rfl)
  rw [lg_entry_eq]
  generalize (lg_sl ([.ref (ad 0), .int p1]) ++ List.replicate (4 - (lg_sl ([.ref (ad 0), .int p1])).length) Slot.unset).toArray = ls at hl ⊢
  have hl : lv_has ls 4 [(0, .ref (ad 0)), (1, .int p1)] := hl
  have C : dc_C p s m _ meth c cX10_stays (some .int) 4 RX10 wsX10_stays D ty eo A := ⟨hx, hb, hr, hts, hown, hlocks, hml, hK, hN, hE, hA⟩
  unfold zX10_stays at h
  refine lv_iload_n hx hb dX10_stays_0 rfl (lv_at hl 1 rfl) ?_
  refine lv_iconst (v := 0) hx hb dX10_stays_1 (by decide) ?_
  refine lv_iconst (v := 1) hx hb dX10_stays_2 (by decide) ?_
  obtain ⟨r1, h2, h⟩ := dV_some h
  refine dw_ks (va_runS (As := [.int p1, .int 0, .int 1]) (rest := []) ⟨hx, hb, hml, hown, hts⟩ (qX10_lies l D ty eo _ p1 0 1 _ h2) (va_cwS 3 hts gX10_stays_X10_lies rfl rfl rfl hd_X10_lies ⟨Nat.le_of_ble_eq_true rfl, Nat.le_of_ble_eq_true rfl⟩) (pvS_0 hK hN hE hP hD hS hA) rfl rfl hl.1 rfl (lv_room (Nat.le_of_ble_eq_true rfl)) dX10_stays_3 ⟨Nat.le_of_ble_eq_true rfl, Nat.le_of_ble_eq_true rfl⟩) hP hD hS hA (fun _ _ h9 => h9.2.symm) (fun r9 u9 H locs hw hp hd hs => ?_)
  obtain ⟨rfl, -⟩ := hw
  clear hP hD hS
  have hP := hp; have hD := hd; have hS := hs; clear hp hd hs
  refine lv_if_ne (tgt := 11) hx hb dX10_stays_6 (by decide) (fun c9 => ?_) (fun c9 => ?_)
  · rw [if_neg c9] at h
    refine lv_iconst (v := 0) hx hb dX10_stays_11 (by decide) ?_
    refine lv_istore_n (lv' := [(2, .int 0), (0, .ref (ad 0)), (1, .int p1)]) hx hb dX10_stays_12 rfl hl (by decide) rfl (fun ls hl => ?_)
    refine lv_iconst (v := 0) hx hb dX10_stays_13 (by decide) ?_
    refine lv_istore_n (lv' := [(3, .int 0), (2, .int 0), (0, .ref (ad 0)), (1, .int p1)]) hx hb dX10_stays_14 rfl hl (by decide) rfl (fun ls hl => ?_)
    exact WX10_stays_15 C  _ _ _ _ _ _ _ _ h hP hD hS (lv_sub hl [2, 3, 1, 0] rfl)
  · rw [if_pos c9] at h
    refine lv_iconst (v := (-1)) hx hb dX10_stays_9 (by decide) ?_
    cases h
    exact kz_iret hx hb hr hlocks hP hK hD hS dX10_stays_10 ⟨rfl, rfl⟩

set_option maxHeartbeats 4000000 in
set_option maxRecDepth 100000 in
theorem WX10_seen_14 {p : Program} {l : Launch} {e : Env} {s : State} {m : MethodId} {args : Array Value} {below : List Frame} {meth : Method} {c : Code} {D : va_G} {ty : Nat → ClassId} {eo : Nat → Nat} {A : Nat → Prop} {ad : Nat → Nat} {o1 : Int32} {o2 : dS} (C : dc_C p s m args meth c cX10_seen (some .int) 4 RX10 wsX10_seen D ty eo A)   (q : dS)  (H : Heap) (locs : List Loc) (ls : Array Slot) (h : zX10_seen_14  q = some (o1, o2)) (hP : va_P D vwCl (w10 ty ad q) H) (hD : va_D A (w10 ty ad q)) (hS : va_S A s.heap H locs) (hl : lv_has ls 4 [(0, .ref (ad 0))]) : W p l e ({ frames := 2, cells := 0, slots := 0, locals := 42 } : Room) s m args below meth c H locs 0 0 (MQ below (va_Qi (fun (r : Int32) (u : va_W) => o1 = r ∧ w10 ty ad o2 = u) (kz_B D ty A) A) args s 0 0 A) (F0 m 14 ls []) := by
  have C0 := C
  obtain ⟨hx, hb, hr, hts, hown, hlocks, hml, hK, hN, hE, hA⟩ := C
  unfold zX10_seen_14 at h
  refine lv_aload_n hx hb dX10_seen_14 rfl (lv_at hl 0 rfl) ?_
  refine lv_iconst (v := (-1)) hx hb dX10_seen_15 (by decide) ?_
  obtain ⟨r1, q3, h2, h⟩ := dB_some h
  refine dw_ki (va_runV (As := [.int (-1)]) (rest := []) ⟨hx, hb, hml, hown, hts⟩ (qX10_refuses l D ty eo _ ad q (-1) r1 q3 h2) (cwV 1 hts gX10_seen_X10_refuses rfl rfl rfl hd_X10_refuses_v ⟨Nat.le_of_ble_eq_true rfl, Nat.le_of_ble_eq_true rfl⟩) (pv10_10_0 hK hN hE hP hD hS hA) rfl rfl hl.1 rfl (lv_room (Nat.le_of_ble_eq_true rfl)) dX10_seen_16 ⟨Nat.le_of_ble_eq_true rfl, Nat.le_of_ble_eq_true rfl⟩) hD hS hA (fun r9 u9 H locs hw hp hd hs => ?_)
  clear hP hD hS
  obtain ⟨rfl, rfl⟩ := hw
  have hP := hp; have hD := hd; have hS := hs; clear hp hd hs
  cases h
  exact kz_iret hx hb hr hlocks hP hK hD hS dX10_seen_19 ⟨rfl, rfl⟩
set_option maxHeartbeats 4000000 in
set_option maxRecDepth 100000 in
theorem qX10_seen (l : Launch) (D : va_G) (ty : Nat → ClassId) (eo : Nat → Nat) (sz : Nat) (ad : Nat → Nat) (q : dS) (p1 : Int32) (p2 : Int32) (o1 : Int32) (o2 : dS) (h : zX10_seen q p1 p2 = some (o1, o2)) : Met l yX10_seen wsX10_seen ({ frames := 2, cells := 0, slots := 0, locals := 42 } : Room) (va_Pc [.ref (ad 0), .int p1, .int p2] (kz_pre D ty eo (w10 ty ad q) sz)) (va_Qi (fun (r : Int32) (u : va_W) => o1 = r ∧ w10 ty ad o2 = u) (kz_B D ty (va_A (w10 ty ad q) sz)) (va_A (w10 ty ad q) sz)) 0 0 (va_A (w10 ty ad q) sz) := by
  refine Met.ofW (cc := cX10_seen) (maxL := 4) (ret := (some .int)) (by decide) rfl ?_
  intro p e s m args below meth c s₁ B hml hv
  obtain ⟨rfl, hsz, hP, hK, hD0, hN, hE⟩ := hv
  have hx := B.exec
  have hb := B.bytes
  have hr := B.returns
  have hts := atoms_spec (ws := wsX10_seen) B.pre
  have hown : s.vm.findClass RX10 = some m.cls := findClass_of_methodNamed B.named
  have hlocks := B.notSynchronized
  subst hsz
  have hD := hD0.self (sz := s.heap.size)
  generalize hAe : va_A (w10 ty ad q) s.heap.size = A at hD hE ⊢
  have hA : ∀ q : Nat, s.heap.size ≤ q → A q := fun q h => by rw [← hAe]; exact Or.inr h
  clear hAe
  have hS : va_S A s.heap s.heap [] := va_S.rf
  have hl := lv_entry ([.ref (ad 0), .int p1, .int p2]) (n := 4) (Nat.le_of_ble_eq_true rfl)
  rw [lg_entry_eq]
  generalize (lg_sl ([.ref (ad 0), .int p1, .int p2]) ++ List.replicate (4 - (lg_sl ([.ref (ad 0), .int p1, .int p2])).length) Slot.unset).toArray = ls at hl ⊢
  have hl : lv_has ls 4 [(0, .ref (ad 0)), (1, .int p1), (2, .int p2)] := hl
  have C : dc_C p s m _ meth c cX10_seen (some .int) 4 RX10 wsX10_seen D ty eo A := ⟨hx, hb, hr, hts, hown, hlocks, hml, hK, hN, hE, hA⟩
  unfold zX10_seen at h
  refine lv_iload_n hx hb dX10_seen_0 rfl (lv_at hl 1 rfl) ?_
  obtain ⟨r1, h2, h⟩ := dV_some h
  refine dw_ks (va_runS (As := [.int p1]) (rest := []) ⟨hx, hb, hml, hown, hts⟩ (qX10_isRank l D ty eo _ p1 _ h2) (va_cwS 1 hts gX10_seen_X10_isRank rfl rfl rfl hd_X10_isRank ⟨Nat.le_of_ble_eq_true rfl, Nat.le_of_ble_eq_true rfl⟩) (pvS_0 hK hN hE hP hD hS hA) rfl rfl hl.1 rfl (lv_room (Nat.le_of_ble_eq_true rfl)) dX10_seen_1 ⟨Nat.le_of_ble_eq_true rfl, Nat.le_of_ble_eq_true rfl⟩) hP hD hS hA (fun _ _ h9 => h9.2.symm) (fun r9 u9 H locs hw hp hd hs => ?_)
  obtain ⟨rfl, -⟩ := hw
  clear hP hD hS
  have hP := hp; have hD := hd; have hS := hs; clear hp hd hs
  refine lv_if_eq (tgt := 14) hx hb dX10_seen_4 (by decide) (fun c9 => ?_) (fun c9 => ?_)
  · rw [if_pos c9] at h
    exact WX10_seen_14 C  _ _ _ _ h hP hD hS (lv_sub hl [0] rfl)
  · rw [if_neg c9] at h
    refine lv_iload_n hx hb dX10_seen_7 rfl (lv_at hl 2 rfl) ?_
    obtain ⟨r3, h4, h⟩ := dV_some h
    refine dw_ks (va_runS (As := [.int p2]) (rest := []) ⟨hx, hb, hml, hown, hts⟩ (qX10_isRank l D ty eo _ p2 _ h4) (va_cwS 1 hts gX10_seen_X10_isRank rfl rfl rfl hd_X10_isRank ⟨Nat.le_of_ble_eq_true rfl, Nat.le_of_ble_eq_true rfl⟩) (pvS_0 hK hN hE hP hD hS hA) rfl rfl hl.1 rfl (lv_room (Nat.le_of_ble_eq_true rfl)) dX10_seen_8 ⟨Nat.le_of_ble_eq_true rfl, Nat.le_of_ble_eq_true rfl⟩) hP hD hS hA (fun _ _ h9 => h9.2.symm) (fun r9 u9 H locs hw hp hd hs => ?_)
    obtain ⟨rfl, -⟩ := hw
    clear hP hD hS
    have hP := hp; have hD := hd; have hS := hs; clear hp hd hs
    refine lv_if_ne (tgt := 20) hx hb dX10_seen_11 (by decide) (fun c9 => ?_) (fun c9 => ?_)
    · rw [if_neg c9] at h
      refine lv_bipush (v := 14) hx hb dX10_seen_20 (by decide) ?_
      refine lv_iconst (v := 2) hx hb dX10_seen_22 (by decide) ?_
      refine lv_aload_n hx hb dX10_seen_23 rfl (lv_at hl 0 rfl) ?_
      refine va_get (D := D) (ci := 10) (v := .ref (ad 2)) (C := RX10) (T := TX10) (N := 56) hx hb hts u9_wsX10_seen_X10 hown hK hP 0 rfl rfl 2 (by decide) (hts (.fieldLink RX10 28 "TurnedFloorsModel" "kept" "[I") f9_wsX10_seen_249) (fun _ h9 => h9) rfl dX10_seen_24 ?_
      refine lv_bipush (v := 30) hx hb dX10_seen_27 (by decide) ?_
      refine va_iald hx hb hK hP 2 0 rfl rfl (by simp only [vp_in]; decide) dX10_seen_29 ?_
      refine kz_topi (q.1 2 30) (congrArg (q.1 2) (by decide +kernel : Int32.toNatClampNeg 30 = 30)) ?_
      refine lv_imul hx hb dX10_seen_30 ?_
      refine lv_iadd hx hb dX10_seen_31 ?_
      refine lv_istore_n (lv' := [(3, .int (14 + (2 * (q.1 2 30) : Int32) : Int32)), (0, .ref (ad 0)), (1, .int p1), (2, .int p2)]) hx hb dX10_seen_32 rfl hl (by decide) rfl (fun ls hl => ?_)
      refine lv_aload_n hx hb dX10_seen_33 rfl (lv_at hl 1 rfl) ?_
      refine va_get (D := D) (ci := 10) (v := .ref (ad 2)) (C := RX10) (T := TX10) (N := 56) hx hb hts u9_wsX10_seen_X10 hown hK hP 0 rfl rfl 2 (by decide) (hts (.fieldLink RX10 28 "TurnedFloorsModel" "kept" "[I") f9_wsX10_seen_249) (fun _ h9 => h9) rfl dX10_seen_34 ?_
      refine lv_bipush (v := 30) hx hb dX10_seen_37 (by decide) ?_
      refine va_iald hx hb hK hP 2 0 rfl rfl (by simp only [vp_in]; decide) dX10_seen_39 ?_
      refine kz_topi (q.1 2 30) (congrArg (q.1 2) (by decide +kernel : Int32.toNatClampNeg 30 = 30)) ?_
      refine lv_bipush (v := 6) hx hb dX10_seen_40 (by decide) ?_
      refine lv_icmp_ne (tgt := 52) hx hb dX10_seen_42 (by decide) (fun c9 => ?_) (fun c9 => ?_)
      · rw [if_neg c9] at h
        refine lv_aload_n hx hb dX10_seen_52 rfl (lv_at hl 1 rfl) ?_
        refine va_get (D := D) (ci := 10) (v := .ref (ad 2)) (C := RX10) (T := TX10) (N := 56) hx hb hts u9_wsX10_seen_X10 hown hK hP 0 rfl rfl 2 (by decide) (hts (.fieldLink RX10 28 "TurnedFloorsModel" "kept" "[I") f9_wsX10_seen_249) (fun _ h9 => h9) rfl dX10_seen_53 ?_
        refine lv_iload_n hx hb dX10_seen_56 rfl (lv_at hl 0 rfl) ?_
        refine lv_iload_n hx hb dX10_seen_57 rfl (lv_at hl 2 rfl) ?_
        obtain ⟨g5, h⟩ := dG_some h
        refine va_iast hx hb hK hP hD hS 2 0 rfl rfl (dg_in g5) dX10_seen_58 (fun H locs hp hd hs => ?_)
        obtain ⟨q6, eq6, h⟩ := dL_some h
        refine kz_re (w2 := w10 ty ad q6) hp hd hs (by rw [← eq6]; exact w10_a2 ty ad q (Int32.toNatClampNeg (14 + (2 * (q.1 2 30) : Int32) : Int32)) p1) ?_
        clear hp hd hs hP hD hS
        intro hP hD hS
        refine lv_aload_n hx hb dX10_seen_59 rfl (lv_at hl 1 rfl) ?_
        refine va_get (D := D) (ci := 10) (v := .ref (ad 2)) (C := RX10) (T := TX10) (N := 56) hx hb hts u9_wsX10_seen_X10 hown hK hP 0 rfl rfl 2 (by decide) (hts (.fieldLink RX10 28 "TurnedFloorsModel" "kept" "[I") f9_wsX10_seen_249) (fun _ h9 => h9) rfl dX10_seen_60 ?_
        refine lv_iload_n hx hb dX10_seen_63 rfl (lv_at hl 0 rfl) ?_
        refine lv_iconst (v := 1) hx hb dX10_seen_64 (by decide) ?_
        refine lv_iadd hx hb dX10_seen_65 ?_
        refine lv_iload_n hx hb dX10_seen_66 rfl (lv_at hl 3 rfl) ?_
        obtain ⟨g7, h⟩ := dG_some h
        refine va_iast hx hb hK hP hD hS 2 0 rfl rfl (dg_in g7) dX10_seen_67 (fun H locs hp hd hs => ?_)
        obtain ⟨q8, eq8, h⟩ := dL_some h
        refine kz_re (w2 := w10 ty ad q8) hp hd hs (by rw [← eq8]; exact w10_a2 ty ad q6 (Int32.toNatClampNeg ((14 + (2 * (q.1 2 30) : Int32) : Int32) + 1 : Int32)) p2) ?_
        clear hp hd hs hP hD hS
        intro hP hD hS
        refine lv_aload_n hx hb dX10_seen_68 rfl (lv_at hl 1 rfl) ?_
        refine va_get (D := D) (ci := 10) (v := .ref (ad 2)) (C := RX10) (T := TX10) (N := 56) hx hb hts u9_wsX10_seen_X10 hown hK hP 0 rfl rfl 2 (by decide) (hts (.fieldLink RX10 28 "TurnedFloorsModel" "kept" "[I") f9_wsX10_seen_249) (fun _ h9 => h9) rfl dX10_seen_69 ?_
        refine lv_bipush (v := 30) hx hb dX10_seen_72 (by decide) ?_
        refine lv_dup2_11 hx hb dX10_seen_74 rfl rfl ?_
        refine va_iald hx hb hK hP 2 0 rfl rfl (by simp only [vp_in]; decide) dX10_seen_75 ?_
        refine kz_topi (q8.1 2 30) (congrArg (q8.1 2) (by decide +kernel : Int32.toNatClampNeg 30 = 30)) ?_
        refine lv_iconst (v := 1) hx hb dX10_seen_76 (by decide) ?_
        refine lv_iadd hx hb dX10_seen_77 ?_
        refine va_iast hx hb hK hP hD hS 2 0 rfl rfl (by simp only [vp_in]; decide) dX10_seen_78 (fun H locs hp hd hs => ?_)
        obtain ⟨q9, eq9, h⟩ := dL_some h
        refine kz_re (w2 := w10 ty ad q9) hp hd hs (by rw [(by decide +kernel : Int32.toNatClampNeg 30 = 30), ← eq9]; exact w10_a2 ty ad q8 30 ((q8.1 2 30) + 1 : Int32)) ?_
        clear hp hd hs hP hD hS
        intro hP hD hS
        refine lv_aload_n hx hb dX10_seen_79 rfl (lv_at hl 1 rfl) ?_
        refine lv_aload_n hx hb dX10_seen_80 rfl (lv_at hl 1 rfl) ?_
        refine va_get (D := D) (ci := 10) (v := .ref (ad 2)) (C := RX10) (T := TX10) (N := 56) hx hb hts u9_wsX10_seen_X10 hown hK hP 0 rfl rfl 2 (by decide) (hts (.fieldLink RX10 28 "TurnedFloorsModel" "kept" "[I") f9_wsX10_seen_249) (fun _ h9 => h9) rfl dX10_seen_81 ?_
        refine lv_bipush (v := 30) hx hb dX10_seen_84 (by decide) ?_
        refine va_iald hx hb hK hP 2 0 rfl rfl (by simp only [vp_in]; decide) dX10_seen_86 ?_
        refine kz_topi (q9.1 2 30) (congrArg (q9.1 2) (by decide +kernel : Int32.toNatClampNeg 30 = 30)) ?_
        obtain ⟨r10, q12, h11, h⟩ := dB_some h
        refine dw_ki (va_runV (As := [.int (q9.1 2 30)]) (rest := []) ⟨hx, hb, hml, hown, hts⟩ (qX10_good l D ty eo _ ad q9 (q9.1 2 30) r10 q12 h11) (cwV 1 hts gX10_seen_X10_good rfl rfl rfl hd_X10_good_v ⟨Nat.le_of_ble_eq_true rfl, Nat.le_of_ble_eq_true rfl⟩) (pv10_10_0 hK hN hE hP hD hS hA) rfl rfl hl.1 rfl (lv_room (Nat.le_of_ble_eq_true rfl)) dX10_seen_87 ⟨Nat.le_of_ble_eq_true rfl, Nat.le_of_ble_eq_true rfl⟩) hD hS hA (fun r9 u9 H locs hw hp hd hs => ?_)
        clear hP hD hS
        obtain ⟨rfl, rfl⟩ := hw
        have hP := hp; have hD := hd; have hS := hs; clear hp hd hs
        cases h
        exact kz_iret hx hb hr hlocks hP hK hD hS dX10_seen_90 ⟨rfl, rfl⟩
      · rw [if_pos c9] at h
        refine lv_aload_n hx hb dX10_seen_45 rfl (lv_at hl 1 rfl) ?_
        refine lv_bipush (v := (-5)) hx hb dX10_seen_46 (by decide) ?_
        obtain ⟨r13, q15, h14, h⟩ := dB_some h
        refine dw_ki (va_runV (As := [.int (-5)]) (rest := []) ⟨hx, hb, hml, hown, hts⟩ (qX10_refuses l D ty eo _ ad q (-5) r13 q15 h14) (cwV 1 hts gX10_seen_X10_refuses rfl rfl rfl hd_X10_refuses_v ⟨Nat.le_of_ble_eq_true rfl, Nat.le_of_ble_eq_true rfl⟩) (pv10_10_0 hK hN hE hP hD hS hA) rfl rfl hl.1 rfl (lv_room (Nat.le_of_ble_eq_true rfl)) dX10_seen_48 ⟨Nat.le_of_ble_eq_true rfl, Nat.le_of_ble_eq_true rfl⟩) hD hS hA (fun r9 u9 H locs hw hp hd hs => ?_)
        clear hP hD hS
        obtain ⟨rfl, rfl⟩ := hw
        have hP := hp; have hD := hd; have hS := hs; clear hp hd hs
        cases h
        exact kz_iret hx hb hr hlocks hP hK hD hS dX10_seen_51 ⟨rfl, rfl⟩
    · rw [if_pos c9] at h
      exact WX10_seen_14 C  _ _ _ _ h hP hD hS (lv_sub hl [0] rfl)

set_option maxHeartbeats 4000000 in
set_option maxRecDepth 100000 in
theorem qX10_forget (l : Launch) (D : va_G) (ty : Nat → ClassId) (eo : Nat → Nat) (sz : Nat) (ad : Nat → Nat) (q : dS)  (o1 : Int32) (o2 : dS) (h : zX10_forget q = some (o1, o2)) : Met l yX10_forget wsX10_forget ({ frames := 0, cells := 0, slots := 0, locals := 0 } : Room) (va_Pc [.ref (ad 0)] (kz_pre D ty eo (w10 ty ad q) sz)) (va_Qi (fun (r : Int32) (u : va_W) => o1 = r ∧ w10 ty ad o2 = u) (kz_B D ty (va_A (w10 ty ad q) sz)) (va_A (w10 ty ad q) sz)) 0 0 (va_A (w10 ty ad q) sz) := by
  refine Met.ofW (cc := cX10_forget) (maxL := 2) (ret := (some .int)) (by decide) rfl ?_
  intro p e s m args below meth c s₁ B hml hv
  obtain ⟨rfl, hsz, hP, hK, hD0, hN, hE⟩ := hv
  have hx := B.exec
  have hb := B.bytes
  have hr := B.returns
  have hts := atoms_spec (ws := wsX10_forget) B.pre
  have hown : s.vm.findClass RX10 = some m.cls := findClass_of_methodNamed B.named
  have hlocks := B.notSynchronized
  subst hsz
  have hD := hD0.self (sz := s.heap.size)
  generalize hAe : va_A (w10 ty ad q) s.heap.size = A at hD hE ⊢
  have hA : ∀ q : Nat, s.heap.size ≤ q → A q := fun q h => by rw [← hAe]; exact Or.inr h
  clear hAe
  have hS : va_S A s.heap s.heap [] := va_S.rf
  have hl := lv_entry ([.ref (ad 0)]) (n := 2) (Nat.le_of_ble_eq_true rfl)
  rw [lg_entry_eq]
  generalize (lg_sl ([.ref (ad 0)]) ++ List.replicate (2 - (lg_sl ([.ref (ad 0)])).length) Slot.unset).toArray = ls at hl ⊢
  have hl : lv_has ls 2 [(0, .ref (ad 0))] := hl
  have C : dc_C p s m _ meth c cX10_forget (some .int) 2 RX10 wsX10_forget D ty eo A := ⟨hx, hb, hr, hts, hown, hlocks, hml, hK, hN, hE, hA⟩
  unfold zX10_forget at h
  refine lv_aload_n hx hb dX10_forget_0 rfl (lv_at hl 0 rfl) ?_
  refine va_get (D := D) (ci := 10) (v := .ref (ad 2)) (C := RX10) (T := TX10) (N := 56) hx hb hts u9_wsX10_forget_X10 hown hK hP 0 rfl rfl 2 (by decide) (hts (.fieldLink RX10 28 "TurnedFloorsModel" "kept" "[I") f9_wsX10_forget_251) (fun _ h9 => h9) rfl dX10_forget_1 ?_
  refine lv_bipush (v := 30) hx hb dX10_forget_4 (by decide) ?_
  refine va_iald hx hb hK hP 2 0 rfl rfl (by simp only [vp_in]; decide) dX10_forget_6 ?_
  refine kz_topi (q.1 2 30) (congrArg (q.1 2) (by decide +kernel : Int32.toNatClampNeg 30 = 30)) ?_
  refine lv_istore_n (lv' := [(1, .int (q.1 2 30)), (0, .ref (ad 0))]) hx hb dX10_forget_7 rfl hl (by decide) rfl (fun ls hl => ?_)
  refine lv_aload_n hx hb dX10_forget_8 rfl (lv_at hl 1 rfl) ?_
  refine va_get (D := D) (ci := 10) (v := .ref (ad 2)) (C := RX10) (T := TX10) (N := 56) hx hb hts u9_wsX10_forget_X10 hown hK hP 0 rfl rfl 2 (by decide) (hts (.fieldLink RX10 28 "TurnedFloorsModel" "kept" "[I") f9_wsX10_forget_251) (fun _ h9 => h9) rfl dX10_forget_9 ?_
  refine lv_bipush (v := 30) hx hb dX10_forget_12 (by decide) ?_
  refine lv_iconst (v := 0) hx hb dX10_forget_14 (by decide) ?_
  refine va_iast hx hb hK hP hD hS 2 0 rfl rfl (by simp only [vp_in]; decide) dX10_forget_15 (fun H locs hp hd hs => ?_)
  obtain ⟨q1, eq1, h⟩ := dL_some h
  refine kz_re (w2 := w10 ty ad q1) hp hd hs (by rw [(by decide +kernel : Int32.toNatClampNeg 30 = 30), ← eq1]; exact w10_a2 ty ad q 30 0) ?_
  clear hp hd hs hP hD hS
  intro hP hD hS
  refine lv_iload_n hx hb dX10_forget_16 rfl (lv_at hl 0 rfl) ?_
  cases h
  exact kz_iret hx hb hr hlocks hP hK hD hS dX10_forget_17 ⟨rfl, rfl⟩

set_option maxHeartbeats 4000000 in
set_option maxRecDepth 100000 in
theorem WX10_rankBehind_33 {p : Program} {l : Launch} {e : Env} {s : State} {m : MethodId} {args : Array Value} {below : List Frame} {meth : Method} {c : Code} {D : va_G} {ty : Nat → ClassId} {eo : Nat → Nat} {A : Nat → Prop} {ad : Nat → Nat} {o1 : Int32} {o2 : dS} (C : dc_C p s m args meth c cX10_rankBehind (some .int) 3 RX10 wsX10_rankBehind D ty eo A)   (q : dS) (y0 : Int32) (H : Heap) (locs : List Loc) (ls : Array Slot) (h : zX10_rankBehind_33  q y0 = some (o1, o2)) (hP : va_P D vwCl (w10 ty ad q) H) (hD : va_D A (w10 ty ad q)) (hS : va_S A s.heap H locs) (hl : lv_has ls 3 []) : W p l e ({ frames := 2, cells := 0, slots := 0, locals := 43 } : Room) s m args below meth c H locs 0 0 (MQ below (va_Qi (fun (r : Int32) (u : va_W) => o1 = r ∧ w10 ty ad o2 = u) (kz_B D ty A) A) args s 0 0 A) (F0 m 33 ls [.int y0]) := by
  have C0 := C
  obtain ⟨hx, hb, hr, hts, hown, hlocks, hml, hK, hN, hE, hA⟩ := C
  unfold zX10_rankBehind_33 at h
  cases h
  exact kz_iret hx hb hr hlocks hP hK hD hS dX10_rankBehind_33 ⟨rfl, rfl⟩
set_option maxHeartbeats 4000000 in
set_option maxRecDepth 100000 in
theorem WX10_rankBehind_31 {p : Program} {l : Launch} {e : Env} {s : State} {m : MethodId} {args : Array Value} {below : List Frame} {meth : Method} {c : Code} {D : va_G} {ty : Nat → ClassId} {eo : Nat → Nat} {A : Nat → Prop} {ad : Nat → Nat} {o1 : Int32} {o2 : dS} (C : dc_C p s m args meth c cX10_rankBehind (some .int) 3 RX10 wsX10_rankBehind D ty eo A)   (q : dS) (y0 : Int32) (y1 : Int32) (H : Heap) (locs : List Loc) (ls : Array Slot) (h : zX10_rankBehind_31  q y0 y1 = some (o1, o2)) (hP : va_P D vwCl (w10 ty ad q) H) (hD : va_D A (w10 ty ad q)) (hS : va_S A s.heap H locs) (hl : lv_has ls 3 []) : W p l e ({ frames := 2, cells := 0, slots := 0, locals := 43 } : Room) s m args below meth c H locs 0 0 (MQ below (va_Qi (fun (r : Int32) (u : va_W) => o1 = r ∧ w10 ty ad o2 = u) (kz_B D ty A) A) args s 0 0 A) (F0 m 31 ls [.int y0, .int y1, .ref (ad 2)]) := by
  have C0 := C
  obtain ⟨hx, hb, hr, hts, hown, hlocks, hml, hK, hN, hE, hA⟩ := C
  unfold zX10_rankBehind_31 at h
  refine lv_iadd hx hb dX10_rankBehind_31 ?_
  obtain ⟨g1, h⟩ := dG_some h
  refine va_iald hx hb hK hP 2 0 rfl rfl (dg_in g1) dX10_rankBehind_32 ?_
  obtain ⟨v2, ev2, h⟩ := dL_some h
  refine kz_topi v2 ev2 ?_
  exact WX10_rankBehind_33 C0  _ _ _ _ _ h hP hD hS (lv_sub hl [] rfl)
set_option maxHeartbeats 4000000 in
set_option maxRecDepth 100000 in
theorem qX10_rankBehind (l : Launch) (D : va_G) (ty : Nat → ClassId) (eo : Nat → Nat) (sz : Nat) (ad : Nat → Nat) (q : dS) (p1 : Int32) (p2 : Int32) (o1 : Int32) (o2 : dS) (h : zX10_rankBehind q p1 p2 = some (o1, o2)) : Met l yX10_rankBehind wsX10_rankBehind ({ frames := 2, cells := 0, slots := 0, locals := 43 } : Room) (va_Pc [.ref (ad 0), .int p1, .int p2] (kz_pre D ty eo (w10 ty ad q) sz)) (va_Qi (fun (r : Int32) (u : va_W) => o1 = r ∧ w10 ty ad o2 = u) (kz_B D ty (va_A (w10 ty ad q) sz)) (va_A (w10 ty ad q) sz)) 0 0 (va_A (w10 ty ad q) sz) := by
  refine Met.ofW (cc := cX10_rankBehind) (maxL := 3) (ret := (some .int)) (by decide) rfl ?_
  intro p e s m args below meth c s₁ B hml hv
  obtain ⟨rfl, hsz, hP, hK, hD0, hN, hE⟩ := hv
  have hx := B.exec
  have hb := B.bytes
  have hr := B.returns
  have hts := atoms_spec (ws := wsX10_rankBehind) B.pre
  have hown : s.vm.findClass RX10 = some m.cls := findClass_of_methodNamed B.named
  have hlocks := B.notSynchronized
  subst hsz
  have hD := hD0.self (sz := s.heap.size)
  generalize hAe : va_A (w10 ty ad q) s.heap.size = A at hD hE ⊢
  have hA : ∀ q : Nat, s.heap.size ≤ q → A q := fun q h => by rw [← hAe]; exact Or.inr h
  clear hAe
  have hS : va_S A s.heap s.heap [] := va_S.rf
  have hl := lv_entry ([.ref (ad 0), .int p1, .int p2]) (n := 3) (Nat.le_of_ble_eq_true rfl)
  rw [lg_entry_eq]
  generalize (lg_sl ([.ref (ad 0), .int p1, .int p2]) ++ List.replicate (3 - (lg_sl ([.ref (ad 0), .int p1, .int p2])).length) Slot.unset).toArray = ls at hl ⊢
  have hl : lv_has ls 3 [(0, .ref (ad 0)), (1, .int p1), (2, .int p2)] := hl
  have C : dc_C p s m _ meth c cX10_rankBehind (some .int) 3 RX10 wsX10_rankBehind D ty eo A := ⟨hx, hb, hr, hts, hown, hlocks, hml, hK, hN, hE, hA⟩
  unfold zX10_rankBehind at h
  refine lv_aload_n hx hb dX10_rankBehind_0 rfl (lv_at hl 0 rfl) ?_
  refine lv_iload_n hx hb dX10_rankBehind_1 rfl (lv_at hl 2 rfl) ?_
  obtain ⟨r1, q3, h2, h⟩ := dB_some h
  refine dw_ki (va_runV (As := [.int p2]) (rest := []) ⟨hx, hb, hml, hown, hts⟩ (qX10_isPlace l D ty eo _ ad q p2 r1 q3 h2) (cwV 1 hts gX10_rankBehind_X10_isPlace rfl rfl rfl hd_X10_isPlace_v ⟨Nat.le_of_ble_eq_true rfl, Nat.le_of_ble_eq_true rfl⟩) (pv10_10_0 hK hN hE hP hD hS hA) rfl rfl hl.1 rfl (lv_room (Nat.le_of_ble_eq_true rfl)) dX10_rankBehind_2 ⟨Nat.le_of_ble_eq_true rfl, Nat.le_of_ble_eq_true rfl⟩) hD hS hA (fun r9 u9 H locs hw hp hd hs => ?_)
  clear hP hD hS
  obtain ⟨rfl, rfl⟩ := hw
  have hP := hp; have hD := hd; have hS := hs; clear hp hd hs
  refine lv_if_ne (tgt := 12) hx hb dX10_rankBehind_5 (by decide) (fun c9 => ?_) (fun c9 => ?_)
  · rw [if_neg c9] at h
    refine lv_aload_n hx hb dX10_rankBehind_12 rfl (lv_at hl 0 rfl) ?_
    refine va_get (D := D) (ci := 10) (v := .ref (ad 2)) (C := RX10) (T := TX10) (N := 56) hx hb hts u9_wsX10_rankBehind_X10 hown hK hP 0 rfl rfl 2 (by decide) (hts (.fieldLink RX10 28 "TurnedFloorsModel" "kept" "[I") f9_wsX10_rankBehind_253) (fun _ h9 => h9) rfl dX10_rankBehind_13 ?_
    refine lv_iconst (v := 0) hx hb dX10_rankBehind_16 (by decide) ?_
    refine lv_iload_n hx hb dX10_rankBehind_17 rfl (lv_at hl 2 rfl) ?_
    refine lv_iload_n hx hb dX10_rankBehind_18 rfl (lv_at hl 1 rfl) ?_
    refine lv_icmp_ge (tgt := 30) hx hb dX10_rankBehind_19 (by decide) (fun c9 => ?_) (fun c9 => ?_)
    · rw [if_pos c9] at h
      refine lv_iload_n hx hb dX10_rankBehind_30 rfl (lv_at hl 2 rfl) ?_
      exact WX10_rankBehind_31 C  _ _ _ _ _ _ h hP hD hS (lv_sub hl [] rfl)
    · rw [if_neg c9] at h
      refine lv_iload_n hx hb dX10_rankBehind_22 rfl (lv_at hl 1 rfl) ?_
      refine lv_iconst (v := 1) hx hb dX10_rankBehind_23 (by decide) ?_
      refine lv_isub hx hb dX10_rankBehind_24 ?_
      refine lv_iload_n hx hb dX10_rankBehind_25 rfl (lv_at hl 2 rfl) ?_
      refine lv_isub hx hb dX10_rankBehind_26 ?_
      refine lv_goto (tgt := 31) hx hb dX10_rankBehind_27 (by decide) ?_
      exact WX10_rankBehind_31 C  _ _ _ _ _ _ h hP hD hS (lv_sub hl [] rfl)
  · rw [if_pos c9] at h
    refine lv_iconst (v := (-1)) hx hb dX10_rankBehind_8 (by decide) ?_
    refine lv_goto (tgt := 33) hx hb dX10_rankBehind_9 (by decide) ?_
    exact WX10_rankBehind_33 C  _ _ _ _ _ h hP hD hS (lv_sub hl [] rfl)

set_option maxHeartbeats 4000000 in
set_option maxRecDepth 100000 in
theorem WX10_itWas_67 {p : Program} {l : Launch} {e : Env} {s : State} {m : MethodId} {args : Array Value} {below : List Frame} {meth : Method} {c : Code} {D : va_G} {ty : Nat → ClassId} {eo : Nat → Nat} {A : Nat → Prop} {ad : Nat → Nat} {o1 : Int32} {o2 : dS} (C : dc_C p s m args meth c cX10_itWas (some .boolean) 4 RX10 wsX10_itWas D ty eo A)   (q : dS) (x2 : Int32) (H : Heap) (locs : List Loc) (ls : Array Slot) (h : zX10_itWas_67  q x2 = some (o1, o2)) (hP : va_P D vwCl (w10 ty ad q) H) (hD : va_D A (w10 ty ad q)) (hS : va_S A s.heap H locs) (hl : lv_has ls 4 [(2, .int x2)]) : W p l e ({ frames := 88, cells := 0, slots := 0, locals := 2244 } : Room) s m args below meth c H locs 0 0 (MQ below (va_Qi (fun (r : Int32) (u : va_W) => o1 = r ∧ w10 ty ad o2 = u) (kz_B D ty A) A) args s 0 0 A) (F0 m 67 ls []) := by
  have C0 := C
  obtain ⟨hx, hb, hr, hts, hown, hlocks, hml, hK, hN, hE, hA⟩ := C
  unfold zX10_itWas_67 at h
  refine lv_iload_n hx hb dX10_itWas_67 rfl (lv_at hl 0 rfl) ?_
  obtain ⟨g1, h⟩ := dG_some h
  cases h
  exact kz_zret hx hb hr hlocks (dbl_nar g1) hP hK hD hS dX10_itWas_68 ⟨rfl, rfl⟩
set_option maxHeartbeats 4000000 in
set_option maxRecDepth 100000 in
theorem WX10_itWas_60 {p : Program} {l : Launch} {e : Env} {s : State} {m : MethodId} {args : Array Value} {below : List Frame} {meth : Method} {c : Code} {D : va_G} {ty : Nat → ClassId} {eo : Nat → Nat} {A : Nat → Prop} {ad : Nat → Nat} {o1 : Int32} {o2 : dS} (C : dc_C p s m args meth c cX10_itWas (some .boolean) 4 RX10 wsX10_itWas D ty eo A) {k8 : dS → Int32 → Int32 → Int32 → Option (Int32 × dS)} (hk8 : ∀ (q : dS) (x1 : Int32) (x2 : Int32) (x3 : Int32) (H : Heap) (locs : List Loc) (ls : Array Slot), k8 q x1 x2 x3 = some (o1, o2) → va_P D vwCl (w10 ty ad q) H → va_D A (w10 ty ad q) → va_S A s.heap H locs → lv_has ls 4 [(0, .ref (ad 0)), (1, .int x1), (2, .int x2), (3, .int x3)] → W p l e ({ frames := 88, cells := 0, slots := 0, locals := 2244 } : Room) s m args below meth c H locs 0 0 (MQ below (va_Qi (fun (r : Int32) (u : va_W) => o1 = r ∧ w10 ty ad o2 = u) (kz_B D ty A) A) args s 0 0 A) (F0 m 8 ls [])) (q : dS) (x1 : Int32) (x3 : Int32) (y0 : Int32) (H : Heap) (locs : List Loc) (ls : Array Slot) (h : zX10_itWas_60 k8 q x1 x3 y0 = some (o1, o2)) (hP : va_P D vwCl (w10 ty ad q) H) (hD : va_D A (w10 ty ad q)) (hS : va_S A s.heap H locs) (hl : lv_has ls 4 [(0, .ref (ad 0)), (1, .int x1), (3, .int x3)]) : W p l e ({ frames := 88, cells := 0, slots := 0, locals := 2244 } : Room) s m args below meth c H locs 0 0 (MQ below (va_Qi (fun (r : Int32) (u : va_W) => o1 = r ∧ w10 ty ad o2 = u) (kz_B D ty A) A) args s 0 0 A) (F0 m 60 ls [.int y0]) := by
  have C0 := C
  obtain ⟨hx, hb, hr, hts, hown, hlocks, hml, hK, hN, hE, hA⟩ := C
  unfold zX10_itWas_60 at h
  refine lv_istore_n (lv' := [(2, .int y0), (0, .ref (ad 0)), (1, .int x1), (3, .int x3)]) hx hb dX10_itWas_60 rfl hl (by decide) rfl (fun ls hl => ?_)
  refine lv_iinc (v := x3 + 1) (lv' := [(3, .int (x3 + 1)), (2, .int y0), (0, .ref (ad 0)), (1, .int x1)]) hx hb dX10_itWas_61 hl (k := 3) rfl rfl (by decide) rfl (fun ls hl => ?_)
  refine lv_goto (tgt := 8) hx hb dX10_itWas_64 (by decide) ?_
  exact hk8 _ _ _ _ _ _ _ h hP hD hS (lv_sub hl [2, 3, 1, 0] rfl)
set_option maxHeartbeats 4000000 in
set_option maxRecDepth 100000 in
theorem WX10_itWas_8b {p : Program} {l : Launch} {e : Env} {s : State} {m : MethodId} {args : Array Value} {below : List Frame} {meth : Method} {c : Code} {D : va_G} {ty : Nat → ClassId} {eo : Nat → Nat} {A : Nat → Prop} {ad : Nat → Nat} {o1 : Int32} {o2 : dS} (C : dc_C p s m args meth c cX10_itWas (some .boolean) 4 RX10 wsX10_itWas D ty eo A) {k8 : dS → Int32 → Int32 → Int32 → Option (Int32 × dS)} (hk8 : ∀ (q : dS) (x1 : Int32) (x2 : Int32) (x3 : Int32) (H : Heap) (locs : List Loc) (ls : Array Slot), k8 q x1 x2 x3 = some (o1, o2) → va_P D vwCl (w10 ty ad q) H → va_D A (w10 ty ad q) → va_S A s.heap H locs → lv_has ls 4 [(0, .ref (ad 0)), (1, .int x1), (2, .int x2), (3, .int x3)] → W p l e ({ frames := 88, cells := 0, slots := 0, locals := 2244 } : Room) s m args below meth c H locs 0 0 (MQ below (va_Qi (fun (r : Int32) (u : va_W) => o1 = r ∧ w10 ty ad o2 = u) (kz_B D ty A) A) args s 0 0 A) (F0 m 8 ls [])) (q : dS) (x1 : Int32) (x2 : Int32) (x3 : Int32) (H : Heap) (locs : List Loc) (ls : Array Slot) (h : zX10_itWas_8b k8 q x1 x2 x3 = some (o1, o2)) (hP : va_P D vwCl (w10 ty ad q) H) (hD : va_D A (w10 ty ad q)) (hS : va_S A s.heap H locs) (hl : lv_has ls 4 [(0, .ref (ad 0)), (1, .int x1), (2, .int x2), (3, .int x3)]) : W p l e ({ frames := 88, cells := 0, slots := 0, locals := 2244 } : Room) s m args below meth c H locs 0 0 (MQ below (va_Qi (fun (r : Int32) (u : va_W) => o1 = r ∧ w10 ty ad o2 = u) (kz_B D ty A) A) args s 0 0 A) (F0 m 8 ls []) := by
  have C0 := C
  obtain ⟨hx, hb, hr, hts, hown, hlocks, hml, hK, hN, hE, hA⟩ := C
  unfold zX10_itWas_8b at h
  refine lv_iload_n hx hb dX10_itWas_8 rfl (lv_at hl 3 rfl) ?_
  refine lv_aload_n hx hb dX10_itWas_9 rfl (lv_at hl 0 rfl) ?_
  refine va_get (D := D) (ci := 10) (v := .ref (ad 2)) (C := RX10) (T := TX10) (N := 56) hx hb hts u9_wsX10_itWas_X10 hown hK hP 0 rfl rfl 2 (by decide) (hts (.fieldLink RX10 28 "TurnedFloorsModel" "kept" "[I") f9_wsX10_itWas_255) (fun _ h9 => h9) rfl dX10_itWas_10 ?_
  refine lv_bipush (v := 30) hx hb dX10_itWas_13 (by decide) ?_
  refine va_iald hx hb hK hP 2 0 rfl rfl (by simp only [vp_in]; decide) dX10_itWas_15 ?_
  refine kz_topi (q.1 2 30) (congrArg (q.1 2) (by decide +kernel : Int32.toNatClampNeg 30 = 30)) ?_
  refine lv_icmp_ge (tgt := 67) hx hb dX10_itWas_16 (by decide) (fun c9 => ?_) (fun c9 => ?_)
  · rw [if_pos c9] at h
    exact WX10_itWas_67 C0  _ _ _ _ _ h hP hD hS (lv_sub hl [2] rfl)
  · rw [if_neg c9] at h
    refine lv_iload_n hx hb dX10_itWas_19 rfl (lv_at hl 2 rfl) ?_
    refine lv_if_eq (tgt := 67) hx hb dX10_itWas_20 (by decide) (fun c9 => ?_) (fun c9 => ?_)
    · rw [if_pos c9] at h
      exact WX10_itWas_67 C0  _ _ _ _ _ h hP hD hS (lv_sub hl [2] rfl)
    · rw [if_neg c9] at h
      refine lv_aload_n hx hb dX10_itWas_23 rfl (lv_at hl 0 rfl) ?_
      refine lv_iload_n hx hb dX10_itWas_24 rfl (lv_at hl 1 rfl) ?_
      refine lv_aload_n hx hb dX10_itWas_25 rfl (lv_at hl 0 rfl) ?_
      refine va_get (D := D) (ci := 10) (v := .ref (ad 2)) (C := RX10) (T := TX10) (N := 56) hx hb hts u9_wsX10_itWas_X10 hown hK hP 0 rfl rfl 2 (by decide) (hts (.fieldLink RX10 28 "TurnedFloorsModel" "kept" "[I") f9_wsX10_itWas_255) (fun _ h9 => h9) rfl dX10_itWas_26 ?_
      refine lv_bipush (v := 14) hx hb dX10_itWas_29 (by decide) ?_
      refine lv_iconst (v := 2) hx hb dX10_itWas_31 (by decide) ?_
      refine lv_iload_n hx hb dX10_itWas_32 rfl (lv_at hl 3 rfl) ?_
      refine lv_imul hx hb dX10_itWas_33 ?_
      refine lv_iadd hx hb dX10_itWas_34 ?_
      obtain ⟨g1, h⟩ := dG_some h
      refine va_iald hx hb hK hP 2 0 rfl rfl (dg_in g1) dX10_itWas_35 ?_
      obtain ⟨v2, ev2, h⟩ := dL_some h
      refine kz_topi v2 ev2 ?_
      obtain ⟨r3, q5, h4, h⟩ := dB_some h
      refine dw_ki (va_runV (As := [.int x1, .int v2]) (rest := []) ⟨hx, hb, hml, hown, hts⟩ (qX10_rankBehind l D ty eo _ ad q x1 v2 r3 q5 h4) (cwV 2 hts gX10_itWas_X10_rankBehind rfl rfl rfl hd_X10_rankBehind_v ⟨Nat.le_of_ble_eq_true rfl, Nat.le_of_ble_eq_true rfl⟩) (pv10_10_0 hK hN hE hP hD hS hA) rfl rfl hl.1 rfl (lv_room (Nat.le_of_ble_eq_true rfl)) dX10_itWas_36 ⟨Nat.le_of_ble_eq_true rfl, Nat.le_of_ble_eq_true rfl⟩) hD hS hA (fun r9 u9 H locs hw hp hd hs => ?_)
      clear hP hD hS
      obtain ⟨rfl, rfl⟩ := hw
      have hP := hp; have hD := hd; have hS := hs; clear hp hd hs
      refine lv_aload_n hx hb dX10_itWas_39 rfl (lv_at hl 0 rfl) ?_
      refine va_get (D := D) (ci := 10) (v := .ref (ad 2)) (C := RX10) (T := TX10) (N := 56) hx hb hts u9_wsX10_itWas_X10 hown hK hP 0 rfl rfl 2 (by decide) (hts (.fieldLink RX10 28 "TurnedFloorsModel" "kept" "[I") f9_wsX10_itWas_255) (fun _ h9 => h9) rfl dX10_itWas_40 ?_
      refine lv_bipush (v := 14) hx hb dX10_itWas_43 (by decide) ?_
      refine lv_iconst (v := 2) hx hb dX10_itWas_45 (by decide) ?_
      refine lv_iload_n hx hb dX10_itWas_46 rfl (lv_at hl 3 rfl) ?_
      refine lv_imul hx hb dX10_itWas_47 ?_
      refine lv_iadd hx hb dX10_itWas_48 ?_
      refine lv_iconst (v := 1) hx hb dX10_itWas_49 (by decide) ?_
      refine lv_iadd hx hb dX10_itWas_50 ?_
      obtain ⟨g6, h⟩ := dG_some h
      refine va_iald hx hb hK hP 2 0 rfl rfl (dg_in g6) dX10_itWas_51 ?_
      obtain ⟨v7, ev7, h⟩ := dL_some h
      refine kz_topi v7 ev7 ?_
      refine lv_icmp_ne (tgt := 59) hx hb dX10_itWas_52 (by decide) (fun c9 => ?_) (fun c9 => ?_)
      · rw [if_neg c9] at h
        refine lv_iconst (v := 0) hx hb dX10_itWas_59 (by decide) ?_
        exact WX10_itWas_60 C0 hk8 _ _ _ _ _ _ _ h hP hD hS (lv_sub hl [0, 1, 3] rfl)
      · rw [if_pos c9] at h
        refine lv_iconst (v := 1) hx hb dX10_itWas_55 (by decide) ?_
        refine lv_goto (tgt := 60) hx hb dX10_itWas_56 (by decide) ?_
        exact WX10_itWas_60 C0 hk8 _ _ _ _ _ _ _ h hP hD hS (lv_sub hl [0, 1, 3] rfl)
set_option maxHeartbeats 4000000 in
set_option maxRecDepth 100000 in
theorem WX10_itWas_8 {p : Program} {l : Launch} {e : Env} {s : State} {m : MethodId} {args : Array Value} {below : List Frame} {meth : Method} {c : Code} {D : va_G} {ty : Nat → ClassId} {eo : Nat → Nat} {A : Nat → Prop} {ad : Nat → Nat} {o1 : Int32} {o2 : dS} (C : dc_C p s m args meth c cX10_itWas (some .boolean) 4 RX10 wsX10_itWas D ty eo A)   (n : Nat) (q : dS) (x1 : Int32) (x2 : Int32) (x3 : Int32) (H : Heap) (locs : List Loc) (ls : Array Slot) (h : zX10_itWas_8  n q x1 x2 x3 = some (o1, o2)) (hP : va_P D vwCl (w10 ty ad q) H) (hD : va_D A (w10 ty ad q)) (hS : va_S A s.heap H locs) (hl : lv_has ls 4 [(0, .ref (ad 0)), (1, .int x1), (2, .int x2), (3, .int x3)]) : W p l e ({ frames := 88, cells := 0, slots := 0, locals := 2244 } : Room) s m args below meth c H locs 0 0 (MQ below (va_Qi (fun (r : Int32) (u : va_W) => o1 = r ∧ w10 ty ad o2 = u) (kz_B D ty A) A) args s 0 0 A) (F0 m 8 ls []) := by
  exact dFix_W (F := fun k (a : dS × Int32 × Int32 × Int32) => zX10_itWas_8b  (fun q x1 x2 x3 => k (q, x1, x2, x3)) a.1 a.2.1 a.2.2.1 a.2.2.2) (o := (o1, o2)) (P := fun (a : dS × Int32 × Int32 × Int32) H locs ls => va_P D vwCl (w10 ty ad a.1) H ∧ va_D A (w10 ty ad a.1) ∧ va_S A s.heap H locs ∧ lv_has ls 4 [(0, .ref (ad 0)), (1, .int a.2.1), (2, .int a.2.2.1), (3, .int a.2.2.2)]) (G := fun H locs ls => W p l e ({ frames := 88, cells := 0, slots := 0, locals := 2244 } : Room) s m args below meth c H locs 0 0 (MQ below (va_Qi (fun (r : Int32) (u : va_W) => o1 = r ∧ w10 ty ad o2 = u) (kz_B D ty A) A) args s 0 0 A) (F0 m 8 ls []))
    (fun k hk a H locs ls h hp => WX10_itWas_8b C  (fun q x1 x2 x3 H locs ls h h1 h2 h3 h4 => hk (q, x1, x2, x3) H locs ls h ⟨h1, h2, h3, h4⟩) a.1 a.2.1 a.2.2.1 a.2.2.2 H locs ls h hp.1 hp.2.1 hp.2.2.1 hp.2.2.2) n (q, x1, x2, x3) H locs ls h ⟨hP, hD, hS, hl⟩
set_option maxHeartbeats 4000000 in
set_option maxRecDepth 100000 in
theorem qX10_itWas (l : Launch) (D : va_G) (ty : Nat → ClassId) (eo : Nat → Nat) (sz : Nat) (ad : Nat → Nat) (q : dS) (p1 : Int32) (o1 : Int32) (o2 : dS) (h : zX10_itWas q p1 = some (o1, o2)) : Met l yX10_itWas wsX10_itWas ({ frames := 88, cells := 0, slots := 0, locals := 2244 } : Room) (va_Pc [.ref (ad 0), .int p1] (kz_pre D ty eo (w10 ty ad q) sz)) (va_Qi (fun (r : Int32) (u : va_W) => o1 = r ∧ w10 ty ad o2 = u) (kz_B D ty (va_A (w10 ty ad q) sz)) (va_A (w10 ty ad q) sz)) 0 0 (va_A (w10 ty ad q) sz) := by
  refine Met.ofW (cc := cX10_itWas) (maxL := 4) (ret := (some .boolean)) (by decide) rfl ?_
  intro p e s m args below meth c s₁ B hml hv
  obtain ⟨rfl, hsz, hP, hK, hD0, hN, hE⟩ := hv
  have hx := B.exec
  have hb := B.bytes
  have hr := B.returns
  have hts := atoms_spec (ws := wsX10_itWas) B.pre
  have hown : s.vm.findClass RX10 = some m.cls := findClass_of_methodNamed B.named
  have hlocks := B.notSynchronized
  subst hsz
  have hD := hD0.self (sz := s.heap.size)
  generalize hAe : va_A (w10 ty ad q) s.heap.size = A at hD hE ⊢
  have hA : ∀ q : Nat, s.heap.size ≤ q → A q := fun q h => by rw [← hAe]; exact Or.inr h
  clear hAe
  have hS : va_S A s.heap s.heap [] := va_S.rf
  have hl := lv_entry ([.ref (ad 0), .int p1]) (n := 4) (Nat.le_of_ble_eq_true rfl)
  rw [lg_entry_eq]
  generalize (lg_sl ([.ref (ad 0), .int p1]) ++ List.replicate (4 - (lg_sl ([.ref (ad 0), .int p1])).length) Slot.unset).toArray = ls at hl ⊢
  have hl : lv_has ls 4 [(0, .ref (ad 0)), (1, .int p1)] := hl
  have C : dc_C p s m _ meth c cX10_itWas (some .boolean) 4 RX10 wsX10_itWas D ty eo A := ⟨hx, hb, hr, hts, hown, hlocks, hml, hK, hN, hE, hA⟩
  unfold zX10_itWas at h
  refine lv_aload_n hx hb dX10_itWas_0 rfl (lv_at hl 0 rfl) ?_
  refine lv_iload_n hx hb dX10_itWas_1 rfl (lv_at hl 1 rfl) ?_
  obtain ⟨r1, q3, h2, h⟩ := dB_some h
  refine dw_ki (va_runV (As := [.int p1]) (rest := []) ⟨hx, hb, hml, hown, hts⟩ (qX10_canTurn l D ty eo _ ad q p1 r1 q3 h2) (cwV 1 hts gX10_itWas_X10_canTurn rfl rfl rfl hd_X10_canTurn_v ⟨Nat.le_of_ble_eq_true rfl, Nat.le_of_ble_eq_true rfl⟩) (pv10_10_0 hK hN hE hP hD hS hA) rfl rfl hl.1 rfl (lv_room (Nat.le_of_ble_eq_true rfl)) dX10_itWas_2 ⟨Nat.le_of_ble_eq_true rfl, Nat.le_of_ble_eq_true rfl⟩) hD hS hA (fun r9 u9 H locs hw hp hd hs => ?_)
  clear hP hD hS
  obtain ⟨rfl, rfl⟩ := hw
  have hP := hp; have hD := hd; have hS := hs; clear hp hd hs
  refine lv_istore_n (lv' := [(2, .int r1), (0, .ref (ad 0)), (1, .int p1)]) hx hb dX10_itWas_5 rfl hl (by decide) rfl (fun ls hl => ?_)
  refine lv_iconst (v := 0) hx hb dX10_itWas_6 (by decide) ?_
  refine lv_istore_n (lv' := [(3, .int 0), (2, .int r1), (0, .ref (ad 0)), (1, .int p1)]) hx hb dX10_itWas_7 rfl hl (by decide) rfl (fun ls hl => ?_)
  exact WX10_itWas_8 C  _ _ _ _ _ _ _ _ h hP hD hS (lv_sub hl [2, 3, 1, 0] rfl)

set_option maxHeartbeats 4000000 in
set_option maxRecDepth 100000 in
theorem WX10_was_28 {p : Program} {l : Launch} {e : Env} {s : State} {m : MethodId} {args : Array Value} {below : List Frame} {meth : Method} {c : Code} {D : va_G} {ty : Nat → ClassId} {eo : Nat → Nat} {A : Nat → Prop} {ad : Nat → Nat} {o1 : Int32} {o2 : dS} (C : dc_C p s m args meth c cX10_was (some .int) 3 RX10 wsX10_was D ty eo A) {k4 : dS → Int32 → Int32 → Option (Int32 × dS)} (hk4 : ∀ (q : dS) (x1 : Int32) (x2 : Int32) (H : Heap) (locs : List Loc) (ls : Array Slot), k4 q x1 x2 = some (o1, o2) → va_P D vwCl (w10 ty ad q) H → va_D A (w10 ty ad q) → va_S A s.heap H locs → lv_has ls 3 [(0, .ref (ad 0)), (1, .int x1), (2, .int x2)] → W p l e ({ frames := 89, cells := 0, slots := 0, locals := 2267 } : Room) s m args below meth c H locs 0 0 (MQ below (va_Qi (fun (r : Int32) (u : va_W) => o1 = r ∧ w10 ty ad o2 = u) (kz_B D ty A) A) args s 0 0 A) (F0 m 4 ls [])) (q : dS) (x2 : Int32) (y0 : Int32) (y1 : Int32) (H : Heap) (locs : List Loc) (ls : Array Slot) (h : zX10_was_28 k4 q x2 y0 y1 = some (o1, o2)) (hP : va_P D vwCl (w10 ty ad q) H) (hD : va_D A (w10 ty ad q)) (hS : va_S A s.heap H locs) (hl : lv_has ls 3 [(0, .ref (ad 0)), (2, .int x2)]) : W p l e ({ frames := 89, cells := 0, slots := 0, locals := 2267 } : Room) s m args below meth c H locs 0 0 (MQ below (va_Qi (fun (r : Int32) (u : va_W) => o1 = r ∧ w10 ty ad o2 = u) (kz_B D ty A) A) args s 0 0 A) (F0 m 28 ls [.int y0, .int y1]) := by
  have C0 := C
  obtain ⟨hx, hb, hr, hts, hown, hlocks, hml, hK, hN, hE, hA⟩ := C
  unfold zX10_was_28 at h
  refine lv_ior hx hb dX10_was_28 ?_
  refine lv_istore_n (lv' := [(1, .int (y1 ||| y0)), (0, .ref (ad 0)), (2, .int x2)]) hx hb dX10_was_29 rfl hl (by decide) rfl (fun ls hl => ?_)
  refine lv_iinc (v := x2 + 1) (lv' := [(2, .int (x2 + 1)), (1, .int (y1 ||| y0)), (0, .ref (ad 0))]) hx hb dX10_was_30 hl (k := 2) rfl rfl (by decide) rfl (fun ls hl => ?_)
  refine lv_goto (tgt := 4) hx hb dX10_was_33 (by decide) ?_
  exact hk4 _ _ _ _ _ _ h hP hD hS (lv_sub hl [2, 1, 0] rfl)
set_option maxHeartbeats 4000000 in
set_option maxRecDepth 100000 in
theorem WX10_was_4b {p : Program} {l : Launch} {e : Env} {s : State} {m : MethodId} {args : Array Value} {below : List Frame} {meth : Method} {c : Code} {D : va_G} {ty : Nat → ClassId} {eo : Nat → Nat} {A : Nat → Prop} {ad : Nat → Nat} {o1 : Int32} {o2 : dS} (C : dc_C p s m args meth c cX10_was (some .int) 3 RX10 wsX10_was D ty eo A) {k4 : dS → Int32 → Int32 → Option (Int32 × dS)} (hk4 : ∀ (q : dS) (x1 : Int32) (x2 : Int32) (H : Heap) (locs : List Loc) (ls : Array Slot), k4 q x1 x2 = some (o1, o2) → va_P D vwCl (w10 ty ad q) H → va_D A (w10 ty ad q) → va_S A s.heap H locs → lv_has ls 3 [(0, .ref (ad 0)), (1, .int x1), (2, .int x2)] → W p l e ({ frames := 89, cells := 0, slots := 0, locals := 2267 } : Room) s m args below meth c H locs 0 0 (MQ below (va_Qi (fun (r : Int32) (u : va_W) => o1 = r ∧ w10 ty ad o2 = u) (kz_B D ty A) A) args s 0 0 A) (F0 m 4 ls [])) (q : dS) (x1 : Int32) (x2 : Int32) (H : Heap) (locs : List Loc) (ls : Array Slot) (h : zX10_was_4b k4 q x1 x2 = some (o1, o2)) (hP : va_P D vwCl (w10 ty ad q) H) (hD : va_D A (w10 ty ad q)) (hS : va_S A s.heap H locs) (hl : lv_has ls 3 [(0, .ref (ad 0)), (1, .int x1), (2, .int x2)]) : W p l e ({ frames := 89, cells := 0, slots := 0, locals := 2267 } : Room) s m args below meth c H locs 0 0 (MQ below (va_Qi (fun (r : Int32) (u : va_W) => o1 = r ∧ w10 ty ad o2 = u) (kz_B D ty A) A) args s 0 0 A) (F0 m 4 ls []) := by
  have C0 := C
  obtain ⟨hx, hb, hr, hts, hown, hlocks, hml, hK, hN, hE, hA⟩ := C
  unfold zX10_was_4b at h
  refine lv_iload_n hx hb dX10_was_4 rfl (lv_at hl 2 rfl) ?_
  refine lv_aload_n hx hb dX10_was_5 rfl (lv_at hl 0 rfl) ?_
  obtain ⟨r1, q3, h2, h⟩ := dB_some h
  refine dw_ki (va_runV (As := []) (rest := [.int x2]) ⟨hx, hb, hml, hown, hts⟩ (qX10_size l D ty eo _ ad q  r1 q3 h2) (cwV 0 hts gX10_was_X10_size rfl rfl rfl hd_X10_size_v ⟨Nat.le_of_ble_eq_true rfl, Nat.le_of_ble_eq_true rfl⟩) (pv10_10_0 hK hN hE hP hD hS hA) rfl rfl hl.1 rfl (lv_room (Nat.le_of_ble_eq_true rfl)) dX10_was_6 ⟨Nat.le_of_ble_eq_true rfl, Nat.le_of_ble_eq_true rfl⟩) hD hS hA (fun r9 u9 H locs hw hp hd hs => ?_)
  clear hP hD hS
  obtain ⟨rfl, rfl⟩ := hw
  have hP := hp; have hD := hd; have hS := hs; clear hp hd hs
  refine lv_icmp_gt (tgt := 36) hx hb dX10_was_9 (by decide) (fun c9 => ?_) (fun c9 => ?_)
  · rw [if_pos c9] at h
    refine lv_iload_n hx hb dX10_was_36 rfl (lv_at hl 1 rfl) ?_
    cases h
    exact kz_iret hx hb hr hlocks hP hK hD hS dX10_was_37 ⟨rfl, rfl⟩
  · rw [if_neg c9] at h
    refine lv_iload_n hx hb dX10_was_12 rfl (lv_at hl 1 rfl) ?_
    refine lv_aload_n hx hb dX10_was_13 rfl (lv_at hl 0 rfl) ?_
    refine lv_iload_n hx hb dX10_was_14 rfl (lv_at hl 2 rfl) ?_
    obtain ⟨r4, q6, h5, h⟩ := dB_some h
    refine dw_ki (va_runV (As := [.int x2]) (rest := [.int x1]) ⟨hx, hb, hml, hown, hts⟩ (qX10_itWas l D ty eo _ ad q3 x2 r4 q6 h5) (cwV 1 hts gX10_was_X10_itWas rfl rfl rfl hd_X10_itWas_v ⟨Nat.le_of_ble_eq_true rfl, Nat.le_of_ble_eq_true rfl⟩) (pv10_10_0 hK hN hE hP hD hS hA) rfl rfl hl.1 rfl (lv_room (Nat.le_of_ble_eq_true rfl)) dX10_was_15 ⟨Nat.le_of_ble_eq_true rfl, Nat.le_of_ble_eq_true rfl⟩) hD hS hA (fun r9 u9 H locs hw hp hd hs => ?_)
    clear hP hD hS
    obtain ⟨rfl, rfl⟩ := hw
    have hP := hp; have hD := hd; have hS := hs; clear hp hd hs
    refine lv_if_eq (tgt := 27) hx hb dX10_was_18 (by decide) (fun c9 => ?_) (fun c9 => ?_)
    · rw [if_pos c9] at h
      refine lv_iconst (v := 0) hx hb dX10_was_27 (by decide) ?_
      exact WX10_was_28 C0 hk4 _ _ _ _ _ _ _ h hP hD hS (lv_sub hl [0, 2] rfl)
    · rw [if_neg c9] at h
      refine lv_iconst (v := 1) hx hb dX10_was_21 (by decide) ?_
      refine lv_iload_n hx hb dX10_was_22 rfl (lv_at hl 2 rfl) ?_
      refine lv_ishl hx hb dX10_was_23 ?_
      refine lv_goto (tgt := 28) hx hb dX10_was_24 (by decide) ?_
      exact WX10_was_28 C0 hk4 _ _ _ _ _ _ _ h hP hD hS (lv_sub hl [0, 2] rfl)
set_option maxHeartbeats 4000000 in
set_option maxRecDepth 100000 in
theorem WX10_was_4 {p : Program} {l : Launch} {e : Env} {s : State} {m : MethodId} {args : Array Value} {below : List Frame} {meth : Method} {c : Code} {D : va_G} {ty : Nat → ClassId} {eo : Nat → Nat} {A : Nat → Prop} {ad : Nat → Nat} {o1 : Int32} {o2 : dS} (C : dc_C p s m args meth c cX10_was (some .int) 3 RX10 wsX10_was D ty eo A)   (n : Nat) (q : dS) (x1 : Int32) (x2 : Int32) (H : Heap) (locs : List Loc) (ls : Array Slot) (h : zX10_was_4  n q x1 x2 = some (o1, o2)) (hP : va_P D vwCl (w10 ty ad q) H) (hD : va_D A (w10 ty ad q)) (hS : va_S A s.heap H locs) (hl : lv_has ls 3 [(0, .ref (ad 0)), (1, .int x1), (2, .int x2)]) : W p l e ({ frames := 89, cells := 0, slots := 0, locals := 2267 } : Room) s m args below meth c H locs 0 0 (MQ below (va_Qi (fun (r : Int32) (u : va_W) => o1 = r ∧ w10 ty ad o2 = u) (kz_B D ty A) A) args s 0 0 A) (F0 m 4 ls []) := by
  exact dFix_W (F := fun k (a : dS × Int32 × Int32) => zX10_was_4b  (fun q x1 x2 => k (q, x1, x2)) a.1 a.2.1 a.2.2) (o := (o1, o2)) (P := fun (a : dS × Int32 × Int32) H locs ls => va_P D vwCl (w10 ty ad a.1) H ∧ va_D A (w10 ty ad a.1) ∧ va_S A s.heap H locs ∧ lv_has ls 3 [(0, .ref (ad 0)), (1, .int a.2.1), (2, .int a.2.2)]) (G := fun H locs ls => W p l e ({ frames := 89, cells := 0, slots := 0, locals := 2267 } : Room) s m args below meth c H locs 0 0 (MQ below (va_Qi (fun (r : Int32) (u : va_W) => o1 = r ∧ w10 ty ad o2 = u) (kz_B D ty A) A) args s 0 0 A) (F0 m 4 ls []))
    (fun k hk a H locs ls h hp => WX10_was_4b C  (fun q x1 x2 H locs ls h h1 h2 h3 h4 => hk (q, x1, x2) H locs ls h ⟨h1, h2, h3, h4⟩) a.1 a.2.1 a.2.2 H locs ls h hp.1 hp.2.1 hp.2.2.1 hp.2.2.2) n (q, x1, x2) H locs ls h ⟨hP, hD, hS, hl⟩
set_option maxHeartbeats 4000000 in
set_option maxRecDepth 100000 in
theorem qX10_was (l : Launch) (D : va_G) (ty : Nat → ClassId) (eo : Nat → Nat) (sz : Nat) (ad : Nat → Nat) (q : dS)  (o1 : Int32) (o2 : dS) (h : zX10_was q = some (o1, o2)) : Met l yX10_was wsX10_was ({ frames := 89, cells := 0, slots := 0, locals := 2267 } : Room) (va_Pc [.ref (ad 0)] (kz_pre D ty eo (w10 ty ad q) sz)) (va_Qi (fun (r : Int32) (u : va_W) => o1 = r ∧ w10 ty ad o2 = u) (kz_B D ty (va_A (w10 ty ad q) sz)) (va_A (w10 ty ad q) sz)) 0 0 (va_A (w10 ty ad q) sz) := by
  refine Met.ofW (cc := cX10_was) (maxL := 3) (ret := (some .int)) (by decide) rfl ?_
  intro p e s m args below meth c s₁ B hml hv
  obtain ⟨rfl, hsz, hP, hK, hD0, hN, hE⟩ := hv
  have hx := B.exec
  have hb := B.bytes
  have hr := B.returns
  have hts := atoms_spec (ws := wsX10_was) B.pre
  have hown : s.vm.findClass RX10 = some m.cls := findClass_of_methodNamed B.named
  have hlocks := B.notSynchronized
  subst hsz
  have hD := hD0.self (sz := s.heap.size)
  generalize hAe : va_A (w10 ty ad q) s.heap.size = A at hD hE ⊢
  have hA : ∀ q : Nat, s.heap.size ≤ q → A q := fun q h => by rw [← hAe]; exact Or.inr h
  clear hAe
  have hS : va_S A s.heap s.heap [] := va_S.rf
  have hl := lv_entry ([.ref (ad 0)]) (n := 3) (Nat.le_of_ble_eq_true rfl)
  rw [lg_entry_eq]
  generalize (lg_sl ([.ref (ad 0)]) ++ List.replicate (3 - (lg_sl ([.ref (ad 0)])).length) Slot.unset).toArray = ls at hl ⊢
  have hl : lv_has ls 3 [(0, .ref (ad 0))] := hl
  have C : dc_C p s m _ meth c cX10_was (some .int) 3 RX10 wsX10_was D ty eo A := ⟨hx, hb, hr, hts, hown, hlocks, hml, hK, hN, hE, hA⟩
  unfold zX10_was at h
  refine lv_iconst (v := 0) hx hb dX10_was_0 (by decide) ?_
  refine lv_istore_n (lv' := [(1, .int 0), (0, .ref (ad 0))]) hx hb dX10_was_1 rfl hl (by decide) rfl (fun ls hl => ?_)
  refine lv_iconst (v := 1) hx hb dX10_was_2 (by decide) ?_
  refine lv_istore_n (lv' := [(2, .int 1), (1, .int 0), (0, .ref (ad 0))]) hx hb dX10_was_3 rfl hl (by decide) rfl (fun ls hl => ?_)
  exact WX10_was_4 C  _ _ _ _ _ _ _ h hP hD hS (lv_sub hl [2, 1, 0] rfl)

set_option maxHeartbeats 4000000 in
set_option maxRecDepth 100000 in
theorem WX10_mostAlike_79 {p : Program} {l : Launch} {e : Env} {s : State} {m : MethodId} {args : Array Value} {below : List Frame} {meth : Method} {c : Code} {D : va_G} {ty : Nat → ClassId} {eo : Nat → Nat} {A : Nat → Prop} {ad : Nat → Nat} {o1 : Int32} {o2 : dS} (C : dc_C p s m args meth c cX10_mostAlike (some .int) 6 RX10 wsX10_mostAlike D ty eo A) {k26 : dS → Int32 → Int32 → Int32 → Int32 → Option (Int32 × dS)} (hk26 : ∀ (q : dS) (x1 : Int32) (x2 : Int32) (x3 : Int32) (x4 : Int32) (H : Heap) (locs : List Loc) (ls : Array Slot), k26 q x1 x2 x3 x4 = some (o1, o2) → va_P D vwCl (w10 ty ad q) H → va_D A (w10 ty ad q) → va_S A s.heap H locs → lv_has ls 6 [(0, .ref (ad 0)), (1, .int x1), (2, .int x2), (3, .int x3), (4, .int x4)] → W p l e ({ frames := 3, cells := 0, slots := 0, locals := 65 } : Room) s m args below meth c H locs 0 0 (MQ below (va_Qi (fun (r : Int32) (u : va_W) => o1 = r ∧ w10 ty ad o2 = u) (kz_B D ty A) A) args s 0 0 A) (F0 m 26 ls [])) (q : dS) (x1 : Int32) (x2 : Int32) (x3 : Int32) (x4 : Int32) (H : Heap) (locs : List Loc) (ls : Array Slot) (h : zX10_mostAlike_79 k26 q x1 x2 x3 x4 = some (o1, o2)) (hP : va_P D vwCl (w10 ty ad q) H) (hD : va_D A (w10 ty ad q)) (hS : va_S A s.heap H locs) (hl : lv_has ls 6 [(0, .ref (ad 0)), (1, .int x1), (2, .int x2), (3, .int x3), (4, .int x4)]) : W p l e ({ frames := 3, cells := 0, slots := 0, locals := 65 } : Room) s m args below meth c H locs 0 0 (MQ below (va_Qi (fun (r : Int32) (u : va_W) => o1 = r ∧ w10 ty ad o2 = u) (kz_B D ty A) A) args s 0 0 A) (F0 m 79 ls []) := by
  have C0 := C
  obtain ⟨hx, hb, hr, hts, hown, hlocks, hml, hK, hN, hE, hA⟩ := C
  unfold zX10_mostAlike_79 at h
  refine lv_iinc (v := x4 + 1) (lv' := [(4, .int (x4 + 1)), (0, .ref (ad 0)), (1, .int x1), (2, .int x2), (3, .int x3)]) hx hb dX10_mostAlike_79 hl (k := 4) rfl rfl (by decide) rfl (fun ls hl => ?_)
  refine lv_goto (tgt := 26) hx hb dX10_mostAlike_82 (by decide) ?_
  exact hk26 _ _ _ _ _ _ _ _ h hP hD hS (lv_sub hl [1, 2, 3, 4, 0] rfl)
set_option maxHeartbeats 4000000 in
set_option maxRecDepth 100000 in
theorem WX10_mostAlike_26b {p : Program} {l : Launch} {e : Env} {s : State} {m : MethodId} {args : Array Value} {below : List Frame} {meth : Method} {c : Code} {D : va_G} {ty : Nat → ClassId} {eo : Nat → Nat} {A : Nat → Prop} {ad : Nat → Nat} {o1 : Int32} {o2 : dS} (C : dc_C p s m args meth c cX10_mostAlike (some .int) 6 RX10 wsX10_mostAlike D ty eo A) {k26 : dS → Int32 → Int32 → Int32 → Int32 → Option (Int32 × dS)} (hk26 : ∀ (q : dS) (x1 : Int32) (x2 : Int32) (x3 : Int32) (x4 : Int32) (H : Heap) (locs : List Loc) (ls : Array Slot), k26 q x1 x2 x3 x4 = some (o1, o2) → va_P D vwCl (w10 ty ad q) H → va_D A (w10 ty ad q) → va_S A s.heap H locs → lv_has ls 6 [(0, .ref (ad 0)), (1, .int x1), (2, .int x2), (3, .int x3), (4, .int x4)] → W p l e ({ frames := 3, cells := 0, slots := 0, locals := 65 } : Room) s m args below meth c H locs 0 0 (MQ below (va_Qi (fun (r : Int32) (u : va_W) => o1 = r ∧ w10 ty ad o2 = u) (kz_B D ty A) A) args s 0 0 A) (F0 m 26 ls [])) (q : dS) (x1 : Int32) (x2 : Int32) (x3 : Int32) (x4 : Int32) (H : Heap) (locs : List Loc) (ls : Array Slot) (h : zX10_mostAlike_26b k26 q x1 x2 x3 x4 = some (o1, o2)) (hP : va_P D vwCl (w10 ty ad q) H) (hD : va_D A (w10 ty ad q)) (hS : va_S A s.heap H locs) (hl : lv_has ls 6 [(0, .ref (ad 0)), (1, .int x1), (2, .int x2), (3, .int x3), (4, .int x4)]) : W p l e ({ frames := 3, cells := 0, slots := 0, locals := 65 } : Room) s m args below meth c H locs 0 0 (MQ below (va_Qi (fun (r : Int32) (u : va_W) => o1 = r ∧ w10 ty ad o2 = u) (kz_B D ty A) A) args s 0 0 A) (F0 m 26 ls []) := by
  have C0 := C
  obtain ⟨hx, hb, hr, hts, hown, hlocks, hml, hK, hN, hE, hA⟩ := C
  unfold zX10_mostAlike_26b at h
  refine lv_iload hx hb dX10_mostAlike_26 (lv_at hl 4 rfl) ?_
  refine lv_aload_n hx hb dX10_mostAlike_28 rfl (lv_at hl 0 rfl) ?_
  obtain ⟨r1, q3, h2, h⟩ := dB_some h
  refine dw_ki (va_runV (As := []) (rest := [.int x4]) ⟨hx, hb, hml, hown, hts⟩ (qX10_size l D ty eo _ ad q  r1 q3 h2) (cwV 0 hts gX10_mostAlike_X10_size rfl rfl rfl hd_X10_size_v ⟨Nat.le_of_ble_eq_true rfl, Nat.le_of_ble_eq_true rfl⟩) (pv10_10_0 hK hN hE hP hD hS hA) rfl rfl hl.1 rfl (lv_room (Nat.le_of_ble_eq_true rfl)) dX10_mostAlike_29 ⟨Nat.le_of_ble_eq_true rfl, Nat.le_of_ble_eq_true rfl⟩) hD hS hA (fun r9 u9 H locs hw hp hd hs => ?_)
  clear hP hD hS
  obtain ⟨rfl, rfl⟩ := hw
  have hP := hp; have hD := hd; have hS := hs; clear hp hd hs
  refine lv_icmp_gt (tgt := 85) hx hb dX10_mostAlike_32 (by decide) (fun c9 => ?_) (fun c9 => ?_)
  · rw [if_pos c9] at h
    refine lv_iload_n hx hb dX10_mostAlike_85 rfl (lv_at hl 3 rfl) ?_
    cases h
    exact kz_iret hx hb hr hlocks hP hK hD hS dX10_mostAlike_86 ⟨rfl, rfl⟩
  · rw [if_neg c9] at h
    refine lv_iload_n hx hb dX10_mostAlike_35 rfl (lv_at hl 1 rfl) ?_
    refine lv_iload hx hb dX10_mostAlike_36 (lv_at hl 4 rfl) ?_
    obtain ⟨r4, h5, h⟩ := dV_some h
    refine dw_ks (va_runS (As := [.int x1, .int x4]) (rest := []) ⟨hx, hb, hml, hown, hts⟩ (qX10_isIn l D ty eo _ x1 x4 _ h5) (va_cwS 2 hts gX10_mostAlike_X10_isIn rfl rfl rfl hd_X10_isIn ⟨Nat.le_of_ble_eq_true rfl, Nat.le_of_ble_eq_true rfl⟩) (pvS_0 hK hN hE hP hD hS hA) rfl rfl hl.1 rfl (lv_room (Nat.le_of_ble_eq_true rfl)) dX10_mostAlike_38 ⟨Nat.le_of_ble_eq_true rfl, Nat.le_of_ble_eq_true rfl⟩) hP hD hS hA (fun _ _ h9 => h9.2.symm) (fun r9 u9 H locs hw hp hd hs => ?_)
    obtain ⟨rfl, -⟩ := hw
    clear hP hD hS
    have hP := hp; have hD := hd; have hS := hs; clear hp hd hs
    refine lv_if_ne (tgt := 47) hx hb dX10_mostAlike_41 (by decide) (fun c9 => ?_) (fun c9 => ?_)
    · rw [if_neg c9] at h
      refine lv_aload_n hx hb dX10_mostAlike_47 rfl (lv_at hl 0 rfl) ?_
      refine lv_iload hx hb dX10_mostAlike_48 (lv_at hl 4 rfl) ?_
      refine lv_iload_n hx hb dX10_mostAlike_50 rfl (lv_at hl 2 rfl) ?_
      obtain ⟨r6, q8, h7, h⟩ := dB_some h
      refine dw_ki (va_runV (As := [.int x4, .int x2]) (rest := []) ⟨hx, hb, hml, hown, hts⟩ (qX10_rankBehind l D ty eo _ ad q3 x4 x2 r6 q8 h7) (cwV 2 hts gX10_mostAlike_X10_rankBehind rfl rfl rfl hd_X10_rankBehind_v ⟨Nat.le_of_ble_eq_true rfl, Nat.le_of_ble_eq_true rfl⟩) (pv10_10_0 hK hN hE hP hD hS hA) rfl rfl hl.1 rfl (lv_room (Nat.le_of_ble_eq_true rfl)) dX10_mostAlike_51 ⟨Nat.le_of_ble_eq_true rfl, Nat.le_of_ble_eq_true rfl⟩) hD hS hA (fun r9 u9 H locs hw hp hd hs => ?_)
      clear hP hD hS
      obtain ⟨rfl, rfl⟩ := hw
      have hP := hp; have hD := hd; have hS := hs; clear hp hd hs
      refine lv_istore (lv' := [(5, .int r6), (0, .ref (ad 0)), (1, .int x1), (2, .int x2), (3, .int x3), (4, .int x4)]) hx hb dX10_mostAlike_54 hl (by decide) rfl (fun ls hl => ?_)
      refine lv_aload_n hx hb dX10_mostAlike_56 rfl (lv_at hl 1 rfl) ?_
      refine va_get (D := D) (ci := 10) (v := .ref (ad 25)) (C := RX10) (T := TX10) (N := 56) hx hb hts u9_wsX10_mostAlike_X10 hown hK hP 0 rfl rfl 44 (by decide) (hts (.fieldLink RX10 103 "TurnedFloorsModel" "alike" "[I") f9_wsX10_mostAlike_257) (fun _ h9 => h9) rfl dX10_mostAlike_57 ?_
      refine lv_iload hx hb dX10_mostAlike_60 (lv_at hl 0 rfl) ?_
      refine lv_dup2_11 hx hb dX10_mostAlike_62 rfl rfl ?_
      obtain ⟨g9, h⟩ := dG_some h
      refine va_iald hx hb hK hP 25 0 rfl rfl (dg_in g9) dX10_mostAlike_63 ?_
      obtain ⟨v10, ev10, h⟩ := dL_some h
      refine kz_topi v10 ev10 ?_
      refine lv_iconst (v := 1) hx hb dX10_mostAlike_64 (by decide) ?_
      refine lv_iadd hx hb dX10_mostAlike_65 ?_
      obtain ⟨g11, h⟩ := dG_some h
      refine va_iast hx hb hK hP hD hS 25 0 rfl rfl (dg_in g11) dX10_mostAlike_66 (fun H locs hp hd hs => ?_)
      obtain ⟨q12, eq12, h⟩ := dL_some h
      refine kz_re (w2 := w10 ty ad q12) hp hd hs (by rw [← eq12]; exact w10_a25 ty ad q8 (Int32.toNatClampNeg r6) (v10 + 1 : Int32)) ?_
      clear hp hd hs hP hD hS
      intro hP hD hS
      refine lv_iload_n hx hb dX10_mostAlike_67 rfl (lv_at hl 4 rfl) ?_
      refine lv_aload_n hx hb dX10_mostAlike_68 rfl (lv_at hl 1 rfl) ?_
      refine va_get (D := D) (ci := 10) (v := .ref (ad 25)) (C := RX10) (T := TX10) (N := 56) hx hb hts u9_wsX10_mostAlike_X10 hown hK hP 0 rfl rfl 44 (by decide) (hts (.fieldLink RX10 103 "TurnedFloorsModel" "alike" "[I") f9_wsX10_mostAlike_257) (fun _ h9 => h9) rfl dX10_mostAlike_69 ?_
      refine lv_iload hx hb dX10_mostAlike_72 (lv_at hl 0 rfl) ?_
      obtain ⟨g13, h⟩ := dG_some h
      refine va_iald hx hb hK hP 25 0 rfl rfl (dg_in g13) dX10_mostAlike_74 ?_
      obtain ⟨v14, ev14, h⟩ := dL_some h
      refine kz_topi v14 ev14 ?_
      obtain ⟨r15, h16, h⟩ := dV_some h
      refine dw_ks (va_runS (As := [.int x3, .int v14]) (rest := []) ⟨hx, hb, hml, hown, hts⟩ (qX10_greater l D ty eo _ x3 v14 _ h16) (va_cwS 2 hts gX10_mostAlike_X10_greater rfl rfl rfl hd_X10_greater ⟨Nat.le_of_ble_eq_true rfl, Nat.le_of_ble_eq_true rfl⟩) (pvS_0 hK hN hE hP hD hS hA) rfl rfl hl.1 rfl (lv_room (Nat.le_of_ble_eq_true rfl)) dX10_mostAlike_75 ⟨Nat.le_of_ble_eq_true rfl, Nat.le_of_ble_eq_true rfl⟩) hP hD hS hA (fun _ _ h9 => h9.2.symm) (fun r9 u9 H locs hw hp hd hs => ?_)
      obtain ⟨rfl, -⟩ := hw
      clear hP hD hS
      have hP := hp; have hD := hd; have hS := hs; clear hp hd hs
      refine lv_istore_n (lv' := [(3, .int r15), (5, .int r6), (0, .ref (ad 0)), (1, .int x1), (2, .int x2), (4, .int x4)]) hx hb dX10_mostAlike_78 rfl hl (by decide) rfl (fun ls hl => ?_)
      exact WX10_mostAlike_79 C0 hk26 _ _ _ _ _ _ _ _ h hP hD hS (lv_sub hl [2, 3, 4, 0, 5] rfl)
    · rw [if_pos c9] at h
      refine lv_goto (tgt := 79) hx hb dX10_mostAlike_44 (by decide) ?_
      exact WX10_mostAlike_79 C0 hk26 _ _ _ _ _ _ _ _ h hP hD hS (lv_sub hl [0, 1, 2, 3, 4] rfl)
set_option maxHeartbeats 4000000 in
set_option maxRecDepth 100000 in
theorem WX10_mostAlike_26 {p : Program} {l : Launch} {e : Env} {s : State} {m : MethodId} {args : Array Value} {below : List Frame} {meth : Method} {c : Code} {D : va_G} {ty : Nat → ClassId} {eo : Nat → Nat} {A : Nat → Prop} {ad : Nat → Nat} {o1 : Int32} {o2 : dS} (C : dc_C p s m args meth c cX10_mostAlike (some .int) 6 RX10 wsX10_mostAlike D ty eo A)   (n : Nat) (q : dS) (x1 : Int32) (x2 : Int32) (x3 : Int32) (x4 : Int32) (H : Heap) (locs : List Loc) (ls : Array Slot) (h : zX10_mostAlike_26  n q x1 x2 x3 x4 = some (o1, o2)) (hP : va_P D vwCl (w10 ty ad q) H) (hD : va_D A (w10 ty ad q)) (hS : va_S A s.heap H locs) (hl : lv_has ls 6 [(0, .ref (ad 0)), (1, .int x1), (2, .int x2), (3, .int x3), (4, .int x4)]) : W p l e ({ frames := 3, cells := 0, slots := 0, locals := 65 } : Room) s m args below meth c H locs 0 0 (MQ below (va_Qi (fun (r : Int32) (u : va_W) => o1 = r ∧ w10 ty ad o2 = u) (kz_B D ty A) A) args s 0 0 A) (F0 m 26 ls []) := by
  exact dFix_W (F := fun k (a : dS × Int32 × Int32 × Int32 × Int32) => zX10_mostAlike_26b  (fun q x1 x2 x3 x4 => k (q, x1, x2, x3, x4)) a.1 a.2.1 a.2.2.1 a.2.2.2.1 a.2.2.2.2) (o := (o1, o2)) (P := fun (a : dS × Int32 × Int32 × Int32 × Int32) H locs ls => va_P D vwCl (w10 ty ad a.1) H ∧ va_D A (w10 ty ad a.1) ∧ va_S A s.heap H locs ∧ lv_has ls 6 [(0, .ref (ad 0)), (1, .int a.2.1), (2, .int a.2.2.1), (3, .int a.2.2.2.1), (4, .int a.2.2.2.2)]) (G := fun H locs ls => W p l e ({ frames := 3, cells := 0, slots := 0, locals := 65 } : Room) s m args below meth c H locs 0 0 (MQ below (va_Qi (fun (r : Int32) (u : va_W) => o1 = r ∧ w10 ty ad o2 = u) (kz_B D ty A) A) args s 0 0 A) (F0 m 26 ls []))
    (fun k hk a H locs ls h hp => WX10_mostAlike_26b C  (fun q x1 x2 x3 x4 H locs ls h h1 h2 h3 h4 => hk (q, x1, x2, x3, x4) H locs ls h ⟨h1, h2, h3, h4⟩) a.1 a.2.1 a.2.2.1 a.2.2.2.1 a.2.2.2.2 H locs ls h hp.1 hp.2.1 hp.2.2.1 hp.2.2.2) n (q, x1, x2, x3, x4) H locs ls h ⟨hP, hD, hS, hl⟩
set_option maxHeartbeats 4000000 in
set_option maxRecDepth 100000 in
theorem WX10_mostAlike_2b {p : Program} {l : Launch} {e : Env} {s : State} {m : MethodId} {args : Array Value} {below : List Frame} {meth : Method} {c : Code} {D : va_G} {ty : Nat → ClassId} {eo : Nat → Nat} {A : Nat → Prop} {ad : Nat → Nat} {o1 : Int32} {o2 : dS} (C : dc_C p s m args meth c cX10_mostAlike (some .int) 6 RX10 wsX10_mostAlike D ty eo A) {k2 : dS → Int32 → Int32 → Int32 → Option (Int32 × dS)} (hk2 : ∀ (q : dS) (x1 : Int32) (x2 : Int32) (x3 : Int32) (H : Heap) (locs : List Loc) (ls : Array Slot), k2 q x1 x2 x3 = some (o1, o2) → va_P D vwCl (w10 ty ad q) H → va_D A (w10 ty ad q) → va_S A s.heap H locs → lv_has ls 6 [(0, .ref (ad 0)), (1, .int x1), (2, .int x2), (3, .int x3)] → W p l e ({ frames := 3, cells := 0, slots := 0, locals := 65 } : Room) s m args below meth c H locs 0 0 (MQ below (va_Qi (fun (r : Int32) (u : va_W) => o1 = r ∧ w10 ty ad o2 = u) (kz_B D ty A) A) args s 0 0 A) (F0 m 2 ls [])) (q : dS) (x1 : Int32) (x2 : Int32) (x3 : Int32) (H : Heap) (locs : List Loc) (ls : Array Slot) (h : zX10_mostAlike_2b k2 q x1 x2 x3 = some (o1, o2)) (hP : va_P D vwCl (w10 ty ad q) H) (hD : va_D A (w10 ty ad q)) (hS : va_S A s.heap H locs) (hl : lv_has ls 6 [(0, .ref (ad 0)), (1, .int x1), (2, .int x2), (3, .int x3)]) : W p l e ({ frames := 3, cells := 0, slots := 0, locals := 65 } : Room) s m args below meth c H locs 0 0 (MQ below (va_Qi (fun (r : Int32) (u : va_W) => o1 = r ∧ w10 ty ad o2 = u) (kz_B D ty A) A) args s 0 0 A) (F0 m 2 ls []) := by
  have C0 := C
  obtain ⟨hx, hb, hr, hts, hown, hlocks, hml, hK, hN, hE, hA⟩ := C
  unfold zX10_mostAlike_2b at h
  refine lv_iload_n hx hb dX10_mostAlike_2 rfl (lv_at hl 3 rfl) ?_
  refine lv_bipush (v := 6) hx hb dX10_mostAlike_3 (by decide) ?_
  refine lv_icmp_ge (tgt := 21) hx hb dX10_mostAlike_5 (by decide) (fun c9 => ?_) (fun c9 => ?_)
  · rw [if_pos c9] at h
    refine lv_iconst (v := 0) hx hb dX10_mostAlike_21 (by decide) ?_
    refine lv_istore_n (lv' := [(3, .int 0), (0, .ref (ad 0)), (1, .int x1), (2, .int x2)]) hx hb dX10_mostAlike_22 rfl hl (by decide) rfl (fun ls hl => ?_)
    refine lv_iconst (v := 1) hx hb dX10_mostAlike_23 (by decide) ?_
    refine lv_istore (lv' := [(4, .int 1), (3, .int 0), (0, .ref (ad 0)), (1, .int x1), (2, .int x2)]) hx hb dX10_mostAlike_24 hl (by decide) rfl (fun ls hl => ?_)
    exact WX10_mostAlike_26 C0  _ _ _ _ _ _ _ _ _ h hP hD hS (lv_sub hl [2, 3, 4, 1, 0] rfl)
  · rw [if_neg c9] at h
    refine lv_aload_n hx hb dX10_mostAlike_8 rfl (lv_at hl 0 rfl) ?_
    refine va_get (D := D) (ci := 10) (v := .ref (ad 25)) (C := RX10) (T := TX10) (N := 56) hx hb hts u9_wsX10_mostAlike_X10 hown hK hP 0 rfl rfl 44 (by decide) (hts (.fieldLink RX10 103 "TurnedFloorsModel" "alike" "[I") f9_wsX10_mostAlike_257) (fun _ h9 => h9) rfl dX10_mostAlike_9 ?_
    refine lv_iload_n hx hb dX10_mostAlike_12 rfl (lv_at hl 3 rfl) ?_
    refine lv_iconst (v := 0) hx hb dX10_mostAlike_13 (by decide) ?_
    obtain ⟨g1, h⟩ := dG_some h
    refine va_iast hx hb hK hP hD hS 25 0 rfl rfl (dg_in g1) dX10_mostAlike_14 (fun H locs hp hd hs => ?_)
    obtain ⟨q2, eq2, h⟩ := dL_some h
    refine kz_re (w2 := w10 ty ad q2) hp hd hs (by rw [← eq2]; exact w10_a25 ty ad q (Int32.toNatClampNeg x3) 0) ?_
    clear hp hd hs hP hD hS
    intro hP hD hS
    refine lv_iinc (v := x3 + 1) (lv' := [(3, .int (x3 + 1)), (0, .ref (ad 0)), (1, .int x1), (2, .int x2)]) hx hb dX10_mostAlike_15 hl (k := 3) rfl rfl (by decide) rfl (fun ls hl => ?_)
    refine lv_goto (tgt := 2) hx hb dX10_mostAlike_18 (by decide) ?_
    exact hk2 _ _ _ _ _ _ _ h hP hD hS (lv_sub hl [1, 2, 3, 0] rfl)
set_option maxHeartbeats 4000000 in
set_option maxRecDepth 100000 in
theorem WX10_mostAlike_2 {p : Program} {l : Launch} {e : Env} {s : State} {m : MethodId} {args : Array Value} {below : List Frame} {meth : Method} {c : Code} {D : va_G} {ty : Nat → ClassId} {eo : Nat → Nat} {A : Nat → Prop} {ad : Nat → Nat} {o1 : Int32} {o2 : dS} (C : dc_C p s m args meth c cX10_mostAlike (some .int) 6 RX10 wsX10_mostAlike D ty eo A)   (n : Nat) (q : dS) (x1 : Int32) (x2 : Int32) (x3 : Int32) (H : Heap) (locs : List Loc) (ls : Array Slot) (h : zX10_mostAlike_2  n q x1 x2 x3 = some (o1, o2)) (hP : va_P D vwCl (w10 ty ad q) H) (hD : va_D A (w10 ty ad q)) (hS : va_S A s.heap H locs) (hl : lv_has ls 6 [(0, .ref (ad 0)), (1, .int x1), (2, .int x2), (3, .int x3)]) : W p l e ({ frames := 3, cells := 0, slots := 0, locals := 65 } : Room) s m args below meth c H locs 0 0 (MQ below (va_Qi (fun (r : Int32) (u : va_W) => o1 = r ∧ w10 ty ad o2 = u) (kz_B D ty A) A) args s 0 0 A) (F0 m 2 ls []) := by
  exact dFix_W (F := fun k (a : dS × Int32 × Int32 × Int32) => zX10_mostAlike_2b  (fun q x1 x2 x3 => k (q, x1, x2, x3)) a.1 a.2.1 a.2.2.1 a.2.2.2) (o := (o1, o2)) (P := fun (a : dS × Int32 × Int32 × Int32) H locs ls => va_P D vwCl (w10 ty ad a.1) H ∧ va_D A (w10 ty ad a.1) ∧ va_S A s.heap H locs ∧ lv_has ls 6 [(0, .ref (ad 0)), (1, .int a.2.1), (2, .int a.2.2.1), (3, .int a.2.2.2)]) (G := fun H locs ls => W p l e ({ frames := 3, cells := 0, slots := 0, locals := 65 } : Room) s m args below meth c H locs 0 0 (MQ below (va_Qi (fun (r : Int32) (u : va_W) => o1 = r ∧ w10 ty ad o2 = u) (kz_B D ty A) A) args s 0 0 A) (F0 m 2 ls []))
    (fun k hk a H locs ls h hp => WX10_mostAlike_2b C  (fun q x1 x2 x3 H locs ls h h1 h2 h3 h4 => hk (q, x1, x2, x3) H locs ls h ⟨h1, h2, h3, h4⟩) a.1 a.2.1 a.2.2.1 a.2.2.2 H locs ls h hp.1 hp.2.1 hp.2.2.1 hp.2.2.2) n (q, x1, x2, x3) H locs ls h ⟨hP, hD, hS, hl⟩
set_option maxHeartbeats 4000000 in
set_option maxRecDepth 100000 in
theorem qX10_mostAlike (l : Launch) (D : va_G) (ty : Nat → ClassId) (eo : Nat → Nat) (sz : Nat) (ad : Nat → Nat) (q : dS) (p1 : Int32) (p2 : Int32) (o1 : Int32) (o2 : dS) (h : zX10_mostAlike q p1 p2 = some (o1, o2)) : Met l yX10_mostAlike wsX10_mostAlike ({ frames := 3, cells := 0, slots := 0, locals := 65 } : Room) (va_Pc [.ref (ad 0), .int p1, .int p2] (kz_pre D ty eo (w10 ty ad q) sz)) (va_Qi (fun (r : Int32) (u : va_W) => o1 = r ∧ w10 ty ad o2 = u) (kz_B D ty (va_A (w10 ty ad q) sz)) (va_A (w10 ty ad q) sz)) 0 0 (va_A (w10 ty ad q) sz) := by
  refine Met.ofW (cc := cX10_mostAlike) (maxL := 6) (ret := (some .int)) (by decide) rfl ?_
  intro p e s m args below meth c s₁ B hml hv
  obtain ⟨rfl, hsz, hP, hK, hD0, hN, hE⟩ := hv
  have hx := B.exec
  have hb := B.bytes
  have hr := B.returns
  have hts := atoms_spec (ws := wsX10_mostAlike) B.pre
  have hown : s.vm.findClass RX10 = some m.cls := findClass_of_methodNamed B.named
  have hlocks := B.notSynchronized
  subst hsz
  have hD := hD0.self (sz := s.heap.size)
  generalize hAe : va_A (w10 ty ad q) s.heap.size = A at hD hE ⊢
  have hA : ∀ q : Nat, s.heap.size ≤ q → A q := fun q h => by rw [← hAe]; exact Or.inr h
  clear hAe
  have hS : va_S A s.heap s.heap [] := va_S.rf
  have hl := lv_entry ([.ref (ad 0), .int p1, .int p2]) (n := 6) (Nat.le_of_ble_eq_true rfl)
  rw [lg_entry_eq]
  generalize (lg_sl ([.ref (ad 0), .int p1, .int p2]) ++ List.replicate (6 - (lg_sl ([.ref (ad 0), .int p1, .int p2])).length) Slot.unset).toArray = ls at hl ⊢
  have hl : lv_has ls 6 [(0, .ref (ad 0)), (1, .int p1), (2, .int p2)] := hl
  have C : dc_C p s m _ meth c cX10_mostAlike (some .int) 6 RX10 wsX10_mostAlike D ty eo A := ⟨hx, hb, hr, hts, hown, hlocks, hml, hK, hN, hE, hA⟩
  unfold zX10_mostAlike at h
  refine lv_iconst (v := 0) hx hb dX10_mostAlike_0 (by decide) ?_
  refine lv_istore_n (lv' := [(3, .int 0), (0, .ref (ad 0)), (1, .int p1), (2, .int p2)]) hx hb dX10_mostAlike_1 rfl hl (by decide) rfl (fun ls hl => ?_)
  exact WX10_mostAlike_2 C  _ _ _ _ _ _ _ _ h hP hD hS (lv_sub hl [1, 2, 3, 0] rfl)
end
