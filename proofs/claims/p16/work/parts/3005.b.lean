section
theorem u9_wsX10_splits_X10 : ∀ w ∈ u_ws RX10 TX10 56, w ∈ wsX10_splits := fun w h => List.mem_cons_of_mem _ (vW10_wsX100 w h)
theorem f9_wsX10_splits_96 : (Cond.fieldLink RX10 175 "TurnedFloorsModel" "tokens" "I") ∈ wsX10_splits := List.mem_cons_of_mem _ mvW10_163
theorem f9_wsX10_splits_97 : (Cond.fieldLink RX10 57 "TurnedFloorsModel" "value" "[I") ∈ wsX10_splits := List.mem_cons_of_mem _ mvW10_170
theorem f9_wsX10_splits_98 : (Cond.constant RX10 188 1000000) ∈ wsX10_splits := List.mem_cons_of_mem _ mvW10_172
theorem f9_wsX10_splits_99 : (Cond.fieldLink RX10 45 "TurnedFloorsModel" "tape" "[B") ∈ wsX10_splits := List.mem_cons_of_mem _ mvW10_147
theorem f9_wsX10_splits_100 : (Cond.fieldLink RX10 60 "TurnedFloorsModel" "placed" "[I") ∈ wsX10_splits := List.mem_cons_of_mem _ mvW10_169
theorem f9_wsX10_splits_101 : (Cond.fieldLink RX10 54 "TurnedFloorsModel" "code" "[I") ∈ wsX10_splits := List.mem_cons_of_mem _ mvW10_171
theorem u9_wsX10_fine_X10 : ∀ w ∈ u_ws RX10 TX10 56, w ∈ wsX10_fine := fun w h => List.mem_cons_of_mem _ (vW10_wsX100 w h)
theorem f9_wsX10_fine_103 : (Cond.fieldLink RX10 189 "TurnedFloorsModel" "bad" "I") ∈ wsX10_fine := List.mem_cons_of_mem _ mvW10_162
theorem u9_wsX10_faults_X10 : ∀ w ∈ u_ws RX10 TX10 56, w ∈ wsX10_faults := fun w h => List.mem_cons_of_mem _ (vW10_wsX100 w h)
theorem f9_wsX10_faults_105 : (Cond.fieldLink RX10 60 "TurnedFloorsModel" "placed" "[I") ∈ wsX10_faults := List.mem_cons_of_mem _ mvW10_169
theorem f9_wsX10_faults_106 : (Cond.fieldLink RX10 196 "TurnedFloorsModel" "token" "I") ∈ wsX10_faults := List.mem_cons_of_mem _ mvW10_160
theorem f9_wsX10_faults_107 : (Cond.fieldLink RX10 189 "TurnedFloorsModel" "bad" "I") ∈ wsX10_faults := List.mem_cons_of_mem _ mvW10_162
theorem u9_wsX10_takes0_X10 : ∀ w ∈ u_ws RX10 TX10 56, w ∈ wsX10_takes0 := fun w h => List.mem_cons_of_mem _ (vW10_wsX100 w h)
theorem f9_wsX10_takes0_109 : (Cond.fieldLink RX10 196 "TurnedFloorsModel" "token" "I") ∈ wsX10_takes0 := List.mem_cons_of_mem _ mvW10_160
theorem f9_wsX10_takes0_110 : (Cond.fieldLink RX10 54 "TurnedFloorsModel" "code" "[I") ∈ wsX10_takes0 := List.mem_cons_of_mem _ mvW10_171
theorem u9_wsX10_leaf_X10 : ∀ w ∈ u_ws RX10 TX10 56, w ∈ wsX10_leaf := fun w h => List.mem_cons_of_mem _ (vW10_wsX100 w h)
theorem f9_wsX10_leaf_112 : (Cond.fieldLink RX10 205 "TurnedFloorsModel" "leaves" "I") ∈ wsX10_leaf := List.mem_cons_of_mem _ mvW10_161
theorem f9_wsX10_leaf_113 : (Cond.fieldLink RX10 196 "TurnedFloorsModel" "token" "I") ∈ wsX10_leaf := List.mem_cons_of_mem _ mvW10_160
theorem u9_wsX10_mustNumber_X10 : ∀ w ∈ u_ws RX10 TX10 56, w ∈ wsX10_mustNumber := fun w h => List.mem_cons_of_mem _ (vW10_wsX100 w h)
theorem f9_wsX10_mustNumber_115 : (Cond.fieldLink RX10 196 "TurnedFloorsModel" "token" "I") ∈ wsX10_mustNumber := List.mem_cons_of_mem _ mvW10_160
theorem f9_wsX10_mustNumber_116 : (Cond.fieldLink RX10 54 "TurnedFloorsModel" "code" "[I") ∈ wsX10_mustNumber := List.mem_cons_of_mem _ mvW10_171
theorem f9_wsX10_mustNumber_117 : (Cond.fieldLink RX10 57 "TurnedFloorsModel" "value" "[I") ∈ wsX10_mustNumber := List.mem_cons_of_mem _ mvW10_170
set_option maxHeartbeats 4000000 in
set_option maxRecDepth 100000 in
theorem WX10_splits_247 {p : Program} {l : Launch} {e : Env} {s : State} {m : MethodId} {args : Array Value} {below : List Frame} {meth : Method} {c : Code} {D : va_G} {ty : Nat → ClassId} {eo : Nat → Nat} {A : Nat → Prop} {ad : Nat → Nat} {o2 : dS} (C : dc_C p s m args meth c cX10_splits none 6 RX10 wsX10_splits D ty eo A) {k7 : dS → Int32 → Int32 → Option (dS)} (hk7 : ∀ (q : dS) (x1 : Int32) (x2 : Int32) (H : Heap) (locs : List Loc) (ls : Array Slot), k7 q x1 x2 = some o2 → va_P D vwCl (w10 ty ad q) H → va_D A (w10 ty ad q) → va_S A s.heap H locs → lv_has ls 6 [(0, .ref (ad 0)), (1, .int x1), (2, .int x2)] → W p l e ({ frames := 1, cells := 0, slots := 0, locals := 27 } : Room) s m args below meth c H locs 0 0 (MQ below (va_Qv (fun (u : va_W) => w10 ty ad o2 = u) (kz_B D ty A) A) args s 0 0 A) (F0 m 7 ls [])) (q : dS) (x1 : Int32) (x4 : Int32) (H : Heap) (locs : List Loc) (ls : Array Slot) (h : zX10_splits_247 k7 q x1 x4 = some o2) (hP : va_P D vwCl (w10 ty ad q) H) (hD : va_D A (w10 ty ad q)) (hS : va_S A s.heap H locs) (hl : lv_has ls 6 [(0, .ref (ad 0)), (1, .int x1), (4, .int x4)]) : W p l e ({ frames := 1, cells := 0, slots := 0, locals := 27 } : Room) s m args below meth c H locs 0 0 (MQ below (va_Qv (fun (u : va_W) => w10 ty ad o2 = u) (kz_B D ty A) A) args s 0 0 A) (F0 m 247 ls []) := by
  have C0 := C
  obtain ⟨hx, hb, hr, hts, hown, hlocks, hml, hK, hN, hE, hA⟩ := C
  unfold zX10_splits_247 at h
  refine lv_aload_n hx hb dX10_splits_247 rfl (lv_at hl 0 rfl) ?_
  refine lv_dup hx hb dX10_splits_248 rfl ?_
  refine va_get (D := D) (ci := 10) (v := .int (q.1 0 18)) (C := RX10) (T := TX10) (N := 56) hx hb hts u9_wsX10_splits_X10 hown hK hP 0 rfl rfl 18 (by decide) (hts (.fieldLink RX10 175 "TurnedFloorsModel" "tokens" "I") f9_wsX10_splits_96) (fun _ h9 => h9) rfl dX10_splits_249 ?_
  refine lv_iconst (v := 1) hx hb dX10_splits_252 (by decide) ?_
  refine lv_iadd hx hb dX10_splits_253 ?_
  refine va_put (D := D) (ci := 10) (v := .int ((q.1 0 18) + 1 : Int32)) (ty := .int) (C := RX10) (T := TX10) (N := 56) hx hb hts u9_wsX10_splits_X10 tyX10 tyX10_ok nmX10 hown hK hP hD hS 0 rfl rfl 18 (by decide) (hts (.fieldLink RX10 175 "TurnedFloorsModel" "tokens" "I") f9_wsX10_splits_96) (fun _ h9 => h9) rfl (by decide +kernel) rfl rfl (Nat.le_of_ble_eq_true rfl) dX10_splits_254 (fun H locs hp hd hs => ?_)
  obtain ⟨q1, eq1, h⟩ := dL_some h
  refine kz_re (w2 := w10 ty ad q1) hp hd hs (by rw [← eq1]; exact w10_f18 ty ad q ((q.1 0 18) + 1 : Int32)) ?_
  clear hp hd hs hP hD hS
  intro hP hD hS
  refine lv_iload hx hb dX10_splits_257 (lv_at hl 2 rfl) ?_
  refine lv_istore_n (lv' := [(2, .int x4), (0, .ref (ad 0)), (1, .int x1), (4, .int x4)]) hx hb dX10_splits_259 rfl hl (by decide) rfl (fun ls hl => ?_)
  refine lv_goto (tgt := 7) hx hb dX10_splits_260 (by decide) ?_
  exact hk7 _ _ _ _ _ _ h hP hD hS (lv_sub hl [1, 2, 0] rfl)
set_option maxHeartbeats 4000000 in
set_option maxRecDepth 100000 in
theorem WX10_splits_240 {p : Program} {l : Launch} {e : Env} {s : State} {m : MethodId} {args : Array Value} {below : List Frame} {meth : Method} {c : Code} {D : va_G} {ty : Nat → ClassId} {eo : Nat → Nat} {A : Nat → Prop} {ad : Nat → Nat} {o2 : dS} (C : dc_C p s m args meth c cX10_splits none 6 RX10 wsX10_splits D ty eo A) {k7 : dS → Int32 → Int32 → Option (dS)} {k169 : dS → Int32 → Int32 → Int32 → Int32 → Option (dS)} (hk7 : ∀ (q : dS) (x1 : Int32) (x2 : Int32) (H : Heap) (locs : List Loc) (ls : Array Slot), k7 q x1 x2 = some o2 → va_P D vwCl (w10 ty ad q) H → va_D A (w10 ty ad q) → va_S A s.heap H locs → lv_has ls 6 [(0, .ref (ad 0)), (1, .int x1), (2, .int x2)] → W p l e ({ frames := 1, cells := 0, slots := 0, locals := 27 } : Room) s m args below meth c H locs 0 0 (MQ below (va_Qv (fun (u : va_W) => w10 ty ad o2 = u) (kz_B D ty A) A) args s 0 0 A) (F0 m 7 ls [])) (hk169 : ∀ (q : dS) (x1 : Int32) (x3 : Int32) (x4 : Int32) (x5 : Int32) (H : Heap) (locs : List Loc) (ls : Array Slot), k169 q x1 x3 x4 x5 = some o2 → va_P D vwCl (w10 ty ad q) H → va_D A (w10 ty ad q) → va_S A s.heap H locs → lv_has ls 6 [(0, .ref (ad 0)), (1, .int x1), (3, .int x3), (4, .int x4), (5, .int x5)] → W p l e ({ frames := 1, cells := 0, slots := 0, locals := 27 } : Room) s m args below meth c H locs 0 0 (MQ below (va_Qv (fun (u : va_W) => w10 ty ad o2 = u) (kz_B D ty A) A) args s 0 0 A) (F0 m 169 ls [])) (q : dS) (x1 : Int32) (x3 : Int32) (x4 : Int32) (x5 : Int32) (y0 : Int32) (y1 : Int32) (H : Heap) (locs : List Loc) (ls : Array Slot) (h : zX10_splits_240 k7 k169 q x1 x3 x4 x5 y0 y1 = some o2) (hP : va_P D vwCl (w10 ty ad q) H) (hD : va_D A (w10 ty ad q)) (hS : va_S A s.heap H locs) (hl : lv_has ls 6 [(0, .ref (ad 0)), (1, .int x1), (3, .int x3), (4, .int x4), (5, .int x5)]) : W p l e ({ frames := 1, cells := 0, slots := 0, locals := 27 } : Room) s m args below meth c H locs 0 0 (MQ below (va_Qv (fun (u : va_W) => w10 ty ad o2 = u) (kz_B D ty A) A) args s 0 0 A) (F0 m 240 ls [.int y0, .int y1, .ref (ad 10)]) := by
  have C0 := C
  obtain ⟨hx, hb, hr, hts, hown, hlocks, hml, hK, hN, hE, hA⟩ := C
  unfold zX10_splits_240 at h
  obtain ⟨g1, h⟩ := dG_some h
  refine va_iast hx hb hK hP hD hS 10 0 rfl rfl (dg_in g1) dX10_splits_240 (fun H locs hp hd hs => ?_)
  obtain ⟨q2, eq2, h⟩ := dL_some h
  refine kz_re (w2 := w10 ty ad q2) hp hd hs (by rw [← eq2]; exact w10_a10 ty ad q (Int32.toNatClampNeg y1) y0) ?_
  clear hp hd hs hP hD hS
  intro hP hD hS
  refine lv_iinc (v := x5 + 1) (lv' := [(5, .int (x5 + 1)), (0, .ref (ad 0)), (1, .int x1), (3, .int x3), (4, .int x4)]) hx hb dX10_splits_241 hl (k := 4) rfl rfl (by decide) rfl (fun ls hl => ?_)
  refine lv_goto (tgt := 169) hx hb dX10_splits_244 (by decide) ?_
  exact hk169 _ _ _ _ _ _ _ _ h hP hD hS (lv_sub hl [1, 2, 3, 4, 0] rfl)
set_option maxHeartbeats 4000000 in
set_option maxRecDepth 100000 in
theorem WX10_splits_169b {p : Program} {l : Launch} {e : Env} {s : State} {m : MethodId} {args : Array Value} {below : List Frame} {meth : Method} {c : Code} {D : va_G} {ty : Nat → ClassId} {eo : Nat → Nat} {A : Nat → Prop} {ad : Nat → Nat} {o2 : dS} (C : dc_C p s m args meth c cX10_splits none 6 RX10 wsX10_splits D ty eo A) {k7 : dS → Int32 → Int32 → Option (dS)} {k169 : dS → Int32 → Int32 → Int32 → Int32 → Option (dS)} (hk7 : ∀ (q : dS) (x1 : Int32) (x2 : Int32) (H : Heap) (locs : List Loc) (ls : Array Slot), k7 q x1 x2 = some o2 → va_P D vwCl (w10 ty ad q) H → va_D A (w10 ty ad q) → va_S A s.heap H locs → lv_has ls 6 [(0, .ref (ad 0)), (1, .int x1), (2, .int x2)] → W p l e ({ frames := 1, cells := 0, slots := 0, locals := 27 } : Room) s m args below meth c H locs 0 0 (MQ below (va_Qv (fun (u : va_W) => w10 ty ad o2 = u) (kz_B D ty A) A) args s 0 0 A) (F0 m 7 ls [])) (hk169 : ∀ (q : dS) (x1 : Int32) (x3 : Int32) (x4 : Int32) (x5 : Int32) (H : Heap) (locs : List Loc) (ls : Array Slot), k169 q x1 x3 x4 x5 = some o2 → va_P D vwCl (w10 ty ad q) H → va_D A (w10 ty ad q) → va_S A s.heap H locs → lv_has ls 6 [(0, .ref (ad 0)), (1, .int x1), (3, .int x3), (4, .int x4), (5, .int x5)] → W p l e ({ frames := 1, cells := 0, slots := 0, locals := 27 } : Room) s m args below meth c H locs 0 0 (MQ below (va_Qv (fun (u : va_W) => w10 ty ad o2 = u) (kz_B D ty A) A) args s 0 0 A) (F0 m 169 ls [])) (q : dS) (x1 : Int32) (x3 : Int32) (x4 : Int32) (x5 : Int32) (H : Heap) (locs : List Loc) (ls : Array Slot) (h : zX10_splits_169b k7 k169 q x1 x3 x4 x5 = some o2) (hP : va_P D vwCl (w10 ty ad q) H) (hD : va_D A (w10 ty ad q)) (hS : va_S A s.heap H locs) (hl : lv_has ls 6 [(0, .ref (ad 0)), (1, .int x1), (3, .int x3), (4, .int x4), (5, .int x5)]) : W p l e ({ frames := 1, cells := 0, slots := 0, locals := 27 } : Room) s m args below meth c H locs 0 0 (MQ below (va_Qv (fun (u : va_W) => w10 ty ad o2 = u) (kz_B D ty A) A) args s 0 0 A) (F0 m 169 ls []) := by
  have C0 := C
  obtain ⟨hx, hb, hr, hts, hown, hlocks, hml, hK, hN, hE, hA⟩ := C
  unfold zX10_splits_169b at h
  refine lv_iload hx hb dX10_splits_169 (lv_at hl 4 rfl) ?_
  refine lv_iload hx hb dX10_splits_171 (lv_at hl 3 rfl) ?_
  refine lv_icmp_ge (tgt := 247) hx hb dX10_splits_173 (by decide) (fun c9 => ?_) (fun c9 => ?_)
  · rw [if_pos c9] at h
    exact WX10_splits_247 C0 hk7 _ _ _ _ _ _ h hP hD hS (lv_sub hl [0, 1, 3] rfl)
  · rw [if_neg c9] at h
    refine lv_iload_n hx hb dX10_splits_176 rfl (lv_at hl 2 rfl) ?_
    obtain ⟨r1, h2, h⟩ := dV_some h
    refine dw_ks (va_runS (As := [.int x3]) (rest := []) ⟨hx, hb, hml, hown, hts⟩ (qX10_isDigit l D ty eo _ x3 _ h2) (va_cwS 1 hts gX10_splits_X10_isDigit rfl rfl rfl hd_X10_isDigit ⟨Nat.le_of_ble_eq_true rfl, Nat.le_of_ble_eq_true rfl⟩) (pvS_0 hK hN hE hP hD hS hA) rfl rfl hl.1 rfl (lv_room (Nat.le_of_ble_eq_true rfl)) dX10_splits_177 ⟨Nat.le_of_ble_eq_true rfl, Nat.le_of_ble_eq_true rfl⟩) hP hD hS hA (fun _ _ h9 => h9.2.symm) (fun r9 u9 H locs hw hp hd hs => ?_)
    obtain ⟨rfl, -⟩ := hw
    clear hP hD hS
    have hP := hp; have hD := hd; have hS := hs; clear hp hd hs
    refine lv_if_eq (tgt := 247) hx hb dX10_splits_180 (by decide) (fun c9 => ?_) (fun c9 => ?_)
    · rw [if_pos c9] at h
      exact WX10_splits_247 C0 hk7 _ _ _ _ _ _ h hP hD hS (lv_sub hl [0, 1, 3] rfl)
    · rw [if_neg c9] at h
      refine lv_aload_n hx hb dX10_splits_183 rfl (lv_at hl 0 rfl) ?_
      refine va_get (D := D) (ci := 10) (v := .ref (ad 10)) (C := RX10) (T := TX10) (N := 56) hx hb hts u9_wsX10_splits_X10 hown hK hP 0 rfl rfl 16 (by decide) (hts (.fieldLink RX10 57 "TurnedFloorsModel" "value" "[I") f9_wsX10_splits_97) (fun _ h9 => h9) rfl dX10_splits_184 ?_
      refine lv_aload_n hx hb dX10_splits_187 rfl (lv_at hl 0 rfl) ?_
      refine va_get (D := D) (ci := 10) (v := .int (q.1 0 18)) (C := RX10) (T := TX10) (N := 56) hx hb hts u9_wsX10_splits_X10 hown hK hP 0 rfl rfl 18 (by decide) (hts (.fieldLink RX10 175 "TurnedFloorsModel" "tokens" "I") f9_wsX10_splits_96) (fun _ h9 => h9) rfl dX10_splits_188 ?_
      refine lv_aload_n hx hb dX10_splits_191 rfl (lv_at hl 0 rfl) ?_
      refine va_get (D := D) (ci := 10) (v := .ref (ad 10)) (C := RX10) (T := TX10) (N := 56) hx hb hts u9_wsX10_splits_X10 hown hK hP 0 rfl rfl 16 (by decide) (hts (.fieldLink RX10 57 "TurnedFloorsModel" "value" "[I") f9_wsX10_splits_97) (fun _ h9 => h9) rfl dX10_splits_192 ?_
      refine lv_aload_n hx hb dX10_splits_195 rfl (lv_at hl 0 rfl) ?_
      refine va_get (D := D) (ci := 10) (v := .int (q.1 0 18)) (C := RX10) (T := TX10) (N := 56) hx hb hts u9_wsX10_splits_X10 hown hK hP 0 rfl rfl 18 (by decide) (hts (.fieldLink RX10 175 "TurnedFloorsModel" "tokens" "I") f9_wsX10_splits_96) (fun _ h9 => h9) rfl dX10_splits_196 ?_
      obtain ⟨g3, h⟩ := dG_some h
      refine va_iald hx hb hK hP 10 0 rfl rfl (dg_in g3) dX10_splits_199 ?_
      obtain ⟨v4, ev4, h⟩ := dL_some h
      refine kz_topi v4 ev4 ?_
      refine lv_ldc (v := 1000000) hx hb hown (hts (.constant RX10 188 1000000) f9_wsX10_splits_98) dX10_splits_200 ?_
      refine lv_icmp_le (tgt := 217) hx hb dX10_splits_202 (by decide) (fun c9 => ?_) (fun c9 => ?_)
      · rw [if_pos c9] at h
        refine lv_bipush (v := 10) hx hb dX10_splits_217 (by decide) ?_
        refine lv_aload_n hx hb dX10_splits_219 rfl (lv_at hl 0 rfl) ?_
        refine va_get (D := D) (ci := 10) (v := .ref (ad 10)) (C := RX10) (T := TX10) (N := 56) hx hb hts u9_wsX10_splits_X10 hown hK hP 0 rfl rfl 16 (by decide) (hts (.fieldLink RX10 57 "TurnedFloorsModel" "value" "[I") f9_wsX10_splits_97) (fun _ h9 => h9) rfl dX10_splits_220 ?_
        refine lv_aload_n hx hb dX10_splits_223 rfl (lv_at hl 0 rfl) ?_
        refine va_get (D := D) (ci := 10) (v := .int (q.1 0 18)) (C := RX10) (T := TX10) (N := 56) hx hb hts u9_wsX10_splits_X10 hown hK hP 0 rfl rfl 18 (by decide) (hts (.fieldLink RX10 175 "TurnedFloorsModel" "tokens" "I") f9_wsX10_splits_96) (fun _ h9 => h9) rfl dX10_splits_224 ?_
        obtain ⟨g5, h⟩ := dG_some h
        refine va_iald hx hb hK hP 10 0 rfl rfl (dg_in g5) dX10_splits_227 ?_
        obtain ⟨v6, ev6, h⟩ := dL_some h
        refine kz_topi v6 ev6 ?_
        refine lv_imul hx hb dX10_splits_228 ?_
        refine lv_aload_n hx hb dX10_splits_229 rfl (lv_at hl 0 rfl) ?_
        refine va_get (D := D) (ci := 10) (v := .ref (ad 7)) (C := RX10) (T := TX10) (N := 56) hx hb hts u9_wsX10_splits_X10 hown hK hP 0 rfl rfl 11 (by decide) (hts (.fieldLink RX10 45 "TurnedFloorsModel" "tape" "[B") f9_wsX10_splits_99) (fun _ h9 => h9) rfl dX10_splits_230 ?_
        refine lv_iload hx hb dX10_splits_233 (lv_at hl 4 rfl) ?_
        obtain ⟨g7, h⟩ := dG_some h
        refine va_bald hx hb hK hP 7 3 rfl rfl (dg_in g7) dX10_splits_235 ?_
        obtain ⟨v8, ev8, h⟩ := dL_some h
        refine kz_topi v8 ev8 ?_
        refine lv_iadd hx hb dX10_splits_236 ?_
        refine lv_bipush (v := 48) hx hb dX10_splits_237 (by decide) ?_
        refine lv_isub hx hb dX10_splits_239 ?_
        exact WX10_splits_240 C0 hk7 hk169 _ _ _ _ _ _ _ _ _ _ h hP hD hS (lv_sub hl [0, 1, 2, 3, 4] rfl)
      · rw [if_neg c9] at h
        refine lv_aload_n hx hb dX10_splits_205 rfl (lv_at hl 0 rfl) ?_
        refine va_get (D := D) (ci := 10) (v := .ref (ad 10)) (C := RX10) (T := TX10) (N := 56) hx hb hts u9_wsX10_splits_X10 hown hK hP 0 rfl rfl 16 (by decide) (hts (.fieldLink RX10 57 "TurnedFloorsModel" "value" "[I") f9_wsX10_splits_97) (fun _ h9 => h9) rfl dX10_splits_206 ?_
        refine lv_aload_n hx hb dX10_splits_209 rfl (lv_at hl 0 rfl) ?_
        refine va_get (D := D) (ci := 10) (v := .int (q.1 0 18)) (C := RX10) (T := TX10) (N := 56) hx hb hts u9_wsX10_splits_X10 hown hK hP 0 rfl rfl 18 (by decide) (hts (.fieldLink RX10 175 "TurnedFloorsModel" "tokens" "I") f9_wsX10_splits_96) (fun _ h9 => h9) rfl dX10_splits_210 ?_
        obtain ⟨g9, h⟩ := dG_some h
        refine va_iald hx hb hK hP 10 0 rfl rfl (dg_in g9) dX10_splits_213 ?_
        obtain ⟨v10, ev10, h⟩ := dL_some h
        refine kz_topi v10 ev10 ?_
        refine lv_goto (tgt := 240) hx hb dX10_splits_214 (by decide) ?_
        exact WX10_splits_240 C0 hk7 hk169 _ _ _ _ _ _ _ _ _ _ h hP hD hS (lv_sub hl [0, 1, 2, 3, 4] rfl)
set_option maxHeartbeats 4000000 in
set_option maxRecDepth 100000 in
theorem WX10_splits_169 {p : Program} {l : Launch} {e : Env} {s : State} {m : MethodId} {args : Array Value} {below : List Frame} {meth : Method} {c : Code} {D : va_G} {ty : Nat → ClassId} {eo : Nat → Nat} {A : Nat → Prop} {ad : Nat → Nat} {o2 : dS} (C : dc_C p s m args meth c cX10_splits none 6 RX10 wsX10_splits D ty eo A) {k7 : dS → Int32 → Int32 → Option (dS)} (hk7 : ∀ (q : dS) (x1 : Int32) (x2 : Int32) (H : Heap) (locs : List Loc) (ls : Array Slot), k7 q x1 x2 = some o2 → va_P D vwCl (w10 ty ad q) H → va_D A (w10 ty ad q) → va_S A s.heap H locs → lv_has ls 6 [(0, .ref (ad 0)), (1, .int x1), (2, .int x2)] → W p l e ({ frames := 1, cells := 0, slots := 0, locals := 27 } : Room) s m args below meth c H locs 0 0 (MQ below (va_Qv (fun (u : va_W) => w10 ty ad o2 = u) (kz_B D ty A) A) args s 0 0 A) (F0 m 7 ls [])) (n : Nat) (q : dS) (x1 : Int32) (x3 : Int32) (x4 : Int32) (x5 : Int32) (H : Heap) (locs : List Loc) (ls : Array Slot) (h : zX10_splits_169 k7 n q x1 x3 x4 x5 = some o2) (hP : va_P D vwCl (w10 ty ad q) H) (hD : va_D A (w10 ty ad q)) (hS : va_S A s.heap H locs) (hl : lv_has ls 6 [(0, .ref (ad 0)), (1, .int x1), (3, .int x3), (4, .int x4), (5, .int x5)]) : W p l e ({ frames := 1, cells := 0, slots := 0, locals := 27 } : Room) s m args below meth c H locs 0 0 (MQ below (va_Qv (fun (u : va_W) => w10 ty ad o2 = u) (kz_B D ty A) A) args s 0 0 A) (F0 m 169 ls []) := by
  exact dFix_W (F := fun k (a : dS × Int32 × Int32 × Int32 × Int32) => zX10_splits_169b k7 (fun q x1 x3 x4 x5 => k (q, x1, x3, x4, x5)) a.1 a.2.1 a.2.2.1 a.2.2.2.1 a.2.2.2.2) (o := o2) (P := fun (a : dS × Int32 × Int32 × Int32 × Int32) H locs ls => va_P D vwCl (w10 ty ad a.1) H ∧ va_D A (w10 ty ad a.1) ∧ va_S A s.heap H locs ∧ lv_has ls 6 [(0, .ref (ad 0)), (1, .int a.2.1), (3, .int a.2.2.1), (4, .int a.2.2.2.1), (5, .int a.2.2.2.2)]) (G := fun H locs ls => W p l e ({ frames := 1, cells := 0, slots := 0, locals := 27 } : Room) s m args below meth c H locs 0 0 (MQ below (va_Qv (fun (u : va_W) => w10 ty ad o2 = u) (kz_B D ty A) A) args s 0 0 A) (F0 m 169 ls []))
    (fun k hk a H locs ls h hp => WX10_splits_169b C hk7 (fun q x1 x3 x4 x5 H locs ls h h1 h2 h3 h4 => hk (q, x1, x3, x4, x5) H locs ls h ⟨h1, h2, h3, h4⟩) a.1 a.2.1 a.2.2.1 a.2.2.2.1 a.2.2.2.2 H locs ls h hp.1 hp.2.1 hp.2.2.1 hp.2.2.2) n (q, x1, x3, x4, x5) H locs ls h ⟨hP, hD, hS, hl⟩
set_option maxHeartbeats 4000000 in
set_option maxRecDepth 100000 in
theorem WX10_splits_165 {p : Program} {l : Launch} {e : Env} {s : State} {m : MethodId} {args : Array Value} {below : List Frame} {meth : Method} {c : Code} {D : va_G} {ty : Nat → ClassId} {eo : Nat → Nat} {A : Nat → Prop} {ad : Nat → Nat} {o2 : dS} (C : dc_C p s m args meth c cX10_splits none 6 RX10 wsX10_splits D ty eo A) {k7 : dS → Int32 → Int32 → Option (dS)} (hk7 : ∀ (q : dS) (x1 : Int32) (x2 : Int32) (H : Heap) (locs : List Loc) (ls : Array Slot), k7 q x1 x2 = some o2 → va_P D vwCl (w10 ty ad q) H → va_D A (w10 ty ad q) → va_S A s.heap H locs → lv_has ls 6 [(0, .ref (ad 0)), (1, .int x1), (2, .int x2)] → W p l e ({ frames := 1, cells := 0, slots := 0, locals := 27 } : Room) s m args below meth c H locs 0 0 (MQ below (va_Qv (fun (u : va_W) => w10 ty ad o2 = u) (kz_B D ty A) A) args s 0 0 A) (F0 m 7 ls [])) (q : dS) (x1 : Int32) (x2 : Int32) (x3 : Int32) (x4 : Int32) (y0 : Int32) (y1 : Int32) (H : Heap) (locs : List Loc) (ls : Array Slot) (h : zX10_splits_165 k7 q x1 x2 x3 x4 y0 y1 = some o2) (hP : va_P D vwCl (w10 ty ad q) H) (hD : va_D A (w10 ty ad q)) (hS : va_S A s.heap H locs) (hl : lv_has ls 6 [(0, .ref (ad 0)), (1, .int x1), (2, .int x2), (3, .int x3), (4, .int x4)]) : W p l e ({ frames := 1, cells := 0, slots := 0, locals := 27 } : Room) s m args below meth c H locs 0 0 (MQ below (va_Qv (fun (u : va_W) => w10 ty ad o2 = u) (kz_B D ty A) A) args s 0 0 A) (F0 m 165 ls [.int y0, .int y1, .ref (ad 9)]) := by
  have C0 := C
  obtain ⟨hx, hb, hr, hts, hown, hlocks, hml, hK, hN, hE, hA⟩ := C
  unfold zX10_splits_165 at h
  obtain ⟨g1, h⟩ := dG_some h
  refine va_iast hx hb hK hP hD hS 9 0 rfl rfl (dg_in g1) dX10_splits_165 (fun H locs hp hd hs => ?_)
  obtain ⟨q2, eq2, h⟩ := dL_some h
  refine kz_re (w2 := w10 ty ad q2) hp hd hs (by rw [← eq2]; exact w10_a9 ty ad q (Int32.toNatClampNeg y1) y0) ?_
  clear hp hd hs hP hD hS
  intro hP hD hS
  refine lv_iload_n hx hb dX10_splits_166 rfl (lv_at hl 2 rfl) ?_
  refine lv_istore (lv' := [(5, .int x2), (0, .ref (ad 0)), (1, .int x1), (2, .int x2), (3, .int x3), (4, .int x4)]) hx hb dX10_splits_167 hl (by decide) rfl (fun ls hl => ?_)
  exact WX10_splits_169 C0 hk7 _ _ _ _ _ _ _ _ _ h hP hD hS (lv_sub hl [1, 2, 4, 5, 0] rfl)
set_option maxHeartbeats 4000000 in
set_option maxRecDepth 100000 in
theorem WX10_splits_100 {p : Program} {l : Launch} {e : Env} {s : State} {m : MethodId} {args : Array Value} {below : List Frame} {meth : Method} {c : Code} {D : va_G} {ty : Nat → ClassId} {eo : Nat → Nat} {A : Nat → Prop} {ad : Nat → Nat} {o2 : dS} (C : dc_C p s m args meth c cX10_splits none 6 RX10 wsX10_splits D ty eo A) {k7 : dS → Int32 → Int32 → Option (dS)} (hk7 : ∀ (q : dS) (x1 : Int32) (x2 : Int32) (H : Heap) (locs : List Loc) (ls : Array Slot), k7 q x1 x2 = some o2 → va_P D vwCl (w10 ty ad q) H → va_D A (w10 ty ad q) → va_S A s.heap H locs → lv_has ls 6 [(0, .ref (ad 0)), (1, .int x1), (2, .int x2)] → W p l e ({ frames := 1, cells := 0, slots := 0, locals := 27 } : Room) s m args below meth c H locs 0 0 (MQ below (va_Qv (fun (u : va_W) => w10 ty ad o2 = u) (kz_B D ty A) A) args s 0 0 A) (F0 m 7 ls [])) (q : dS) (x1 : Int32) (x2 : Int32) (x3 : Int32) (x4 : Int32) (H : Heap) (locs : List Loc) (ls : Array Slot) (h : zX10_splits_100 k7 q x1 x2 x3 x4 = some o2) (hP : va_P D vwCl (w10 ty ad q) H) (hD : va_D A (w10 ty ad q)) (hS : va_S A s.heap H locs) (hl : lv_has ls 6 [(0, .ref (ad 0)), (1, .int x1), (2, .int x2), (3, .int x3), (4, .int x4)]) : W p l e ({ frames := 1, cells := 0, slots := 0, locals := 27 } : Room) s m args below meth c H locs 0 0 (MQ below (va_Qv (fun (u : va_W) => w10 ty ad o2 = u) (kz_B D ty A) A) args s 0 0 A) (F0 m 100 ls []) := by
  have C0 := C
  obtain ⟨hx, hb, hr, hts, hown, hlocks, hml, hK, hN, hE, hA⟩ := C
  unfold zX10_splits_100 at h
  refine lv_aload_n hx hb dX10_splits_100 rfl (lv_at hl 0 rfl) ?_
  refine va_get (D := D) (ci := 10) (v := .ref (ad 11)) (C := RX10) (T := TX10) (N := 56) hx hb hts u9_wsX10_splits_X10 hown hK hP 0 rfl rfl 17 (by decide) (hts (.fieldLink RX10 60 "TurnedFloorsModel" "placed" "[I") f9_wsX10_splits_100) (fun _ h9 => h9) rfl dX10_splits_101 ?_
  refine lv_aload_n hx hb dX10_splits_104 rfl (lv_at hl 0 rfl) ?_
  refine va_get (D := D) (ci := 10) (v := .int (q.1 0 18)) (C := RX10) (T := TX10) (N := 56) hx hb hts u9_wsX10_splits_X10 hown hK hP 0 rfl rfl 18 (by decide) (hts (.fieldLink RX10 175 "TurnedFloorsModel" "tokens" "I") f9_wsX10_splits_96) (fun _ h9 => h9) rfl dX10_splits_105 ?_
  refine lv_iload_n hx hb dX10_splits_108 rfl (lv_at hl 2 rfl) ?_
  obtain ⟨g1, h⟩ := dG_some h
  refine va_iast hx hb hK hP hD hS 11 0 rfl rfl (dg_in g1) dX10_splits_109 (fun H locs hp hd hs => ?_)
  obtain ⟨q2, eq2, h⟩ := dL_some h
  refine kz_re (w2 := w10 ty ad q2) hp hd hs (by rw [← eq2]; exact w10_a11 ty ad q (Int32.toNatClampNeg (q.1 0 18)) x2) ?_
  clear hp hd hs hP hD hS
  intro hP hD hS
  refine lv_aload_n hx hb dX10_splits_110 rfl (lv_at hl 0 rfl) ?_
  refine va_get (D := D) (ci := 10) (v := .ref (ad 10)) (C := RX10) (T := TX10) (N := 56) hx hb hts u9_wsX10_splits_X10 hown hK hP 0 rfl rfl 16 (by decide) (hts (.fieldLink RX10 57 "TurnedFloorsModel" "value" "[I") f9_wsX10_splits_97) (fun _ h9 => h9) rfl dX10_splits_111 ?_
  refine lv_aload_n hx hb dX10_splits_114 rfl (lv_at hl 0 rfl) ?_
  refine va_get (D := D) (ci := 10) (v := .int (q2.1 0 18)) (C := RX10) (T := TX10) (N := 56) hx hb hts u9_wsX10_splits_X10 hown hK hP 0 rfl rfl 18 (by decide) (hts (.fieldLink RX10 175 "TurnedFloorsModel" "tokens" "I") f9_wsX10_splits_96) (fun _ h9 => h9) rfl dX10_splits_115 ?_
  refine lv_iconst (v := 0) hx hb dX10_splits_118 (by decide) ?_
  obtain ⟨g3, h⟩ := dG_some h
  refine va_iast hx hb hK hP hD hS 10 0 rfl rfl (dg_in g3) dX10_splits_119 (fun H locs hp hd hs => ?_)
  obtain ⟨q4, eq4, h⟩ := dL_some h
  refine kz_re (w2 := w10 ty ad q4) hp hd hs (by rw [← eq4]; exact w10_a10 ty ad q2 (Int32.toNatClampNeg (q2.1 0 18)) 0) ?_
  clear hp hd hs hP hD hS
  intro hP hD hS
  refine lv_aload_n hx hb dX10_splits_120 rfl (lv_at hl 0 rfl) ?_
  refine va_get (D := D) (ci := 10) (v := .ref (ad 9)) (C := RX10) (T := TX10) (N := 56) hx hb hts u9_wsX10_splits_X10 hown hK hP 0 rfl rfl 15 (by decide) (hts (.fieldLink RX10 54 "TurnedFloorsModel" "code" "[I") f9_wsX10_splits_101) (fun _ h9 => h9) rfl dX10_splits_121 ?_
  refine lv_aload_n hx hb dX10_splits_124 rfl (lv_at hl 0 rfl) ?_
  refine va_get (D := D) (ci := 10) (v := .int (q4.1 0 18)) (C := RX10) (T := TX10) (N := 56) hx hb hts u9_wsX10_splits_X10 hown hK hP 0 rfl rfl 18 (by decide) (hts (.fieldLink RX10 175 "TurnedFloorsModel" "tokens" "I") f9_wsX10_splits_96) (fun _ h9 => h9) rfl dX10_splits_125 ?_
  refine lv_iload_n hx hb dX10_splits_128 rfl (lv_at hl 3 rfl) ?_
  obtain ⟨r5, h6, h⟩ := dV_some h
  refine dw_ks (va_runS (As := [.int x3]) (rest := [.int (q4.1 0 18), .ref (ad 9)]) ⟨hx, hb, hml, hown, hts⟩ (qX10_isSmall l D ty eo _ x3 _ h6) (va_cwS 1 hts gX10_splits_X10_isSmall rfl rfl rfl hd_X10_isSmall ⟨Nat.le_of_ble_eq_true rfl, Nat.le_of_ble_eq_true rfl⟩) (pvS_0 hK hN hE hP hD hS hA) rfl rfl hl.1 rfl (lv_room (Nat.le_of_ble_eq_true rfl)) dX10_splits_129 ⟨Nat.le_of_ble_eq_true rfl, Nat.le_of_ble_eq_true rfl⟩) hP hD hS hA (fun _ _ h9 => h9.2.symm) (fun r9 u9 H locs hw hp hd hs => ?_)
  obtain ⟨rfl, -⟩ := hw
  clear hP hD hS
  have hP := hp; have hD := hd; have hS := hs; clear hp hd hs
  refine lv_if_eq (tgt := 145) hx hb dX10_splits_132 (by decide) (fun c9 => ?_) (fun c9 => ?_)
  · rw [if_pos c9] at h
    refine lv_iload_n hx hb dX10_splits_145 rfl (lv_at hl 3 rfl) ?_
    obtain ⟨r7, h8, h⟩ := dV_some h
    refine dw_ks (va_runS (As := [.int x3]) (rest := [.int (q4.1 0 18), .ref (ad 9)]) ⟨hx, hb, hml, hown, hts⟩ (qX10_isDigit l D ty eo _ x3 _ h8) (va_cwS 1 hts gX10_splits_X10_isDigit rfl rfl rfl hd_X10_isDigit ⟨Nat.le_of_ble_eq_true rfl, Nat.le_of_ble_eq_true rfl⟩) (pvS_0 hK hN hE hP hD hS hA) rfl rfl hl.1 rfl (lv_room (Nat.le_of_ble_eq_true rfl)) dX10_splits_146 ⟨Nat.le_of_ble_eq_true rfl, Nat.le_of_ble_eq_true rfl⟩) hP hD hS hA (fun _ _ h9 => h9.2.symm) (fun r9 u9 H locs hw hp hd hs => ?_)
    obtain ⟨rfl, -⟩ := hw
    clear hP hD hS
    have hP := hp; have hD := hd; have hS := hs; clear hp hd hs
    refine lv_if_eq (tgt := 157) hx hb dX10_splits_149 (by decide) (fun c9 => ?_) (fun c9 => ?_)
    · rw [if_pos c9] at h
      refine lv_bipush (v := 100) hx hb dX10_splits_157 (by decide) ?_
      refine lv_iload_n hx hb dX10_splits_159 rfl (lv_at hl 3 rfl) ?_
      refine lv_sipush (v := 255) hx hb dX10_splits_160 (by decide) ?_
      refine lv_iand hx hb dX10_splits_163 ?_
      refine lv_iadd hx hb dX10_splits_164 ?_
      exact WX10_splits_165 C0 hk7 _ _ _ _ _ _ _ _ _ _ h hP hD hS (lv_sub hl [0, 1, 2, 3, 4] rfl)
    · rw [if_neg c9] at h
      refine lv_bipush (v := 50) hx hb dX10_splits_152 (by decide) ?_
      refine lv_goto (tgt := 165) hx hb dX10_splits_154 (by decide) ?_
      exact WX10_splits_165 C0 hk7 _ _ _ _ _ _ _ _ _ _ h hP hD hS (lv_sub hl [0, 1, 2, 3, 4] rfl)
  · rw [if_neg c9] at h
    refine lv_aload_n hx hb dX10_splits_135 rfl (lv_at hl 0 rfl) ?_
    refine lv_iload_n hx hb dX10_splits_136 rfl (lv_at hl 2 rfl) ?_
    refine lv_iload hx hb dX10_splits_137 (lv_at hl 4 rfl) ?_
    obtain ⟨r9, q11, h10, h⟩ := dB_some h
    refine dw_ki (va_runV (As := [.int x2, .int x4]) (rest := [.int (q4.1 0 18), .ref (ad 9)]) ⟨hx, hb, hml, hown, hts⟩ (qX10_wordOf l D ty eo _ ad q4 x2 x4 r9 q11 h10) (cwV 2 hts gX10_splits_X10_wordOf rfl rfl rfl hd_X10_wordOf_v ⟨Nat.le_of_ble_eq_true rfl, Nat.le_of_ble_eq_true rfl⟩) (pv10_10_0 hK hN hE hP hD hS hA) rfl rfl hl.1 rfl (lv_room (Nat.le_of_ble_eq_true rfl)) dX10_splits_139 ⟨Nat.le_of_ble_eq_true rfl, Nat.le_of_ble_eq_true rfl⟩) hD hS hA (fun r9 u9 H locs hw hp hd hs => ?_)
    clear hP hD hS
    obtain ⟨rfl, rfl⟩ := hw
    have hP := hp; have hD := hd; have hS := hs; clear hp hd hs
    refine lv_goto (tgt := 165) hx hb dX10_splits_142 (by decide) ?_
    exact WX10_splits_165 C0 hk7 _ _ _ _ _ _ _ _ _ _ h hP hD hS (lv_sub hl [0, 1, 2, 3, 4] rfl)
set_option maxHeartbeats 4000000 in
set_option maxRecDepth 100000 in
theorem WX10_splits_75b {p : Program} {l : Launch} {e : Env} {s : State} {m : MethodId} {args : Array Value} {below : List Frame} {meth : Method} {c : Code} {D : va_G} {ty : Nat → ClassId} {eo : Nat → Nat} {A : Nat → Prop} {ad : Nat → Nat} {o2 : dS} (C : dc_C p s m args meth c cX10_splits none 6 RX10 wsX10_splits D ty eo A) {k7 : dS → Int32 → Int32 → Option (dS)} {k75 : dS → Int32 → Int32 → Int32 → Int32 → Option (dS)} (hk7 : ∀ (q : dS) (x1 : Int32) (x2 : Int32) (H : Heap) (locs : List Loc) (ls : Array Slot), k7 q x1 x2 = some o2 → va_P D vwCl (w10 ty ad q) H → va_D A (w10 ty ad q) → va_S A s.heap H locs → lv_has ls 6 [(0, .ref (ad 0)), (1, .int x1), (2, .int x2)] → W p l e ({ frames := 1, cells := 0, slots := 0, locals := 27 } : Room) s m args below meth c H locs 0 0 (MQ below (va_Qv (fun (u : va_W) => w10 ty ad o2 = u) (kz_B D ty A) A) args s 0 0 A) (F0 m 7 ls [])) (hk75 : ∀ (q : dS) (x1 : Int32) (x2 : Int32) (x3 : Int32) (x4 : Int32) (H : Heap) (locs : List Loc) (ls : Array Slot), k75 q x1 x2 x3 x4 = some o2 → va_P D vwCl (w10 ty ad q) H → va_D A (w10 ty ad q) → va_S A s.heap H locs → lv_has ls 6 [(0, .ref (ad 0)), (1, .int x1), (2, .int x2), (3, .int x3), (4, .int x4)] → W p l e ({ frames := 1, cells := 0, slots := 0, locals := 27 } : Room) s m args below meth c H locs 0 0 (MQ below (va_Qv (fun (u : va_W) => w10 ty ad o2 = u) (kz_B D ty A) A) args s 0 0 A) (F0 m 75 ls [])) (q : dS) (x1 : Int32) (x2 : Int32) (x3 : Int32) (x4 : Int32) (H : Heap) (locs : List Loc) (ls : Array Slot) (h : zX10_splits_75b k7 k75 q x1 x2 x3 x4 = some o2) (hP : va_P D vwCl (w10 ty ad q) H) (hD : va_D A (w10 ty ad q)) (hS : va_S A s.heap H locs) (hl : lv_has ls 6 [(0, .ref (ad 0)), (1, .int x1), (2, .int x2), (3, .int x3), (4, .int x4)]) : W p l e ({ frames := 1, cells := 0, slots := 0, locals := 27 } : Room) s m args below meth c H locs 0 0 (MQ below (va_Qv (fun (u : va_W) => w10 ty ad o2 = u) (kz_B D ty A) A) args s 0 0 A) (F0 m 75 ls []) := by
  have C0 := C
  obtain ⟨hx, hb, hr, hts, hown, hlocks, hml, hK, hN, hE, hA⟩ := C
  unfold zX10_splits_75b at h
  refine lv_iload hx hb dX10_splits_75 (lv_at hl 4 rfl) ?_
  refine lv_iload_n hx hb dX10_splits_77 rfl (lv_at hl 1 rfl) ?_
  refine lv_icmp_ge (tgt := 100) hx hb dX10_splits_78 (by decide) (fun c9 => ?_) (fun c9 => ?_)
  · rw [if_pos c9] at h
    exact WX10_splits_100 C0 hk7 _ _ _ _ _ _ _ _ h hP hD hS (lv_sub hl [0, 1, 2, 3, 4] rfl)
  · rw [if_neg c9] at h
    refine lv_aload_n hx hb dX10_splits_81 rfl (lv_at hl 0 rfl) ?_
    refine va_get (D := D) (ci := 10) (v := .ref (ad 7)) (C := RX10) (T := TX10) (N := 56) hx hb hts u9_wsX10_splits_X10 hown hK hP 0 rfl rfl 11 (by decide) (hts (.fieldLink RX10 45 "TurnedFloorsModel" "tape" "[B") f9_wsX10_splits_99) (fun _ h9 => h9) rfl dX10_splits_82 ?_
    refine lv_iload hx hb dX10_splits_85 (lv_at hl 4 rfl) ?_
    obtain ⟨g1, h⟩ := dG_some h
    refine va_bald hx hb hK hP 7 3 rfl rfl (dg_in g1) dX10_splits_87 ?_
    obtain ⟨v2, ev2, h⟩ := dL_some h
    refine kz_topi v2 ev2 ?_
    obtain ⟨r3, h4, h⟩ := dV_some h
    refine dw_ks (va_runS (As := [.int v2]) (rest := []) ⟨hx, hb, hml, hown, hts⟩ (qX10_isDigit l D ty eo _ v2 _ h4) (va_cwS 1 hts gX10_splits_X10_isDigit rfl rfl rfl hd_X10_isDigit ⟨Nat.le_of_ble_eq_true rfl, Nat.le_of_ble_eq_true rfl⟩) (pvS_0 hK hN hE hP hD hS hA) rfl rfl hl.1 rfl (lv_room (Nat.le_of_ble_eq_true rfl)) dX10_splits_88 ⟨Nat.le_of_ble_eq_true rfl, Nat.le_of_ble_eq_true rfl⟩) hP hD hS hA (fun _ _ h9 => h9.2.symm) (fun r9 u9 H locs hw hp hd hs => ?_)
    obtain ⟨rfl, -⟩ := hw
    clear hP hD hS
    have hP := hp; have hD := hd; have hS := hs; clear hp hd hs
    refine lv_if_eq (tgt := 100) hx hb dX10_splits_91 (by decide) (fun c9 => ?_) (fun c9 => ?_)
    · rw [if_pos c9] at h
      exact WX10_splits_100 C0 hk7 _ _ _ _ _ _ _ _ h hP hD hS (lv_sub hl [0, 1, 2, 3, 4] rfl)
    · rw [if_neg c9] at h
      refine lv_iinc (v := x4 + 1) (lv' := [(4, .int (x4 + 1)), (0, .ref (ad 0)), (1, .int x1), (2, .int x2), (3, .int x3)]) hx hb dX10_splits_94 hl (k := 4) rfl rfl (by decide) rfl (fun ls hl => ?_)
      refine lv_goto (tgt := 75) hx hb dX10_splits_97 (by decide) ?_
      exact hk75 _ _ _ _ _ _ _ _ h hP hD hS (lv_sub hl [1, 2, 3, 4, 0] rfl)
set_option maxHeartbeats 4000000 in
set_option maxRecDepth 100000 in
theorem WX10_splits_75 {p : Program} {l : Launch} {e : Env} {s : State} {m : MethodId} {args : Array Value} {below : List Frame} {meth : Method} {c : Code} {D : va_G} {ty : Nat → ClassId} {eo : Nat → Nat} {A : Nat → Prop} {ad : Nat → Nat} {o2 : dS} (C : dc_C p s m args meth c cX10_splits none 6 RX10 wsX10_splits D ty eo A) {k7 : dS → Int32 → Int32 → Option (dS)} (hk7 : ∀ (q : dS) (x1 : Int32) (x2 : Int32) (H : Heap) (locs : List Loc) (ls : Array Slot), k7 q x1 x2 = some o2 → va_P D vwCl (w10 ty ad q) H → va_D A (w10 ty ad q) → va_S A s.heap H locs → lv_has ls 6 [(0, .ref (ad 0)), (1, .int x1), (2, .int x2)] → W p l e ({ frames := 1, cells := 0, slots := 0, locals := 27 } : Room) s m args below meth c H locs 0 0 (MQ below (va_Qv (fun (u : va_W) => w10 ty ad o2 = u) (kz_B D ty A) A) args s 0 0 A) (F0 m 7 ls [])) (n : Nat) (q : dS) (x1 : Int32) (x2 : Int32) (x3 : Int32) (x4 : Int32) (H : Heap) (locs : List Loc) (ls : Array Slot) (h : zX10_splits_75 k7 n q x1 x2 x3 x4 = some o2) (hP : va_P D vwCl (w10 ty ad q) H) (hD : va_D A (w10 ty ad q)) (hS : va_S A s.heap H locs) (hl : lv_has ls 6 [(0, .ref (ad 0)), (1, .int x1), (2, .int x2), (3, .int x3), (4, .int x4)]) : W p l e ({ frames := 1, cells := 0, slots := 0, locals := 27 } : Room) s m args below meth c H locs 0 0 (MQ below (va_Qv (fun (u : va_W) => w10 ty ad o2 = u) (kz_B D ty A) A) args s 0 0 A) (F0 m 75 ls []) := by
  exact dFix_W (F := fun k (a : dS × Int32 × Int32 × Int32 × Int32) => zX10_splits_75b k7 (fun q x1 x2 x3 x4 => k (q, x1, x2, x3, x4)) a.1 a.2.1 a.2.2.1 a.2.2.2.1 a.2.2.2.2) (o := o2) (P := fun (a : dS × Int32 × Int32 × Int32 × Int32) H locs ls => va_P D vwCl (w10 ty ad a.1) H ∧ va_D A (w10 ty ad a.1) ∧ va_S A s.heap H locs ∧ lv_has ls 6 [(0, .ref (ad 0)), (1, .int a.2.1), (2, .int a.2.2.1), (3, .int a.2.2.2.1), (4, .int a.2.2.2.2)]) (G := fun H locs ls => W p l e ({ frames := 1, cells := 0, slots := 0, locals := 27 } : Room) s m args below meth c H locs 0 0 (MQ below (va_Qv (fun (u : va_W) => w10 ty ad o2 = u) (kz_B D ty A) A) args s 0 0 A) (F0 m 75 ls []))
    (fun k hk a H locs ls h hp => WX10_splits_75b C hk7 (fun q x1 x2 x3 x4 H locs ls h h1 h2 h3 h4 => hk (q, x1, x2, x3, x4) H locs ls h ⟨h1, h2, h3, h4⟩) a.1 a.2.1 a.2.2.1 a.2.2.2.1 a.2.2.2.2 H locs ls h hp.1 hp.2.1 hp.2.2.1 hp.2.2.2) n (q, x1, x2, x3, x4) H locs ls h ⟨hP, hD, hS, hl⟩
set_option maxHeartbeats 4000000 in
set_option maxRecDepth 100000 in
theorem WX10_splits_68 {p : Program} {l : Launch} {e : Env} {s : State} {m : MethodId} {args : Array Value} {below : List Frame} {meth : Method} {c : Code} {D : va_G} {ty : Nat → ClassId} {eo : Nat → Nat} {A : Nat → Prop} {ad : Nat → Nat} {o2 : dS} (C : dc_C p s m args meth c cX10_splits none 6 RX10 wsX10_splits D ty eo A) {k7 : dS → Int32 → Int32 → Option (dS)} (hk7 : ∀ (q : dS) (x1 : Int32) (x2 : Int32) (H : Heap) (locs : List Loc) (ls : Array Slot), k7 q x1 x2 = some o2 → va_P D vwCl (w10 ty ad q) H → va_D A (w10 ty ad q) → va_S A s.heap H locs → lv_has ls 6 [(0, .ref (ad 0)), (1, .int x1), (2, .int x2)] → W p l e ({ frames := 1, cells := 0, slots := 0, locals := 27 } : Room) s m args below meth c H locs 0 0 (MQ below (va_Qv (fun (u : va_W) => w10 ty ad o2 = u) (kz_B D ty A) A) args s 0 0 A) (F0 m 7 ls [])) (q : dS) (x1 : Int32) (x2 : Int32) (x3 : Int32) (x4 : Int32) (H : Heap) (locs : List Loc) (ls : Array Slot) (h : zX10_splits_68 k7 q x1 x2 x3 x4 = some o2) (hP : va_P D vwCl (w10 ty ad q) H) (hD : va_D A (w10 ty ad q)) (hS : va_S A s.heap H locs) (hl : lv_has ls 6 [(0, .ref (ad 0)), (1, .int x1), (2, .int x2), (3, .int x3), (4, .int x4)]) : W p l e ({ frames := 1, cells := 0, slots := 0, locals := 27 } : Room) s m args below meth c H locs 0 0 (MQ below (va_Qv (fun (u : va_W) => w10 ty ad o2 = u) (kz_B D ty A) A) args s 0 0 A) (F0 m 68 ls []) := by
  have C0 := C
  obtain ⟨hx, hb, hr, hts, hown, hlocks, hml, hK, hN, hE, hA⟩ := C
  unfold zX10_splits_68 at h
  refine lv_iload_n hx hb dX10_splits_68 rfl (lv_at hl 3 rfl) ?_
  obtain ⟨r1, h2, h⟩ := dV_some h
  refine dw_ks (va_runS (As := [.int x3]) (rest := []) ⟨hx, hb, hml, hown, hts⟩ (qX10_isDigit l D ty eo _ x3 _ h2) (va_cwS 1 hts gX10_splits_X10_isDigit rfl rfl rfl hd_X10_isDigit ⟨Nat.le_of_ble_eq_true rfl, Nat.le_of_ble_eq_true rfl⟩) (pvS_0 hK hN hE hP hD hS hA) rfl rfl hl.1 rfl (lv_room (Nat.le_of_ble_eq_true rfl)) dX10_splits_69 ⟨Nat.le_of_ble_eq_true rfl, Nat.le_of_ble_eq_true rfl⟩) hP hD hS hA (fun _ _ h9 => h9.2.symm) (fun r9 u9 H locs hw hp hd hs => ?_)
  obtain ⟨rfl, -⟩ := hw
  clear hP hD hS
  have hP := hp; have hD := hd; have hS := hs; clear hp hd hs
  refine lv_if_eq (tgt := 100) hx hb dX10_splits_72 (by decide) (fun c9 => ?_) (fun c9 => ?_)
  · rw [if_pos c9] at h
    exact WX10_splits_100 C0 hk7 _ _ _ _ _ _ _ _ h hP hD hS (lv_sub hl [0, 1, 2, 3, 4] rfl)
  · rw [if_neg c9] at h
    exact WX10_splits_75 C0 hk7 _ _ _ _ _ _ _ _ _ h hP hD hS (lv_sub hl [0, 1, 2, 3, 4] rfl)
set_option maxHeartbeats 4000000 in
set_option maxRecDepth 100000 in
theorem WX10_splits_43b {p : Program} {l : Launch} {e : Env} {s : State} {m : MethodId} {args : Array Value} {below : List Frame} {meth : Method} {c : Code} {D : va_G} {ty : Nat → ClassId} {eo : Nat → Nat} {A : Nat → Prop} {ad : Nat → Nat} {o2 : dS} (C : dc_C p s m args meth c cX10_splits none 6 RX10 wsX10_splits D ty eo A) {k7 : dS → Int32 → Int32 → Option (dS)} {k43 : dS → Int32 → Int32 → Int32 → Int32 → Option (dS)} (hk7 : ∀ (q : dS) (x1 : Int32) (x2 : Int32) (H : Heap) (locs : List Loc) (ls : Array Slot), k7 q x1 x2 = some o2 → va_P D vwCl (w10 ty ad q) H → va_D A (w10 ty ad q) → va_S A s.heap H locs → lv_has ls 6 [(0, .ref (ad 0)), (1, .int x1), (2, .int x2)] → W p l e ({ frames := 1, cells := 0, slots := 0, locals := 27 } : Room) s m args below meth c H locs 0 0 (MQ below (va_Qv (fun (u : va_W) => w10 ty ad o2 = u) (kz_B D ty A) A) args s 0 0 A) (F0 m 7 ls [])) (hk43 : ∀ (q : dS) (x1 : Int32) (x2 : Int32) (x3 : Int32) (x4 : Int32) (H : Heap) (locs : List Loc) (ls : Array Slot), k43 q x1 x2 x3 x4 = some o2 → va_P D vwCl (w10 ty ad q) H → va_D A (w10 ty ad q) → va_S A s.heap H locs → lv_has ls 6 [(0, .ref (ad 0)), (1, .int x1), (2, .int x2), (3, .int x3), (4, .int x4)] → W p l e ({ frames := 1, cells := 0, slots := 0, locals := 27 } : Room) s m args below meth c H locs 0 0 (MQ below (va_Qv (fun (u : va_W) => w10 ty ad o2 = u) (kz_B D ty A) A) args s 0 0 A) (F0 m 43 ls [])) (q : dS) (x1 : Int32) (x2 : Int32) (x3 : Int32) (x4 : Int32) (H : Heap) (locs : List Loc) (ls : Array Slot) (h : zX10_splits_43b k7 k43 q x1 x2 x3 x4 = some o2) (hP : va_P D vwCl (w10 ty ad q) H) (hD : va_D A (w10 ty ad q)) (hS : va_S A s.heap H locs) (hl : lv_has ls 6 [(0, .ref (ad 0)), (1, .int x1), (2, .int x2), (3, .int x3), (4, .int x4)]) : W p l e ({ frames := 1, cells := 0, slots := 0, locals := 27 } : Room) s m args below meth c H locs 0 0 (MQ below (va_Qv (fun (u : va_W) => w10 ty ad o2 = u) (kz_B D ty A) A) args s 0 0 A) (F0 m 43 ls []) := by
  have C0 := C
  obtain ⟨hx, hb, hr, hts, hown, hlocks, hml, hK, hN, hE, hA⟩ := C
  unfold zX10_splits_43b at h
  refine lv_iload hx hb dX10_splits_43 (lv_at hl 4 rfl) ?_
  refine lv_iload_n hx hb dX10_splits_45 rfl (lv_at hl 1 rfl) ?_
  refine lv_icmp_ge (tgt := 68) hx hb dX10_splits_46 (by decide) (fun c9 => ?_) (fun c9 => ?_)
  · rw [if_pos c9] at h
    exact WX10_splits_68 C0 hk7 _ _ _ _ _ _ _ _ h hP hD hS (lv_sub hl [0, 1, 2, 3, 4] rfl)
  · rw [if_neg c9] at h
    refine lv_aload_n hx hb dX10_splits_49 rfl (lv_at hl 0 rfl) ?_
    refine va_get (D := D) (ci := 10) (v := .ref (ad 7)) (C := RX10) (T := TX10) (N := 56) hx hb hts u9_wsX10_splits_X10 hown hK hP 0 rfl rfl 11 (by decide) (hts (.fieldLink RX10 45 "TurnedFloorsModel" "tape" "[B") f9_wsX10_splits_99) (fun _ h9 => h9) rfl dX10_splits_50 ?_
    refine lv_iload hx hb dX10_splits_53 (lv_at hl 4 rfl) ?_
    obtain ⟨g1, h⟩ := dG_some h
    refine va_bald hx hb hK hP 7 3 rfl rfl (dg_in g1) dX10_splits_55 ?_
    obtain ⟨v2, ev2, h⟩ := dL_some h
    refine kz_topi v2 ev2 ?_
    obtain ⟨r3, h4, h⟩ := dV_some h
    refine dw_ks (va_runS (As := [.int v2]) (rest := []) ⟨hx, hb, hml, hown, hts⟩ (qX10_isSmall l D ty eo _ v2 _ h4) (va_cwS 1 hts gX10_splits_X10_isSmall rfl rfl rfl hd_X10_isSmall ⟨Nat.le_of_ble_eq_true rfl, Nat.le_of_ble_eq_true rfl⟩) (pvS_0 hK hN hE hP hD hS hA) rfl rfl hl.1 rfl (lv_room (Nat.le_of_ble_eq_true rfl)) dX10_splits_56 ⟨Nat.le_of_ble_eq_true rfl, Nat.le_of_ble_eq_true rfl⟩) hP hD hS hA (fun _ _ h9 => h9.2.symm) (fun r9 u9 H locs hw hp hd hs => ?_)
    obtain ⟨rfl, -⟩ := hw
    clear hP hD hS
    have hP := hp; have hD := hd; have hS := hs; clear hp hd hs
    refine lv_if_eq (tgt := 68) hx hb dX10_splits_59 (by decide) (fun c9 => ?_) (fun c9 => ?_)
    · rw [if_pos c9] at h
      exact WX10_splits_68 C0 hk7 _ _ _ _ _ _ _ _ h hP hD hS (lv_sub hl [0, 1, 2, 3, 4] rfl)
    · rw [if_neg c9] at h
      refine lv_iinc (v := x4 + 1) (lv' := [(4, .int (x4 + 1)), (0, .ref (ad 0)), (1, .int x1), (2, .int x2), (3, .int x3)]) hx hb dX10_splits_62 hl (k := 4) rfl rfl (by decide) rfl (fun ls hl => ?_)
      refine lv_goto (tgt := 43) hx hb dX10_splits_65 (by decide) ?_
      exact hk43 _ _ _ _ _ _ _ _ h hP hD hS (lv_sub hl [1, 2, 3, 4, 0] rfl)
set_option maxHeartbeats 4000000 in
set_option maxRecDepth 100000 in
theorem WX10_splits_43 {p : Program} {l : Launch} {e : Env} {s : State} {m : MethodId} {args : Array Value} {below : List Frame} {meth : Method} {c : Code} {D : va_G} {ty : Nat → ClassId} {eo : Nat → Nat} {A : Nat → Prop} {ad : Nat → Nat} {o2 : dS} (C : dc_C p s m args meth c cX10_splits none 6 RX10 wsX10_splits D ty eo A) {k7 : dS → Int32 → Int32 → Option (dS)} (hk7 : ∀ (q : dS) (x1 : Int32) (x2 : Int32) (H : Heap) (locs : List Loc) (ls : Array Slot), k7 q x1 x2 = some o2 → va_P D vwCl (w10 ty ad q) H → va_D A (w10 ty ad q) → va_S A s.heap H locs → lv_has ls 6 [(0, .ref (ad 0)), (1, .int x1), (2, .int x2)] → W p l e ({ frames := 1, cells := 0, slots := 0, locals := 27 } : Room) s m args below meth c H locs 0 0 (MQ below (va_Qv (fun (u : va_W) => w10 ty ad o2 = u) (kz_B D ty A) A) args s 0 0 A) (F0 m 7 ls [])) (n : Nat) (q : dS) (x1 : Int32) (x2 : Int32) (x3 : Int32) (x4 : Int32) (H : Heap) (locs : List Loc) (ls : Array Slot) (h : zX10_splits_43 k7 n q x1 x2 x3 x4 = some o2) (hP : va_P D vwCl (w10 ty ad q) H) (hD : va_D A (w10 ty ad q)) (hS : va_S A s.heap H locs) (hl : lv_has ls 6 [(0, .ref (ad 0)), (1, .int x1), (2, .int x2), (3, .int x3), (4, .int x4)]) : W p l e ({ frames := 1, cells := 0, slots := 0, locals := 27 } : Room) s m args below meth c H locs 0 0 (MQ below (va_Qv (fun (u : va_W) => w10 ty ad o2 = u) (kz_B D ty A) A) args s 0 0 A) (F0 m 43 ls []) := by
  exact dFix_W (F := fun k (a : dS × Int32 × Int32 × Int32 × Int32) => zX10_splits_43b k7 (fun q x1 x2 x3 x4 => k (q, x1, x2, x3, x4)) a.1 a.2.1 a.2.2.1 a.2.2.2.1 a.2.2.2.2) (o := o2) (P := fun (a : dS × Int32 × Int32 × Int32 × Int32) H locs ls => va_P D vwCl (w10 ty ad a.1) H ∧ va_D A (w10 ty ad a.1) ∧ va_S A s.heap H locs ∧ lv_has ls 6 [(0, .ref (ad 0)), (1, .int a.2.1), (2, .int a.2.2.1), (3, .int a.2.2.2.1), (4, .int a.2.2.2.2)]) (G := fun H locs ls => W p l e ({ frames := 1, cells := 0, slots := 0, locals := 27 } : Room) s m args below meth c H locs 0 0 (MQ below (va_Qv (fun (u : va_W) => w10 ty ad o2 = u) (kz_B D ty A) A) args s 0 0 A) (F0 m 43 ls []))
    (fun k hk a H locs ls h hp => WX10_splits_43b C hk7 (fun q x1 x2 x3 x4 H locs ls h h1 h2 h3 h4 => hk (q, x1, x2, x3, x4) H locs ls h ⟨h1, h2, h3, h4⟩) a.1 a.2.1 a.2.2.1 a.2.2.2.1 a.2.2.2.2 H locs ls h hp.1 hp.2.1 hp.2.2.1 hp.2.2.2) n (q, x1, x2, x3, x4) H locs ls h ⟨hP, hD, hS, hl⟩
set_option maxHeartbeats 4000000 in
set_option maxRecDepth 100000 in
theorem WX10_splits_7b {p : Program} {l : Launch} {e : Env} {s : State} {m : MethodId} {args : Array Value} {below : List Frame} {meth : Method} {c : Code} {D : va_G} {ty : Nat → ClassId} {eo : Nat → Nat} {A : Nat → Prop} {ad : Nat → Nat} {o2 : dS} (C : dc_C p s m args meth c cX10_splits none 6 RX10 wsX10_splits D ty eo A) {k7 : dS → Int32 → Int32 → Option (dS)} (hk7 : ∀ (q : dS) (x1 : Int32) (x2 : Int32) (H : Heap) (locs : List Loc) (ls : Array Slot), k7 q x1 x2 = some o2 → va_P D vwCl (w10 ty ad q) H → va_D A (w10 ty ad q) → va_S A s.heap H locs → lv_has ls 6 [(0, .ref (ad 0)), (1, .int x1), (2, .int x2)] → W p l e ({ frames := 1, cells := 0, slots := 0, locals := 27 } : Room) s m args below meth c H locs 0 0 (MQ below (va_Qv (fun (u : va_W) => w10 ty ad o2 = u) (kz_B D ty A) A) args s 0 0 A) (F0 m 7 ls [])) (q : dS) (x1 : Int32) (x2 : Int32) (H : Heap) (locs : List Loc) (ls : Array Slot) (h : zX10_splits_7b k7 q x1 x2 = some o2) (hP : va_P D vwCl (w10 ty ad q) H) (hD : va_D A (w10 ty ad q)) (hS : va_S A s.heap H locs) (hl : lv_has ls 6 [(0, .ref (ad 0)), (1, .int x1), (2, .int x2)]) : W p l e ({ frames := 1, cells := 0, slots := 0, locals := 27 } : Room) s m args below meth c H locs 0 0 (MQ below (va_Qv (fun (u : va_W) => w10 ty ad o2 = u) (kz_B D ty A) A) args s 0 0 A) (F0 m 7 ls []) := by
  have C0 := C
  obtain ⟨hx, hb, hr, hts, hown, hlocks, hml, hK, hN, hE, hA⟩ := C
  unfold zX10_splits_7b at h
  refine lv_iload_n hx hb dX10_splits_7 rfl (lv_at hl 2 rfl) ?_
  refine lv_iload_n hx hb dX10_splits_8 rfl (lv_at hl 1 rfl) ?_
  refine lv_icmp_ge (tgt := 263) hx hb dX10_splits_9 (by decide) (fun c9 => ?_) (fun c9 => ?_)
  · rw [if_pos c9] at h
    refine lv_aload_n hx hb dX10_splits_263 rfl (lv_at hl 0 rfl) ?_
    refine va_get (D := D) (ci := 10) (v := .ref (ad 11)) (C := RX10) (T := TX10) (N := 56) hx hb hts u9_wsX10_splits_X10 hown hK hP 0 rfl rfl 17 (by decide) (hts (.fieldLink RX10 60 "TurnedFloorsModel" "placed" "[I") f9_wsX10_splits_100) (fun _ h9 => h9) rfl dX10_splits_264 ?_
    refine lv_aload_n hx hb dX10_splits_267 rfl (lv_at hl 0 rfl) ?_
    refine va_get (D := D) (ci := 10) (v := .int (q.1 0 18)) (C := RX10) (T := TX10) (N := 56) hx hb hts u9_wsX10_splits_X10 hown hK hP 0 rfl rfl 18 (by decide) (hts (.fieldLink RX10 175 "TurnedFloorsModel" "tokens" "I") f9_wsX10_splits_96) (fun _ h9 => h9) rfl dX10_splits_268 ?_
    refine lv_iload_n hx hb dX10_splits_271 rfl (lv_at hl 1 rfl) ?_
    obtain ⟨g1, h⟩ := dG_some h
    refine va_iast hx hb hK hP hD hS 11 0 rfl rfl (dg_in g1) dX10_splits_272 (fun H locs hp hd hs => ?_)
    obtain ⟨q2, eq2, h⟩ := dL_some h
    refine kz_re (w2 := w10 ty ad q2) hp hd hs (by rw [← eq2]; exact w10_a11 ty ad q (Int32.toNatClampNeg (q.1 0 18)) x1) ?_
    clear hp hd hs hP hD hS
    intro hP hD hS
    refine lv_aload_n hx hb dX10_splits_273 rfl (lv_at hl 0 rfl) ?_
    refine va_get (D := D) (ci := 10) (v := .ref (ad 9)) (C := RX10) (T := TX10) (N := 56) hx hb hts u9_wsX10_splits_X10 hown hK hP 0 rfl rfl 15 (by decide) (hts (.fieldLink RX10 54 "TurnedFloorsModel" "code" "[I") f9_wsX10_splits_101) (fun _ h9 => h9) rfl dX10_splits_274 ?_
    refine lv_aload_n hx hb dX10_splits_277 rfl (lv_at hl 0 rfl) ?_
    refine va_get (D := D) (ci := 10) (v := .int (q2.1 0 18)) (C := RX10) (T := TX10) (N := 56) hx hb hts u9_wsX10_splits_X10 hown hK hP 0 rfl rfl 18 (by decide) (hts (.fieldLink RX10 175 "TurnedFloorsModel" "tokens" "I") f9_wsX10_splits_96) (fun _ h9 => h9) rfl dX10_splits_278 ?_
    refine lv_iconst (v := 0) hx hb dX10_splits_281 (by decide) ?_
    obtain ⟨g3, h⟩ := dG_some h
    refine va_iast hx hb hK hP hD hS 9 0 rfl rfl (dg_in g3) dX10_splits_282 (fun H locs hp hd hs => ?_)
    obtain ⟨q4, eq4, h⟩ := dL_some h
    refine kz_re (w2 := w10 ty ad q4) hp hd hs (by rw [← eq4]; exact w10_a9 ty ad q2 (Int32.toNatClampNeg (q2.1 0 18)) 0) ?_
    clear hp hd hs hP hD hS
    intro hP hD hS
    refine lv_aload_n hx hb dX10_splits_283 rfl (lv_at hl 0 rfl) ?_
    refine va_get (D := D) (ci := 10) (v := .ref (ad 10)) (C := RX10) (T := TX10) (N := 56) hx hb hts u9_wsX10_splits_X10 hown hK hP 0 rfl rfl 16 (by decide) (hts (.fieldLink RX10 57 "TurnedFloorsModel" "value" "[I") f9_wsX10_splits_97) (fun _ h9 => h9) rfl dX10_splits_284 ?_
    refine lv_aload_n hx hb dX10_splits_287 rfl (lv_at hl 0 rfl) ?_
    refine va_get (D := D) (ci := 10) (v := .int (q4.1 0 18)) (C := RX10) (T := TX10) (N := 56) hx hb hts u9_wsX10_splits_X10 hown hK hP 0 rfl rfl 18 (by decide) (hts (.fieldLink RX10 175 "TurnedFloorsModel" "tokens" "I") f9_wsX10_splits_96) (fun _ h9 => h9) rfl dX10_splits_288 ?_
    refine lv_iconst (v := 0) hx hb dX10_splits_291 (by decide) ?_
    obtain ⟨g5, h⟩ := dG_some h
    refine va_iast hx hb hK hP hD hS 10 0 rfl rfl (dg_in g5) dX10_splits_292 (fun H locs hp hd hs => ?_)
    obtain ⟨q6, eq6, h⟩ := dL_some h
    refine kz_re (w2 := w10 ty ad q6) hp hd hs (by rw [← eq6]; exact w10_a10 ty ad q4 (Int32.toNatClampNeg (q4.1 0 18)) 0) ?_
    clear hp hd hs hP hD hS
    intro hP hD hS
    cases h
    exact kz_vret hx hb hr hlocks hP hK hD hS dX10_splits_293 rfl
  · rw [if_neg c9] at h
    refine lv_aload_n hx hb dX10_splits_12 rfl (lv_at hl 0 rfl) ?_
    refine va_get (D := D) (ci := 10) (v := .ref (ad 7)) (C := RX10) (T := TX10) (N := 56) hx hb hts u9_wsX10_splits_X10 hown hK hP 0 rfl rfl 11 (by decide) (hts (.fieldLink RX10 45 "TurnedFloorsModel" "tape" "[B") f9_wsX10_splits_99) (fun _ h9 => h9) rfl dX10_splits_13 ?_
    refine lv_iload_n hx hb dX10_splits_16 rfl (lv_at hl 2 rfl) ?_
    obtain ⟨g7, h⟩ := dG_some h
    refine va_bald hx hb hK hP 7 3 rfl rfl (dg_in g7) dX10_splits_17 ?_
    obtain ⟨v8, ev8, h⟩ := dL_some h
    refine kz_topi v8 ev8 ?_
    refine lv_istore_n (lv' := [(3, .int v8), (0, .ref (ad 0)), (1, .int x1), (2, .int x2)]) hx hb dX10_splits_18 rfl hl (by decide) rfl (fun ls hl => ?_)
    refine lv_iload_n hx hb dX10_splits_19 rfl (lv_at hl 0 rfl) ?_
    refine lv_bipush (v := 32) hx hb dX10_splits_20 (by decide) ?_
    refine lv_icmp_ne (tgt := 31) hx hb dX10_splits_22 (by decide) (fun c9 => ?_) (fun c9 => ?_)
    · rw [if_neg c9] at h
      refine lv_iload_n hx hb dX10_splits_31 rfl (lv_at hl 3 rfl) ?_
      refine lv_iconst (v := 1) hx hb dX10_splits_32 (by decide) ?_
      refine lv_iadd hx hb dX10_splits_33 ?_
      refine lv_istore (lv' := [(4, .int (x2 + 1 : Int32)), (3, .int v8), (0, .ref (ad 0)), (1, .int x1), (2, .int x2)]) hx hb dX10_splits_34 hl (by decide) rfl (fun ls hl => ?_)
      refine lv_iload_n hx hb dX10_splits_36 rfl (lv_at hl 1 rfl) ?_
      obtain ⟨r9, h10, h⟩ := dV_some h
      refine dw_ks (va_runS (As := [.int v8]) (rest := []) ⟨hx, hb, hml, hown, hts⟩ (qX10_isSmall l D ty eo _ v8 _ h10) (va_cwS 1 hts gX10_splits_X10_isSmall rfl rfl rfl hd_X10_isSmall ⟨Nat.le_of_ble_eq_true rfl, Nat.le_of_ble_eq_true rfl⟩) (pvS_0 hK hN hE hP hD hS hA) rfl rfl hl.1 rfl (lv_room (Nat.le_of_ble_eq_true rfl)) dX10_splits_37 ⟨Nat.le_of_ble_eq_true rfl, Nat.le_of_ble_eq_true rfl⟩) hP hD hS hA (fun _ _ h9 => h9.2.symm) (fun r9 u9 H locs hw hp hd hs => ?_)
      obtain ⟨rfl, -⟩ := hw
      clear hP hD hS
      have hP := hp; have hD := hd; have hS := hs; clear hp hd hs
      refine lv_if_eq (tgt := 68) hx hb dX10_splits_40 (by decide) (fun c9 => ?_) (fun c9 => ?_)
      · rw [if_pos c9] at h
        exact WX10_splits_68 C0 hk7 _ _ _ _ _ _ _ _ h hP hD hS (lv_sub hl [2, 3, 4, 1, 0] rfl)
      · rw [if_neg c9] at h
        exact WX10_splits_43 C0 hk7 _ _ _ _ _ _ _ _ _ h hP hD hS (lv_sub hl [2, 3, 4, 1, 0] rfl)
    · rw [if_pos c9] at h
      refine lv_iinc (v := x2 + 1) (lv' := [(2, .int (x2 + 1)), (3, .int v8), (0, .ref (ad 0)), (1, .int x1)]) hx hb dX10_splits_25 hl (k := 3) rfl rfl (by decide) rfl (fun ls hl => ?_)
      refine lv_goto (tgt := 7) hx hb dX10_splits_28 (by decide) ?_
      exact hk7 _ _ _ _ _ _ h hP hD hS (lv_sub hl [2, 3, 0] rfl)
set_option maxHeartbeats 4000000 in
set_option maxRecDepth 100000 in
theorem WX10_splits_7 {p : Program} {l : Launch} {e : Env} {s : State} {m : MethodId} {args : Array Value} {below : List Frame} {meth : Method} {c : Code} {D : va_G} {ty : Nat → ClassId} {eo : Nat → Nat} {A : Nat → Prop} {ad : Nat → Nat} {o2 : dS} (C : dc_C p s m args meth c cX10_splits none 6 RX10 wsX10_splits D ty eo A)   (n : Nat) (q : dS) (x1 : Int32) (x2 : Int32) (H : Heap) (locs : List Loc) (ls : Array Slot) (h : zX10_splits_7  n q x1 x2 = some o2) (hP : va_P D vwCl (w10 ty ad q) H) (hD : va_D A (w10 ty ad q)) (hS : va_S A s.heap H locs) (hl : lv_has ls 6 [(0, .ref (ad 0)), (1, .int x1), (2, .int x2)]) : W p l e ({ frames := 1, cells := 0, slots := 0, locals := 27 } : Room) s m args below meth c H locs 0 0 (MQ below (va_Qv (fun (u : va_W) => w10 ty ad o2 = u) (kz_B D ty A) A) args s 0 0 A) (F0 m 7 ls []) := by
  exact dFix_W (F := fun k (a : dS × Int32 × Int32) => zX10_splits_7b  (fun q x1 x2 => k (q, x1, x2)) a.1 a.2.1 a.2.2) (o := o2) (P := fun (a : dS × Int32 × Int32) H locs ls => va_P D vwCl (w10 ty ad a.1) H ∧ va_D A (w10 ty ad a.1) ∧ va_S A s.heap H locs ∧ lv_has ls 6 [(0, .ref (ad 0)), (1, .int a.2.1), (2, .int a.2.2)]) (G := fun H locs ls => W p l e ({ frames := 1, cells := 0, slots := 0, locals := 27 } : Room) s m args below meth c H locs 0 0 (MQ below (va_Qv (fun (u : va_W) => w10 ty ad o2 = u) (kz_B D ty A) A) args s 0 0 A) (F0 m 7 ls []))
    (fun k hk a H locs ls h hp => WX10_splits_7b C  (fun q x1 x2 H locs ls h h1 h2 h3 h4 => hk (q, x1, x2) H locs ls h ⟨h1, h2, h3, h4⟩) a.1 a.2.1 a.2.2 H locs ls h hp.1 hp.2.1 hp.2.2.1 hp.2.2.2) n (q, x1, x2) H locs ls h ⟨hP, hD, hS, hl⟩
set_option maxHeartbeats 4000000 in
set_option maxRecDepth 100000 in
theorem qX10_splits (l : Launch) (D : va_G) (ty : Nat → ClassId) (eo : Nat → Nat) (sz : Nat) (ad : Nat → Nat) (q : dS) (p1 : Int32) (o2 : dS) (h : zX10_splits q p1 = some o2) : Met l yX10_splits wsX10_splits ({ frames := 1, cells := 0, slots := 0, locals := 27 } : Room) (va_Pc [.ref (ad 0), .int p1] (kz_pre D ty eo (w10 ty ad q) sz)) (va_Qv (fun (u : va_W) => w10 ty ad o2 = u) (kz_B D ty (va_A (w10 ty ad q) sz)) (va_A (w10 ty ad q) sz)) 0 0 (va_A (w10 ty ad q) sz) := by
  refine Met.ofW (cc := cX10_splits) (maxL := 6) (ret := none) (by decide) rfl ?_
  intro p e s m args below meth c s₁ B hml hv
  obtain ⟨rfl, hsz, hP, hK, hD0, hN, hE⟩ := hv
  have hx := B.exec
  have hb := B.bytes
  have hr := B.returns
  have hts := atoms_spec (ws := wsX10_splits) B.pre
  have hown : s.vm.findClass RX10 = some m.cls := findClass_of_methodNamed B.named
  have hlocks := B.notSynchronized
  subst hsz
  have hD := hD0.self (sz := s.heap.size)
  generalize hAe : va_A (w10 ty ad q) s.heap.size = A at hD hE ⊢
  have hA : ∀ q : Nat, s.heap.size ≤ q → A q := fun q h => by rw [← hAe]; exact Or.inr h
  clear hAe
  have hS : va_S A s.heap s.heap [] := va_S.rf
  have hl := lv_entry ([.ref (ad 0), .int p1]) (n := 6) (Nat.le_of_ble_eq_true rfl)
  rw [lg_entry_eq]
  generalize (lg_sl ([.ref (ad 0), .int p1]) ++ List.replicate (6 - (lg_sl ([.ref (ad 0), .int p1])).length) Slot.unset).toArray = ls at hl ⊢
  have hl : lv_has ls 6 [(0, .ref (ad 0)), (1, .int p1)] := hl
  have C : dc_C p s m _ meth c cX10_splits none 6 RX10 wsX10_splits D ty eo A := ⟨hx, hb, hr, hts, hown, hlocks, hml, hK, hN, hE, hA⟩
  unfold zX10_splits at h
  refine lv_aload_n hx hb dX10_splits_0 rfl (lv_at hl 0 rfl) ?_
  refine lv_iconst (v := 0) hx hb dX10_splits_1 (by decide) ?_
  refine va_put (D := D) (ci := 10) (v := .int 0) (ty := .int) (C := RX10) (T := TX10) (N := 56) hx hb hts u9_wsX10_splits_X10 tyX10 tyX10_ok nmX10 hown hK hP hD hS 0 rfl rfl 18 (by decide) (hts (.fieldLink RX10 175 "TurnedFloorsModel" "tokens" "I") f9_wsX10_splits_96) (fun _ h9 => h9) rfl (by decide +kernel) rfl rfl (Nat.le_of_ble_eq_true rfl) dX10_splits_2 (fun H locs hp hd hs => ?_)
  obtain ⟨q1, eq1, h⟩ := dL_some h
  refine kz_re (w2 := w10 ty ad q1) hp hd hs (by rw [← eq1]; exact w10_f18 ty ad q 0) ?_
  clear hp hd hs hP hD hS
  intro hP hD hS
  refine lv_iconst (v := 0) hx hb dX10_splits_5 (by decide) ?_
  refine lv_istore_n (lv' := [(2, .int 0), (0, .ref (ad 0)), (1, .int p1)]) hx hb dX10_splits_6 rfl hl (by decide) rfl (fun ls hl => ?_)
  exact WX10_splits_7 C  _ _ _ _ _ _ _ h hP hD hS (lv_sub hl [1, 2, 0] rfl)

set_option maxHeartbeats 4000000 in
set_option maxRecDepth 100000 in
theorem WX10_fine_13 {p : Program} {l : Launch} {e : Env} {s : State} {m : MethodId} {args : Array Value} {below : List Frame} {meth : Method} {c : Code} {D : va_G} {ty : Nat → ClassId} {eo : Nat → Nat} {A : Nat → Prop} {ad : Nat → Nat} {o1 : Int32} {o2 : dS} (C : dc_C p s m args meth c cX10_fine (some .boolean) 1 RX10 wsX10_fine D ty eo A)   (q : dS) (y0 : Int32) (H : Heap) (locs : List Loc) (ls : Array Slot) (h : zX10_fine_13  q y0 = some (o1, o2)) (hP : va_P D vwCl (w10 ty ad q) H) (hD : va_D A (w10 ty ad q)) (hS : va_S A s.heap H locs) (hl : lv_has ls 1 []) : W p l e ({ frames := 0, cells := 0, slots := 0, locals := 0 } : Room) s m args below meth c H locs 0 0 (MQ below (va_Qi (fun (r : Int32) (u : va_W) => o1 = r ∧ w10 ty ad o2 = u) (kz_B D ty A) A) args s 0 0 A) (F0 m 13 ls [.int y0]) := by
  have C0 := C
  obtain ⟨hx, hb, hr, hts, hown, hlocks, hml, hK, hN, hE, hA⟩ := C
  unfold zX10_fine_13 at h
  obtain ⟨g1, h⟩ := dG_some h
  cases h
  exact kz_zret hx hb hr hlocks (dbl_nar g1) hP hK hD hS dX10_fine_13 ⟨rfl, rfl⟩
set_option maxHeartbeats 4000000 in
set_option maxRecDepth 100000 in
theorem qX10_fine (l : Launch) (D : va_G) (ty : Nat → ClassId) (eo : Nat → Nat) (sz : Nat) (ad : Nat → Nat) (q : dS)  (o1 : Int32) (o2 : dS) (h : zX10_fine q = some (o1, o2)) : Met l yX10_fine wsX10_fine ({ frames := 0, cells := 0, slots := 0, locals := 0 } : Room) (va_Pc [.ref (ad 0)] (kz_pre D ty eo (w10 ty ad q) sz)) (va_Qi (fun (r : Int32) (u : va_W) => o1 = r ∧ w10 ty ad o2 = u) (kz_B D ty (va_A (w10 ty ad q) sz)) (va_A (w10 ty ad q) sz)) 0 0 (va_A (w10 ty ad q) sz) := by
  refine Met.ofW (cc := cX10_fine) (maxL := 1) (ret := (some .boolean)) (by decide) rfl ?_
  intro p e s m args below meth c s₁ B hml hv
  obtain ⟨rfl, hsz, hP, hK, hD0, hN, hE⟩ := hv
  have hx := B.exec
  have hb := B.bytes
  have hr := B.returns
  have hts := atoms_spec (ws := wsX10_fine) B.pre
  have hown : s.vm.findClass RX10 = some m.cls := findClass_of_methodNamed B.named
  have hlocks := B.notSynchronized
  subst hsz
  have hD := hD0.self (sz := s.heap.size)
  generalize hAe : va_A (w10 ty ad q) s.heap.size = A at hD hE ⊢
  have hA : ∀ q : Nat, s.heap.size ≤ q → A q := fun q h => by rw [← hAe]; exact Or.inr h
  clear hAe
  have hS : va_S A s.heap s.heap [] := va_S.rf
  have hl := lv_entry ([.ref (ad 0)]) (n := 1) (Nat.le_of_ble_eq_true rfl)
  rw [lg_entry_eq]
  generalize (lg_sl ([.ref (ad 0)]) ++ List.replicate (1 - (lg_sl ([.ref (ad 0)])).length) Slot.unset).toArray = ls at hl ⊢
  have hl : lv_has ls 1 [(0, .ref (ad 0))] := hl
  have C : dc_C p s m _ meth c cX10_fine (some .boolean) 1 RX10 wsX10_fine D ty eo A := ⟨hx, hb, hr, hts, hown, hlocks, hml, hK, hN, hE, hA⟩
  unfold zX10_fine at h
  refine lv_aload_n hx hb dX10_fine_0 rfl (lv_at hl 0 rfl) ?_
  refine va_get (D := D) (ci := 10) (v := .int (q.1 0 21)) (C := RX10) (T := TX10) (N := 56) hx hb hts u9_wsX10_fine_X10 hown hK hP 0 rfl rfl 21 (by decide) (hts (.fieldLink RX10 189 "TurnedFloorsModel" "bad" "I") f9_wsX10_fine_103) (fun _ h9 => h9) rfl dX10_fine_1 ?_
  refine lv_iconst (v := (-1)) hx hb dX10_fine_4 (by decide) ?_
  refine lv_icmp_ne (tgt := 12) hx hb dX10_fine_5 (by decide) (fun c9 => ?_) (fun c9 => ?_)
  · rw [if_neg c9] at h
    refine lv_iconst (v := 0) hx hb dX10_fine_12 (by decide) ?_
    exact WX10_fine_13 C  _ _ _ _ _ h hP hD hS (lv_sub hl [] rfl)
  · rw [if_pos c9] at h
    refine lv_iconst (v := 1) hx hb dX10_fine_8 (by decide) ?_
    refine lv_goto (tgt := 13) hx hb dX10_fine_9 (by decide) ?_
    exact WX10_fine_13 C  _ _ _ _ _ h hP hD hS (lv_sub hl [] rfl)

set_option maxHeartbeats 4000000 in
set_option maxRecDepth 100000 in
theorem WX10_faults_20 {p : Program} {l : Launch} {e : Env} {s : State} {m : MethodId} {args : Array Value} {below : List Frame} {meth : Method} {c : Code} {D : va_G} {ty : Nat → ClassId} {eo : Nat → Nat} {A : Nat → Prop} {ad : Nat → Nat} {o2 : dS} (C : dc_C p s m args meth c cX10_faults none 1 RX10 wsX10_faults D ty eo A)   (q : dS)  (H : Heap) (locs : List Loc) (ls : Array Slot) (h : zX10_faults_20  q = some o2) (hP : va_P D vwCl (w10 ty ad q) H) (hD : va_D A (w10 ty ad q)) (hS : va_S A s.heap H locs) (hl : lv_has ls 1 []) : W p l e ({ frames := 1, cells := 0, slots := 0, locals := 20 } : Room) s m args below meth c H locs 0 0 (MQ below (va_Qv (fun (u : va_W) => w10 ty ad o2 = u) (kz_B D ty A) A) args s 0 0 A) (F0 m 20 ls []) := by
  have C0 := C
  obtain ⟨hx, hb, hr, hts, hown, hlocks, hml, hK, hN, hE, hA⟩ := C
  unfold zX10_faults_20 at h
  cases h
  exact kz_vret hx hb hr hlocks hP hK hD hS dX10_faults_20 rfl
set_option maxHeartbeats 4000000 in
set_option maxRecDepth 100000 in
theorem qX10_faults (l : Launch) (D : va_G) (ty : Nat → ClassId) (eo : Nat → Nat) (sz : Nat) (ad : Nat → Nat) (q : dS)  (o2 : dS) (h : zX10_faults q = some o2) : Met l yX10_faults wsX10_faults ({ frames := 1, cells := 0, slots := 0, locals := 20 } : Room) (va_Pc [.ref (ad 0)] (kz_pre D ty eo (w10 ty ad q) sz)) (va_Qv (fun (u : va_W) => w10 ty ad o2 = u) (kz_B D ty (va_A (w10 ty ad q) sz)) (va_A (w10 ty ad q) sz)) 0 0 (va_A (w10 ty ad q) sz) := by
  refine Met.ofW (cc := cX10_faults) (maxL := 1) (ret := none) (by decide) rfl ?_
  intro p e s m args below meth c s₁ B hml hv
  obtain ⟨rfl, hsz, hP, hK, hD0, hN, hE⟩ := hv
  have hx := B.exec
  have hb := B.bytes
  have hr := B.returns
  have hts := atoms_spec (ws := wsX10_faults) B.pre
  have hown : s.vm.findClass RX10 = some m.cls := findClass_of_methodNamed B.named
  have hlocks := B.notSynchronized
  subst hsz
  have hD := hD0.self (sz := s.heap.size)
  generalize hAe : va_A (w10 ty ad q) s.heap.size = A at hD hE ⊢
  have hA : ∀ q : Nat, s.heap.size ≤ q → A q := fun q h => by rw [← hAe]; exact Or.inr h
  clear hAe
  have hS : va_S A s.heap s.heap [] := va_S.rf
  have hl := lv_entry ([.ref (ad 0)]) (n := 1) (Nat.le_of_ble_eq_true rfl)
  rw [lg_entry_eq]
  generalize (lg_sl ([.ref (ad 0)]) ++ List.replicate (1 - (lg_sl ([.ref (ad 0)])).length) Slot.unset).toArray = ls at hl ⊢
  have hl : lv_has ls 1 [(0, .ref (ad 0))] := hl
  have C : dc_C p s m _ meth c cX10_faults none 1 RX10 wsX10_faults D ty eo A := ⟨hx, hb, hr, hts, hown, hlocks, hml, hK, hN, hE, hA⟩
  unfold zX10_faults at h
  refine lv_aload_n hx hb dX10_faults_0 rfl (lv_at hl 0 rfl) ?_
  obtain ⟨r1, q3, h2, h⟩ := dB_some h
  refine dw_ki (va_runV (As := []) (rest := []) ⟨hx, hb, hml, hown, hts⟩ (qX10_fine l D ty eo _ ad q  r1 q3 h2) (cwV 0 hts gX10_faults_X10_fine rfl rfl rfl hd_X10_fine_v ⟨Nat.le_of_ble_eq_true rfl, Nat.le_of_ble_eq_true rfl⟩) (pv10_10_0 hK hN hE hP hD hS hA) rfl rfl hl.1 rfl (lv_room (Nat.le_of_ble_eq_true rfl)) dX10_faults_1 ⟨Nat.le_of_ble_eq_true rfl, Nat.le_of_ble_eq_true rfl⟩) hD hS hA (fun r9 u9 H locs hw hp hd hs => ?_)
  clear hP hD hS
  obtain ⟨rfl, rfl⟩ := hw
  have hP := hp; have hD := hd; have hS := hs; clear hp hd hs
  refine lv_if_eq (tgt := 20) hx hb dX10_faults_4 (by decide) (fun c9 => ?_) (fun c9 => ?_)
  · rw [if_pos c9] at h
    exact WX10_faults_20 C  _ _ _ _ h hP hD hS (lv_sub hl [] rfl)
  · rw [if_neg c9] at h
    refine lv_aload_n hx hb dX10_faults_7 rfl (lv_at hl 0 rfl) ?_
    refine lv_aload_n hx hb dX10_faults_8 rfl (lv_at hl 0 rfl) ?_
    refine va_get (D := D) (ci := 10) (v := .ref (ad 11)) (C := RX10) (T := TX10) (N := 56) hx hb hts u9_wsX10_faults_X10 hown hK hP 0 rfl rfl 17 (by decide) (hts (.fieldLink RX10 60 "TurnedFloorsModel" "placed" "[I") f9_wsX10_faults_105) (fun _ h9 => h9) rfl dX10_faults_9 ?_
    refine lv_aload_n hx hb dX10_faults_12 rfl (lv_at hl 0 rfl) ?_
    refine va_get (D := D) (ci := 10) (v := .int (q3.1 0 19)) (C := RX10) (T := TX10) (N := 56) hx hb hts u9_wsX10_faults_X10 hown hK hP 0 rfl rfl 19 (by decide) (hts (.fieldLink RX10 196 "TurnedFloorsModel" "token" "I") f9_wsX10_faults_106) (fun _ h9 => h9) rfl dX10_faults_13 ?_
    obtain ⟨g4, h⟩ := dG_some h
    refine va_iald hx hb hK hP 11 0 rfl rfl (dg_in g4) dX10_faults_16 ?_
    obtain ⟨v5, ev5, h⟩ := dL_some h
    refine kz_topi v5 ev5 ?_
    refine va_put (D := D) (ci := 10) (v := .int v5) (ty := .int) (C := RX10) (T := TX10) (N := 56) hx hb hts u9_wsX10_faults_X10 tyX10 tyX10_ok nmX10 hown hK hP hD hS 0 rfl rfl 21 (by decide) (hts (.fieldLink RX10 189 "TurnedFloorsModel" "bad" "I") f9_wsX10_faults_107) (fun _ h9 => h9) rfl (by decide +kernel) rfl rfl (Nat.le_of_ble_eq_true rfl) dX10_faults_17 (fun H locs hp hd hs => ?_)
    obtain ⟨q6, eq6, h⟩ := dL_some h
    refine kz_re (w2 := w10 ty ad q6) hp hd hs (by rw [← eq6]; exact w10_f21 ty ad q3 v5) ?_
    clear hp hd hs hP hD hS
    intro hP hD hS
    exact WX10_faults_20 C  _ _ _ _ h hP hD hS (lv_sub hl [] rfl)

set_option maxHeartbeats 4000000 in
set_option maxRecDepth 100000 in
theorem WX10_takes0_40 {p : Program} {l : Launch} {e : Env} {s : State} {m : MethodId} {args : Array Value} {below : List Frame} {meth : Method} {c : Code} {D : va_G} {ty : Nat → ClassId} {eo : Nat → Nat} {A : Nat → Prop} {ad : Nat → Nat} {o1 : Int32} {o2 : dS} (C : dc_C p s m args meth c cX10_takes0 (some .boolean) 3 RX10 wsX10_takes0 D ty eo A)   (q : dS) (x2 : Int32) (H : Heap) (locs : List Loc) (ls : Array Slot) (h : zX10_takes0_40  q x2 = some (o1, o2)) (hP : va_P D vwCl (w10 ty ad q) H) (hD : va_D A (w10 ty ad q)) (hS : va_S A s.heap H locs) (hl : lv_has ls 3 [(2, .int x2)]) : W p l e ({ frames := 1, cells := 0, slots := 0, locals := 20 } : Room) s m args below meth c H locs 0 0 (MQ below (va_Qi (fun (r : Int32) (u : va_W) => o1 = r ∧ w10 ty ad o2 = u) (kz_B D ty A) A) args s 0 0 A) (F0 m 40 ls []) := by
  have C0 := C
  obtain ⟨hx, hb, hr, hts, hown, hlocks, hml, hK, hN, hE, hA⟩ := C
  unfold zX10_takes0_40 at h
  refine lv_iload_n hx hb dX10_takes0_40 rfl (lv_at hl 0 rfl) ?_
  obtain ⟨g1, h⟩ := dG_some h
  cases h
  exact kz_zret hx hb hr hlocks (dbl_nar g1) hP hK hD hS dX10_takes0_41 ⟨rfl, rfl⟩
set_option maxHeartbeats 4000000 in
set_option maxRecDepth 100000 in
theorem WX10_takes0_25 {p : Program} {l : Launch} {e : Env} {s : State} {m : MethodId} {args : Array Value} {below : List Frame} {meth : Method} {c : Code} {D : va_G} {ty : Nat → ClassId} {eo : Nat → Nat} {A : Nat → Prop} {ad : Nat → Nat} {o1 : Int32} {o2 : dS} (C : dc_C p s m args meth c cX10_takes0 (some .boolean) 3 RX10 wsX10_takes0 D ty eo A)   (q : dS) (y0 : Int32) (H : Heap) (locs : List Loc) (ls : Array Slot) (h : zX10_takes0_25  q y0 = some (o1, o2)) (hP : va_P D vwCl (w10 ty ad q) H) (hD : va_D A (w10 ty ad q)) (hS : va_S A s.heap H locs) (hl : lv_has ls 3 [(0, .ref (ad 0))]) : W p l e ({ frames := 1, cells := 0, slots := 0, locals := 20 } : Room) s m args below meth c H locs 0 0 (MQ below (va_Qi (fun (r : Int32) (u : va_W) => o1 = r ∧ w10 ty ad o2 = u) (kz_B D ty A) A) args s 0 0 A) (F0 m 25 ls [.int y0]) := by
  have C0 := C
  obtain ⟨hx, hb, hr, hts, hown, hlocks, hml, hK, hN, hE, hA⟩ := C
  unfold zX10_takes0_25 at h
  refine lv_istore_n (lv' := [(2, .int y0), (0, .ref (ad 0))]) hx hb dX10_takes0_25 rfl hl (by decide) rfl (fun ls hl => ?_)
  refine lv_iload_n hx hb dX10_takes0_26 rfl (lv_at hl 0 rfl) ?_
  refine lv_if_eq (tgt := 40) hx hb dX10_takes0_27 (by decide) (fun c9 => ?_) (fun c9 => ?_)
  · rw [if_pos c9] at h
    exact WX10_takes0_40 C0  _ _ _ _ _ h hP hD hS (lv_sub hl [0] rfl)
  · rw [if_neg c9] at h
    refine lv_aload_n hx hb dX10_takes0_30 rfl (lv_at hl 1 rfl) ?_
    refine lv_dup hx hb dX10_takes0_31 rfl ?_
    refine va_get (D := D) (ci := 10) (v := .int (q.1 0 19)) (C := RX10) (T := TX10) (N := 56) hx hb hts u9_wsX10_takes0_X10 hown hK hP 0 rfl rfl 19 (by decide) (hts (.fieldLink RX10 196 "TurnedFloorsModel" "token" "I") f9_wsX10_takes0_109) (fun _ h9 => h9) rfl dX10_takes0_32 ?_
    refine lv_iconst (v := 1) hx hb dX10_takes0_35 (by decide) ?_
    refine lv_iadd hx hb dX10_takes0_36 ?_
    refine va_put (D := D) (ci := 10) (v := .int ((q.1 0 19) + 1 : Int32)) (ty := .int) (C := RX10) (T := TX10) (N := 56) hx hb hts u9_wsX10_takes0_X10 tyX10 tyX10_ok nmX10 hown hK hP hD hS 0 rfl rfl 19 (by decide) (hts (.fieldLink RX10 196 "TurnedFloorsModel" "token" "I") f9_wsX10_takes0_109) (fun _ h9 => h9) rfl (by decide +kernel) rfl rfl (Nat.le_of_ble_eq_true rfl) dX10_takes0_37 (fun H locs hp hd hs => ?_)
    obtain ⟨q1, eq1, h⟩ := dL_some h
    refine kz_re (w2 := w10 ty ad q1) hp hd hs (by rw [← eq1]; exact w10_f19 ty ad q ((q.1 0 19) + 1 : Int32)) ?_
    clear hp hd hs hP hD hS
    intro hP hD hS
    exact WX10_takes0_40 C0  _ _ _ _ _ h hP hD hS (lv_sub hl [0] rfl)
set_option maxHeartbeats 4000000 in
set_option maxRecDepth 100000 in
theorem WX10_takes0_24 {p : Program} {l : Launch} {e : Env} {s : State} {m : MethodId} {args : Array Value} {below : List Frame} {meth : Method} {c : Code} {D : va_G} {ty : Nat → ClassId} {eo : Nat → Nat} {A : Nat → Prop} {ad : Nat → Nat} {o1 : Int32} {o2 : dS} (C : dc_C p s m args meth c cX10_takes0 (some .boolean) 3 RX10 wsX10_takes0 D ty eo A)   (q : dS)  (H : Heap) (locs : List Loc) (ls : Array Slot) (h : zX10_takes0_24  q = some (o1, o2)) (hP : va_P D vwCl (w10 ty ad q) H) (hD : va_D A (w10 ty ad q)) (hS : va_S A s.heap H locs) (hl : lv_has ls 3 [(0, .ref (ad 0))]) : W p l e ({ frames := 1, cells := 0, slots := 0, locals := 20 } : Room) s m args below meth c H locs 0 0 (MQ below (va_Qi (fun (r : Int32) (u : va_W) => o1 = r ∧ w10 ty ad o2 = u) (kz_B D ty A) A) args s 0 0 A) (F0 m 24 ls []) := by
  have C0 := C
  obtain ⟨hx, hb, hr, hts, hown, hlocks, hml, hK, hN, hE, hA⟩ := C
  unfold zX10_takes0_24 at h
  refine lv_iconst (v := 0) hx hb dX10_takes0_24 (by decide) ?_
  exact WX10_takes0_25 C0  _ _ _ _ _ h hP hD hS (lv_sub hl [0] rfl)
set_option maxHeartbeats 4000000 in
set_option maxRecDepth 100000 in
theorem qX10_takes0 (l : Launch) (D : va_G) (ty : Nat → ClassId) (eo : Nat → Nat) (sz : Nat) (ad : Nat → Nat) (q : dS) (p1 : Int32) (o1 : Int32) (o2 : dS) (h : zX10_takes0 q p1 = some (o1, o2)) : Met l yX10_takes0 wsX10_takes0 ({ frames := 1, cells := 0, slots := 0, locals := 20 } : Room) (va_Pc [.ref (ad 0), .int p1] (kz_pre D ty eo (w10 ty ad q) sz)) (va_Qi (fun (r : Int32) (u : va_W) => o1 = r ∧ w10 ty ad o2 = u) (kz_B D ty (va_A (w10 ty ad q) sz)) (va_A (w10 ty ad q) sz)) 0 0 (va_A (w10 ty ad q) sz) := by
  refine Met.ofW (cc := cX10_takes0) (maxL := 3) (ret := (some .boolean)) (by decide) rfl ?_
  intro p e s m args below meth c s₁ B hml hv
  obtain ⟨rfl, hsz, hP, hK, hD0, hN, hE⟩ := hv
  have hx := B.exec
  have hb := B.bytes
  have hr := B.returns
  have hts := atoms_spec (ws := wsX10_takes0) B.pre
  have hown : s.vm.findClass RX10 = some m.cls := findClass_of_methodNamed B.named
  have hlocks := B.notSynchronized
  subst hsz
  have hD := hD0.self (sz := s.heap.size)
  generalize hAe : va_A (w10 ty ad q) s.heap.size = A at hD hE ⊢
  have hA : ∀ q : Nat, s.heap.size ≤ q → A q := fun q h => by rw [← hAe]; exact Or.inr h
  clear hAe
  have hS : va_S A s.heap s.heap [] := va_S.rf
  have hl := lv_entry ([.ref (ad 0), .int p1]) (n := 3) (Nat.le_of_ble_eq_true rfl)
  rw [lg_entry_eq]
  generalize (lg_sl ([.ref (ad 0), .int p1]) ++ List.replicate (3 - (lg_sl ([.ref (ad 0), .int p1])).length) Slot.unset).toArray = ls at hl ⊢
  have hl : lv_has ls 3 [(0, .ref (ad 0)), (1, .int p1)] := hl
  have C : dc_C p s m _ meth c cX10_takes0 (some .boolean) 3 RX10 wsX10_takes0 D ty eo A := ⟨hx, hb, hr, hts, hown, hlocks, hml, hK, hN, hE, hA⟩
  unfold zX10_takes0 at h
  refine lv_aload_n hx hb dX10_takes0_0 rfl (lv_at hl 0 rfl) ?_
  obtain ⟨r1, q3, h2, h⟩ := dB_some h
  refine dw_ki (va_runV (As := []) (rest := []) ⟨hx, hb, hml, hown, hts⟩ (qX10_fine l D ty eo _ ad q  r1 q3 h2) (cwV 0 hts gX10_takes0_X10_fine rfl rfl rfl hd_X10_fine_v ⟨Nat.le_of_ble_eq_true rfl, Nat.le_of_ble_eq_true rfl⟩) (pv10_10_0 hK hN hE hP hD hS hA) rfl rfl hl.1 rfl (lv_room (Nat.le_of_ble_eq_true rfl)) dX10_takes0_1 ⟨Nat.le_of_ble_eq_true rfl, Nat.le_of_ble_eq_true rfl⟩) hD hS hA (fun r9 u9 H locs hw hp hd hs => ?_)
  clear hP hD hS
  obtain ⟨rfl, rfl⟩ := hw
  have hP := hp; have hD := hd; have hS := hs; clear hp hd hs
  refine lv_if_eq (tgt := 24) hx hb dX10_takes0_4 (by decide) (fun c9 => ?_) (fun c9 => ?_)
  · rw [if_pos c9] at h
    exact WX10_takes0_24 C  _ _ _ _ h hP hD hS (lv_sub hl [0] rfl)
  · rw [if_neg c9] at h
    refine lv_aload_n hx hb dX10_takes0_7 rfl (lv_at hl 0 rfl) ?_
    refine va_get (D := D) (ci := 10) (v := .ref (ad 9)) (C := RX10) (T := TX10) (N := 56) hx hb hts u9_wsX10_takes0_X10 hown hK hP 0 rfl rfl 15 (by decide) (hts (.fieldLink RX10 54 "TurnedFloorsModel" "code" "[I") f9_wsX10_takes0_110) (fun _ h9 => h9) rfl dX10_takes0_8 ?_
    refine lv_aload_n hx hb dX10_takes0_11 rfl (lv_at hl 0 rfl) ?_
    refine va_get (D := D) (ci := 10) (v := .int (q3.1 0 19)) (C := RX10) (T := TX10) (N := 56) hx hb hts u9_wsX10_takes0_X10 hown hK hP 0 rfl rfl 19 (by decide) (hts (.fieldLink RX10 196 "TurnedFloorsModel" "token" "I") f9_wsX10_takes0_109) (fun _ h9 => h9) rfl dX10_takes0_12 ?_
    obtain ⟨g4, h⟩ := dG_some h
    refine va_iald hx hb hK hP 9 0 rfl rfl (dg_in g4) dX10_takes0_15 ?_
    obtain ⟨v5, ev5, h⟩ := dL_some h
    refine kz_topi v5 ev5 ?_
    refine lv_iload_n hx hb dX10_takes0_16 rfl (lv_at hl 1 rfl) ?_
    refine lv_icmp_ne (tgt := 24) hx hb dX10_takes0_17 (by decide) (fun c9 => ?_) (fun c9 => ?_)
    · rw [if_neg c9] at h
      exact WX10_takes0_24 C  _ _ _ _ h hP hD hS (lv_sub hl [0] rfl)
    · rw [if_pos c9] at h
      refine lv_iconst (v := 1) hx hb dX10_takes0_20 (by decide) ?_
      refine lv_goto (tgt := 25) hx hb dX10_takes0_21 (by decide) ?_
      exact WX10_takes0_25 C  _ _ _ _ _ h hP hD hS (lv_sub hl [0] rfl)

set_option maxHeartbeats 4000000 in
set_option maxRecDepth 100000 in
theorem WX10_must_12 {p : Program} {l : Launch} {e : Env} {s : State} {m : MethodId} {args : Array Value} {below : List Frame} {meth : Method} {c : Code} {D : va_G} {ty : Nat → ClassId} {eo : Nat → Nat} {A : Nat → Prop} {ad : Nat → Nat} {o2 : dS} (C : dc_C p s m args meth c cX10_must none 2 RX10 wsX10_must D ty eo A)   (q : dS)  (H : Heap) (locs : List Loc) (ls : Array Slot) (h : zX10_must_12  q = some o2) (hP : va_P D vwCl (w10 ty ad q) H) (hD : va_D A (w10 ty ad q)) (hS : va_S A s.heap H locs) (hl : lv_has ls 2 []) : W p l e ({ frames := 2, cells := 0, slots := 0, locals := 42 } : Room) s m args below meth c H locs 0 0 (MQ below (va_Qv (fun (u : va_W) => w10 ty ad o2 = u) (kz_B D ty A) A) args s 0 0 A) (F0 m 12 ls []) := by
  have C0 := C
  obtain ⟨hx, hb, hr, hts, hown, hlocks, hml, hK, hN, hE, hA⟩ := C
  unfold zX10_must_12 at h
  cases h
  exact kz_vret hx hb hr hlocks hP hK hD hS dX10_must_12 rfl
set_option maxHeartbeats 4000000 in
set_option maxRecDepth 100000 in
theorem qX10_must (l : Launch) (D : va_G) (ty : Nat → ClassId) (eo : Nat → Nat) (sz : Nat) (ad : Nat → Nat) (q : dS) (p1 : Int32) (o2 : dS) (h : zX10_must q p1 = some o2) : Met l yX10_must wsX10_must ({ frames := 2, cells := 0, slots := 0, locals := 42 } : Room) (va_Pc [.ref (ad 0), .int p1] (kz_pre D ty eo (w10 ty ad q) sz)) (va_Qv (fun (u : va_W) => w10 ty ad o2 = u) (kz_B D ty (va_A (w10 ty ad q) sz)) (va_A (w10 ty ad q) sz)) 0 0 (va_A (w10 ty ad q) sz) := by
  refine Met.ofW (cc := cX10_must) (maxL := 2) (ret := none) (by decide) rfl ?_
  intro p e s m args below meth c s₁ B hml hv
  obtain ⟨rfl, hsz, hP, hK, hD0, hN, hE⟩ := hv
  have hx := B.exec
  have hb := B.bytes
  have hr := B.returns
  have hts := atoms_spec (ws := wsX10_must) B.pre
  have hown : s.vm.findClass RX10 = some m.cls := findClass_of_methodNamed B.named
  have hlocks := B.notSynchronized
  subst hsz
  have hD := hD0.self (sz := s.heap.size)
  generalize hAe : va_A (w10 ty ad q) s.heap.size = A at hD hE ⊢
  have hA : ∀ q : Nat, s.heap.size ≤ q → A q := fun q h => by rw [← hAe]; exact Or.inr h
  clear hAe
  have hS : va_S A s.heap s.heap [] := va_S.rf
  have hl := lv_entry ([.ref (ad 0), .int p1]) (n := 2) (Nat.le_of_ble_eq_true rfl)
  rw [lg_entry_eq]
  generalize (lg_sl ([.ref (ad 0), .int p1]) ++ List.replicate (2 - (lg_sl ([.ref (ad 0), .int p1])).length) Slot.unset).toArray = ls at hl ⊢
  have hl : lv_has ls 2 [(0, .ref (ad 0)), (1, .int p1)] := hl
  have C : dc_C p s m _ meth c cX10_must none 2 RX10 wsX10_must D ty eo A := ⟨hx, hb, hr, hts, hown, hlocks, hml, hK, hN, hE, hA⟩
  unfold zX10_must at h
  refine lv_aload_n hx hb dX10_must_0 rfl (lv_at hl 0 rfl) ?_
  refine lv_iload_n hx hb dX10_must_1 rfl (lv_at hl 1 rfl) ?_
  obtain ⟨r1, q3, h2, h⟩ := dB_some h
  refine dw_ki (va_runV (As := [.int p1]) (rest := []) ⟨hx, hb, hml, hown, hts⟩ (qX10_takes0 l D ty eo _ ad q p1 r1 q3 h2) (cwV 1 hts gX10_must_X10_takes0 rfl rfl rfl hd_X10_takes0_v ⟨Nat.le_of_ble_eq_true rfl, Nat.le_of_ble_eq_true rfl⟩) (pv10_10_0 hK hN hE hP hD hS hA) rfl rfl hl.1 rfl (lv_room (Nat.le_of_ble_eq_true rfl)) dX10_must_2 ⟨Nat.le_of_ble_eq_true rfl, Nat.le_of_ble_eq_true rfl⟩) hD hS hA (fun r9 u9 H locs hw hp hd hs => ?_)
  clear hP hD hS
  obtain ⟨rfl, rfl⟩ := hw
  have hP := hp; have hD := hd; have hS := hs; clear hp hd hs
  refine lv_if_ne (tgt := 12) hx hb dX10_must_5 (by decide) (fun c9 => ?_) (fun c9 => ?_)
  · rw [if_neg c9] at h
    exact WX10_must_12 C  _ _ _ _ h hP hD hS (lv_sub hl [] rfl)
  · rw [if_pos c9] at h
    refine lv_aload_n hx hb dX10_must_8 rfl (lv_at hl 0 rfl) ?_
    obtain ⟨q6, h5, h⟩ := dV_some h
    refine dw_kv (va_runV (As := []) (rest := []) ⟨hx, hb, hml, hown, hts⟩ (qX10_faults l D ty eo _ ad q3  q6 h5) (cwV 0 hts gX10_must_X10_faults rfl rfl rfl hd_X10_faults_v ⟨Nat.le_of_ble_eq_true rfl, Nat.le_of_ble_eq_true rfl⟩) (pv10_10_0 hK hN hE hP hD hS hA) rfl rfl hl.1 rfl (lv_room (Nat.le_of_ble_eq_true rfl)) dX10_must_9 ⟨Nat.le_of_ble_eq_true rfl, Nat.le_of_ble_eq_true rfl⟩) hD hS hA (fun u9 H locs hw hp hd hs => ?_)
    clear hP hD hS
    obtain rfl := hw
    have hP := hp; have hD := hd; have hS := hs; clear hp hd hs
    exact WX10_must_12 C  _ _ _ _ h hP hD hS (lv_sub hl [] rfl)

set_option maxHeartbeats 4000000 in
set_option maxRecDepth 100000 in
theorem WX10_leaf_40 {p : Program} {l : Launch} {e : Env} {s : State} {m : MethodId} {args : Array Value} {below : List Frame} {meth : Method} {c : Code} {D : va_G} {ty : Nat → ClassId} {eo : Nat → Nat} {A : Nat → Prop} {ad : Nat → Nat} {o2 : dS} (C : dc_C p s m args meth c cX10_leaf none 1 RX10 wsX10_leaf D ty eo A)   (q : dS)  (H : Heap) (locs : List Loc) (ls : Array Slot) (h : zX10_leaf_40  q = some o2) (hP : va_P D vwCl (w10 ty ad q) H) (hD : va_D A (w10 ty ad q)) (hS : va_S A s.heap H locs) (hl : lv_has ls 1 []) : W p l e ({ frames := 2, cells := 0, slots := 0, locals := 40 } : Room) s m args below meth c H locs 0 0 (MQ below (va_Qv (fun (u : va_W) => w10 ty ad o2 = u) (kz_B D ty A) A) args s 0 0 A) (F0 m 40 ls []) := by
  have C0 := C
  obtain ⟨hx, hb, hr, hts, hown, hlocks, hml, hK, hN, hE, hA⟩ := C
  unfold zX10_leaf_40 at h
  cases h
  exact kz_vret hx hb hr hlocks hP hK hD hS dX10_leaf_40 rfl
set_option maxHeartbeats 4000000 in
set_option maxRecDepth 100000 in
theorem WX10_leaf_13 {p : Program} {l : Launch} {e : Env} {s : State} {m : MethodId} {args : Array Value} {below : List Frame} {meth : Method} {c : Code} {D : va_G} {ty : Nat → ClassId} {eo : Nat → Nat} {A : Nat → Prop} {ad : Nat → Nat} {o2 : dS} (C : dc_C p s m args meth c cX10_leaf none 1 RX10 wsX10_leaf D ty eo A)   (q : dS)  (H : Heap) (locs : List Loc) (ls : Array Slot) (h : zX10_leaf_13  q = some o2) (hP : va_P D vwCl (w10 ty ad q) H) (hD : va_D A (w10 ty ad q)) (hS : va_S A s.heap H locs) (hl : lv_has ls 1 [(0, .ref (ad 0))]) : W p l e ({ frames := 2, cells := 0, slots := 0, locals := 40 } : Room) s m args below meth c H locs 0 0 (MQ below (va_Qv (fun (u : va_W) => w10 ty ad o2 = u) (kz_B D ty A) A) args s 0 0 A) (F0 m 13 ls []) := by
  have C0 := C
  obtain ⟨hx, hb, hr, hts, hown, hlocks, hml, hK, hN, hE, hA⟩ := C
  unfold zX10_leaf_13 at h
  refine lv_aload_n hx hb dX10_leaf_13 rfl (lv_at hl 0 rfl) ?_
  refine lv_dup hx hb dX10_leaf_14 rfl ?_
  refine va_get (D := D) (ci := 10) (v := .int (q.1 0 20)) (C := RX10) (T := TX10) (N := 56) hx hb hts u9_wsX10_leaf_X10 hown hK hP 0 rfl rfl 20 (by decide) (hts (.fieldLink RX10 205 "TurnedFloorsModel" "leaves" "I") f9_wsX10_leaf_112) (fun _ h9 => h9) rfl dX10_leaf_15 ?_
  refine lv_iconst (v := 1) hx hb dX10_leaf_18 (by decide) ?_
  refine lv_iadd hx hb dX10_leaf_19 ?_
  refine va_put (D := D) (ci := 10) (v := .int ((q.1 0 20) + 1 : Int32)) (ty := .int) (C := RX10) (T := TX10) (N := 56) hx hb hts u9_wsX10_leaf_X10 tyX10 tyX10_ok nmX10 hown hK hP hD hS 0 rfl rfl 20 (by decide) (hts (.fieldLink RX10 205 "TurnedFloorsModel" "leaves" "I") f9_wsX10_leaf_112) (fun _ h9 => h9) rfl (by decide +kernel) rfl rfl (Nat.le_of_ble_eq_true rfl) dX10_leaf_20 (fun H locs hp hd hs => ?_)
  obtain ⟨q1, eq1, h⟩ := dL_some h
  refine kz_re (w2 := w10 ty ad q1) hp hd hs (by rw [← eq1]; exact w10_f20 ty ad q ((q.1 0 20) + 1 : Int32)) ?_
  clear hp hd hs hP hD hS
  intro hP hD hS
  refine lv_aload_n hx hb dX10_leaf_23 rfl (lv_at hl 0 rfl) ?_
  obtain ⟨r2, q4, h3, h⟩ := dB_some h
  refine dw_ki (va_runV (As := []) (rest := []) ⟨hx, hb, hml, hown, hts⟩ (qX10_fine l D ty eo _ ad q1  r2 q4 h3) (cwV 0 hts gX10_leaf_X10_fine rfl rfl rfl hd_X10_fine_v ⟨Nat.le_of_ble_eq_true rfl, Nat.le_of_ble_eq_true rfl⟩) (pv10_10_0 hK hN hE hP hD hS hA) rfl rfl hl.1 rfl (lv_room (Nat.le_of_ble_eq_true rfl)) dX10_leaf_24 ⟨Nat.le_of_ble_eq_true rfl, Nat.le_of_ble_eq_true rfl⟩) hD hS hA (fun r9 u9 H locs hw hp hd hs => ?_)
  clear hP hD hS
  obtain ⟨rfl, rfl⟩ := hw
  have hP := hp; have hD := hd; have hS := hs; clear hp hd hs
  refine lv_if_eq (tgt := 40) hx hb dX10_leaf_27 (by decide) (fun c9 => ?_) (fun c9 => ?_)
  · rw [if_pos c9] at h
    exact WX10_leaf_40 C0  _ _ _ _ h hP hD hS (lv_sub hl [] rfl)
  · rw [if_neg c9] at h
    refine lv_aload_n hx hb dX10_leaf_30 rfl (lv_at hl 0 rfl) ?_
    refine lv_dup hx hb dX10_leaf_31 rfl ?_
    refine va_get (D := D) (ci := 10) (v := .int (q4.1 0 19)) (C := RX10) (T := TX10) (N := 56) hx hb hts u9_wsX10_leaf_X10 hown hK hP 0 rfl rfl 19 (by decide) (hts (.fieldLink RX10 196 "TurnedFloorsModel" "token" "I") f9_wsX10_leaf_113) (fun _ h9 => h9) rfl dX10_leaf_32 ?_
    refine lv_iconst (v := 1) hx hb dX10_leaf_35 (by decide) ?_
    refine lv_iadd hx hb dX10_leaf_36 ?_
    refine va_put (D := D) (ci := 10) (v := .int ((q4.1 0 19) + 1 : Int32)) (ty := .int) (C := RX10) (T := TX10) (N := 56) hx hb hts u9_wsX10_leaf_X10 tyX10 tyX10_ok nmX10 hown hK hP hD hS 0 rfl rfl 19 (by decide) (hts (.fieldLink RX10 196 "TurnedFloorsModel" "token" "I") f9_wsX10_leaf_113) (fun _ h9 => h9) rfl (by decide +kernel) rfl rfl (Nat.le_of_ble_eq_true rfl) dX10_leaf_37 (fun H locs hp hd hs => ?_)
    obtain ⟨q5, eq5, h⟩ := dL_some h
    refine kz_re (w2 := w10 ty ad q5) hp hd hs (by rw [← eq5]; exact w10_f19 ty ad q4 ((q4.1 0 19) + 1 : Int32)) ?_
    clear hp hd hs hP hD hS
    intro hP hD hS
    exact WX10_leaf_40 C0  _ _ _ _ h hP hD hS (lv_sub hl [] rfl)
set_option maxHeartbeats 4000000 in
set_option maxRecDepth 100000 in
theorem qX10_leaf (l : Launch) (D : va_G) (ty : Nat → ClassId) (eo : Nat → Nat) (sz : Nat) (ad : Nat → Nat) (q : dS)  (o2 : dS) (h : zX10_leaf q = some o2) : Met l yX10_leaf wsX10_leaf ({ frames := 2, cells := 0, slots := 0, locals := 40 } : Room) (va_Pc [.ref (ad 0)] (kz_pre D ty eo (w10 ty ad q) sz)) (va_Qv (fun (u : va_W) => w10 ty ad o2 = u) (kz_B D ty (va_A (w10 ty ad q) sz)) (va_A (w10 ty ad q) sz)) 0 0 (va_A (w10 ty ad q) sz) := by
  refine Met.ofW (cc := cX10_leaf) (maxL := 1) (ret := none) (by decide) rfl ?_
  intro p e s m args below meth c s₁ B hml hv
  obtain ⟨rfl, hsz, hP, hK, hD0, hN, hE⟩ := hv
  have hx := B.exec
  have hb := B.bytes
  have hr := B.returns
  have hts := atoms_spec (ws := wsX10_leaf) B.pre
  have hown : s.vm.findClass RX10 = some m.cls := findClass_of_methodNamed B.named
  have hlocks := B.notSynchronized
  subst hsz
  have hD := hD0.self (sz := s.heap.size)
  generalize hAe : va_A (w10 ty ad q) s.heap.size = A at hD hE ⊢
  have hA : ∀ q : Nat, s.heap.size ≤ q → A q := fun q h => by rw [← hAe]; exact Or.inr h
  clear hAe
  have hS : va_S A s.heap s.heap [] := va_S.rf
  have hl := lv_entry ([.ref (ad 0)]) (n := 1) (Nat.le_of_ble_eq_true rfl)
  rw [lg_entry_eq]
  generalize (lg_sl ([.ref (ad 0)]) ++ List.replicate (1 - (lg_sl ([.ref (ad 0)])).length) Slot.unset).toArray = ls at hl ⊢
  have hl : lv_has ls 1 [(0, .ref (ad 0))] := hl
  have C : dc_C p s m _ meth c cX10_leaf none 1 RX10 wsX10_leaf D ty eo A := ⟨hx, hb, hr, hts, hown, hlocks, hml, hK, hN, hE, hA⟩
  unfold zX10_leaf at h
  refine lv_aload_n hx hb dX10_leaf_0 rfl (lv_at hl 0 rfl) ?_
  refine va_get (D := D) (ci := 10) (v := .int (q.1 0 20)) (C := RX10) (T := TX10) (N := 56) hx hb hts u9_wsX10_leaf_X10 hown hK hP 0 rfl rfl 20 (by decide) (hts (.fieldLink RX10 205 "TurnedFloorsModel" "leaves" "I") f9_wsX10_leaf_112) (fun _ h9 => h9) rfl dX10_leaf_1 ?_
  refine lv_bipush (v := 50) hx hb dX10_leaf_4 (by decide) ?_
  refine lv_icmp_ne (tgt := 13) hx hb dX10_leaf_6 (by decide) (fun c9 => ?_) (fun c9 => ?_)
  · rw [if_neg c9] at h
    exact WX10_leaf_13 C  _ _ _ _ h hP hD hS (lv_sub hl [0] rfl)
  · rw [if_pos c9] at h
    refine lv_aload_n hx hb dX10_leaf_9 rfl (lv_at hl 0 rfl) ?_
    obtain ⟨q3, h2, h⟩ := dV_some h
    refine dw_kv (va_runV (As := []) (rest := []) ⟨hx, hb, hml, hown, hts⟩ (qX10_faults l D ty eo _ ad q  q3 h2) (cwV 0 hts gX10_leaf_X10_faults rfl rfl rfl hd_X10_faults_v ⟨Nat.le_of_ble_eq_true rfl, Nat.le_of_ble_eq_true rfl⟩) (pv10_10_0 hK hN hE hP hD hS hA) rfl rfl hl.1 rfl (lv_room (Nat.le_of_ble_eq_true rfl)) dX10_leaf_10 ⟨Nat.le_of_ble_eq_true rfl, Nat.le_of_ble_eq_true rfl⟩) hD hS hA (fun u9 H locs hw hp hd hs => ?_)
    clear hP hD hS
    obtain rfl := hw
    have hP := hp; have hD := hd; have hS := hs; clear hp hd hs
    exact WX10_leaf_13 C  _ _ _ _ h hP hD hS (lv_sub hl [0] rfl)

set_option maxHeartbeats 4000000 in
set_option maxRecDepth 100000 in
theorem WX10_mustNumber_59 {p : Program} {l : Launch} {e : Env} {s : State} {m : MethodId} {args : Array Value} {below : List Frame} {meth : Method} {c : Code} {D : va_G} {ty : Nat → ClassId} {eo : Nat → Nat} {A : Nat → Prop} {ad : Nat → Nat} {o2 : dS} (C : dc_C p s m args meth c cX10_mustNumber none 3 RX10 wsX10_mustNumber D ty eo A)   (q : dS)  (H : Heap) (locs : List Loc) (ls : Array Slot) (h : zX10_mustNumber_59  q = some o2) (hP : va_P D vwCl (w10 ty ad q) H) (hD : va_D A (w10 ty ad q)) (hS : va_S A s.heap H locs) (hl : lv_has ls 3 []) : W p l e ({ frames := 2, cells := 0, slots := 0, locals := 40 } : Room) s m args below meth c H locs 0 0 (MQ below (va_Qv (fun (u : va_W) => w10 ty ad o2 = u) (kz_B D ty A) A) args s 0 0 A) (F0 m 59 ls []) := by
  have C0 := C
  obtain ⟨hx, hb, hr, hts, hown, hlocks, hml, hK, hN, hE, hA⟩ := C
  unfold zX10_mustNumber_59 at h
  cases h
  exact kz_vret hx hb hr hlocks hP hK hD hS dX10_mustNumber_59 rfl
set_option maxHeartbeats 4000000 in
set_option maxRecDepth 100000 in
theorem WX10_mustNumber_42 {p : Program} {l : Launch} {e : Env} {s : State} {m : MethodId} {args : Array Value} {below : List Frame} {meth : Method} {c : Code} {D : va_G} {ty : Nat → ClassId} {eo : Nat → Nat} {A : Nat → Prop} {ad : Nat → Nat} {o2 : dS} (C : dc_C p s m args meth c cX10_mustNumber none 3 RX10 wsX10_mustNumber D ty eo A)   (q : dS)  (H : Heap) (locs : List Loc) (ls : Array Slot) (h : zX10_mustNumber_42  q = some o2) (hP : va_P D vwCl (w10 ty ad q) H) (hD : va_D A (w10 ty ad q)) (hS : va_S A s.heap H locs) (hl : lv_has ls 3 [(0, .ref (ad 0))]) : W p l e ({ frames := 2, cells := 0, slots := 0, locals := 40 } : Room) s m args below meth c H locs 0 0 (MQ below (va_Qv (fun (u : va_W) => w10 ty ad o2 = u) (kz_B D ty A) A) args s 0 0 A) (F0 m 42 ls []) := by
  have C0 := C
  obtain ⟨hx, hb, hr, hts, hown, hlocks, hml, hK, hN, hE, hA⟩ := C
  unfold zX10_mustNumber_42 at h
  refine lv_aload_n hx hb dX10_mustNumber_42 rfl (lv_at hl 0 rfl) ?_
  obtain ⟨r1, q3, h2, h⟩ := dB_some h
  refine dw_ki (va_runV (As := []) (rest := []) ⟨hx, hb, hml, hown, hts⟩ (qX10_fine l D ty eo _ ad q  r1 q3 h2) (cwV 0 hts gX10_mustNumber_X10_fine rfl rfl rfl hd_X10_fine_v ⟨Nat.le_of_ble_eq_true rfl, Nat.le_of_ble_eq_true rfl⟩) (pv10_10_0 hK hN hE hP hD hS hA) rfl rfl hl.1 rfl (lv_room (Nat.le_of_ble_eq_true rfl)) dX10_mustNumber_43 ⟨Nat.le_of_ble_eq_true rfl, Nat.le_of_ble_eq_true rfl⟩) hD hS hA (fun r9 u9 H locs hw hp hd hs => ?_)
  clear hP hD hS
  obtain ⟨rfl, rfl⟩ := hw
  have hP := hp; have hD := hd; have hS := hs; clear hp hd hs
  refine lv_if_eq (tgt := 59) hx hb dX10_mustNumber_46 (by decide) (fun c9 => ?_) (fun c9 => ?_)
  · rw [if_pos c9] at h
    exact WX10_mustNumber_59 C0  _ _ _ _ h hP hD hS (lv_sub hl [] rfl)
  · rw [if_neg c9] at h
    refine lv_aload_n hx hb dX10_mustNumber_49 rfl (lv_at hl 0 rfl) ?_
    refine lv_dup hx hb dX10_mustNumber_50 rfl ?_
    refine va_get (D := D) (ci := 10) (v := .int (q3.1 0 19)) (C := RX10) (T := TX10) (N := 56) hx hb hts u9_wsX10_mustNumber_X10 hown hK hP 0 rfl rfl 19 (by decide) (hts (.fieldLink RX10 196 "TurnedFloorsModel" "token" "I") f9_wsX10_mustNumber_115) (fun _ h9 => h9) rfl dX10_mustNumber_51 ?_
    refine lv_iconst (v := 1) hx hb dX10_mustNumber_54 (by decide) ?_
    refine lv_iadd hx hb dX10_mustNumber_55 ?_
    refine va_put (D := D) (ci := 10) (v := .int ((q3.1 0 19) + 1 : Int32)) (ty := .int) (C := RX10) (T := TX10) (N := 56) hx hb hts u9_wsX10_mustNumber_X10 tyX10 tyX10_ok nmX10 hown hK hP hD hS 0 rfl rfl 19 (by decide) (hts (.fieldLink RX10 196 "TurnedFloorsModel" "token" "I") f9_wsX10_mustNumber_115) (fun _ h9 => h9) rfl (by decide +kernel) rfl rfl (Nat.le_of_ble_eq_true rfl) dX10_mustNumber_56 (fun H locs hp hd hs => ?_)
    obtain ⟨q4, eq4, h⟩ := dL_some h
    refine kz_re (w2 := w10 ty ad q4) hp hd hs (by rw [← eq4]; exact w10_f19 ty ad q3 ((q3.1 0 19) + 1 : Int32)) ?_
    clear hp hd hs hP hD hS
    intro hP hD hS
    exact WX10_mustNumber_59 C0  _ _ _ _ h hP hD hS (lv_sub hl [] rfl)
set_option maxHeartbeats 4000000 in
set_option maxRecDepth 100000 in
theorem WX10_mustNumber_38 {p : Program} {l : Launch} {e : Env} {s : State} {m : MethodId} {args : Array Value} {below : List Frame} {meth : Method} {c : Code} {D : va_G} {ty : Nat → ClassId} {eo : Nat → Nat} {A : Nat → Prop} {ad : Nat → Nat} {o2 : dS} (C : dc_C p s m args meth c cX10_mustNumber none 3 RX10 wsX10_mustNumber D ty eo A)   (q : dS)  (H : Heap) (locs : List Loc) (ls : Array Slot) (h : zX10_mustNumber_38  q = some o2) (hP : va_P D vwCl (w10 ty ad q) H) (hD : va_D A (w10 ty ad q)) (hS : va_S A s.heap H locs) (hl : lv_has ls 3 [(0, .ref (ad 0))]) : W p l e ({ frames := 2, cells := 0, slots := 0, locals := 40 } : Room) s m args below meth c H locs 0 0 (MQ below (va_Qv (fun (u : va_W) => w10 ty ad o2 = u) (kz_B D ty A) A) args s 0 0 A) (F0 m 38 ls []) := by
  have C0 := C
  obtain ⟨hx, hb, hr, hts, hown, hlocks, hml, hK, hN, hE, hA⟩ := C
  unfold zX10_mustNumber_38 at h
  refine lv_aload_n hx hb dX10_mustNumber_38 rfl (lv_at hl 0 rfl) ?_
  obtain ⟨q3, h2, h⟩ := dV_some h
  refine dw_kv (va_runV (As := []) (rest := []) ⟨hx, hb, hml, hown, hts⟩ (qX10_faults l D ty eo _ ad q  q3 h2) (cwV 0 hts gX10_mustNumber_X10_faults rfl rfl rfl hd_X10_faults_v ⟨Nat.le_of_ble_eq_true rfl, Nat.le_of_ble_eq_true rfl⟩) (pv10_10_0 hK hN hE hP hD hS hA) rfl rfl hl.1 rfl (lv_room (Nat.le_of_ble_eq_true rfl)) dX10_mustNumber_39 ⟨Nat.le_of_ble_eq_true rfl, Nat.le_of_ble_eq_true rfl⟩) hD hS hA (fun u9 H locs hw hp hd hs => ?_)
  clear hP hD hS
  obtain rfl := hw
  have hP := hp; have hD := hd; have hS := hs; clear hp hd hs
  exact WX10_mustNumber_42 C0  _ _ _ _ h hP hD hS (lv_sub hl [0] rfl)
set_option maxHeartbeats 4000000 in
set_option maxRecDepth 100000 in
theorem qX10_mustNumber (l : Launch) (D : va_G) (ty : Nat → ClassId) (eo : Nat → Nat) (sz : Nat) (ad : Nat → Nat) (q : dS) (p1 : Int32) (p2 : Int32) (o2 : dS) (h : zX10_mustNumber q p1 p2 = some o2) : Met l yX10_mustNumber wsX10_mustNumber ({ frames := 2, cells := 0, slots := 0, locals := 40 } : Room) (va_Pc [.ref (ad 0), .int p1, .int p2] (kz_pre D ty eo (w10 ty ad q) sz)) (va_Qv (fun (u : va_W) => w10 ty ad o2 = u) (kz_B D ty (va_A (w10 ty ad q) sz)) (va_A (w10 ty ad q) sz)) 0 0 (va_A (w10 ty ad q) sz) := by
  refine Met.ofW (cc := cX10_mustNumber) (maxL := 3) (ret := none) (by decide) rfl ?_
  intro p e s m args below meth c s₁ B hml hv
  obtain ⟨rfl, hsz, hP, hK, hD0, hN, hE⟩ := hv
  have hx := B.exec
  have hb := B.bytes
  have hr := B.returns
  have hts := atoms_spec (ws := wsX10_mustNumber) B.pre
  have hown : s.vm.findClass RX10 = some m.cls := findClass_of_methodNamed B.named
  have hlocks := B.notSynchronized
  subst hsz
  have hD := hD0.self (sz := s.heap.size)
  generalize hAe : va_A (w10 ty ad q) s.heap.size = A at hD hE ⊢
  have hA : ∀ q : Nat, s.heap.size ≤ q → A q := fun q h => by rw [← hAe]; exact Or.inr h
  clear hAe
  have hS : va_S A s.heap s.heap [] := va_S.rf
  have hl := lv_entry ([.ref (ad 0), .int p1, .int p2]) (n := 3) (Nat.le_of_ble_eq_true rfl)
  rw [lg_entry_eq]
  generalize (lg_sl ([.ref (ad 0), .int p1, .int p2]) ++ List.replicate (3 - (lg_sl ([.ref (ad 0), .int p1, .int p2])).length) Slot.unset).toArray = ls at hl ⊢
  have hl : lv_has ls 3 [(0, .ref (ad 0)), (1, .int p1), (2, .int p2)] := hl
  have C : dc_C p s m _ meth c cX10_mustNumber none 3 RX10 wsX10_mustNumber D ty eo A := ⟨hx, hb, hr, hts, hown, hlocks, hml, hK, hN, hE, hA⟩
  unfold zX10_mustNumber at h
  refine lv_aload_n hx hb dX10_mustNumber_0 rfl (lv_at hl 0 rfl) ?_
  obtain ⟨r1, q3, h2, h⟩ := dB_some h
  refine dw_ki (va_runV (As := []) (rest := []) ⟨hx, hb, hml, hown, hts⟩ (qX10_fine l D ty eo _ ad q  r1 q3 h2) (cwV 0 hts gX10_mustNumber_X10_fine rfl rfl rfl hd_X10_fine_v ⟨Nat.le_of_ble_eq_true rfl, Nat.le_of_ble_eq_true rfl⟩) (pv10_10_0 hK hN hE hP hD hS hA) rfl rfl hl.1 rfl (lv_room (Nat.le_of_ble_eq_true rfl)) dX10_mustNumber_1 ⟨Nat.le_of_ble_eq_true rfl, Nat.le_of_ble_eq_true rfl⟩) hD hS hA (fun r9 u9 H locs hw hp hd hs => ?_)
  clear hP hD hS
  obtain ⟨rfl, rfl⟩ := hw
  have hP := hp; have hD := hd; have hS := hs; clear hp hd hs
  refine lv_if_eq (tgt := 42) hx hb dX10_mustNumber_4 (by decide) (fun c9 => ?_) (fun c9 => ?_)
  · rw [if_pos c9] at h
    exact WX10_mustNumber_42 C  _ _ _ _ h hP hD hS (lv_sub hl [0] rfl)
  · rw [if_neg c9] at h
    refine lv_aload_n hx hb dX10_mustNumber_7 rfl (lv_at hl 0 rfl) ?_
    refine va_get (D := D) (ci := 10) (v := .ref (ad 9)) (C := RX10) (T := TX10) (N := 56) hx hb hts u9_wsX10_mustNumber_X10 hown hK hP 0 rfl rfl 15 (by decide) (hts (.fieldLink RX10 54 "TurnedFloorsModel" "code" "[I") f9_wsX10_mustNumber_116) (fun _ h9 => h9) rfl dX10_mustNumber_8 ?_
    refine lv_aload_n hx hb dX10_mustNumber_11 rfl (lv_at hl 0 rfl) ?_
    refine va_get (D := D) (ci := 10) (v := .int (q3.1 0 19)) (C := RX10) (T := TX10) (N := 56) hx hb hts u9_wsX10_mustNumber_X10 hown hK hP 0 rfl rfl 19 (by decide) (hts (.fieldLink RX10 196 "TurnedFloorsModel" "token" "I") f9_wsX10_mustNumber_115) (fun _ h9 => h9) rfl dX10_mustNumber_12 ?_
    obtain ⟨g4, h⟩ := dG_some h
    refine va_iald hx hb hK hP 9 0 rfl rfl (dg_in g4) dX10_mustNumber_15 ?_
    obtain ⟨v5, ev5, h⟩ := dL_some h
    refine kz_topi v5 ev5 ?_
    refine lv_bipush (v := 50) hx hb dX10_mustNumber_16 (by decide) ?_
    refine lv_icmp_ne (tgt := 38) hx hb dX10_mustNumber_18 (by decide) (fun c9 => ?_) (fun c9 => ?_)
    · rw [if_neg c9] at h
      exact WX10_mustNumber_38 C  _ _ _ _ h hP hD hS (lv_sub hl [0] rfl)
    · rw [if_pos c9] at h
      refine lv_aload_n hx hb dX10_mustNumber_21 rfl (lv_at hl 0 rfl) ?_
      refine va_get (D := D) (ci := 10) (v := .ref (ad 10)) (C := RX10) (T := TX10) (N := 56) hx hb hts u9_wsX10_mustNumber_X10 hown hK hP 0 rfl rfl 16 (by decide) (hts (.fieldLink RX10 57 "TurnedFloorsModel" "value" "[I") f9_wsX10_mustNumber_117) (fun _ h9 => h9) rfl dX10_mustNumber_22 ?_
      refine lv_aload_n hx hb dX10_mustNumber_25 rfl (lv_at hl 0 rfl) ?_
      refine va_get (D := D) (ci := 10) (v := .int (q3.1 0 19)) (C := RX10) (T := TX10) (N := 56) hx hb hts u9_wsX10_mustNumber_X10 hown hK hP 0 rfl rfl 19 (by decide) (hts (.fieldLink RX10 196 "TurnedFloorsModel" "token" "I") f9_wsX10_mustNumber_115) (fun _ h9 => h9) rfl dX10_mustNumber_26 ?_
      obtain ⟨g6, h⟩ := dG_some h
      refine va_iald hx hb hK hP 10 0 rfl rfl (dg_in g6) dX10_mustNumber_29 ?_
      obtain ⟨v7, ev7, h⟩ := dL_some h
      refine kz_topi v7 ev7 ?_
      refine lv_iload_n hx hb dX10_mustNumber_30 rfl (lv_at hl 1 rfl) ?_
      refine lv_iload_n hx hb dX10_mustNumber_31 rfl (lv_at hl 2 rfl) ?_
      obtain ⟨r8, h9, h⟩ := dV_some h
      refine dw_ks (va_runS (As := [.int v7, .int p1, .int p2]) (rest := []) ⟨hx, hb, hml, hown, hts⟩ (qX10_lies l D ty eo _ v7 p1 p2 _ h9) (va_cwS 3 hts gX10_mustNumber_X10_lies rfl rfl rfl hd_X10_lies ⟨Nat.le_of_ble_eq_true rfl, Nat.le_of_ble_eq_true rfl⟩) (pvS_0 hK hN hE hP hD hS hA) rfl rfl hl.1 rfl (lv_room (Nat.le_of_ble_eq_true rfl)) dX10_mustNumber_32 ⟨Nat.le_of_ble_eq_true rfl, Nat.le_of_ble_eq_true rfl⟩) hP hD hS hA (fun _ _ h9 => h9.2.symm) (fun r9 u9 H locs hw hp hd hs => ?_)
      obtain ⟨rfl, -⟩ := hw
      clear hP hD hS
      have hP := hp; have hD := hd; have hS := hs; clear hp hd hs
      refine lv_if_ne (tgt := 42) hx hb dX10_mustNumber_35 (by decide) (fun c9 => ?_) (fun c9 => ?_)
      · rw [if_neg c9] at h
        exact WX10_mustNumber_42 C  _ _ _ _ h hP hD hS (lv_sub hl [0] rfl)
      · rw [if_pos c9] at h
        exact WX10_mustNumber_38 C  _ _ _ _ h hP hD hS (lv_sub hl [0] rfl)
end
section
set_option maxRecDepth 20000 in
theorem ggX10_readClause_X10_takes0 : GoodIn wsX10_readClause wsX10_takes0 := wd_c vW10_ok mvW10_195
set_option maxRecDepth 20000 in
theorem gX10_readClause_X10_takes0 : GoodIn wsX10_readClause (wsV RX10 199 RX10 yX10_takes0 wsX10_takes0) := goodIn_app (wd_l vW10_ok _ pvW10_161) ggX10_readClause_X10_takes0
set_option maxRecDepth 20000 in
theorem ggX10_readClause_X10_readSum : GoodIn wsX10_readClause wsX10_readSum := wd_c vW10_ok mvW10_203
set_option maxRecDepth 20000 in
theorem gX10_readClause_X10_readSum : GoodIn wsX10_readClause (wsV RX10 208 RX10 yX10_readSum wsX10_readSum) := goodIn_app (wd_l vW10_ok _ pvW10_163) ggX10_readClause_X10_readSum
set_option maxRecDepth 20000 in
theorem ggX10_readClause_X10_must : GoodIn wsX10_readClause wsX10_must := wd_c vW10_ok mvW10_215
set_option maxRecDepth 20000 in
theorem gX10_readClause_X10_must : GoodIn wsX10_readClause (wsV RX10 212 RX10 yX10_must wsX10_must) := goodIn_app (wd_l vW10_ok _ pvW10_164) ggX10_readClause_X10_must
set_option maxRecDepth 20000 in
theorem ggX10_readClause_X10_readTest : GoodIn wsX10_readClause wsX10_readTest := wd_c vW10_ok mvW10_231
set_option maxRecDepth 20000 in
theorem gX10_readClause_X10_readTest : GoodIn wsX10_readClause (wsV RX10 215 RX10 yX10_readTest wsX10_readTest) := goodIn_app (wd_l vW10_ok _ pvW10_165) ggX10_readClause_X10_readTest
theorem da9_dX10_readClause_0 : (decode cX10_readClause 0 = .ok (.aload_n 0, 1)) ∧ (decode cX10_readClause 1 = .ok (.iconst 1, 1)) ∧ (decode cX10_readClause 2 = .ok (.invokevirtual 199, 3)) ∧ (decode cX10_readClause 5 = .ok (.ifCond .eq 11, 3)) ∧ (decode cX10_readClause 8 = .ok (.aload_n 0, 1)) ∧ (decode cX10_readClause 9 = .ok (.iconst 0, 1)) ∧ (decode cX10_readClause 10 = .ok (.invokevirtual 208, 3)) ∧ (decode cX10_readClause 13 = .ok (.goto 16, 3)) ∧ (decode cX10_readClause 16 = .ok (.aload_n 0, 1)) ∧ (decode cX10_readClause 17 = .ok (.iconst 2, 1)) ∧ (decode cX10_readClause 18 = .ok (.invokevirtual 199, 3)) ∧ (decode cX10_readClause 21 = .ok (.ifCond .ne 8, 3)) ∧ (decode cX10_readClause 24 = .ok (.aload_n 0, 1)) ∧ (decode cX10_readClause 25 = .ok (.iconst 3, 1)) ∧ (decode cX10_readClause 26 = .ok (.invokevirtual 212, 3)) ∧ (decode cX10_readClause 29 = .ok (.aload_n 0, 1)) := by decide +kernel
theorem dX10_readClause_0 : decode cX10_readClause 0 = .ok (.aload_n 0, 1) := da9_dX10_readClause_0.1
theorem dX10_readClause_1 : decode cX10_readClause 1 = .ok (.iconst 1, 1) := da9_dX10_readClause_0.2.1
theorem dX10_readClause_2 : decode cX10_readClause 2 = .ok (.invokevirtual 199, 3) := da9_dX10_readClause_0.2.2.1
theorem dX10_readClause_5 : decode cX10_readClause 5 = .ok (.ifCond .eq 11, 3) := da9_dX10_readClause_0.2.2.2.1
theorem dX10_readClause_8 : decode cX10_readClause 8 = .ok (.aload_n 0, 1) := da9_dX10_readClause_0.2.2.2.2.1
theorem dX10_readClause_9 : decode cX10_readClause 9 = .ok (.iconst 0, 1) := da9_dX10_readClause_0.2.2.2.2.2.1
theorem dX10_readClause_10 : decode cX10_readClause 10 = .ok (.invokevirtual 208, 3) := da9_dX10_readClause_0.2.2.2.2.2.2.1
theorem dX10_readClause_13 : decode cX10_readClause 13 = .ok (.goto 16, 3) := da9_dX10_readClause_0.2.2.2.2.2.2.2.1
theorem dX10_readClause_16 : decode cX10_readClause 16 = .ok (.aload_n 0, 1) := da9_dX10_readClause_0.2.2.2.2.2.2.2.2.1
theorem dX10_readClause_17 : decode cX10_readClause 17 = .ok (.iconst 2, 1) := da9_dX10_readClause_0.2.2.2.2.2.2.2.2.2.1
theorem dX10_readClause_18 : decode cX10_readClause 18 = .ok (.invokevirtual 199, 3) := da9_dX10_readClause_0.2.2.2.2.2.2.2.2.2.2.1
theorem dX10_readClause_21 : decode cX10_readClause 21 = .ok (.ifCond .ne 8, 3) := da9_dX10_readClause_0.2.2.2.2.2.2.2.2.2.2.2.1
theorem dX10_readClause_24 : decode cX10_readClause 24 = .ok (.aload_n 0, 1) := da9_dX10_readClause_0.2.2.2.2.2.2.2.2.2.2.2.2.1
theorem dX10_readClause_25 : decode cX10_readClause 25 = .ok (.iconst 3, 1) := da9_dX10_readClause_0.2.2.2.2.2.2.2.2.2.2.2.2.2.1
theorem dX10_readClause_26 : decode cX10_readClause 26 = .ok (.invokevirtual 212, 3) := da9_dX10_readClause_0.2.2.2.2.2.2.2.2.2.2.2.2.2.2.1
theorem dX10_readClause_29 : decode cX10_readClause 29 = .ok (.aload_n 0, 1) := da9_dX10_readClause_0.2.2.2.2.2.2.2.2.2.2.2.2.2.2.2
theorem da9_dX10_readClause_30 : (decode cX10_readClause 30 = .ok (.iconst 4, 1)) ∧ (decode cX10_readClause 31 = .ok (.invokevirtual 199, 3)) ∧ (decode cX10_readClause 34 = .ok (.ifCond .eq 8, 3)) ∧ (decode cX10_readClause 37 = .ok (.aload_n 0, 1)) ∧ (decode cX10_readClause 38 = .ok (.iconst 0, 1)) ∧ (decode cX10_readClause 39 = .ok (.invokevirtual 215, 3)) ∧ (decode cX10_readClause 42 = .ok (.return_, 1)) := by decide +kernel
theorem dX10_readClause_30 : decode cX10_readClause 30 = .ok (.iconst 4, 1) := da9_dX10_readClause_30.1
theorem dX10_readClause_31 : decode cX10_readClause 31 = .ok (.invokevirtual 199, 3) := da9_dX10_readClause_30.2.1
theorem dX10_readClause_34 : decode cX10_readClause 34 = .ok (.ifCond .eq 8, 3) := da9_dX10_readClause_30.2.2.1
theorem dX10_readClause_37 : decode cX10_readClause 37 = .ok (.aload_n 0, 1) := da9_dX10_readClause_30.2.2.2.1
theorem dX10_readClause_38 : decode cX10_readClause 38 = .ok (.iconst 0, 1) := da9_dX10_readClause_30.2.2.2.2.1
theorem dX10_readClause_39 : decode cX10_readClause 39 = .ok (.invokevirtual 215, 3) := da9_dX10_readClause_30.2.2.2.2.2.1
theorem dX10_readClause_42 : decode cX10_readClause 42 = .ok (.return_, 1) := da9_dX10_readClause_30.2.2.2.2.2.2
set_option maxRecDepth 20000 in
theorem ggX10_readTest_X10_readBoth : GoodIn wsX10_readTest wsX10_readBoth := wd_c vW10_ok mvW10_235
set_option maxRecDepth 20000 in
theorem gX10_readTest_X10_readBoth : GoodIn wsX10_readTest (wsV RX10 231 RX10 yX10_readBoth wsX10_readBoth) := goodIn_app (wd_l vW10_ok _ pvW10_169) ggX10_readTest_X10_readBoth
set_option maxRecDepth 20000 in
theorem ggX10_readTest_X10_takes0 : GoodIn wsX10_readTest wsX10_takes0 := wd_c vW10_ok mvW10_195
set_option maxRecDepth 20000 in
theorem gX10_readTest_X10_takes0 : GoodIn wsX10_readTest (wsV RX10 199 RX10 yX10_takes0 wsX10_takes0) := goodIn_app (wd_l vW10_ok _ pvW10_161) ggX10_readTest_X10_takes0
theorem da9_dX10_readTest_0 : (decode cX10_readTest 0 = .ok (.aload_n 0, 1)) ∧ (decode cX10_readTest 1 = .ok (.iload_n 1, 1)) ∧ (decode cX10_readTest 2 = .ok (.invokevirtual 231, 3)) ∧ (decode cX10_readTest 5 = .ok (.aload_n 0, 1)) ∧ (decode cX10_readTest 6 = .ok (.iconst 5, 1)) ∧ (decode cX10_readTest 7 = .ok (.invokevirtual 199, 3)) ∧ (decode cX10_readTest 10 = .ok (.ifCond .eq 11, 3)) ∧ (decode cX10_readTest 13 = .ok (.aload_n 0, 1)) ∧ (decode cX10_readTest 14 = .ok (.iload_n 1, 1)) ∧ (decode cX10_readTest 15 = .ok (.invokevirtual 231, 3)) ∧ (decode cX10_readTest 18 = .ok (.goto (-13), 3)) ∧ (decode cX10_readTest 21 = .ok (.return_, 1)) := by decide +kernel
theorem dX10_readTest_0 : decode cX10_readTest 0 = .ok (.aload_n 0, 1) := da9_dX10_readTest_0.1
theorem dX10_readTest_1 : decode cX10_readTest 1 = .ok (.iload_n 1, 1) := da9_dX10_readTest_0.2.1
theorem dX10_readTest_2 : decode cX10_readTest 2 = .ok (.invokevirtual 231, 3) := da9_dX10_readTest_0.2.2.1
theorem dX10_readTest_5 : decode cX10_readTest 5 = .ok (.aload_n 0, 1) := da9_dX10_readTest_0.2.2.2.1
theorem dX10_readTest_6 : decode cX10_readTest 6 = .ok (.iconst 5, 1) := da9_dX10_readTest_0.2.2.2.2.1
theorem dX10_readTest_7 : decode cX10_readTest 7 = .ok (.invokevirtual 199, 3) := da9_dX10_readTest_0.2.2.2.2.2.1
theorem dX10_readTest_10 : decode cX10_readTest 10 = .ok (.ifCond .eq 11, 3) := da9_dX10_readTest_0.2.2.2.2.2.2.1
theorem dX10_readTest_13 : decode cX10_readTest 13 = .ok (.aload_n 0, 1) := da9_dX10_readTest_0.2.2.2.2.2.2.2.1
theorem dX10_readTest_14 : decode cX10_readTest 14 = .ok (.iload_n 1, 1) := da9_dX10_readTest_0.2.2.2.2.2.2.2.2.1
theorem dX10_readTest_15 : decode cX10_readTest 15 = .ok (.invokevirtual 231, 3) := da9_dX10_readTest_0.2.2.2.2.2.2.2.2.2.1
theorem dX10_readTest_18 : decode cX10_readTest 18 = .ok (.goto (-13), 3) := da9_dX10_readTest_0.2.2.2.2.2.2.2.2.2.2.1
theorem dX10_readTest_21 : decode cX10_readTest 21 = .ok (.return_, 1) := da9_dX10_readTest_0.2.2.2.2.2.2.2.2.2.2.2
set_option maxRecDepth 20000 in
theorem ggX10_readBoth_X10_readPlain : GoodIn wsX10_readBoth wsX10_readPlain := wd_c vW10_ok mvW10_239
set_option maxRecDepth 20000 in
theorem gX10_readBoth_X10_readPlain : GoodIn wsX10_readBoth (wsV RX10 234 RX10 yX10_readPlain wsX10_readPlain) := goodIn_app (wd_l vW10_ok _ pvW10_170) ggX10_readBoth_X10_readPlain
set_option maxRecDepth 20000 in
theorem ggX10_readBoth_X10_takes0 : GoodIn wsX10_readBoth wsX10_takes0 := wd_c vW10_ok mvW10_195
set_option maxRecDepth 20000 in
theorem gX10_readBoth_X10_takes0 : GoodIn wsX10_readBoth (wsV RX10 199 RX10 yX10_takes0 wsX10_takes0) := goodIn_app (wd_l vW10_ok _ pvW10_161) ggX10_readBoth_X10_takes0
theorem da9_dX10_readBoth_0 : (decode cX10_readBoth 0 = .ok (.aload_n 0, 1)) ∧ (decode cX10_readBoth 1 = .ok (.iload_n 1, 1)) ∧ (decode cX10_readBoth 2 = .ok (.invokevirtual 234, 3)) ∧ (decode cX10_readBoth 5 = .ok (.aload_n 0, 1)) ∧ (decode cX10_readBoth 6 = .ok (.bipush 6, 2)) ∧ (decode cX10_readBoth 8 = .ok (.invokevirtual 199, 3)) ∧ (decode cX10_readBoth 11 = .ok (.ifCond .eq 11, 3)) ∧ (decode cX10_readBoth 14 = .ok (.aload_n 0, 1)) ∧ (decode cX10_readBoth 15 = .ok (.iload_n 1, 1)) ∧ (decode cX10_readBoth 16 = .ok (.invokevirtual 234, 3)) ∧ (decode cX10_readBoth 19 = .ok (.goto (-14), 3)) ∧ (decode cX10_readBoth 22 = .ok (.return_, 1)) := by decide +kernel
theorem dX10_readBoth_0 : decode cX10_readBoth 0 = .ok (.aload_n 0, 1) := da9_dX10_readBoth_0.1
theorem dX10_readBoth_1 : decode cX10_readBoth 1 = .ok (.iload_n 1, 1) := da9_dX10_readBoth_0.2.1
theorem dX10_readBoth_2 : decode cX10_readBoth 2 = .ok (.invokevirtual 234, 3) := da9_dX10_readBoth_0.2.2.1
theorem dX10_readBoth_5 : decode cX10_readBoth 5 = .ok (.aload_n 0, 1) := da9_dX10_readBoth_0.2.2.2.1
theorem dX10_readBoth_6 : decode cX10_readBoth 6 = .ok (.bipush 6, 2) := da9_dX10_readBoth_0.2.2.2.2.1
theorem dX10_readBoth_8 : decode cX10_readBoth 8 = .ok (.invokevirtual 199, 3) := da9_dX10_readBoth_0.2.2.2.2.2.1
theorem dX10_readBoth_11 : decode cX10_readBoth 11 = .ok (.ifCond .eq 11, 3) := da9_dX10_readBoth_0.2.2.2.2.2.2.1
theorem dX10_readBoth_14 : decode cX10_readBoth 14 = .ok (.aload_n 0, 1) := da9_dX10_readBoth_0.2.2.2.2.2.2.2.1
theorem dX10_readBoth_15 : decode cX10_readBoth 15 = .ok (.iload_n 1, 1) := da9_dX10_readBoth_0.2.2.2.2.2.2.2.2.1
theorem dX10_readBoth_16 : decode cX10_readBoth 16 = .ok (.invokevirtual 234, 3) := da9_dX10_readBoth_0.2.2.2.2.2.2.2.2.2.1
theorem dX10_readBoth_19 : decode cX10_readBoth 19 = .ok (.goto (-14), 3) := da9_dX10_readBoth_0.2.2.2.2.2.2.2.2.2.2.1
theorem dX10_readBoth_22 : decode cX10_readBoth 22 = .ok (.return_, 1) := da9_dX10_readBoth_0.2.2.2.2.2.2.2.2.2.2.2
set_option maxRecDepth 20000 in
theorem ggX10_readPlain_X10_takes0 : GoodIn wsX10_readPlain wsX10_takes0 := wd_c vW10_ok mvW10_195
set_option maxRecDepth 20000 in
theorem gX10_readPlain_X10_takes0 : GoodIn wsX10_readPlain (wsV RX10 199 RX10 yX10_takes0 wsX10_takes0) := goodIn_app (wd_l vW10_ok _ pvW10_161) ggX10_readPlain_X10_takes0
set_option maxRecDepth 20000 in
theorem ggX10_readPlain_X10_fine : GoodIn wsX10_readPlain wsX10_fine := wd_c vW10_ok mvW10_199
set_option maxRecDepth 20000 in
theorem gX10_readPlain_X10_fine : GoodIn wsX10_readPlain (wsV RX10 192 RX10 yX10_fine wsX10_fine) := goodIn_app (wd_l vW10_ok _ pvW10_160) ggX10_readPlain_X10_fine
set_option maxRecDepth 20000 in
theorem ggX10_readPlain_X10_sign : GoodIn wsX10_readPlain wsX10_sign := wd_c vW10_ok mvW10_81
set_option maxRecDepth 20000 in
theorem gX10_readPlain_X10_sign : GoodIn wsX10_readPlain (va_wsS RX10 237 yX10_sign wsX10_sign) := goodIn_app (wd_l vW10_ok _ pvW10_171) ggX10_readPlain_X10_sign
set_option maxRecDepth 20000 in
theorem ggX10_readPlain_X10_faults : GoodIn wsX10_readPlain wsX10_faults := wd_c vW10_ok mvW10_211
set_option maxRecDepth 20000 in
theorem gX10_readPlain_X10_faults : GoodIn wsX10_readPlain (wsV RX10 202 RX10 yX10_faults wsX10_faults) := goodIn_app (wd_l vW10_ok _ pvW10_162) ggX10_readPlain_X10_faults
set_option maxRecDepth 20000 in
theorem ggX10_readPlain_X10_readTest : GoodIn wsX10_readPlain wsX10_readTest := wd_c vW10_ok mvW10_231
set_option maxRecDepth 20000 in
theorem gX10_readPlain_X10_readTest : GoodIn wsX10_readPlain (wsV RX10 215 RX10 yX10_readTest wsX10_readTest) := goodIn_app (wd_l vW10_ok _ pvW10_165) ggX10_readPlain_X10_readTest
set_option maxRecDepth 20000 in
theorem ggX10_readPlain_X10_must : GoodIn wsX10_readPlain wsX10_must := wd_c vW10_ok mvW10_215
set_option maxRecDepth 20000 in
theorem gX10_readPlain_X10_must : GoodIn wsX10_readPlain (wsV RX10 212 RX10 yX10_must wsX10_must) := goodIn_app (wd_l vW10_ok _ pvW10_164) ggX10_readPlain_X10_must
set_option maxRecDepth 20000 in
theorem ggX10_readPlain_X10_readSum : GoodIn wsX10_readPlain wsX10_readSum := wd_c vW10_ok mvW10_203
set_option maxRecDepth 20000 in
theorem gX10_readPlain_X10_readSum : GoodIn wsX10_readPlain (wsV RX10 208 RX10 yX10_readSum wsX10_readSum) := goodIn_app (wd_l vW10_ok _ pvW10_163) ggX10_readPlain_X10_readSum
theorem da9_dX10_readPlain_0 : (decode cX10_readPlain 0 = .ok (.iconst 1, 1)) ∧ (decode cX10_readPlain 1 = .ok (.istore_n 2, 1)) ∧ (decode cX10_readPlain 2 = .ok (.iload_n 2, 1)) ∧ (decode cX10_readPlain 3 = .ok (.ifCond .eq 13, 3)) ∧ (decode cX10_readPlain 6 = .ok (.aload_n 0, 1)) ∧ (decode cX10_readPlain 7 = .ok (.bipush 7, 2)) ∧ (decode cX10_readPlain 9 = .ok (.invokevirtual 199, 3)) ∧ (decode cX10_readPlain 12 = .ok (.istore_n 2, 1)) ∧ (decode cX10_readPlain 13 = .ok (.goto (-11), 3)) ∧ (decode cX10_readPlain 16 = .ok (.aload_n 0, 1)) ∧ (decode cX10_readPlain 17 = .ok (.invokevirtual 192, 3)) ∧ (decode cX10_readPlain 20 = .ok (.ifCond .ne 4, 3)) ∧ (decode cX10_readPlain 23 = .ok (.return_, 1)) ∧ (decode cX10_readPlain 24 = .ok (.aload_n 0, 1)) ∧ (decode cX10_readPlain 25 = .ok (.getfield 54, 3)) ∧ (decode cX10_readPlain 28 = .ok (.aload_n 0, 1)) := by decide +kernel
theorem dX10_readPlain_0 : decode cX10_readPlain 0 = .ok (.iconst 1, 1) := da9_dX10_readPlain_0.1
theorem dX10_readPlain_1 : decode cX10_readPlain 1 = .ok (.istore_n 2, 1) := da9_dX10_readPlain_0.2.1
theorem dX10_readPlain_2 : decode cX10_readPlain 2 = .ok (.iload_n 2, 1) := da9_dX10_readPlain_0.2.2.1
theorem dX10_readPlain_3 : decode cX10_readPlain 3 = .ok (.ifCond .eq 13, 3) := da9_dX10_readPlain_0.2.2.2.1
theorem dX10_readPlain_6 : decode cX10_readPlain 6 = .ok (.aload_n 0, 1) := da9_dX10_readPlain_0.2.2.2.2.1
theorem dX10_readPlain_7 : decode cX10_readPlain 7 = .ok (.bipush 7, 2) := da9_dX10_readPlain_0.2.2.2.2.2.1
theorem dX10_readPlain_9 : decode cX10_readPlain 9 = .ok (.invokevirtual 199, 3) := da9_dX10_readPlain_0.2.2.2.2.2.2.1
theorem dX10_readPlain_12 : decode cX10_readPlain 12 = .ok (.istore_n 2, 1) := da9_dX10_readPlain_0.2.2.2.2.2.2.2.1
theorem dX10_readPlain_13 : decode cX10_readPlain 13 = .ok (.goto (-11), 3) := da9_dX10_readPlain_0.2.2.2.2.2.2.2.2.1
theorem dX10_readPlain_16 : decode cX10_readPlain 16 = .ok (.aload_n 0, 1) := da9_dX10_readPlain_0.2.2.2.2.2.2.2.2.2.1
theorem dX10_readPlain_17 : decode cX10_readPlain 17 = .ok (.invokevirtual 192, 3) := da9_dX10_readPlain_0.2.2.2.2.2.2.2.2.2.2.1
theorem dX10_readPlain_20 : decode cX10_readPlain 20 = .ok (.ifCond .ne 4, 3) := da9_dX10_readPlain_0.2.2.2.2.2.2.2.2.2.2.2.1
theorem dX10_readPlain_23 : decode cX10_readPlain 23 = .ok (.return_, 1) := da9_dX10_readPlain_0.2.2.2.2.2.2.2.2.2.2.2.2.1
theorem dX10_readPlain_24 : decode cX10_readPlain 24 = .ok (.aload_n 0, 1) := da9_dX10_readPlain_0.2.2.2.2.2.2.2.2.2.2.2.2.2.1
theorem dX10_readPlain_25 : decode cX10_readPlain 25 = .ok (.getfield 54, 3) := da9_dX10_readPlain_0.2.2.2.2.2.2.2.2.2.2.2.2.2.2.1
theorem dX10_readPlain_28 : decode cX10_readPlain 28 = .ok (.aload_n 0, 1) := da9_dX10_readPlain_0.2.2.2.2.2.2.2.2.2.2.2.2.2.2.2
theorem da9_dX10_readPlain_29 : (decode cX10_readPlain 29 = .ok (.getfield 196, 3)) ∧ (decode cX10_readPlain 32 = .ok (.iaload, 1)) ∧ (decode cX10_readPlain 33 = .ok (.istore_n 3, 1)) ∧ (decode cX10_readPlain 34 = .ok (.iload_n 3, 1)) ∧ (decode cX10_readPlain 35 = .ok (.bipush 40, 2)) ∧ (decode cX10_readPlain 37 = .ok (.invokestatic 237, 3)) ∧ (decode cX10_readPlain 40 = .ok (.if_icmp .ne 50, 3)) ∧ (decode cX10_readPlain 43 = .ok (.iload_n 1, 1)) ∧ (decode cX10_readPlain 44 = .ok (.bipush 8, 2)) ∧ (decode cX10_readPlain 46 = .ok (.if_icmp .ne 7, 3)) ∧ (decode cX10_readPlain 49 = .ok (.aload_n 0, 1)) ∧ (decode cX10_readPlain 50 = .ok (.invokevirtual 202, 3)) ∧ (decode cX10_readPlain 53 = .ok (.aload_n 0, 1)) ∧ (decode cX10_readPlain 54 = .ok (.invokevirtual 192, 3)) ∧ (decode cX10_readPlain 57 = .ok (.ifCond .ne 4, 3)) ∧ (decode cX10_readPlain 60 = .ok (.return_, 1)) := by decide +kernel
theorem dX10_readPlain_29 : decode cX10_readPlain 29 = .ok (.getfield 196, 3) := da9_dX10_readPlain_29.1
theorem dX10_readPlain_32 : decode cX10_readPlain 32 = .ok (.iaload, 1) := da9_dX10_readPlain_29.2.1
theorem dX10_readPlain_33 : decode cX10_readPlain 33 = .ok (.istore_n 3, 1) := da9_dX10_readPlain_29.2.2.1
theorem dX10_readPlain_34 : decode cX10_readPlain 34 = .ok (.iload_n 3, 1) := da9_dX10_readPlain_29.2.2.2.1
theorem dX10_readPlain_35 : decode cX10_readPlain 35 = .ok (.bipush 40, 2) := da9_dX10_readPlain_29.2.2.2.2.1
theorem dX10_readPlain_37 : decode cX10_readPlain 37 = .ok (.invokestatic 237, 3) := da9_dX10_readPlain_29.2.2.2.2.2.1
theorem dX10_readPlain_40 : decode cX10_readPlain 40 = .ok (.if_icmp .ne 50, 3) := da9_dX10_readPlain_29.2.2.2.2.2.2.1
theorem dX10_readPlain_43 : decode cX10_readPlain 43 = .ok (.iload_n 1, 1) := da9_dX10_readPlain_29.2.2.2.2.2.2.2.1
theorem dX10_readPlain_44 : decode cX10_readPlain 44 = .ok (.bipush 8, 2) := da9_dX10_readPlain_29.2.2.2.2.2.2.2.2.1
theorem dX10_readPlain_46 : decode cX10_readPlain 46 = .ok (.if_icmp .ne 7, 3) := da9_dX10_readPlain_29.2.2.2.2.2.2.2.2.2.1
theorem dX10_readPlain_49 : decode cX10_readPlain 49 = .ok (.aload_n 0, 1) := da9_dX10_readPlain_29.2.2.2.2.2.2.2.2.2.2.1
theorem dX10_readPlain_50 : decode cX10_readPlain 50 = .ok (.invokevirtual 202, 3) := da9_dX10_readPlain_29.2.2.2.2.2.2.2.2.2.2.2.1
theorem dX10_readPlain_53 : decode cX10_readPlain 53 = .ok (.aload_n 0, 1) := da9_dX10_readPlain_29.2.2.2.2.2.2.2.2.2.2.2.2.1
theorem dX10_readPlain_54 : decode cX10_readPlain 54 = .ok (.invokevirtual 192, 3) := da9_dX10_readPlain_29.2.2.2.2.2.2.2.2.2.2.2.2.2.1
theorem dX10_readPlain_57 : decode cX10_readPlain 57 = .ok (.ifCond .ne 4, 3) := da9_dX10_readPlain_29.2.2.2.2.2.2.2.2.2.2.2.2.2.2.1
theorem dX10_readPlain_60 : decode cX10_readPlain 60 = .ok (.return_, 1) := da9_dX10_readPlain_29.2.2.2.2.2.2.2.2.2.2.2.2.2.2.2
theorem da9_dX10_readPlain_61 : (decode cX10_readPlain 61 = .ok (.aload_n 0, 1)) ∧ (decode cX10_readPlain 62 = .ok (.dup, 1)) ∧ (decode cX10_readPlain 63 = .ok (.getfield 196, 3)) ∧ (decode cX10_readPlain 66 = .ok (.iconst 1, 1)) ∧ (decode cX10_readPlain 67 = .ok (.iadd, 1)) ∧ (decode cX10_readPlain 68 = .ok (.putfield 196, 3)) ∧ (decode cX10_readPlain 71 = .ok (.aload_n 0, 1)) ∧ (decode cX10_readPlain 72 = .ok (.iload_n 1, 1)) ∧ (decode cX10_readPlain 73 = .ok (.iconst 1, 1)) ∧ (decode cX10_readPlain 74 = .ok (.iadd, 1)) ∧ (decode cX10_readPlain 75 = .ok (.invokevirtual 215, 3)) ∧ (decode cX10_readPlain 78 = .ok (.aload_n 0, 1)) ∧ (decode cX10_readPlain 79 = .ok (.bipush 41, 2)) ∧ (decode cX10_readPlain 81 = .ok (.invokestatic 237, 3)) ∧ (decode cX10_readPlain 84 = .ok (.invokevirtual 212, 3)) ∧ (decode cX10_readPlain 87 = .ok (.goto 46, 3)) := by decide +kernel
theorem dX10_readPlain_61 : decode cX10_readPlain 61 = .ok (.aload_n 0, 1) := da9_dX10_readPlain_61.1
theorem dX10_readPlain_62 : decode cX10_readPlain 62 = .ok (.dup, 1) := da9_dX10_readPlain_61.2.1
theorem dX10_readPlain_63 : decode cX10_readPlain 63 = .ok (.getfield 196, 3) := da9_dX10_readPlain_61.2.2.1
theorem dX10_readPlain_66 : decode cX10_readPlain 66 = .ok (.iconst 1, 1) := da9_dX10_readPlain_61.2.2.2.1
theorem dX10_readPlain_67 : decode cX10_readPlain 67 = .ok (.iadd, 1) := da9_dX10_readPlain_61.2.2.2.2.1
theorem dX10_readPlain_68 : decode cX10_readPlain 68 = .ok (.putfield 196, 3) := da9_dX10_readPlain_61.2.2.2.2.2.1
theorem dX10_readPlain_71 : decode cX10_readPlain 71 = .ok (.aload_n 0, 1) := da9_dX10_readPlain_61.2.2.2.2.2.2.1
theorem dX10_readPlain_72 : decode cX10_readPlain 72 = .ok (.iload_n 1, 1) := da9_dX10_readPlain_61.2.2.2.2.2.2.2.1
theorem dX10_readPlain_73 : decode cX10_readPlain 73 = .ok (.iconst 1, 1) := da9_dX10_readPlain_61.2.2.2.2.2.2.2.2.1
theorem dX10_readPlain_74 : decode cX10_readPlain 74 = .ok (.iadd, 1) := da9_dX10_readPlain_61.2.2.2.2.2.2.2.2.2.1
theorem dX10_readPlain_75 : decode cX10_readPlain 75 = .ok (.invokevirtual 215, 3) := da9_dX10_readPlain_61.2.2.2.2.2.2.2.2.2.2.1
theorem dX10_readPlain_78 : decode cX10_readPlain 78 = .ok (.aload_n 0, 1) := da9_dX10_readPlain_61.2.2.2.2.2.2.2.2.2.2.2.1
theorem dX10_readPlain_79 : decode cX10_readPlain 79 = .ok (.bipush 41, 2) := da9_dX10_readPlain_61.2.2.2.2.2.2.2.2.2.2.2.2.1
theorem dX10_readPlain_81 : decode cX10_readPlain 81 = .ok (.invokestatic 237, 3) := da9_dX10_readPlain_61.2.2.2.2.2.2.2.2.2.2.2.2.2.1
theorem dX10_readPlain_84 : decode cX10_readPlain 84 = .ok (.invokevirtual 212, 3) := da9_dX10_readPlain_61.2.2.2.2.2.2.2.2.2.2.2.2.2.2.1
theorem dX10_readPlain_87 : decode cX10_readPlain 87 = .ok (.goto 46, 3) := da9_dX10_readPlain_61.2.2.2.2.2.2.2.2.2.2.2.2.2.2.2
theorem da9_dX10_readPlain_90 : (decode cX10_readPlain 90 = .ok (.aload_n 0, 1)) ∧ (decode cX10_readPlain 91 = .ok (.iload_n 1, 1)) ∧ (decode cX10_readPlain 92 = .ok (.invokevirtual 208, 3)) ∧ (decode cX10_readPlain 95 = .ok (.aload_n 0, 1)) ∧ (decode cX10_readPlain 96 = .ok (.bipush 60, 2)) ∧ (decode cX10_readPlain 98 = .ok (.invokestatic 237, 3)) ∧ (decode cX10_readPlain 101 = .ok (.invokevirtual 199, 3)) ∧ (decode cX10_readPlain 104 = .ok (.ifCond .ne 24, 3)) ∧ (decode cX10_readPlain 107 = .ok (.aload_n 0, 1)) ∧ (decode cX10_readPlain 108 = .ok (.bipush 62, 2)) ∧ (decode cX10_readPlain 110 = .ok (.invokestatic 237, 3)) ∧ (decode cX10_readPlain 113 = .ok (.invokevirtual 199, 3)) ∧ (decode cX10_readPlain 116 = .ok (.ifCond .ne 12, 3)) ∧ (decode cX10_readPlain 119 = .ok (.aload_n 0, 1)) ∧ (decode cX10_readPlain 120 = .ok (.bipush 61, 2)) ∧ (decode cX10_readPlain 122 = .ok (.invokestatic 237, 3)) := by decide +kernel
theorem dX10_readPlain_90 : decode cX10_readPlain 90 = .ok (.aload_n 0, 1) := da9_dX10_readPlain_90.1
theorem dX10_readPlain_91 : decode cX10_readPlain 91 = .ok (.iload_n 1, 1) := da9_dX10_readPlain_90.2.1
theorem dX10_readPlain_92 : decode cX10_readPlain 92 = .ok (.invokevirtual 208, 3) := da9_dX10_readPlain_90.2.2.1
theorem dX10_readPlain_95 : decode cX10_readPlain 95 = .ok (.aload_n 0, 1) := da9_dX10_readPlain_90.2.2.2.1
theorem dX10_readPlain_96 : decode cX10_readPlain 96 = .ok (.bipush 60, 2) := da9_dX10_readPlain_90.2.2.2.2.1
theorem dX10_readPlain_98 : decode cX10_readPlain 98 = .ok (.invokestatic 237, 3) := da9_dX10_readPlain_90.2.2.2.2.2.1
theorem dX10_readPlain_101 : decode cX10_readPlain 101 = .ok (.invokevirtual 199, 3) := da9_dX10_readPlain_90.2.2.2.2.2.2.1
theorem dX10_readPlain_104 : decode cX10_readPlain 104 = .ok (.ifCond .ne 24, 3) := da9_dX10_readPlain_90.2.2.2.2.2.2.2.1
theorem dX10_readPlain_107 : decode cX10_readPlain 107 = .ok (.aload_n 0, 1) := da9_dX10_readPlain_90.2.2.2.2.2.2.2.2.1
theorem dX10_readPlain_108 : decode cX10_readPlain 108 = .ok (.bipush 62, 2) := da9_dX10_readPlain_90.2.2.2.2.2.2.2.2.2.1
theorem dX10_readPlain_110 : decode cX10_readPlain 110 = .ok (.invokestatic 237, 3) := da9_dX10_readPlain_90.2.2.2.2.2.2.2.2.2.2.1
theorem dX10_readPlain_113 : decode cX10_readPlain 113 = .ok (.invokevirtual 199, 3) := da9_dX10_readPlain_90.2.2.2.2.2.2.2.2.2.2.2.1
theorem dX10_readPlain_116 : decode cX10_readPlain 116 = .ok (.ifCond .ne 12, 3) := da9_dX10_readPlain_90.2.2.2.2.2.2.2.2.2.2.2.2.1
theorem dX10_readPlain_119 : decode cX10_readPlain 119 = .ok (.aload_n 0, 1) := da9_dX10_readPlain_90.2.2.2.2.2.2.2.2.2.2.2.2.2.1
theorem dX10_readPlain_120 : decode cX10_readPlain 120 = .ok (.bipush 61, 2) := da9_dX10_readPlain_90.2.2.2.2.2.2.2.2.2.2.2.2.2.2.1
theorem dX10_readPlain_122 : decode cX10_readPlain 122 = .ok (.invokestatic 237, 3) := da9_dX10_readPlain_90.2.2.2.2.2.2.2.2.2.2.2.2.2.2.2
theorem da9_dX10_readPlain_125 : (decode cX10_readPlain 125 = .ok (.invokevirtual 212, 3)) ∧ (decode cX10_readPlain 128 = .ok (.aload_n 0, 1)) ∧ (decode cX10_readPlain 129 = .ok (.iload_n 1, 1)) ∧ (decode cX10_readPlain 130 = .ok (.invokevirtual 208, 3)) ∧ (decode cX10_readPlain 133 = .ok (.return_, 1)) := by decide +kernel
theorem dX10_readPlain_125 : decode cX10_readPlain 125 = .ok (.invokevirtual 212, 3) := da9_dX10_readPlain_125.1
theorem dX10_readPlain_128 : decode cX10_readPlain 128 = .ok (.aload_n 0, 1) := da9_dX10_readPlain_125.2.1
theorem dX10_readPlain_129 : decode cX10_readPlain 129 = .ok (.iload_n 1, 1) := da9_dX10_readPlain_125.2.2.1
theorem dX10_readPlain_130 : decode cX10_readPlain 130 = .ok (.invokevirtual 208, 3) := da9_dX10_readPlain_125.2.2.2.1
theorem dX10_readPlain_133 : decode cX10_readPlain 133 = .ok (.return_, 1) := da9_dX10_readPlain_125.2.2.2.2
set_option maxRecDepth 20000 in
theorem ggX10_readSum_X10_readTerm : GoodIn wsX10_readSum wsX10_readTerm := wd_c vW10_ok mvW10_224
set_option maxRecDepth 20000 in
theorem gX10_readSum_X10_readTerm : GoodIn wsX10_readSum (wsV RX10 241 RX10 yX10_readTerm wsX10_readTerm) := goodIn_app (wd_l vW10_ok _ pvW10_172) ggX10_readSum_X10_readTerm
set_option maxRecDepth 20000 in
theorem ggX10_readSum_X10_sign : GoodIn wsX10_readSum wsX10_sign := wd_c vW10_ok mvW10_81
set_option maxRecDepth 20000 in
theorem gX10_readSum_X10_sign : GoodIn wsX10_readSum (va_wsS RX10 237 yX10_sign wsX10_sign) := goodIn_app (wd_l vW10_ok _ pvW10_171) ggX10_readSum_X10_sign
set_option maxRecDepth 20000 in
theorem ggX10_readSum_X10_takes0 : GoodIn wsX10_readSum wsX10_takes0 := wd_c vW10_ok mvW10_195
set_option maxRecDepth 20000 in
theorem gX10_readSum_X10_takes0 : GoodIn wsX10_readSum (wsV RX10 199 RX10 yX10_takes0 wsX10_takes0) := goodIn_app (wd_l vW10_ok _ pvW10_161) ggX10_readSum_X10_takes0
theorem da9_dX10_readSum_0 : (decode cX10_readSum 0 = .ok (.aload_n 0, 1)) ∧ (decode cX10_readSum 1 = .ok (.iload_n 1, 1)) ∧ (decode cX10_readSum 2 = .ok (.invokevirtual 241, 3)) ∧ (decode cX10_readSum 5 = .ok (.aload_n 0, 1)) ∧ (decode cX10_readSum 6 = .ok (.bipush 43, 2)) ∧ (decode cX10_readSum 8 = .ok (.invokestatic 237, 3)) ∧ (decode cX10_readSum 11 = .ok (.invokevirtual 199, 3)) ∧ (decode cX10_readSum 14 = .ok (.ifCond .ne 15, 3)) ∧ (decode cX10_readSum 17 = .ok (.aload_n 0, 1)) ∧ (decode cX10_readSum 18 = .ok (.bipush 45, 2)) ∧ (decode cX10_readSum 20 = .ok (.invokestatic 237, 3)) ∧ (decode cX10_readSum 23 = .ok (.invokevirtual 199, 3)) ∧ (decode cX10_readSum 26 = .ok (.ifCond .eq 11, 3)) ∧ (decode cX10_readSum 29 = .ok (.aload_n 0, 1)) ∧ (decode cX10_readSum 30 = .ok (.iload_n 1, 1)) ∧ (decode cX10_readSum 31 = .ok (.invokevirtual 241, 3)) := by decide +kernel
theorem dX10_readSum_0 : decode cX10_readSum 0 = .ok (.aload_n 0, 1) := da9_dX10_readSum_0.1
theorem dX10_readSum_1 : decode cX10_readSum 1 = .ok (.iload_n 1, 1) := da9_dX10_readSum_0.2.1
theorem dX10_readSum_2 : decode cX10_readSum 2 = .ok (.invokevirtual 241, 3) := da9_dX10_readSum_0.2.2.1
theorem dX10_readSum_5 : decode cX10_readSum 5 = .ok (.aload_n 0, 1) := da9_dX10_readSum_0.2.2.2.1
theorem dX10_readSum_6 : decode cX10_readSum 6 = .ok (.bipush 43, 2) := da9_dX10_readSum_0.2.2.2.2.1
theorem dX10_readSum_8 : decode cX10_readSum 8 = .ok (.invokestatic 237, 3) := da9_dX10_readSum_0.2.2.2.2.2.1
theorem dX10_readSum_11 : decode cX10_readSum 11 = .ok (.invokevirtual 199, 3) := da9_dX10_readSum_0.2.2.2.2.2.2.1
theorem dX10_readSum_14 : decode cX10_readSum 14 = .ok (.ifCond .ne 15, 3) := da9_dX10_readSum_0.2.2.2.2.2.2.2.1
theorem dX10_readSum_17 : decode cX10_readSum 17 = .ok (.aload_n 0, 1) := da9_dX10_readSum_0.2.2.2.2.2.2.2.2.1
theorem dX10_readSum_18 : decode cX10_readSum 18 = .ok (.bipush 45, 2) := da9_dX10_readSum_0.2.2.2.2.2.2.2.2.2.1
theorem dX10_readSum_20 : decode cX10_readSum 20 = .ok (.invokestatic 237, 3) := da9_dX10_readSum_0.2.2.2.2.2.2.2.2.2.2.1
theorem dX10_readSum_23 : decode cX10_readSum 23 = .ok (.invokevirtual 199, 3) := da9_dX10_readSum_0.2.2.2.2.2.2.2.2.2.2.2.1
theorem dX10_readSum_26 : decode cX10_readSum 26 = .ok (.ifCond .eq 11, 3) := da9_dX10_readSum_0.2.2.2.2.2.2.2.2.2.2.2.2.1
theorem dX10_readSum_29 : decode cX10_readSum 29 = .ok (.aload_n 0, 1) := da9_dX10_readSum_0.2.2.2.2.2.2.2.2.2.2.2.2.2.1
theorem dX10_readSum_30 : decode cX10_readSum 30 = .ok (.iload_n 1, 1) := da9_dX10_readSum_0.2.2.2.2.2.2.2.2.2.2.2.2.2.2.1
theorem dX10_readSum_31 : decode cX10_readSum 31 = .ok (.invokevirtual 241, 3) := da9_dX10_readSum_0.2.2.2.2.2.2.2.2.2.2.2.2.2.2.2
theorem da9_dX10_readSum_34 : (decode cX10_readSum 34 = .ok (.goto (-29), 3)) ∧ (decode cX10_readSum 37 = .ok (.return_, 1)) := by decide +kernel
theorem dX10_readSum_34 : decode cX10_readSum 34 = .ok (.goto (-29), 3) := da9_dX10_readSum_34.1
theorem dX10_readSum_37 : decode cX10_readSum 37 = .ok (.return_, 1) := da9_dX10_readSum_34.2
set_option maxRecDepth 20000 in
theorem ggX10_readTerm_X10_readPart : GoodIn wsX10_readTerm wsX10_readPart := wd_c vW10_ok mvW10_207
set_option maxRecDepth 20000 in
theorem gX10_readTerm_X10_readPart : GoodIn wsX10_readTerm (wsV RX10 244 RX10 yX10_readPart wsX10_readPart) := goodIn_app (wd_l vW10_ok _ pvW10_173) ggX10_readTerm_X10_readPart
set_option maxRecDepth 20000 in
theorem ggX10_readTerm_X10_sign : GoodIn wsX10_readTerm wsX10_sign := wd_c vW10_ok mvW10_81
set_option maxRecDepth 20000 in
theorem gX10_readTerm_X10_sign : GoodIn wsX10_readTerm (va_wsS RX10 237 yX10_sign wsX10_sign) := goodIn_app (wd_l vW10_ok _ pvW10_171) ggX10_readTerm_X10_sign
set_option maxRecDepth 20000 in
theorem ggX10_readTerm_X10_takes0 : GoodIn wsX10_readTerm wsX10_takes0 := wd_c vW10_ok mvW10_195
set_option maxRecDepth 20000 in
theorem gX10_readTerm_X10_takes0 : GoodIn wsX10_readTerm (wsV RX10 199 RX10 yX10_takes0 wsX10_takes0) := goodIn_app (wd_l vW10_ok _ pvW10_161) ggX10_readTerm_X10_takes0
theorem da9_dX10_readTerm_0 : (decode cX10_readTerm 0 = .ok (.aload_n 0, 1)) ∧ (decode cX10_readTerm 1 = .ok (.iload_n 1, 1)) ∧ (decode cX10_readTerm 2 = .ok (.invokevirtual 244, 3)) ∧ (decode cX10_readTerm 5 = .ok (.aload_n 0, 1)) ∧ (decode cX10_readTerm 6 = .ok (.bipush 42, 2)) ∧ (decode cX10_readTerm 8 = .ok (.invokestatic 237, 3)) ∧ (decode cX10_readTerm 11 = .ok (.invokevirtual 199, 3)) ∧ (decode cX10_readTerm 14 = .ok (.ifCond .ne 27, 3)) ∧ (decode cX10_readTerm 17 = .ok (.aload_n 0, 1)) ∧ (decode cX10_readTerm 18 = .ok (.bipush 47, 2)) ∧ (decode cX10_readTerm 20 = .ok (.invokestatic 237, 3)) ∧ (decode cX10_readTerm 23 = .ok (.invokevirtual 199, 3)) ∧ (decode cX10_readTerm 26 = .ok (.ifCond .ne 15, 3)) ∧ (decode cX10_readTerm 29 = .ok (.aload_n 0, 1)) ∧ (decode cX10_readTerm 30 = .ok (.bipush 37, 2)) ∧ (decode cX10_readTerm 32 = .ok (.invokestatic 237, 3)) := by decide +kernel
theorem dX10_readTerm_0 : decode cX10_readTerm 0 = .ok (.aload_n 0, 1) := da9_dX10_readTerm_0.1
theorem dX10_readTerm_1 : decode cX10_readTerm 1 = .ok (.iload_n 1, 1) := da9_dX10_readTerm_0.2.1
theorem dX10_readTerm_2 : decode cX10_readTerm 2 = .ok (.invokevirtual 244, 3) := da9_dX10_readTerm_0.2.2.1
theorem dX10_readTerm_5 : decode cX10_readTerm 5 = .ok (.aload_n 0, 1) := da9_dX10_readTerm_0.2.2.2.1
theorem dX10_readTerm_6 : decode cX10_readTerm 6 = .ok (.bipush 42, 2) := da9_dX10_readTerm_0.2.2.2.2.1
theorem dX10_readTerm_8 : decode cX10_readTerm 8 = .ok (.invokestatic 237, 3) := da9_dX10_readTerm_0.2.2.2.2.2.1
theorem dX10_readTerm_11 : decode cX10_readTerm 11 = .ok (.invokevirtual 199, 3) := da9_dX10_readTerm_0.2.2.2.2.2.2.1
theorem dX10_readTerm_14 : decode cX10_readTerm 14 = .ok (.ifCond .ne 27, 3) := da9_dX10_readTerm_0.2.2.2.2.2.2.2.1
theorem dX10_readTerm_17 : decode cX10_readTerm 17 = .ok (.aload_n 0, 1) := da9_dX10_readTerm_0.2.2.2.2.2.2.2.2.1
theorem dX10_readTerm_18 : decode cX10_readTerm 18 = .ok (.bipush 47, 2) := da9_dX10_readTerm_0.2.2.2.2.2.2.2.2.2.1
theorem dX10_readTerm_20 : decode cX10_readTerm 20 = .ok (.invokestatic 237, 3) := da9_dX10_readTerm_0.2.2.2.2.2.2.2.2.2.2.1
theorem dX10_readTerm_23 : decode cX10_readTerm 23 = .ok (.invokevirtual 199, 3) := da9_dX10_readTerm_0.2.2.2.2.2.2.2.2.2.2.2.1
theorem dX10_readTerm_26 : decode cX10_readTerm 26 = .ok (.ifCond .ne 15, 3) := da9_dX10_readTerm_0.2.2.2.2.2.2.2.2.2.2.2.2.1
theorem dX10_readTerm_29 : decode cX10_readTerm 29 = .ok (.aload_n 0, 1) := da9_dX10_readTerm_0.2.2.2.2.2.2.2.2.2.2.2.2.2.1
theorem dX10_readTerm_30 : decode cX10_readTerm 30 = .ok (.bipush 37, 2) := da9_dX10_readTerm_0.2.2.2.2.2.2.2.2.2.2.2.2.2.2.1
theorem dX10_readTerm_32 : decode cX10_readTerm 32 = .ok (.invokestatic 237, 3) := da9_dX10_readTerm_0.2.2.2.2.2.2.2.2.2.2.2.2.2.2.2
theorem da9_dX10_readTerm_35 : (decode cX10_readTerm 35 = .ok (.invokevirtual 199, 3)) ∧ (decode cX10_readTerm 38 = .ok (.ifCond .eq 11, 3)) ∧ (decode cX10_readTerm 41 = .ok (.aload_n 0, 1)) ∧ (decode cX10_readTerm 42 = .ok (.iload_n 1, 1)) ∧ (decode cX10_readTerm 43 = .ok (.invokevirtual 244, 3)) ∧ (decode cX10_readTerm 46 = .ok (.goto (-41), 3)) ∧ (decode cX10_readTerm 49 = .ok (.return_, 1)) := by decide +kernel
theorem dX10_readTerm_35 : decode cX10_readTerm 35 = .ok (.invokevirtual 199, 3) := da9_dX10_readTerm_35.1
theorem dX10_readTerm_38 : decode cX10_readTerm 38 = .ok (.ifCond .eq 11, 3) := da9_dX10_readTerm_35.2.1
theorem dX10_readTerm_41 : decode cX10_readTerm 41 = .ok (.aload_n 0, 1) := da9_dX10_readTerm_35.2.2.1
theorem dX10_readTerm_42 : decode cX10_readTerm 42 = .ok (.iload_n 1, 1) := da9_dX10_readTerm_35.2.2.2.1
theorem dX10_readTerm_43 : decode cX10_readTerm 43 = .ok (.invokevirtual 244, 3) := da9_dX10_readTerm_35.2.2.2.2.1
theorem dX10_readTerm_46 : decode cX10_readTerm 46 = .ok (.goto (-41), 3) := da9_dX10_readTerm_35.2.2.2.2.2.1
theorem dX10_readTerm_49 : decode cX10_readTerm 49 = .ok (.return_, 1) := da9_dX10_readTerm_35.2.2.2.2.2.2
set_option maxRecDepth 20000 in
theorem ggX10_readPart_X10_fine : GoodIn wsX10_readPart wsX10_fine := wd_c vW10_ok mvW10_199
set_option maxRecDepth 20000 in
theorem gX10_readPart_X10_fine : GoodIn wsX10_readPart (wsV RX10 192 RX10 yX10_fine wsX10_fine) := goodIn_app (wd_l vW10_ok _ pvW10_160) ggX10_readPart_X10_fine
set_option maxRecDepth 20000 in
theorem ggX10_readPart_X10_sign : GoodIn wsX10_readPart wsX10_sign := wd_c vW10_ok mvW10_81
set_option maxRecDepth 20000 in
theorem gX10_readPart_X10_sign : GoodIn wsX10_readPart (va_wsS RX10 237 yX10_sign wsX10_sign) := goodIn_app (wd_l vW10_ok _ pvW10_171) ggX10_readPart_X10_sign
set_option maxRecDepth 20000 in
theorem ggX10_readPart_X10_faults : GoodIn wsX10_readPart wsX10_faults := wd_c vW10_ok mvW10_211
set_option maxRecDepth 20000 in
theorem gX10_readPart_X10_faults : GoodIn wsX10_readPart (wsV RX10 202 RX10 yX10_faults wsX10_faults) := goodIn_app (wd_l vW10_ok _ pvW10_162) ggX10_readPart_X10_faults
set_option maxRecDepth 20000 in
theorem ggX10_readPart_X10_readSum : GoodIn wsX10_readPart wsX10_readSum := wd_c vW10_ok mvW10_203
set_option maxRecDepth 20000 in
theorem gX10_readPart_X10_readSum : GoodIn wsX10_readPart (wsV RX10 208 RX10 yX10_readSum wsX10_readSum) := goodIn_app (wd_l vW10_ok _ pvW10_163) ggX10_readPart_X10_readSum
set_option maxRecDepth 20000 in
theorem ggX10_readPart_X10_must : GoodIn wsX10_readPart wsX10_must := wd_c vW10_ok mvW10_215
set_option maxRecDepth 20000 in
theorem gX10_readPart_X10_must : GoodIn wsX10_readPart (wsV RX10 212 RX10 yX10_must wsX10_must) := goodIn_app (wd_l vW10_ok _ pvW10_164) ggX10_readPart_X10_must
set_option maxRecDepth 20000 in
theorem ggX10_readPart_X10_leaf : GoodIn wsX10_readPart wsX10_leaf := wd_c vW10_ok mvW10_219
set_option maxRecDepth 20000 in
theorem gX10_readPart_X10_leaf : GoodIn wsX10_readPart (wsV RX10 253 RX10 yX10_leaf wsX10_leaf) := goodIn_app (wd_l vW10_ok _ pvW10_174) ggX10_readPart_X10_leaf
set_option maxRecDepth 20000 in
theorem ggX10_readPart_X10_mustNumber : GoodIn wsX10_readPart wsX10_mustNumber := wd_c vW10_ok mvW10_223
set_option maxRecDepth 20000 in
theorem gX10_readPart_X10_mustNumber : GoodIn wsX10_readPart (wsV RX10 218 RX10 yX10_mustNumber wsX10_mustNumber) := goodIn_app (wd_l vW10_ok _ pvW10_166) ggX10_readPart_X10_mustNumber
theorem da9_dX10_readPart_0 : (decode cX10_readPart 0 = .ok (.aload_n 0, 1)) ∧ (decode cX10_readPart 1 = .ok (.invokevirtual 192, 3)) ∧ (decode cX10_readPart 4 = .ok (.ifCond .ne 4, 3)) ∧ (decode cX10_readPart 7 = .ok (.return_, 1)) ∧ (decode cX10_readPart 8 = .ok (.aload_n 0, 1)) ∧ (decode cX10_readPart 9 = .ok (.getfield 54, 3)) ∧ (decode cX10_readPart 12 = .ok (.aload_n 0, 1)) ∧ (decode cX10_readPart 13 = .ok (.getfield 196, 3)) ∧ (decode cX10_readPart 16 = .ok (.iaload, 1)) ∧ (decode cX10_readPart 17 = .ok (.istore_n 2, 1)) ∧ (decode cX10_readPart 18 = .ok (.iload_n 2, 1)) ∧ (decode cX10_readPart 19 = .ok (.bipush 91, 2)) ∧ (decode cX10_readPart 21 = .ok (.invokestatic 237, 3)) ∧ (decode cX10_readPart 24 = .ok (.if_icmp .ne 50, 3)) ∧ (decode cX10_readPart 27 = .ok (.iload_n 1, 1)) ∧ (decode cX10_readPart 28 = .ok (.bipush 8, 2)) := by decide +kernel
theorem dX10_readPart_0 : decode cX10_readPart 0 = .ok (.aload_n 0, 1) := da9_dX10_readPart_0.1
theorem dX10_readPart_1 : decode cX10_readPart 1 = .ok (.invokevirtual 192, 3) := da9_dX10_readPart_0.2.1
theorem dX10_readPart_4 : decode cX10_readPart 4 = .ok (.ifCond .ne 4, 3) := da9_dX10_readPart_0.2.2.1
theorem dX10_readPart_7 : decode cX10_readPart 7 = .ok (.return_, 1) := da9_dX10_readPart_0.2.2.2.1
theorem dX10_readPart_8 : decode cX10_readPart 8 = .ok (.aload_n 0, 1) := da9_dX10_readPart_0.2.2.2.2.1
theorem dX10_readPart_9 : decode cX10_readPart 9 = .ok (.getfield 54, 3) := da9_dX10_readPart_0.2.2.2.2.2.1
theorem dX10_readPart_12 : decode cX10_readPart 12 = .ok (.aload_n 0, 1) := da9_dX10_readPart_0.2.2.2.2.2.2.1
theorem dX10_readPart_13 : decode cX10_readPart 13 = .ok (.getfield 196, 3) := da9_dX10_readPart_0.2.2.2.2.2.2.2.1
theorem dX10_readPart_16 : decode cX10_readPart 16 = .ok (.iaload, 1) := da9_dX10_readPart_0.2.2.2.2.2.2.2.2.1
theorem dX10_readPart_17 : decode cX10_readPart 17 = .ok (.istore_n 2, 1) := da9_dX10_readPart_0.2.2.2.2.2.2.2.2.2.1
theorem dX10_readPart_18 : decode cX10_readPart 18 = .ok (.iload_n 2, 1) := da9_dX10_readPart_0.2.2.2.2.2.2.2.2.2.2.1
theorem dX10_readPart_19 : decode cX10_readPart 19 = .ok (.bipush 91, 2) := da9_dX10_readPart_0.2.2.2.2.2.2.2.2.2.2.2.1
theorem dX10_readPart_21 : decode cX10_readPart 21 = .ok (.invokestatic 237, 3) := da9_dX10_readPart_0.2.2.2.2.2.2.2.2.2.2.2.2.1
theorem dX10_readPart_24 : decode cX10_readPart 24 = .ok (.if_icmp .ne 50, 3) := da9_dX10_readPart_0.2.2.2.2.2.2.2.2.2.2.2.2.2.1
theorem dX10_readPart_27 : decode cX10_readPart 27 = .ok (.iload_n 1, 1) := da9_dX10_readPart_0.2.2.2.2.2.2.2.2.2.2.2.2.2.2.1
theorem dX10_readPart_28 : decode cX10_readPart 28 = .ok (.bipush 8, 2) := da9_dX10_readPart_0.2.2.2.2.2.2.2.2.2.2.2.2.2.2.2
theorem da9_dX10_readPart_30 : (decode cX10_readPart 30 = .ok (.if_icmp .ne 7, 3)) ∧ (decode cX10_readPart 33 = .ok (.aload_n 0, 1)) ∧ (decode cX10_readPart 34 = .ok (.invokevirtual 202, 3)) ∧ (decode cX10_readPart 37 = .ok (.aload_n 0, 1)) ∧ (decode cX10_readPart 38 = .ok (.invokevirtual 192, 3)) ∧ (decode cX10_readPart 41 = .ok (.ifCond .ne 4, 3)) ∧ (decode cX10_readPart 44 = .ok (.return_, 1)) ∧ (decode cX10_readPart 45 = .ok (.aload_n 0, 1)) ∧ (decode cX10_readPart 46 = .ok (.dup, 1)) ∧ (decode cX10_readPart 47 = .ok (.getfield 196, 3)) ∧ (decode cX10_readPart 50 = .ok (.iconst 1, 1)) ∧ (decode cX10_readPart 51 = .ok (.iadd, 1)) ∧ (decode cX10_readPart 52 = .ok (.putfield 196, 3)) ∧ (decode cX10_readPart 55 = .ok (.aload_n 0, 1)) ∧ (decode cX10_readPart 56 = .ok (.iload_n 1, 1)) ∧ (decode cX10_readPart 57 = .ok (.iconst 1, 1)) := by decide +kernel
theorem dX10_readPart_30 : decode cX10_readPart 30 = .ok (.if_icmp .ne 7, 3) := da9_dX10_readPart_30.1
theorem dX10_readPart_33 : decode cX10_readPart 33 = .ok (.aload_n 0, 1) := da9_dX10_readPart_30.2.1
theorem dX10_readPart_34 : decode cX10_readPart 34 = .ok (.invokevirtual 202, 3) := da9_dX10_readPart_30.2.2.1
theorem dX10_readPart_37 : decode cX10_readPart 37 = .ok (.aload_n 0, 1) := da9_dX10_readPart_30.2.2.2.1
theorem dX10_readPart_38 : decode cX10_readPart 38 = .ok (.invokevirtual 192, 3) := da9_dX10_readPart_30.2.2.2.2.1
theorem dX10_readPart_41 : decode cX10_readPart 41 = .ok (.ifCond .ne 4, 3) := da9_dX10_readPart_30.2.2.2.2.2.1
theorem dX10_readPart_44 : decode cX10_readPart 44 = .ok (.return_, 1) := da9_dX10_readPart_30.2.2.2.2.2.2.1
theorem dX10_readPart_45 : decode cX10_readPart 45 = .ok (.aload_n 0, 1) := da9_dX10_readPart_30.2.2.2.2.2.2.2.1
theorem dX10_readPart_46 : decode cX10_readPart 46 = .ok (.dup, 1) := da9_dX10_readPart_30.2.2.2.2.2.2.2.2.1
theorem dX10_readPart_47 : decode cX10_readPart 47 = .ok (.getfield 196, 3) := da9_dX10_readPart_30.2.2.2.2.2.2.2.2.2.1
theorem dX10_readPart_50 : decode cX10_readPart 50 = .ok (.iconst 1, 1) := da9_dX10_readPart_30.2.2.2.2.2.2.2.2.2.2.1
theorem dX10_readPart_51 : decode cX10_readPart 51 = .ok (.iadd, 1) := da9_dX10_readPart_30.2.2.2.2.2.2.2.2.2.2.2.1
theorem dX10_readPart_52 : decode cX10_readPart 52 = .ok (.putfield 196, 3) := da9_dX10_readPart_30.2.2.2.2.2.2.2.2.2.2.2.2.1
theorem dX10_readPart_55 : decode cX10_readPart 55 = .ok (.aload_n 0, 1) := da9_dX10_readPart_30.2.2.2.2.2.2.2.2.2.2.2.2.2.1
theorem dX10_readPart_56 : decode cX10_readPart 56 = .ok (.iload_n 1, 1) := da9_dX10_readPart_30.2.2.2.2.2.2.2.2.2.2.2.2.2.2.1
theorem dX10_readPart_57 : decode cX10_readPart 57 = .ok (.iconst 1, 1) := da9_dX10_readPart_30.2.2.2.2.2.2.2.2.2.2.2.2.2.2.2
theorem da9_dX10_readPart_58 : (decode cX10_readPart 58 = .ok (.iadd, 1)) ∧ (decode cX10_readPart 59 = .ok (.invokevirtual 208, 3)) ∧ (decode cX10_readPart 62 = .ok (.aload_n 0, 1)) ∧ (decode cX10_readPart 63 = .ok (.bipush 93, 2)) ∧ (decode cX10_readPart 65 = .ok (.invokestatic 237, 3)) ∧ (decode cX10_readPart 68 = .ok (.invokevirtual 212, 3)) ∧ (decode cX10_readPart 71 = .ok (.goto 76, 3)) ∧ (decode cX10_readPart 74 = .ok (.iload_n 2, 1)) ∧ (decode cX10_readPart 75 = .ok (.bipush 50, 2)) ∧ (decode cX10_readPart 77 = .ok (.if_icmp .ne 18, 3)) ∧ (decode cX10_readPart 80 = .ok (.aload_n 0, 1)) ∧ (decode cX10_readPart 81 = .ok (.getfield 57, 3)) ∧ (decode cX10_readPart 84 = .ok (.aload_n 0, 1)) ∧ (decode cX10_readPart 85 = .ok (.getfield 196, 3)) ∧ (decode cX10_readPart 88 = .ok (.iaload, 1)) ∧ (decode cX10_readPart 89 = .ok (.sipush 1000, 3)) := by decide +kernel
theorem dX10_readPart_58 : decode cX10_readPart 58 = .ok (.iadd, 1) := da9_dX10_readPart_58.1
theorem dX10_readPart_59 : decode cX10_readPart 59 = .ok (.invokevirtual 208, 3) := da9_dX10_readPart_58.2.1
theorem dX10_readPart_62 : decode cX10_readPart 62 = .ok (.aload_n 0, 1) := da9_dX10_readPart_58.2.2.1
theorem dX10_readPart_63 : decode cX10_readPart 63 = .ok (.bipush 93, 2) := da9_dX10_readPart_58.2.2.2.1
theorem dX10_readPart_65 : decode cX10_readPart 65 = .ok (.invokestatic 237, 3) := da9_dX10_readPart_58.2.2.2.2.1
theorem dX10_readPart_68 : decode cX10_readPart 68 = .ok (.invokevirtual 212, 3) := da9_dX10_readPart_58.2.2.2.2.2.1
theorem dX10_readPart_71 : decode cX10_readPart 71 = .ok (.goto 76, 3) := da9_dX10_readPart_58.2.2.2.2.2.2.1
theorem dX10_readPart_74 : decode cX10_readPart 74 = .ok (.iload_n 2, 1) := da9_dX10_readPart_58.2.2.2.2.2.2.2.1
theorem dX10_readPart_75 : decode cX10_readPart 75 = .ok (.bipush 50, 2) := da9_dX10_readPart_58.2.2.2.2.2.2.2.2.1
theorem dX10_readPart_77 : decode cX10_readPart 77 = .ok (.if_icmp .ne 18, 3) := da9_dX10_readPart_58.2.2.2.2.2.2.2.2.2.1
theorem dX10_readPart_80 : decode cX10_readPart 80 = .ok (.aload_n 0, 1) := da9_dX10_readPart_58.2.2.2.2.2.2.2.2.2.2.1
theorem dX10_readPart_81 : decode cX10_readPart 81 = .ok (.getfield 57, 3) := da9_dX10_readPart_58.2.2.2.2.2.2.2.2.2.2.2.1
theorem dX10_readPart_84 : decode cX10_readPart 84 = .ok (.aload_n 0, 1) := da9_dX10_readPart_58.2.2.2.2.2.2.2.2.2.2.2.2.1
theorem dX10_readPart_85 : decode cX10_readPart 85 = .ok (.getfield 196, 3) := da9_dX10_readPart_58.2.2.2.2.2.2.2.2.2.2.2.2.2.1
theorem dX10_readPart_88 : decode cX10_readPart 88 = .ok (.iaload, 1) := da9_dX10_readPart_58.2.2.2.2.2.2.2.2.2.2.2.2.2.2.1
theorem dX10_readPart_89 : decode cX10_readPart 89 = .ok (.sipush 1000, 3) := da9_dX10_readPart_58.2.2.2.2.2.2.2.2.2.2.2.2.2.2.2
theorem da9_dX10_readPart_92 : (decode cX10_readPart 92 = .ok (.if_icmp .le 19, 3)) ∧ (decode cX10_readPart 95 = .ok (.iload_n 2, 1)) ∧ (decode cX10_readPart 96 = .ok (.aload_n 0, 1)) ∧ (decode cX10_readPart 97 = .ok (.getfield 247, 3)) ∧ (decode cX10_readPart 100 = .ok (.if_icmp .lt 43, 3)) ∧ (decode cX10_readPart 103 = .ok (.iload_n 2, 1)) ∧ (decode cX10_readPart 104 = .ok (.aload_n 0, 1)) ∧ (decode cX10_readPart 105 = .ok (.getfield 250, 3)) ∧ (decode cX10_readPart 108 = .ok (.if_icmp .gt 35, 3)) ∧ (decode cX10_readPart 111 = .ok (.aload_n 0, 1)) ∧ (decode cX10_readPart 112 = .ok (.invokevirtual 253, 3)) ∧ (decode cX10_readPart 115 = .ok (.aload_n 0, 1)) ∧ (decode cX10_readPart 116 = .ok (.getfield 221, 3)) ∧ (decode cX10_readPart 119 = .ok (.ifCond .eq 28, 3)) ∧ (decode cX10_readPart 122 = .ok (.iload_n 2, 1)) ∧ (decode cX10_readPart 123 = .ok (.bipush 21, 2)) := by decide +kernel
theorem dX10_readPart_92 : decode cX10_readPart 92 = .ok (.if_icmp .le 19, 3) := da9_dX10_readPart_92.1
theorem dX10_readPart_95 : decode cX10_readPart 95 = .ok (.iload_n 2, 1) := da9_dX10_readPart_92.2.1
theorem dX10_readPart_96 : decode cX10_readPart 96 = .ok (.aload_n 0, 1) := da9_dX10_readPart_92.2.2.1
theorem dX10_readPart_97 : decode cX10_readPart 97 = .ok (.getfield 247, 3) := da9_dX10_readPart_92.2.2.2.1
theorem dX10_readPart_100 : decode cX10_readPart 100 = .ok (.if_icmp .lt 43, 3) := da9_dX10_readPart_92.2.2.2.2.1
theorem dX10_readPart_103 : decode cX10_readPart 103 = .ok (.iload_n 2, 1) := da9_dX10_readPart_92.2.2.2.2.2.1
theorem dX10_readPart_104 : decode cX10_readPart 104 = .ok (.aload_n 0, 1) := da9_dX10_readPart_92.2.2.2.2.2.2.1
theorem dX10_readPart_105 : decode cX10_readPart 105 = .ok (.getfield 250, 3) := da9_dX10_readPart_92.2.2.2.2.2.2.2.1
theorem dX10_readPart_108 : decode cX10_readPart 108 = .ok (.if_icmp .gt 35, 3) := da9_dX10_readPart_92.2.2.2.2.2.2.2.2.1
theorem dX10_readPart_111 : decode cX10_readPart 111 = .ok (.aload_n 0, 1) := da9_dX10_readPart_92.2.2.2.2.2.2.2.2.2.1
theorem dX10_readPart_112 : decode cX10_readPart 112 = .ok (.invokevirtual 253, 3) := da9_dX10_readPart_92.2.2.2.2.2.2.2.2.2.2.1
theorem dX10_readPart_115 : decode cX10_readPart 115 = .ok (.aload_n 0, 1) := da9_dX10_readPart_92.2.2.2.2.2.2.2.2.2.2.2.1
theorem dX10_readPart_116 : decode cX10_readPart 116 = .ok (.getfield 221, 3) := da9_dX10_readPart_92.2.2.2.2.2.2.2.2.2.2.2.2.1
theorem dX10_readPart_119 : decode cX10_readPart 119 = .ok (.ifCond .eq 28, 3) := da9_dX10_readPart_92.2.2.2.2.2.2.2.2.2.2.2.2.2.1
theorem dX10_readPart_122 : decode cX10_readPart 122 = .ok (.iload_n 2, 1) := da9_dX10_readPart_92.2.2.2.2.2.2.2.2.2.2.2.2.2.2.1
theorem dX10_readPart_123 : decode cX10_readPart 123 = .ok (.bipush 21, 2) := da9_dX10_readPart_92.2.2.2.2.2.2.2.2.2.2.2.2.2.2.2
theorem da9_dX10_readPart_125 : (decode cX10_readPart 125 = .ok (.if_icmp .eq 9, 3)) ∧ (decode cX10_readPart 128 = .ok (.iload_n 2, 1)) ∧ (decode cX10_readPart 129 = .ok (.bipush 15, 2)) ∧ (decode cX10_readPart 131 = .ok (.if_icmp .ne 16, 3)) ∧ (decode cX10_readPart 134 = .ok (.aload_n 0, 1)) ∧ (decode cX10_readPart 135 = .ok (.iconst 0, 1)) ∧ (decode cX10_readPart 136 = .ok (.iconst 5, 1)) ∧ (decode cX10_readPart 137 = .ok (.invokevirtual 218, 3)) ∧ (decode cX10_readPart 140 = .ok (.goto 7, 3)) ∧ (decode cX10_readPart 143 = .ok (.aload_n 0, 1)) ∧ (decode cX10_readPart 144 = .ok (.invokevirtual 202, 3)) ∧ (decode cX10_readPart 147 = .ok (.return_, 1)) := by decide +kernel
theorem dX10_readPart_125 : decode cX10_readPart 125 = .ok (.if_icmp .eq 9, 3) := da9_dX10_readPart_125.1
theorem dX10_readPart_128 : decode cX10_readPart 128 = .ok (.iload_n 2, 1) := da9_dX10_readPart_125.2.1
theorem dX10_readPart_129 : decode cX10_readPart 129 = .ok (.bipush 15, 2) := da9_dX10_readPart_125.2.2.1
theorem dX10_readPart_131 : decode cX10_readPart 131 = .ok (.if_icmp .ne 16, 3) := da9_dX10_readPart_125.2.2.2.1
theorem dX10_readPart_134 : decode cX10_readPart 134 = .ok (.aload_n 0, 1) := da9_dX10_readPart_125.2.2.2.2.1
theorem dX10_readPart_135 : decode cX10_readPart 135 = .ok (.iconst 0, 1) := da9_dX10_readPart_125.2.2.2.2.2.1
theorem dX10_readPart_136 : decode cX10_readPart 136 = .ok (.iconst 5, 1) := da9_dX10_readPart_125.2.2.2.2.2.2.1
theorem dX10_readPart_137 : decode cX10_readPart 137 = .ok (.invokevirtual 218, 3) := da9_dX10_readPart_125.2.2.2.2.2.2.2.1
theorem dX10_readPart_140 : decode cX10_readPart 140 = .ok (.goto 7, 3) := da9_dX10_readPart_125.2.2.2.2.2.2.2.2.1
theorem dX10_readPart_143 : decode cX10_readPart 143 = .ok (.aload_n 0, 1) := da9_dX10_readPart_125.2.2.2.2.2.2.2.2.2.1
theorem dX10_readPart_144 : decode cX10_readPart 144 = .ok (.invokevirtual 202, 3) := da9_dX10_readPart_125.2.2.2.2.2.2.2.2.2.2.1
theorem dX10_readPart_147 : decode cX10_readPart 147 = .ok (.return_, 1) := da9_dX10_readPart_125.2.2.2.2.2.2.2.2.2.2.2
end
section
theorem u9_wsX10_readPart_X10 : ∀ w ∈ u_ws RX10 TX10 56, w ∈ wsX10_readPart := fun w h => List.mem_cons_of_mem _ (vW10_wsX100 w h)
theorem f9_wsX10_readPart_119 : (Cond.fieldLink RX10 221 "TurnedFloorsModel" "isOrders" "Z") ∈ wsX10_readPart := List.mem_cons_of_mem _ mvW10_153
theorem f9_wsX10_readPart_120 : (Cond.fieldLink RX10 247 "TurnedFloorsModel" "firstWord" "I") ∈ wsX10_readPart := List.mem_cons_of_mem _ mvW10_154
theorem f9_wsX10_readPart_121 : (Cond.fieldLink RX10 250 "TurnedFloorsModel" "lastWord" "I") ∈ wsX10_readPart := List.mem_cons_of_mem _ mvW10_155
theorem f9_wsX10_readPart_122 : (Cond.fieldLink RX10 196 "TurnedFloorsModel" "token" "I") ∈ wsX10_readPart := List.mem_cons_of_mem _ mvW10_160
theorem u9_wsX10_readPlain_X10 : ∀ w ∈ u_ws RX10 TX10 56, w ∈ wsX10_readPlain := fun w h => List.mem_cons_of_mem _ (vW10_wsX100 w h)
theorem f9_wsX10_readPlain_124 : (Cond.fieldLink RX10 196 "TurnedFloorsModel" "token" "I") ∈ wsX10_readPlain := List.mem_cons_of_mem _ mvW10_160
theorem f9_wsX10_readPlain_125 : (Cond.fieldLink RX10 54 "TurnedFloorsModel" "code" "[I") ∈ wsX10_readPlain := List.mem_cons_of_mem _ mvW10_171
set_option maxHeartbeats 4000000 in
set_option maxRecDepth 100000 in
theorem WX10_readPart_147 {p : Program} {l : Launch} {e : Env} {s : State} {m : MethodId} {args : Array Value} {below : List Frame} {meth : Method} {c : Code} {D : va_G} {ty : Nat → ClassId} {eo : Nat → Nat} {A : Nat → Prop} {ad : Nat → Nat} {o2 : dS} {kS : dS → Int32 → Option (dS)} {nS : Nat} (hkS : ∀ (sz : Nat) (q : dS) (p1 : Int32) (o2 : dS), kS q p1 = some o2 → Met l yX10_readSum wsX10_readSum ({ frames := 12 + 3 * nS, cells := 0, slots := 0, locals := 400 + 64 * nS } : Room) (va_Pc [.ref (ad 0), .int p1] (kz_pre D ty eo (w10 ty ad q) sz)) (va_Qv (fun (u : va_W) => w10 ty ad o2 = u) (kz_B D ty (va_A (w10 ty ad q) sz)) (va_A (w10 ty ad q) sz)) 0 0 (va_A (w10 ty ad q) sz)) (C : dc_C p s m args meth c cX10_readPart none 3 RX10 wsX10_readPart D ty eo A)   (q : dS)  (H : Heap) (locs : List Loc) (ls : Array Slot) (h : zX10_readPart_147 kS  q = some o2) (hP : va_P D vwCl (w10 ty ad q) H) (hD : va_D A (w10 ty ad q)) (hS : va_S A s.heap H locs) (hl : lv_has ls 3 []) : W p l e ({ frames := 12 + 3 * nS + 1, cells := 0, slots := 0, locals := 400 + 64 * nS + 21 } : Room) s m args below meth c H locs 0 0 (MQ below (va_Qv (fun (u : va_W) => w10 ty ad o2 = u) (kz_B D ty A) A) args s 0 0 A) (F0 m 147 ls []) := by
  have C0 := C
  obtain ⟨hx, hb, hr, hts, hown, hlocks, hml, hK, hN, hE, hA⟩ := C
  unfold zX10_readPart_147 at h
  cases h
  exact kz_vret hx hb hr hlocks hP hK hD hS dX10_readPart_147 rfl
set_option maxHeartbeats 4000000 in
set_option maxRecDepth 100000 in
theorem WX10_readPart_143 {p : Program} {l : Launch} {e : Env} {s : State} {m : MethodId} {args : Array Value} {below : List Frame} {meth : Method} {c : Code} {D : va_G} {ty : Nat → ClassId} {eo : Nat → Nat} {A : Nat → Prop} {ad : Nat → Nat} {o2 : dS} {kS : dS → Int32 → Option (dS)} {nS : Nat} (hkS : ∀ (sz : Nat) (q : dS) (p1 : Int32) (o2 : dS), kS q p1 = some o2 → Met l yX10_readSum wsX10_readSum ({ frames := 12 + 3 * nS, cells := 0, slots := 0, locals := 400 + 64 * nS } : Room) (va_Pc [.ref (ad 0), .int p1] (kz_pre D ty eo (w10 ty ad q) sz)) (va_Qv (fun (u : va_W) => w10 ty ad o2 = u) (kz_B D ty (va_A (w10 ty ad q) sz)) (va_A (w10 ty ad q) sz)) 0 0 (va_A (w10 ty ad q) sz)) (C : dc_C p s m args meth c cX10_readPart none 3 RX10 wsX10_readPart D ty eo A)   (q : dS)  (H : Heap) (locs : List Loc) (ls : Array Slot) (h : zX10_readPart_143 kS  q = some o2) (hP : va_P D vwCl (w10 ty ad q) H) (hD : va_D A (w10 ty ad q)) (hS : va_S A s.heap H locs) (hl : lv_has ls 3 [(0, .ref (ad 0))]) : W p l e ({ frames := 12 + 3 * nS + 1, cells := 0, slots := 0, locals := 400 + 64 * nS + 21 } : Room) s m args below meth c H locs 0 0 (MQ below (va_Qv (fun (u : va_W) => w10 ty ad o2 = u) (kz_B D ty A) A) args s 0 0 A) (F0 m 143 ls []) := by
  have C0 := C
  obtain ⟨hx, hb, hr, hts, hown, hlocks, hml, hK, hN, hE, hA⟩ := C
  unfold zX10_readPart_143 at h
  refine lv_aload_n hx hb dX10_readPart_143 rfl (lv_at hl 0 rfl) ?_
  obtain ⟨q3, h2, h⟩ := dV_some h
  refine dw_kv (va_runV (As := []) (rest := []) ⟨hx, hb, hml, hown, hts⟩ (qX10_faults l D ty eo _ ad q  q3 h2) (cwV 0 hts gX10_readPart_X10_faults rfl rfl rfl hd_X10_faults_v ⟨by dsimp only [headSpec]; omega, by dsimp only [headSpec]; omega⟩) (pv10_10_0 hK hN hE hP hD hS hA) rfl rfl hl.1 rfl (lv_room (Nat.le_of_ble_eq_true rfl)) dX10_readPart_144 ⟨Nat.le_of_ble_eq_true rfl, Nat.le_of_ble_eq_true rfl⟩) hD hS hA (fun u9 H locs hw hp hd hs => ?_)
  clear hP hD hS
  obtain rfl := hw
  have hP := hp; have hD := hd; have hS := hs; clear hp hd hs
  exact WX10_readPart_147 hkS C0  _ _ _ _ h hP hD hS (lv_sub hl [] rfl)
set_option maxHeartbeats 4000000 in
set_option maxRecDepth 100000 in
theorem WX10_readPart_134 {p : Program} {l : Launch} {e : Env} {s : State} {m : MethodId} {args : Array Value} {below : List Frame} {meth : Method} {c : Code} {D : va_G} {ty : Nat → ClassId} {eo : Nat → Nat} {A : Nat → Prop} {ad : Nat → Nat} {o2 : dS} {kS : dS → Int32 → Option (dS)} {nS : Nat} (hkS : ∀ (sz : Nat) (q : dS) (p1 : Int32) (o2 : dS), kS q p1 = some o2 → Met l yX10_readSum wsX10_readSum ({ frames := 12 + 3 * nS, cells := 0, slots := 0, locals := 400 + 64 * nS } : Room) (va_Pc [.ref (ad 0), .int p1] (kz_pre D ty eo (w10 ty ad q) sz)) (va_Qv (fun (u : va_W) => w10 ty ad o2 = u) (kz_B D ty (va_A (w10 ty ad q) sz)) (va_A (w10 ty ad q) sz)) 0 0 (va_A (w10 ty ad q) sz)) (C : dc_C p s m args meth c cX10_readPart none 3 RX10 wsX10_readPart D ty eo A)   (q : dS)  (H : Heap) (locs : List Loc) (ls : Array Slot) (h : zX10_readPart_134 kS  q = some o2) (hP : va_P D vwCl (w10 ty ad q) H) (hD : va_D A (w10 ty ad q)) (hS : va_S A s.heap H locs) (hl : lv_has ls 3 [(0, .ref (ad 0))]) : W p l e ({ frames := 12 + 3 * nS + 1, cells := 0, slots := 0, locals := 400 + 64 * nS + 21 } : Room) s m args below meth c H locs 0 0 (MQ below (va_Qv (fun (u : va_W) => w10 ty ad o2 = u) (kz_B D ty A) A) args s 0 0 A) (F0 m 134 ls []) := by
  have C0 := C
  obtain ⟨hx, hb, hr, hts, hown, hlocks, hml, hK, hN, hE, hA⟩ := C
  unfold zX10_readPart_134 at h
  refine lv_aload_n hx hb dX10_readPart_134 rfl (lv_at hl 0 rfl) ?_
  refine lv_iconst (v := 0) hx hb dX10_readPart_135 (by decide) ?_
  refine lv_iconst (v := 5) hx hb dX10_readPart_136 (by decide) ?_
  obtain ⟨q3, h2, h⟩ := dV_some h
  refine dw_kv (va_runV (As := [.int 0, .int 5]) (rest := []) ⟨hx, hb, hml, hown, hts⟩ (qX10_mustNumber l D ty eo _ ad q 0 5 q3 h2) (cwV 2 hts gX10_readPart_X10_mustNumber rfl rfl rfl hd_X10_mustNumber_v ⟨by dsimp only [headSpec]; omega, by dsimp only [headSpec]; omega⟩) (pv10_10_0 hK hN hE hP hD hS hA) rfl rfl hl.1 rfl (lv_room (Nat.le_of_ble_eq_true rfl)) dX10_readPart_137 ⟨Nat.le_of_ble_eq_true rfl, Nat.le_of_ble_eq_true rfl⟩) hD hS hA (fun u9 H locs hw hp hd hs => ?_)
  clear hP hD hS
  obtain rfl := hw
  have hP := hp; have hD := hd; have hS := hs; clear hp hd hs
  refine lv_goto (tgt := 147) hx hb dX10_readPart_140 (by decide) ?_
  exact WX10_readPart_147 hkS C0  _ _ _ _ h hP hD hS (lv_sub hl [] rfl)
set_option maxHeartbeats 4000000 in
set_option maxRecDepth 100000 in
theorem WX10_readPart_111 {p : Program} {l : Launch} {e : Env} {s : State} {m : MethodId} {args : Array Value} {below : List Frame} {meth : Method} {c : Code} {D : va_G} {ty : Nat → ClassId} {eo : Nat → Nat} {A : Nat → Prop} {ad : Nat → Nat} {o2 : dS} {kS : dS → Int32 → Option (dS)} {nS : Nat} (hkS : ∀ (sz : Nat) (q : dS) (p1 : Int32) (o2 : dS), kS q p1 = some o2 → Met l yX10_readSum wsX10_readSum ({ frames := 12 + 3 * nS, cells := 0, slots := 0, locals := 400 + 64 * nS } : Room) (va_Pc [.ref (ad 0), .int p1] (kz_pre D ty eo (w10 ty ad q) sz)) (va_Qv (fun (u : va_W) => w10 ty ad o2 = u) (kz_B D ty (va_A (w10 ty ad q) sz)) (va_A (w10 ty ad q) sz)) 0 0 (va_A (w10 ty ad q) sz)) (C : dc_C p s m args meth c cX10_readPart none 3 RX10 wsX10_readPart D ty eo A)   (q : dS) (x2 : Int32) (H : Heap) (locs : List Loc) (ls : Array Slot) (h : zX10_readPart_111 kS  q x2 = some o2) (hP : va_P D vwCl (w10 ty ad q) H) (hD : va_D A (w10 ty ad q)) (hS : va_S A s.heap H locs) (hl : lv_has ls 3 [(0, .ref (ad 0)), (2, .int x2)]) : W p l e ({ frames := 12 + 3 * nS + 1, cells := 0, slots := 0, locals := 400 + 64 * nS + 21 } : Room) s m args below meth c H locs 0 0 (MQ below (va_Qv (fun (u : va_W) => w10 ty ad o2 = u) (kz_B D ty A) A) args s 0 0 A) (F0 m 111 ls []) := by
  have C0 := C
  obtain ⟨hx, hb, hr, hts, hown, hlocks, hml, hK, hN, hE, hA⟩ := C
  unfold zX10_readPart_111 at h
  refine lv_aload_n hx hb dX10_readPart_111 rfl (lv_at hl 0 rfl) ?_
  obtain ⟨q3, h2, h⟩ := dV_some h
  refine dw_kv (va_runV (As := []) (rest := []) ⟨hx, hb, hml, hown, hts⟩ (qX10_leaf l D ty eo _ ad q  q3 h2) (cwV 0 hts gX10_readPart_X10_leaf rfl rfl rfl hd_X10_leaf_v ⟨by dsimp only [headSpec]; omega, by dsimp only [headSpec]; omega⟩) (pv10_10_0 hK hN hE hP hD hS hA) rfl rfl hl.1 rfl (lv_room (Nat.le_of_ble_eq_true rfl)) dX10_readPart_112 ⟨Nat.le_of_ble_eq_true rfl, Nat.le_of_ble_eq_true rfl⟩) hD hS hA (fun u9 H locs hw hp hd hs => ?_)
  clear hP hD hS
  obtain rfl := hw
  have hP := hp; have hD := hd; have hS := hs; clear hp hd hs
  refine lv_aload_n hx hb dX10_readPart_115 rfl (lv_at hl 0 rfl) ?_
  refine va_get (D := D) (ci := 10) (v := .int (q3.1 0 10)) (C := RX10) (T := TX10) (N := 56) hx hb hts u9_wsX10_readPart_X10 hown hK hP 0 rfl rfl 10 (by decide) (hts (.fieldLink RX10 221 "TurnedFloorsModel" "isOrders" "Z") f9_wsX10_readPart_119) (fun _ h9 => h9) rfl dX10_readPart_116 ?_
  refine lv_if_eq (tgt := 147) hx hb dX10_readPart_119 (by decide) (fun c9 => ?_) (fun c9 => ?_)
  · rw [if_pos c9] at h
    exact WX10_readPart_147 hkS C0  _ _ _ _ h hP hD hS (lv_sub hl [] rfl)
  · rw [if_neg c9] at h
    refine lv_iload_n hx hb dX10_readPart_122 rfl (lv_at hl 1 rfl) ?_
    refine lv_bipush (v := 21) hx hb dX10_readPart_123 (by decide) ?_
    refine lv_icmp_eq (tgt := 134) hx hb dX10_readPart_125 (by decide) (fun c9 => ?_) (fun c9 => ?_)
    · rw [if_pos c9] at h
      exact WX10_readPart_134 hkS C0  _ _ _ _ h hP hD hS (lv_sub hl [0] rfl)
    · rw [if_neg c9] at h
      refine lv_iload_n hx hb dX10_readPart_128 rfl (lv_at hl 1 rfl) ?_
      refine lv_bipush (v := 15) hx hb dX10_readPart_129 (by decide) ?_
      refine lv_icmp_ne (tgt := 147) hx hb dX10_readPart_131 (by decide) (fun c9 => ?_) (fun c9 => ?_)
      · rw [if_neg c9] at h
        exact WX10_readPart_147 hkS C0  _ _ _ _ h hP hD hS (lv_sub hl [] rfl)
      · rw [if_pos c9] at h
        exact WX10_readPart_134 hkS C0  _ _ _ _ h hP hD hS (lv_sub hl [0] rfl)
set_option maxHeartbeats 4000000 in
set_option maxRecDepth 100000 in
theorem WX10_readPart_95 {p : Program} {l : Launch} {e : Env} {s : State} {m : MethodId} {args : Array Value} {below : List Frame} {meth : Method} {c : Code} {D : va_G} {ty : Nat → ClassId} {eo : Nat → Nat} {A : Nat → Prop} {ad : Nat → Nat} {o2 : dS} {kS : dS → Int32 → Option (dS)} {nS : Nat} (hkS : ∀ (sz : Nat) (q : dS) (p1 : Int32) (o2 : dS), kS q p1 = some o2 → Met l yX10_readSum wsX10_readSum ({ frames := 12 + 3 * nS, cells := 0, slots := 0, locals := 400 + 64 * nS } : Room) (va_Pc [.ref (ad 0), .int p1] (kz_pre D ty eo (w10 ty ad q) sz)) (va_Qv (fun (u : va_W) => w10 ty ad o2 = u) (kz_B D ty (va_A (w10 ty ad q) sz)) (va_A (w10 ty ad q) sz)) 0 0 (va_A (w10 ty ad q) sz)) (C : dc_C p s m args meth c cX10_readPart none 3 RX10 wsX10_readPart D ty eo A)   (q : dS) (x2 : Int32) (H : Heap) (locs : List Loc) (ls : Array Slot) (h : zX10_readPart_95 kS  q x2 = some o2) (hP : va_P D vwCl (w10 ty ad q) H) (hD : va_D A (w10 ty ad q)) (hS : va_S A s.heap H locs) (hl : lv_has ls 3 [(0, .ref (ad 0)), (2, .int x2)]) : W p l e ({ frames := 12 + 3 * nS + 1, cells := 0, slots := 0, locals := 400 + 64 * nS + 21 } : Room) s m args below meth c H locs 0 0 (MQ below (va_Qv (fun (u : va_W) => w10 ty ad o2 = u) (kz_B D ty A) A) args s 0 0 A) (F0 m 95 ls []) := by
  have C0 := C
  obtain ⟨hx, hb, hr, hts, hown, hlocks, hml, hK, hN, hE, hA⟩ := C
  unfold zX10_readPart_95 at h
  refine lv_iload_n hx hb dX10_readPart_95 rfl (lv_at hl 1 rfl) ?_
  refine lv_aload_n hx hb dX10_readPart_96 rfl (lv_at hl 0 rfl) ?_
  refine va_get (D := D) (ci := 10) (v := .int (q.1 0 8)) (C := RX10) (T := TX10) (N := 56) hx hb hts u9_wsX10_readPart_X10 hown hK hP 0 rfl rfl 8 (by decide) (hts (.fieldLink RX10 247 "TurnedFloorsModel" "firstWord" "I") f9_wsX10_readPart_120) (fun _ h9 => h9) rfl dX10_readPart_97 ?_
  refine lv_icmp_lt (tgt := 143) hx hb dX10_readPart_100 (by decide) (fun c9 => ?_) (fun c9 => ?_)
  · rw [if_pos c9] at h
    exact WX10_readPart_143 hkS C0  _ _ _ _ h hP hD hS (lv_sub hl [0] rfl)
  · rw [if_neg c9] at h
    refine lv_iload_n hx hb dX10_readPart_103 rfl (lv_at hl 1 rfl) ?_
    refine lv_aload_n hx hb dX10_readPart_104 rfl (lv_at hl 0 rfl) ?_
    refine va_get (D := D) (ci := 10) (v := .int (q.1 0 9)) (C := RX10) (T := TX10) (N := 56) hx hb hts u9_wsX10_readPart_X10 hown hK hP 0 rfl rfl 9 (by decide) (hts (.fieldLink RX10 250 "TurnedFloorsModel" "lastWord" "I") f9_wsX10_readPart_121) (fun _ h9 => h9) rfl dX10_readPart_105 ?_
    refine lv_icmp_gt (tgt := 143) hx hb dX10_readPart_108 (by decide) (fun c9 => ?_) (fun c9 => ?_)
    · rw [if_pos c9] at h
      exact WX10_readPart_143 hkS C0  _ _ _ _ h hP hD hS (lv_sub hl [0] rfl)
    · rw [if_neg c9] at h
      exact WX10_readPart_111 hkS C0  _ _ _ _ _ h hP hD hS (lv_sub hl [0, 1] rfl)
set_option maxHeartbeats 4000000 in
set_option maxRecDepth 100000 in
theorem WX10_readPart_37 {p : Program} {l : Launch} {e : Env} {s : State} {m : MethodId} {args : Array Value} {below : List Frame} {meth : Method} {c : Code} {D : va_G} {ty : Nat → ClassId} {eo : Nat → Nat} {A : Nat → Prop} {ad : Nat → Nat} {o2 : dS} {kS : dS → Int32 → Option (dS)} {nS : Nat} (hkS : ∀ (sz : Nat) (q : dS) (p1 : Int32) (o2 : dS), kS q p1 = some o2 → Met l yX10_readSum wsX10_readSum ({ frames := 12 + 3 * nS, cells := 0, slots := 0, locals := 400 + 64 * nS } : Room) (va_Pc [.ref (ad 0), .int p1] (kz_pre D ty eo (w10 ty ad q) sz)) (va_Qv (fun (u : va_W) => w10 ty ad o2 = u) (kz_B D ty (va_A (w10 ty ad q) sz)) (va_A (w10 ty ad q) sz)) 0 0 (va_A (w10 ty ad q) sz)) (C : dc_C p s m args meth c cX10_readPart none 3 RX10 wsX10_readPart D ty eo A)   (q : dS) (x1 : Int32) (H : Heap) (locs : List Loc) (ls : Array Slot) (h : zX10_readPart_37 kS  q x1 = some o2) (hP : va_P D vwCl (w10 ty ad q) H) (hD : va_D A (w10 ty ad q)) (hS : va_S A s.heap H locs) (hl : lv_has ls 3 [(0, .ref (ad 0)), (1, .int x1)]) : W p l e ({ frames := 12 + 3 * nS + 1, cells := 0, slots := 0, locals := 400 + 64 * nS + 21 } : Room) s m args below meth c H locs 0 0 (MQ below (va_Qv (fun (u : va_W) => w10 ty ad o2 = u) (kz_B D ty A) A) args s 0 0 A) (F0 m 37 ls []) := by
  have C0 := C
  obtain ⟨hx, hb, hr, hts, hown, hlocks, hml, hK, hN, hE, hA⟩ := C
  unfold zX10_readPart_37 at h
  refine lv_aload_n hx hb dX10_readPart_37 rfl (lv_at hl 0 rfl) ?_
  obtain ⟨r1, q3, h2, h⟩ := dB_some h
  refine dw_ki (va_runV (As := []) (rest := []) ⟨hx, hb, hml, hown, hts⟩ (qX10_fine l D ty eo _ ad q  r1 q3 h2) (cwV 0 hts gX10_readPart_X10_fine rfl rfl rfl hd_X10_fine_v ⟨by dsimp only [headSpec]; omega, by dsimp only [headSpec]; omega⟩) (pv10_10_0 hK hN hE hP hD hS hA) rfl rfl hl.1 rfl (lv_room (Nat.le_of_ble_eq_true rfl)) dX10_readPart_38 ⟨Nat.le_of_ble_eq_true rfl, Nat.le_of_ble_eq_true rfl⟩) hD hS hA (fun r9 u9 H locs hw hp hd hs => ?_)
  clear hP hD hS
  obtain ⟨rfl, rfl⟩ := hw
  have hP := hp; have hD := hd; have hS := hs; clear hp hd hs
  refine lv_if_ne (tgt := 45) hx hb dX10_readPart_41 (by decide) (fun c9 => ?_) (fun c9 => ?_)
  · rw [if_neg c9] at h
    refine lv_aload_n hx hb dX10_readPart_45 rfl (lv_at hl 0 rfl) ?_
    refine lv_dup hx hb dX10_readPart_46 rfl ?_
    refine va_get (D := D) (ci := 10) (v := .int (q3.1 0 19)) (C := RX10) (T := TX10) (N := 56) hx hb hts u9_wsX10_readPart_X10 hown hK hP 0 rfl rfl 19 (by decide) (hts (.fieldLink RX10 196 "TurnedFloorsModel" "token" "I") f9_wsX10_readPart_122) (fun _ h9 => h9) rfl dX10_readPart_47 ?_
    refine lv_iconst (v := 1) hx hb dX10_readPart_50 (by decide) ?_
    refine lv_iadd hx hb dX10_readPart_51 ?_
    refine va_put (D := D) (ci := 10) (v := .int ((q3.1 0 19) + 1 : Int32)) (ty := .int) (C := RX10) (T := TX10) (N := 56) hx hb hts u9_wsX10_readPart_X10 tyX10 tyX10_ok nmX10 hown hK hP hD hS 0 rfl rfl 19 (by decide) (hts (.fieldLink RX10 196 "TurnedFloorsModel" "token" "I") f9_wsX10_readPart_122) (fun _ h9 => h9) rfl (by decide +kernel) rfl rfl (Nat.le_of_ble_eq_true rfl) dX10_readPart_52 (fun H locs hp hd hs => ?_)
    obtain ⟨q4, eq4, h⟩ := dL_some h
    refine kz_re (w2 := w10 ty ad q4) hp hd hs (by rw [← eq4]; exact w10_f19 ty ad q3 ((q3.1 0 19) + 1 : Int32)) ?_
    clear hp hd hs hP hD hS
    intro hP hD hS
    refine lv_aload_n hx hb dX10_readPart_55 rfl (lv_at hl 0 rfl) ?_
    refine lv_iload_n hx hb dX10_readPart_56 rfl (lv_at hl 1 rfl) ?_
    refine lv_iconst (v := 1) hx hb dX10_readPart_57 (by decide) ?_
    refine lv_iadd hx hb dX10_readPart_58 ?_
    obtain ⟨q7, h6, h⟩ := dV_some h
    refine dw_kv (va_runV (As := [.int (x1 + 1 : Int32)]) (rest := []) ⟨hx, hb, hml, hown, hts⟩ (hkS _ q4 (x1 + 1 : Int32) q7 h6) (cwV 1 hts gX10_readPart_X10_readSum rfl rfl rfl hd_X10_readSum_v ⟨by dsimp only [headSpec]; omega, by dsimp only [headSpec]; omega⟩) (pv10_10_0 hK hN hE hP hD hS hA) rfl rfl hl.1 rfl (lv_room (Nat.le_of_ble_eq_true rfl)) dX10_readPart_59 ⟨Nat.le_of_ble_eq_true rfl, Nat.le_of_ble_eq_true rfl⟩) hD hS hA (fun u9 H locs hw hp hd hs => ?_)
    clear hP hD hS
    obtain rfl := hw
    have hP := hp; have hD := hd; have hS := hs; clear hp hd hs
    refine lv_aload_n hx hb dX10_readPart_62 rfl (lv_at hl 0 rfl) ?_
    refine lv_bipush (v := 93) hx hb dX10_readPart_63 (by decide) ?_
    obtain ⟨r8, h9, h⟩ := dV_some h
    refine dw_ks (va_runS (As := [.int 93]) (rest := [.ref (ad 0)]) ⟨hx, hb, hml, hown, hts⟩ (qX10_sign l D ty eo _ 93 _ h9) (va_cwS 1 hts gX10_readPart_X10_sign rfl rfl rfl hd_X10_sign ⟨by dsimp only [headSpec]; omega, by dsimp only [headSpec]; omega⟩) (pvS_0 hK hN hE hP hD hS hA) rfl rfl hl.1 rfl (lv_room (Nat.le_of_ble_eq_true rfl)) dX10_readPart_65 ⟨Nat.le_of_ble_eq_true rfl, Nat.le_of_ble_eq_true rfl⟩) hP hD hS hA (fun _ _ h9 => h9.2.symm) (fun r9 u9 H locs hw hp hd hs => ?_)
    obtain ⟨rfl, -⟩ := hw
    clear hP hD hS
    have hP := hp; have hD := hd; have hS := hs; clear hp hd hs
    obtain ⟨q12, h11, h⟩ := dV_some h
    refine dw_kv (va_runV (As := [.int r8]) (rest := []) ⟨hx, hb, hml, hown, hts⟩ (qX10_must l D ty eo _ ad q7 r8 q12 h11) (cwV 1 hts gX10_readPart_X10_must rfl rfl rfl hd_X10_must_v ⟨by dsimp only [headSpec]; omega, by dsimp only [headSpec]; omega⟩) (pv10_10_0 hK hN hE hP hD hS hA) rfl rfl hl.1 rfl (lv_room (Nat.le_of_ble_eq_true rfl)) dX10_readPart_68 ⟨Nat.le_of_ble_eq_true rfl, Nat.le_of_ble_eq_true rfl⟩) hD hS hA (fun u9 H locs hw hp hd hs => ?_)
    clear hP hD hS
    obtain rfl := hw
    have hP := hp; have hD := hd; have hS := hs; clear hp hd hs
    refine lv_goto (tgt := 147) hx hb dX10_readPart_71 (by decide) ?_
    exact WX10_readPart_147 hkS C0  _ _ _ _ h hP hD hS (lv_sub hl [] rfl)
  · rw [if_pos c9] at h
    cases h
    exact kz_vret hx hb hr hlocks hP hK hD hS dX10_readPart_44 rfl
set_option maxHeartbeats 4000000 in
set_option maxRecDepth 100000 in
theorem qX10_readPart (l : Launch) (D : va_G) (ty : Nat → ClassId) (eo : Nat → Nat) (sz : Nat) (ad : Nat → Nat) (kS : dS → Int32 → Option (dS)) (nS : Nat) (hkS : ∀ (sz : Nat) (q : dS) (p1 : Int32) (o2 : dS), kS q p1 = some o2 → Met l yX10_readSum wsX10_readSum ({ frames := 12 + 3 * nS, cells := 0, slots := 0, locals := 400 + 64 * nS } : Room) (va_Pc [.ref (ad 0), .int p1] (kz_pre D ty eo (w10 ty ad q) sz)) (va_Qv (fun (u : va_W) => w10 ty ad o2 = u) (kz_B D ty (va_A (w10 ty ad q) sz)) (va_A (w10 ty ad q) sz)) 0 0 (va_A (w10 ty ad q) sz)) (q : dS) (p1 : Int32) (o2 : dS) (h : zX10_readPart kS q p1 = some o2) : Met l yX10_readPart wsX10_readPart ({ frames := 12 + 3 * nS + 1, cells := 0, slots := 0, locals := 400 + 64 * nS + 21 } : Room) (va_Pc [.ref (ad 0), .int p1] (kz_pre D ty eo (w10 ty ad q) sz)) (va_Qv (fun (u : va_W) => w10 ty ad o2 = u) (kz_B D ty (va_A (w10 ty ad q) sz)) (va_A (w10 ty ad q) sz)) 0 0 (va_A (w10 ty ad q) sz) := by
  refine Met.ofW (cc := cX10_readPart) (maxL := 3) (ret := none) (by decide) rfl ?_
  intro p e s m args below meth c s₁ B hml hv
  obtain ⟨rfl, hsz, hP, hK, hD0, hN, hE⟩ := hv
  have hx := B.exec
  have hb := B.bytes
  have hr := B.returns
  have hts := atoms_spec (ws := wsX10_readPart) B.pre
  have hown : s.vm.findClass RX10 = some m.cls := findClass_of_methodNamed B.named
  have hlocks := B.notSynchronized
  subst hsz
  have hD := hD0.self (sz := s.heap.size)
  generalize hAe : va_A (w10 ty ad q) s.heap.size = A at hD hE ⊢
  have hA : ∀ q : Nat, s.heap.size ≤ q → A q := fun q h => by rw [← hAe]; exact Or.inr h
  clear hAe
  have hS : va_S A s.heap s.heap [] := va_S.rf
  have hl := lv_entry ([.ref (ad 0), .int p1]) (n := 3) (Nat.le_of_ble_eq_true rfl)
  rw [lg_entry_eq]
  generalize (lg_sl ([.ref (ad 0), .int p1]) ++ List.replicate (3 - (lg_sl ([.ref (ad 0), .int p1])).length) Slot.unset).toArray = ls at hl ⊢
  have hl : lv_has ls 3 [(0, .ref (ad 0)), (1, .int p1)] := hl
  have C : dc_C p s m _ meth c cX10_readPart none 3 RX10 wsX10_readPart D ty eo A := ⟨hx, hb, hr, hts, hown, hlocks, hml, hK, hN, hE, hA⟩
  unfold zX10_readPart at h
  refine lv_aload_n hx hb dX10_readPart_0 rfl (lv_at hl 0 rfl) ?_
  obtain ⟨r1, q3, h2, h⟩ := dB_some h
  refine dw_ki (va_runV (As := []) (rest := []) ⟨hx, hb, hml, hown, hts⟩ (qX10_fine l D ty eo _ ad q  r1 q3 h2) (cwV 0 hts gX10_readPart_X10_fine rfl rfl rfl hd_X10_fine_v ⟨by dsimp only [headSpec]; omega, by dsimp only [headSpec]; omega⟩) (pv10_10_0 hK hN hE hP hD hS hA) rfl rfl hl.1 rfl (lv_room (Nat.le_of_ble_eq_true rfl)) dX10_readPart_1 ⟨Nat.le_of_ble_eq_true rfl, Nat.le_of_ble_eq_true rfl⟩) hD hS hA (fun r9 u9 H locs hw hp hd hs => ?_)
  clear hP hD hS
  obtain ⟨rfl, rfl⟩ := hw
  have hP := hp; have hD := hd; have hS := hs; clear hp hd hs
  refine lv_if_ne (tgt := 8) hx hb dX10_readPart_4 (by decide) (fun c9 => ?_) (fun c9 => ?_)
  · rw [if_neg c9] at h
    refine lv_aload_n hx hb dX10_readPart_8 rfl (lv_at hl 0 rfl) ?_
    refine va_get (D := D) (ci := 10) (v := .ref (ad 9)) (C := RX10) (T := TX10) (N := 56) hx hb hts (by decide +kernel) hown hK hP 0 rfl rfl 15 (by decide) (hts (.fieldLink RX10 54 "TurnedFloorsModel" "code" "[I") (by decide +kernel)) (fun _ h9 => h9) rfl dX10_readPart_9 ?_
    refine lv_aload_n hx hb dX10_readPart_12 rfl (lv_at hl 0 rfl) ?_
    refine va_get (D := D) (ci := 10) (v := .int (q3.1 0 19)) (C := RX10) (T := TX10) (N := 56) hx hb hts (by decide +kernel) hown hK hP 0 rfl rfl 19 (by decide) (hts (.fieldLink RX10 196 "TurnedFloorsModel" "token" "I") (by decide +kernel)) (fun _ h9 => h9) rfl dX10_readPart_13 ?_
    obtain ⟨g4, h⟩ := dG_some h
    refine va_iald hx hb hK hP 9 0 rfl rfl (dg_in g4) dX10_readPart_16 ?_
    obtain ⟨v5, ev5, h⟩ := dL_some h
    refine kz_topi v5 ev5 ?_
    refine lv_istore_n (lv' := [(2, .int v5), (0, .ref (ad 0)), (1, .int p1)]) hx hb dX10_readPart_17 rfl hl (by decide) rfl (fun ls hl => ?_)
    refine lv_iload_n hx hb dX10_readPart_18 rfl (lv_at hl 0 rfl) ?_
    refine lv_bipush (v := 91) hx hb dX10_readPart_19 (by decide) ?_
    obtain ⟨r6, h7, h⟩ := dV_some h
    refine dw_ks (va_runS (As := [.int 91]) (rest := [.int v5]) ⟨hx, hb, hml, hown, hts⟩ (qX10_sign l D ty eo _ 91 _ h7) (va_cwS 1 hts gX10_readPart_X10_sign rfl rfl rfl hd_X10_sign ⟨by dsimp only [headSpec]; omega, by dsimp only [headSpec]; omega⟩) (pvS_0 hK hN hE hP hD hS hA) rfl rfl hl.1 rfl (lv_room (Nat.le_of_ble_eq_true rfl)) dX10_readPart_21 ⟨Nat.le_of_ble_eq_true rfl, Nat.le_of_ble_eq_true rfl⟩) hP hD hS hA (fun _ _ h9 => h9.2.symm) (fun r9 u9 H locs hw hp hd hs => ?_)
    obtain ⟨rfl, -⟩ := hw
    clear hP hD hS
    have hP := hp; have hD := hd; have hS := hs; clear hp hd hs
    refine lv_icmp_ne (tgt := 74) hx hb dX10_readPart_24 (by decide) (fun c9 => ?_) (fun c9 => ?_)
    · rw [if_neg c9] at h
      refine lv_iload_n hx hb dX10_readPart_74 rfl (lv_at hl 0 rfl) ?_
      refine lv_bipush (v := 50) hx hb dX10_readPart_75 (by decide) ?_
      refine lv_icmp_ne (tgt := 95) hx hb dX10_readPart_77 (by decide) (fun c9 => ?_) (fun c9 => ?_)
      · rw [if_neg c9] at h
        exact WX10_readPart_95 hkS C  _ _ _ _ _ h hP hD hS (lv_sub hl [1, 0] rfl)
      · rw [if_pos c9] at h
        refine lv_aload_n hx hb dX10_readPart_80 rfl (lv_at hl 1 rfl) ?_
        refine va_get (D := D) (ci := 10) (v := .ref (ad 10)) (C := RX10) (T := TX10) (N := 56) hx hb hts (by decide +kernel) hown hK hP 0 rfl rfl 16 (by decide) (hts (.fieldLink RX10 57 "TurnedFloorsModel" "value" "[I") (by decide +kernel)) (fun _ h9 => h9) rfl dX10_readPart_81 ?_
        refine lv_aload_n hx hb dX10_readPart_84 rfl (lv_at hl 1 rfl) ?_
        refine va_get (D := D) (ci := 10) (v := .int (q3.1 0 19)) (C := RX10) (T := TX10) (N := 56) hx hb hts (by decide +kernel) hown hK hP 0 rfl rfl 19 (by decide) (hts (.fieldLink RX10 196 "TurnedFloorsModel" "token" "I") (by decide +kernel)) (fun _ h9 => h9) rfl dX10_readPart_85 ?_
        obtain ⟨g8, h⟩ := dG_some h
        refine va_iald hx hb hK hP 10 0 rfl rfl (dg_in g8) dX10_readPart_88 ?_
        obtain ⟨v9, ev9, h⟩ := dL_some h
        refine kz_topi v9 ev9 ?_
        refine lv_sipush (v := 1000) hx hb dX10_readPart_89 (by decide) ?_
        refine lv_icmp_le (tgt := 111) hx hb dX10_readPart_92 (by decide) (fun c9 => ?_) (fun c9 => ?_)
        · rw [if_pos c9] at h
          exact WX10_readPart_111 hkS C  _ _ _ _ _ h hP hD hS (lv_sub hl [1, 0] rfl)
        · rw [if_neg c9] at h
          exact WX10_readPart_95 hkS C  _ _ _ _ _ h hP hD hS (lv_sub hl [1, 0] rfl)
    · rw [if_pos c9] at h
      refine lv_iload_n hx hb dX10_readPart_27 rfl (lv_at hl 2 rfl) ?_
      refine lv_bipush (v := 8) hx hb dX10_readPart_28 (by decide) ?_
      refine lv_icmp_ne (tgt := 37) hx hb dX10_readPart_30 (by decide) (fun c9 => ?_) (fun c9 => ?_)
      · rw [if_neg c9] at h
        exact WX10_readPart_37 hkS C  _ _ _ _ _ h hP hD hS (lv_sub hl [1, 2] rfl)
      · rw [if_pos c9] at h
        refine lv_aload_n hx hb dX10_readPart_33 rfl (lv_at hl 1 rfl) ?_
        obtain ⟨q12, h11, h⟩ := dV_some h
        refine dw_kv (va_runV (As := []) (rest := []) ⟨hx, hb, hml, hown, hts⟩ (qX10_faults l D ty eo _ ad q3  q12 h11) (cwV 0 hts gX10_readPart_X10_faults rfl rfl rfl hd_X10_faults_v ⟨by dsimp only [headSpec]; omega, by dsimp only [headSpec]; omega⟩) (pv10_10_0 hK hN hE hP hD hS hA) rfl rfl hl.1 rfl (lv_room (Nat.le_of_ble_eq_true rfl)) dX10_readPart_34 ⟨Nat.le_of_ble_eq_true rfl, Nat.le_of_ble_eq_true rfl⟩) hD hS hA (fun u9 H locs hw hp hd hs => ?_)
        clear hP hD hS
        obtain rfl := hw
        have hP := hp; have hD := hd; have hS := hs; clear hp hd hs
        exact WX10_readPart_37 hkS C  _ _ _ _ _ h hP hD hS (lv_sub hl [1, 2] rfl)
  · rw [if_pos c9] at h
    cases h
    exact kz_vret hx hb hr hlocks hP hK hD hS dX10_readPart_7 rfl

set_option maxHeartbeats 4000000 in
set_option maxRecDepth 100000 in
theorem WX10_readTerm_41 {p : Program} {l : Launch} {e : Env} {s : State} {m : MethodId} {args : Array Value} {below : List Frame} {meth : Method} {c : Code} {D : va_G} {ty : Nat → ClassId} {eo : Nat → Nat} {A : Nat → Prop} {ad : Nat → Nat} {o2 : dS} {kS : dS → Int32 → Option (dS)} {nS : Nat} (hkS : ∀ (sz : Nat) (q : dS) (p1 : Int32) (o2 : dS), kS q p1 = some o2 → Met l yX10_readSum wsX10_readSum ({ frames := 12 + 3 * nS, cells := 0, slots := 0, locals := 400 + 64 * nS } : Room) (va_Pc [.ref (ad 0), .int p1] (kz_pre D ty eo (w10 ty ad q) sz)) (va_Qv (fun (u : va_W) => w10 ty ad o2 = u) (kz_B D ty (va_A (w10 ty ad q) sz)) (va_A (w10 ty ad q) sz)) 0 0 (va_A (w10 ty ad q) sz)) (C : dc_C p s m args meth c cX10_readTerm none 2 RX10 wsX10_readTerm D ty eo A) {k5 : dS → Int32 → Option (dS)} (hk5 : ∀ (q : dS) (x1 : Int32) (H : Heap) (locs : List Loc) (ls : Array Slot), k5 q x1 = some o2 → va_P D vwCl (w10 ty ad q) H → va_D A (w10 ty ad q) → va_S A s.heap H locs → lv_has ls 2 [(0, .ref (ad 0)), (1, .int x1)] → W p l e ({ frames := 12 + 3 * nS + 2, cells := 0, slots := 0, locals := 400 + 64 * nS + 43 } : Room) s m args below meth c H locs 0 0 (MQ below (va_Qv (fun (u : va_W) => w10 ty ad o2 = u) (kz_B D ty A) A) args s 0 0 A) (F0 m 5 ls [])) (q : dS) (x1 : Int32) (H : Heap) (locs : List Loc) (ls : Array Slot) (h : zX10_readTerm_41 kS k5 q x1 = some o2) (hP : va_P D vwCl (w10 ty ad q) H) (hD : va_D A (w10 ty ad q)) (hS : va_S A s.heap H locs) (hl : lv_has ls 2 [(0, .ref (ad 0)), (1, .int x1)]) : W p l e ({ frames := 12 + 3 * nS + 2, cells := 0, slots := 0, locals := 400 + 64 * nS + 43 } : Room) s m args below meth c H locs 0 0 (MQ below (va_Qv (fun (u : va_W) => w10 ty ad o2 = u) (kz_B D ty A) A) args s 0 0 A) (F0 m 41 ls []) := by
  have C0 := C
  obtain ⟨hx, hb, hr, hts, hown, hlocks, hml, hK, hN, hE, hA⟩ := C
  unfold zX10_readTerm_41 at h
  refine lv_aload_n hx hb dX10_readTerm_41 rfl (lv_at hl 0 rfl) ?_
  refine lv_iload_n hx hb dX10_readTerm_42 rfl (lv_at hl 1 rfl) ?_
  obtain ⟨q3, h2, h⟩ := dV_some h
  refine dw_kv (va_runV (As := [.int x1]) (rest := []) ⟨hx, hb, hml, hown, hts⟩ (qX10_readPart l D ty eo _ ad kS nS hkS q x1 q3 h2) (cwV 1 hts gX10_readTerm_X10_readPart rfl rfl rfl hd_X10_readPart_v ⟨by dsimp only [headSpec]; omega, by dsimp only [headSpec]; omega⟩) (pv10_10_0 hK hN hE hP hD hS hA) rfl rfl hl.1 rfl (lv_room (Nat.le_of_ble_eq_true rfl)) dX10_readTerm_43 ⟨Nat.le_of_ble_eq_true rfl, Nat.le_of_ble_eq_true rfl⟩) hD hS hA (fun u9 H locs hw hp hd hs => ?_)
  clear hP hD hS
  obtain rfl := hw
  have hP := hp; have hD := hd; have hS := hs; clear hp hd hs
  refine lv_goto (tgt := 5) hx hb dX10_readTerm_46 (by decide) ?_
  exact hk5 _ _ _ _ _ h hP hD hS (lv_sub hl [0, 1] rfl)
set_option maxHeartbeats 4000000 in
set_option maxRecDepth 100000 in
theorem WX10_readTerm_5b {p : Program} {l : Launch} {e : Env} {s : State} {m : MethodId} {args : Array Value} {below : List Frame} {meth : Method} {c : Code} {D : va_G} {ty : Nat → ClassId} {eo : Nat → Nat} {A : Nat → Prop} {ad : Nat → Nat} {o2 : dS} {kS : dS → Int32 → Option (dS)} {nS : Nat} (hkS : ∀ (sz : Nat) (q : dS) (p1 : Int32) (o2 : dS), kS q p1 = some o2 → Met l yX10_readSum wsX10_readSum ({ frames := 12 + 3 * nS, cells := 0, slots := 0, locals := 400 + 64 * nS } : Room) (va_Pc [.ref (ad 0), .int p1] (kz_pre D ty eo (w10 ty ad q) sz)) (va_Qv (fun (u : va_W) => w10 ty ad o2 = u) (kz_B D ty (va_A (w10 ty ad q) sz)) (va_A (w10 ty ad q) sz)) 0 0 (va_A (w10 ty ad q) sz)) (C : dc_C p s m args meth c cX10_readTerm none 2 RX10 wsX10_readTerm D ty eo A) {k5 : dS → Int32 → Option (dS)} (hk5 : ∀ (q : dS) (x1 : Int32) (H : Heap) (locs : List Loc) (ls : Array Slot), k5 q x1 = some o2 → va_P D vwCl (w10 ty ad q) H → va_D A (w10 ty ad q) → va_S A s.heap H locs → lv_has ls 2 [(0, .ref (ad 0)), (1, .int x1)] → W p l e ({ frames := 12 + 3 * nS + 2, cells := 0, slots := 0, locals := 400 + 64 * nS + 43 } : Room) s m args below meth c H locs 0 0 (MQ below (va_Qv (fun (u : va_W) => w10 ty ad o2 = u) (kz_B D ty A) A) args s 0 0 A) (F0 m 5 ls [])) (q : dS) (x1 : Int32) (H : Heap) (locs : List Loc) (ls : Array Slot) (h : zX10_readTerm_5b kS k5 q x1 = some o2) (hP : va_P D vwCl (w10 ty ad q) H) (hD : va_D A (w10 ty ad q)) (hS : va_S A s.heap H locs) (hl : lv_has ls 2 [(0, .ref (ad 0)), (1, .int x1)]) : W p l e ({ frames := 12 + 3 * nS + 2, cells := 0, slots := 0, locals := 400 + 64 * nS + 43 } : Room) s m args below meth c H locs 0 0 (MQ below (va_Qv (fun (u : va_W) => w10 ty ad o2 = u) (kz_B D ty A) A) args s 0 0 A) (F0 m 5 ls []) := by
  have C0 := C
  obtain ⟨hx, hb, hr, hts, hown, hlocks, hml, hK, hN, hE, hA⟩ := C
  unfold zX10_readTerm_5b at h
  refine lv_aload_n hx hb dX10_readTerm_5 rfl (lv_at hl 0 rfl) ?_
  refine lv_bipush (v := 42) hx hb dX10_readTerm_6 (by decide) ?_
  obtain ⟨r1, h2, h⟩ := dV_some h
  refine dw_ks (va_runS (As := [.int 42]) (rest := [.ref (ad 0)]) ⟨hx, hb, hml, hown, hts⟩ (qX10_sign l D ty eo _ 42 _ h2) (va_cwS 1 hts gX10_readTerm_X10_sign rfl rfl rfl hd_X10_sign ⟨by dsimp only [headSpec]; omega, by dsimp only [headSpec]; omega⟩) (pvS_0 hK hN hE hP hD hS hA) rfl rfl hl.1 rfl (lv_room (Nat.le_of_ble_eq_true rfl)) dX10_readTerm_8 ⟨Nat.le_of_ble_eq_true rfl, Nat.le_of_ble_eq_true rfl⟩) hP hD hS hA (fun _ _ h9 => h9.2.symm) (fun r9 u9 H locs hw hp hd hs => ?_)
  obtain ⟨rfl, -⟩ := hw
  clear hP hD hS
  have hP := hp; have hD := hd; have hS := hs; clear hp hd hs
  obtain ⟨r3, q5, h4, h⟩ := dB_some h
  refine dw_ki (va_runV (As := [.int r1]) (rest := []) ⟨hx, hb, hml, hown, hts⟩ (qX10_takes0 l D ty eo _ ad q r1 r3 q5 h4) (cwV 1 hts gX10_readTerm_X10_takes0 rfl rfl rfl hd_X10_takes0_v ⟨by dsimp only [headSpec]; omega, by dsimp only [headSpec]; omega⟩) (pv10_10_0 hK hN hE hP hD hS hA) rfl rfl hl.1 rfl (lv_room (Nat.le_of_ble_eq_true rfl)) dX10_readTerm_11 ⟨Nat.le_of_ble_eq_true rfl, Nat.le_of_ble_eq_true rfl⟩) hD hS hA (fun r9 u9 H locs hw hp hd hs => ?_)
  clear hP hD hS
  obtain ⟨rfl, rfl⟩ := hw
  have hP := hp; have hD := hd; have hS := hs; clear hp hd hs
  refine lv_if_ne (tgt := 41) hx hb dX10_readTerm_14 (by decide) (fun c9 => ?_) (fun c9 => ?_)
  · rw [if_neg c9] at h
    exact WX10_readTerm_41 hkS C0 hk5 _ _ _ _ _ h hP hD hS (lv_sub hl [0, 1] rfl)
  · rw [if_pos c9] at h
    refine lv_aload_n hx hb dX10_readTerm_17 rfl (lv_at hl 0 rfl) ?_
    refine lv_bipush (v := 47) hx hb dX10_readTerm_18 (by decide) ?_
    obtain ⟨r6, h7, h⟩ := dV_some h
    refine dw_ks (va_runS (As := [.int 47]) (rest := [.ref (ad 0)]) ⟨hx, hb, hml, hown, hts⟩ (qX10_sign l D ty eo _ 47 _ h7) (va_cwS 1 hts gX10_readTerm_X10_sign rfl rfl rfl hd_X10_sign ⟨by dsimp only [headSpec]; omega, by dsimp only [headSpec]; omega⟩) (pvS_0 hK hN hE hP hD hS hA) rfl rfl hl.1 rfl (lv_room (Nat.le_of_ble_eq_true rfl)) dX10_readTerm_20 ⟨Nat.le_of_ble_eq_true rfl, Nat.le_of_ble_eq_true rfl⟩) hP hD hS hA (fun _ _ h9 => h9.2.symm) (fun r9 u9 H locs hw hp hd hs => ?_)
    obtain ⟨rfl, -⟩ := hw
    clear hP hD hS
    have hP := hp; have hD := hd; have hS := hs; clear hp hd hs
    obtain ⟨r8, q10, h9, h⟩ := dB_some h
    refine dw_ki (va_runV (As := [.int r6]) (rest := []) ⟨hx, hb, hml, hown, hts⟩ (qX10_takes0 l D ty eo _ ad q5 r6 r8 q10 h9) (cwV 1 hts gX10_readTerm_X10_takes0 rfl rfl rfl hd_X10_takes0_v ⟨by dsimp only [headSpec]; omega, by dsimp only [headSpec]; omega⟩) (pv10_10_0 hK hN hE hP hD hS hA) rfl rfl hl.1 rfl (lv_room (Nat.le_of_ble_eq_true rfl)) dX10_readTerm_23 ⟨Nat.le_of_ble_eq_true rfl, Nat.le_of_ble_eq_true rfl⟩) hD hS hA (fun r9 u9 H locs hw hp hd hs => ?_)
    clear hP hD hS
    obtain ⟨rfl, rfl⟩ := hw
    have hP := hp; have hD := hd; have hS := hs; clear hp hd hs
    refine lv_if_ne (tgt := 41) hx hb dX10_readTerm_26 (by decide) (fun c9 => ?_) (fun c9 => ?_)
    · rw [if_neg c9] at h
      exact WX10_readTerm_41 hkS C0 hk5 _ _ _ _ _ h hP hD hS (lv_sub hl [0, 1] rfl)
    · rw [if_pos c9] at h
      refine lv_aload_n hx hb dX10_readTerm_29 rfl (lv_at hl 0 rfl) ?_
      refine lv_bipush (v := 37) hx hb dX10_readTerm_30 (by decide) ?_
      obtain ⟨r11, h12, h⟩ := dV_some h
      refine dw_ks (va_runS (As := [.int 37]) (rest := [.ref (ad 0)]) ⟨hx, hb, hml, hown, hts⟩ (qX10_sign l D ty eo _ 37 _ h12) (va_cwS 1 hts gX10_readTerm_X10_sign rfl rfl rfl hd_X10_sign ⟨by dsimp only [headSpec]; omega, by dsimp only [headSpec]; omega⟩) (pvS_0 hK hN hE hP hD hS hA) rfl rfl hl.1 rfl (lv_room (Nat.le_of_ble_eq_true rfl)) dX10_readTerm_32 ⟨Nat.le_of_ble_eq_true rfl, Nat.le_of_ble_eq_true rfl⟩) hP hD hS hA (fun _ _ h9 => h9.2.symm) (fun r9 u9 H locs hw hp hd hs => ?_)
      obtain ⟨rfl, -⟩ := hw
      clear hP hD hS
      have hP := hp; have hD := hd; have hS := hs; clear hp hd hs
      obtain ⟨r13, q15, h14, h⟩ := dB_some h
      refine dw_ki (va_runV (As := [.int r11]) (rest := []) ⟨hx, hb, hml, hown, hts⟩ (qX10_takes0 l D ty eo _ ad q10 r11 r13 q15 h14) (cwV 1 hts gX10_readTerm_X10_takes0 rfl rfl rfl hd_X10_takes0_v ⟨by dsimp only [headSpec]; omega, by dsimp only [headSpec]; omega⟩) (pv10_10_0 hK hN hE hP hD hS hA) rfl rfl hl.1 rfl (lv_room (Nat.le_of_ble_eq_true rfl)) dX10_readTerm_35 ⟨Nat.le_of_ble_eq_true rfl, Nat.le_of_ble_eq_true rfl⟩) hD hS hA (fun r9 u9 H locs hw hp hd hs => ?_)
      clear hP hD hS
      obtain ⟨rfl, rfl⟩ := hw
      have hP := hp; have hD := hd; have hS := hs; clear hp hd hs
      refine lv_if_eq (tgt := 49) hx hb dX10_readTerm_38 (by decide) (fun c9 => ?_) (fun c9 => ?_)
      · rw [if_pos c9] at h
        cases h
        exact kz_vret hx hb hr hlocks hP hK hD hS dX10_readTerm_49 rfl
      · rw [if_neg c9] at h
        exact WX10_readTerm_41 hkS C0 hk5 _ _ _ _ _ h hP hD hS (lv_sub hl [0, 1] rfl)
set_option maxHeartbeats 4000000 in
set_option maxRecDepth 100000 in
theorem WX10_readTerm_5 {p : Program} {l : Launch} {e : Env} {s : State} {m : MethodId} {args : Array Value} {below : List Frame} {meth : Method} {c : Code} {D : va_G} {ty : Nat → ClassId} {eo : Nat → Nat} {A : Nat → Prop} {ad : Nat → Nat} {o2 : dS} {kS : dS → Int32 → Option (dS)} {nS : Nat} (hkS : ∀ (sz : Nat) (q : dS) (p1 : Int32) (o2 : dS), kS q p1 = some o2 → Met l yX10_readSum wsX10_readSum ({ frames := 12 + 3 * nS, cells := 0, slots := 0, locals := 400 + 64 * nS } : Room) (va_Pc [.ref (ad 0), .int p1] (kz_pre D ty eo (w10 ty ad q) sz)) (va_Qv (fun (u : va_W) => w10 ty ad o2 = u) (kz_B D ty (va_A (w10 ty ad q) sz)) (va_A (w10 ty ad q) sz)) 0 0 (va_A (w10 ty ad q) sz)) (C : dc_C p s m args meth c cX10_readTerm none 2 RX10 wsX10_readTerm D ty eo A)   (n : Nat) (q : dS) (x1 : Int32) (H : Heap) (locs : List Loc) (ls : Array Slot) (h : zX10_readTerm_5 kS  n q x1 = some o2) (hP : va_P D vwCl (w10 ty ad q) H) (hD : va_D A (w10 ty ad q)) (hS : va_S A s.heap H locs) (hl : lv_has ls 2 [(0, .ref (ad 0)), (1, .int x1)]) : W p l e ({ frames := 12 + 3 * nS + 2, cells := 0, slots := 0, locals := 400 + 64 * nS + 43 } : Room) s m args below meth c H locs 0 0 (MQ below (va_Qv (fun (u : va_W) => w10 ty ad o2 = u) (kz_B D ty A) A) args s 0 0 A) (F0 m 5 ls []) := by
  exact dFix_W (F := fun k (a : dS × Int32) => zX10_readTerm_5b kS  (fun q x1 => k (q, x1)) a.1 a.2) (o := o2) (P := fun (a : dS × Int32) H locs ls => va_P D vwCl (w10 ty ad a.1) H ∧ va_D A (w10 ty ad a.1) ∧ va_S A s.heap H locs ∧ lv_has ls 2 [(0, .ref (ad 0)), (1, .int a.2)]) (G := fun H locs ls => W p l e ({ frames := 12 + 3 * nS + 2, cells := 0, slots := 0, locals := 400 + 64 * nS + 43 } : Room) s m args below meth c H locs 0 0 (MQ below (va_Qv (fun (u : va_W) => w10 ty ad o2 = u) (kz_B D ty A) A) args s 0 0 A) (F0 m 5 ls []))
    (fun k hk a H locs ls h hp => WX10_readTerm_5b hkS C  (fun q x1 H locs ls h h1 h2 h3 h4 => hk (q, x1) H locs ls h ⟨h1, h2, h3, h4⟩) a.1 a.2 H locs ls h hp.1 hp.2.1 hp.2.2.1 hp.2.2.2) n (q, x1) H locs ls h ⟨hP, hD, hS, hl⟩
set_option maxHeartbeats 4000000 in
set_option maxRecDepth 100000 in
theorem qX10_readTerm (l : Launch) (D : va_G) (ty : Nat → ClassId) (eo : Nat → Nat) (sz : Nat) (ad : Nat → Nat) (kS : dS → Int32 → Option (dS)) (nS : Nat) (hkS : ∀ (sz : Nat) (q : dS) (p1 : Int32) (o2 : dS), kS q p1 = some o2 → Met l yX10_readSum wsX10_readSum ({ frames := 12 + 3 * nS, cells := 0, slots := 0, locals := 400 + 64 * nS } : Room) (va_Pc [.ref (ad 0), .int p1] (kz_pre D ty eo (w10 ty ad q) sz)) (va_Qv (fun (u : va_W) => w10 ty ad o2 = u) (kz_B D ty (va_A (w10 ty ad q) sz)) (va_A (w10 ty ad q) sz)) 0 0 (va_A (w10 ty ad q) sz)) (q : dS) (p1 : Int32) (o2 : dS) (h : zX10_readTerm kS q p1 = some o2) : Met l yX10_readTerm wsX10_readTerm ({ frames := 12 + 3 * nS + 2, cells := 0, slots := 0, locals := 400 + 64 * nS + 43 } : Room) (va_Pc [.ref (ad 0), .int p1] (kz_pre D ty eo (w10 ty ad q) sz)) (va_Qv (fun (u : va_W) => w10 ty ad o2 = u) (kz_B D ty (va_A (w10 ty ad q) sz)) (va_A (w10 ty ad q) sz)) 0 0 (va_A (w10 ty ad q) sz) := by
  refine Met.ofW (cc := cX10_readTerm) (maxL := 2) (ret := none) (by decide) rfl ?_
  intro p e s m args below meth c s₁ B hml hv
  obtain ⟨rfl, hsz, hP, hK, hD0, hN, hE⟩ := hv
  have hx := B.exec
  have hb := B.bytes
  have hr := B.returns
  have hts := atoms_spec (ws := wsX10_readTerm) B.pre
  have hown : s.vm.findClass RX10 = some m.cls := findClass_of_methodNamed B.named
  have hlocks := B.notSynchronized
  subst hsz
  have hD := hD0.self (sz := s.heap.size)
  generalize hAe : va_A (w10 ty ad q) s.heap.size = A at hD hE ⊢
  have hA : ∀ q : Nat, s.heap.size ≤ q → A q := fun q h => by rw [← hAe]; exact Or.inr h
  clear hAe
  have hS : va_S A s.heap s.heap [] := va_S.rf
  have hl := lv_entry ([.ref (ad 0), .int p1]) (n := 2) (Nat.le_of_ble_eq_true rfl)
  rw [lg_entry_eq]
  generalize (lg_sl ([.ref (ad 0), .int p1]) ++ List.replicate (2 - (lg_sl ([.ref (ad 0), .int p1])).length) Slot.unset).toArray = ls at hl ⊢
  have hl : lv_has ls 2 [(0, .ref (ad 0)), (1, .int p1)] := hl
  have C : dc_C p s m _ meth c cX10_readTerm none 2 RX10 wsX10_readTerm D ty eo A := ⟨hx, hb, hr, hts, hown, hlocks, hml, hK, hN, hE, hA⟩
  unfold zX10_readTerm at h
  refine lv_aload_n hx hb dX10_readTerm_0 rfl (lv_at hl 0 rfl) ?_
  refine lv_iload_n hx hb dX10_readTerm_1 rfl (lv_at hl 1 rfl) ?_
  obtain ⟨q3, h2, h⟩ := dV_some h
  refine dw_kv (va_runV (As := [.int p1]) (rest := []) ⟨hx, hb, hml, hown, hts⟩ (qX10_readPart l D ty eo _ ad kS nS hkS q p1 q3 h2) (cwV 1 hts gX10_readTerm_X10_readPart rfl rfl rfl hd_X10_readPart_v ⟨by dsimp only [headSpec]; omega, by dsimp only [headSpec]; omega⟩) (pv10_10_0 hK hN hE hP hD hS hA) rfl rfl hl.1 rfl (lv_room (Nat.le_of_ble_eq_true rfl)) dX10_readTerm_2 ⟨Nat.le_of_ble_eq_true rfl, Nat.le_of_ble_eq_true rfl⟩) hD hS hA (fun u9 H locs hw hp hd hs => ?_)
  clear hP hD hS
  obtain rfl := hw
  have hP := hp; have hD := hd; have hS := hs; clear hp hd hs
  exact WX10_readTerm_5 hkS C  _ _ _ _ _ _ h hP hD hS (lv_sub hl [0, 1] rfl)

set_option maxHeartbeats 4000000 in
set_option maxRecDepth 100000 in
theorem WX10_readSum_29 {p : Program} {l : Launch} {e : Env} {s : State} {m : MethodId} {args : Array Value} {below : List Frame} {meth : Method} {c : Code} {D : va_G} {ty : Nat → ClassId} {eo : Nat → Nat} {A : Nat → Prop} {ad : Nat → Nat} {o2 : dS} {kS : dS → Int32 → Option (dS)} {nS : Nat} (hkS : ∀ (sz : Nat) (q : dS) (p1 : Int32) (o2 : dS), kS q p1 = some o2 → Met l yX10_readSum wsX10_readSum ({ frames := 12 + 3 * nS, cells := 0, slots := 0, locals := 400 + 64 * nS } : Room) (va_Pc [.ref (ad 0), .int p1] (kz_pre D ty eo (w10 ty ad q) sz)) (va_Qv (fun (u : va_W) => w10 ty ad o2 = u) (kz_B D ty (va_A (w10 ty ad q) sz)) (va_A (w10 ty ad q) sz)) 0 0 (va_A (w10 ty ad q) sz)) (C : dc_C p s m args meth c cX10_readSum none 2 RX10 wsX10_readSum D ty eo A) {k5 : dS → Int32 → Option (dS)} (hk5 : ∀ (q : dS) (x1 : Int32) (H : Heap) (locs : List Loc) (ls : Array Slot), k5 q x1 = some o2 → va_P D vwCl (w10 ty ad q) H → va_D A (w10 ty ad q) → va_S A s.heap H locs → lv_has ls 2 [(0, .ref (ad 0)), (1, .int x1)] → W p l e ({ frames := 12 + 3 * nS + 3, cells := 0, slots := 0, locals := 400 + 64 * nS + 64 } : Room) s m args below meth c H locs 0 0 (MQ below (va_Qv (fun (u : va_W) => w10 ty ad o2 = u) (kz_B D ty A) A) args s 0 0 A) (F0 m 5 ls [])) (q : dS) (x1 : Int32) (H : Heap) (locs : List Loc) (ls : Array Slot) (h : zX10_readSum_29 kS k5 q x1 = some o2) (hP : va_P D vwCl (w10 ty ad q) H) (hD : va_D A (w10 ty ad q)) (hS : va_S A s.heap H locs) (hl : lv_has ls 2 [(0, .ref (ad 0)), (1, .int x1)]) : W p l e ({ frames := 12 + 3 * nS + 3, cells := 0, slots := 0, locals := 400 + 64 * nS + 64 } : Room) s m args below meth c H locs 0 0 (MQ below (va_Qv (fun (u : va_W) => w10 ty ad o2 = u) (kz_B D ty A) A) args s 0 0 A) (F0 m 29 ls []) := by
  have C0 := C
  obtain ⟨hx, hb, hr, hts, hown, hlocks, hml, hK, hN, hE, hA⟩ := C
  unfold zX10_readSum_29 at h
  refine lv_aload_n hx hb dX10_readSum_29 rfl (lv_at hl 0 rfl) ?_
  refine lv_iload_n hx hb dX10_readSum_30 rfl (lv_at hl 1 rfl) ?_
  obtain ⟨q3, h2, h⟩ := dV_some h
  refine dw_kv (va_runV (As := [.int x1]) (rest := []) ⟨hx, hb, hml, hown, hts⟩ (qX10_readTerm l D ty eo _ ad kS nS hkS q x1 q3 h2) (cwV 1 hts gX10_readSum_X10_readTerm rfl rfl rfl hd_X10_readTerm_v ⟨by dsimp only [headSpec]; omega, by dsimp only [headSpec]; omega⟩) (pv10_10_0 hK hN hE hP hD hS hA) rfl rfl hl.1 rfl (lv_room (Nat.le_of_ble_eq_true rfl)) dX10_readSum_31 ⟨Nat.le_of_ble_eq_true rfl, Nat.le_of_ble_eq_true rfl⟩) hD hS hA (fun u9 H locs hw hp hd hs => ?_)
  clear hP hD hS
  obtain rfl := hw
  have hP := hp; have hD := hd; have hS := hs; clear hp hd hs
  refine lv_goto (tgt := 5) hx hb dX10_readSum_34 (by decide) ?_
  exact hk5 _ _ _ _ _ h hP hD hS (lv_sub hl [0, 1] rfl)
set_option maxHeartbeats 4000000 in
set_option maxRecDepth 100000 in
theorem WX10_readSum_5b {p : Program} {l : Launch} {e : Env} {s : State} {m : MethodId} {args : Array Value} {below : List Frame} {meth : Method} {c : Code} {D : va_G} {ty : Nat → ClassId} {eo : Nat → Nat} {A : Nat → Prop} {ad : Nat → Nat} {o2 : dS} {kS : dS → Int32 → Option (dS)} {nS : Nat} (hkS : ∀ (sz : Nat) (q : dS) (p1 : Int32) (o2 : dS), kS q p1 = some o2 → Met l yX10_readSum wsX10_readSum ({ frames := 12 + 3 * nS, cells := 0, slots := 0, locals := 400 + 64 * nS } : Room) (va_Pc [.ref (ad 0), .int p1] (kz_pre D ty eo (w10 ty ad q) sz)) (va_Qv (fun (u : va_W) => w10 ty ad o2 = u) (kz_B D ty (va_A (w10 ty ad q) sz)) (va_A (w10 ty ad q) sz)) 0 0 (va_A (w10 ty ad q) sz)) (C : dc_C p s m args meth c cX10_readSum none 2 RX10 wsX10_readSum D ty eo A) {k5 : dS → Int32 → Option (dS)} (hk5 : ∀ (q : dS) (x1 : Int32) (H : Heap) (locs : List Loc) (ls : Array Slot), k5 q x1 = some o2 → va_P D vwCl (w10 ty ad q) H → va_D A (w10 ty ad q) → va_S A s.heap H locs → lv_has ls 2 [(0, .ref (ad 0)), (1, .int x1)] → W p l e ({ frames := 12 + 3 * nS + 3, cells := 0, slots := 0, locals := 400 + 64 * nS + 64 } : Room) s m args below meth c H locs 0 0 (MQ below (va_Qv (fun (u : va_W) => w10 ty ad o2 = u) (kz_B D ty A) A) args s 0 0 A) (F0 m 5 ls [])) (q : dS) (x1 : Int32) (H : Heap) (locs : List Loc) (ls : Array Slot) (h : zX10_readSum_5b kS k5 q x1 = some o2) (hP : va_P D vwCl (w10 ty ad q) H) (hD : va_D A (w10 ty ad q)) (hS : va_S A s.heap H locs) (hl : lv_has ls 2 [(0, .ref (ad 0)), (1, .int x1)]) : W p l e ({ frames := 12 + 3 * nS + 3, cells := 0, slots := 0, locals := 400 + 64 * nS + 64 } : Room) s m args below meth c H locs 0 0 (MQ below (va_Qv (fun (u : va_W) => w10 ty ad o2 = u) (kz_B D ty A) A) args s 0 0 A) (F0 m 5 ls []) := by
  have C0 := C
  obtain ⟨hx, hb, hr, hts, hown, hlocks, hml, hK, hN, hE, hA⟩ := C
  unfold zX10_readSum_5b at h
  refine lv_aload_n hx hb dX10_readSum_5 rfl (lv_at hl 0 rfl) ?_
  refine lv_bipush (v := 43) hx hb dX10_readSum_6 (by decide) ?_
  obtain ⟨r1, h2, h⟩ := dV_some h
  refine dw_ks (va_runS (As := [.int 43]) (rest := [.ref (ad 0)]) ⟨hx, hb, hml, hown, hts⟩ (qX10_sign l D ty eo _ 43 _ h2) (va_cwS 1 hts gX10_readSum_X10_sign rfl rfl rfl hd_X10_sign ⟨by dsimp only [headSpec]; omega, by dsimp only [headSpec]; omega⟩) (pvS_0 hK hN hE hP hD hS hA) rfl rfl hl.1 rfl (lv_room (Nat.le_of_ble_eq_true rfl)) dX10_readSum_8 ⟨Nat.le_of_ble_eq_true rfl, Nat.le_of_ble_eq_true rfl⟩) hP hD hS hA (fun _ _ h9 => h9.2.symm) (fun r9 u9 H locs hw hp hd hs => ?_)
  obtain ⟨rfl, -⟩ := hw
  clear hP hD hS
  have hP := hp; have hD := hd; have hS := hs; clear hp hd hs
  obtain ⟨r3, q5, h4, h⟩ := dB_some h
  refine dw_ki (va_runV (As := [.int r1]) (rest := []) ⟨hx, hb, hml, hown, hts⟩ (qX10_takes0 l D ty eo _ ad q r1 r3 q5 h4) (cwV 1 hts gX10_readSum_X10_takes0 rfl rfl rfl hd_X10_takes0_v ⟨by dsimp only [headSpec]; omega, by dsimp only [headSpec]; omega⟩) (pv10_10_0 hK hN hE hP hD hS hA) rfl rfl hl.1 rfl (lv_room (Nat.le_of_ble_eq_true rfl)) dX10_readSum_11 ⟨Nat.le_of_ble_eq_true rfl, Nat.le_of_ble_eq_true rfl⟩) hD hS hA (fun r9 u9 H locs hw hp hd hs => ?_)
  clear hP hD hS
  obtain ⟨rfl, rfl⟩ := hw
  have hP := hp; have hD := hd; have hS := hs; clear hp hd hs
  refine lv_if_ne (tgt := 29) hx hb dX10_readSum_14 (by decide) (fun c9 => ?_) (fun c9 => ?_)
  · rw [if_neg c9] at h
    exact WX10_readSum_29 hkS C0 hk5 _ _ _ _ _ h hP hD hS (lv_sub hl [0, 1] rfl)
  · rw [if_pos c9] at h
    refine lv_aload_n hx hb dX10_readSum_17 rfl (lv_at hl 0 rfl) ?_
    refine lv_bipush (v := 45) hx hb dX10_readSum_18 (by decide) ?_
    obtain ⟨r6, h7, h⟩ := dV_some h
    refine dw_ks (va_runS (As := [.int 45]) (rest := [.ref (ad 0)]) ⟨hx, hb, hml, hown, hts⟩ (qX10_sign l D ty eo _ 45 _ h7) (va_cwS 1 hts gX10_readSum_X10_sign rfl rfl rfl hd_X10_sign ⟨by dsimp only [headSpec]; omega, by dsimp only [headSpec]; omega⟩) (pvS_0 hK hN hE hP hD hS hA) rfl rfl hl.1 rfl (lv_room (Nat.le_of_ble_eq_true rfl)) dX10_readSum_20 ⟨Nat.le_of_ble_eq_true rfl, Nat.le_of_ble_eq_true rfl⟩) hP hD hS hA (fun _ _ h9 => h9.2.symm) (fun r9 u9 H locs hw hp hd hs => ?_)
    obtain ⟨rfl, -⟩ := hw
    clear hP hD hS
    have hP := hp; have hD := hd; have hS := hs; clear hp hd hs
    obtain ⟨r8, q10, h9, h⟩ := dB_some h
    refine dw_ki (va_runV (As := [.int r6]) (rest := []) ⟨hx, hb, hml, hown, hts⟩ (qX10_takes0 l D ty eo _ ad q5 r6 r8 q10 h9) (cwV 1 hts gX10_readSum_X10_takes0 rfl rfl rfl hd_X10_takes0_v ⟨by dsimp only [headSpec]; omega, by dsimp only [headSpec]; omega⟩) (pv10_10_0 hK hN hE hP hD hS hA) rfl rfl hl.1 rfl (lv_room (Nat.le_of_ble_eq_true rfl)) dX10_readSum_23 ⟨Nat.le_of_ble_eq_true rfl, Nat.le_of_ble_eq_true rfl⟩) hD hS hA (fun r9 u9 H locs hw hp hd hs => ?_)
    clear hP hD hS
    obtain ⟨rfl, rfl⟩ := hw
    have hP := hp; have hD := hd; have hS := hs; clear hp hd hs
    refine lv_if_eq (tgt := 37) hx hb dX10_readSum_26 (by decide) (fun c9 => ?_) (fun c9 => ?_)
    · rw [if_pos c9] at h
      cases h
      exact kz_vret hx hb hr hlocks hP hK hD hS dX10_readSum_37 rfl
    · rw [if_neg c9] at h
      exact WX10_readSum_29 hkS C0 hk5 _ _ _ _ _ h hP hD hS (lv_sub hl [0, 1] rfl)
set_option maxHeartbeats 4000000 in
set_option maxRecDepth 100000 in
theorem WX10_readSum_5 {p : Program} {l : Launch} {e : Env} {s : State} {m : MethodId} {args : Array Value} {below : List Frame} {meth : Method} {c : Code} {D : va_G} {ty : Nat → ClassId} {eo : Nat → Nat} {A : Nat → Prop} {ad : Nat → Nat} {o2 : dS} {kS : dS → Int32 → Option (dS)} {nS : Nat} (hkS : ∀ (sz : Nat) (q : dS) (p1 : Int32) (o2 : dS), kS q p1 = some o2 → Met l yX10_readSum wsX10_readSum ({ frames := 12 + 3 * nS, cells := 0, slots := 0, locals := 400 + 64 * nS } : Room) (va_Pc [.ref (ad 0), .int p1] (kz_pre D ty eo (w10 ty ad q) sz)) (va_Qv (fun (u : va_W) => w10 ty ad o2 = u) (kz_B D ty (va_A (w10 ty ad q) sz)) (va_A (w10 ty ad q) sz)) 0 0 (va_A (w10 ty ad q) sz)) (C : dc_C p s m args meth c cX10_readSum none 2 RX10 wsX10_readSum D ty eo A)   (n : Nat) (q : dS) (x1 : Int32) (H : Heap) (locs : List Loc) (ls : Array Slot) (h : zX10_readSum_5 kS  n q x1 = some o2) (hP : va_P D vwCl (w10 ty ad q) H) (hD : va_D A (w10 ty ad q)) (hS : va_S A s.heap H locs) (hl : lv_has ls 2 [(0, .ref (ad 0)), (1, .int x1)]) : W p l e ({ frames := 12 + 3 * nS + 3, cells := 0, slots := 0, locals := 400 + 64 * nS + 64 } : Room) s m args below meth c H locs 0 0 (MQ below (va_Qv (fun (u : va_W) => w10 ty ad o2 = u) (kz_B D ty A) A) args s 0 0 A) (F0 m 5 ls []) := by
  exact dFix_W (F := fun k (a : dS × Int32) => zX10_readSum_5b kS  (fun q x1 => k (q, x1)) a.1 a.2) (o := o2) (P := fun (a : dS × Int32) H locs ls => va_P D vwCl (w10 ty ad a.1) H ∧ va_D A (w10 ty ad a.1) ∧ va_S A s.heap H locs ∧ lv_has ls 2 [(0, .ref (ad 0)), (1, .int a.2)]) (G := fun H locs ls => W p l e ({ frames := 12 + 3 * nS + 3, cells := 0, slots := 0, locals := 400 + 64 * nS + 64 } : Room) s m args below meth c H locs 0 0 (MQ below (va_Qv (fun (u : va_W) => w10 ty ad o2 = u) (kz_B D ty A) A) args s 0 0 A) (F0 m 5 ls []))
    (fun k hk a H locs ls h hp => WX10_readSum_5b hkS C  (fun q x1 H locs ls h h1 h2 h3 h4 => hk (q, x1) H locs ls h ⟨h1, h2, h3, h4⟩) a.1 a.2 H locs ls h hp.1 hp.2.1 hp.2.2.1 hp.2.2.2) n (q, x1) H locs ls h ⟨hP, hD, hS, hl⟩
set_option maxHeartbeats 4000000 in
set_option maxRecDepth 100000 in
theorem qX10_readSum_o (l : Launch) (D : va_G) (ty : Nat → ClassId) (eo : Nat → Nat) (sz : Nat) (ad : Nat → Nat) (kS : dS → Int32 → Option (dS)) (nS : Nat) (hkS : ∀ (sz : Nat) (q : dS) (p1 : Int32) (o2 : dS), kS q p1 = some o2 → Met l yX10_readSum wsX10_readSum ({ frames := 12 + 3 * nS, cells := 0, slots := 0, locals := 400 + 64 * nS } : Room) (va_Pc [.ref (ad 0), .int p1] (kz_pre D ty eo (w10 ty ad q) sz)) (va_Qv (fun (u : va_W) => w10 ty ad o2 = u) (kz_B D ty (va_A (w10 ty ad q) sz)) (va_A (w10 ty ad q) sz)) 0 0 (va_A (w10 ty ad q) sz)) (q : dS) (p1 : Int32) (o2 : dS) (h : zX10_readSum_o kS q p1 = some o2) : Met l yX10_readSum wsX10_readSum ({ frames := 12 + 3 * nS + 3, cells := 0, slots := 0, locals := 400 + 64 * nS + 64 } : Room) (va_Pc [.ref (ad 0), .int p1] (kz_pre D ty eo (w10 ty ad q) sz)) (va_Qv (fun (u : va_W) => w10 ty ad o2 = u) (kz_B D ty (va_A (w10 ty ad q) sz)) (va_A (w10 ty ad q) sz)) 0 0 (va_A (w10 ty ad q) sz) := by
  refine Met.ofW (cc := cX10_readSum) (maxL := 2) (ret := none) (by decide) rfl ?_
  intro p e s m args below meth c s₁ B hml hv
  obtain ⟨rfl, hsz, hP, hK, hD0, hN, hE⟩ := hv
  have hx := B.exec
  have hb := B.bytes
  have hr := B.returns
  have hts := atoms_spec (ws := wsX10_readSum) B.pre
  have hown : s.vm.findClass RX10 = some m.cls := findClass_of_methodNamed B.named
  have hlocks := B.notSynchronized
  subst hsz
  have hD := hD0.self (sz := s.heap.size)
  generalize hAe : va_A (w10 ty ad q) s.heap.size = A at hD hE ⊢
  have hA : ∀ q : Nat, s.heap.size ≤ q → A q := fun q h => by rw [← hAe]; exact Or.inr h
  clear hAe
  have hS : va_S A s.heap s.heap [] := va_S.rf
  have hl := lv_entry ([.ref (ad 0), .int p1]) (n := 2) (Nat.le_of_ble_eq_true rfl)
  rw [lg_entry_eq]
  generalize (lg_sl ([.ref (ad 0), .int p1]) ++ List.replicate (2 - (lg_sl ([.ref (ad 0), .int p1])).length) Slot.unset).toArray = ls at hl ⊢
  have hl : lv_has ls 2 [(0, .ref (ad 0)), (1, .int p1)] := hl
  have C : dc_C p s m _ meth c cX10_readSum none 2 RX10 wsX10_readSum D ty eo A := ⟨hx, hb, hr, hts, hown, hlocks, hml, hK, hN, hE, hA⟩
  unfold zX10_readSum_o at h
  refine lv_aload_n hx hb dX10_readSum_0 rfl (lv_at hl 0 rfl) ?_
  refine lv_iload_n hx hb dX10_readSum_1 rfl (lv_at hl 1 rfl) ?_
  obtain ⟨q3, h2, h⟩ := dV_some h
  refine dw_kv (va_runV (As := [.int p1]) (rest := []) ⟨hx, hb, hml, hown, hts⟩ (qX10_readTerm l D ty eo _ ad kS nS hkS q p1 q3 h2) (cwV 1 hts gX10_readSum_X10_readTerm rfl rfl rfl hd_X10_readTerm_v ⟨by dsimp only [headSpec]; omega, by dsimp only [headSpec]; omega⟩) (pv10_10_0 hK hN hE hP hD hS hA) rfl rfl hl.1 rfl (lv_room (Nat.le_of_ble_eq_true rfl)) dX10_readSum_2 ⟨Nat.le_of_ble_eq_true rfl, Nat.le_of_ble_eq_true rfl⟩) hD hS hA (fun u9 H locs hw hp hd hs => ?_)
  clear hP hD hS
  obtain rfl := hw
  have hP := hp; have hD := hd; have hS := hs; clear hp hd hs
  exact WX10_readSum_5 hkS C  _ _ _ _ _ _ h hP hD hS (lv_sub hl [0, 1] rfl)
set_option maxHeartbeats 4000000 in
set_option maxRecDepth 100000 in
theorem qX10_readSum (l : Launch) (D : va_G) (ty : Nat → ClassId) (eo : Nat → Nat) (sz : Nat) (ad : Nat → Nat) (n : Nat) : ∀ (q : dS) (p1 : Int32) (o2 : dS), zX10_readSum n q p1 = some o2 → Met l yX10_readSum wsX10_readSum ({ frames := 12 + 3 * n, cells := 0, slots := 0, locals := 400 + 64 * n } : Room) (va_Pc [.ref (ad 0), .int p1] (kz_pre D ty eo (w10 ty ad q) sz)) (va_Qv (fun (u : va_W) => w10 ty ad o2 = u) (kz_B D ty (va_A (w10 ty ad q) sz)) (va_A (w10 ty ad q) sz)) 0 0 (va_A (w10 ty ad q) sz) := by
  induction n generalizing sz with
  | zero => intro q p1 o2 h; cases h
  | succ n ih =>
    intro q p1 o2 h
    have h2 := qX10_readSum_o l D ty eo sz ad (zX10_readSum n) n (fun sz q p1 o2 h => ih sz q p1 o2 h) q p1 o2 h
    have e : ({ frames := 12 + 3 * n + 3, cells := 0, slots := 0, locals := 400 + 64 * n + 64 } : Room) = ({ frames := 12 + 3 * (n + 1), cells := 0, slots := 0, locals := 400 + 64 * (n + 1) } : Room) := by congr 1 <;> omega
    rw [← e]
    exact h2

set_option maxHeartbeats 4000000 in
set_option maxRecDepth 100000 in
theorem WX10_readPlain_133 {p : Program} {l : Launch} {e : Env} {s : State} {m : MethodId} {args : Array Value} {below : List Frame} {meth : Method} {c : Code} {D : va_G} {ty : Nat → ClassId} {eo : Nat → Nat} {A : Nat → Prop} {ad : Nat → Nat} {o2 : dS} {kT : dS → Int32 → Option (dS)} {nT : Nat} (hkT : ∀ (sz : Nat) (q : dS) (p1 : Int32) (o2 : dS), kT q p1 = some o2 → Met l yX10_readTest wsX10_readTest ({ frames := 44 + 3 * nT, cells := 0, slots := 0, locals := 1100 + 65 * nT } : Room) (va_Pc [.ref (ad 0), .int p1] (kz_pre D ty eo (w10 ty ad q) sz)) (va_Qv (fun (u : va_W) => w10 ty ad o2 = u) (kz_B D ty (va_A (w10 ty ad q) sz)) (va_A (w10 ty ad q) sz)) 0 0 (va_A (w10 ty ad q) sz)) (C : dc_C p s m args meth c cX10_readPlain none 4 RX10 wsX10_readPlain D ty eo A)   (q : dS)  (H : Heap) (locs : List Loc) (ls : Array Slot) (h : zX10_readPlain_133 kT  q = some o2) (hP : va_P D vwCl (w10 ty ad q) H) (hD : va_D A (w10 ty ad q)) (hS : va_S A s.heap H locs) (hl : lv_has ls 4 []) : W p l e ({ frames := 44 + 3 * nT + 1, cells := 0, slots := 0, locals := 1100 + 65 * nT + 21 } : Room) s m args below meth c H locs 0 0 (MQ below (va_Qv (fun (u : va_W) => w10 ty ad o2 = u) (kz_B D ty A) A) args s 0 0 A) (F0 m 133 ls []) := by
  have C0 := C
  obtain ⟨hx, hb, hr, hts, hown, hlocks, hml, hK, hN, hE, hA⟩ := C
  unfold zX10_readPlain_133 at h
  cases h
  exact kz_vret hx hb hr hlocks hP hK hD hS dX10_readPlain_133 rfl
set_option maxHeartbeats 4000000 in
set_option maxRecDepth 100000 in
theorem WX10_readPlain_128 {p : Program} {l : Launch} {e : Env} {s : State} {m : MethodId} {args : Array Value} {below : List Frame} {meth : Method} {c : Code} {D : va_G} {ty : Nat → ClassId} {eo : Nat → Nat} {A : Nat → Prop} {ad : Nat → Nat} {o2 : dS} {kT : dS → Int32 → Option (dS)} {nT : Nat} (hkT : ∀ (sz : Nat) (q : dS) (p1 : Int32) (o2 : dS), kT q p1 = some o2 → Met l yX10_readTest wsX10_readTest ({ frames := 44 + 3 * nT, cells := 0, slots := 0, locals := 1100 + 65 * nT } : Room) (va_Pc [.ref (ad 0), .int p1] (kz_pre D ty eo (w10 ty ad q) sz)) (va_Qv (fun (u : va_W) => w10 ty ad o2 = u) (kz_B D ty (va_A (w10 ty ad q) sz)) (va_A (w10 ty ad q) sz)) 0 0 (va_A (w10 ty ad q) sz)) (C : dc_C p s m args meth c cX10_readPlain none 4 RX10 wsX10_readPlain D ty eo A)   (q : dS) (x1 : Int32) (H : Heap) (locs : List Loc) (ls : Array Slot) (h : zX10_readPlain_128 kT  q x1 = some o2) (hP : va_P D vwCl (w10 ty ad q) H) (hD : va_D A (w10 ty ad q)) (hS : va_S A s.heap H locs) (hl : lv_has ls 4 [(0, .ref (ad 0)), (1, .int x1)]) : W p l e ({ frames := 44 + 3 * nT + 1, cells := 0, slots := 0, locals := 1100 + 65 * nT + 21 } : Room) s m args below meth c H locs 0 0 (MQ below (va_Qv (fun (u : va_W) => w10 ty ad o2 = u) (kz_B D ty A) A) args s 0 0 A) (F0 m 128 ls []) := by
  have C0 := C
  obtain ⟨hx, hb, hr, hts, hown, hlocks, hml, hK, hN, hE, hA⟩ := C
  unfold zX10_readPlain_128 at h
  refine lv_aload_n hx hb dX10_readPlain_128 rfl (lv_at hl 0 rfl) ?_
  refine lv_iload_n hx hb dX10_readPlain_129 rfl (lv_at hl 1 rfl) ?_
  obtain ⟨q3, h2, h⟩ := dV_some h
  refine dw_kv (va_runV (As := [.int x1]) (rest := []) ⟨hx, hb, hml, hown, hts⟩ (qX10_readSum l D ty eo _ ad 10 q x1 q3 h2) (cwV 1 hts gX10_readPlain_X10_readSum rfl rfl rfl hd_X10_readSum_v ⟨by dsimp only [headSpec]; omega, by dsimp only [headSpec]; omega⟩) (pv10_10_0 hK hN hE hP hD hS hA) rfl rfl hl.1 rfl (lv_room (Nat.le_of_ble_eq_true rfl)) dX10_readPlain_130 ⟨Nat.le_of_ble_eq_true rfl, Nat.le_of_ble_eq_true rfl⟩) hD hS hA (fun u9 H locs hw hp hd hs => ?_)
  clear hP hD hS
  obtain rfl := hw
  have hP := hp; have hD := hd; have hS := hs; clear hp hd hs
  exact WX10_readPlain_133 hkT C0  _ _ _ _ h hP hD hS (lv_sub hl [] rfl)
set_option maxHeartbeats 4000000 in
set_option maxRecDepth 100000 in
theorem WX10_readPlain_53 {p : Program} {l : Launch} {e : Env} {s : State} {m : MethodId} {args : Array Value} {below : List Frame} {meth : Method} {c : Code} {D : va_G} {ty : Nat → ClassId} {eo : Nat → Nat} {A : Nat → Prop} {ad : Nat → Nat} {o2 : dS} {kT : dS → Int32 → Option (dS)} {nT : Nat} (hkT : ∀ (sz : Nat) (q : dS) (p1 : Int32) (o2 : dS), kT q p1 = some o2 → Met l yX10_readTest wsX10_readTest ({ frames := 44 + 3 * nT, cells := 0, slots := 0, locals := 1100 + 65 * nT } : Room) (va_Pc [.ref (ad 0), .int p1] (kz_pre D ty eo (w10 ty ad q) sz)) (va_Qv (fun (u : va_W) => w10 ty ad o2 = u) (kz_B D ty (va_A (w10 ty ad q) sz)) (va_A (w10 ty ad q) sz)) 0 0 (va_A (w10 ty ad q) sz)) (C : dc_C p s m args meth c cX10_readPlain none 4 RX10 wsX10_readPlain D ty eo A)   (q : dS) (x1 : Int32) (H : Heap) (locs : List Loc) (ls : Array Slot) (h : zX10_readPlain_53 kT  q x1 = some o2) (hP : va_P D vwCl (w10 ty ad q) H) (hD : va_D A (w10 ty ad q)) (hS : va_S A s.heap H locs) (hl : lv_has ls 4 [(0, .ref (ad 0)), (1, .int x1)]) : W p l e ({ frames := 44 + 3 * nT + 1, cells := 0, slots := 0, locals := 1100 + 65 * nT + 21 } : Room) s m args below meth c H locs 0 0 (MQ below (va_Qv (fun (u : va_W) => w10 ty ad o2 = u) (kz_B D ty A) A) args s 0 0 A) (F0 m 53 ls []) := by
  have C0 := C
  obtain ⟨hx, hb, hr, hts, hown, hlocks, hml, hK, hN, hE, hA⟩ := C
  unfold zX10_readPlain_53 at h
  refine lv_aload_n hx hb dX10_readPlain_53 rfl (lv_at hl 0 rfl) ?_
  obtain ⟨r1, q3, h2, h⟩ := dB_some h
  refine dw_ki (va_runV (As := []) (rest := []) ⟨hx, hb, hml, hown, hts⟩ (qX10_fine l D ty eo _ ad q  r1 q3 h2) (cwV 0 hts gX10_readPlain_X10_fine rfl rfl rfl hd_X10_fine_v ⟨by dsimp only [headSpec]; omega, by dsimp only [headSpec]; omega⟩) (pv10_10_0 hK hN hE hP hD hS hA) rfl rfl hl.1 rfl (lv_room (Nat.le_of_ble_eq_true rfl)) dX10_readPlain_54 ⟨Nat.le_of_ble_eq_true rfl, Nat.le_of_ble_eq_true rfl⟩) hD hS hA (fun r9 u9 H locs hw hp hd hs => ?_)
  clear hP hD hS
  obtain ⟨rfl, rfl⟩ := hw
  have hP := hp; have hD := hd; have hS := hs; clear hp hd hs
  refine lv_if_ne (tgt := 61) hx hb dX10_readPlain_57 (by decide) (fun c9 => ?_) (fun c9 => ?_)
  · rw [if_neg c9] at h
    refine lv_aload_n hx hb dX10_readPlain_61 rfl (lv_at hl 0 rfl) ?_
    refine lv_dup hx hb dX10_readPlain_62 rfl ?_
    refine va_get (D := D) (ci := 10) (v := .int (q3.1 0 19)) (C := RX10) (T := TX10) (N := 56) hx hb hts u9_wsX10_readPlain_X10 hown hK hP 0 rfl rfl 19 (by decide) (hts (.fieldLink RX10 196 "TurnedFloorsModel" "token" "I") f9_wsX10_readPlain_124) (fun _ h9 => h9) rfl dX10_readPlain_63 ?_
    refine lv_iconst (v := 1) hx hb dX10_readPlain_66 (by decide) ?_
    refine lv_iadd hx hb dX10_readPlain_67 ?_
    refine va_put (D := D) (ci := 10) (v := .int ((q3.1 0 19) + 1 : Int32)) (ty := .int) (C := RX10) (T := TX10) (N := 56) hx hb hts u9_wsX10_readPlain_X10 tyX10 tyX10_ok nmX10 hown hK hP hD hS 0 rfl rfl 19 (by decide) (hts (.fieldLink RX10 196 "TurnedFloorsModel" "token" "I") f9_wsX10_readPlain_124) (fun _ h9 => h9) rfl (by decide +kernel) rfl rfl (Nat.le_of_ble_eq_true rfl) dX10_readPlain_68 (fun H locs hp hd hs => ?_)
    obtain ⟨q4, eq4, h⟩ := dL_some h
    refine kz_re (w2 := w10 ty ad q4) hp hd hs (by rw [← eq4]; exact w10_f19 ty ad q3 ((q3.1 0 19) + 1 : Int32)) ?_
    clear hp hd hs hP hD hS
    intro hP hD hS
    refine lv_aload_n hx hb dX10_readPlain_71 rfl (lv_at hl 0 rfl) ?_
    refine lv_iload_n hx hb dX10_readPlain_72 rfl (lv_at hl 1 rfl) ?_
    refine lv_iconst (v := 1) hx hb dX10_readPlain_73 (by decide) ?_
    refine lv_iadd hx hb dX10_readPlain_74 ?_
    obtain ⟨q7, h6, h⟩ := dV_some h
    refine dw_kv (va_runV (As := [.int (x1 + 1 : Int32)]) (rest := []) ⟨hx, hb, hml, hown, hts⟩ (hkT _ q4 (x1 + 1 : Int32) q7 h6) (cwV 1 hts gX10_readPlain_X10_readTest rfl rfl rfl hd_X10_readTest_v ⟨by dsimp only [headSpec]; omega, by dsimp only [headSpec]; omega⟩) (pv10_10_0 hK hN hE hP hD hS hA) rfl rfl hl.1 rfl (lv_room (Nat.le_of_ble_eq_true rfl)) dX10_readPlain_75 ⟨Nat.le_of_ble_eq_true rfl, Nat.le_of_ble_eq_true rfl⟩) hD hS hA (fun u9 H locs hw hp hd hs => ?_)
    clear hP hD hS
    obtain rfl := hw
    have hP := hp; have hD := hd; have hS := hs; clear hp hd hs
    refine lv_aload_n hx hb dX10_readPlain_78 rfl (lv_at hl 0 rfl) ?_
    refine lv_bipush (v := 41) hx hb dX10_readPlain_79 (by decide) ?_
    obtain ⟨r8, h9, h⟩ := dV_some h
    refine dw_ks (va_runS (As := [.int 41]) (rest := [.ref (ad 0)]) ⟨hx, hb, hml, hown, hts⟩ (qX10_sign l D ty eo _ 41 _ h9) (va_cwS 1 hts gX10_readPlain_X10_sign rfl rfl rfl hd_X10_sign ⟨by dsimp only [headSpec]; omega, by dsimp only [headSpec]; omega⟩) (pvS_0 hK hN hE hP hD hS hA) rfl rfl hl.1 rfl (lv_room (Nat.le_of_ble_eq_true rfl)) dX10_readPlain_81 ⟨Nat.le_of_ble_eq_true rfl, Nat.le_of_ble_eq_true rfl⟩) hP hD hS hA (fun _ _ h9 => h9.2.symm) (fun r9 u9 H locs hw hp hd hs => ?_)
    obtain ⟨rfl, -⟩ := hw
    clear hP hD hS
    have hP := hp; have hD := hd; have hS := hs; clear hp hd hs
    obtain ⟨q12, h11, h⟩ := dV_some h
    refine dw_kv (va_runV (As := [.int r8]) (rest := []) ⟨hx, hb, hml, hown, hts⟩ (qX10_must l D ty eo _ ad q7 r8 q12 h11) (cwV 1 hts gX10_readPlain_X10_must rfl rfl rfl hd_X10_must_v ⟨by dsimp only [headSpec]; omega, by dsimp only [headSpec]; omega⟩) (pv10_10_0 hK hN hE hP hD hS hA) rfl rfl hl.1 rfl (lv_room (Nat.le_of_ble_eq_true rfl)) dX10_readPlain_84 ⟨Nat.le_of_ble_eq_true rfl, Nat.le_of_ble_eq_true rfl⟩) hD hS hA (fun u9 H locs hw hp hd hs => ?_)
    clear hP hD hS
    obtain rfl := hw
    have hP := hp; have hD := hd; have hS := hs; clear hp hd hs
    refine lv_goto (tgt := 133) hx hb dX10_readPlain_87 (by decide) ?_
    exact WX10_readPlain_133 hkT C0  _ _ _ _ h hP hD hS (lv_sub hl [] rfl)
  · rw [if_pos c9] at h
    cases h
    exact kz_vret hx hb hr hlocks hP hK hD hS dX10_readPlain_60 rfl
set_option maxHeartbeats 4000000 in
set_option maxRecDepth 100000 in
theorem WX10_readPlain_2b {p : Program} {l : Launch} {e : Env} {s : State} {m : MethodId} {args : Array Value} {below : List Frame} {meth : Method} {c : Code} {D : va_G} {ty : Nat → ClassId} {eo : Nat → Nat} {A : Nat → Prop} {ad : Nat → Nat} {o2 : dS} {kT : dS → Int32 → Option (dS)} {nT : Nat} (hkT : ∀ (sz : Nat) (q : dS) (p1 : Int32) (o2 : dS), kT q p1 = some o2 → Met l yX10_readTest wsX10_readTest ({ frames := 44 + 3 * nT, cells := 0, slots := 0, locals := 1100 + 65 * nT } : Room) (va_Pc [.ref (ad 0), .int p1] (kz_pre D ty eo (w10 ty ad q) sz)) (va_Qv (fun (u : va_W) => w10 ty ad o2 = u) (kz_B D ty (va_A (w10 ty ad q) sz)) (va_A (w10 ty ad q) sz)) 0 0 (va_A (w10 ty ad q) sz)) (C : dc_C p s m args meth c cX10_readPlain none 4 RX10 wsX10_readPlain D ty eo A) {k2 : dS → Int32 → Int32 → Option (dS)} (hk2 : ∀ (q : dS) (x1 : Int32) (x2 : Int32) (H : Heap) (locs : List Loc) (ls : Array Slot), k2 q x1 x2 = some o2 → va_P D vwCl (w10 ty ad q) H → va_D A (w10 ty ad q) → va_S A s.heap H locs → lv_has ls 4 [(0, .ref (ad 0)), (1, .int x1), (2, .int x2)] → W p l e ({ frames := 44 + 3 * nT + 1, cells := 0, slots := 0, locals := 1100 + 65 * nT + 21 } : Room) s m args below meth c H locs 0 0 (MQ below (va_Qv (fun (u : va_W) => w10 ty ad o2 = u) (kz_B D ty A) A) args s 0 0 A) (F0 m 2 ls [])) (q : dS) (x1 : Int32) (x2 : Int32) (H : Heap) (locs : List Loc) (ls : Array Slot) (h : zX10_readPlain_2b kT k2 q x1 x2 = some o2) (hP : va_P D vwCl (w10 ty ad q) H) (hD : va_D A (w10 ty ad q)) (hS : va_S A s.heap H locs) (hl : lv_has ls 4 [(0, .ref (ad 0)), (1, .int x1), (2, .int x2)]) : W p l e ({ frames := 44 + 3 * nT + 1, cells := 0, slots := 0, locals := 1100 + 65 * nT + 21 } : Room) s m args below meth c H locs 0 0 (MQ below (va_Qv (fun (u : va_W) => w10 ty ad o2 = u) (kz_B D ty A) A) args s 0 0 A) (F0 m 2 ls []) := by
  have C0 := C
  obtain ⟨hx, hb, hr, hts, hown, hlocks, hml, hK, hN, hE, hA⟩ := C
  unfold zX10_readPlain_2b at h
  refine lv_iload_n hx hb dX10_readPlain_2 rfl (lv_at hl 2 rfl) ?_
  refine lv_if_eq (tgt := 16) hx hb dX10_readPlain_3 (by decide) (fun c9 => ?_) (fun c9 => ?_)
  · rw [if_pos c9] at h
    refine lv_aload_n hx hb dX10_readPlain_16 rfl (lv_at hl 0 rfl) ?_
    obtain ⟨r1, q3, h2, h⟩ := dB_some h
    refine dw_ki (va_runV (As := []) (rest := []) ⟨hx, hb, hml, hown, hts⟩ (qX10_fine l D ty eo _ ad q  r1 q3 h2) (cwV 0 hts gX10_readPlain_X10_fine rfl rfl rfl hd_X10_fine_v ⟨by dsimp only [headSpec]; omega, by dsimp only [headSpec]; omega⟩) (pv10_10_0 hK hN hE hP hD hS hA) rfl rfl hl.1 rfl (lv_room (Nat.le_of_ble_eq_true rfl)) dX10_readPlain_17 ⟨Nat.le_of_ble_eq_true rfl, Nat.le_of_ble_eq_true rfl⟩) hD hS hA (fun r9 u9 H locs hw hp hd hs => ?_)
    clear hP hD hS
    obtain ⟨rfl, rfl⟩ := hw
    have hP := hp; have hD := hd; have hS := hs; clear hp hd hs
    refine lv_if_ne (tgt := 24) hx hb dX10_readPlain_20 (by decide) (fun c9 => ?_) (fun c9 => ?_)
    · rw [if_neg c9] at h
      refine lv_aload_n hx hb dX10_readPlain_24 rfl (lv_at hl 0 rfl) ?_
      refine va_get (D := D) (ci := 10) (v := .ref (ad 9)) (C := RX10) (T := TX10) (N := 56) hx hb hts u9_wsX10_readPlain_X10 hown hK hP 0 rfl rfl 15 (by decide) (hts (.fieldLink RX10 54 "TurnedFloorsModel" "code" "[I") f9_wsX10_readPlain_125) (fun _ h9 => h9) rfl dX10_readPlain_25 ?_
      refine lv_aload_n hx hb dX10_readPlain_28 rfl (lv_at hl 0 rfl) ?_
      refine va_get (D := D) (ci := 10) (v := .int (q3.1 0 19)) (C := RX10) (T := TX10) (N := 56) hx hb hts u9_wsX10_readPlain_X10 hown hK hP 0 rfl rfl 19 (by decide) (hts (.fieldLink RX10 196 "TurnedFloorsModel" "token" "I") f9_wsX10_readPlain_124) (fun _ h9 => h9) rfl dX10_readPlain_29 ?_
      obtain ⟨g4, h⟩ := dG_some h
      refine va_iald hx hb hK hP 9 0 rfl rfl (dg_in g4) dX10_readPlain_32 ?_
      obtain ⟨v5, ev5, h⟩ := dL_some h
      refine kz_topi v5 ev5 ?_
      refine lv_istore_n (lv' := [(3, .int v5), (0, .ref (ad 0)), (1, .int x1), (2, .int x2)]) hx hb dX10_readPlain_33 rfl hl (by decide) rfl (fun ls hl => ?_)
      refine lv_iload_n hx hb dX10_readPlain_34 rfl (lv_at hl 0 rfl) ?_
      refine lv_bipush (v := 40) hx hb dX10_readPlain_35 (by decide) ?_
      obtain ⟨r6, h7, h⟩ := dV_some h
      refine dw_ks (va_runS (As := [.int 40]) (rest := [.int v5]) ⟨hx, hb, hml, hown, hts⟩ (qX10_sign l D ty eo _ 40 _ h7) (va_cwS 1 hts gX10_readPlain_X10_sign rfl rfl rfl hd_X10_sign ⟨by dsimp only [headSpec]; omega, by dsimp only [headSpec]; omega⟩) (pvS_0 hK hN hE hP hD hS hA) rfl rfl hl.1 rfl (lv_room (Nat.le_of_ble_eq_true rfl)) dX10_readPlain_37 ⟨Nat.le_of_ble_eq_true rfl, Nat.le_of_ble_eq_true rfl⟩) hP hD hS hA (fun _ _ h9 => h9.2.symm) (fun r9 u9 H locs hw hp hd hs => ?_)
      obtain ⟨rfl, -⟩ := hw
      clear hP hD hS
      have hP := hp; have hD := hd; have hS := hs; clear hp hd hs
      refine lv_icmp_ne (tgt := 90) hx hb dX10_readPlain_40 (by decide) (fun c9 => ?_) (fun c9 => ?_)
      · rw [if_neg c9] at h
        refine lv_aload_n hx hb dX10_readPlain_90 rfl (lv_at hl 1 rfl) ?_
        refine lv_iload_n hx hb dX10_readPlain_91 rfl (lv_at hl 2 rfl) ?_
        obtain ⟨q10, h9, h⟩ := dV_some h
        refine dw_kv (va_runV (As := [.int x1]) (rest := []) ⟨hx, hb, hml, hown, hts⟩ (qX10_readSum l D ty eo _ ad 10 q3 x1 q10 h9) (cwV 1 hts gX10_readPlain_X10_readSum rfl rfl rfl hd_X10_readSum_v ⟨by dsimp only [headSpec]; omega, by dsimp only [headSpec]; omega⟩) (pv10_10_0 hK hN hE hP hD hS hA) rfl rfl hl.1 rfl (lv_room (Nat.le_of_ble_eq_true rfl)) dX10_readPlain_92 ⟨Nat.le_of_ble_eq_true rfl, Nat.le_of_ble_eq_true rfl⟩) hD hS hA (fun u9 H locs hw hp hd hs => ?_)
        clear hP hD hS
        obtain rfl := hw
        have hP := hp; have hD := hd; have hS := hs; clear hp hd hs
        refine lv_aload_n hx hb dX10_readPlain_95 rfl (lv_at hl 1 rfl) ?_
        refine lv_bipush (v := 60) hx hb dX10_readPlain_96 (by decide) ?_
        obtain ⟨r11, h12, h⟩ := dV_some h
        refine dw_ks (va_runS (As := [.int 60]) (rest := [.ref (ad 0)]) ⟨hx, hb, hml, hown, hts⟩ (qX10_sign l D ty eo _ 60 _ h12) (va_cwS 1 hts gX10_readPlain_X10_sign rfl rfl rfl hd_X10_sign ⟨by dsimp only [headSpec]; omega, by dsimp only [headSpec]; omega⟩) (pvS_0 hK hN hE hP hD hS hA) rfl rfl hl.1 rfl (lv_room (Nat.le_of_ble_eq_true rfl)) dX10_readPlain_98 ⟨Nat.le_of_ble_eq_true rfl, Nat.le_of_ble_eq_true rfl⟩) hP hD hS hA (fun _ _ h9 => h9.2.symm) (fun r9 u9 H locs hw hp hd hs => ?_)
        obtain ⟨rfl, -⟩ := hw
        clear hP hD hS
        have hP := hp; have hD := hd; have hS := hs; clear hp hd hs
        obtain ⟨r13, q15, h14, h⟩ := dB_some h
        refine dw_ki (va_runV (As := [.int r11]) (rest := []) ⟨hx, hb, hml, hown, hts⟩ (qX10_takes0 l D ty eo _ ad q10 r11 r13 q15 h14) (cwV 1 hts gX10_readPlain_X10_takes0 rfl rfl rfl hd_X10_takes0_v ⟨by dsimp only [headSpec]; omega, by dsimp only [headSpec]; omega⟩) (pv10_10_0 hK hN hE hP hD hS hA) rfl rfl hl.1 rfl (lv_room (Nat.le_of_ble_eq_true rfl)) dX10_readPlain_101 ⟨Nat.le_of_ble_eq_true rfl, Nat.le_of_ble_eq_true rfl⟩) hD hS hA (fun r9 u9 H locs hw hp hd hs => ?_)
        clear hP hD hS
        obtain ⟨rfl, rfl⟩ := hw
        have hP := hp; have hD := hd; have hS := hs; clear hp hd hs
        refine lv_if_ne (tgt := 128) hx hb dX10_readPlain_104 (by decide) (fun c9 => ?_) (fun c9 => ?_)
        · rw [if_neg c9] at h
          exact WX10_readPlain_128 hkT C0  _ _ _ _ _ h hP hD hS (lv_sub hl [1, 2] rfl)
        · rw [if_pos c9] at h
          refine lv_aload_n hx hb dX10_readPlain_107 rfl (lv_at hl 1 rfl) ?_
          refine lv_bipush (v := 62) hx hb dX10_readPlain_108 (by decide) ?_
          obtain ⟨r16, h17, h⟩ := dV_some h
          refine dw_ks (va_runS (As := [.int 62]) (rest := [.ref (ad 0)]) ⟨hx, hb, hml, hown, hts⟩ (qX10_sign l D ty eo _ 62 _ h17) (va_cwS 1 hts gX10_readPlain_X10_sign rfl rfl rfl hd_X10_sign ⟨by dsimp only [headSpec]; omega, by dsimp only [headSpec]; omega⟩) (pvS_0 hK hN hE hP hD hS hA) rfl rfl hl.1 rfl (lv_room (Nat.le_of_ble_eq_true rfl)) dX10_readPlain_110 ⟨Nat.le_of_ble_eq_true rfl, Nat.le_of_ble_eq_true rfl⟩) hP hD hS hA (fun _ _ h9 => h9.2.symm) (fun r9 u9 H locs hw hp hd hs => ?_)
          obtain ⟨rfl, -⟩ := hw
          clear hP hD hS
          have hP := hp; have hD := hd; have hS := hs; clear hp hd hs
          obtain ⟨r18, q20, h19, h⟩ := dB_some h
          refine dw_ki (va_runV (As := [.int r16]) (rest := []) ⟨hx, hb, hml, hown, hts⟩ (qX10_takes0 l D ty eo _ ad q15 r16 r18 q20 h19) (cwV 1 hts gX10_readPlain_X10_takes0 rfl rfl rfl hd_X10_takes0_v ⟨by dsimp only [headSpec]; omega, by dsimp only [headSpec]; omega⟩) (pv10_10_0 hK hN hE hP hD hS hA) rfl rfl hl.1 rfl (lv_room (Nat.le_of_ble_eq_true rfl)) dX10_readPlain_113 ⟨Nat.le_of_ble_eq_true rfl, Nat.le_of_ble_eq_true rfl⟩) hD hS hA (fun r9 u9 H locs hw hp hd hs => ?_)
          clear hP hD hS
          obtain ⟨rfl, rfl⟩ := hw
          have hP := hp; have hD := hd; have hS := hs; clear hp hd hs
          refine lv_if_ne (tgt := 128) hx hb dX10_readPlain_116 (by decide) (fun c9 => ?_) (fun c9 => ?_)
          · rw [if_neg c9] at h
            exact WX10_readPlain_128 hkT C0  _ _ _ _ _ h hP hD hS (lv_sub hl [1, 2] rfl)
          · rw [if_pos c9] at h
            refine lv_aload_n hx hb dX10_readPlain_119 rfl (lv_at hl 1 rfl) ?_
            refine lv_bipush (v := 61) hx hb dX10_readPlain_120 (by decide) ?_
            obtain ⟨r21, h22, h⟩ := dV_some h
            refine dw_ks (va_runS (As := [.int 61]) (rest := [.ref (ad 0)]) ⟨hx, hb, hml, hown, hts⟩ (qX10_sign l D ty eo _ 61 _ h22) (va_cwS 1 hts gX10_readPlain_X10_sign rfl rfl rfl hd_X10_sign ⟨by dsimp only [headSpec]; omega, by dsimp only [headSpec]; omega⟩) (pvS_0 hK hN hE hP hD hS hA) rfl rfl hl.1 rfl (lv_room (Nat.le_of_ble_eq_true rfl)) dX10_readPlain_122 ⟨Nat.le_of_ble_eq_true rfl, Nat.le_of_ble_eq_true rfl⟩) hP hD hS hA (fun _ _ h9 => h9.2.symm) (fun r9 u9 H locs hw hp hd hs => ?_)
            obtain ⟨rfl, -⟩ := hw
            clear hP hD hS
            have hP := hp; have hD := hd; have hS := hs; clear hp hd hs
            obtain ⟨q25, h24, h⟩ := dV_some h
            refine dw_kv (va_runV (As := [.int r21]) (rest := []) ⟨hx, hb, hml, hown, hts⟩ (qX10_must l D ty eo _ ad q20 r21 q25 h24) (cwV 1 hts gX10_readPlain_X10_must rfl rfl rfl hd_X10_must_v ⟨by dsimp only [headSpec]; omega, by dsimp only [headSpec]; omega⟩) (pv10_10_0 hK hN hE hP hD hS hA) rfl rfl hl.1 rfl (lv_room (Nat.le_of_ble_eq_true rfl)) dX10_readPlain_125 ⟨Nat.le_of_ble_eq_true rfl, Nat.le_of_ble_eq_true rfl⟩) hD hS hA (fun u9 H locs hw hp hd hs => ?_)
            clear hP hD hS
            obtain rfl := hw
            have hP := hp; have hD := hd; have hS := hs; clear hp hd hs
            exact WX10_readPlain_128 hkT C0  _ _ _ _ _ h hP hD hS (lv_sub hl [1, 2] rfl)
      · rw [if_pos c9] at h
        refine lv_iload_n hx hb dX10_readPlain_43 rfl (lv_at hl 2 rfl) ?_
        refine lv_bipush (v := 8) hx hb dX10_readPlain_44 (by decide) ?_
        refine lv_icmp_ne (tgt := 53) hx hb dX10_readPlain_46 (by decide) (fun c9 => ?_) (fun c9 => ?_)
        · rw [if_neg c9] at h
          exact WX10_readPlain_53 hkT C0  _ _ _ _ _ h hP hD hS (lv_sub hl [1, 2] rfl)
        · rw [if_pos c9] at h
          refine lv_aload_n hx hb dX10_readPlain_49 rfl (lv_at hl 1 rfl) ?_
          obtain ⟨q28, h27, h⟩ := dV_some h
          refine dw_kv (va_runV (As := []) (rest := []) ⟨hx, hb, hml, hown, hts⟩ (qX10_faults l D ty eo _ ad q3  q28 h27) (cwV 0 hts gX10_readPlain_X10_faults rfl rfl rfl hd_X10_faults_v ⟨by dsimp only [headSpec]; omega, by dsimp only [headSpec]; omega⟩) (pv10_10_0 hK hN hE hP hD hS hA) rfl rfl hl.1 rfl (lv_room (Nat.le_of_ble_eq_true rfl)) dX10_readPlain_50 ⟨Nat.le_of_ble_eq_true rfl, Nat.le_of_ble_eq_true rfl⟩) hD hS hA (fun u9 H locs hw hp hd hs => ?_)
          clear hP hD hS
          obtain rfl := hw
          have hP := hp; have hD := hd; have hS := hs; clear hp hd hs
          exact WX10_readPlain_53 hkT C0  _ _ _ _ _ h hP hD hS (lv_sub hl [1, 2] rfl)
    · rw [if_pos c9] at h
      cases h
      exact kz_vret hx hb hr hlocks hP hK hD hS dX10_readPlain_23 rfl
  · rw [if_neg c9] at h
    refine lv_aload_n hx hb dX10_readPlain_6 rfl (lv_at hl 0 rfl) ?_
    refine lv_bipush (v := 7) hx hb dX10_readPlain_7 (by decide) ?_
    obtain ⟨r29, q31, h30, h⟩ := dB_some h
    refine dw_ki (va_runV (As := [.int 7]) (rest := []) ⟨hx, hb, hml, hown, hts⟩ (qX10_takes0 l D ty eo _ ad q 7 r29 q31 h30) (cwV 1 hts gX10_readPlain_X10_takes0 rfl rfl rfl hd_X10_takes0_v ⟨by dsimp only [headSpec]; omega, by dsimp only [headSpec]; omega⟩) (pv10_10_0 hK hN hE hP hD hS hA) rfl rfl hl.1 rfl (lv_room (Nat.le_of_ble_eq_true rfl)) dX10_readPlain_9 ⟨Nat.le_of_ble_eq_true rfl, Nat.le_of_ble_eq_true rfl⟩) hD hS hA (fun r9 u9 H locs hw hp hd hs => ?_)
    clear hP hD hS
    obtain ⟨rfl, rfl⟩ := hw
    have hP := hp; have hD := hd; have hS := hs; clear hp hd hs
    refine lv_istore_n (lv' := [(2, .int r29), (0, .ref (ad 0)), (1, .int x1)]) hx hb dX10_readPlain_12 rfl hl (by decide) rfl (fun ls hl => ?_)
    refine lv_goto (tgt := 2) hx hb dX10_readPlain_13 (by decide) ?_
    exact hk2 _ _ _ _ _ _ h hP hD hS (lv_sub hl [1, 2, 0] rfl)
set_option maxHeartbeats 4000000 in
set_option maxRecDepth 100000 in
theorem WX10_readPlain_2 {p : Program} {l : Launch} {e : Env} {s : State} {m : MethodId} {args : Array Value} {below : List Frame} {meth : Method} {c : Code} {D : va_G} {ty : Nat → ClassId} {eo : Nat → Nat} {A : Nat → Prop} {ad : Nat → Nat} {o2 : dS} {kT : dS → Int32 → Option (dS)} {nT : Nat} (hkT : ∀ (sz : Nat) (q : dS) (p1 : Int32) (o2 : dS), kT q p1 = some o2 → Met l yX10_readTest wsX10_readTest ({ frames := 44 + 3 * nT, cells := 0, slots := 0, locals := 1100 + 65 * nT } : Room) (va_Pc [.ref (ad 0), .int p1] (kz_pre D ty eo (w10 ty ad q) sz)) (va_Qv (fun (u : va_W) => w10 ty ad o2 = u) (kz_B D ty (va_A (w10 ty ad q) sz)) (va_A (w10 ty ad q) sz)) 0 0 (va_A (w10 ty ad q) sz)) (C : dc_C p s m args meth c cX10_readPlain none 4 RX10 wsX10_readPlain D ty eo A)   (n : Nat) (q : dS) (x1 : Int32) (x2 : Int32) (H : Heap) (locs : List Loc) (ls : Array Slot) (h : zX10_readPlain_2 kT  n q x1 x2 = some o2) (hP : va_P D vwCl (w10 ty ad q) H) (hD : va_D A (w10 ty ad q)) (hS : va_S A s.heap H locs) (hl : lv_has ls 4 [(0, .ref (ad 0)), (1, .int x1), (2, .int x2)]) : W p l e ({ frames := 44 + 3 * nT + 1, cells := 0, slots := 0, locals := 1100 + 65 * nT + 21 } : Room) s m args below meth c H locs 0 0 (MQ below (va_Qv (fun (u : va_W) => w10 ty ad o2 = u) (kz_B D ty A) A) args s 0 0 A) (F0 m 2 ls []) := by
  exact dFix_W (F := fun k (a : dS × Int32 × Int32) => zX10_readPlain_2b kT  (fun q x1 x2 => k (q, x1, x2)) a.1 a.2.1 a.2.2) (o := o2) (P := fun (a : dS × Int32 × Int32) H locs ls => va_P D vwCl (w10 ty ad a.1) H ∧ va_D A (w10 ty ad a.1) ∧ va_S A s.heap H locs ∧ lv_has ls 4 [(0, .ref (ad 0)), (1, .int a.2.1), (2, .int a.2.2)]) (G := fun H locs ls => W p l e ({ frames := 44 + 3 * nT + 1, cells := 0, slots := 0, locals := 1100 + 65 * nT + 21 } : Room) s m args below meth c H locs 0 0 (MQ below (va_Qv (fun (u : va_W) => w10 ty ad o2 = u) (kz_B D ty A) A) args s 0 0 A) (F0 m 2 ls []))
    (fun k hk a H locs ls h hp => WX10_readPlain_2b hkT C  (fun q x1 x2 H locs ls h h1 h2 h3 h4 => hk (q, x1, x2) H locs ls h ⟨h1, h2, h3, h4⟩) a.1 a.2.1 a.2.2 H locs ls h hp.1 hp.2.1 hp.2.2.1 hp.2.2.2) n (q, x1, x2) H locs ls h ⟨hP, hD, hS, hl⟩
set_option maxHeartbeats 4000000 in
set_option maxRecDepth 100000 in
theorem qX10_readPlain (l : Launch) (D : va_G) (ty : Nat → ClassId) (eo : Nat → Nat) (sz : Nat) (ad : Nat → Nat) (kT : dS → Int32 → Option (dS)) (nT : Nat) (hkT : ∀ (sz : Nat) (q : dS) (p1 : Int32) (o2 : dS), kT q p1 = some o2 → Met l yX10_readTest wsX10_readTest ({ frames := 44 + 3 * nT, cells := 0, slots := 0, locals := 1100 + 65 * nT } : Room) (va_Pc [.ref (ad 0), .int p1] (kz_pre D ty eo (w10 ty ad q) sz)) (va_Qv (fun (u : va_W) => w10 ty ad o2 = u) (kz_B D ty (va_A (w10 ty ad q) sz)) (va_A (w10 ty ad q) sz)) 0 0 (va_A (w10 ty ad q) sz)) (q : dS) (p1 : Int32) (o2 : dS) (h : zX10_readPlain kT q p1 = some o2) : Met l yX10_readPlain wsX10_readPlain ({ frames := 44 + 3 * nT + 1, cells := 0, slots := 0, locals := 1100 + 65 * nT + 21 } : Room) (va_Pc [.ref (ad 0), .int p1] (kz_pre D ty eo (w10 ty ad q) sz)) (va_Qv (fun (u : va_W) => w10 ty ad o2 = u) (kz_B D ty (va_A (w10 ty ad q) sz)) (va_A (w10 ty ad q) sz)) 0 0 (va_A (w10 ty ad q) sz) := by
  refine Met.ofW (cc := cX10_readPlain) (maxL := 4) (ret := none) (by decide) rfl ?_
  intro p e s m args below meth c s₁ B hml hv
  obtain ⟨rfl, hsz, hP, hK, hD0, hN, hE⟩ := hv
  have hx := B.exec
  have hb := B.bytes
  have hr := B.returns
  have hts := atoms_spec (ws := wsX10_readPlain) B.pre
  have hown : s.vm.findClass RX10 = some m.cls := findClass_of_methodNamed B.named
  have hlocks := B.notSynchronized
  subst hsz
  have hD := hD0.self (sz := s.heap.size)
  generalize hAe : va_A (w10 ty ad q) s.heap.size = A at hD hE ⊢
  have hA : ∀ q : Nat, s.heap.size ≤ q → A q := fun q h => by rw [← hAe]; exact Or.inr h
  clear hAe
  have hS : va_S A s.heap s.heap [] := va_S.rf
  have hl := lv_entry ([.ref (ad 0), .int p1]) (n := 4) (Nat.le_of_ble_eq_true rfl)
  rw [lg_entry_eq]
  generalize (lg_sl ([.ref (ad 0), .int p1]) ++ List.replicate (4 - (lg_sl ([.ref (ad 0), .int p1])).length) Slot.unset).toArray = ls at hl ⊢
  have hl : lv_has ls 4 [(0, .ref (ad 0)), (1, .int p1)] := hl
  have C : dc_C p s m _ meth c cX10_readPlain none 4 RX10 wsX10_readPlain D ty eo A := ⟨hx, hb, hr, hts, hown, hlocks, hml, hK, hN, hE, hA⟩
  unfold zX10_readPlain at h
  refine lv_iconst (v := 1) hx hb dX10_readPlain_0 (by decide) ?_
  refine lv_istore_n (lv' := [(2, .int 1), (0, .ref (ad 0)), (1, .int p1)]) hx hb dX10_readPlain_1 rfl hl (by decide) rfl (fun ls hl => ?_)
  exact WX10_readPlain_2 hkT C  _ _ _ _ _ _ _ h hP hD hS (lv_sub hl [1, 2, 0] rfl)

set_option maxHeartbeats 4000000 in
set_option maxRecDepth 100000 in
theorem WX10_readBoth_5b {p : Program} {l : Launch} {e : Env} {s : State} {m : MethodId} {args : Array Value} {below : List Frame} {meth : Method} {c : Code} {D : va_G} {ty : Nat → ClassId} {eo : Nat → Nat} {A : Nat → Prop} {ad : Nat → Nat} {o2 : dS} {kT : dS → Int32 → Option (dS)} {nT : Nat} (hkT : ∀ (sz : Nat) (q : dS) (p1 : Int32) (o2 : dS), kT q p1 = some o2 → Met l yX10_readTest wsX10_readTest ({ frames := 44 + 3 * nT, cells := 0, slots := 0, locals := 1100 + 65 * nT } : Room) (va_Pc [.ref (ad 0), .int p1] (kz_pre D ty eo (w10 ty ad q) sz)) (va_Qv (fun (u : va_W) => w10 ty ad o2 = u) (kz_B D ty (va_A (w10 ty ad q) sz)) (va_A (w10 ty ad q) sz)) 0 0 (va_A (w10 ty ad q) sz)) (C : dc_C p s m args meth c cX10_readBoth none 2 RX10 wsX10_readBoth D ty eo A) {k5 : dS → Int32 → Option (dS)} (hk5 : ∀ (q : dS) (x1 : Int32) (H : Heap) (locs : List Loc) (ls : Array Slot), k5 q x1 = some o2 → va_P D vwCl (w10 ty ad q) H → va_D A (w10 ty ad q) → va_S A s.heap H locs → lv_has ls 2 [(0, .ref (ad 0)), (1, .int x1)] → W p l e ({ frames := 44 + 3 * nT + 2, cells := 0, slots := 0, locals := 1100 + 65 * nT + 44 } : Room) s m args below meth c H locs 0 0 (MQ below (va_Qv (fun (u : va_W) => w10 ty ad o2 = u) (kz_B D ty A) A) args s 0 0 A) (F0 m 5 ls [])) (q : dS) (x1 : Int32) (H : Heap) (locs : List Loc) (ls : Array Slot) (h : zX10_readBoth_5b kT k5 q x1 = some o2) (hP : va_P D vwCl (w10 ty ad q) H) (hD : va_D A (w10 ty ad q)) (hS : va_S A s.heap H locs) (hl : lv_has ls 2 [(0, .ref (ad 0)), (1, .int x1)]) : W p l e ({ frames := 44 + 3 * nT + 2, cells := 0, slots := 0, locals := 1100 + 65 * nT + 44 } : Room) s m args below meth c H locs 0 0 (MQ below (va_Qv (fun (u : va_W) => w10 ty ad o2 = u) (kz_B D ty A) A) args s 0 0 A) (F0 m 5 ls []) := by
  have C0 := C
  obtain ⟨hx, hb, hr, hts, hown, hlocks, hml, hK, hN, hE, hA⟩ := C
  unfold zX10_readBoth_5b at h
  refine lv_aload_n hx hb dX10_readBoth_5 rfl (lv_at hl 0 rfl) ?_
  refine lv_bipush (v := 6) hx hb dX10_readBoth_6 (by decide) ?_
  obtain ⟨r1, q3, h2, h⟩ := dB_some h
  refine dw_ki (va_runV (As := [.int 6]) (rest := []) ⟨hx, hb, hml, hown, hts⟩ (qX10_takes0 l D ty eo _ ad q 6 r1 q3 h2) (cwV 1 hts gX10_readBoth_X10_takes0 rfl rfl rfl hd_X10_takes0_v ⟨by dsimp only [headSpec]; omega, by dsimp only [headSpec]; omega⟩) (pv10_10_0 hK hN hE hP hD hS hA) rfl rfl hl.1 rfl (lv_room (Nat.le_of_ble_eq_true rfl)) dX10_readBoth_8 ⟨Nat.le_of_ble_eq_true rfl, Nat.le_of_ble_eq_true rfl⟩) hD hS hA (fun r9 u9 H locs hw hp hd hs => ?_)
  clear hP hD hS
  obtain ⟨rfl, rfl⟩ := hw
  have hP := hp; have hD := hd; have hS := hs; clear hp hd hs
  refine lv_if_eq (tgt := 22) hx hb dX10_readBoth_11 (by decide) (fun c9 => ?_) (fun c9 => ?_)
  · rw [if_pos c9] at h
    cases h
    exact kz_vret hx hb hr hlocks hP hK hD hS dX10_readBoth_22 rfl
  · rw [if_neg c9] at h
    refine lv_aload_n hx hb dX10_readBoth_14 rfl (lv_at hl 0 rfl) ?_
    refine lv_iload_n hx hb dX10_readBoth_15 rfl (lv_at hl 1 rfl) ?_
    obtain ⟨q6, h5, h⟩ := dV_some h
    refine dw_kv (va_runV (As := [.int x1]) (rest := []) ⟨hx, hb, hml, hown, hts⟩ (qX10_readPlain l D ty eo _ ad kT nT hkT q3 x1 q6 h5) (cwV 1 hts gX10_readBoth_X10_readPlain rfl rfl rfl hd_X10_readPlain_v ⟨by dsimp only [headSpec]; omega, by dsimp only [headSpec]; omega⟩) (pv10_10_0 hK hN hE hP hD hS hA) rfl rfl hl.1 rfl (lv_room (Nat.le_of_ble_eq_true rfl)) dX10_readBoth_16 ⟨Nat.le_of_ble_eq_true rfl, Nat.le_of_ble_eq_true rfl⟩) hD hS hA (fun u9 H locs hw hp hd hs => ?_)
    clear hP hD hS
    obtain rfl := hw
    have hP := hp; have hD := hd; have hS := hs; clear hp hd hs
    refine lv_goto (tgt := 5) hx hb dX10_readBoth_19 (by decide) ?_
    exact hk5 _ _ _ _ _ h hP hD hS (lv_sub hl [0, 1] rfl)
set_option maxHeartbeats 4000000 in
set_option maxRecDepth 100000 in
theorem WX10_readBoth_5 {p : Program} {l : Launch} {e : Env} {s : State} {m : MethodId} {args : Array Value} {below : List Frame} {meth : Method} {c : Code} {D : va_G} {ty : Nat → ClassId} {eo : Nat → Nat} {A : Nat → Prop} {ad : Nat → Nat} {o2 : dS} {kT : dS → Int32 → Option (dS)} {nT : Nat} (hkT : ∀ (sz : Nat) (q : dS) (p1 : Int32) (o2 : dS), kT q p1 = some o2 → Met l yX10_readTest wsX10_readTest ({ frames := 44 + 3 * nT, cells := 0, slots := 0, locals := 1100 + 65 * nT } : Room) (va_Pc [.ref (ad 0), .int p1] (kz_pre D ty eo (w10 ty ad q) sz)) (va_Qv (fun (u : va_W) => w10 ty ad o2 = u) (kz_B D ty (va_A (w10 ty ad q) sz)) (va_A (w10 ty ad q) sz)) 0 0 (va_A (w10 ty ad q) sz)) (C : dc_C p s m args meth c cX10_readBoth none 2 RX10 wsX10_readBoth D ty eo A)   (n : Nat) (q : dS) (x1 : Int32) (H : Heap) (locs : List Loc) (ls : Array Slot) (h : zX10_readBoth_5 kT  n q x1 = some o2) (hP : va_P D vwCl (w10 ty ad q) H) (hD : va_D A (w10 ty ad q)) (hS : va_S A s.heap H locs) (hl : lv_has ls 2 [(0, .ref (ad 0)), (1, .int x1)]) : W p l e ({ frames := 44 + 3 * nT + 2, cells := 0, slots := 0, locals := 1100 + 65 * nT + 44 } : Room) s m args below meth c H locs 0 0 (MQ below (va_Qv (fun (u : va_W) => w10 ty ad o2 = u) (kz_B D ty A) A) args s 0 0 A) (F0 m 5 ls []) := by
  exact dFix_W (F := fun k (a : dS × Int32) => zX10_readBoth_5b kT  (fun q x1 => k (q, x1)) a.1 a.2) (o := o2) (P := fun (a : dS × Int32) H locs ls => va_P D vwCl (w10 ty ad a.1) H ∧ va_D A (w10 ty ad a.1) ∧ va_S A s.heap H locs ∧ lv_has ls 2 [(0, .ref (ad 0)), (1, .int a.2)]) (G := fun H locs ls => W p l e ({ frames := 44 + 3 * nT + 2, cells := 0, slots := 0, locals := 1100 + 65 * nT + 44 } : Room) s m args below meth c H locs 0 0 (MQ below (va_Qv (fun (u : va_W) => w10 ty ad o2 = u) (kz_B D ty A) A) args s 0 0 A) (F0 m 5 ls []))
    (fun k hk a H locs ls h hp => WX10_readBoth_5b hkT C  (fun q x1 H locs ls h h1 h2 h3 h4 => hk (q, x1) H locs ls h ⟨h1, h2, h3, h4⟩) a.1 a.2 H locs ls h hp.1 hp.2.1 hp.2.2.1 hp.2.2.2) n (q, x1) H locs ls h ⟨hP, hD, hS, hl⟩
set_option maxHeartbeats 4000000 in
set_option maxRecDepth 100000 in
theorem qX10_readBoth (l : Launch) (D : va_G) (ty : Nat → ClassId) (eo : Nat → Nat) (sz : Nat) (ad : Nat → Nat) (kT : dS → Int32 → Option (dS)) (nT : Nat) (hkT : ∀ (sz : Nat) (q : dS) (p1 : Int32) (o2 : dS), kT q p1 = some o2 → Met l yX10_readTest wsX10_readTest ({ frames := 44 + 3 * nT, cells := 0, slots := 0, locals := 1100 + 65 * nT } : Room) (va_Pc [.ref (ad 0), .int p1] (kz_pre D ty eo (w10 ty ad q) sz)) (va_Qv (fun (u : va_W) => w10 ty ad o2 = u) (kz_B D ty (va_A (w10 ty ad q) sz)) (va_A (w10 ty ad q) sz)) 0 0 (va_A (w10 ty ad q) sz)) (q : dS) (p1 : Int32) (o2 : dS) (h : zX10_readBoth kT q p1 = some o2) : Met l yX10_readBoth wsX10_readBoth ({ frames := 44 + 3 * nT + 2, cells := 0, slots := 0, locals := 1100 + 65 * nT + 44 } : Room) (va_Pc [.ref (ad 0), .int p1] (kz_pre D ty eo (w10 ty ad q) sz)) (va_Qv (fun (u : va_W) => w10 ty ad o2 = u) (kz_B D ty (va_A (w10 ty ad q) sz)) (va_A (w10 ty ad q) sz)) 0 0 (va_A (w10 ty ad q) sz) := by
  refine Met.ofW (cc := cX10_readBoth) (maxL := 2) (ret := none) (by decide) rfl ?_
  intro p e s m args below meth c s₁ B hml hv
  obtain ⟨rfl, hsz, hP, hK, hD0, hN, hE⟩ := hv
  have hx := B.exec
  have hb := B.bytes
  have hr := B.returns
  have hts := atoms_spec (ws := wsX10_readBoth) B.pre
  have hown : s.vm.findClass RX10 = some m.cls := findClass_of_methodNamed B.named
  have hlocks := B.notSynchronized
  subst hsz
  have hD := hD0.self (sz := s.heap.size)
  generalize hAe : va_A (w10 ty ad q) s.heap.size = A at hD hE ⊢
  have hA : ∀ q : Nat, s.heap.size ≤ q → A q := fun q h => by rw [← hAe]; exact Or.inr h
  clear hAe
  have hS : va_S A s.heap s.heap [] := va_S.rf
  have hl := lv_entry ([.ref (ad 0), .int p1]) (n := 2) (Nat.le_of_ble_eq_true rfl)
  rw [lg_entry_eq]
  generalize (lg_sl ([.ref (ad 0), .int p1]) ++ List.replicate (2 - (lg_sl ([.ref (ad 0), .int p1])).length) Slot.unset).toArray = ls at hl ⊢
  have hl : lv_has ls 2 [(0, .ref (ad 0)), (1, .int p1)] := hl
  have C : dc_C p s m _ meth c cX10_readBoth none 2 RX10 wsX10_readBoth D ty eo A := ⟨hx, hb, hr, hts, hown, hlocks, hml, hK, hN, hE, hA⟩
  unfold zX10_readBoth at h
  refine lv_aload_n hx hb dX10_readBoth_0 rfl (lv_at hl 0 rfl) ?_
  refine lv_iload_n hx hb dX10_readBoth_1 rfl (lv_at hl 1 rfl) ?_
  obtain ⟨q3, h2, h⟩ := dV_some h
  refine dw_kv (va_runV (As := [.int p1]) (rest := []) ⟨hx, hb, hml, hown, hts⟩ (qX10_readPlain l D ty eo _ ad kT nT hkT q p1 q3 h2) (cwV 1 hts gX10_readBoth_X10_readPlain rfl rfl rfl hd_X10_readPlain_v ⟨by dsimp only [headSpec]; omega, by dsimp only [headSpec]; omega⟩) (pv10_10_0 hK hN hE hP hD hS hA) rfl rfl hl.1 rfl (lv_room (Nat.le_of_ble_eq_true rfl)) dX10_readBoth_2 ⟨Nat.le_of_ble_eq_true rfl, Nat.le_of_ble_eq_true rfl⟩) hD hS hA (fun u9 H locs hw hp hd hs => ?_)
  clear hP hD hS
  obtain rfl := hw
  have hP := hp; have hD := hd; have hS := hs; clear hp hd hs
  exact WX10_readBoth_5 hkT C  _ _ _ _ _ _ h hP hD hS (lv_sub hl [0, 1] rfl)

set_option maxHeartbeats 4000000 in
set_option maxRecDepth 100000 in
theorem WX10_readTest_5b {p : Program} {l : Launch} {e : Env} {s : State} {m : MethodId} {args : Array Value} {below : List Frame} {meth : Method} {c : Code} {D : va_G} {ty : Nat → ClassId} {eo : Nat → Nat} {A : Nat → Prop} {ad : Nat → Nat} {o2 : dS} {kT : dS → Int32 → Option (dS)} {nT : Nat} (hkT : ∀ (sz : Nat) (q : dS) (p1 : Int32) (o2 : dS), kT q p1 = some o2 → Met l yX10_readTest wsX10_readTest ({ frames := 44 + 3 * nT, cells := 0, slots := 0, locals := 1100 + 65 * nT } : Room) (va_Pc [.ref (ad 0), .int p1] (kz_pre D ty eo (w10 ty ad q) sz)) (va_Qv (fun (u : va_W) => w10 ty ad o2 = u) (kz_B D ty (va_A (w10 ty ad q) sz)) (va_A (w10 ty ad q) sz)) 0 0 (va_A (w10 ty ad q) sz)) (C : dc_C p s m args meth c cX10_readTest none 2 RX10 wsX10_readTest D ty eo A) {k5 : dS → Int32 → Option (dS)} (hk5 : ∀ (q : dS) (x1 : Int32) (H : Heap) (locs : List Loc) (ls : Array Slot), k5 q x1 = some o2 → va_P D vwCl (w10 ty ad q) H → va_D A (w10 ty ad q) → va_S A s.heap H locs → lv_has ls 2 [(0, .ref (ad 0)), (1, .int x1)] → W p l e ({ frames := 44 + 3 * nT + 3, cells := 0, slots := 0, locals := 1100 + 65 * nT + 65 } : Room) s m args below meth c H locs 0 0 (MQ below (va_Qv (fun (u : va_W) => w10 ty ad o2 = u) (kz_B D ty A) A) args s 0 0 A) (F0 m 5 ls [])) (q : dS) (x1 : Int32) (H : Heap) (locs : List Loc) (ls : Array Slot) (h : zX10_readTest_5b kT k5 q x1 = some o2) (hP : va_P D vwCl (w10 ty ad q) H) (hD : va_D A (w10 ty ad q)) (hS : va_S A s.heap H locs) (hl : lv_has ls 2 [(0, .ref (ad 0)), (1, .int x1)]) : W p l e ({ frames := 44 + 3 * nT + 3, cells := 0, slots := 0, locals := 1100 + 65 * nT + 65 } : Room) s m args below meth c H locs 0 0 (MQ below (va_Qv (fun (u : va_W) => w10 ty ad o2 = u) (kz_B D ty A) A) args s 0 0 A) (F0 m 5 ls []) := by
  have C0 := C
  obtain ⟨hx, hb, hr, hts, hown, hlocks, hml, hK, hN, hE, hA⟩ := C
  unfold zX10_readTest_5b at h
  refine lv_aload_n hx hb dX10_readTest_5 rfl (lv_at hl 0 rfl) ?_
  refine lv_iconst (v := 5) hx hb dX10_readTest_6 (by decide) ?_
  obtain ⟨r1, q3, h2, h⟩ := dB_some h
  refine dw_ki (va_runV (As := [.int 5]) (rest := []) ⟨hx, hb, hml, hown, hts⟩ (qX10_takes0 l D ty eo _ ad q 5 r1 q3 h2) (cwV 1 hts gX10_readTest_X10_takes0 rfl rfl rfl hd_X10_takes0_v ⟨by dsimp only [headSpec]; omega, by dsimp only [headSpec]; omega⟩) (pv10_10_0 hK hN hE hP hD hS hA) rfl rfl hl.1 rfl (lv_room (Nat.le_of_ble_eq_true rfl)) dX10_readTest_7 ⟨Nat.le_of_ble_eq_true rfl, Nat.le_of_ble_eq_true rfl⟩) hD hS hA (fun r9 u9 H locs hw hp hd hs => ?_)
  clear hP hD hS
  obtain ⟨rfl, rfl⟩ := hw
  have hP := hp; have hD := hd; have hS := hs; clear hp hd hs
  refine lv_if_eq (tgt := 21) hx hb dX10_readTest_10 (by decide) (fun c9 => ?_) (fun c9 => ?_)
  · rw [if_pos c9] at h
    cases h
    exact kz_vret hx hb hr hlocks hP hK hD hS dX10_readTest_21 rfl
  · rw [if_neg c9] at h
    refine lv_aload_n hx hb dX10_readTest_13 rfl (lv_at hl 0 rfl) ?_
    refine lv_iload_n hx hb dX10_readTest_14 rfl (lv_at hl 1 rfl) ?_
    obtain ⟨q6, h5, h⟩ := dV_some h
    refine dw_kv (va_runV (As := [.int x1]) (rest := []) ⟨hx, hb, hml, hown, hts⟩ (qX10_readBoth l D ty eo _ ad kT nT hkT q3 x1 q6 h5) (cwV 1 hts gX10_readTest_X10_readBoth rfl rfl rfl hd_X10_readBoth_v ⟨by dsimp only [headSpec]; omega, by dsimp only [headSpec]; omega⟩) (pv10_10_0 hK hN hE hP hD hS hA) rfl rfl hl.1 rfl (lv_room (Nat.le_of_ble_eq_true rfl)) dX10_readTest_15 ⟨Nat.le_of_ble_eq_true rfl, Nat.le_of_ble_eq_true rfl⟩) hD hS hA (fun u9 H locs hw hp hd hs => ?_)
    clear hP hD hS
    obtain rfl := hw
    have hP := hp; have hD := hd; have hS := hs; clear hp hd hs
    refine lv_goto (tgt := 5) hx hb dX10_readTest_18 (by decide) ?_
    exact hk5 _ _ _ _ _ h hP hD hS (lv_sub hl [0, 1] rfl)
set_option maxHeartbeats 4000000 in
set_option maxRecDepth 100000 in
theorem WX10_readTest_5 {p : Program} {l : Launch} {e : Env} {s : State} {m : MethodId} {args : Array Value} {below : List Frame} {meth : Method} {c : Code} {D : va_G} {ty : Nat → ClassId} {eo : Nat → Nat} {A : Nat → Prop} {ad : Nat → Nat} {o2 : dS} {kT : dS → Int32 → Option (dS)} {nT : Nat} (hkT : ∀ (sz : Nat) (q : dS) (p1 : Int32) (o2 : dS), kT q p1 = some o2 → Met l yX10_readTest wsX10_readTest ({ frames := 44 + 3 * nT, cells := 0, slots := 0, locals := 1100 + 65 * nT } : Room) (va_Pc [.ref (ad 0), .int p1] (kz_pre D ty eo (w10 ty ad q) sz)) (va_Qv (fun (u : va_W) => w10 ty ad o2 = u) (kz_B D ty (va_A (w10 ty ad q) sz)) (va_A (w10 ty ad q) sz)) 0 0 (va_A (w10 ty ad q) sz)) (C : dc_C p s m args meth c cX10_readTest none 2 RX10 wsX10_readTest D ty eo A)   (n : Nat) (q : dS) (x1 : Int32) (H : Heap) (locs : List Loc) (ls : Array Slot) (h : zX10_readTest_5 kT  n q x1 = some o2) (hP : va_P D vwCl (w10 ty ad q) H) (hD : va_D A (w10 ty ad q)) (hS : va_S A s.heap H locs) (hl : lv_has ls 2 [(0, .ref (ad 0)), (1, .int x1)]) : W p l e ({ frames := 44 + 3 * nT + 3, cells := 0, slots := 0, locals := 1100 + 65 * nT + 65 } : Room) s m args below meth c H locs 0 0 (MQ below (va_Qv (fun (u : va_W) => w10 ty ad o2 = u) (kz_B D ty A) A) args s 0 0 A) (F0 m 5 ls []) := by
  exact dFix_W (F := fun k (a : dS × Int32) => zX10_readTest_5b kT  (fun q x1 => k (q, x1)) a.1 a.2) (o := o2) (P := fun (a : dS × Int32) H locs ls => va_P D vwCl (w10 ty ad a.1) H ∧ va_D A (w10 ty ad a.1) ∧ va_S A s.heap H locs ∧ lv_has ls 2 [(0, .ref (ad 0)), (1, .int a.2)]) (G := fun H locs ls => W p l e ({ frames := 44 + 3 * nT + 3, cells := 0, slots := 0, locals := 1100 + 65 * nT + 65 } : Room) s m args below meth c H locs 0 0 (MQ below (va_Qv (fun (u : va_W) => w10 ty ad o2 = u) (kz_B D ty A) A) args s 0 0 A) (F0 m 5 ls []))
    (fun k hk a H locs ls h hp => WX10_readTest_5b hkT C  (fun q x1 H locs ls h h1 h2 h3 h4 => hk (q, x1) H locs ls h ⟨h1, h2, h3, h4⟩) a.1 a.2 H locs ls h hp.1 hp.2.1 hp.2.2.1 hp.2.2.2) n (q, x1) H locs ls h ⟨hP, hD, hS, hl⟩
set_option maxHeartbeats 4000000 in
set_option maxRecDepth 100000 in
theorem qX10_readTest_o (l : Launch) (D : va_G) (ty : Nat → ClassId) (eo : Nat → Nat) (sz : Nat) (ad : Nat → Nat) (kT : dS → Int32 → Option (dS)) (nT : Nat) (hkT : ∀ (sz : Nat) (q : dS) (p1 : Int32) (o2 : dS), kT q p1 = some o2 → Met l yX10_readTest wsX10_readTest ({ frames := 44 + 3 * nT, cells := 0, slots := 0, locals := 1100 + 65 * nT } : Room) (va_Pc [.ref (ad 0), .int p1] (kz_pre D ty eo (w10 ty ad q) sz)) (va_Qv (fun (u : va_W) => w10 ty ad o2 = u) (kz_B D ty (va_A (w10 ty ad q) sz)) (va_A (w10 ty ad q) sz)) 0 0 (va_A (w10 ty ad q) sz)) (q : dS) (p1 : Int32) (o2 : dS) (h : zX10_readTest_o kT q p1 = some o2) : Met l yX10_readTest wsX10_readTest ({ frames := 44 + 3 * nT + 3, cells := 0, slots := 0, locals := 1100 + 65 * nT + 65 } : Room) (va_Pc [.ref (ad 0), .int p1] (kz_pre D ty eo (w10 ty ad q) sz)) (va_Qv (fun (u : va_W) => w10 ty ad o2 = u) (kz_B D ty (va_A (w10 ty ad q) sz)) (va_A (w10 ty ad q) sz)) 0 0 (va_A (w10 ty ad q) sz) := by
  refine Met.ofW (cc := cX10_readTest) (maxL := 2) (ret := none) (by decide) rfl ?_
  intro p e s m args below meth c s₁ B hml hv
  obtain ⟨rfl, hsz, hP, hK, hD0, hN, hE⟩ := hv
  have hx := B.exec
  have hb := B.bytes
  have hr := B.returns
  have hts := atoms_spec (ws := wsX10_readTest) B.pre
  have hown : s.vm.findClass RX10 = some m.cls := findClass_of_methodNamed B.named
  have hlocks := B.notSynchronized
  subst hsz
  have hD := hD0.self (sz := s.heap.size)
  generalize hAe : va_A (w10 ty ad q) s.heap.size = A at hD hE ⊢
  have hA : ∀ q : Nat, s.heap.size ≤ q → A q := fun q h => by rw [← hAe]; exact Or.inr h
  clear hAe
  have hS : va_S A s.heap s.heap [] := va_S.rf
  have hl := lv_entry ([.ref (ad 0), .int p1]) (n := 2) (Nat.le_of_ble_eq_true rfl)
  rw [lg_entry_eq]
  generalize (lg_sl ([.ref (ad 0), .int p1]) ++ List.replicate (2 - (lg_sl ([.ref (ad 0), .int p1])).length) Slot.unset).toArray = ls at hl ⊢
  have hl : lv_has ls 2 [(0, .ref (ad 0)), (1, .int p1)] := hl
  have C : dc_C p s m _ meth c cX10_readTest none 2 RX10 wsX10_readTest D ty eo A := ⟨hx, hb, hr, hts, hown, hlocks, hml, hK, hN, hE, hA⟩
  unfold zX10_readTest_o at h
  refine lv_aload_n hx hb dX10_readTest_0 rfl (lv_at hl 0 rfl) ?_
  refine lv_iload_n hx hb dX10_readTest_1 rfl (lv_at hl 1 rfl) ?_
  obtain ⟨q3, h2, h⟩ := dV_some h
  refine dw_kv (va_runV (As := [.int p1]) (rest := []) ⟨hx, hb, hml, hown, hts⟩ (qX10_readBoth l D ty eo _ ad kT nT hkT q p1 q3 h2) (cwV 1 hts gX10_readTest_X10_readBoth rfl rfl rfl hd_X10_readBoth_v ⟨by dsimp only [headSpec]; omega, by dsimp only [headSpec]; omega⟩) (pv10_10_0 hK hN hE hP hD hS hA) rfl rfl hl.1 rfl (lv_room (Nat.le_of_ble_eq_true rfl)) dX10_readTest_2 ⟨Nat.le_of_ble_eq_true rfl, Nat.le_of_ble_eq_true rfl⟩) hD hS hA (fun u9 H locs hw hp hd hs => ?_)
  clear hP hD hS
  obtain rfl := hw
  have hP := hp; have hD := hd; have hS := hs; clear hp hd hs
  exact WX10_readTest_5 hkT C  _ _ _ _ _ _ h hP hD hS (lv_sub hl [0, 1] rfl)
set_option maxHeartbeats 4000000 in
set_option maxRecDepth 100000 in
theorem qX10_readTest (l : Launch) (D : va_G) (ty : Nat → ClassId) (eo : Nat → Nat) (sz : Nat) (ad : Nat → Nat) (n : Nat) : ∀ (q : dS) (p1 : Int32) (o2 : dS), zX10_readTest n q p1 = some o2 → Met l yX10_readTest wsX10_readTest ({ frames := 44 + 3 * n, cells := 0, slots := 0, locals := 1100 + 65 * n } : Room) (va_Pc [.ref (ad 0), .int p1] (kz_pre D ty eo (w10 ty ad q) sz)) (va_Qv (fun (u : va_W) => w10 ty ad o2 = u) (kz_B D ty (va_A (w10 ty ad q) sz)) (va_A (w10 ty ad q) sz)) 0 0 (va_A (w10 ty ad q) sz) := by
  induction n generalizing sz with
  | zero => intro q p1 o2 h; cases h
  | succ n ih =>
    intro q p1 o2 h
    have h2 := qX10_readTest_o l D ty eo sz ad (zX10_readTest n) n (fun sz q p1 o2 h => ih sz q p1 o2 h) q p1 o2 h
    have e : ({ frames := 44 + 3 * n + 3, cells := 0, slots := 0, locals := 1100 + 65 * n + 65 } : Room) = ({ frames := 44 + 3 * (n + 1), cells := 0, slots := 0, locals := 1100 + 65 * (n + 1) } : Room) := by congr 1 <;> omega
    rw [← e]
    exact h2

set_option maxHeartbeats 4000000 in
set_option maxRecDepth 100000 in
theorem WX10_readClause_42 {p : Program} {l : Launch} {e : Env} {s : State} {m : MethodId} {args : Array Value} {below : List Frame} {meth : Method} {c : Code} {D : va_G} {ty : Nat → ClassId} {eo : Nat → Nat} {A : Nat → Prop} {ad : Nat → Nat} {o2 : dS} (C : dc_C p s m args meth c cX10_readClause none 1 RX10 wsX10_readClause D ty eo A)   (q : dS)  (H : Heap) (locs : List Loc) (ls : Array Slot) (h : zX10_readClause_42  q = some o2) (hP : va_P D vwCl (w10 ty ad q) H) (hD : va_D A (w10 ty ad q)) (hS : va_S A s.heap H locs) (hl : lv_has ls 1 []) : W p l e ({ frames := 75, cells := 0, slots := 0, locals := 1771 } : Room) s m args below meth c H locs 0 0 (MQ below (va_Qv (fun (u : va_W) => w10 ty ad o2 = u) (kz_B D ty A) A) args s 0 0 A) (F0 m 42 ls []) := by
  have C0 := C
  obtain ⟨hx, hb, hr, hts, hown, hlocks, hml, hK, hN, hE, hA⟩ := C
  unfold zX10_readClause_42 at h
  cases h
  exact kz_vret hx hb hr hlocks hP hK hD hS dX10_readClause_42 rfl
set_option maxHeartbeats 4000000 in
set_option maxRecDepth 100000 in
theorem WX10_readClause_29 {p : Program} {l : Launch} {e : Env} {s : State} {m : MethodId} {args : Array Value} {below : List Frame} {meth : Method} {c : Code} {D : va_G} {ty : Nat → ClassId} {eo : Nat → Nat} {A : Nat → Prop} {ad : Nat → Nat} {o2 : dS} (C : dc_C p s m args meth c cX10_readClause none 1 RX10 wsX10_readClause D ty eo A)   (q : dS)  (H : Heap) (locs : List Loc) (ls : Array Slot) (h : zX10_readClause_29  q = some o2) (hP : va_P D vwCl (w10 ty ad q) H) (hD : va_D A (w10 ty ad q)) (hS : va_S A s.heap H locs) (hl : lv_has ls 1 [(0, .ref (ad 0))]) : W p l e ({ frames := 75, cells := 0, slots := 0, locals := 1771 } : Room) s m args below meth c H locs 0 0 (MQ below (va_Qv (fun (u : va_W) => w10 ty ad o2 = u) (kz_B D ty A) A) args s 0 0 A) (F0 m 29 ls []) := by
  have C0 := C
  obtain ⟨hx, hb, hr, hts, hown, hlocks, hml, hK, hN, hE, hA⟩ := C
  unfold zX10_readClause_29 at h
  refine lv_aload_n hx hb dX10_readClause_29 rfl (lv_at hl 0 rfl) ?_
  refine lv_iconst (v := 4) hx hb dX10_readClause_30 (by decide) ?_
  obtain ⟨r1, q3, h2, h⟩ := dB_some h
  refine dw_ki (va_runV (As := [.int 4]) (rest := []) ⟨hx, hb, hml, hown, hts⟩ (qX10_takes0 l D ty eo _ ad q 4 r1 q3 h2) (cwV 1 hts gX10_readClause_X10_takes0 rfl rfl rfl hd_X10_takes0_v ⟨Nat.le_of_ble_eq_true rfl, Nat.le_of_ble_eq_true rfl⟩) (pv10_10_0 hK hN hE hP hD hS hA) rfl rfl hl.1 rfl (lv_room (Nat.le_of_ble_eq_true rfl)) dX10_readClause_31 ⟨Nat.le_of_ble_eq_true rfl, Nat.le_of_ble_eq_true rfl⟩) hD hS hA (fun r9 u9 H locs hw hp hd hs => ?_)
  clear hP hD hS
  obtain ⟨rfl, rfl⟩ := hw
  have hP := hp; have hD := hd; have hS := hs; clear hp hd hs
  refine lv_if_eq (tgt := 42) hx hb dX10_readClause_34 (by decide) (fun c9 => ?_) (fun c9 => ?_)
  · rw [if_pos c9] at h
    exact WX10_readClause_42 C0  _ _ _ _ h hP hD hS (lv_sub hl [] rfl)
  · rw [if_neg c9] at h
    refine lv_aload_n hx hb dX10_readClause_37 rfl (lv_at hl 0 rfl) ?_
    refine lv_iconst (v := 0) hx hb dX10_readClause_38 (by decide) ?_
    obtain ⟨q6, h5, h⟩ := dV_some h
    refine dw_kv (va_runV (As := [.int 0]) (rest := []) ⟨hx, hb, hml, hown, hts⟩ (qX10_readTest l D ty eo _ ad 10 q3 0 q6 h5) (cwV 1 hts gX10_readClause_X10_readTest rfl rfl rfl hd_X10_readTest_v ⟨Nat.le_of_ble_eq_true rfl, Nat.le_of_ble_eq_true rfl⟩) (pv10_10_0 hK hN hE hP hD hS hA) rfl rfl hl.1 rfl (lv_room (Nat.le_of_ble_eq_true rfl)) dX10_readClause_39 ⟨Nat.le_of_ble_eq_true rfl, Nat.le_of_ble_eq_true rfl⟩) hD hS hA (fun u9 H locs hw hp hd hs => ?_)
    clear hP hD hS
    obtain rfl := hw
    have hP := hp; have hD := hd; have hS := hs; clear hp hd hs
    exact WX10_readClause_42 C0  _ _ _ _ h hP hD hS (lv_sub hl [] rfl)
set_option maxHeartbeats 4000000 in
set_option maxRecDepth 100000 in
theorem qX10_readClause (l : Launch) (D : va_G) (ty : Nat → ClassId) (eo : Nat → Nat) (sz : Nat) (ad : Nat → Nat) (q : dS)  (o2 : dS) (h : zX10_readClause q = some o2) : Met l yX10_readClause wsX10_readClause ({ frames := 75, cells := 0, slots := 0, locals := 1771 } : Room) (va_Pc [.ref (ad 0)] (kz_pre D ty eo (w10 ty ad q) sz)) (va_Qv (fun (u : va_W) => w10 ty ad o2 = u) (kz_B D ty (va_A (w10 ty ad q) sz)) (va_A (w10 ty ad q) sz)) 0 0 (va_A (w10 ty ad q) sz) := by
  refine Met.ofW (cc := cX10_readClause) (maxL := 1) (ret := none) (by decide) rfl ?_
  intro p e s m args below meth c s₁ B hml hv
  obtain ⟨rfl, hsz, hP, hK, hD0, hN, hE⟩ := hv
  have hx := B.exec
  have hb := B.bytes
  have hr := B.returns
  have hts := atoms_spec (ws := wsX10_readClause) B.pre
  have hown : s.vm.findClass RX10 = some m.cls := findClass_of_methodNamed B.named
  have hlocks := B.notSynchronized
  subst hsz
  have hD := hD0.self (sz := s.heap.size)
  generalize hAe : va_A (w10 ty ad q) s.heap.size = A at hD hE ⊢
  have hA : ∀ q : Nat, s.heap.size ≤ q → A q := fun q h => by rw [← hAe]; exact Or.inr h
  clear hAe
  have hS : va_S A s.heap s.heap [] := va_S.rf
  have hl := lv_entry ([.ref (ad 0)]) (n := 1) (Nat.le_of_ble_eq_true rfl)
  rw [lg_entry_eq]
  generalize (lg_sl ([.ref (ad 0)]) ++ List.replicate (1 - (lg_sl ([.ref (ad 0)])).length) Slot.unset).toArray = ls at hl ⊢
  have hl : lv_has ls 1 [(0, .ref (ad 0))] := hl
  have C : dc_C p s m _ meth c cX10_readClause none 1 RX10 wsX10_readClause D ty eo A := ⟨hx, hb, hr, hts, hown, hlocks, hml, hK, hN, hE, hA⟩
  unfold zX10_readClause at h
  refine lv_aload_n hx hb dX10_readClause_0 rfl (lv_at hl 0 rfl) ?_
  refine lv_iconst (v := 1) hx hb dX10_readClause_1 (by decide) ?_
  obtain ⟨r1, q3, h2, h⟩ := dB_some h
  refine dw_ki (va_runV (As := [.int 1]) (rest := []) ⟨hx, hb, hml, hown, hts⟩ (qX10_takes0 l D ty eo _ ad q 1 r1 q3 h2) (cwV 1 hts gX10_readClause_X10_takes0 rfl rfl rfl hd_X10_takes0_v ⟨Nat.le_of_ble_eq_true rfl, Nat.le_of_ble_eq_true rfl⟩) (pv10_10_0 hK hN hE hP hD hS hA) rfl rfl hl.1 rfl (lv_room (Nat.le_of_ble_eq_true rfl)) dX10_readClause_2 ⟨Nat.le_of_ble_eq_true rfl, Nat.le_of_ble_eq_true rfl⟩) hD hS hA (fun r9 u9 H locs hw hp hd hs => ?_)
  clear hP hD hS
  obtain ⟨rfl, rfl⟩ := hw
  have hP := hp; have hD := hd; have hS := hs; clear hp hd hs
  refine lv_if_eq (tgt := 16) hx hb dX10_readClause_5 (by decide) (fun c9 => ?_) (fun c9 => ?_)
  · rw [if_pos c9] at h
    refine lv_aload_n hx hb dX10_readClause_16 rfl (lv_at hl 0 rfl) ?_
    refine lv_iconst (v := 2) hx hb dX10_readClause_17 (by decide) ?_
    obtain ⟨r4, q6, h5, h⟩ := dB_some h
    refine dw_ki (va_runV (As := [.int 2]) (rest := []) ⟨hx, hb, hml, hown, hts⟩ (qX10_takes0 l D ty eo _ ad q3 2 r4 q6 h5) (cwV 1 hts gX10_readClause_X10_takes0 rfl rfl rfl hd_X10_takes0_v ⟨Nat.le_of_ble_eq_true rfl, Nat.le_of_ble_eq_true rfl⟩) (pv10_10_0 hK hN hE hP hD hS hA) rfl rfl hl.1 rfl (lv_room (Nat.le_of_ble_eq_true rfl)) dX10_readClause_18 ⟨Nat.le_of_ble_eq_true rfl, Nat.le_of_ble_eq_true rfl⟩) hD hS hA (fun r9 u9 H locs hw hp hd hs => ?_)
    clear hP hD hS
    obtain ⟨rfl, rfl⟩ := hw
    have hP := hp; have hD := hd; have hS := hs; clear hp hd hs
    refine lv_if_ne (tgt := 29) hx hb dX10_readClause_21 (by decide) (fun c9 => ?_) (fun c9 => ?_)
    · rw [if_neg c9] at h
      exact WX10_readClause_29 C  _ _ _ _ h hP hD hS (lv_sub hl [0] rfl)
    · rw [if_pos c9] at h
      refine lv_aload_n hx hb dX10_readClause_24 rfl (lv_at hl 0 rfl) ?_
      refine lv_iconst (v := 3) hx hb dX10_readClause_25 (by decide) ?_
      obtain ⟨q9, h8, h⟩ := dV_some h
      refine dw_kv (va_runV (As := [.int 3]) (rest := []) ⟨hx, hb, hml, hown, hts⟩ (qX10_must l D ty eo _ ad q6 3 q9 h8) (cwV 1 hts gX10_readClause_X10_must rfl rfl rfl hd_X10_must_v ⟨Nat.le_of_ble_eq_true rfl, Nat.le_of_ble_eq_true rfl⟩) (pv10_10_0 hK hN hE hP hD hS hA) rfl rfl hl.1 rfl (lv_room (Nat.le_of_ble_eq_true rfl)) dX10_readClause_26 ⟨Nat.le_of_ble_eq_true rfl, Nat.le_of_ble_eq_true rfl⟩) hD hS hA (fun u9 H locs hw hp hd hs => ?_)
      clear hP hD hS
      obtain rfl := hw
      have hP := hp; have hD := hd; have hS := hs; clear hp hd hs
      exact WX10_readClause_29 C  _ _ _ _ h hP hD hS (lv_sub hl [0] rfl)
  · rw [if_neg c9] at h
    refine lv_aload_n hx hb dX10_readClause_8 rfl (lv_at hl 0 rfl) ?_
    refine lv_iconst (v := 0) hx hb dX10_readClause_9 (by decide) ?_
    obtain ⟨q12, h11, h⟩ := dV_some h
    refine dw_kv (va_runV (As := [.int 0]) (rest := []) ⟨hx, hb, hml, hown, hts⟩ (qX10_readSum l D ty eo _ ad 10 q3 0 q12 h11) (cwV 1 hts gX10_readClause_X10_readSum rfl rfl rfl hd_X10_readSum_v ⟨Nat.le_of_ble_eq_true rfl, Nat.le_of_ble_eq_true rfl⟩) (pv10_10_0 hK hN hE hP hD hS hA) rfl rfl hl.1 rfl (lv_room (Nat.le_of_ble_eq_true rfl)) dX10_readClause_10 ⟨Nat.le_of_ble_eq_true rfl, Nat.le_of_ble_eq_true rfl⟩) hD hS hA (fun u9 H locs hw hp hd hs => ?_)
    clear hP hD hS
    obtain rfl := hw
    have hP := hp; have hD := hd; have hS := hs; clear hp hd hs
    refine lv_goto (tgt := 29) hx hb dX10_readClause_13 (by decide) ?_
    exact WX10_readClause_29 C  _ _ _ _ h hP hD hS (lv_sub hl [0] rfl)
end
